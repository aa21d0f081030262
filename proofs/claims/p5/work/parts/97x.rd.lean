/-! ===== the law's own instructions: a long that was laid down, two longs compared ===== -/
section LAW3
variable {sc : Nat × Nat} {out : Nat × iv_H} {d mi c0 s0 pc np x a z v : Nat} {lo lo' st : List Nat} {L : iv_H}
theorem iw_lald {n r : Nat} (hw : iv_wd mi pc = 29 + 256 * np + 16777216 * x) (hn : np < 65536) (hc : pg_c mi ≠ 0) (hr : r ≤ 4294967296) (hk : iw_is L r 3 n) (ha : a < 4294967296) (h1 : 2147483648 ≤ a) (h2 : a - 2147483648 < n) (k : iw_all sc mi d out c0 s0 np lo (iw_get L r (a - 2147483648) :: st) L) : iw_all sc mi d out c0 s0 pc lo (iv_c a :: (18446744073709551616 + r) :: st) L := by
  refine iw_op (g := fun _ => out) iw_nil hw ⟨by decide, hn⟩ ?_
  show iv_oLald (iw_ih sc (fun _ => out)) (d, mi, c0, s0) (pg_c mi) np lo (iv_c a :: (18446744073709551616 + r) :: st) L = some out
  obtain ⟨a0, a1, a2⟩ := iw_c_lt ha
  obtain ⟨c, hk⟩ := hk
  obtain ⟨i, hi⟩ : ∃ i, a - 2147483648 = i := ⟨_, rfl⟩
  have g4 : iv_gt c i = iw_get L r (a - 2147483648) := by
    unfold iw_get
    rw [hk, hi]
    rfl
  rw [hi] at h2
  unfold iv_oLald
  show (@Bool.rec (fun _ => iv_R) none _ (Nat.ble (iv_c a) 18446744073709551615)) = some out
  have e3 : Nat.sub (18446744073709551616 + r) 18446744073709551616 = r := Nat.add_sub_cancel_left _ _
  have f1 : Nat.mod (iv_c a) 4294967296 = a := a1
  have f2 : Nat.div (iv_c a) 4294967296 = a := a2
  have f3 : Nat.sub a 2147483648 = i := hi
  have f4 : Nat.ble (Nat.succ i) n = true := by rw [iv_n7]; exact h2
  rw [f1, f2, e3, f3, iw_bt (by rw [iv_n7]; exact Nat.le_of_lt_succ a0), iw_bt (by rw [iv_n7]; exact Nat.le_add_right _ _), iw_bt (by rw [iv_n7]; exact Nat.add_le_add_left hr 18446744073709551616), iw_bt (by rw [iv_n7]; exact h1), iw_bt (by rw [iv_n8]), iw_hg hk, iw_bt (show Nat.beq 3 3 = true from rfl), iw_bt f4, iv_f_eq]
  show iw_ih sc (fun _ => out) (d, mi, c0, s0) (pg_c mi) np lo (iv_gt c i :: st) L = some out
  rw [g4]
  exact iw_ih_of rfl hc k
/-- two longs: equal, or not -/
theorem iw_lcmp (hw : iv_wd mi pc = 28 + 256 * np + 16777216 * x) (hn : np < 65536) (hc : pg_c mi ≠ 0) (ha : a < 4294967296) (hz : z < 4294967296) (k : iw_all sc mi d out c0 s0 np lo (iv_c (if a = z then 2147483648 else if a ≤ z then 2147483647 else 2147483649) :: st) L) : iw_all sc mi d out c0 s0 pc lo ((73786976294838206464 + iv_c z) :: (73786976294838206464 + iv_c a) :: st) L := by
  refine iw_op (g := fun _ => out) iw_nil hw ⟨by decide, hn⟩ ?_
  show iv_oLcmp (iw_ih sc (fun _ => out)) (d, mi, c0, s0) (pg_c mi) np lo ((73786976294838206464 + iv_c z) :: (73786976294838206464 + iv_c a) :: st) L = some out
  obtain ⟨a0, a1, a2⟩ := iw_c_lt ha
  obtain ⟨z0, z1, z2⟩ := iw_c_lt hz
  have ea : iv_c a = a + 4294967296 * a := rfl
  have ez : iv_c z = z + 4294967296 * z := rfl
  have p1 : Nat.mod (73786976294838206464 + iv_c a) 4294967296 = a := by show (73786976294838206464 + iv_c a) % 4294967296 = a; rw [ea]; omega
  have p2 : Nat.mod (73786976294838206464 + iv_c z) 4294967296 = z := by show (73786976294838206464 + iv_c z) % 4294967296 = z; rw [ez]; omega
  have p3 : Nat.mod (Nat.div (73786976294838206464 + iv_c a) 4294967296) 4294967296 = a := by show (73786976294838206464 + iv_c a) / 4294967296 % 4294967296 = a; rw [ea, show (73786976294838206464 + (a + 4294967296 * a)) / 4294967296 = 17179869184 + a by omega]; omega
  have p4 : Nat.mod (Nat.div (73786976294838206464 + iv_c z) 4294967296) 4294967296 = z := by show (73786976294838206464 + iv_c z) / 4294967296 % 4294967296 = z; rw [ez, show (73786976294838206464 + (z + 4294967296 * z)) / 4294967296 = 17179869184 + z by omega]; omega
  have p5 : Nat.div (73786976294838206464 + iv_c a) 18446744073709551616 = 4 := by show (73786976294838206464 + iv_c a) / 18446744073709551616 = 4; rw [ea]; omega
  have p6 : Nat.div (73786976294838206464 + iv_c z) 18446744073709551616 = 4 := by show (73786976294838206464 + iv_c z) / 18446744073709551616 = 4; rw [ez]; omega
  unfold iv_oLcmp
  show (@Bool.rec (fun _ => iv_R) none _ (Nat.beq (Nat.div (73786976294838206464 + iv_c a) 18446744073709551616) 4)) = some out
  rw [p1, p2, p3, p4, p5, p6, iw_bt (show Nat.beq 4 4 = true from rfl), iw_bt (by rw [iv_n8]), iw_bt (show Nat.beq 4 4 = true from rfl), iw_bt (by rw [iv_n8]), iv_f_eq]
  have key : (@Bool.rec (fun _ => Nat) (@Bool.rec (fun _ => Nat) 2147483649 2147483647 (Nat.ble a z)) 2147483648 (Nat.beq a z)) = (if a = z then 2147483648 else if a ≤ z then 2147483647 else 2147483649) := by
    by_cases e : a = z
    · rw [if_pos e, show Nat.beq a z = true by rw [iv_n8]; exact e]
    · rw [if_neg e, show Nat.beq a z = false from Bool.eq_false_iff.mpr (fun y => e (Nat.eq_of_beq_eq_true y))]
      by_cases f : a ≤ z
      · rw [if_pos f, show Nat.ble a z = true by rw [iv_n7]; exact f]
      · rw [if_neg f, show Nat.ble a z = false from Bool.eq_false_iff.mpr (fun y => f (Nat.le_of_ble_eq_true y))]
  rw [key]
  exact iw_ih_of rfl hc k
end LAW3
section LAW4
variable {sc : Nat × Nat} {mi d c0 s0 pc np x a z v : Nat} {lo lo' st : List Nat} {h : xh} {Q : Nat → xh → Prop}
theorem x_lald {r n i q : Nat} (w : wd mi pc 29 np x) (hr : r < x_nc) (hkd : x_kd r = 3) (hln : x_ln r = n) (ha : a = 2147483648 + i) (hi : i < n) (ha2 : a < 4294967296) (hq : h r i = q) (k : q < 4294967296 → X sc mi d Q c0 s0 np lo ((73786976294838206464 + iv_c q) :: st) h) : X sc mi d Q c0 s0 pc lo (iv_c a :: x_r r :: st) h := fun L hL => by
  obtain ⟨i1, i2⟩ := hL r hr
  rw [hkd, hln] at i1
  obtain ⟨p1, p2⟩ := i2 i (by rw [hln]; exact hi)
  have ety : x_ty r i = 2 := by
    unfold x_ty
    rw [hkd]
    rfl
  rw [ety, hq] at p1
  rw [hq] at p2
  obtain ⟨v, b, c, e, f, g⟩ := k p2 L hL
  have e1 : a - 2147483648 = i := by rw [ha]; exact Nat.add_sub_cancel_left _ _
  refine ⟨v, b, c, e, f, iw_lald w.1 w.2 (wd_ne w (by decide)) (x_nc_le hr) i1 ha2 (by omega) (by rw [e1]; exact hi) ?_⟩
  rw [e1, p1]
  exact g
theorem x_lcmp (w : wd mi pc 28 np x) (ha : a < 4294967296) (hz : z < 4294967296) (k1 : a = z → X sc mi d Q c0 s0 np lo (iv_c 2147483648 :: st) h) (k2 : a ≠ z → ∀ v, v < 4294967296 → v ≠ 2147483648 → X sc mi d Q c0 s0 np lo (iv_c v :: st) h) : X sc mi d Q c0 s0 pc lo ((73786976294838206464 + iv_c z) :: (73786976294838206464 + iv_c a) :: st) h := fun L hL => by
  by_cases e : a = z
  · obtain ⟨v, b, c, e9, f, g⟩ := k1 e L hL
    refine ⟨v, b, c, e9, f, iw_lcmp w.1 w.2 (wd_ne w (by decide)) ha hz ?_⟩
    rw [if_pos e]
    exact g
  · obtain ⟨v, b, c, e9, f, g⟩ := k2 e (if a ≤ z then 2147483647 else 2147483649) (by split <;> decide) (by split <;> decide) L hL
    refine ⟨v, b, c, e9, f, iw_lcmp w.1 w.2 (wd_ne w (by decide)) ha hz ?_⟩
    rw [if_neg e]
    exact g
end LAW4
/-- the law's invariant, with the tapes alike -/
def INV9 (h : xh) : Prop := INV h ∧ Ty h
theorem Ty.same {h h1 h2 : xh} {m m2 : Nat} (t : Ty h) (x : ∀ u, h1 2 u = h 2 u) (f : Fr m h h1) (gm : Nat.testBit m 29 = false) (y : ∀ u, h2 79 u = h1 79 u) (f2 : Fr m2 h1 h2) (gb : Nat.testBit m2 6 = false) : Ty h2 := fun u hu => by
  rw [f2 2 u (by rw [show x_gr 2 u = 6 from rfl]; exact gb), x u, y u, f 79 u (by rw [show x_gr 79 u = 29 from rfl]; exact gm)]
  exact t u hu
/-- custom's answers alike: k and the long o, b and what is thrown (t) -/
theorem cu_alike {B : Nat → Nat} {n k o b t : Nat} (x : (k = 2147483648 ∧ Cu B n (some o)) ∨ (k = 2147483649 ∧ Cu B n none)) (y : Cq B n b t) : k = t ∧ (k = 2147483648 → o = b) := by
  rcases x with ⟨x1, x2⟩ | ⟨x1, x2⟩ <;> rcases y with ⟨y1, y2⟩ | ⟨y1, y3, y2⟩
  · have e := x2.same y2
    injection e with e
    exact ⟨by omega, fun _ => e⟩
  · have e := x2.same y2
    cases e
  · have e := x2.same y2
    cases e
  · exact ⟨by omega, fun z => by omega⟩
/-! ===== the towns of both are alike ===== -/
/-- the numbers of the town and of the world, of what is kept and of the image -/
def St (h : xh) : Prop := h 0 8 ≠ h 0 9 ∧ (∀ i, i < 6 → tv h i = h 76 i) ∧ tv h 1 ≤ 2147483658 ∧ (h 75 4 = 2147483649 → (∀ i, i < 6 → svq h 3 i = h 77 i) ∧ svq h 3 1 ≤ 2147483658)
section FRS
variable {m : Nat} {h h' : xh}
theorem tv_fr (f : Fr m h h') (hJ : J h) (g : Nat.testBit m 48 = false) (g2 : Nat.testBit m 1 = false) : h' 0 8 = h 0 8 ∧ h' 0 9 = h 0 9 ∧ ∀ i, tv h' i = tv h i := by
  have e : h' 0 8 = h 0 8 := f 0 8 (by rw [show x_gr 0 8 = 1 by decide +kernel]; exact g2)
  have e2 : h' 0 9 = h 0 9 := f 0 9 (by rw [show x_gr 0 9 = 1 by decide +kernel]; exact g2)
  refine ⟨e, e2, fun i => ?_⟩
  unfold tv
  rw [e]
  exact svq_gr f g hJ.2.1 i
theorem kv_fr (f : Fr m h h') (g : Nat.testBit m 52 = false) : ∀ i, svq h' 3 i = svq h 3 i := by
  have G : ∀ k i, x_gr k i = 52 → h' k i = h k i := fun k i e => f k i (by rw [e]; exact g)
  exact svq_of (G _ _ (by decide +kernel)) (G _ _ (by decide +kernel)) (G _ _ (by decide +kernel)) (G _ _ (by decide +kernel)) (G _ _ (by decide +kernel)) (G _ _ (by decide +kernel))
theorem ws_gr : ∀ i, i < 6 → x_gr 76 i = 49 := by decide +kernel
theorem w_fr (f : Fr m h h') (g : Nat.testBit m 49 = false) : ∀ i, i < 6 → h' 76 i = h 76 i := fun i hi => f 76 i (by rw [ws_gr i hi]; exact g)
theorem i_fr (f : Fr m h h') (g : Nat.testBit m 27 = false) : ∀ i, h' 77 i = h 77 i := fun i => f 77 i (by rw [gr_77]; exact g)
theorem g_fr (f : Fr m h h') (g : Nat.testBit m 18 = false) : h' 75 4 = h 75 4 := f 75 4 (by rw [show x_gr 75 4 = 18 by decide +kernel]; exact g)
end FRS
theorem St.fr {m : Nat} {h h' : xh} (S : St h) (f : Fr m h h') (hJ : J h) (g1 : Nat.testBit m 48 = false) (g2 : Nat.testBit m 1 = false) (g3 : Nat.testBit m 52 = false) (g4 : Nat.testBit m 49 = false) (g5 : Nat.testBit m 27 = false) (g6 : Nat.testBit m 18 = false) : St h' := by
  obtain ⟨e1, e2, e3⟩ := tv_fr f hJ g1 g2
  obtain ⟨s1, s2, s3, s4⟩ := S
  refine ⟨by rw [e1, e2]; exact s1, fun i hi => by rw [e3, w_fr f g4 i hi]; exact s2 i hi, by rw [e3]; exact s3, fun z => ?_⟩
  rw [g_fr f g6] at z
  obtain ⟨k1, k2⟩ := s4 z
  exact ⟨fun i hi => by rw [kv_fr f g3, i_fr f g5]; exact k1 i hi, by rw [kv_fr f g3]; exact k2⟩
/-- what is kept, over two calls that leave it -/
theorem St.kp {m m2 : Nat} {h h1 h2 : xh} (S : St h) (f : Fr m h h1) (g3 : Nat.testBit m 52 = false) (g5 : Nat.testBit m 27 = false) (g6 : Nat.testBit m 18 = false) (f2 : Fr m2 h1 h2) (k3 : Nat.testBit m2 52 = false) (k5 : Nat.testBit m2 27 = false) (k6 : Nat.testBit m2 18 = false) : h2 75 4 = 2147483649 → (∀ i, i < 6 → svq h2 3 i = h2 77 i) ∧ svq h2 3 1 ≤ 2147483658 := fun z => by
  rw [g_fr f2 k6, g_fr f g6] at z
  obtain ⟨k1, k2⟩ := S.2.2.2 z
  exact ⟨fun i hi => by rw [kv_fr f2 k3, kv_fr f g3, i_fr f2 k5, i_fr f g5]; exact k1 i hi, by rw [kv_fr f2 k3, kv_fr f g3]; exact k2⟩
theorem St.tell {B : Nat → Nat} {n k r m m2 : Nat} {h h1 h2 : xh} (S : St h) (c : Tc B n h h1 k) (t : Tf B n h1 h2 r) (hJ1 : J h1) (f : Fr m h h1) (g3 : Nat.testBit m 52 = false) (g4 : Nat.testBit m 49 = false) (g5 : Nat.testBit m 27 = false) (g6 : Nat.testBit m 18 = false) (f2 : Fr m2 h1 h2) (k1 : Nat.testBit m2 48 = false) (k2 : Nat.testBit m2 1 = false) (k3 : Nat.testBit m2 52 = false) (k5 : Nat.testBit m2 27 = false) (k6 : Nat.testBit m2 18 = false) (ho : h2 97 0 = h1 97 0) : (k = h2 75 0 ∧ (k = 2147483648 → h2 97 0 = r)) ∧ St h2 := by
  obtain ⟨e8, e9, ev⟩ := tv_fr f2 hJ1 k1 k2
  have kp := St.kp S f g3 g5 g6 f2 k3 k5 k6
  obtain ⟨s1, s2, s3, -⟩ := S
  have w : ∀ i, i < 6 → h1 76 i = tv h i := fun i hi => (w_fr f g4 i hi).trans (s2 i hi).symm
  unfold Tf at t
  rw [w 0 (by decide), w 1 (by decide), w 2 (by decide), w 3 (by decide), w 4 (by decide), w 5 (by decide)] at t
  rcases c with ⟨c0, c1, c2, c3, c4, c5, c6, c7⟩ | ⟨c0, c1, c2, c3, c4⟩ | ⟨c0, ⟨c5, x, c1⟩, c2, c3, c4⟩ <;> rcases t with ⟨t0, t1, t2, t3, t4, t5⟩ | ⟨t0, t1, t2⟩ | ⟨t0, ⟨y, t1⟩, t3, t2⟩
  · have e := c1.same t1
    injection e with e
    injection e with e2 e
    injection e with e3 e
    injection e with e4 e5
    refine ⟨⟨by omega, fun _ => by omega⟩, by rw [e8, e9, c6, c7]; exact fun z => s1 z.symm, fun i hi => ?_, by rw [ev]; omega, kp⟩
    rw [ev]
    rcases (show i = 0 ∨ i = 1 ∨ i = 2 ∨ i = 3 ∨ i = 4 ∨ i = 5 by omega) with rfl | rfl | rfl | rfl | rfl | rfl
    · omega
    · omega
    · omega
    · omega
    · omega
    · omega
  · have e := c1.same t1
    cases e
  · omega
  · have e := c1.same t1
    cases e
  · refine ⟨⟨by omega, fun z => by omega⟩, by rw [e8, e9, c3, c4]; exact s1, fun i hi => ?_, by rw [ev, c2]; exact s3, kp⟩
    rw [ev, c2, t2 i hi]
    exact (w i hi).symm
  · have e := c1.same t1
    cases e
  · omega
  · have e := c1.same t1
    cases e
  · refine ⟨⟨by omega, fun z => by omega⟩, by rw [e8, e9, c3, c4]; exact s1, fun i hi => ?_, by rw [ev, c2]; exact s3, kp⟩
    rw [ev, c2, t2 i hi]
    exact (w i hi).symm
theorem St.custom {m m2 : Nat} {h h1 h2 : xh} (S : St h) (ct : ∀ i, tv h1 i = tv h i) (cr : (h1 0 8 = h 0 9 ∧ h1 0 9 = h 0 8) ∨ (h1 0 8 = h 0 8 ∧ h1 0 9 = h 0 9)) (hJ1 : J h1) (f : Fr m h h1) (g3 : Nat.testBit m 52 = false) (g4 : Nat.testBit m 49 = false) (g5 : Nat.testBit m 27 = false) (g6 : Nat.testBit m 18 = false) (f2 : Fr m2 h1 h2) (k1 : Nat.testBit m2 48 = false) (k2 : Nat.testBit m2 1 = false) (k3 : Nat.testBit m2 52 = false) (k4 : Nat.testBit m2 49 = false) (k5 : Nat.testBit m2 27 = false) (k6 : Nat.testBit m2 18 = false) : St h2 := by
  obtain ⟨e8, e9, ev⟩ := tv_fr f2 hJ1 k1 k2
  have kp := St.kp S f g3 g5 g6 f2 k3 k5 k6
  obtain ⟨s1, s2, s3, -⟩ := S
  refine ⟨?_, fun i hi => by rw [ev, ct, w_fr f2 k4 i hi, w_fr f g4 i hi]; exact s2 i hi, by rw [ev, ct]; exact s3, kp⟩
  rw [e8, e9]
  rcases cr with ⟨c1, c2⟩ | ⟨c1, c2⟩
  · rw [c1, c2]
    exact fun z => s1 z.symm
  · rw [c1, c2]
    exact s1
theorem St.people {a k m m2 : Nat} {h h1 h2 : xh} (S : St h) (c : Pc h h1 a k) (t : Pf h1 h2 a) (hJ1 : J h1) (f : Fr m h h1) (g3 : Nat.testBit m 52 = false) (g4 : Nat.testBit m 49 = false) (g5 : Nat.testBit m 27 = false) (g6 : Nat.testBit m 18 = false) (f2 : Fr m2 h1 h2) (k1 : Nat.testBit m2 48 = false) (k2 : Nat.testBit m2 1 = false) (k3 : Nat.testBit m2 52 = false) (k5 : Nat.testBit m2 27 = false) (k6 : Nat.testBit m2 18 = false) : k = h2 75 0 ∧ St h2 := by
  obtain ⟨e8, e9, ev⟩ := tv_fr f2 hJ1 k1 k2
  have kp := St.kp S f g3 g5 g6 f2 k3 k5 k6
  obtain ⟨s1, s2, s3, -⟩ := S
  have w : ∀ i, i < 6 → h1 76 i = tv h i := fun i hi => (w_fr f g4 i hi).trans (s2 i hi).symm
  have w0 := w 0 (by decide)
  have w1 := w 1 (by decide)
  have w2 := w 2 (by decide)
  have w3 := w 3 (by decide)
  have w4 := w 4 (by decide)
  have w5 := w 5 (by decide)
  obtain ⟨t1, t2, t3, u1, u2, u3, u4, u5⟩ := t
  have fin : ∀ x : Nat, h2 76 0 = x → tv h1 0 = x → tv h1 1 = tv h 1 → tv h1 2 = tv h 2 → tv h1 3 = tv h 3 → tv h1 4 = tv h 4 → tv h1 5 = tv h 5 → ∀ i, i < 6 → tv h2 i = h2 76 i := fun x y0 y1 y2 y3 y4 y5 y6 i hi => by
    rw [ev]
    rcases (show i = 0 ∨ i = 1 ∨ i = 2 ∨ i = 3 ∨ i = 4 ∨ i = 5 by omega) with rfl | rfl | rfl | rfl | rfl | rfl <;> omega
  rcases c with ⟨c0, c1, c2, c3, c4, c5, c6, c7, c8, c9, ca, cb⟩ | ⟨c0, c1, c2⟩ | ⟨c0, ⟨c1, c2, c3⟩, c4⟩
  · obtain ⟨x, y⟩ := t3 ⟨c7, c8⟩ (by omega)
    exact ⟨by omega, by rw [e8, e9, ca, cb]; exact s1, fin a y c1 c2 c3 c4 c5 c6, by rw [ev]; omega, kp⟩
  · obtain ⟨x, y⟩ := t1 (by omega)
    subst c2
    exact ⟨by omega, by rw [e8, e9]; exact s1, fin (tv h1 0) (by omega) rfl rfl rfl rfl rfl rfl, by rw [ev]; exact s3, kp⟩
  · obtain ⟨x, y⟩ := t2 ⟨c1, c2⟩ (by omega)
    subst c4
    exact ⟨by omega, by rw [e8, e9]; exact s1, fin (tv h1 0) (by omega) rfl rfl rfl rfl rfl rfl, by rw [ev]; exact s3, kp⟩
theorem St.image {m m2 : Nat} {h h1 h2 : xh} (S : St h) (c : ∀ i, svq h1 3 i = tv h i) (ct : ∀ i, tv h1 i = tv h i) (c8 : h1 0 8 = h 0 8) (c9 : h1 0 9 = h 0 9) (t : Cpa 77 76 h1 h2 1121) (hJ1 : J h1) (f : Fr m h h1) (g4 : Nat.testBit m 49 = false) (f2 : Fr m2 h1 h2) (k1 : Nat.testBit m2 48 = false) (k2 : Nat.testBit m2 1 = false) (k3 : Nat.testBit m2 52 = false) (k4 : Nat.testBit m2 49 = false) : St h2 := by
  obtain ⟨e8, e9, ev⟩ := tv_fr f2 hJ1 k1 k2
  obtain ⟨s1, s2, s3, -⟩ := S
  refine ⟨by rw [e8, e9, c8, c9]; exact s1, fun i hi => by rw [ev, ct, w_fr f2 k4 i hi, w_fr f g4 i hi]; exact s2 i hi, by rw [ev, ct]; exact s3, fun _ => ⟨fun i hi => ?_, by rw [kv_fr f2 k3, c]; exact s3⟩⟩
  rw [kv_fr f2 k3, c, t i (by omega), w_fr f g4 i hi]
  exact s2 i hi
theorem St.back {r r2 m m2 : Nat} {h h1 h2 : xh} (S : St h) (hr : r = h 75 4) (hb : r = 2147483648 ∨ r = 2147483649) (c1 : r = 2147483649 → ∀ i, tv h1 i = svq h 3 i) (c0 : r = 2147483648 → ∀ i, tv h1 i = tv h i) (c8 : h1 0 8 = h 0 8) (c9 : h1 0 9 = h 0 9) (e : r2 = r) (t1 : r2 = 2147483649 → Cpa 76 77 h1 h2 1121) (t0 : r2 = 2147483648 → ∀ i, h2 76 i = h1 76 i) (hJ1 : J h1) (f : Fr m h h1) (g3 : Nat.testBit m 52 = false) (g4 : Nat.testBit m 49 = false) (g5 : Nat.testBit m 27 = false) (g6 : Nat.testBit m 18 = false) (f2 : Fr m2 h1 h2) (k1 : Nat.testBit m2 48 = false) (k2 : Nat.testBit m2 1 = false) (k3 : Nat.testBit m2 52 = false) (k5 : Nat.testBit m2 27 = false) (k6 : Nat.testBit m2 18 = false) : St h2 := by
  obtain ⟨e8, e9, ev⟩ := tv_fr f2 hJ1 k1 k2
  have kp := St.kp S f g3 g5 g6 f2 k3 k5 k6
  obtain ⟨s1, s2, s3, s4⟩ := S
  rcases hb with y | y
  · exact ⟨by rw [e8, e9, c8, c9]; exact s1, fun i hi => by rw [ev, c0 y, t0 (e.trans y), w_fr f g4 i hi]; exact s2 i hi, by rw [ev, c0 y]; exact s3, kp⟩
  · obtain ⟨z1, z2⟩ := s4 (hr.symm.trans y)
    exact ⟨by rw [e8, e9, c8, c9]; exact s1, fun i hi => by rw [ev, c1 y, t1 (e.trans y) i (by omega), i_fr f g5]; exact z1 i hi, by rw [ev, c1 y]; exact z2, kp⟩
/-- the law's invariant -/
def INV4 (h : xh) : Prop := INV h ∧ Ty h ∧ St h
/-! ===== the fault of both is alike ===== -/
theorem fa_fr {m : Nat} {h h' : xh} (f : Fr m h h') (g : Nat.testBit m 3 = false) : h' 0 11 = h 0 11 := f 0 11 (by rw [show x_gr 0 11 = 3 by decide +kernel]; exact g)
theorem Fo.tell {B : Nat → Nat} {n k m m2 : Nat} {h h1 h2 : xh} (S : St h) (c : Fc B n h h1 k) (t : Ff B n h1 h2) (e : k = h2 75 0) (f : Fr m h h1) (g4 : Nat.testBit m 49 = false) (f2 : Fr m2 h1 h2) (g9 : Nat.testBit m2 3 = false) : h2 0 11 = h2 75 11 := by
  obtain ⟨s1, s2, -, -⟩ := S
  have w : ∀ i, i < 6 → h1 76 i = tv h i := fun i hi => (w_fr f g4 i hi).trans (s2 i hi).symm
  unfold Ff at t
  rw [w 0 (by decide), w 2 (by decide), w 3 (by decide), w 4 (by decide), w 5 (by decide)] at t
  rw [fa_fr f2 g9]
  by_cases z : k = 2147483649
  · exact TF.same (c.1 z) (t.1 (by omega))
  · rw [c.2 z, t.2 (by omega)]
theorem Fo.cu {B : Nat → Nat} {n k m2 : Nat} {h1 h2 : xh} (c : Gc B n h1 k) (t : Gf B n h2) (e : k = h2 75 0) (f2 : Fr m2 h1 h2) (g9 : Nat.testBit m2 3 = false) : h2 0 11 = h2 75 11 := by
  rw [fa_fr f2 g9]
  by_cases z : k = 2147483649
  · exact CuF.same (c.1 z) (t.1 (by omega))
  · rw [c.2 z, t.2 (by omega)]
/-- the law's invariant -/
def INV5 (h : xh) : Prop := INV h ∧ Ty h ∧ St h ∧ h 0 11 = h 75 11
