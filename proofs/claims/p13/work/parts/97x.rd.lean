/-! ===== the law's own instructions: a long that was laid down, two longs compared ===== -/
section LAW3
variable {sc : Nat × Nat} {out : Nat × iv_H} {d mi c0 s0 pc np x a z v : Nat} {lo lo' st : List Nat} {L : iv_H}
theorem iw_lald {n r : Nat} (hw : iv_wd mi pc = 29 + 256 * np + 16777216 * x) (hn : np < 65536) (hc : pg_c mi ≠ 0) (hr : r ≤ 4294967296) (hk : iw_is L r 3 n) (ha : a < 4294967296) (h1 : 2147483648 ≤ a) (h2 : a - 2147483648 < n) (k : iw_all sc mi d out c0 s0 np lo (iw_get L r (a - 2147483648) :: st) L) : iw_all sc mi d out c0 s0 pc lo (iv_c a :: (18446744073709551616 + r) :: st) L := by
  refine iw_op (g := fun _ => out) iw_nil hw ⟨by decide, hn⟩ ?_
  show iv_oLald (iw_ih sc (fun _ => out)) (d, mi, c0, s0) (pg_c mi) np lo (iv_c a :: (18446744073709551616 + r) :: st) L = some out
  obtain ⟨a0, a1, a2⟩ := iw_c_lt ha
  obtain ⟨c, hk⟩ := hk
  obtain ⟨i, hi⟩ : ∃ i, a - 2147483648 = i := ⟨_, rfl⟩
  have g4 : iv_gt c i = iw_get L r (a - 2147483648) := by
    unfold iw_get
    rw [hk, hi]
    rfl
  rw [hi] at h2
  unfold iv_oLald
  show (@Bool.rec (fun _ => iv_R) none _ (Nat.ble (iv_c a) 18446744073709551615)) = some out
  have e3 : Nat.sub (18446744073709551616 + r) 18446744073709551616 = r := Nat.add_sub_cancel_left _ _
  have f1 : Nat.mod (iv_c a) 4294967296 = a := a1
  have f2 : Nat.div (iv_c a) 4294967296 = a := a2
  have f3 : Nat.sub a 2147483648 = i := hi
  have f4 : Nat.ble (Nat.succ i) n = true := by rw [iv_n7]; exact h2
  rw [f1, f2, e3, f3, iw_bt (by rw [iv_n7]; exact Nat.le_of_lt_succ a0), iw_bt (by rw [iv_n7]; exact Nat.le_add_right _ _), iw_bt (by rw [iv_n7]; exact Nat.add_le_add_left hr 18446744073709551616), iw_bt (by rw [iv_n7]; exact h1), iw_bt (by rw [iv_n8]), iw_hg hk, iw_bt (show Nat.beq 3 3 = true from rfl), iw_bt f4, iv_f_eq]
  show iw_ih sc (fun _ => out) (d, mi, c0, s0) (pg_c mi) np lo (iv_gt c i :: st) L = some out
  rw [g4]
  exact iw_ih_of rfl hc k
/-- two longs: equal, or not -/
theorem iw_lcmp (hw : iv_wd mi pc = 28 + 256 * np + 16777216 * x) (hn : np < 65536) (hc : pg_c mi ≠ 0) (ha : a < 4294967296) (hz : z < 4294967296) (k : iw_all sc mi d out c0 s0 np lo (iv_c (if a = z then 2147483648 else if a ≤ z then 2147483647 else 2147483649) :: st) L) : iw_all sc mi d out c0 s0 pc lo ((73786976294838206464 + iv_c z) :: (73786976294838206464 + iv_c a) :: st) L := by
  refine iw_op (g := fun _ => out) iw_nil hw ⟨by decide, hn⟩ ?_
  show iv_oLcmp (iw_ih sc (fun _ => out)) (d, mi, c0, s0) (pg_c mi) np lo ((73786976294838206464 + iv_c z) :: (73786976294838206464 + iv_c a) :: st) L = some out
  obtain ⟨a0, a1, a2⟩ := iw_c_lt ha
  obtain ⟨z0, z1, z2⟩ := iw_c_lt hz
  have ea : iv_c a = a + 4294967296 * a := rfl
  have ez : iv_c z = z + 4294967296 * z := rfl
  have p1 : Nat.mod (73786976294838206464 + iv_c a) 4294967296 = a := by show (73786976294838206464 + iv_c a) % 4294967296 = a; rw [ea]; omega
  have p2 : Nat.mod (73786976294838206464 + iv_c z) 4294967296 = z := by show (73786976294838206464 + iv_c z) % 4294967296 = z; rw [ez]; omega
  have p3 : Nat.mod (Nat.div (73786976294838206464 + iv_c a) 4294967296) 4294967296 = a := by show (73786976294838206464 + iv_c a) / 4294967296 % 4294967296 = a; rw [ea, show (73786976294838206464 + (a + 4294967296 * a)) / 4294967296 = 17179869184 + a by omega]; omega
  have p4 : Nat.mod (Nat.div (73786976294838206464 + iv_c z) 4294967296) 4294967296 = z := by show (73786976294838206464 + iv_c z) / 4294967296 % 4294967296 = z; rw [ez, show (73786976294838206464 + (z + 4294967296 * z)) / 4294967296 = 17179869184 + z by omega]; omega
  have p5 : Nat.div (73786976294838206464 + iv_c a) 18446744073709551616 = 4 := by show (73786976294838206464 + iv_c a) / 18446744073709551616 = 4; rw [ea]; omega
  have p6 : Nat.div (73786976294838206464 + iv_c z) 18446744073709551616 = 4 := by show (73786976294838206464 + iv_c z) / 18446744073709551616 = 4; rw [ez]; omega
  unfold iv_oLcmp
  show (@Bool.rec (fun _ => iv_R) none _ (Nat.beq (Nat.div (73786976294838206464 + iv_c a) 18446744073709551616) 4)) = some out
  rw [p1, p2, p3, p4, p5, p6, iw_bt (show Nat.beq 4 4 = true from rfl), iw_bt (by rw [iv_n8]), iw_bt (show Nat.beq 4 4 = true from rfl), iw_bt (by rw [iv_n8]), iv_f_eq]
  have key : (@Bool.rec (fun _ => Nat) (@Bool.rec (fun _ => Nat) 2147483649 2147483647 (Nat.ble a z)) 2147483648 (Nat.beq a z)) = (if a = z then 2147483648 else if a ≤ z then 2147483647 else 2147483649) := by
    by_cases e : a = z
    · rw [if_pos e, show Nat.beq a z = true by rw [iv_n8]; exact e]
    · rw [if_neg e, show Nat.beq a z = false from Bool.eq_false_iff.mpr (fun y => e (Nat.eq_of_beq_eq_true y))]
      by_cases f : a ≤ z
      · rw [if_pos f, show Nat.ble a z = true by rw [iv_n7]; exact f]
      · rw [if_neg f, show Nat.ble a z = false from Bool.eq_false_iff.mpr (fun y => f (Nat.le_of_ble_eq_true y))]
  rw [key]
  exact iw_ih_of rfl hc k
end LAW3
section LAW4
variable {sc : Nat × Nat} {mi d c0 s0 pc np x a z v : Nat} {lo lo' st : List Nat} {h : xh} {Q : Nat → xh → Prop}
theorem x_lald {r n i q : Nat} (w : wd mi pc 29 np x) (hr : r < x_nc) (hkd : x_kd r = 3) (hln : x_ln r = n) (ha : a = 2147483648 + i) (hi : i < n) (ha2 : a < 4294967296) (hq : h r i = q) (k : q < 4294967296 → X sc mi d Q c0 s0 np lo ((73786976294838206464 + iv_c q) :: st) h) : X sc mi d Q c0 s0 pc lo (iv_c a :: x_r r :: st) h := fun L hL => by
  obtain ⟨i1, i2⟩ := hL r hr
  rw [hkd, hln] at i1
  obtain ⟨p1, p2⟩ := i2 i (by rw [hln]; exact hi)
  have ety : x_ty r i = 2 := by
    unfold x_ty
    rw [hkd]
    rfl
  rw [ety, hq] at p1
  rw [hq] at p2
  obtain ⟨v, b, c, e, f, g⟩ := k p2 L hL
  have e1 : a - 2147483648 = i := by rw [ha]; exact Nat.add_sub_cancel_left _ _
  refine ⟨v, b, c, e, f, iw_lald w.1 w.2 (wd_ne w (by decide)) (x_nc_le hr) i1 ha2 (by omega) (by rw [e1]; exact hi) ?_⟩
  rw [e1, p1]
  exact g
theorem x_lcmp (w : wd mi pc 28 np x) (ha : a < 4294967296) (hz : z < 4294967296) (k1 : a = z → X sc mi d Q c0 s0 np lo (iv_c 2147483648 :: st) h) (k2 : a ≠ z → ∀ v, v < 4294967296 → v ≠ 2147483648 → X sc mi d Q c0 s0 np lo (iv_c v :: st) h) : X sc mi d Q c0 s0 pc lo ((73786976294838206464 + iv_c z) :: (73786976294838206464 + iv_c a) :: st) h := fun L hL => by
  by_cases e : a = z
  · obtain ⟨v, b, c, e9, f, g⟩ := k1 e L hL
    refine ⟨v, b, c, e9, f, iw_lcmp w.1 w.2 (wd_ne w (by decide)) ha hz ?_⟩
    rw [if_pos e]
    exact g
  · obtain ⟨v, b, c, e9, f, g⟩ := k2 e (if a ≤ z then 2147483647 else 2147483649) (by split <;> decide) (by split <;> decide) L hL
    refine ⟨v, b, c, e9, f, iw_lcmp w.1 w.2 (wd_ne w (by decide)) ha hz ?_⟩
    rw [if_neg e]
    exact g
end LAW4
/-- the law's invariant, with the tapes alike -/
def INV9 (h : xh) : Prop := INV h ∧ Ty h
theorem Ty.same {h h1 h2 : xh} {m m2 : Nat} (t : Ty h) (x : ∀ u, h1 2 u = h 2 u) (f : Fr m h h1) (gm : Nat.testBit m 29 = false) (y : ∀ u, h2 79 u = h1 79 u) (f2 : Fr m2 h1 h2) (gb : Nat.testBit m2 6 = false) : Ty h2 := fun u hu => by
  rw [f2 2 u (by rw [show x_gr 2 u = 6 from rfl]; exact gb), x u, y u, f 79 u (by rw [show x_gr 79 u = 29 from rfl]; exact gm)]
  exact t u hu
/-- custom's answers alike: k and the long o, b and what is thrown (t) -/
theorem cu_alike {B : Nat → Nat} {n k o b t : Nat} (x : (k = 2147483648 ∧ Cu B n (some o)) ∨ (k = 2147483649 ∧ Cu B n none)) (y : Cq B n b t) : k = t ∧ (k = 2147483648 → o = b) := by
  rcases x with ⟨x1, x2⟩ | ⟨x1, x2⟩ <;> rcases y with ⟨y1, y2⟩ | ⟨y1, y3, y2⟩
  · have e := x2.same y2
    injection e with e
    exact ⟨by omega, fun _ => e⟩
  · have e := x2.same y2
    cases e
  · have e := x2.same y2
    cases e
  · exact ⟨by omega, fun z => by omega⟩
/-! ===== the towns of both are alike ===== -/
/-- where a number of the town stands in the world; which numbers are alike -/
def wx (i : Nat) : Nat := if i < 6 then i else if i < 12 then i + 8 else if i < 18 then i - 4 else if i < 28 then 4 * (i - 18) + 163 else if i < 38 then 4 * (i - 28) + 251 else 4 * (i - 38) + 252
abbrev ix (i : Nat) : Prop := i < 12 ∨ (18 ≤ i ∧ i < 28)
theorem ix_lt {i : Nat} (h : ix i) : i < 48 := by rcases h with z | z <;> omega
theorem wx_0 {i : Nat} (h : i < 6) : wx i = i := if_pos h
theorem wx_p {k : Nat} (h : k < 6) : wx (6 + k) = 14 + k := by
  unfold wx
  rw [if_neg (by omega), if_pos (by omega)]
  omega
theorem wx_w {u : Nat} (h : u < 10) : wx (18 + u) = 163 + 4 * u := by
  unfold wx
  rw [if_neg (by omega), if_neg (by omega), if_neg (by omega), if_pos (by omega)]
  omega
theorem ix_c {i : Nat} (h : ix i) : i < 6 ∨ (∃ k, k < 6 ∧ i = 6 + k) ∨ ∃ u, u < 10 ∧ i = 18 + u := by
  rcases h with z | z
  · by_cases y : i < 6
    · exact Or.inl y
    · exact Or.inr (Or.inl ⟨i - 6, by omega, by omega⟩)
  · exact Or.inr (Or.inr ⟨i - 18, by omega, by omega⟩)
theorem n6 {P : Nat → Prop} (p0 : P 0) (p1 : P 1) (p2 : P 2) (p3 : P 3) (p4 : P 4) (p5 : P 5) : ∀ i, i < 6 → P i := fun i hi => by
  rcases (show i = 0 ∨ i = 1 ∨ i = 2 ∨ i = 3 ∨ i = 4 ∨ i = 5 by omega) with rfl | rfl | rfl | rfl | rfl | rfl <;> assumption
theorem wx_b : ∀ i, i < 48 → wx i < 290 ∧ (x_gr 76 (wx i) = 49 ∨ x_gr 76 (wx i) = 51 ∨ x_gr 76 (wx i) = 56 ∨ x_gr 76 (wx i) = 57 ∨ x_gr 76 (wx i) = 58) := by decide +kernel
theorem wx_f : ∀ i, i < 48 → 6 ≤ i → x_gr 76 (wx i) = 51 ∨ x_gr 76 (wx i) = 56 ∨ x_gr 76 (wx i) = 57 ∨ x_gr 76 (wx i) = 58 := by decide +kernel
theorem wx_inj : ∀ i, i < 48 → ∀ j, j < 48 → wx i = wx j → i = j := by decide +kernel
def St (h : xh) : Prop := h 0 8 ≠ h 0 9 ∧ (∀ i, ix i → tv h i = h 76 (wx i)) ∧ tv h 1 ≤ 2147483658 ∧ (h 75 4 = 2147483649 → (∀ i, ix i → svq h 3 i = h 77 (wx i)) ∧ svq h 3 1 ≤ 2147483658)
section FRS
variable {m : Nat} {h h' : xh}
theorem tv_fr (f : Fr m h h') (hJ : J h) (g : GT m) (g2 : Nat.testBit m 1 = false) : h' 0 8 = h 0 8 ∧ h' 0 9 = h 0 9 ∧ ∀ i, tv h' i = tv h i := by
  have e : h' 0 8 = h 0 8 := f 0 8 (by rw [show x_gr 0 8 = 1 by decide +kernel]; exact g2)
  have e2 : h' 0 9 = h 0 9 := f 0 9 (by rw [show x_gr 0 9 = 1 by decide +kernel]; exact g2)
  refine ⟨e, e2, fun i => ?_⟩
  unfold tv
  rw [e]
  exact svq_gr f g hJ.2.1 i
theorem w_fr (f : Fr m h h') (g : GW m) : ∀ i, i < 48 → h' 76 (wx i) = h 76 (wx i) := fun i hi => f 76 (wx i) (by
  obtain ⟨a, b, c, d, e⟩ := g
  rcases (wx_b i hi).2 with z | z | z | z | z <;> rw [z] <;> assumption)
theorem i_fr (f : Fr m h h') (g : Nat.testBit m 27 = false) : ∀ i, h' 77 i = h 77 i := fun i => f 77 i (by rw [gr_77]; exact g)
theorem g_fr (f : Fr m h h') (g : Nat.testBit m 18 = false) : h' 75 4 = h 75 4 := f 75 4 (by rw [show x_gr 75 4 = 18 by decide +kernel]; exact g)
end FRS
theorem St.fr {m : Nat} {h h' : xh} (S : St h) (f : Fr m h h') (hJ : J h) (g1 : GT m) (g2 : Nat.testBit m 1 = false) (g3 : GK m) (g4 : GW m) (g5 : Nat.testBit m 27 = false) (g6 : Nat.testBit m 18 = false) : St h' := by
  obtain ⟨e1, e2, e3⟩ := tv_fr f hJ g1 g2
  obtain ⟨s1, s2, s3, s4⟩ := S
  refine ⟨by rw [e1, e2]; exact s1, fun i hi => by rw [e3, w_fr f g4 i (ix_lt hi)]; exact s2 i hi, by rw [e3]; exact s3, fun z => ?_⟩
  rw [g_fr f g6] at z
  obtain ⟨k1, k2⟩ := s4 z
  exact ⟨fun i hi => by rw [kv_fr f g3, i_fr f g5]; exact k1 i hi, by rw [kv_fr f g3]; exact k2⟩
/-- what is kept, over two calls that leave it -/
theorem St.kp {m m2 : Nat} {h h1 h2 : xh} (S : St h) (f : Fr m h h1) (g3 : GK m) (g5 : Nat.testBit m 27 = false) (g6 : Nat.testBit m 18 = false) (f2 : Fr m2 h1 h2) (k3 : GK m2) (k5 : Nat.testBit m2 27 = false) (k6 : Nat.testBit m2 18 = false) : h2 75 4 = 2147483649 → (∀ i, ix i → svq h2 3 i = h2 77 (wx i)) ∧ svq h2 3 1 ≤ 2147483658 := fun z => by
  rw [g_fr f2 k6, g_fr f g6] at z
  obtain ⟨k1, k2⟩ := S.2.2.2 z
  exact ⟨fun i hi => by rw [kv_fr f2 k3, kv_fr f g3, i_fr f2 k5, i_fr f g5]; exact k1 i hi, by rw [kv_fr f2 k3, kv_fr f g3]; exact k2⟩
theorem St.tell {B : Nat → Nat} {n k r m m2 : Nat} {h h1 h2 : xh} (S : St h) (c : Tc B n h h1 k) (t : Tf B n h1 h2 r) (hJ1 : J h1) (f : Fr m h h1) (g3 : GK m) (g4 : GW m) (g5 : Nat.testBit m 27 = false) (g6 : Nat.testBit m 18 = false) (f2 : Fr m2 h1 h2) (k1 : GT m2) (k2 : Nat.testBit m2 1 = false) (k3 : GK m2) (k5 : Nat.testBit m2 27 = false) (k6 : Nat.testBit m2 18 = false) (ho : h2 97 0 = h1 97 0) : (k = h2 75 0 ∧ (k = 2147483648 → h2 97 0 = r)) ∧ St h2 := by
  obtain ⟨e8, e9, ev⟩ := tv_fr f2 hJ1 k1 k2
  have kp := St.kp S f g3 g5 g6 f2 k3 k5 k6
  obtain ⟨s1, s2, s3, -⟩ := S
  have w : ∀ i, ix i → h1 76 (wx i) = tv h i := fun i hi => (w_fr f g4 i (ix_lt hi)).trans (s2 i hi).symm
  unfold Tf at t
  have w0 : h1 76 0 = tv h 0 := by
    have z := w 0 (by decide)
    rw [wx_0 (by decide)] at z
    exact z
  have w1 : h1 76 1 = tv h 1 := by
    have z := w 1 (by decide)
    rw [wx_0 (by decide)] at z
    exact z
  have w2 : h1 76 2 = tv h 2 := by
    have z := w 2 (by decide)
    rw [wx_0 (by decide)] at z
    exact z
  have w3 : h1 76 3 = tv h 3 := by
    have z := w 3 (by decide)
    rw [wx_0 (by decide)] at z
    exact z
  have w4 : h1 76 4 = tv h 4 := by
    have z := w 4 (by decide)
    rw [wx_0 (by decide)] at z
    exact z
  have w5 : h1 76 5 = tv h 5 := by
    have z := w 5 (by decide)
    rw [wx_0 (by decide)] at z
    exact z
  have wp : ∀ k, k < 6 → h1 76 (14 + k) = tv h (6 + k) := fun k hk => by
    have z := w (6 + k) (Or.inl (by omega))
    rw [wx_p hk] at z
    exact z
  have wl : ∀ u, u < 10 → h1 76 (163 + 4 * u) = tv h (18 + u) := fun u hu => by
    have z := w (18 + u) (Or.inr ⟨by omega, by omega⟩)
    rw [wx_w hu] at z
    exact z
  have keep : (∀ i, i < 6 → h2 76 i = h1 76 i) → (∀ k, k < 6 → h2 76 (14 + k) = h1 76 (14 + k)) → (∀ u, u < 10 → h2 76 (163 + 4 * u) = h1 76 (163 + 4 * u)) → ∀ i, ix i → tv h i = h2 76 (wx i) := fun a b c i hi => by
    rw [← w i hi]
    rcases ix_c hi with z | ⟨k, hk, rfl⟩ | ⟨u, hu, rfl⟩
    · rw [wx_0 z]
      exact (a i z).symm
    · rw [wx_p hk]
      exact (b k hk).symm
    · rw [wx_w hu]
      exact (c u hu).symm
  rw [w0, w1, w2, w3, w4, w5] at t
  rcases c with ⟨c0, c1, c2, c3, c4, c5, c6, c7, cp, cw, -⟩ | ⟨c0, c1, c2, c3, c4, -⟩ | ⟨c0, ⟨c5, x, c1⟩, c2, c3, c4, -⟩ <;> rcases t with ⟨t0, t1, t2, t3, t4, t5, tp, tl, -⟩ | ⟨t0, t1, t2, tp, tl, -⟩ | ⟨t0, ⟨y, t1⟩, t3, t2, tp, tl, -⟩
  · have e := c1.same t1
    injection e with e
    injection e with e2 e
    injection e with e3 e
    injection e with e4 e5
    refine ⟨⟨by omega, fun _ => by omega⟩, by rw [e8, e9, c6, c7]; exact fun z => s1 z.symm, fun i hi => ?_, by rw [ev]; omega, kp⟩
    rw [ev]
    rcases ix_c hi with z | ⟨k, hk, rfl⟩ | ⟨u, hu, rfl⟩
    · rw [wx_0 z]
      exact n6 (P := fun i => tv h1 i = h2 76 i) (show tv h1 0 = h2 76 0 by omega) (show tv h1 1 = h2 76 1 by omega) (show tv h1 2 = h2 76 2 by omega) (show tv h1 3 = h2 76 3 by omega) (show tv h1 4 = h2 76 4 by omega) (show tv h1 5 = h2 76 5 by omega) i z
    · rw [wx_p hk, cp (6 + k) (by omega) (by omega), ← wp k hk]
      exact (tp k hk).symm
    · have a : tv h1 (18 + u) = if tv h 3 ≤ 2147483648 + u ∧ 2147483648 + u < tv h1 3 then 2147483647 else tv h (18 + u) := cw.2 u hu
      have b : h2 76 (163 + 4 * u) = if tv h 3 ≤ 2147483648 + u ∧ 2147483648 + u < h2 76 3 then 2147483647 else h1 76 (163 + 4 * u) := tl.2 u hu
      rw [wx_w hu, a, b, wl u hu, show h2 76 3 = tv h1 3 by omega]
  · have e := c1.same t1
    cases e
  · omega
  · have e := c1.same t1
    cases e
  · refine ⟨⟨by omega, fun z => by omega⟩, by rw [e8, e9, c3, c4]; exact s1, fun i hi => ?_, by rw [ev, c2]; exact s3, kp⟩
    rw [ev, c2]
    exact keep t2 tp tl i hi
  · have e := c1.same t1
    cases e
  · omega
  · have e := c1.same t1
    cases e
  · refine ⟨⟨by omega, fun z => by omega⟩, by rw [e8, e9, c3, c4]; exact s1, fun i hi => ?_, by rw [ev, c2]; exact s3, kp⟩
    rw [ev, c2]
    exact keep t2 tp tl i hi
theorem St.custom {m m2 : Nat} {h h1 h2 : xh} (S : St h) (ct : ∀ i, tv h1 i = tv h i) (cr : (h1 0 8 = h 0 9 ∧ h1 0 9 = h 0 8) ∨ (h1 0 8 = h 0 8 ∧ h1 0 9 = h 0 9)) (hJ1 : J h1) (f : Fr m h h1) (g3 : GK m) (g4 : GW m) (g5 : Nat.testBit m 27 = false) (g6 : Nat.testBit m 18 = false) (f2 : Fr m2 h1 h2) (k1 : GT m2) (k2 : Nat.testBit m2 1 = false) (k3 : GK m2) (k4 : GW m2) (k5 : Nat.testBit m2 27 = false) (k6 : Nat.testBit m2 18 = false) : St h2 := by
  obtain ⟨e8, e9, ev⟩ := tv_fr f2 hJ1 k1 k2
  have kp := St.kp S f g3 g5 g6 f2 k3 k5 k6
  obtain ⟨s1, s2, s3, -⟩ := S
  refine ⟨?_, fun i hi => by rw [ev, ct, w_fr f2 k4 i (ix_lt hi), w_fr f g4 i (ix_lt hi)]; exact s2 i hi, by rw [ev, ct]; exact s3, kp⟩
  rw [e8, e9]
  rcases cr with ⟨c1, c2⟩ | ⟨c1, c2⟩
  · rw [c1, c2]
    exact fun z => s1 z.symm
  · rw [c1, c2]
    exact s1
theorem tv_fam {m : Nat} {h h' : xh} (f : Fr m h h') (hJ : J h) (g : GF m) (e : h' 0 8 = h 0 8) : ∀ i, 6 ≤ i → tv h' i = tv h i := fun i h1 => by
  obtain ⟨j, rfl⟩ : ∃ j, i = j + 6 := ⟨i - 6, by omega⟩
  unfold tv
  rw [e]
  exact fam_gr f g hJ.2.1 j
theorem St.people {a k m m2 : Nat} {h h1 h2 : xh} (S : St h) (c : Pc h h1 a k) (t : Pf h1 h2 a) (hJ : J h) (hJ1 : J h1) (f : Fr m h h1) (g3 : GK m) (gt : GF m) (g4 : GW m) (g5 : Nat.testBit m 27 = false) (g6 : Nat.testBit m 18 = false) (f2 : Fr m2 h1 h2) (k1 : GT m2) (k2 : Nat.testBit m2 1 = false) (k3 : GK m2) (k4p : GV m2) (k5 : Nat.testBit m2 27 = false) (k6 : Nat.testBit m2 18 = false) : k = h2 75 0 ∧ St h2 := by
  obtain ⟨e8, e9, ev⟩ := tv_fr f2 hJ1 k1 k2
  have kp := St.kp S f g3 g5 g6 f2 k3 k5 k6
  obtain ⟨s1, s2, s3, -⟩ := S
  have w : ∀ i, ix i → h1 76 (wx i) = tv h i := fun i hi => (w_fr f g4 i (ix_lt hi)).trans (s2 i hi).symm
  have w0 : h1 76 0 = tv h 0 := by
    have z := w 0 (by decide)
    rw [wx_0 (by decide)] at z
    exact z
  have w1 : h1 76 1 = tv h 1 := by
    have z := w 1 (by decide)
    rw [wx_0 (by decide)] at z
    exact z
  have w2 : h1 76 2 = tv h 2 := by
    have z := w 2 (by decide)
    rw [wx_0 (by decide)] at z
    exact z
  have w3 : h1 76 3 = tv h 3 := by
    have z := w 3 (by decide)
    rw [wx_0 (by decide)] at z
    exact z
  have w4 : h1 76 4 = tv h 4 := by
    have z := w 4 (by decide)
    rw [wx_0 (by decide)] at z
    exact z
  have w5 : h1 76 5 = tv h 5 := by
    have z := w 5 (by decide)
    rw [wx_0 (by decide)] at z
    exact z
  obtain ⟨t1, t2, t3, u1, u2, u3, u4, u5⟩ := t
  have fin : ∀ x : Nat, h2 76 0 = x → tv h1 0 = x → tv h1 1 = tv h 1 → tv h1 2 = tv h 2 → tv h1 3 = tv h 3 → tv h1 4 = tv h 4 → tv h1 5 = tv h 5 → h1 0 8 = h 0 8 → ∀ i, ix i → tv h2 i = h2 76 (wx i) := fun x y0 y1 y2 y3 y4 y5 y6 y8 i hi => by
    rw [ev]
    by_cases z : i < 6
    · rw [wx_0 z]
      exact n6 (P := fun i => tv h1 i = h2 76 i) (show tv h1 0 = h2 76 0 by omega) (show tv h1 1 = h2 76 1 by omega) (show tv h1 2 = h2 76 2 by omega) (show tv h1 3 = h2 76 3 by omega) (show tv h1 4 = h2 76 4 by omega) (show tv h1 5 = h2 76 5 by omega) i z
    · have e1 : h2 76 (wx i) = h1 76 (wx i) := f2 76 (wx i) (by
        obtain ⟨a, b, c, d⟩ := k4p
        rcases wx_f i (ix_lt hi) (by omega) with q | q | q | q <;> rw [q] <;> assumption)
      rw [e1, tv_fam f hJ gt y8 i (by omega)]
      exact (w i hi).symm
  rcases c with ⟨c0, c1, c2, c3, c4, c5, c6, c7, c8, c9, ca, cb, -⟩ | ⟨c0, c1, c2⟩ | ⟨c0, ⟨c1, c2, c3⟩, c4⟩
  · obtain ⟨x, y⟩ := t3 ⟨c7, c8⟩ (by omega)
    exact ⟨by omega, by rw [e8, e9, ca, cb]; exact s1, fin a y c1 c2 c3 c4 c5 c6 ca, by rw [ev]; omega, kp⟩
  · obtain ⟨x, y⟩ := t1 (by omega)
    subst c2
    exact ⟨by omega, by rw [e8, e9]; exact s1, fin (tv h1 0) (by omega) rfl rfl rfl rfl rfl rfl rfl, by rw [ev]; exact s3, kp⟩
  · obtain ⟨x, y⟩ := t2 ⟨c1, c2⟩ (by omega)
    subst c4
    exact ⟨by omega, by rw [e8, e9]; exact s1, fin (tv h1 0) (by omega) rfl rfl rfl rfl rfl rfl rfl, by rw [ev]; exact s3, kp⟩
theorem St.image {m m2 : Nat} {h h1 h2 : xh} (S : St h) (c : ∀ i, svq h1 3 i = tv h i) (ct : ∀ i, tv h1 i = tv h i) (c8 : h1 0 8 = h 0 8) (c9 : h1 0 9 = h 0 9) (t : Cpa 77 76 h1 h2 1121) (hJ1 : J h1) (f : Fr m h h1) (g4 : GW m) (f2 : Fr m2 h1 h2) (k1 : GT m2) (k2 : Nat.testBit m2 1 = false) (k3 : GK m2) (k4 : GW m2) : St h2 := by
  obtain ⟨e8, e9, ev⟩ := tv_fr f2 hJ1 k1 k2
  obtain ⟨s1, s2, s3, -⟩ := S
  refine ⟨by rw [e8, e9, c8, c9]; exact s1, fun i hi => by rw [ev, ct, w_fr f2 k4 i (ix_lt hi), w_fr f g4 i (ix_lt hi)]; exact s2 i hi, by rw [ev, ct]; exact s3, fun _ => ⟨fun i hi => ?_, by rw [kv_fr f2 k3, c]; exact s3⟩⟩
  rw [kv_fr f2 k3, c, t (wx i) (by have z := (wx_b i (ix_lt hi)).1; omega), w_fr f g4 i (ix_lt hi)]
  exact s2 i hi
theorem St.back {r r2 m m2 : Nat} {h h1 h2 : xh} (S : St h) (hr : r = h 75 4) (hb : r = 2147483648 ∨ r = 2147483649) (c1 : r = 2147483649 → ∀ i, tv h1 i = svq h 3 i) (c0 : r = 2147483648 → ∀ i, tv h1 i = tv h i) (c8 : h1 0 8 = h 0 8) (c9 : h1 0 9 = h 0 9) (e : r2 = r) (t1 : r2 = 2147483649 → Cpa 76 77 h1 h2 1121) (t0 : r2 = 2147483648 → ∀ i, h2 76 i = h1 76 i) (hJ1 : J h1) (f : Fr m h h1) (g3 : GK m) (g4 : GW m) (g5 : Nat.testBit m 27 = false) (g6 : Nat.testBit m 18 = false) (f2 : Fr m2 h1 h2) (k1 : GT m2) (k2 : Nat.testBit m2 1 = false) (k3 : GK m2) (k5 : Nat.testBit m2 27 = false) (k6 : Nat.testBit m2 18 = false) : St h2 := by
  obtain ⟨e8, e9, ev⟩ := tv_fr f2 hJ1 k1 k2
  have kp := St.kp S f g3 g5 g6 f2 k3 k5 k6
  obtain ⟨s1, s2, s3, s4⟩ := S
  rcases hb with y | y
  · exact ⟨by rw [e8, e9, c8, c9]; exact s1, fun i hi => by rw [ev, c0 y, t0 (e.trans y), w_fr f g4 i (ix_lt hi)]; exact s2 i hi, by rw [ev, c0 y]; exact s3, kp⟩
  · obtain ⟨z1, z2⟩ := s4 (hr.symm.trans y)
    exact ⟨by rw [e8, e9, c8, c9]; exact s1, fun i hi => by rw [ev, c1 y, t1 (e.trans y) (wx i) (by have z := (wx_b i (ix_lt hi)).1; omega), i_fr f g5]; exact z1 i hi, by rw [ev, c1 y]; exact z2, kp⟩
theorem St.lo {m : Nat} {h h1 : xh} (S : St h) (f : Fr m h h1) (g4 : GW m) {i : Nat} (hi : i < 6) : h1 76 i = tv h i := by
  have z := (w_fr f g4 i (by omega)).trans (S.2.1 i (Or.inl (by omega))).symm
  rw [wx_0 hi] at z
  exact z
/-- one number is put anew in both -/
theorem St.set {i0 b r m m2 : Nat} {h h1 h2 : xh} (S : St h) (hx : ix i0) (h6 : 6 ≤ i0) (c : Sc h h1 i0 b) (t : ∀ i, h2 76 i = if i = wx i0 then b else h1 76 i) (hr : r = h1 76 (wx i0)) (hJ1 : J h1) (f : Fr m h h1) (g3 : GK m) (g4 : GW m) (g5 : Nat.testBit m 27 = false) (g6 : Nat.testBit m 18 = false) (f2 : Fr m2 h1 h2) (k1 : GT m2) (k2 : Nat.testBit m2 1 = false) (k3 : GK m2) (k5 : Nat.testBit m2 27 = false) (k6 : Nat.testBit m2 18 = false) (ho : h2 97 0 = h1 97 0) : h2 97 0 = r ∧ St h2 := by
  obtain ⟨e8, e9, ev⟩ := tv_fr f2 hJ1 k1 k2
  have kp := St.kp S f g3 g5 g6 f2 k3 k5 k6
  obtain ⟨s1, s2, s3, -⟩ := S
  have w : ∀ i, ix i → h1 76 (wx i) = tv h i := fun i hi => (w_fr f g4 i (ix_lt hi)).trans (s2 i hi).symm
  obtain ⟨c1, c2, c3, c4⟩ := c
  refine ⟨by rw [ho, c4, hr]; exact (w i0 hx).symm, by rw [e8, e9, c2, c3]; exact s1, fun i hi => ?_, ?_, kp⟩
  · rw [ev, c1 i (ix_lt hi), t]
    by_cases z : i = i0
    · rw [if_pos z, if_pos (by rw [z])]
    · rw [if_neg z, if_neg (fun y => z (wx_inj i (ix_lt hi) i0 (ix_lt hx) y))]
      exact (w i hi).symm
  · rw [ev, c1 1 (by decide), if_neg (by omega)]
    exact s3
/-- nothing is put -/
theorem St.not {m2 : Nat} {h h2 : xh} (S : St h) (t : ∀ i, h2 76 i = h 76 i) (hJ : J h) (f2 : Fr m2 h h2) (k1 : GT m2) (k2 : Nat.testBit m2 1 = false) (k3 : GK m2) (k5 : Nat.testBit m2 27 = false) (k6 : Nat.testBit m2 18 = false) : St h2 := by
  obtain ⟨e8, e9, ev⟩ := tv_fr f2 hJ k1 k2
  obtain ⟨s1, s2, s3, s4⟩ := S
  refine ⟨by rw [e8, e9]; exact s1, fun i hi => by rw [ev, t]; exact s2 i hi, by rw [ev]; exact s3, fun z => ?_⟩
  rw [g_fr f2 k6] at z
  obtain ⟨z1, z2⟩ := s4 z
  exact ⟨fun i hi => by rw [kv_fr f2 k3, i_fr f2 k5]; exact z1 i hi, by rw [kv_fr f2 k3]; exact z2⟩
/-- purse: what both have, and what they answer -/
theorem St.purse {a b k r m m2 : Nat} {h h1 h2 : xh} (S : St h) (c : Uc h h1 a b k) (t : Uf h1 h2 a b r) (hJ1 : J h1) (f : Fr m h h1) (g3 : GK m) (g4 : GW m) (g5 : Nat.testBit m 27 = false) (g6 : Nat.testBit m 18 = false) (f2 : Fr m2 h1 h2) (k1 : GT m2) (k2 : Nat.testBit m2 1 = false) (k3 : GK m2) (k5 : Nat.testBit m2 27 = false) (k6 : Nat.testBit m2 18 = false) (ho : h2 97 0 = h1 97 0) : (k = h2 75 0 ∧ (k = 2147483648 → h2 97 0 = r)) ∧ St h2 := by
  have w0 : h1 76 0 = tv h 0 := St.lo S f g4 (i := 0) (by decide)
  rcases c with ⟨c0, u, c1, c2, c3, c4, c5, c6⟩ | ⟨c0, c1, c2⟩ | ⟨c0, ⟨c1, c2, c3⟩, c4⟩ <;> rcases t with ⟨t0, y, t1, t2, t3, t4, t5, t6, t7⟩ | ⟨t0, t1, t2⟩ | ⟨t0, ⟨t1, t2, t3⟩, t4⟩
  · have hu : y = u := by omega
    subst hu
    have q := wx_p c2
    obtain ⟨z1, z2⟩ := St.set S (r := r) (i0 := 6 + y) (Or.inl (by omega)) (by omega) c6 (fun i => by rw [q]; exact t6 i) (by rw [q]; exact t7) hJ1 f g3 g4 g5 g6 f2 k1 k2 k3 k5 k6 ho
    exact ⟨⟨by omega, fun _ => z1⟩, z2⟩
  · omega
  · omega
  · omega
  · subst c2
    exact ⟨⟨by omega, fun z => by omega⟩, St.not S t2 hJ1 f2 k1 k2 k3 k5 k6⟩
  · omega
  · omega
  · omega
  · subst c4
    exact ⟨⟨by omega, fun z => by omega⟩, St.not S t4 hJ1 f2 k1 k2 k3 k5 k6⟩
/-- wish: what both have, and what they answer -/
theorem St.wish {a b k r m m2 : Nat} {h h1 h2 : xh} (S : St h) (c : Vc h h1 a b k) (t : Vf h1 h2 a b r) (hJ1 : J h1) (f : Fr m h h1) (g3 : GK m) (g4 : GW m) (g5 : Nat.testBit m 27 = false) (g6 : Nat.testBit m 18 = false) (f2 : Fr m2 h1 h2) (k1 : GT m2) (k2 : Nat.testBit m2 1 = false) (k3 : GK m2) (k5 : Nat.testBit m2 27 = false) (k6 : Nat.testBit m2 18 = false) (ho : h2 97 0 = h1 97 0) : (k = h2 75 0 ∧ (k = 2147483648 → h2 97 0 = r)) ∧ St h2 := by
  have w0 : h1 76 0 = tv h 0 := St.lo S f g4 (i := 0) (by decide)
  have w3 : h1 76 3 = tv h 3 := St.lo S f g4 (i := 3) (by decide)
  rcases c with ⟨c0, u, c1, c2, c3, c4, c6⟩ | ⟨c0, c1, c2⟩ <;> rcases t with ⟨t0, y, t1, t2, t3, t4, t6, t7⟩ | ⟨t0, t1, t2⟩
  · have hu : y = u := by omega
    subst hu
    have q := wx_w c2
    obtain ⟨z1, z2⟩ := St.set S (r := r) (i0 := 18 + y) (Or.inr ⟨by omega, by omega⟩) (by omega) c6 (fun i => by rw [q]; exact t6 i) (by rw [q]; exact t7) hJ1 f g3 g4 g5 g6 f2 k1 k2 k3 k5 k6 ho
    exact ⟨⟨by omega, fun _ => z1⟩, z2⟩
  · omega
  · omega
  · subst c2
    exact ⟨⟨by omega, fun z => by omega⟩, St.not S t2 hJ1 f2 k1 k2 k3 k5 k6⟩
/-- deaths: of the town and of the world, of what is kept and of the image; who lives -/
def Sd (h : xh) : Prop := R6 (fun b => tv h (12 + b)) (xw h) ∧ (∀ b, b < 6 → h 46 b = al9 (tv h (12 + b))) ∧ (h 75 4 = 2147483649 → R6 (fun b => svq h 3 (12 + b)) (fun b => h 77 (8 + b)))
theorem Sd.kp {m m2 : Nat} {h h1 h2 : xh} (D : Sd h) (f : Fr m h h1) (g3 : GK m) (g5 : Nat.testBit m 27 = false) (g6 : Nat.testBit m 18 = false) (f2 : Fr m2 h1 h2) (k3 : GK m2) (k5 : Nat.testBit m2 27 = false) (k6 : Nat.testBit m2 18 = false) : h2 75 4 = 2147483649 → R6 (fun b => svq h2 3 (12 + b)) (fun b => h2 77 (8 + b)) := fun z => by
  rw [g_fr f2 k6, g_fr f g6] at z
  have k := D.2.2 z
  intro b hb
  show svq h2 3 (12 + b) = min 2147483660 (h2 77 (8 + b))
  rw [kv_fr f2 k3, kv_fr f g3, i_fr f2 k5, i_fr f g5]
  exact k b hb
/-- deaths stay, or are those of the town as it is -/
theorem Sd.gen {m m2 : Nat} {h h1 h2 : xh} (D : Sd h) (ht : ∀ b, b < 6 → tv h1 (12 + b) = tv h (12 + b)) (hw : ∀ b, b < 6 → xw h2 b = xw h1 b) (ha : (∀ b, b < 6 → h1 46 b = al9 (tv h1 (12 + b))) ∨ (∀ b, b < 6 → h1 46 b = h 46 b)) (hJ1 : J h1) (f : Fr m h h1) (g3 : GK m) (g4 : GW m) (g5 : Nat.testBit m 27 = false) (g6 : Nat.testBit m 18 = false) (f2 : Fr m2 h1 h2) (k1 : GT m2) (k2 : Nat.testBit m2 1 = false) (k3 : GK m2) (k5 : Nat.testBit m2 27 = false) (k6 : Nat.testBit m2 18 = false) (k7 : Nat.testBit m2 59 = false) : Sd h2 := by
  obtain ⟨e8, e9, ev⟩ := tv_fr f2 hJ1 k1 k2
  refine ⟨fun b hb => ?_, fun b hb => ?_, Sd.kp D f g3 g5 g6 f2 k3 k5 k6⟩
  · show tv h2 (12 + b) = min 2147483660 (xw h2 b)
    rw [ev, ht b hb, hw b hb, xw_gr f g4.2.2.1 b hb]
    exact D.1 b hb
  · rw [f2 46 b k7, ev]
    rcases ha with a | a
    · exact a b hb
    · rw [a b hb, ht b hb]
      exact D.2.1 b hb
theorem Sd.fr {m : Nat} {h h' : xh} (D : Sd h) (f : Fr m h h') (hJ : J h) (g1 : GT m) (g2 : Nat.testBit m 1 = false) (g3 : GK m) (g4 : GW m) (g5 : Nat.testBit m 27 = false) (g6 : Nat.testBit m 18 = false) (g7 : Nat.testBit m 59 = false) : Sd h' :=
  Sd.gen (m := 0) D (fun _ _ => rfl) (fun b hb => xw_gr f g4.2.2.1 b hb) (Or.inr (fun _ _ => rfl)) hJ (Fr.refl 0 h) (by decide) (by decide) (by decide) (by decide) f g1 g2 g3 g5 g6 g7
theorem Sd.tell {B : Nat → Nat} {n k r m m2 : Nat} {h h1 h2 : xh} (D : Sd h) (S : St h) (c : Tc B n h h1 k) (t : Tf B n h1 h2 r) (hJ1 : J h1) (f : Fr m h h1) (g3 : GK m) (g4 : GW m) (g5 : Nat.testBit m 27 = false) (g6 : Nat.testBit m 18 = false) (f2 : Fr m2 h1 h2) (k1 : GT m2) (k2 : Nat.testBit m2 1 = false) (k3 : GK m2) (k5 : Nat.testBit m2 27 = false) (k6 : Nat.testBit m2 18 = false) (k7 : Nat.testBit m2 59 = false) : Sd h2 := by
  have s3 := S.2.2.1
  have w0 : h1 76 0 = tv h 0 := St.lo S f g4 (i := 0) (by decide)
  have w2 : h1 76 2 = tv h 2 := St.lo S f g4 (i := 2) (by decide)
  have w3 : h1 76 3 = tv h 3 := St.lo S f g4 (i := 3) (by decide)
  have w4 : h1 76 4 = tv h 4 := St.lo S f g4 (i := 4) (by decide)
  have w5 : h1 76 5 = tv h 5 := St.lo S f g4 (i := 5) (by decide)
  have w1 : h1 76 1 = tv h 1 := St.lo S f g4 (i := 1) (by decide)
  unfold Tf at t
  rw [w0, w1, w2, w3, w4, w5] at t
  rcases c with ⟨c0, c1, c2, c3, c4, c5, c6, c7, cp, cw, cx, ca, -⟩ | ⟨c0, c1, c2, c3, c4, ca⟩ | ⟨c0, ⟨c5, x, c1⟩, c2, c3, c4, ca⟩ <;> rcases t with ⟨t0, t1, t2, t3, t4, t5, tp, tl, tx, -⟩ | ⟨t0, t1, t2, tp, tl, tx, -⟩ | ⟨t0, ⟨y, t1⟩, t3, t2, tp, tl, tx, -⟩
  · obtain ⟨e8, e9, ev⟩ := tv_fr f2 hJ1 k1 k2
    have q : R6 (fun b => tv h (12 + b)) (xw h1) := fun b hb => by
      show tv h (12 + b) = min 2147483660 (xw h1 b)
      rw [xw_gr f g4.2.2.1 b hb]
      exact D.1 b hb
    have z := Tx.rel cx tx q
    refine ⟨fun b hb => ?_, fun b hb => ?_, Sd.kp D f g3 g5 g6 f2 k3 k5 k6⟩
    · show tv h2 (12 + b) = min 2147483660 (xw h2 b)
      rw [ev]
      exact z b hb
    · rw [f2 46 b k7, ev]
      exact ca b hb
  · have e := c1.same t1
    cases e
  · omega
  · have e := c1.same t1
    cases e
  · exact Sd.gen D (fun b _ => c2 (12 + b)) tx (Or.inr ca) hJ1 f g3 g4 g5 g6 f2 k1 k2 k3 k5 k6 k7
  · have e := c1.same t1
    cases e
  · omega
  · have e := c1.same t1
    cases e
  · exact Sd.gen D (fun b _ => c2 (12 + b)) tx (Or.inr ca) hJ1 f g3 g4 g5 g6 f2 k1 k2 k3 k5 k6 k7
theorem Sd.people {a k m m2 : Nat} {h h1 h2 : xh} (D : Sd h) (c : Pc h h1 a k) (hJ : J h) (hJ1 : J h1) (f : Fr m h h1) (g3 : GK m) (gt : GF m) (g4 : GW m) (g5 : Nat.testBit m 27 = false) (g6 : Nat.testBit m 18 = false) (f2 : Fr m2 h1 h2) (k1 : GT m2) (k2 : Nat.testBit m2 1 = false) (k3 : GK m2) (k4p : GV m2) (k5 : Nat.testBit m2 27 = false) (k6 : Nat.testBit m2 18 = false) (k7 : Nat.testBit m2 59 = false) : Sd h2 := by
  have hw : ∀ b, b < 6 → xw h2 b = xw h1 b := fun b hb => xw_gr f2 k4p.2.1 b hb
  rcases c with ⟨c0, c1, c2, c3, c4, c5, c6, c7, c8, c9, ca, cb, cc⟩ | ⟨c0, c1, c2⟩ | ⟨c0, c1, c2⟩
  · exact Sd.gen D (fun b _ => tv_fam f hJ gt ca (12 + b) (by omega)) hw (Or.inl cc) hJ1 f g3 g4 g5 g6 f2 k1 k2 k3 k5 k6 k7
  · subst c2
    exact Sd.gen D (fun _ _ => rfl) hw (Or.inr (fun _ _ => rfl)) hJ1 f g3 g4 g5 g6 f2 k1 k2 k3 k5 k6 k7
  · subst c2
    exact Sd.gen D (fun _ _ => rfl) hw (Or.inr (fun _ _ => rfl)) hJ1 f g3 g4 g5 g6 f2 k1 k2 k3 k5 k6 k7
theorem Sd.image {m m2 : Nat} {h h1 h2 : xh} (D : Sd h) (c : ∀ i, svq h1 3 i = tv h i) (ct : ∀ i, tv h1 i = tv h i) (t : Cpa 77 76 h1 h2 1121) (hJ1 : J h1) (f : Fr m h h1) (g4 : GW m) (g7 : Nat.testBit m 59 = false) (f2 : Fr m2 h1 h2) (k1 : GT m2) (k2 : Nat.testBit m2 1 = false) (k3 : GK m2) (k4 : GW m2) (k7 : Nat.testBit m2 59 = false) : Sd h2 := by
  obtain ⟨e8, e9, ev⟩ := tv_fr f2 hJ1 k1 k2
  refine ⟨fun b hb => ?_, fun b hb => ?_, fun _ b hb => ?_⟩
  · show tv h2 (12 + b) = min 2147483660 (xw h2 b)
    rw [ev, ct, xw_gr f2 k4.2.2.1 b hb, xw_gr f g4.2.2.1 b hb]
    exact D.1 b hb
  · rw [f2 46 b k7, f 46 b g7, ev, ct]
    exact D.2.1 b hb
  · show svq h2 3 (12 + b) = min 2147483660 (h2 77 (8 + b))
    have e : h2 77 (8 + b) = xw h1 b := t (8 + b) (by omega)
    rw [kv_fr f2 k3, c, e, xw_gr f g4.2.2.1 b hb]
    exact D.1 b hb
theorem Sd.back {r r2 m m2 : Nat} {h h1 h2 : xh} (D : Sd h) (hr : r = h 75 4) (hb9 : r = 2147483648 ∨ r = 2147483649) (c1 : r = 2147483649 → ∀ i, tv h1 i = svq h 3 i) (c0 : r = 2147483648 → ∀ i, tv h1 i = tv h i) (a1 : r = 2147483649 → ∀ b, b < 6 → h1 46 b = al9 (tv h1 (12 + b))) (a0 : r = 2147483648 → ∀ b, b < 6 → h1 46 b = h 46 b) (e : r2 = r) (t1 : r2 = 2147483649 → Cpa 76 77 h1 h2 1121) (t0 : r2 = 2147483648 → ∀ i, h2 76 i = h1 76 i) (hJ1 : J h1) (f : Fr m h h1) (g3 : GK m) (g4 : GW m) (g5 : Nat.testBit m 27 = false) (g6 : Nat.testBit m 18 = false) (f2 : Fr m2 h1 h2) (k1 : GT m2) (k2 : Nat.testBit m2 1 = false) (k3 : GK m2) (k5 : Nat.testBit m2 27 = false) (k6 : Nat.testBit m2 18 = false) (k7 : Nat.testBit m2 59 = false) : Sd h2 := by
  rcases hb9 with y | y
  · exact Sd.gen D (fun b _ => c0 y (12 + b)) (fun b _ => t0 (e.trans y) (8 + b)) (Or.inr (a0 y)) hJ1 f g3 g4 g5 g6 f2 k1 k2 k3 k5 k6 k7
  · obtain ⟨e8, e9, ev⟩ := tv_fr f2 hJ1 k1 k2
    have z := D.2.2 (hr.symm.trans y)
    refine ⟨fun b hb => ?_, fun b hb => ?_, Sd.kp D f g3 g5 g6 f2 k3 k5 k6⟩
    · show tv h2 (12 + b) = min 2147483660 (xw h2 b)
      have q : xw h2 b = h 77 (8 + b) := (t1 (e.trans y) (8 + b) (by omega)).trans (i_fr f g5 (8 + b))
      rw [ev, c1 y, q]
      exact z b hb
    · rw [f2 46 b k7, ev]
      exact a1 y b hb
theorem Sd.purse {a b k r m m2 : Nat} {h h1 h2 : xh} (D : Sd h) (c : Uc h h1 a b k) (t : Uf h1 h2 a b r) (hJ1 : J h1) (f : Fr m h h1) (g3 : GK m) (g4 : GW m) (g5 : Nat.testBit m 27 = false) (g6 : Nat.testBit m 18 = false) (g7 : Nat.testBit m 59 = false) (f2 : Fr m2 h1 h2) (k1 : GT m2) (k2 : Nat.testBit m2 1 = false) (k3 : GK m2) (k5 : Nat.testBit m2 27 = false) (k6 : Nat.testBit m2 18 = false) (k7 : Nat.testBit m2 59 = false) : Sd h2 := by
  have hw : ∀ b, b < 6 → xw h2 b = xw h1 b := fun v hv => by
    show h2 76 (8 + v) = h1 76 (8 + v)
    rcases t with ⟨-, y, -, t2, -, -, -, t6, -⟩ | ⟨-, -, t2⟩ | ⟨-, -, t2⟩
    · rw [t6, if_neg (by omega)]
    · exact t2 _
    · exact t2 _
  have ht : ∀ b, b < 6 → tv h1 (12 + b) = tv h (12 + b) := fun v hv => by
    rcases c with ⟨-, u, -, c2, -, -, -, c6⟩ | ⟨-, -, c2⟩ | ⟨-, -, c2⟩
    · rw [c6.1 (12 + v) (by omega), if_neg (by omega)]
    · rw [c2]
    · rw [c2]
  exact Sd.gen D ht hw (Or.inr (fun v _ => f 46 v g7)) hJ1 f g3 g4 g5 g6 f2 k1 k2 k3 k5 k6 k7
theorem Sd.wish {a b k r m m2 : Nat} {h h1 h2 : xh} (D : Sd h) (c : Vc h h1 a b k) (t : Vf h1 h2 a b r) (hJ1 : J h1) (f : Fr m h h1) (g3 : GK m) (g4 : GW m) (g5 : Nat.testBit m 27 = false) (g6 : Nat.testBit m 18 = false) (g7 : Nat.testBit m 59 = false) (f2 : Fr m2 h1 h2) (k1 : GT m2) (k2 : Nat.testBit m2 1 = false) (k3 : GK m2) (k5 : Nat.testBit m2 27 = false) (k6 : Nat.testBit m2 18 = false) (k7 : Nat.testBit m2 59 = false) : Sd h2 := by
  have hw : ∀ b, b < 6 → xw h2 b = xw h1 b := fun v hv => by
    show h2 76 (8 + v) = h1 76 (8 + v)
    rcases t with ⟨-, y, -, t2, -, -, t6, -⟩ | ⟨-, -, t2⟩
    · rw [t6, if_neg (by omega)]
    · exact t2 _
  have ht : ∀ b, b < 6 → tv h1 (12 + b) = tv h (12 + b) := fun v hv => by
    rcases c with ⟨-, u, -, c2, -, -, c6⟩ | ⟨-, -, c2⟩
    · rw [c6.1 (12 + v) (by omega), if_neg (by omega)]
    · rw [c2]
  exact Sd.gen D ht hw (Or.inr (fun v _ => f 46 v g7)) hJ1 f g3 g4 g5 g6 f2 k1 k2 k3 k5 k6 k7
theorem tv_12 {h : xh} (hJ : J h) {b : Nat} (hb : b < 6) : 2147483648 ≤ tv h (12 + b) ∧ tv h (12 + b) ≤ 2147483660 := by
  have z : ∀ b, b < 6 → (j_lo 26 b = 2147483648 ∧ j_hi 26 b = 2147483660 ∧ b < x_ln 26) ∧ (j_lo 40 b = 2147483648 ∧ j_hi 40 b = 2147483660 ∧ b < x_ln 40) := by decide +kernel
  obtain ⟨⟨z1, z2, z3⟩, y1, y2, y3⟩ := z b hb
  have t : tw (h 0 8) := hJ.2.1
  unfold tv
  rw [svq_x b hb]
  unfold xq
  rcases t with e | e
  · rw [e, ← z1, ← z2]
    exact hJ.1 26 b (by decide) z3
  · rw [e, ← y1, ← y2]
    exact hJ.1 40 b (by decide) y3
/-- lives alike -/
theorem lv_alike {a b k r m : Nat} {h h1 h2 : xh} (S : St h) (D : Sd h) (c : Lc h h1 a b k) (t : Lf h1 h2 a b r) (hJ : J h) (f : Fr m h h1) (g4 : GW m) (ho : h2 97 0 = h1 97 0) : k = h2 75 0 ∧ (k = 2147483648 → (h2 97 0 = 2147483649 ∧ r = 2147483649) ∨ (h2 97 0 = 2147483648 ∧ r = 2147483648)) := by
  have w0 : h1 76 0 = tv h 0 := St.lo S f g4 (i := 0) (by decide)
  rcases c with ⟨c0, u, c1, c2, c3, c4, c5, c6⟩ | ⟨c0, c1⟩ <;> rcases t with ⟨t0, y, t1, t2, t3, t4, t5, t6⟩ | ⟨t0, t1⟩
  · have hu : y = u := by omega
    subst hu
    obtain ⟨x1, x2⟩ := tv_12 hJ c2
    have d1 := D.1 y c2
    have d1 : tv h (12 + y) = min 2147483660 (xw h y) := d1
    have d2 := D.2.1 y c2
    have d3 : h1 76 (8 + y) = xw h y := xw_gr f g4.2.2.1 y c2
    have q := al_bit x1 x2 c4 c5
    rw [← d2] at q
    refine ⟨by omega, fun _ => ?_⟩
    rw [ho]
    rcases c6 with ⟨p1, p2⟩ | ⟨p1, p2⟩ <;> rcases t6 with ⟨s1, s2⟩ | ⟨s1, s2⟩
    · exact Or.inl ⟨p1, s1⟩
    · have := q.mp p2
      omega
    · exact absurd (q.mpr (by omega)) p2
    · exact Or.inr ⟨p1, s1⟩
  · omega
  · omega
  · exact ⟨by omega, fun z => by omega⟩
/-- sightings: of the town and of the world, of what is kept and of the image -/
def Se (h : xh) : Prop := R20 (fun i => tv h (28 + i)) (ab (aw h) (bw h)) ∧ (h 75 4 = 2147483649 → R20 (fun i => svq h 3 (28 + i)) (ab (fun u => h 77 (251 + 4 * u)) (fun u => h 77 (252 + 4 * u))))
theorem ab_gr {m : Nat} {h h' : xh} (f : Fr m h h') (g4 : GW m) : ∀ i, i < 20 → ab (aw h') (bw h') i = ab (aw h) (bw h) i := ab2 (aw_gr f g4.2.2.2.2) (bw_gr f g4.2.2.2.2)
theorem Se.kp {m m2 : Nat} {h h1 h2 : xh} (D : Se h) (f : Fr m h h1) (g3 : GK m) (g5 : Nat.testBit m 27 = false) (g6 : Nat.testBit m 18 = false) (f2 : Fr m2 h1 h2) (k3 : GK m2) (k5 : Nat.testBit m2 27 = false) (k6 : Nat.testBit m2 18 = false) : h2 75 4 = 2147483649 → R20 (fun i => svq h2 3 (28 + i)) (ab (fun u => h2 77 (251 + 4 * u)) (fun u => h2 77 (252 + 4 * u))) := fun z => by
  rw [g_fr f2 k6, g_fr f g6] at z
  have k := D.2 z
  intro b hb
  have e : ab (fun u => h2 77 (251 + 4 * u)) (fun u => h2 77 (252 + 4 * u)) b = ab (fun u => h 77 (251 + 4 * u)) (fun u => h 77 (252 + 4 * u)) b := ab2 (fun u _ => (i_fr f2 k5 _).trans (i_fr f g5 _)) (fun u _ => (i_fr f2 k5 _).trans (i_fr f g5 _)) b hb
  show svq h2 3 (28 + b) = _
  rw [e, kv_fr f2 k3, kv_fr f g3]
  exact k b hb
theorem Se.gen {m m2 : Nat} {h h1 h2 : xh} (D : Se h) (ht : ∀ i, i < 20 → tv h1 (28 + i) = tv h (28 + i)) (hw : ∀ i, i < 20 → ab (aw h2) (bw h2) i = ab (aw h1) (bw h1) i) (hJ1 : J h1) (f : Fr m h h1) (g3 : GK m) (g4 : GW m) (g5 : Nat.testBit m 27 = false) (g6 : Nat.testBit m 18 = false) (f2 : Fr m2 h1 h2) (k1 : GT m2) (k2 : Nat.testBit m2 1 = false) (k3 : GK m2) (k5 : Nat.testBit m2 27 = false) (k6 : Nat.testBit m2 18 = false) : Se h2 := by
  obtain ⟨e8, e9, ev⟩ := tv_fr f2 hJ1 k1 k2
  refine ⟨fun b hb => ?_, Se.kp D f g3 g5 g6 f2 k3 k5 k6⟩
  show tv h2 (28 + b) = ab (aw h2) (bw h2) b
  rw [ev, ht b hb, hw b hb, ab_gr f g4 b hb]
  exact D.1 b hb
theorem Se.fr {m : Nat} {h h' : xh} (D : Se h) (f : Fr m h h') (hJ : J h) (g1 : GT m) (g2 : Nat.testBit m 1 = false) (g3 : GK m) (g4 : GW m) (g5 : Nat.testBit m 27 = false) (g6 : Nat.testBit m 18 = false) : Se h' :=
  Se.gen (m := 0) D (fun _ _ => rfl) (ab_gr f g4) hJ (Fr.refl 0 h) (by decide) (by decide) (by decide) (by decide) f g1 g2 g3 g5 g6
theorem Se.tell {B : Nat → Nat} {n k r m m2 : Nat} {h h1 h2 : xh} (D : Se h) (S : St h) (c : Tc B n h h1 k) (t : Tf B n h1 h2 r) (hJ1 : J h1) (f : Fr m h h1) (g3 : GK m) (g4 : GW m) (g5 : Nat.testBit m 27 = false) (g6 : Nat.testBit m 18 = false) (f2 : Fr m2 h1 h2) (k1 : GT m2) (k2 : Nat.testBit m2 1 = false) (k3 : GK m2) (k5 : Nat.testBit m2 27 = false) (k6 : Nat.testBit m2 18 = false) : Se h2 := by
  have s3 := S.2.2.1
  have w0 : h1 76 0 = tv h 0 := St.lo S f g4 (i := 0) (by decide)
  have w2 : h1 76 2 = tv h 2 := St.lo S f g4 (i := 2) (by decide)
  have w3 : h1 76 3 = tv h 3 := St.lo S f g4 (i := 3) (by decide)
  have w4 : h1 76 4 = tv h 4 := St.lo S f g4 (i := 4) (by decide)
  have w5 : h1 76 5 = tv h 5 := St.lo S f g4 (i := 5) (by decide)
  have w1 : h1 76 1 = tv h 1 := St.lo S f g4 (i := 1) (by decide)
  unfold Tf at t
  rw [w0, w1, w2, w3, w4, w5] at t
  rcases c with ⟨c0, c1, c2, c3, c4, c5, c6, c7, cp, cw, -, -, cx⟩ | ⟨c0, c1, c2, c3, c4, -⟩ | ⟨c0, ⟨c5, x, c1⟩, c2, c3, c4, -⟩ <;> rcases t with ⟨t0, t1, t2, t3, t4, t5, tp, tl, -, tx⟩ | ⟨t0, t1, t2, tp, tl, -, tx⟩ | ⟨t0, ⟨y, t1⟩, t3, t2, tp, tl, -, tx⟩
  · obtain ⟨e8, e9, ev⟩ := tv_fr f2 hJ1 k1 k2
    have q : R20 (fun i => tv h (28 + i)) (ab (aw h1) (bw h1)) := fun b hb => by
      show tv h (28 + b) = ab (aw h1) (bw h1) b
      rw [ab_gr f g4 b hb]
      exact D.1 b hb
    have z := Tz.rel cx tx q
    refine ⟨fun b hb => ?_, Se.kp D f g3 g5 g6 f2 k3 k5 k6⟩
    show tv h2 (28 + b) = ab (aw h2) (bw h2) b
    rw [ev]
    exact z b hb
  · have e := c1.same t1
    cases e
  · omega
  · have e := c1.same t1
    cases e
  · exact Se.gen D (fun b _ => c2 (28 + b)) tx hJ1 f g3 g4 g5 g6 f2 k1 k2 k3 k5 k6
  · have e := c1.same t1
    cases e
  · omega
  · have e := c1.same t1
    cases e
  · exact Se.gen D (fun b _ => c2 (28 + b)) tx hJ1 f g3 g4 g5 g6 f2 k1 k2 k3 k5 k6
theorem Se.people {a k m m2 : Nat} {h h1 h2 : xh} (D : Se h) (c : Pc h h1 a k) (hJ : J h) (hJ1 : J h1) (f : Fr m h h1) (g3 : GK m) (gt : GF m) (g4 : GW m) (g5 : Nat.testBit m 27 = false) (g6 : Nat.testBit m 18 = false) (f2 : Fr m2 h1 h2) (k1 : GT m2) (k2 : Nat.testBit m2 1 = false) (k3 : GK m2) (k4p : GV m2) (k5 : Nat.testBit m2 27 = false) (k6 : Nat.testBit m2 18 = false) : Se h2 := by
  have hw : ∀ i, i < 20 → ab (aw h2) (bw h2) i = ab (aw h1) (bw h1) i := ab2 (aw_gr f2 k4p.2.2.2) (bw_gr f2 k4p.2.2.2)
  rcases c with ⟨c0, c1, c2, c3, c4, c5, c6, c7, c8, c9, ca, cb, cc⟩ | ⟨c0, c1, c2⟩ | ⟨c0, c1, c2⟩
  · exact Se.gen D (fun b _ => tv_fam f hJ gt ca (28 + b) (by omega)) hw hJ1 f g3 g4 g5 g6 f2 k1 k2 k3 k5 k6
  · subst c2
    exact Se.gen D (fun _ _ => rfl) hw hJ1 f g3 g4 g5 g6 f2 k1 k2 k3 k5 k6
  · subst c2
    exact Se.gen D (fun _ _ => rfl) hw hJ1 f g3 g4 g5 g6 f2 k1 k2 k3 k5 k6
theorem Se.image {m m2 : Nat} {h h1 h2 : xh} (D : Se h) (c : ∀ i, svq h1 3 i = tv h i) (ct : ∀ i, tv h1 i = tv h i) (t : Cpa 77 76 h1 h2 1121) (hJ1 : J h1) (f : Fr m h h1) (g4 : GW m) (f2 : Fr m2 h1 h2) (k1 : GT m2) (k2 : Nat.testBit m2 1 = false) (k3 : GK m2) (k4 : GW m2) : Se h2 := by
  obtain ⟨e8, e9, ev⟩ := tv_fr f2 hJ1 k1 k2
  refine ⟨fun b hb => ?_, fun _ b hb => ?_⟩
  · show tv h2 (28 + b) = ab (aw h2) (bw h2) b
    rw [ev, ct, ab_gr f2 k4 b hb, ab_gr f g4 b hb]
    exact D.1 b hb
  · show svq h2 3 (28 + b) = _
    have e : ab (fun u => h2 77 (251 + 4 * u)) (fun u => h2 77 (252 + 4 * u)) b = ab (aw h1) (bw h1) b := ab2 (fun u _ => t _ (by omega)) (fun u _ => t _ (by omega)) b hb
    rw [e, kv_fr f2 k3, c, ab_gr f g4 b hb]
    exact D.1 b hb
theorem Se.back {r r2 m m2 : Nat} {h h1 h2 : xh} (D : Se h) (hr : r = h 75 4) (hb9 : r = 2147483648 ∨ r = 2147483649) (c1 : r = 2147483649 → ∀ i, tv h1 i = svq h 3 i) (c0 : r = 2147483648 → ∀ i, tv h1 i = tv h i) (e : r2 = r) (t1 : r2 = 2147483649 → Cpa 76 77 h1 h2 1121) (t0 : r2 = 2147483648 → ∀ i, h2 76 i = h1 76 i) (hJ1 : J h1) (f : Fr m h h1) (g3 : GK m) (g4 : GW m) (g5 : Nat.testBit m 27 = false) (g6 : Nat.testBit m 18 = false) (f2 : Fr m2 h1 h2) (k1 : GT m2) (k2 : Nat.testBit m2 1 = false) (k3 : GK m2) (k5 : Nat.testBit m2 27 = false) (k6 : Nat.testBit m2 18 = false) : Se h2 := by
  rcases hb9 with y | y
  · exact Se.gen D (fun b _ => c0 y (28 + b)) (ab2 (fun u _ => t0 (e.trans y) _) (fun u _ => t0 (e.trans y) _)) hJ1 f g3 g4 g5 g6 f2 k1 k2 k3 k5 k6
  · obtain ⟨e8, e9, ev⟩ := tv_fr f2 hJ1 k1 k2
    have z := D.2 (hr.symm.trans y)
    refine ⟨fun b hb => ?_, Se.kp D f g3 g5 g6 f2 k3 k5 k6⟩
    show tv h2 (28 + b) = ab (aw h2) (bw h2) b
    have q : ab (aw h2) (bw h2) b = ab (fun u => h 77 (251 + 4 * u)) (fun u => h 77 (252 + 4 * u)) b := ab2 (fun u _ => (t1 (e.trans y) _ (by omega)).trans (i_fr f g5 _)) (fun u _ => (t1 (e.trans y) _ (by omega)).trans (i_fr f g5 _)) b hb
    rw [ev, c1 y, q]
    exact z b hb
theorem Se.purse {a b k r m m2 : Nat} {h h1 h2 : xh} (D : Se h) (c : Uc h h1 a b k) (t : Uf h1 h2 a b r) (hJ1 : J h1) (f : Fr m h h1) (g3 : GK m) (g4 : GW m) (g5 : Nat.testBit m 27 = false) (g6 : Nat.testBit m 18 = false) (f2 : Fr m2 h1 h2) (k1 : GT m2) (k2 : Nat.testBit m2 1 = false) (k3 : GK m2) (k5 : Nat.testBit m2 27 = false) (k6 : Nat.testBit m2 18 = false) : Se h2 := by
  have key : ∀ i, 251 ≤ i → i < 290 → (∃ u, u < 10 ∧ (i = 251 + 4 * u ∨ i = 252 + 4 * u)) → h2 76 i = h1 76 i := fun i q1 q2 q3 => by
    rcases t with ⟨-, y, -, t2, -, -, -, t6, -⟩ | ⟨-, -, t2⟩ | ⟨-, -, t2⟩
    · rw [t6, if_neg (by obtain ⟨u, u1, u2⟩ := q3; omega)]
    · exact t2 _
    · exact t2 _
  have hw : ∀ i, i < 20 → ab (aw h2) (bw h2) i = ab (aw h1) (bw h1) i := ab2 (fun u hu => key _ (by omega) (by omega) ⟨u, hu, Or.inl rfl⟩) (fun u hu => key _ (by omega) (by omega) ⟨u, hu, Or.inr rfl⟩)
  have ht : ∀ i, i < 20 → tv h1 (28 + i) = tv h (28 + i) := fun v hv => by
    rcases c with ⟨-, u, -, c2, -, -, -, c6⟩ | ⟨-, -, c2⟩ | ⟨-, -, c2⟩
    · rw [c6.1 (28 + v) (by omega), if_neg (by omega)]
    · rw [c2]
    · rw [c2]
  exact Se.gen D ht hw hJ1 f g3 g4 g5 g6 f2 k1 k2 k3 k5 k6
theorem Se.wish {a b k r m m2 : Nat} {h h1 h2 : xh} (D : Se h) (c : Vc h h1 a b k) (t : Vf h1 h2 a b r) (hJ1 : J h1) (f : Fr m h h1) (g3 : GK m) (g4 : GW m) (g5 : Nat.testBit m 27 = false) (g6 : Nat.testBit m 18 = false) (f2 : Fr m2 h1 h2) (k1 : GT m2) (k2 : Nat.testBit m2 1 = false) (k3 : GK m2) (k5 : Nat.testBit m2 27 = false) (k6 : Nat.testBit m2 18 = false) : Se h2 := by
  have key : ∀ i, 251 ≤ i → i < 290 → (∃ u, u < 10 ∧ (i = 251 + 4 * u ∨ i = 252 + 4 * u)) → h2 76 i = h1 76 i := fun i q1 q2 q3 => by
    rcases t with ⟨-, y, -, t2, -, -, t6, -⟩ | ⟨-, -, t2⟩
    · rw [t6, if_neg (by obtain ⟨u, u1, u2⟩ := q3; omega)]
    · exact t2 _
  have hw : ∀ i, i < 20 → ab (aw h2) (bw h2) i = ab (aw h1) (bw h1) i := ab2 (fun u hu => key _ (by omega) (by omega) ⟨u, hu, Or.inl rfl⟩) (fun u hu => key _ (by omega) (by omega) ⟨u, hu, Or.inr rfl⟩)
  have ht : ∀ i, i < 20 → tv h1 (28 + i) = tv h (28 + i) := fun v hv => by
    rcases c with ⟨-, u, -, c2, -, -, c6⟩ | ⟨-, -, c2⟩
    · rw [c6.1 (28 + v) (by omega), if_neg (by omega)]
    · rw [c2]
  exact Se.gen D ht hw hJ1 f g3 g4 g5 g6 f2 k1 k2 k3 k5 k6
/-- can alike -/
theorem kn_alike {a k r m : Nat} {h h1 h2 : xh} (S : St h) (D : Sd h) (G : Se h) (c : Kc h h1 a k) (t : Kf h1 h2 a r) (hJ : J h) (f : Fr m h h1) (g4 : GW m) (ho : h2 97 0 = h1 97 0) : k = h2 75 0 ∧ (k = 2147483648 → h2 97 0 = r) := by
  have w0 : h1 76 0 = tv h 0 := St.lo S f g4 (i := 0) (by decide)
  have w5 : h1 76 5 = tv h 5 := St.lo S f g4 (i := 5) (by decide)
  rcases c with ⟨c0, u, c1, c2, c3, c4⟩ | ⟨c0, c1⟩ <;> rcases t with ⟨t0, y, t1, t2, t3, t4⟩ | ⟨t0, t1⟩
  · have hu : y = u := by omega
    subst hu
    refine ⟨by omega, fun _ => ?_⟩
    have d1 : h (h 0 8 + 8) (1 + 4 * y) = h1 76 (251 + 4 * y) := by
      have z := G.1 y (by omega)
      have z : tv h (28 + y) = ab (aw h) (bw h) y := z
      unfold tv at z
      rw [svq_s y (by omega), ab_1 c2, ab_1 c2] at z
      exact z.trans (aw_gr f g4.2.2.2.2 y c2).symm
    have d2 : h (h 0 8 + 8) (2 + 4 * y) = h1 76 (252 + 4 * y) := by
      have z := G.1 (10 + y) (by omega)
      have z : tv h (28 + (10 + y)) = ab (aw h) (bw h) (10 + y) := z
      unfold tv at z
      rw [svq_s (10 + y) (by omega), ab_2, ab_2] at z
      exact z.trans (bw_gr f g4.2.2.2.2 y c2).symm
    have n1 : 2147483648 ≤ h1 76 (251 + 4 * y) ∧ h1 76 (251 + 4 * y) ≤ 2147483659 := by
      have z : ∀ u, u < 10 → j_lo 76 (251 + 4 * u) = 2147483648 ∧ j_hi 76 (251 + 4 * u) = 2147483659 ∧ 251 + 4 * u < x_ln 76 := by decide +kernel
      obtain ⟨z1, z2, z3⟩ := z y c2
      have e : h1 76 (251 + 4 * y) = h 76 (251 + 4 * y) := aw_gr f g4.2.2.2.2 y c2
      rw [e, ← z1, ← z2]
      exact hJ.1 76 _ (by decide) z3
    have n2 : h1 76 0 ≤ 2147483654 := by
      have z := (hJ.1 76 0 (by decide) (by decide +kernel)).2
      rw [show j_hi 76 0 = 2147483654 by decide +kernel] at z
      have e : h 76 0 = tv h 0 := by
        have q := S.2.1 0 (by decide)
        rw [wx_0 (by decide)] at q
        exact q.symm
      omega
    have key : ∀ k, k < 6 → (hb9 ((fun b => h 46 b) k) (h1 76 (251 + 4 * y)) = 2147483649 ↔ h1 76 (251 + 4 * y) < (fun b => h1 76 (8 + b)) k) := fun k hk => by
      show hb9 (h 46 k) (h1 76 (251 + 4 * y)) = 2147483649 ↔ h1 76 (251 + 4 * y) < h1 76 (8 + k)
      obtain ⟨x1, x2⟩ := tv_12 hJ hk
      have e1 : tv h (12 + k) = min 2147483660 (xw h k) := D.1 k hk
      have e2 : h1 76 (8 + k) = xw h k := xw_gr f g4.2.2.1 k hk
      rw [D.2.1 k hk, al_bit x1 x2 n1.1 n1.2, e2]
      omega
    rw [ho, c4, t4, d1, d2, w0]
    exact cb_cr key _ (by omega)
  · omega
  · omega
  · exact ⟨by omega, fun z => by omega⟩
/-- the law's invariant -/
def INV4 (h : xh) : Prop := INV h ∧ Ty h ∧ St h
def INV8 (h : xh) : Prop := INV h ∧ Ty h ∧ St h ∧ Sd h
def INV9b (h : xh) : Prop := INV h ∧ Ty h ∧ St h ∧ Sd h ∧ Se h
