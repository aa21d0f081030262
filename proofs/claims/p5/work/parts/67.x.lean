/-! ===== the rules over tables: numbers, branches, arrays, ends, calls ===== -/
section XR2
variable {sc : Nat × Nat} {mi d c0 s0 pc np x a z v : Nat} {lo lo' st : List Nat} {h : xh} {Q : Nat → xh → Prop}
theorem x_icmp {k tg : Nat} (w : wd mi pc 5 np (tg + 65536 * k)) (hn : tg < 65536 ∧ k ≤ 5) (ha : a < 4294967296) (hz : z < 4294967296) (h1 : iw_cd k a z → X sc mi d Q c0 s0 tg lo st h) (h2 : ¬ iw_cd k a z → X sc mi d Q c0 s0 np lo st h) : X sc mi d Q c0 s0 pc lo (iv_c z :: iv_c a :: st) h := fun L hL => by
  by_cases q : iw_cd k a z
  · obtain ⟨v, b, c, e, f, g⟩ := h1 q L hL
    exact ⟨v, b, c, e, f, iw_icmp w.1 ⟨w.2, hn⟩ (wd_ne w (by decide)) ha hz (fun _ => g) (fun n => absurd q n)⟩
  · obtain ⟨v, b, c, e, f, g⟩ := h2 q L hL
    exact ⟨v, b, c, e, f, iw_icmp w.1 ⟨w.2, hn⟩ (wd_ne w (by decide)) ha hz (fun n => absurd n q) (fun _ => g)⟩
theorem x_ifz {k tg : Nat} (w : wd mi pc 14 np (tg + 65536 * k)) (hn : tg < 65536 ∧ k ≤ 5) (ha : a < 4294967296) (h1 : iw_cd k a 2147483648 → X sc mi d Q c0 s0 tg lo st h) (h2 : ¬ iw_cd k a 2147483648 → X sc mi d Q c0 s0 np lo st h) : X sc mi d Q c0 s0 pc lo (iv_c a :: st) h := fun L hL => by
  by_cases q : iw_cd k a 2147483648
  · obtain ⟨v, b, c, e, f, g⟩ := h1 q L hL
    exact ⟨v, b, c, e, f, iw_ifz w.1 ⟨w.2, hn⟩ (wd_ne w (by decide)) ha (fun _ => g) (fun n => absurd q n)⟩
  · obtain ⟨v, b, c, e, f, g⟩ := h2 q L hL
    exact ⟨v, b, c, e, f, iw_ifz w.1 ⟨w.2, hn⟩ (wd_ne w (by decide)) ha (fun n => absurd n q) (fun _ => g)⟩
theorem x_iadd (w : wd mi pc 6 np x) (ha : a < 4294967296) (hz : z < 4294967296) (hv : v + 2147483648 = a + z) (h2 : v < 4294967296) (k : X sc mi d Q c0 s0 np lo (iv_c v :: st) h) : X sc mi d Q c0 s0 pc lo (iv_c z :: iv_c a :: st) h := fun L hL => by
  obtain ⟨r, b, c, e, f, g⟩ := k L hL
  have e9 : v = a + z - 2147483648 := by omega
  rw [e9] at g
  exact ⟨r, b, c, e, f, iw_iadd w.1 w.2 (wd_ne w (by decide)) ha hz (by omega) (by omega) g⟩
theorem x_isub (w : wd mi pc 22 np x) (ha : a < 4294967296) (hz : z < 4294967296) (hv : v + z = a + 2147483648) (h2 : v < 4294967296) (k : X sc mi d Q c0 s0 np lo (iv_c v :: st) h) : X sc mi d Q c0 s0 pc lo (iv_c z :: iv_c a :: st) h := fun L hL => by
  obtain ⟨r, b, c, e, f, g⟩ := k L hL
  have e9 : v = a + 2147483648 - z := by omega
  rw [e9] at g
  exact ⟨r, b, c, e, f, iw_isub w.1 w.2 (wd_ne w (by decide)) ha hz (by omega) (by omega) g⟩
theorem x_iinc {i j : Nat} (w : wd mi pc 10 np (i + 256 * iv_c j)) (hi : i < 256) (hj : j < 4294967296) (hx : lo[i]? = some (iv_c a)) (ha : a < 4294967296) (hv : v + 2147483648 = a + j) (h2 : v < 4294967296) (hl : lo.set i (iv_c v) = lo') (k : X sc mi d Q c0 s0 np lo' st h) : X sc mi d Q c0 s0 pc lo st h := fun L hL => by
  obtain ⟨r, b, c, e, f, g⟩ := k L hL
  have e9 : v = a + j - 2147483648 := by omega
  subst hl
  rw [e9] at g
  exact ⟨r, b, c, e, f, iw_iinc w.1 ⟨w.2, hi⟩ (wd_ne w (by decide)) hx ha hj (by omega) (by omega) g⟩
theorem x_imul {i j : Nat} (w : wd mi pc 15 np x) (ha : a = 2147483648 + i) (hz : z = 2147483648 + j) (hv : v = 2147483648 + i * j) (h2 : v < 4294967296) (ha2 : a < 4294967296) (hz2 : z < 4294967296) (k : X sc mi d Q c0 s0 np lo (iv_c v :: st) h) : X sc mi d Q c0 s0 pc lo (iv_c z :: iv_c a :: st) h := fun L hL => by
  obtain ⟨r, b, c, e, f, g⟩ := k L hL
  have e1 : a - 2147483648 = i := by rw [ha]; exact Nat.add_sub_cancel_left _ _
  have e2 : z - 2147483648 = j := by rw [hz]; exact Nat.add_sub_cancel_left _ _
  have e4 : 2147483648 ≤ a := by rw [ha]; exact Nat.le_add_right _ _
  have e5 : 2147483648 ≤ z := by rw [hz]; exact Nat.le_add_right _ _
  have e6 : (a - 2147483648) * (z - 2147483648) ≤ 2147483647 := by
    rw [e1, e2]
    rw [hv] at h2
    generalize i * j = p at h2
    omega
  have e3 : v = (a - 2147483648) * (z - 2147483648) + 2147483648 := by rw [e1, e2, hv, Nat.add_comm]
  refine ⟨r, b, c, e, f, iw_imul w.1 w.2 (wd_ne w (by decide)) ha2 hz2 e4 e5 e6 ?_⟩
  rw [← e3]
  exact g
theorem x_alen {r n : Nat} (w : wd mi pc 24 np x) (hr : r < x_nc) (hk : x_kd r % 4 ≠ 0) (hn : x_ln r = n) (h5 : n ≤ 2147483647) (k : X sc mi d Q c0 s0 np lo (iv_c (2147483648 + n) :: st) h) : X sc mi d Q c0 s0 pc lo (x_r r :: st) h := fun L hL => by
  obtain ⟨v, b, c, e, f, g⟩ := k L hL
  have i1 := (hL r hr).1
  rw [hn] at i1
  exact ⟨v, b, c, e, f, iw_alen w.1 w.2 (wd_ne w (by decide)) (x_nc_le hr) i1 (by omega) h5 g⟩
/-- cell r is an array of kind kd (1 int, 2 byte) of n places -/
def x_a (r kd n : Nat) : Bool := Nat.blt r x_nc && (Nat.beq (x_kd r) kd && (Nat.beq (x_ln r) n && Nat.beq (x_mk r) 0))
theorem x_a_of {r kd n : Nat} (g : x_a r kd n = true) : r < x_nc ∧ x_kd r = kd ∧ x_ln r = n ∧ x_mk r = 0 := by
  unfold x_a at g
  rw [Bool.and_eq_true, Bool.and_eq_true, Bool.and_eq_true] at g
  obtain ⟨g1, g2, g3, g4⟩ := g
  exact ⟨Nat.blt_eq.mp g1, Nat.eq_of_beq_eq_true g2, Nat.eq_of_beq_eq_true g3, Nat.eq_of_beq_eq_true g4⟩
theorem x_a_ty {r kd n : Nat} (g : x_a r kd n = true) (hkd : kd = 1 ∨ kd = 2) (i : Nat) : x_ty r i = 0 := by
  obtain ⟨-, g2, -, g4⟩ := x_a_of g
  unfold x_ty
  rw [g2, g4]
  rcases hkd with rfl | rfl <;> rfl
theorem x_ald {r kd n i : Nat} (w : wd mi pc (if kd = 1 then 8 else 31) np x) (hkd : kd = 1 ∨ kd = 2) (g : x_a r kd n = true) (ha : a = 2147483648 + i) (hi : i < n) (hn : n ≤ 2147483647) (k : h r i < 4294967296 → X sc mi d Q c0 s0 np lo (iv_c (h r i) :: st) h) : X sc mi d Q c0 s0 pc lo (iv_c a :: x_r r :: st) h := fun L hL => by
  obtain ⟨g1, g2, g3, g4⟩ := x_a_of g
  obtain ⟨i1, i2⟩ := (hL r g1)
  rw [g2, g3] at i1
  obtain ⟨j1, j2⟩ := i2 i (by rw [g3]; exact hi)
  obtain ⟨v, b, c, e, f1, g9⟩ := k j2 L hL
  rw [x_a_ty g hkd] at j1
  have j1 : iw_get L r i = iv_c (h r i) := j1
  have e1 : a - 2147483648 = i := by omega
  rw [← j1, ← e1] at g9
  exact ⟨v, b, c, e, f1, iw_ald w.1 hkd w.2 (wd_ne w (by rcases hkd with rfl | rfl <;> decide)) (x_nc_le g1) i1 (by omega) (by omega) (by omega) g9⟩
theorem x_ast {r kd n i : Nat} (w : wd mi pc (if kd = 1 then 9 else 32) np x) (hkd : kd = 1 ∨ kd = 2) (g : x_a r kd n = true) (ha : a = 2147483648 + i) (hi : i < n) (hn : n ≤ 2147483647) (hz : z < 4294967296) (hb : kd = 2 → 2147483520 ≤ z ∧ z ≤ 2147483775) (k : X sc mi d Q c0 s0 np lo st (x_up h r i z)) : X sc mi d Q c0 s0 pc lo (iv_c z :: iv_c a :: x_r r :: st) h := fun L hL => by
  obtain ⟨g1, g2, g3, g4⟩ := x_a_of g
  obtain ⟨i1, i2⟩ := (hL r g1)
  rw [g2, g3] at i1
  have p := xR_put hL g1 (i := i) (by rw [g3]; exact hi) hz
  rw [x_a_ty g hkd] at p
  obtain ⟨v, b, c, e, f1, g9⟩ := k _ p
  have e1 : a - 2147483648 = i := by omega
  refine ⟨v, b, c, e, f1, iw_ast w.1 hkd w.2 (wd_ne w (by rcases hkd with rfl | rfl <;> decide)) (x_nc_le g1) i1 (by omega) (by omega) (by omega) hz hb ?_⟩
  rw [e1]
  exact g9
theorem x_bs (w : Int32) : iv_bs w < 4294967296 := Nat.mod_lt _ (by decide)
/-- and, or, exclusive or, shifts: any number may come -/
theorem x_any {k9 : Nat} (w : wd mi pc 17 np k9) (h5 : k9 ≤ 5) (ha : a < 4294967296) (hz : z < 4294967296) (k : ∀ v, v < 4294967296 → X sc mi d Q c0 s0 np lo (iv_c v :: st) h) : X sc mi d Q c0 s0 pc lo (iv_c z :: iv_c a :: st) h := fun L hL => by
  have hq : ∃ q, iv_alu k9 a z = some q := by
    match k9, h5 with
    | 0, _ => exact ⟨_, rfl⟩
    | 1, _ => exact ⟨_, rfl⟩
    | 2, _ => exact ⟨_, rfl⟩
    | 3, _ => exact ⟨_, rfl⟩
    | 4, _ => exact ⟨_, rfl⟩
    | 5, _ => exact ⟨_, rfl⟩
    | n + 6, h => exact absurd h (by omega)
  obtain ⟨q, hq⟩ := hq
  obtain ⟨v, b, c, e, f1, g9⟩ := k (iv_bs q) (x_bs q) L hL
  exact ⟨v, b, c, e, f1, iw_alu w.1 w.2 (wd_ne w (by decide)) ha hz hq g9⟩
theorem x_retI (w : wd mi pc 11 np x) (ha : a < 4294967296) (hr : (pg_i mi).2.1 = 1 ∨ ((pg_i mi).2.1 = 2 ∧ 2147483648 ≤ a ∧ a ≤ 2147483649)) (hq : Q (iv_c a) h) : X sc mi d Q c0 s0 pc lo [iv_c a] h := fun L hL =>
  ⟨iv_c a, L, h, hL, hq, iw_retv w.1 w.2 ha hr⟩
theorem x_retV (w : wd mi pc 16 np x) (hr : (pg_i mi).2.1 = 0) (hq : Q 147573952589676412928 h) : X sc mi d Q c0 s0 pc lo [] h := fun L hL =>
  ⟨147573952589676412928, L, h, hL, hq, iw_retn w.1 w.2 hr⟩
theorem x_thr (w : wd mi pc 25 np x) (hb : c0 + 1 ≤ (pg_i mi).2.2.1 ∧ s0 + 6 ≤ (pg_i mi).2.2.2) (h3 : iv_wl st ≤ 8) (hq : Q (166020696663385964544 + x) h) : X sc mi d Q c0 s0 pc lo st h := fun L hL =>
  ⟨166020696663385964544 + x, L, h, hL, hq, iw_thr w.1 w.2 hb.1 hb.2 h3⟩
theorem x_tsw0 (w : wd mi pc 26 np x) (ha : a < 4294967296) {tg lo9 hi9 : Nat} (ht : (pg_t mi).1 = lo9 ∧ (pg_t mi).2.1 = hi9 ∧ (pg_t mi).2.2.1 = tg) (h1 : a < lo9 ∨ hi9 < a) (k : X sc mi d Q c0 s0 tg lo st h) : X sc mi d Q c0 s0 pc lo (iv_c a :: st) h := fun L hL => by
  obtain ⟨t1, t2, t3⟩ := ht
  subst t1
  subst t2
  subst t3
  obtain ⟨v, b, c, e, f, g⟩ := k L hL
  exact ⟨v, b, c, e, f, iw_tsw0 w.1 w.2 (wd_ne w (by decide)) ha h1 g⟩
theorem x_tsw1 (w : wd mi pc 26 np x) (ha : a < 4294967296) {i tg lo9 hi9 : Nat} (ht : (pg_t mi).1 = lo9 ∧ (pg_t mi).2.1 = hi9 ∧ ((pg_t mi).2.2.2 >>> (16 * i)) % 65536 = tg) (h1 : lo9 + i = a) (h2 : a ≤ hi9) (k : X sc mi d Q c0 s0 tg lo st h) : X sc mi d Q c0 s0 pc lo (iv_c a :: st) h := fun L hL => by
  obtain ⟨t1, t2, t3⟩ := ht
  subst t1
  subst t2
  obtain ⟨v, b, c, e, f, g⟩ := k L hL
  exact ⟨v, b, c, e, f, iw_tsw1 w.1 w.2 (wd_ne w (by decide)) ha h1 h2 t3 g⟩
theorem x_min (w : wd mi pc 12 np 3145728) (ha : a < 4294967296) (hz : z < 4294967296) (h8 : iv_wl (iv_c z :: iv_c a :: st) ≤ 8) (k : X sc mi d Q c0 s0 np lo (iv_c (min a z) :: st) h) : X sc mi d Q c0 s0 pc lo (iv_c z :: iv_c a :: st) h := fun L hL =>
  let ⟨v, b, c, e, f, g⟩ := k L hL; ⟨v, b, c, e, f, iw_min w.1 w.2 (wd_ne w (by decide)) ha hz h8 g⟩
theorem x_max (w : wd mi pc 12 np 4194304) (ha : a < 4294967296) (hz : z < 4294967296) (h8 : iv_wl (iv_c z :: iv_c a :: st) ≤ 8) (k : X sc mi d Q c0 s0 np lo (iv_c (max a z) :: st) h) : X sc mi d Q c0 s0 pc lo (iv_c z :: iv_c a :: st) h := fun L hL =>
  let ⟨v, b, c, e, f, g⟩ := k L hL; ⟨v, b, c, e, f, iw_max w.1 w.2 (wd_ne w (by decide)) ha hz h8 g⟩
/-- the words of a list -/
theorem x_wn : iv_wl [] ≤ 0 := Nat.le_refl _
theorem x_wc {v n : Nat} {l : List Nat} (hv : v ≤ 73786976294838206463) (k : iv_wl l ≤ n) : iv_wl (v :: l) ≤ n + 1 := by
  show Nat.add (@Bool.rec (fun _ => Nat) 2 1 (Nat.ble v 73786976294838206463)) (iv_wl l) ≤ n + 1
  have e : Nat.ble v 73786976294838206463 = true := by rw [iv_n7]; exact hv
  rw [e]
  show 1 + iv_wl l ≤ n + 1
  omega
theorem x_wi {a n : Nat} {l : List Nat} (ha : a < 4294967296) (k : iv_wl l ≤ n) : iv_wl (iv_c a :: l) ≤ n + 1 := x_wc (by have := (iw_c_lt ha).1; omega) k
theorem x_wr {r n : Nat} {l : List Nat} (hr : r < x_nc) (k : iv_wl l ≤ n) : iv_wl (x_r r :: l) ≤ n + 1 := x_wc (by have := x_nc_le hr; unfold x_r; omega) k
/-- the numbers of a call: the callee's room, its receiver's class -/
def x_cb (mi mj n ml cc ss c0 s0 : Nat) : Bool := Nat.beq (pg_i mj).1 ml && (Nat.beq (pg_i mj).2.2.1 cc && (Nat.beq (pg_i mj).2.2.2 ss && (Nat.ble (c0 + cc) (pg_i mi).2.2.1 && (Nat.ble (s0 + ss) (pg_i mi).2.2.2 && (Nat.ble n ml && (Nat.blt mj 4096 && (Nat.blt n 256 && !(Nat.beq (pg_c mj) 0))))))))
theorem x_cb_of {mi mj n ml cc ss c0 s0 : Nat} (g : x_cb mi mj n ml cc ss c0 s0 = true) : (pg_i mj).1 = ml ∧ (pg_i mj).2.2.1 = cc ∧ (pg_i mj).2.2.2 = ss ∧ c0 + cc ≤ (pg_i mi).2.2.1 ∧ s0 + ss ≤ (pg_i mi).2.2.2 ∧ n ≤ ml ∧ mj < 4096 ∧ n < 256 ∧ pg_c mj ≠ 0 := by
  unfold x_cb at g
  rw [Bool.and_eq_true, Bool.and_eq_true, Bool.and_eq_true, Bool.and_eq_true, Bool.and_eq_true, Bool.and_eq_true, Bool.and_eq_true, Bool.and_eq_true, Bool.not_eq_true'] at g
  obtain ⟨g1, g2, g3, g4, g5, g6, g7, g8, g9⟩ := g
  refine ⟨Nat.eq_of_beq_eq_true g1, Nat.eq_of_beq_eq_true g2, Nat.eq_of_beq_eq_true g3, Nat.le_of_ble_eq_true g4, Nat.le_of_ble_eq_true g5, Nat.le_of_ble_eq_true g6, Nat.blt_eq.mp g7, Nat.blt_eq.mp g8, fun e => ?_⟩
  rw [e] at g9
  cases g9
def x_rc (rc : Nat) (as : List Nat) : Prop := rc = 0 ∨ ∃ r t, as = x_r r :: t ∧ r < x_nc ∧ x_kd r % 4 = 0 ∧ iv_sub2 (x_kd r / 4) (rc - 1) = true
/-- the receiver's class, by numbers -/
noncomputable def x_rb (rc r : Nat) : Bool := Nat.blt r x_nc && (Nat.beq (x_kd r % 4) 0 && iv_sub2 (x_kd r / 4) (rc - 1))
theorem x_rb_of {rc r : Nat} {t : List Nat} (g : x_rb rc r = true) : x_rc rc (x_r r :: t) := by
  unfold x_rb at g
  rw [Bool.and_eq_true, Bool.and_eq_true] at g
  exact Or.inr ⟨r, t, rfl, Nat.blt_eq.mp g.1, Nat.eq_of_beq_eq_true g.2.1, g.2.2⟩
/-- a call: its callee's end, and what is made of it -/
theorem x_call {t mj n rc ml cc ss nr : Nat} {as rest lo1 : List Nat} {Q' : Nat → xh → Prop} (w : wd mi pc 12 np (mj + 4096 * n + 1048576 * t + 16777216 * rc)) (ht : t = 6 ∨ t = 8 ∨ (t = 0 ∧ rc = 0) ∨ (t = 7 ∧ rc = 0)) (g : x_cb mi mj n ml cc ss c0 s0 = true) (hrc : x_rc rc as) (hst : st = as.reverse ++ rest) (hn : as.length = n) (hwa : iv_wl as ≤ n) (hwr : iv_wl rest ≤ nr) (h8 : nr ≤ 8) (hl : lo1 = as ++ List.replicate (ml - n) 147573952589676412928)
    (k : X sc mj d Q' 0 0 0 lo1 [] h)
    (k2 : ∀ v h', Q' v h' → (v < 147573952589676412928 ∧ X sc mi (d + 1) Q (c0 + cc) (s0 + ss) np lo (v :: rest) h') ∨ (v = 147573952589676412928 ∧ X sc mi (d + 1) Q (c0 + cc) (s0 + ss) np lo rest h') ∨ (147573952589676412928 < v ∧ (t = 6 ∨ t = 0) ∧ pg_h mi = [] ∧ Q v h') ∨ (∃ E hp, v = 166020696663385964544 + E ∧ (t = 6 ∨ t = 0) ∧ (∀ K n, iv_hd (pg_h mi) pc E K n = K hp) ∧ X sc mi (d + 1) Q (c0 + cc) (s0 + ss) hp lo [55340232221128654850] h')) :
    X sc mi (d + 1) Q c0 s0 pc lo st h := fun L hL => by
  obtain ⟨v, L', h', e, q, g9⟩ := k L hL
  obtain ⟨p1, p2, p3, p4, p5, p6, p7, p8, p9⟩ := x_cb_of g
  subst p1
  subst p2
  subst p3
  subst hst
  subst hl
  have hk : iw_ok mi mj n rc c0 s0 as rest L := ⟨hn, by
    rcases hrc with h0 | ⟨r, t9, r1, r2, r3, r4⟩
    · exact Or.inl h0
    · exact Or.inr ⟨r, t9, x_kd r, x_ln r, r1, x_nc_le r2, (hL r r2).1, r3, r4⟩, Nat.le_trans hwr h8, hwa, p4, p5, p6, p9⟩
  have ht' : ∃ nt, ((t = 6 ∧ nt = 0) ∨ (t = 8 ∧ nt = 1) ∨ (t = 0 ∧ nt = 0 ∧ rc = 0) ∨ (t = 7 ∧ nt = 1 ∧ rc = 0)) ∧ ((t = 6 ∨ t = 0) → nt = 0) := by
    rcases ht with rfl | rfl | ⟨rfl, r0⟩ | ⟨rfl, r0⟩
    · exact ⟨0, Or.inl ⟨rfl, rfl⟩, fun _ => rfl⟩
    · exact ⟨1, Or.inr (Or.inl ⟨rfl, rfl⟩), fun z => absurd z (by decide)⟩
    · exact ⟨0, Or.inr (Or.inr (Or.inl ⟨rfl, rfl, r0⟩)), fun _ => rfl⟩
    · exact ⟨1, Or.inr (Or.inr (Or.inr ⟨rfl, rfl, r0⟩)), fun z => absurd z (by decide)⟩
  obtain ⟨nt, t1, t2⟩ := ht'
  have go : ∀ out, iw_af sc mi (d + 1) out (v, L') nt (c0 + (pg_i mj).2.2.1) (s0 + (pg_i mj).2.2.2) pc np lo rest → iw_all sc mi (d + 1) out c0 s0 pc lo (as.reverse ++ rest) L := fun out z => iw_inv2 w.1 ⟨w.2, p7, p8⟩ t1 (wd_ne w (by decide)) hk g9 z
  rcases k2 v h' q with ⟨a1, a2⟩ | ⟨a1, a2⟩ | ⟨a1, a2, a3, a4⟩ | ⟨E, hp, a1, a2, a3, a4⟩
  · obtain ⟨r, L2, h2, b1, b2, b3⟩ := a2 L' e
    exact ⟨r, L2, h2, b1, b2, go _ (Or.inl ⟨a1, b3⟩)⟩
  · obtain ⟨r, L2, h2, b1, b2, b3⟩ := a2 L' e
    exact ⟨r, L2, h2, b1, b2, go _ (Or.inr (Or.inl ⟨a1, b3⟩))⟩
  · exact ⟨v, L', h', e, a4, go _ (Or.inr (Or.inr (Or.inl ⟨a1, t2 a2, a3, rfl⟩)))⟩
  · obtain ⟨r, L2, h2, b1, b2, b3⟩ := a4 L' e
    exact ⟨r, L2, h2, b1, b2, go _ (Or.inr (Or.inr (Or.inr ⟨E, hp, a1, t2 a2, a3, b3⟩)))⟩
/-- an int comes, nothing is thrown -/
def xI (P : Nat → xh → Prop) : Nat → xh → Prop := fun v h' => ∃ r, v = iv_c r ∧ r < 4294967296 ∧ P r h'
def xV (P : xh → Prop) : Nat → xh → Prop := fun v h' => v = 147573952589676412928 ∧ P h'
theorem x_cI {t mj n rc ml nr : Nat} {as rest lo1 : List Nat} {P : Nat → xh → Prop} (w : wd mi pc 12 np (mj + 4096 * n + 1048576 * t + 16777216 * rc)) (ht : t = 6 ∨ t = 8 ∨ (t = 0 ∧ rc = 0) ∨ (t = 7 ∧ rc = 0)) (g : x_cb mi mj n ml 0 0 c0 s0 = true) (hrc : x_rc rc as) (hst : st = as.reverse ++ rest) (hn : as.length = n) (hwa : iv_wl as ≤ n) (hwr : iv_wl rest ≤ nr) (h8 : nr ≤ 8) (hl : lo1 = as ++ List.replicate (ml - n) 147573952589676412928)
    (k : X sc mj d (xI P) 0 0 0 lo1 [] h) (k2 : ∀ r h', r < 4294967296 → P r h' → X sc mi (d + 1) Q c0 s0 np lo (iv_c r :: rest) h') : X sc mi (d + 1) Q c0 s0 pc lo st h :=
  x_call w ht g hrc hst hn hwa hwr h8 hl k (fun v h' q => by
    obtain ⟨r, rfl, q1, q2⟩ := q
    exact Or.inl ⟨Nat.lt_trans (iw_c_lt q1).1 (by decide), k2 r h' q1 q2⟩)
theorem x_cV {t mj n rc ml nr : Nat} {as rest lo1 : List Nat} {P : xh → Prop} (w : wd mi pc 12 np (mj + 4096 * n + 1048576 * t + 16777216 * rc)) (ht : t = 6 ∨ t = 8 ∨ (t = 0 ∧ rc = 0) ∨ (t = 7 ∧ rc = 0)) (g : x_cb mi mj n ml 0 0 c0 s0 = true) (hrc : x_rc rc as) (hst : st = as.reverse ++ rest) (hn : as.length = n) (hwa : iv_wl as ≤ n) (hwr : iv_wl rest ≤ nr) (h8 : nr ≤ 8) (hl : lo1 = as ++ List.replicate (ml - n) 147573952589676412928)
    (k : X sc mj d (xV P) 0 0 0 lo1 [] h) (k2 : ∀ h', P h' → X sc mi (d + 1) Q c0 s0 np lo rest h') : X sc mi (d + 1) Q c0 s0 pc lo st h :=
  x_call w ht g hrc hst hn hwa hwr h8 hl k (fun v h' q => Or.inr (Or.inl ⟨q.1, k2 h' q.2⟩))
end XR2
