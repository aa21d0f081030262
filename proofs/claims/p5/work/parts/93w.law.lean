/-! ===== the law's own instructions: longs, what is caught, the script ===== -/
section LAW1
variable {sc : Nat × Nat} {out : Nat × iv_H} {d mi c0 s0 pc np x a z v : Nat} {lo lo' st : List Nat} {L : iv_H}
theorem iw_i2l (hw : iv_wd mi pc = 27 + 256 * np + 16777216 * x) (hn : np < 65536) (hc : pg_c mi ≠ 0) (ha : v < 18446744073709551616) (k : iw_all sc mi d out c0 s0 np lo ((73786976294838206464 + v) :: st) L) : iw_all sc mi d out c0 s0 pc lo (v :: st) L := by
  refine iw_op (g := fun _ => out) iw_nil hw ⟨by decide, hn⟩ ?_
  show iv_oI2l (iw_ih sc (fun _ => out)) (d, mi, c0, s0) (pg_c mi) np lo (v :: st) L = some out
  unfold iv_oI2l
  show (@Bool.rec (fun _ => iv_R) none _ (Nat.ble v 18446744073709551615)) = some out
  rw [iw_bt (by rw [iv_n7]; omega), iv_f_eq]
  exact iw_ih_of rfl hc k
theorem iw_lconst (hw : iv_wd mi pc = 35 + 256 * np + 16777216 * x) (hn : np < 65536) (hc : pg_c mi ≠ 0) (hx : x ≤ 1) (k : iw_all sc mi d out c0 s0 np lo ((73786976294838206464 + iv_c (2147483648 + x)) :: st) L) : iw_all sc mi d out c0 s0 pc lo st L := by
  refine iw_op (g := fun _ => out) iw_nil hw ⟨by decide, hn⟩ ?_
  show iv_oLconst (iw_ih sc (fun _ => out)) (d, mi, c0, s0) (pg_c mi) x np lo st L = some out
  unfold iv_oLconst
  rw [iw_bt (by rw [iv_n7]; exact hx), iv_f_eq]
  exact iw_ih_of rfl hc k
theorem iw_astE (hw : iv_wd mi pc = 36 + 256 * np + 16777216 * x) (hn : np < 65536) (hc : pg_c mi ≠ 0) (hx : x < lo.length) (k : iw_all sc mi d out c0 s0 np (lo.set x 55340232221128654850) st L) : iw_all sc mi d out c0 s0 pc lo (55340232221128654850 :: st) L := by
  refine iw_op (g := fun _ => out) iw_nil hw ⟨by decide, hn⟩ ?_
  show iv_oAstore (iw_ih sc (fun _ => out)) (d, mi, c0, s0) (pg_c mi) x np lo (55340232221128654850 :: st) L = some out
  unfold iv_oAstore
  show iv_f 55340232221128654850 (fun v => iv_set lo x v fun lo => iw_ih sc (fun _ => out) (d, mi, c0, s0) (pg_c mi) np lo st L) = some out
  rw [iv_f_eq, iw_set _ _ _ _ hx]
  exact iw_ih_of rfl hc k
theorem iw_last {n r : Nat} (hw : iv_wd mi pc = 30 + 256 * np + 16777216 * x) (hn : np < 65536) (hc : pg_c mi ≠ 0) (hr : r ≤ 4294967296) (hk : iw_is L r 3 n) (ha : a < 4294967296) (h1 : 2147483648 ≤ a) (h2 : a - 2147483648 < n) (hz : v / 18446744073709551616 = 4) (k : iw_all sc mi d out c0 s0 np lo st (iw_put L r (a - 2147483648) v)) : iw_all sc mi d out c0 s0 pc lo (v :: iv_c a :: (18446744073709551616 + r) :: st) L := by
  refine iw_op (g := fun _ => out) iw_nil hw ⟨by decide, hn⟩ ?_
  show iv_oAst 3 (iw_ih sc (fun _ => out)) (d, mi, c0, s0) (pg_c mi) np lo (v :: iv_c a :: (18446744073709551616 + r) :: st) L = some out
  obtain ⟨a0, a1, a2⟩ := iw_c_lt ha
  obtain ⟨c, hk⟩ := hk
  have hfit : iv_fit 3 v = true := by
    show (Nat.beq (Nat.div v 18446744073709551616) 4) = true
    rw [iv_n8]
    exact hz
  obtain ⟨i, hi⟩ : ∃ i, a - 2147483648 = i := ⟨_, rfl⟩
  rw [hi] at h2 k
  unfold iv_oAst
  show (@Bool.rec (fun _ => iv_R) none _ (Nat.ble (iv_c a) 18446744073709551615)) = some out
  have e3 : Nat.sub (18446744073709551616 + r) 18446744073709551616 = r := Nat.add_sub_cancel_left _ _
  have f1 : Nat.mod (iv_c a) 4294967296 = a := a1
  have f2 : Nat.div (iv_c a) 4294967296 = a := a2
  have f3 : Nat.sub a 2147483648 = i := hi
  have f4 : Nat.ble (Nat.succ i) n = true := by rw [iv_n7]; exact h2
  rw [f1, f2, e3, f3, iw_bt (by rw [iv_n7]; exact Nat.le_of_lt_succ a0), iw_bt (by rw [iv_n7]; exact Nat.le_add_right _ _), iw_bt (by rw [iv_n7]; exact Nat.add_le_add_left hr 18446744073709551616), iw_bt (by rw [iv_n7]; exact h1), iw_bt (by rw [iv_n8]), iw_bt hfit, iw_hg hk, iw_bt (show Nat.beq 3 3 = true from rfl), iw_bt f4, iv_f_eq]
  show iv_hs L r (3, n, iv_st c i v) (fun L => iw_ih sc (fun _ => out) (d, mi, c0, s0) (pg_c mi) np lo st L) = some out
  rw [iw_hs hk]
  exact iw_ih_of rfl hc k
/-- the script's place -/
theorem iw_scr {j : Nat} (hw : iv_wd mi pc = 8 + 256 * np + 16777216 * x) (hn : np < 65536) (hc : pg_c mi ≠ 0) (ha : a = 2147483648 + j) (ha2 : a < 4294967296) (hj : j < sc.1) (k : iw_all sc mi d out c0 s0 np lo (iv_gt sc.2 j :: st) L) : iw_all sc mi d out c0 s0 pc lo (iv_c a :: 55340232221128654849 :: st) L := by
  refine iw_op (g := fun _ => out) iw_nil hw ⟨by decide, hn⟩ ?_
  show iv_oAld sc 1 (iw_ih sc (fun _ => out)) (d, mi, c0, s0) (pg_c mi) np lo (iv_c a :: 55340232221128654849 :: st) L = some out
  obtain ⟨a0, a1, a2⟩ := iw_c_lt ha2
  unfold iv_oAld
  show (@Bool.rec (fun _ => iv_R) none (iv_scl sc 1 55340232221128654849 (iv_c a) (iw_ih sc (fun _ => out)) (d, mi, c0, s0) (pg_c mi) np lo st L) (Nat.ble (iv_c a) 18446744073709551615)) = some out
  rw [iw_bt (by rw [iv_n7]; exact Nat.le_of_lt_succ a0)]
  unfold iv_scl
  have f1 : Nat.mod (iv_c a) 4294967296 = a := a1
  have f2 : Nat.div (iv_c a) 4294967296 = a := a2
  have f3 : Nat.sub a 2147483648 = j := by rw [ha]; exact Nat.add_sub_cancel_left _ _
  rw [f1, f2, f3, iw_bt (by decide), iw_bt (by decide), iw_bt (by rw [iv_n7]; omega), iw_bt (by rw [iv_n8]), iw_bt (by rw [iv_n7]; exact hj), iv_f_eq]
  exact iw_ih_of rfl hc k
end LAW1
/-! ===== the law's own instructions, over tables ===== -/
section LAW2
variable {sc : Nat × Nat} {mi d c0 s0 pc np x a z v : Nat} {lo lo' st : List Nat} {h : xh} {Q : Nat → xh → Prop}
theorem x_i2l (w : wd mi pc 27 np x) (ha : a < 4294967296) (k : X sc mi d Q c0 s0 np lo ((73786976294838206464 + iv_c a) :: st) h) : X sc mi d Q c0 s0 pc lo (iv_c a :: st) h := fun L hL =>
  let ⟨v, b, c, e, f, g⟩ := k L hL; ⟨v, b, c, e, f, iw_i2l w.1 w.2 (wd_ne w (by decide)) (iw_c_lt ha).1 g⟩
theorem x_lconst (w : wd mi pc 35 np x) (hx : x ≤ 1) (k : X sc mi d Q c0 s0 np lo ((73786976294838206464 + iv_c (2147483648 + x)) :: st) h) : X sc mi d Q c0 s0 pc lo st h := fun L hL =>
  let ⟨v, b, c, e, f, g⟩ := k L hL; ⟨v, b, c, e, f, iw_lconst w.1 w.2 (wd_ne w (by decide)) hx g⟩
theorem x_astE (w : wd mi pc 36 np x) (hx : x < lo.length) (hl : lo.set x 55340232221128654850 = lo') (k : X sc mi d Q c0 s0 np lo' st h) : X sc mi d Q c0 s0 pc lo (55340232221128654850 :: st) h := fun L hL => by
  obtain ⟨v, b, c, e, f, g⟩ := k L hL
  subst hl
  exact ⟨v, b, c, e, f, iw_astE w.1 w.2 (wd_ne w (by decide)) hx g⟩
theorem x_last {r n i : Nat} (w : wd mi pc 30 np x) (hr : r < x_nc) (hkd : x_kd r = 3) (hln : x_ln r = n) (ha : a = 2147483648 + i) (hi : i < n) (ha2 : a < 4294967296) (hz : z < 4294967296) (k : X sc mi d Q c0 s0 np lo st (x_up h r i z)) : X sc mi d Q c0 s0 pc lo ((73786976294838206464 + iv_c z) :: iv_c a :: x_r r :: st) h := fun L hL => by
  obtain ⟨i1, i2⟩ := hL r hr
  rw [hkd, hln] at i1
  have p := xR_put hL hr (i := i) (by rw [hln]; exact hi) hz
  have ety : x_ty r i = 2 := by
    unfold x_ty
    rw [hkd]
    rfl
  rw [ety] at p
  obtain ⟨v, b, c, e, f, g⟩ := k _ p
  have e1 : a - 2147483648 = i := by rw [ha]; exact Nat.add_sub_cancel_left _ _
  have ez := (iw_c_lt hz).1
  refine ⟨v, b, c, e, f, iw_last w.1 w.2 (wd_ne w (by decide)) (x_nc_le hr) i1 ha2 (by omega) (by rw [e1]; exact hi) (by omega) ?_⟩
  rw [e1]
  exact g
/-- an int of the script, biased -/
def sv (sc : Nat × Nat) (j : Nat) : Nat := iv_gt sc.2 j % 4294967296
/-- the script holds ints -/
def scOK (sc : Nat × Nat) : Prop := sc.1 ≤ 384 ∧ 1 ≤ sc.1 + sc.2 ∧ ∀ j, j < sc.1 → iv_gt sc.2 j = iv_c (sv sc j)
theorem sv_lt {sc : Nat × Nat} {j : Nat} : sv sc j < 4294967296 := Nat.mod_lt _ (by decide)
theorem x_scr {j : Nat} (hs : scOK sc) (w : wd mi pc 8 np x) (ha : a = 2147483648 + j) (ha2 : a < 4294967296) (hj : j < sc.1) (k : X sc mi d Q c0 s0 np lo (iv_c (sv sc j) :: st) h) : X sc mi d Q c0 s0 pc lo (iv_c a :: 55340232221128654849 :: st) h := fun L hL => by
  obtain ⟨r, b, c, e, f, g⟩ := k L hL
  refine ⟨r, b, c, e, f, iw_scr w.1 w.2 (wd_ne w (by decide)) ha ha2 hj ?_⟩
  rw [hs.2.2 j hj]
  exact g
theorem x_aloadS (w : wd mi pc 1 np x) (hx : lo[x]? = some 55340232221128654849) (k : X sc mi d Q c0 s0 np lo (55340232221128654849 :: st) h) : X sc mi d Q c0 s0 pc lo st h := fun L hL => by
  obtain ⟨r, b, c, e, f, g⟩ := k L hL
  refine ⟨r, b, c, e, f, iw_op (g := fun _ => (r, b)) iw_nil w.1 ⟨by decide, w.2⟩ ?_⟩
  show iv_oAload (iw_ih sc (fun _ => (r, b))) (d, mi, c0, s0) (pg_c mi) x np lo st L = some (r, b)
  unfold iv_oAload
  rw [iw_nth _ _ _ _ hx]
  exact iw_ih_of rfl (wd_ne w (by decide)) g
theorem x_alenS (hs : scOK sc) (w : wd mi pc 24 np x) (k : X sc mi d Q c0 s0 np lo (iv_c (2147483648 + sc.1) :: st) h) : X sc mi d Q c0 s0 pc lo (55340232221128654849 :: st) h := fun L hL => by
  obtain ⟨r, b, c, e, f, g⟩ := k L hL
  refine ⟨r, b, c, e, f, iw_op (g := fun _ => (r, b)) iw_nil w.1 ⟨by decide, w.2⟩ ?_⟩
  show iv_oAlen sc (iw_ih sc (fun _ => (r, b))) (d, mi, c0, s0) (pg_c mi) np lo (55340232221128654849 :: st) L = some (r, b)
  unfold iv_oAlen
  have e9 : Nat.ble sc.1 2147483647 = true := by
    rw [iv_n7]
    have := hs.1
    omega
  have e8 : Nat.ble 1 (Nat.add sc.1 sc.2) = true := by
    rw [iv_n7]
    exact hs.2.1
  show (@Bool.rec (fun _ => iv_R) none (@Bool.rec (fun _ => iv_R) none _ (Nat.ble sc.1 2147483647)) (Nat.ble 1 (Nat.add sc.1 sc.2))) = some (r, b)
  rw [iw_bt e8, iw_bt e9, iv_f_eq]
  exact iw_ih_of rfl (wd_ne w (by decide)) g
/-- a call whose throws are caught -/
theorem x_cT {t mj n rc ml cc ss nr : Nat} {as rest lo1 : List Nat} {P : Nat → xh → Prop} {PE : Nat → xh → Prop} (w : wd mi pc 12 np (mj + 4096 * n + 1048576 * t + 16777216 * rc)) (ht : t = 6 ∨ (t = 0 ∧ rc = 0)) (g : x_cb mi mj n ml cc ss c0 s0 = true) (hrc : x_rc rc as) (hst : st = as.reverse ++ rest) (hn : as.length = n) (hwa : iv_wl as ≤ n) (hwr : iv_wl rest ≤ nr) (h8 : nr ≤ 8) (hl : lo1 = as ++ List.replicate (ml - n) 147573952589676412928)
    (k : X sc mj d (xT P PE) 0 0 0 lo1 [] h) (k1 : ∀ r h', r < 4294967296 → P r h' → X sc mi (d + 1) Q (c0 + cc) (s0 + ss) np lo (iv_c r :: rest) h')
    (k2 : ∀ E h', PE E h' → ∃ hp, (∀ K n, iv_hd (pg_h mi) pc E K n = K hp) ∧ X sc mi (d + 1) Q (c0 + cc) (s0 + ss) hp lo [55340232221128654850] h') : X sc mi (d + 1) Q c0 s0 pc lo st h :=
  x_call w (by rcases ht with rfl | ⟨rfl, r0⟩; exact Or.inl rfl; exact Or.inr (Or.inr (Or.inl ⟨rfl, r0⟩))) g hrc hst hn hwa hwr h8 hl k (fun v h' q => by
    rcases q with ⟨r, rfl, q1, q2⟩ | ⟨E, q1, q2⟩
    · exact Or.inl ⟨Nat.lt_trans (iw_c_lt q1).1 (by decide), k1 r h' q1 q2⟩
    · obtain ⟨hp, e1, e2⟩ := k2 E h' q2
      exact Or.inr (Or.inr (Or.inr ⟨E, hp, q1, by rcases ht with rfl | ⟨rfl, -⟩; exact Or.inl rfl; exact Or.inr rfl, e1, e2⟩)))
theorem x_cTU {t mj n rc ml cc ss nr : Nat} {as rest lo1 : List Nat} {P : xh → Prop} {PE : Nat → xh → Prop} (w : wd mi pc 12 np (mj + 4096 * n + 1048576 * t + 16777216 * rc)) (ht : t = 6 ∨ (t = 0 ∧ rc = 0)) (g : x_cb mi mj n ml cc ss c0 s0 = true) (hrc : x_rc rc as) (hst : st = as.reverse ++ rest) (hn : as.length = n) (hwa : iv_wl as ≤ n) (hwr : iv_wl rest ≤ nr) (h8 : nr ≤ 8) (hl : lo1 = as ++ List.replicate (ml - n) 147573952589676412928)
    (k : X sc mj d (xU P PE) 0 0 0 lo1 [] h) (k1 : ∀ h', P h' → X sc mi (d + 1) Q (c0 + cc) (s0 + ss) np lo rest h')
    (k2 : ∀ E h', PE E h' → ∃ hp, (∀ K n, iv_hd (pg_h mi) pc E K n = K hp) ∧ X sc mi (d + 1) Q (c0 + cc) (s0 + ss) hp lo [55340232221128654850] h') : X sc mi (d + 1) Q c0 s0 pc lo st h :=
  x_call w (by rcases ht with rfl | ⟨rfl, r0⟩; exact Or.inl rfl; exact Or.inr (Or.inr (Or.inl ⟨rfl, r0⟩))) g hrc hst hn hwa hwr h8 hl k (fun v h' q => by
    rcases q with ⟨q1, q2⟩ | ⟨E, q1, q2⟩
    · exact Or.inr (Or.inl ⟨q1, k1 h' q2⟩)
    · obtain ⟨hp, e1, e2⟩ := k2 E h' q2
      exact Or.inr (Or.inr (Or.inr ⟨E, hp, q1, by rcases ht with rfl | ⟨rfl, -⟩; exact Or.inl rfl; exact Or.inr rfl, e1, e2⟩)))
end LAW2

/-! ===== calls from the law: what may be made is counted by variables ===== -/
theorem x_cbV {mi mj n ml cc ss c0 s0 : Nat} (g : x_cb mi mj n ml cc ss 0 0 = true) (h1 : c0 + cc ≤ (pg_i mi).2.2.1) (h2 : s0 + ss ≤ (pg_i mi).2.2.2) : x_cb mi mj n ml cc ss c0 s0 = true := by
  unfold x_cb at g ⊢
  rw [Bool.and_eq_true, Bool.and_eq_true, Bool.and_eq_true, Bool.and_eq_true, Bool.and_eq_true] at g ⊢
  obtain ⟨g1, g2, g3, g4, g5, g6⟩ := g
  exact ⟨g1, g2, g3, Nat.ble_eq_true_of_le h1, Nat.ble_eq_true_of_le h2, g6⟩
section LAW3
variable {sc : Nat × Nat} {mi d c0 s0 pc np : Nat} {lo st : List Nat} {h : xh} {Q : Nat → xh → Prop} {t mj n rc ml cc ss nr : Nat} {as rest lo1 : List Nat}
theorem x_cIc {P : Nat → xh → Prop} (w : wd mi pc 12 np (mj + 4096 * n + 1048576 * t + 16777216 * rc)) (ht : t = 6 ∨ t = 8 ∨ (t = 0 ∧ rc = 0) ∨ (t = 7 ∧ rc = 0)) (g : x_cb mi mj n ml cc ss c0 s0 = true) (hrc : x_rc rc as) (hst : st = as.reverse ++ rest) (hn : as.length = n) (hwa : iv_wl as ≤ n) (hwr : iv_wl rest ≤ nr) (h8 : nr ≤ 8) (hl : lo1 = as ++ List.replicate (ml - n) 147573952589676412928)
    (k : X sc mj d (xI P) 0 0 0 lo1 [] h) (k2 : ∀ r h', r < 4294967296 → P r h' → X sc mi (d + 1) Q (c0 + cc) (s0 + ss) np lo (iv_c r :: rest) h') : X sc mi (d + 1) Q c0 s0 pc lo st h :=
  x_call w ht g hrc hst hn hwa hwr h8 hl k (fun v h' q => by
    obtain ⟨r, rfl, q1, q2⟩ := q
    exact Or.inl ⟨Nat.lt_trans (iw_c_lt q1).1 (by decide), k2 r h' q1 q2⟩)
theorem x_cVc {P : xh → Prop} (w : wd mi pc 12 np (mj + 4096 * n + 1048576 * t + 16777216 * rc)) (ht : t = 6 ∨ t = 8 ∨ (t = 0 ∧ rc = 0) ∨ (t = 7 ∧ rc = 0)) (g : x_cb mi mj n ml cc ss c0 s0 = true) (hrc : x_rc rc as) (hst : st = as.reverse ++ rest) (hn : as.length = n) (hwa : iv_wl as ≤ n) (hwr : iv_wl rest ≤ nr) (h8 : nr ≤ 8) (hl : lo1 = as ++ List.replicate (ml - n) 147573952589676412928)
    (k : X sc mj d (xV P) 0 0 0 lo1 [] h) (k2 : ∀ h', P h' → X sc mi (d + 1) Q (c0 + cc) (s0 + ss) np lo rest h') : X sc mi (d + 1) Q c0 s0 pc lo st h :=
  x_call w ht g hrc hst hn hwa hwr h8 hl k (fun v h' q => Or.inr (Or.inl ⟨q.1, k2 h' q.2⟩))
end LAW3
theorem WT.fr7 {h h' : xh} {m : Nat} (w : WT 77 h) (hJ : J h) (f : Fr m h h') (hm : Nat.testBit m 27 = false) : WT 77 h' := w.of hJ (Or.inr rfl) (fun i h1 h2 => f 77 i (by rw [gr_77]; exact hm))
/-- what holds between two calls -/
def INV (h : xh) : Prop := J h ∧ h 1 1 = h 75 6 ∧ WT 76 h ∧ WT 77 h ∧ (h 75 4 = 2147483649 → 2147483650 ≤ h 77 0) ∧ h 0 10 = h 75 4
theorem x_wS {n : Nat} {l : List Nat} (k : iv_wl l ≤ n) : iv_wl (55340232221128654849 :: l) ≤ n + 1 := x_wc (by decide) k
