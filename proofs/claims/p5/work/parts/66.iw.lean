/-! ===== further rules: lengths, least and greatest, copies, switches, throws, calls with any end ===== -/
section IW5
variable {sc : Nat × Nat} {out out' : Nat × iv_H} {d mi mj n rc nt c0 s0 pc np x v a z : Nat} {lo st as rest : List Nat} {L : iv_H}
theorem iw_alen {r kd n : Nat} (hw : iv_wd mi pc = 24 + 256 * np + 16777216 * x) (hn : np < 65536) (hc : pg_c mi ≠ 0) (hr : r ≤ 4294967296) (hk : iw_is L r kd n) (h4 : 1 ≤ kd % 4) (h5 : n ≤ 2147483647) (k : iw_all sc mi d out c0 s0 np lo (iv_c (2147483648 + n) :: st) L) : iw_all sc mi d out c0 s0 pc lo ((18446744073709551616 + r) :: st) L := by
  refine iw_op (g := fun _ => out) iw_nil hw ⟨by decide, hn⟩ ?_
  show iv_oAlen sc (iw_ih sc (fun _ => out)) (d, mi, c0, s0) (pg_c mi) np lo ((18446744073709551616 + r) :: st) L = some out
  obtain ⟨c, hk⟩ := hk
  unfold iv_oAlen
  show (@Bool.rec (fun _ => iv_R) _ (@Bool.rec (fun _ => iv_R) _ (iv_hg L (Nat.sub (18446744073709551616 + r) 18446744073709551616) _) (Nat.ble (18446744073709551616 + r) 18446744078004518912)) (Nat.ble 18446744073709551616 (18446744073709551616 + r))) = some out
  have e1 : Nat.ble 18446744073709551616 (18446744073709551616 + r) = true := by rw [iv_n7]; omega
  have e2 : Nat.ble (18446744073709551616 + r) 18446744078004518912 = true := by rw [iv_n7]; omega
  have e3 : Nat.sub (18446744073709551616 + r) 18446744073709551616 = r := Nat.add_sub_cancel_left _ _
  rw [e1, e2, e3]
  show iv_hg L r _ = some out
  rw [iw_hg hk, iw_bt (by rw [iv_n7]; exact h4), iw_bt (by rw [iv_n7]; exact h5), iv_f_eq]
  exact iw_ih_of rfl hc k
theorem iw_minN {a z : Nat} (ha : a < 4294967296) (hz : z < 4294967296) : iv_min (iv_c a) (iv_c z) = iv_c (min a z) := by
  obtain ⟨-, a1, a2⟩ := iw_c_lt ha
  obtain ⟨-, z1, z2⟩ := iw_c_lt hz
  unfold iv_min
  have e1 : Nat.mod (iv_c a) 4294967296 = a := a1
  have e2 : Nat.mod (iv_c z) 4294967296 = z := z1
  have e3 : Nat.div (iv_c a) 4294967296 = a := a2
  have e4 : Nat.div (iv_c z) 4294967296 = z := z2
  rw [e1, e2, e3, e4]
  by_cases h : a ≤ z
  · have e : Nat.ble a z = true := by rw [iv_n7]; exact h
    rw [e, Nat.min_eq_left h]
    rfl
  · have e : Nat.ble a z = false := by rw [← Bool.not_eq_true, iv_n7]; exact h
    rw [e, Nat.min_eq_right (by omega)]
    rfl
theorem iw_maxN {a z : Nat} (ha : a < 4294967296) (hz : z < 4294967296) : iv_max (iv_c a) (iv_c z) = iv_c (max a z) := by
  obtain ⟨-, a1, a2⟩ := iw_c_lt ha
  obtain ⟨-, z1, z2⟩ := iw_c_lt hz
  unfold iv_max
  have e1 : Nat.mod (iv_c a) 4294967296 = a := a1
  have e2 : Nat.mod (iv_c z) 4294967296 = z := z1
  have e3 : Nat.div (iv_c a) 4294967296 = a := a2
  have e4 : Nat.div (iv_c z) 4294967296 = z := z2
  rw [e1, e2, e3, e4]
  by_cases h : a ≤ z
  · have e : Nat.ble a z = true := by rw [iv_n7]; exact h
    rw [e, Nat.max_eq_right h]
    rfl
  · have e : Nat.ble a z = false := by rw [← Bool.not_eq_true, iv_n7]; exact h
    rw [e, Nat.max_eq_left (by omega)]
    rfl
theorem iw_min (hw : iv_wd mi pc = 12 + 256 * np + 16777216 * 3145728) (hn : np < 65536) (hc : pg_c mi ≠ 0) (ha : a < 4294967296) (hz : z < 4294967296) (h8 : iv_wl (iv_c z :: iv_c a :: st) ≤ 8) (k : iw_all sc mi d out c0 s0 np lo (iv_c (min a z) :: st) L) : iw_all sc mi d out c0 s0 pc lo (iv_c z :: iv_c a :: st) L := by
  refine iw_op (g := fun _ => out) iw_nil hw ⟨by decide, hn⟩ ?_
  show (@Bool.rec (fun _ => iv_R) none (iv_oBin iv_min (iw_ih sc (fun _ => out)) (d, mi, c0, s0) (pg_c mi) np lo (iv_c z :: iv_c a :: st) L) (Nat.ble (iv_wl (iv_c z :: iv_c a :: st)) 8)) = some out
  rw [iw_bt (by rw [iv_n7]; exact h8)]
  show (@Bool.rec (fun _ => iv_R) none (@Bool.rec (fun _ => iv_R) none (iv_f (iv_min (iv_c a) (iv_c z)) fun v => iw_ih sc (fun _ => out) (d, mi, c0, s0) (pg_c mi) np lo (v :: st) L) (Nat.ble (iv_c z) 18446744073709551615)) (Nat.ble (iv_c a) 18446744073709551615)) = some out
  have a0 := (iw_c_lt ha).1
  have z0 := (iw_c_lt hz).1
  rw [iw_bt (by rw [iv_n7]; omega), iw_bt (by rw [iv_n7]; omega), iv_f_eq, iw_minN ha hz]
  exact iw_ih_of rfl hc k
theorem iw_max (hw : iv_wd mi pc = 12 + 256 * np + 16777216 * 4194304) (hn : np < 65536) (hc : pg_c mi ≠ 0) (ha : a < 4294967296) (hz : z < 4294967296) (h8 : iv_wl (iv_c z :: iv_c a :: st) ≤ 8) (k : iw_all sc mi d out c0 s0 np lo (iv_c (max a z) :: st) L) : iw_all sc mi d out c0 s0 pc lo (iv_c z :: iv_c a :: st) L := by
  refine iw_op (g := fun _ => out) iw_nil hw ⟨by decide, hn⟩ ?_
  show (@Bool.rec (fun _ => iv_R) none (iv_oBin iv_max (iw_ih sc (fun _ => out)) (d, mi, c0, s0) (pg_c mi) np lo (iv_c z :: iv_c a :: st) L) (Nat.ble (iv_wl (iv_c z :: iv_c a :: st)) 8)) = some out
  rw [iw_bt (by rw [iv_n7]; exact h8)]
  show (@Bool.rec (fun _ => iv_R) none (@Bool.rec (fun _ => iv_R) none (iv_f (iv_max (iv_c a) (iv_c z)) fun v => iw_ih sc (fun _ => out) (d, mi, c0, s0) (pg_c mi) np lo (v :: st) L) (Nat.ble (iv_c z) 18446744073709551615)) (Nat.ble (iv_c a) 18446744073709551615)) = some out
  have a0 := (iw_c_lt ha).1
  have z0 := (iw_c_lt hz).1
  rw [iw_bt (by rw [iv_n7]; omega), iw_bt (by rw [iv_n7]; omega), iv_f_eq, iw_maxN ha hz]
  exact iw_ih_of rfl hc k
/-- a throw ends the method -/
theorem iw_thr (hw : iv_wd mi pc = 25 + 256 * np + 16777216 * x) (hn : np < 65536) (h1 : c0 + 1 ≤ (pg_i mi).2.2.1) (h2 : s0 + 6 ≤ (pg_i mi).2.2.2) (h3 : iv_wl st ≤ 8) : iw_all sc mi d (166020696663385964544 + x, L) c0 s0 pc lo st L := by
  refine iw_op (g := fun _ => (0, L)) iw_nil hw ⟨by decide, hn⟩ ?_
  show (@Bool.rec (fun _ => iv_R) none (@Bool.rec (fun _ => iv_R) none (@Bool.rec (fun _ => iv_R) none (some (166020696663385964544 + x, L)) (Nat.ble (iv_wl st) 8)) (Nat.ble (s0 + 6) (pg_i mi).2.2.2)) (Nat.ble (c0 + 1) (pg_i mi).2.2.1)) = _
  rw [iw_bt (by rw [iv_n7]; exact h1), iw_bt (by rw [iv_n7]; exact h2), iw_bt (by rw [iv_n7]; exact h3)]
/-- a switch: out of its bounds, within them -/
theorem iw_tsw0 (hw : iv_wd mi pc = 26 + 256 * np + 16777216 * x) (hn : np < 65536) (hc : pg_c mi ≠ 0) (ha : a < 4294967296) (h1 : a < (pg_t mi).1 ∨ (pg_t mi).2.1 < a) (k : iw_all sc mi d out c0 s0 (pg_t mi).2.2.1 lo st L) : iw_all sc mi d out c0 s0 pc lo (iv_c a :: st) L := by
  refine iw_op (g := fun _ => out) iw_nil hw ⟨by decide, hn⟩ ?_
  obtain ⟨a0, a1, a2⟩ := iw_c_lt ha
  show (@Bool.rec (fun _ => iv_R) none (@Bool.rec (fun _ => iv_R) (@Bool.rec (fun _ => iv_R) _ (iw_ih sc (fun _ => out) (d, mi, c0, s0) (pg_c mi) (pg_t mi).2.2.1 lo st L) (Nat.ble ((pg_t mi).2.1 + 1) (iv_c a % 4294967296))) (iw_ih sc (fun _ => out) (d, mi, c0, s0) (pg_c mi) (pg_t mi).2.2.1 lo st L) (Nat.ble (iv_c a / 4294967296 + 1) (pg_t mi).1)) (Nat.ble (iv_c a) 18446744073709551615)) = some out
  rw [a1, a2, iw_bt (by rw [iv_n7]; omega)]
  by_cases h : a < (pg_t mi).1
  · have e : Nat.ble (a + 1) (pg_t mi).1 = true := by rw [iv_n7]; exact h
    rw [e]
    exact iw_ih_of rfl hc k
  · have e : Nat.ble (a + 1) (pg_t mi).1 = false := by rw [← Bool.not_eq_true, iv_n7]; omega
    have e2 : Nat.ble ((pg_t mi).2.1 + 1) a = true := by rw [iv_n7]; omega
    rw [e, e2]
    exact iw_ih_of rfl hc k
theorem iw_tsw1 {i tg : Nat} (hw : iv_wd mi pc = 26 + 256 * np + 16777216 * x) (hn : np < 65536) (hc : pg_c mi ≠ 0) (ha : a < 4294967296) (h1 : (pg_t mi).1 + i = a) (h2 : a ≤ (pg_t mi).2.1) (ht : ((pg_t mi).2.2.2 >>> (16 * i)) % 65536 = tg) (k : iw_all sc mi d out c0 s0 tg lo st L) : iw_all sc mi d out c0 s0 pc lo (iv_c a :: st) L := by
  refine iw_op (g := fun _ => out) iw_nil hw ⟨by decide, hn⟩ ?_
  obtain ⟨a0, a1, a2⟩ := iw_c_lt ha
  show (@Bool.rec (fun _ => iv_R) none (@Bool.rec (fun _ => iv_R) (@Bool.rec (fun _ => iv_R) (@Bool.rec (fun _ => iv_R) none (iv_f (((pg_t mi).2.2.2 >>> (16 * Nat.sub (iv_c a % 4294967296) (pg_t mi).1)) % 65536) fun tg => iw_ih sc (fun _ => out) (d, mi, c0, s0) (pg_c mi) tg lo st L) (Nat.beq (iv_c a % 4294967296) (iv_c a / 4294967296))) (iw_ih sc (fun _ => out) (d, mi, c0, s0) (pg_c mi) (pg_t mi).2.2.1 lo st L) (Nat.ble ((pg_t mi).2.1 + 1) (iv_c a % 4294967296))) (iw_ih sc (fun _ => out) (d, mi, c0, s0) (pg_c mi) (pg_t mi).2.2.1 lo st L) (Nat.ble (iv_c a / 4294967296 + 1) (pg_t mi).1)) (Nat.ble (iv_c a) 18446744073709551615)) = some out
  have e : Nat.ble (a + 1) (pg_t mi).1 = false := by rw [← Bool.not_eq_true, iv_n7]; omega
  have e2 : Nat.ble ((pg_t mi).2.1 + 1) a = false := by rw [← Bool.not_eq_true, iv_n7]; omega
  have e3 : Nat.sub a (pg_t mi).1 = i := by
    show a - (pg_t mi).1 = i
    omega
  have e4 : Nat.beq a a = true := by rw [iv_n8]
  rw [a1, a2, iw_bt (by rw [iv_n7]; omega), e, e2, e3, ht, e4, iv_f_eq]
  exact iw_ih_of rfl hc k
/-- a call: what its end makes of the caller stands for itself -/
theorem iw_call2 (hk : iw_ok mi mj n rc c0 s0 as rest L) (hcal : iw_all sc mj d out' 0 0 0 (as ++ List.replicate ((pg_i mj).1 - n) 147573952589676412928) [] L)
    (k : iv_back (iw_ih sc (fun m => if m = d + 1 then out else out')) (d + 1, mi, c0 + (pg_i mj).2.2.1, s0 + (pg_i mj).2.2.2) (pg_c mi) pc np nt lo rest out'.1 out'.2 = some out) :
    iv_call [] (iw_ih sc (fun m => if m = d + 1 then out else out')) (d + 1, mi, c0, s0) (pg_c mi) pc np nt rc mj n lo (as.reverse ++ rest) L = some out := by
  obtain ⟨h1, h2, h3, h4, h5, h6, h7, h8⟩ := hk
  unfold iv_call
  rw [iw_take n as.reverse [] rest _ (by rw [List.length_reverse]; exact h1), List.reverse_reverse, List.append_nil, iw_rcv h2, iw_bt (by rw [iv_n7]; exact h3), iw_bt (by rw [iv_n7]; exact h4), iw_bt (by rw [iv_n7]; exact h5), iw_bt (by rw [iv_n7]; exact h6), iw_bt (by rw [iv_n7]; exact h7), iv_f_eq, iv_f_eq]
  have e0 : (@Bool.rec (fun _ => iv_S) [] [] (Nat.ble 13 (d + 1, mi, c0, s0).1)) = ([] : iv_S) := by cases Nat.ble 13 (d + 1, mi, c0, s0).1 <;> rfl
  rw [e0]
  show iv_pad (Nat.sub (pg_i mj).1 n) (fun pd => iv_cat as pd fun lo1 => @Option.rec (Nat × iv_H) (fun _ => iv_R) none (fun z => iv_back (iw_ih sc (fun m => if m = d + 1 then out else out')) (d + 1, mi, c0 + (pg_i mj).2.2.1, s0 + (pg_i mj).2.2.2) (pg_c mi) pc np nt lo rest z.1 z.2) (iv_f (pg_c mj) fun cd1 => iw_ih sc (fun m => if m = d + 1 then out else out') (d, mj, 0, 0) cd1 0 lo1 [] L)) = some out
  rw [iw_pad, iw_cat, iv_f_eq]
  have e1 : (fun m => if m = d + 1 then out else out') d = out' := by
    show (if d = d + 1 then out else out') = out'
    rw [if_neg (by omega)]
  have e3 : iw_ih sc (fun m => if m = d + 1 then out else out') (d, mj, 0, 0) (pg_c mj) 0 (as ++ List.replicate (Nat.sub (pg_i mj).1 n) 147573952589676412928) [] L = some out' := iw_ih_of e1 h8 hcal
  rw [e3]
  exact k
/-- what may come of a call: an answer, nothing, a throw that passes, a throw that is caught at hp -/
def iw_af (sc : Nat × Nat) (mi d : Nat) (out out' : Nat × iv_H) (nt c0 s0 pc np : Nat) (lo rest : List Nat) : Prop :=
  (out'.1 < 147573952589676412928 ∧ iw_all sc mi d out c0 s0 np lo (out'.1 :: rest) out'.2) ∨ (out'.1 = 147573952589676412928 ∧ iw_all sc mi d out c0 s0 np lo rest out'.2) ∨
  (147573952589676412928 < out'.1 ∧ nt = 0 ∧ pg_h mi = [] ∧ out = out') ∨
  (∃ E hp, out'.1 = 166020696663385964544 + E ∧ nt = 0 ∧ (∀ K n, iv_hd (pg_h mi) pc E K n = K hp) ∧ iw_all sc mi d out c0 s0 hp lo [55340232221128654850] out'.2)
theorem iw_back2 (hc : pg_c mi ≠ 0) (k : iw_af sc mi (d + 1) out out' nt c0 s0 pc np lo rest) : iv_back (iw_ih sc (fun m => if m = d + 1 then out else out')) (d + 1, mi, c0, s0) (pg_c mi) pc np nt lo rest out'.1 out'.2 = some out := by
  have e2 : (fun m => if m = d + 1 then out else out') (d + 1) = out := if_pos rfl
  unfold iv_back
  rcases k with ⟨k1, k⟩ | ⟨k1, k⟩ | ⟨k1, k2, k3, k4⟩ | ⟨E, hp, k1, k2, k3, k⟩
  · have e : Nat.ble out'.1 147573952589676412927 = true := by rw [iv_n7]; omega
    rw [e]
    exact iw_ih_of e2 hc k
  · have e : Nat.ble out'.1 147573952589676412927 = false := by rw [← Bool.not_eq_true, iv_n7]; omega
    have e' : Nat.beq out'.1 147573952589676412928 = true := by rw [iv_n8]; exact k1
    rw [e, e']
    exact iw_ih_of e2 hc k
  · have e : Nat.ble out'.1 147573952589676412927 = false := by rw [← Bool.not_eq_true, iv_n7]; omega
    have e' : Nat.beq out'.1 147573952589676412928 = false := by rw [iv_n10]; omega
    have e3 : Nat.beq nt 0 = true := by rw [iv_n8]; exact k2
    rw [e, e', e3]
    show iv_hd (pg_h mi) pc (Nat.sub out'.1 166020696663385964544) _ (some (out'.1, out'.2)) = some out
    rw [k3, k4]
    rfl
  · have e : Nat.ble out'.1 147573952589676412927 = false := by rw [← Bool.not_eq_true, iv_n7, k1]; omega
    have e' : Nat.beq out'.1 147573952589676412928 = false := by rw [iv_n10, k1]; omega
    have e3 : Nat.beq nt 0 = true := by rw [iv_n8]; exact k2
    have e4 : Nat.sub out'.1 166020696663385964544 = E := by rw [k1]; exact Nat.add_sub_cancel_left _ _
    rw [e, e', e3, e4]
    show iv_hd (pg_h mi) pc E _ (some (out'.1, out'.2)) = some out
    rw [k3]
    exact iw_ih_of e2 hc k
theorem iw_inv2 {t : Nat} (hw : iv_wd mi pc = 12 + 256 * np + 16777216 * (mj + 4096 * n + 1048576 * t + 16777216 * rc)) (hn : np < 65536 ∧ mj < 4096 ∧ n < 256) (ht : (t = 6 ∧ nt = 0) ∨ (t = 8 ∧ nt = 1) ∨ (t = 0 ∧ nt = 0 ∧ rc = 0) ∨ (t = 7 ∧ nt = 1 ∧ rc = 0)) (hc : pg_c mi ≠ 0) (hk : iw_ok mi mj n rc c0 s0 as rest L) (hcal : iw_all sc mj d out' 0 0 0 (as ++ List.replicate ((pg_i mj).1 - n) 147573952589676412928) [] L)
    (k : iw_af sc mi (d + 1) out out' nt (c0 + (pg_i mj).2.2.1) (s0 + (pg_i mj).2.2.2) pc np lo rest) :
    iw_all sc mi (d + 1) out c0 s0 pc lo (as.reverse ++ rest) L := by
  refine iw_op (g := fun m => if m = d + 1 then out else out') iw_nil hw ⟨by decide, hn.1⟩ ?_
  have e1 : Nat.mod (Nat.div (mj + 4096 * n + 1048576 * t + 16777216 * rc) 1048576) 16 = t := by
    show (mj + 4096 * n + 1048576 * t + 16777216 * rc) / 1048576 % 16 = t
    omega
  have e2 : Nat.mod (mj + 4096 * n + 1048576 * t + 16777216 * rc) 4096 = mj := by
    show (mj + 4096 * n + 1048576 * t + 16777216 * rc) % 4096 = mj
    omega
  have e3 : Nat.mod (Nat.div (mj + 4096 * n + 1048576 * t + 16777216 * rc) 4096) 256 = n := by
    show (mj + 4096 * n + 1048576 * t + 16777216 * rc) / 4096 % 256 = n
    omega
  have e4 : Nat.div (mj + 4096 * n + 1048576 * t + 16777216 * rc) 16777216 = rc := by
    show (mj + 4096 * n + 1048576 * t + 16777216 * rc) / 16777216 = rc
    omega
  show iv_oInv [] (iw_ih sc (fun m => if m = d + 1 then out else out')) (d + 1, mi, c0, s0) (pg_c mi) pc (mj + 4096 * n + 1048576 * t + 16777216 * rc) np lo (as.reverse ++ rest) L = some out
  unfold iv_oInv
  rw [e1, e2, e3, e4]
  rcases ht with ⟨rfl, rfl⟩ | ⟨rfl, rfl⟩ | ⟨rfl, rfl, rfl⟩ | ⟨rfl, rfl, rfl⟩
  · exact iw_call2 hk hcal (iw_back2 hc k)
  · exact iw_call2 hk hcal (iw_back2 hc k)
  · exact iw_call2 hk hcal (iw_back2 hc k)
  · exact iw_call2 hk hcal (iw_back2 hc k)
end IW5
