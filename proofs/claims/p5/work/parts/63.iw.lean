/-! ===== calls ===== -/
theorem iw_take : ∀ (n : Nat) (l acc rest : List Nat) (K : List Nat → List Nat → iv_R), l.length = n → iv_take n (l ++ rest) acc K = K (l.reverse ++ acc) rest
  | 0, l, acc, rest, K, h => by
    cases l with
    | nil => rfl
    | cons a t => cases h
  | n + 1, l, acc, rest, K, h => by
    cases l with
    | nil => cases h
    | cons a t =>
      have e : iv_take (n + 1) (a :: t ++ rest) acc K = iv_take n (t ++ rest) (a :: acc) K := rfl
      rw [e, iw_take n t (a :: acc) rest K (Nat.succ.inj h), List.reverse_cons, List.append_assoc]
      rfl
theorem iw_pad : ∀ (n : Nat) (K : List Nat → iv_R), iv_pad n K = K (List.replicate n 147573952589676412928)
  | 0, K => rfl
  | n + 1, K => by
    have e : iv_pad (n + 1) K = iv_pad n (fun t => K (147573952589676412928 :: t)) := rfl
    rw [e, iw_pad n]
    rfl
theorem iw_cat : ∀ (l r : List Nat) (K : List Nat → iv_R), iv_cat l r K = K (l ++ r)
  | [], r, K => rfl
  | a :: t, r, K => by
    have e : iv_cat (a :: t) r K = iv_cat t r (fun z => K (a :: z)) := rfl
    rw [e, iw_cat t r]
    rfl
/-- the receiver that a call asks for -/
def iw_rc (rc : Nat) (as : List Nat) (L : iv_H) : Prop := rc = 0 ∨ ∃ r t kd m, as = (18446744073709551616 + r) :: t ∧ r ≤ 4294967296 ∧ iw_is L r kd m ∧ kd % 4 = 0 ∧ iv_sub2 (kd / 4) (rc - 1) = true
theorem iw_rcv {rc : Nat} {as : List Nat} {L : iv_H} {K : iv_R} (h : iw_rc rc as L) : iv_rcv rc as L K = K := by
  rcases h with rfl | ⟨r, t, kd, m, rfl, h1, ⟨c, h2⟩, h3, h4⟩
  · rfl
  · by_cases h0 : rc = 0
    · subst h0
      rfl
    · unfold iv_rcv
      have e : Nat.beq rc 0 = false := by rw [iv_n10]; exact h0
      have e3 : Nat.sub (18446744073709551616 + r) 18446744073709551616 = r := by
        show 18446744073709551616 + r - 18446744073709551616 = r
        omega
      rw [e]
      show (@Bool.rec (fun _ => iv_R) none _ (Nat.ble 18446744073709551616 (18446744073709551616 + r))) = K
      rw [iw_bt (by rw [iv_n7]; omega), iw_bt (by rw [iv_n7]; omega), e3, iw_hg h2, iw_bt (by rw [iv_n8]; exact h3), iw_bt (by exact h4)]
section IW3
variable {sc : Nat × Nat} {out out' : Nat × iv_H} {d mi c0 s0 pc np x mj n nt rc : Nat} {lo st as rest : List Nat} {L : iv_H}
/-- what a call asks beside its callee's end out' -/
def iw_ok (mi mj n rc c0 s0 : Nat) (as rest : List Nat) (L : iv_H) : Prop := as.length = n ∧ iw_rc rc as L ∧ iv_wl rest ≤ 8 ∧ iv_wl as ≤ n ∧ c0 + (pg_i mj).2.2.1 ≤ (pg_i mi).2.2.1 ∧ s0 + (pg_i mj).2.2.2 ≤ (pg_i mi).2.2.2 ∧ n ≤ (pg_i mj).1 ∧ pg_c mj ≠ 0
theorem iw_call (hc : pg_c mi ≠ 0) (hk : iw_ok mi mj n rc c0 s0 as rest L) (hcal : iw_all sc mj d out' 0 0 0 (as ++ List.replicate ((pg_i mj).1 - n) 147573952589676412928) [] L)
    (k : (out'.1 < 147573952589676412928 ∧ iw_all sc mi (d + 1) out (c0 + (pg_i mj).2.2.1) (s0 + (pg_i mj).2.2.2) np lo (out'.1 :: rest) out'.2) ∨ (out'.1 = 147573952589676412928 ∧ iw_all sc mi (d + 1) out (c0 + (pg_i mj).2.2.1) (s0 + (pg_i mj).2.2.2) np lo rest out'.2)) :
    iv_call [] (iw_ih sc (fun m => if m = d + 1 then out else out')) (d + 1, mi, c0, s0) (pg_c mi) pc np nt rc mj n lo (as.reverse ++ rest) L = some out := by
  obtain ⟨h1, h2, h3, h4, h5, h6, h7, h8⟩ := hk
  unfold iv_call
  rw [iw_take n as.reverse [] rest _ (by rw [List.length_reverse]; exact h1), List.reverse_reverse, List.append_nil, iw_rcv h2, iw_bt (by rw [iv_n7]; exact h3), iw_bt (by rw [iv_n7]; exact h4), iw_bt (by rw [iv_n7]; exact h5), iw_bt (by rw [iv_n7]; exact h6), iw_bt (by rw [iv_n7]; exact h7), iv_f_eq, iv_f_eq]
  have e0 : (@Bool.rec (fun _ => iv_S) [] [] (Nat.ble 13 (d + 1, mi, c0, s0).1)) = ([] : iv_S) := by cases Nat.ble 13 (d + 1, mi, c0, s0).1 <;> rfl
  rw [e0]
  show iv_pad (Nat.sub (pg_i mj).1 n) (fun pd => iv_cat as pd fun lo1 => @Option.rec (Nat × iv_H) (fun _ => iv_R) none (fun z => iv_back (iw_ih sc (fun m => if m = d + 1 then out else out')) (d + 1, mi, c0 + (pg_i mj).2.2.1, s0 + (pg_i mj).2.2.2) (pg_c mi) pc np nt lo rest z.1 z.2) (iv_f (pg_c mj) fun cd1 => iw_ih sc (fun m => if m = d + 1 then out else out') (d, mj, 0, 0) cd1 0 lo1 [] L)) = some out
  rw [iw_pad, iw_cat, iv_f_eq]
  have e1 : (fun m => if m = d + 1 then out else out') d = out' := by
    show (if d = d + 1 then out else out') = out'
    rw [if_neg (by omega)]
  have e2 : (fun m => if m = d + 1 then out else out') (d + 1) = out := if_pos rfl
  have e3 : iw_ih sc (fun m => if m = d + 1 then out else out') (d, mj, 0, 0) (pg_c mj) 0 (as ++ List.replicate (Nat.sub (pg_i mj).1 n) 147573952589676412928) [] L = some out' := iw_ih_of e1 h8 hcal
  rw [e3]
  show iv_back (iw_ih sc (fun m => if m = d + 1 then out else out')) (d + 1, mi, c0 + (pg_i mj).2.2.1, s0 + (pg_i mj).2.2.2) (pg_c mi) pc np nt lo rest out'.1 out'.2 = some out
  unfold iv_back
  rcases k with ⟨k1, k⟩ | ⟨k1, k⟩
  · have e : Nat.ble out'.1 147573952589676412927 = true := by rw [iv_n7]; omega
    rw [e]
    exact iw_ih_of e2 hc k
  · have e : Nat.ble out'.1 147573952589676412927 = false := by rw [← Bool.not_eq_true, iv_n7]; omega
    have e' : Nat.beq out'.1 147573952589676412928 = true := by rw [iv_n8]; exact k1
    rw [e, e']
    exact iw_ih_of e2 hc k
/-- a call by its word's kind -/
theorem iw_inv {t : Nat} (hw : iv_wd mi pc = 12 + 256 * np + 16777216 * (mj + 4096 * n + 1048576 * t + 16777216 * rc)) (hn : np < 65536 ∧ mj < 4096 ∧ n < 256) (ht : t = 6 ∨ t = 8 ∨ ((t = 0 ∨ t = 7) ∧ rc = 0)) (hc : pg_c mi ≠ 0) (hk : iw_ok mi mj n rc c0 s0 as rest L) (hcal : iw_all sc mj d out' 0 0 0 (as ++ List.replicate ((pg_i mj).1 - n) 147573952589676412928) [] L)
    (k : (out'.1 < 147573952589676412928 ∧ iw_all sc mi (d + 1) out (c0 + (pg_i mj).2.2.1) (s0 + (pg_i mj).2.2.2) np lo (out'.1 :: rest) out'.2) ∨ (out'.1 = 147573952589676412928 ∧ iw_all sc mi (d + 1) out (c0 + (pg_i mj).2.2.1) (s0 + (pg_i mj).2.2.2) np lo rest out'.2)) :
    iw_all sc mi (d + 1) out c0 s0 pc lo (as.reverse ++ rest) L := by
  refine iw_op (g := fun m => if m = d + 1 then out else out') iw_nil hw ⟨by decide, hn.1⟩ ?_
  have e1 : Nat.mod (Nat.div (mj + 4096 * n + 1048576 * t + 16777216 * rc) 1048576) 16 = t := by
    show (mj + 4096 * n + 1048576 * t + 16777216 * rc) / 1048576 % 16 = t
    omega
  have e2 : Nat.mod (mj + 4096 * n + 1048576 * t + 16777216 * rc) 4096 = mj := by
    show (mj + 4096 * n + 1048576 * t + 16777216 * rc) % 4096 = mj
    omega
  have e3 : Nat.mod (Nat.div (mj + 4096 * n + 1048576 * t + 16777216 * rc) 4096) 256 = n := by
    show (mj + 4096 * n + 1048576 * t + 16777216 * rc) / 4096 % 256 = n
    omega
  have e4 : Nat.div (mj + 4096 * n + 1048576 * t + 16777216 * rc) 16777216 = rc := by
    show (mj + 4096 * n + 1048576 * t + 16777216 * rc) / 16777216 = rc
    omega
  show iv_oInv [] (iw_ih sc (fun m => if m = d + 1 then out else out')) (d + 1, mi, c0, s0) (pg_c mi) pc (mj + 4096 * n + 1048576 * t + 16777216 * rc) np lo (as.reverse ++ rest) L = some out
  unfold iv_oInv
  rw [e1, e2, e3, e4]
  rcases ht with rfl | rfl | ⟨rfl | rfl, rfl⟩
  · exact iw_call hc hk hcal k
  · exact iw_call hc hk hcal k
  · exact iw_call hc hk hcal k
  · exact iw_call hc hk hcal k
end IW3
