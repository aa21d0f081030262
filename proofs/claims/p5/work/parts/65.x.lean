/-! ===== the cells as they stand behind the constructors ===== -/
def x_kd (k : Nat) : Nat := (bif Nat.blt k 49 then (bif Nat.blt k 24 then (bif Nat.blt k 12 then (bif Nat.blt k 6 then (bif Nat.blt k 3 then (bif Nat.blt k 1 then 40 else (bif Nat.blt k 2 then 28 else 1)) else (bif Nat.blt k 4 then 32 else (bif Nat.blt k 5 then 24 else 1))) else (bif Nat.blt k 9 then (bif Nat.blt k 7 then 24 else (bif Nat.blt k 8 then 1 else 24)) else (bif Nat.blt k 10 then 1 else (bif Nat.blt k 11 then 24 else 1)))) else (bif Nat.blt k 18 then (bif Nat.blt k 15 then (bif Nat.blt k 13 then 1 else (bif Nat.blt k 14 then 1 else 8)) else (bif Nat.blt k 16 then 1 else (bif Nat.blt k 17 then 1 else 32))) else (bif Nat.blt k 21 then (bif Nat.blt k 19 then 24 else (bif Nat.blt k 20 then 1 else 24)) else (bif Nat.blt k 22 then 1 else (bif Nat.blt k 23 then 24 else 1))))) else (bif Nat.blt k 36 then (bif Nat.blt k 30 then (bif Nat.blt k 27 then (bif Nat.blt k 25 then 24 else (bif Nat.blt k 26 then 1 else 1)) else (bif Nat.blt k 28 then 1 else (bif Nat.blt k 29 then 8 else 1))) else (bif Nat.blt k 33 then (bif Nat.blt k 31 then 1 else (bif Nat.blt k 32 then 32 else 24)) else (bif Nat.blt k 34 then 1 else (bif Nat.blt k 35 then 24 else 1)))) else (bif Nat.blt k 42 then (bif Nat.blt k 39 then (bif Nat.blt k 37 then 24 else (bif Nat.blt k 38 then 1 else 24)) else (bif Nat.blt k 40 then 1 else (bif Nat.blt k 41 then 1 else 1))) else (bif Nat.blt k 45 then (bif Nat.blt k 43 then 8 else (bif Nat.blt k 44 then 1 else 1)) else (bif Nat.blt k 47 then (bif Nat.blt k 46 then 4 else 1) else (bif Nat.blt k 48 then 1 else 1)))))) else (bif Nat.blt k 73 then (bif Nat.blt k 61 then (bif Nat.blt k 55 then (bif Nat.blt k 52 then (bif Nat.blt k 50 then 1 else (bif Nat.blt k 51 then 1 else 1)) else (bif Nat.blt k 53 then 1 else (bif Nat.blt k 54 then 1 else 1))) else (bif Nat.blt k 58 then (bif Nat.blt k 56 then 1 else (bif Nat.blt k 57 then 1 else 1)) else (bif Nat.blt k 59 then 1 else (bif Nat.blt k 60 then 0 else 1)))) else (bif Nat.blt k 67 then (bif Nat.blt k 64 then (bif Nat.blt k 62 then 36 else (bif Nat.blt k 63 then 12 else 16)) else (bif Nat.blt k 65 then 1 else (bif Nat.blt k 66 then 1 else 1))) else (bif Nat.blt k 70 then (bif Nat.blt k 68 then 1 else (bif Nat.blt k 69 then 1 else 20)) else (bif Nat.blt k 71 then 1 else (bif Nat.blt k 72 then 1 else 1))))) else (bif Nat.blt k 85 then (bif Nat.blt k 79 then (bif Nat.blt k 76 then (bif Nat.blt k 74 then 1 else (bif Nat.blt k 75 then 1 else 44)) else (bif Nat.blt k 77 then 1 else (bif Nat.blt k 78 then 1 else 1))) else (bif Nat.blt k 82 then (bif Nat.blt k 80 then 2 else (bif Nat.blt k 81 then 1 else 1)) else (bif Nat.blt k 83 then 1 else (bif Nat.blt k 84 then 1 else 1)))) else (bif Nat.blt k 91 then (bif Nat.blt k 88 then (bif Nat.blt k 86 then 1 else (bif Nat.blt k 87 then 1 else 1)) else (bif Nat.blt k 89 then 1 else (bif Nat.blt k 90 then 1 else 1))) else (bif Nat.blt k 94 then (bif Nat.blt k 92 then 1 else (bif Nat.blt k 93 then 1 else 1)) else (bif Nat.blt k 96 then (bif Nat.blt k 95 then 1 else 1) else (bif Nat.blt k 97 then 1 else 3)))))))
def x_ln (k : Nat) : Nat := (bif Nat.blt k 49 then (bif Nat.blt k 24 then (bif Nat.blt k 12 then (bif Nat.blt k 6 then (bif Nat.blt k 3 then (bif Nat.blt k 1 then 12 else (bif Nat.blt k 2 then 3 else 400)) else (bif Nat.blt k 4 then 10 else (bif Nat.blt k 5 then 3 else 140))) else (bif Nat.blt k 9 then (bif Nat.blt k 7 then 3 else (bif Nat.blt k 8 then 40 else 3)) else (bif Nat.blt k 10 then 40 else (bif Nat.blt k 11 then 3 else 40)))) else (bif Nat.blt k 18 then (bif Nat.blt k 15 then (bif Nat.blt k 13 then 6 else (bif Nat.blt k 14 then 6 else 5)) else (bif Nat.blt k 16 then 400 else (bif Nat.blt k 17 then 32 else 10))) else (bif Nat.blt k 21 then (bif Nat.blt k 19 then 3 else (bif Nat.blt k 20 then 140 else 3)) else (bif Nat.blt k 22 then 40 else (bif Nat.blt k 23 then 3 else 40))))) else (bif Nat.blt k 36 then (bif Nat.blt k 30 then (bif Nat.blt k 27 then (bif Nat.blt k 25 then 3 else (bif Nat.blt k 26 then 40 else 6)) else (bif Nat.blt k 28 then 6 else (bif Nat.blt k 29 then 5 else 400))) else (bif Nat.blt k 33 then (bif Nat.blt k 31 then 32 else (bif Nat.blt k 32 then 10 else 3)) else (bif Nat.blt k 34 then 140 else (bif Nat.blt k 35 then 3 else 40)))) else (bif Nat.blt k 42 then (bif Nat.blt k 39 then (bif Nat.blt k 37 then 3 else (bif Nat.blt k 38 then 40 else 3)) else (bif Nat.blt k 40 then 40 else (bif Nat.blt k 41 then 6 else 6))) else (bif Nat.blt k 45 then (bif Nat.blt k 43 then 5 else (bif Nat.blt k 44 then 400 else 32)) else (bif Nat.blt k 47 then (bif Nat.blt k 46 then 14 else 6) else (bif Nat.blt k 48 then 36 else 20)))))) else (bif Nat.blt k 73 then (bif Nat.blt k 61 then (bif Nat.blt k 55 then (bif Nat.blt k 52 then (bif Nat.blt k 50 then 20 else (bif Nat.blt k 51 then 20 else 72)) else (bif Nat.blt k 53 then 72 else (bif Nat.blt k 54 then 1512 else 20))) else (bif Nat.blt k 58 then (bif Nat.blt k 56 then 20 else (bif Nat.blt k 57 then 120 else 6)) else (bif Nat.blt k 59 then 8 else (bif Nat.blt k 60 then 2 else 6)))) else (bif Nat.blt k 67 then (bif Nat.blt k 64 then (bif Nat.blt k 62 then 2 else (bif Nat.blt k 63 then 2 else 18)) else (bif Nat.blt k 65 then 36 else (bif Nat.blt k 66 then 6 else 6))) else (bif Nat.blt k 70 then (bif Nat.blt k 68 then 5 else (bif Nat.blt k 69 then 5 else 19)) else (bif Nat.blt k 71 then 36 else (bif Nat.blt k 72 then 6 else 6))))) else (bif Nat.blt k 85 then (bif Nat.blt k 79 then (bif Nat.blt k 76 then (bif Nat.blt k 74 then 5 else (bif Nat.blt k 75 then 5 else 36)) else (bif Nat.blt k 77 then 1952 else (bif Nat.blt k 78 then 1121 else 290))) else (bif Nat.blt k 82 then (bif Nat.blt k 80 then 400 else (bif Nat.blt k 81 then 5 else 8)) else (bif Nat.blt k 83 then 400 else (bif Nat.blt k 84 then 6 else 120)))) else (bif Nat.blt k 91 then (bif Nat.blt k 88 then (bif Nat.blt k 86 then 72 else (bif Nat.blt k 87 then 1440 else 72)) else (bif Nat.blt k 89 then 20 else (bif Nat.blt k 90 then 20 else 20))) else (bif Nat.blt k 94 then (bif Nat.blt k 92 then 72 else (bif Nat.blt k 93 then 6 else 6)) else (bif Nat.blt k 96 then (bif Nat.blt k 95 then 6 else 6) else (bif Nat.blt k 97 then 5 else 1)))))))
def x_mk (k : Nat) : Nat := (bif Nat.blt k 49 then (bif Nat.blt k 24 then (bif Nat.blt k 12 then (bif Nat.blt k 6 then (bif Nat.blt k 3 then (bif Nat.blt k 1 then 1023 else (bif Nat.blt k 2 then 1 else 0)) else (bif Nat.blt k 4 then 127 else (bif Nat.blt k 5 then 2 else 0))) else (bif Nat.blt k 9 then (bif Nat.blt k 7 then 2 else (bif Nat.blt k 8 then 0 else 2)) else (bif Nat.blt k 10 then 0 else (bif Nat.blt k 11 then 2 else 0)))) else (bif Nat.blt k 18 then (bif Nat.blt k 15 then (bif Nat.blt k 13 then 0 else (bif Nat.blt k 14 then 0 else 3)) else (bif Nat.blt k 16 then 0 else (bif Nat.blt k 17 then 0 else 127))) else (bif Nat.blt k 21 then (bif Nat.blt k 19 then 2 else (bif Nat.blt k 20 then 0 else 2)) else (bif Nat.blt k 22 then 0 else (bif Nat.blt k 23 then 2 else 0))))) else (bif Nat.blt k 36 then (bif Nat.blt k 30 then (bif Nat.blt k 27 then (bif Nat.blt k 25 then 2 else (bif Nat.blt k 26 then 0 else 0)) else (bif Nat.blt k 28 then 0 else (bif Nat.blt k 29 then 3 else 0))) else (bif Nat.blt k 33 then (bif Nat.blt k 31 then 0 else (bif Nat.blt k 32 then 127 else 2)) else (bif Nat.blt k 34 then 0 else (bif Nat.blt k 35 then 2 else 0)))) else (bif Nat.blt k 42 then (bif Nat.blt k 39 then (bif Nat.blt k 37 then 2 else (bif Nat.blt k 38 then 0 else 2)) else (bif Nat.blt k 40 then 0 else (bif Nat.blt k 41 then 0 else 0))) else (bif Nat.blt k 45 then (bif Nat.blt k 43 then 3 else (bif Nat.blt k 44 then 0 else 0)) else (bif Nat.blt k 47 then (bif Nat.blt k 46 then 16383 else 0) else (bif Nat.blt k 48 then 0 else 0)))))) else (bif Nat.blt k 73 then (bif Nat.blt k 61 then (bif Nat.blt k 55 then (bif Nat.blt k 52 then (bif Nat.blt k 50 then 0 else (bif Nat.blt k 51 then 0 else 0)) else (bif Nat.blt k 53 then 0 else (bif Nat.blt k 54 then 0 else 0))) else (bif Nat.blt k 58 then (bif Nat.blt k 56 then 0 else (bif Nat.blt k 57 then 0 else 0)) else (bif Nat.blt k 59 then 0 else (bif Nat.blt k 60 then 1 else 0)))) else (bif Nat.blt k 67 then (bif Nat.blt k 64 then (bif Nat.blt k 62 then 3 else (bif Nat.blt k 63 then 3 else 127)) else (bif Nat.blt k 65 then 0 else (bif Nat.blt k 66 then 0 else 0))) else (bif Nat.blt k 70 then (bif Nat.blt k 68 then 0 else (bif Nat.blt k 69 then 0 else 127)) else (bif Nat.blt k 71 then 0 else (bif Nat.blt k 72 then 0 else 0))))) else (bif Nat.blt k 85 then (bif Nat.blt k 79 then (bif Nat.blt k 76 then (bif Nat.blt k 74 then 0 else (bif Nat.blt k 75 then 0 else 35366359086)) else (bif Nat.blt k 77 then 0 else (bif Nat.blt k 78 then 0 else 0))) else (bif Nat.blt k 82 then (bif Nat.blt k 80 then 0 else (bif Nat.blt k 81 then 0 else 0)) else (bif Nat.blt k 83 then 0 else (bif Nat.blt k 84 then 0 else 0)))) else (bif Nat.blt k 91 then (bif Nat.blt k 88 then (bif Nat.blt k 86 then 0 else (bif Nat.blt k 87 then 0 else 0)) else (bif Nat.blt k 89 then 0 else (bif Nat.blt k 90 then 0 else 0))) else (bif Nat.blt k 94 then (bif Nat.blt k 92 then 0 else (bif Nat.blt k 93 then 0 else 0)) else (bif Nat.blt k 96 then (bif Nat.blt k 95 then 0 else 0) else (bif Nat.blt k 97 then 0 else 0)))))))
/-- the type of a place: 0 an int, 1 a reference, 2 a long -/
def x_ty (k i : Nat) : Nat := bif Nat.beq (x_kd k) 3 then 2 else bif Nat.beq (x_mk k) 0 then 0 else bif Nat.testBit (x_mk k) i then 1 else 0
def x_nc : Nat := 98
/-! ===== the heap as a table of numbers ===== -/
abbrev xh : Type := Nat → Nat → Nat
def x_up (h : xh) (k i v : Nat) : xh := fun k' i' => if k' = k ∧ i' = i then v else h k' i'
theorem x_up_at {h : xh} {k i v : Nat} : x_up h k i v k i = v := if_pos ⟨rfl, rfl⟩
theorem x_up_k {h : xh} {k i v k' i' : Nat} (n : k' ≠ k) : x_up h k i v k' i' = h k' i' := if_neg (fun z => n z.1)
theorem x_up_i {h : xh} {k i v k' i' : Nat} (n : i' ≠ i) : x_up h k i v k' i' = h k' i' := if_neg (fun z => n z.2)
def x_cd (t v : Nat) : Nat := match t with
  | 0 => iv_c v
  | 1 => 18446744073709551616 + v
  | _ => 73786976294838206464 + iv_c v
theorem x_cd_lt {t v : Nat} (h : v < 4294967296) : x_cd t v < 4722366482869645213696 := by
  have e := (iw_c_lt h).1
  match t with
  | 0 => show iv_c v < _; omega
  | 1 => show 18446744073709551616 + v < _; omega
  | n + 2 => show 73786976294838206464 + iv_c v < _; omega
/-- a reference to cell k -/
def x_r (k : Nat) : Nat := 18446744073709551616 + k
/-- the heap L holds the table h -/
def xR (h : xh) (L : iv_H) : Prop := ∀ k, k < x_nc → iw_is L k (x_kd k) (x_ln k) ∧ ∀ i, i < x_ln k → iw_get L k i = x_cd (x_ty k i) (h k i) ∧ h k i < 4294967296
theorem xR_put {h : xh} {L : iv_H} {k i v : Nat} (hL : xR h L) (hk : k < x_nc) (hi : i < x_ln k) (hv : v < 4294967296) : xR (x_up h k i v) (iw_put L k i (x_cd (x_ty k i) v)) := by
  intro j hj
  obtain ⟨a, b⟩ := hL j hj
  obtain ⟨a0, b0⟩ := hL k hk
  refine ⟨iw_is_put a0 a, fun i' hi' => ?_⟩
  rw [iw_get_put a0 (x_cd_lt hv)]
  by_cases e : j = k ∧ i' = i
  · obtain ⟨rfl, rfl⟩ := e
    rw [if_pos ⟨rfl, rfl⟩, x_up_at]
    exact ⟨rfl, hv⟩
  · rw [if_neg e]
    have e2 : x_up h k i v j i' = h j i' := if_neg e
    rw [e2]
    exact b i' hi'
/-- from here the method comes to an end of which Q holds, in every heap that holds h -/
def X (sc : Nat × Nat) (mi d : Nat) (Q : Nat → xh → Prop) (c0 s0 pc : Nat) (lo st : List Nat) (h : xh) : Prop :=
  ∀ L, xR h L → ∃ v L' h', xR h' L' ∧ Q v h' ∧ iw_all sc mi d (v, L') c0 s0 pc lo st L
/-- the word at pc -/
abbrev wd (mi pc op np x : Nat) : Prop := iv_wd mi pc = op + 256 * np + 16777216 * x ∧ np < 65536
theorem wd_ne {mi pc op np x : Nat} (w : wd mi pc op np x) (ho : 0 < op) : pg_c mi ≠ 0 := by
  intro e
  have e2 : iv_wd mi pc = 0 := by
    show pg_c mi >>> (96 * pc) % _ = 0
    rw [e, Nat.zero_shiftRight]
  have w1 := w.1
  omega
section XR
variable {sc : Nat × Nat} {mi d c0 s0 pc np x a z v : Nat} {lo lo' st : List Nat} {h : xh} {Q : Nat → xh → Prop}
theorem X.mono {Q' : Nat → xh → Prop} (k : X sc mi d Q c0 s0 pc lo st h) (hq : ∀ v h', Q v h' → Q' v h') : X sc mi d Q' c0 s0 pc lo st h := fun L hL =>
  let ⟨a, b, c, e, f, g⟩ := k L hL; ⟨a, b, c, e, hq _ _ f, g⟩
theorem x_iload (w : wd mi pc 3 np x) (hx : lo[x]? = some (iv_c a)) (ha : a < 4294967296) (k : X sc mi d Q c0 s0 np lo (iv_c a :: st) h) : X sc mi d Q c0 s0 pc lo st h := fun L hL =>
  let ⟨v, b, c, e, f, g⟩ := k L hL; ⟨v, b, c, e, f, iw_iload w.1 w.2 (wd_ne w (by decide)) hx (iw_c_lt ha).1 g⟩
theorem x_aload {r : Nat} (w : wd mi pc 1 np x) (hx : lo[x]? = some (x_r r)) (hr : r ≤ 4294967296) (k : X sc mi d Q c0 s0 np lo (x_r r :: st) h) : X sc mi d Q c0 s0 pc lo st h := fun L hL =>
  let ⟨v, b, c, e, f, g⟩ := k L hL; ⟨v, b, c, e, f, iw_aload w.1 w.2 (wd_ne w (by decide)) hx (Nat.le_add_right _ _) (Nat.add_le_add_left hr _) g⟩
theorem x_const (w : wd mi pc 4 np x) (hx : x = iv_c a) (ha : a < 4294967296) (k : X sc mi d Q c0 s0 np lo (iv_c a :: st) h) : X sc mi d Q c0 s0 pc lo st h := fun L hL => by
  obtain ⟨v, b, c, e, f, g⟩ := k L hL
  subst hx
  exact ⟨v, b, c, e, f, iw_const w.1 w.2 (wd_ne w (by decide)) (iw_c_lt ha).1 g⟩
theorem x_istore (w : wd mi pc 13 np x) (ha : a < 4294967296) (hx : x < lo.length) (hl : lo.set x (iv_c a) = lo') (k : X sc mi d Q c0 s0 np lo' st h) : X sc mi d Q c0 s0 pc lo (iv_c a :: st) h := fun L hL => by
  obtain ⟨v, b, c, e, f, g⟩ := k L hL
  subst hl
  exact ⟨v, b, c, e, f, iw_istore w.1 w.2 (wd_ne w (by decide)) (iw_c_lt ha).1 hx g⟩
theorem x_astore {r : Nat} (w : wd mi pc 36 np x) (hr : r ≤ 4294967296) (hx : x < lo.length) (hl : lo.set x (x_r r) = lo') (k : X sc mi d Q c0 s0 np lo' st h) : X sc mi d Q c0 s0 pc lo (x_r r :: st) h := fun L hL => by
  obtain ⟨v, b, c, e, f, g⟩ := k L hL
  subst hl
  exact ⟨v, b, c, e, f, iw_astore w.1 w.2 (wd_ne w (by decide)) (Nat.le_add_right _ _) (Nat.add_le_add_left hr _) hx g⟩
theorem x_goto (w : wd mi pc 7 np x) (k : X sc mi d Q c0 s0 x lo st h) : X sc mi d Q c0 s0 pc lo st h := fun L hL =>
  let ⟨v, b, c, e, f, g⟩ := k L hL; ⟨v, b, c, e, f, iw_goto w.1 w.2 (wd_ne w (by decide)) g⟩
theorem x_dup (w : wd mi pc 20 np x) (hv : v ≤ 73786976294838206463) (k : X sc mi d Q c0 s0 np lo (v :: v :: st) h) : X sc mi d Q c0 s0 pc lo (v :: st) h := fun L hL =>
  let ⟨v, b, c, e, f, g⟩ := k L hL; ⟨v, b, c, e, f, iw_dup w.1 w.2 (wd_ne w (by decide)) hv g⟩
theorem x_dup2 {v2 : Nat} (w : wd mi pc 21 np x) (hv : v ≤ 73786976294838206463) (hv2 : v2 ≤ 73786976294838206463) (k : X sc mi d Q c0 s0 np lo (v :: v2 :: v :: v2 :: st) h) : X sc mi d Q c0 s0 pc lo (v :: v2 :: st) h := fun L hL =>
  let ⟨v, b, c, e, f, g⟩ := k L hL; ⟨v, b, c, e, f, iw_dup2 w.1 w.2 (wd_ne w (by decide)) hv hv2 g⟩
/-- field f of cell k, of type t, by the word's x -/
noncomputable def x_g (k x f t : Nat) : Bool := Nat.blt k x_nc && (Nat.beq (x_kd k % 4) 0 && (iv_sub2 (x_kd k / 4) (x / 64 % 64) && (Nat.beq (x % 64) f && (Nat.blt f (x_ln k) && Nat.beq (x_ty k f) t))))
theorem x_g_of {k x f t : Nat} (g : x_g k x f t = true) : k < x_nc ∧ x_kd k % 4 = 0 ∧ iv_sub2 (x_kd k / 4) (x / 64 % 64) = true ∧ x % 64 = f ∧ f < x_ln k ∧ x_ty k f = t := by
  unfold x_g at g
  rw [Bool.and_eq_true, Bool.and_eq_true, Bool.and_eq_true, Bool.and_eq_true, Bool.and_eq_true] at g
  obtain ⟨g1, g2, g3, g4, g5, g6⟩ := g
  exact ⟨Nat.blt_eq.mp g1, Nat.eq_of_beq_eq_true g2, g3, Nat.eq_of_beq_eq_true g4, Nat.blt_eq.mp g5, Nat.eq_of_beq_eq_true g6⟩
theorem x_nc_le {k : Nat} (h : k < x_nc) : k ≤ 4294967296 := Nat.le_of_lt (Nat.lt_trans h (by decide))
theorem x_getI {r f : Nat} (w : wd mi pc 2 np x) (hx : x < 4096) (g : x_g r x f 0 = true) (k : h r f < 4294967296 → X sc mi d Q c0 s0 np lo (iv_c (h r f) :: st) h) : X sc mi d Q c0 s0 pc lo (x_r r :: st) h := fun L hL => by
  obtain ⟨g1, g2, g3, g4, g5, g6⟩ := x_g_of g
  obtain ⟨i1, i2⟩ := (hL r g1)
  obtain ⟨j1, j2⟩ := i2 f g5
  obtain ⟨v, b, c, e, f1, g⟩ := k j2 L hL
  rw [g6] at j1
  have j1 : iw_get L r f = iv_c (h r f) := j1
  rw [← j1] at g
  have e64 : x / 64 % 64 = x / 64 := by omega
  exact ⟨v, b, c, e, f1, iw_getf w.1 w.2 (wd_ne w (by decide)) (x_nc_le g1) i1 g2 (by rw [← e64]; exact g3) g4 g5 g⟩
theorem x_getR {r f q : Nat} (w : wd mi pc 2 np x) (hx : x < 4096) (g : x_g r x f 1 = true) (hq : h r f = q) (k : X sc mi d Q c0 s0 np lo (x_r q :: st) h) : X sc mi d Q c0 s0 pc lo (x_r r :: st) h := fun L hL => by
  obtain ⟨g1, g2, g3, g4, g5, g6⟩ := x_g_of g
  obtain ⟨i1, i2⟩ := (hL r g1)
  obtain ⟨j1, j2⟩ := i2 f g5
  obtain ⟨v, b, c, e, f1, g⟩ := k L hL
  rw [g6, hq] at j1
  have j1 : iw_get L r f = x_r q := j1
  rw [← j1] at g
  have e64 : x / 64 % 64 = x / 64 := by omega
  exact ⟨v, b, c, e, f1, iw_getf w.1 w.2 (wd_ne w (by decide)) (x_nc_le g1) i1 g2 (by rw [← e64]; exact g3) g4 g5 g⟩
theorem x_pf0 {a : Nat} (ha : a < 4294967296) : iv_pfit 0 (iv_c a) = true := by
  have e := (iw_c_lt ha).1
  show (Nat.ble (iv_c a) 18446744073709551615) = true
  rw [iv_n7]
  omega
theorem x_pf1 {a : Nat} (h1 : 2147483648 ≤ a) (h2 : a ≤ 2147483649) : iv_pfit 1 (iv_c a) = true := by
  have h3 : a = 2147483648 ∨ a = 2147483649 := by omega
  rcases h3 with rfl | rfl <;> decide +kernel
theorem x_putI {r f : Nat} (w : wd mi pc 18 np x) (g : x_g r x f 0 = true) (ha : a < 4294967296) (ht : x / 4096 % 4 = 0 ∨ (x / 4096 % 4 = 1 ∧ 2147483648 ≤ a ∧ a ≤ 2147483649)) (k : X sc mi d Q c0 s0 np lo st (x_up h r f a)) : X sc mi d Q c0 s0 pc lo (iv_c a :: x_r r :: st) h := fun L hL => by
  obtain ⟨g1, g2, g3, g4, g5, g6⟩ := x_g_of g
  obtain ⟨i1, i2⟩ := (hL r g1)
  have p := xR_put hL g1 g5 ha
  rw [g6] at p
  obtain ⟨v, b, c, e, f1, g⟩ := k _ p
  refine ⟨v, b, c, e, f1, iw_putf w.1 w.2 (wd_ne w (by decide)) (x_nc_le g1) i1 g2 g3 g4 g5 rfl ?_ g⟩
  rcases ht with ht | ⟨ht, h1, h2⟩
  · rw [ht]
    exact x_pf0 ha
  · rw [ht]
    exact x_pf1 h1 h2
theorem x_putR {r f q : Nat} (w : wd mi pc 18 np x) (g : x_g r x f 1 = true) (hq : q < x_nc) (ht : x / 4096 % 4 = 2) (k : X sc mi d Q c0 s0 np lo st (x_up h r f q)) : X sc mi d Q c0 s0 pc lo (x_r q :: x_r r :: st) h := fun L hL => by
  obtain ⟨g1, g2, g3, g4, g5, g6⟩ := x_g_of g
  obtain ⟨i1, i2⟩ := (hL r g1)
  have p := xR_put hL g1 g5 (v := q) (Nat.lt_trans hq (by decide))
  rw [g6] at p
  obtain ⟨v, b, c, e, f1, g⟩ := k _ p
  refine ⟨v, b, c, e, f1, iw_putf w.1 w.2 (wd_ne w (by decide)) (x_nc_le g1) i1 g2 g3 g4 g5 rfl ?_ g⟩
  rw [ht]
  have q2 := x_nc_le hq
  show (@Bool.rec (fun _ => Bool) false (@Bool.rec (fun _ => Bool) false true (Nat.ble (18446744073709551616 + q) 18446744078004518912)) (Nat.ble 18446744073709551616 (18446744073709551616 + q))) = true
  have e1 : Nat.ble 18446744073709551616 (18446744073709551616 + q) = true := by rw [iv_n7]; omega
  have e2 : Nat.ble (18446744073709551616 + q) 18446744078004518912 = true := by rw [iv_n7]; omega
  rw [e1, e2]
end XR

