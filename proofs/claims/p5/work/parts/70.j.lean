/-! ===== regions: places of one bound and one group ===== -/
def rgn (k c m N lo hi g : Nat) : Prop := ∀ l, l < N → k < x_nc ∧ c + m * l < x_ln k ∧ j_lo k (c + m * l) = lo ∧ j_hi k (c + m * l) = hi ∧ x_gr k (c + m * l) = g ∧ j_nt k (c + m * l)
theorem jB {h : xh} {k c m N lo hi g e : Nat} (l : Nat) (hJ : J h) (rg : rgn k c m N lo hi g) (hl : l < N) (he : e = c + m * l) : lo ≤ h k e ∧ h k e ≤ hi := by
  obtain ⟨r1, r2, r3, r4, -, -⟩ := rg l hl
  subst he
  have b := hJ.1 k (c + m * l) r1 r2
  rw [r3, r4] at b
  exact b
theorem jU {h : xh} {k c m N lo hi g e v : Nat} (l : Nat) (hJ : J h) (rg : rgn k c m N lo hi g) (hl : l < N) (he : e = c + m * l) (hv : lo ≤ v ∧ v ≤ hi) : J (x_up h k e v) := by
  obtain ⟨r1, r2, r3, r4, -, r6⟩ := rg l hl
  subst he
  refine J_up hJ ?_ r6
  rw [r3, r4]
  exact hv
theorem jF {h h1 : xh} {k c m N lo hi g e v M : Nat} (l : Nat) (f : Fr M h h1) (rg : rgn k c m N lo hi g) (hl : l < N) (he : e = c + m * l) (hg : Nat.testBit M g = true) : Fr M h (x_up h1 k e v) := by
  obtain ⟨-, -, -, -, r5, -⟩ := rg l hl
  subst he
  exact f.up (by rw [r5]; exact hg)
theorem jK {h h1 : xh} {k c m N lo hi g e M : Nat} (l : Nat) (f : Fr M h h1) (rg : rgn k c m N lo hi g) (hl : l < N) (he : e = c + m * l) (hg : Nat.testBit M g = false) : h1 k e = h k e := by
  obtain ⟨-, -, -, -, r5, -⟩ := rg l hl
  subst he
  exact f k _ (by rw [r5]; exact hg)
section XR4
variable {sc : Nat × Nat} {mi d c0 s0 pc np x a z v : Nat} {lo lo' st : List Nat} {h : xh} {Q : Nat → xh → Prop}
/-- loads, by what stands there -/
theorem x_getC {r f q : Nat} (w : wd mi pc 2 np x) (hx : x < 4096) (g : x_g r x f 0 = true) (hq : h r f = q) (k : q < 4294967296 → X sc mi d Q c0 s0 np lo (iv_c q :: st) h) : X sc mi d Q c0 s0 pc lo (x_r r :: st) h := by
  subst hq
  exact x_getI w hx g k
theorem x_aldC {r n i q : Nat} (w : wd mi pc 8 np x) (g : x_a r 1 n = true) (ha : a = 2147483648 + i) (hi : i < n) (hn : n ≤ 2147483647) (hq : h r i = q) (k : q < 4294967296 → X sc mi d Q c0 s0 np lo (iv_c q :: st) h) : X sc mi d Q c0 s0 pc lo (iv_c a :: x_r r :: st) h := by
  subst hq
  exact x_ald (kd := 1) w (Or.inl rfl) g ha hi hn k
theorem x_baldC {r n i q : Nat} (w : wd mi pc 31 np x) (g : x_a r 2 n = true) (ha : a = 2147483648 + i) (hi : i < n) (hn : n ≤ 2147483647) (hq : h r i = q) (k : q < 4294967296 → X sc mi d Q c0 s0 np lo (iv_c q :: st) h) : X sc mi d Q c0 s0 pc lo (iv_c a :: x_r r :: st) h := by
  subst hq
  exact x_ald (kd := 2) w (Or.inr rfl) g ha hi hn k
/-- a call that is gone into -/
theorem x_nI {t mj n rc ml nr : Nat} {as rest lo1 : List Nat} (w : wd mi pc 12 np (mj + 4096 * n + 1048576 * t + 16777216 * rc)) (ht : t = 6 ∨ t = 8 ∨ (t = 0 ∧ rc = 0) ∨ (t = 7 ∧ rc = 0)) (g : x_cb mi mj n ml 0 0 c0 s0 = true) (hrc : x_rc rc as) (hst : st = as.reverse ++ rest) (hn : as.length = n) (hwa : iv_wl as ≤ n) (hwr : iv_wl rest ≤ nr) (h8 : nr ≤ 8) (hl : lo1 = as ++ List.replicate (ml - n) 147573952589676412928)
    (k : X sc mj d (xI fun r h' => X sc mi (d + 1) Q c0 s0 np lo (iv_c r :: rest) h') 0 0 0 lo1 [] h) : X sc mi (d + 1) Q c0 s0 pc lo st h :=
  x_cI w ht g hrc hst hn hwa hwr h8 hl k (fun _ _ _ p => p)
theorem x_nV {t mj n rc ml nr : Nat} {as rest lo1 : List Nat} (w : wd mi pc 12 np (mj + 4096 * n + 1048576 * t + 16777216 * rc)) (ht : t = 6 ∨ t = 8 ∨ (t = 0 ∧ rc = 0) ∨ (t = 7 ∧ rc = 0)) (g : x_cb mi mj n ml 0 0 c0 s0 = true) (hrc : x_rc rc as) (hst : st = as.reverse ++ rest) (hn : as.length = n) (hwa : iv_wl as ≤ n) (hwr : iv_wl rest ≤ nr) (h8 : nr ≤ 8) (hl : lo1 = as ++ List.replicate (ml - n) 147573952589676412928)
    (k : X sc mj d (xV fun h' => X sc mi (d + 1) Q c0 s0 np lo rest h') 0 0 0 lo1 [] h) : X sc mi (d + 1) Q c0 s0 pc lo st h :=
  x_cV w ht g hrc hst hn hwa hwr h8 hl k (fun _ p => p)
/-- quotients and rests of numbers that are not below 0 -/
theorem x_ubN {i : Nat} (hi : i < 2147483648) : iv_ub (2147483648 + i) = nI i := by
  show Int32.ofNat (2147483648 + i + 2147483648) = Int32.ofNat i
  have e : 2147483648 + i + 2147483648 = i + 4294967296 * 1 := by omega
  rw [e, ← Int32.toBitVec_inj]
  show BitVec.ofNat 32 (i + 4294967296 * 1) = BitVec.ofNat 32 i
  apply BitVec.eq_of_toNat_eq
  rw [BitVec.toNat_ofNat, BitVec.toNat_ofNat]
  show (i + 4294967296 * 1) % 4294967296 = i % 4294967296
  omega
theorem x_bsN {i : Nat} (hi : i < 2147483648) : iv_bs (nI i) = 2147483648 + i := by
  show ((Int32.ofNat i).toBitVec.toNat + 2147483648) % 4294967296 = _
  have e9 : (Int32.ofNat i).toBitVec.toNat = i := pk_tn (n := i) (by omega)
  rw [e9]
  omega
theorem x_div {i j : Nat} (w : wd mi pc 17 np 6) (ha : a = 2147483648 + i) (hz : z = 2147483648 + j) (hi : i < 2147483648) (hj : 0 < j ∧ j < 2147483648) (k : X sc mi d Q c0 s0 np lo (iv_c (2147483648 + i / j) :: st) h) : X sc mi d Q c0 s0 pc lo (iv_c z :: iv_c a :: st) h := fun L hL => by
  obtain ⟨r, b, c, e, f, g⟩ := k L hL
  subst ha
  subst hz
  have hd : i / j < 2147483648 := Nat.lt_of_le_of_lt (Nat.div_le_self _ _) hi
  have hq : iv_alu 6 (2147483648 + i) (2147483648 + j) = some (nI (i / j)) := by
    show (bif Nat.beq (2147483648 + j) 2147483648 then none else some (iv_ub (2147483648 + i) / iv_ub (2147483648 + j))) = _
    have e1 : Nat.beq (2147483648 + j) 2147483648 = false := by rw [iv_n10]; omega
    rw [e1, x_ubN hi, x_ubN hj.2, pk_div hi hj.1 hj.2]
    rfl
  rw [← x_bsN hd] at g
  exact ⟨r, b, c, e, f, iw_alu w.1 w.2 (wd_ne w (by decide)) (by omega) (by omega) hq g⟩
theorem x_rem {i j : Nat} (w : wd mi pc 17 np 7) (ha : a = 2147483648 + i) (hz : z = 2147483648 + j) (hi : i < 2147483648) (hj : 0 < j ∧ j < 2147483648) (k : X sc mi d Q c0 s0 np lo (iv_c (2147483648 + i % j) :: st) h) : X sc mi d Q c0 s0 pc lo (iv_c z :: iv_c a :: st) h := fun L hL => by
  obtain ⟨r, b, c, e, f, g⟩ := k L hL
  subst ha
  subst hz
  have hd : i % j < 2147483648 := Nat.lt_of_le_of_lt (Nat.mod_le _ _) hi
  have hq : iv_alu 7 (2147483648 + i) (2147483648 + j) = some (nI (i % j)) := by
    show (bif Nat.beq (2147483648 + j) 2147483648 then none else some (iv_ub (2147483648 + i) - iv_ub (2147483648 + i) / iv_ub (2147483648 + j) * iv_ub (2147483648 + j))) = _
    have e1 : Nat.beq (2147483648 + j) 2147483648 = false := by rw [iv_n10]; omega
    rw [e1, x_ubN hi, x_ubN hj.2, pk_rem hi hj.1 hj.2]
    rfl
  rw [← x_bsN hd] at g
  exact ⟨r, b, c, e, f, iw_alu w.1 w.2 (wd_ne w (by decide)) (by omega) (by omega) hq g⟩
end XR4
