/-! ===== exact numbers: shifts, the lowest byte (for the likeness of the tapes) ===== -/
def bsh (a z : Nat) : Nat := iv_bs (iv_ub a >>> (iv_ub z &&& 31))
def b255 (a : Nat) : Nat := iv_bs (iv_ub a &&& 255)
def b8 (a : Nat) : Nat := iv_bs (iv_ub a).toInt8.toInt32
theorem bsh_lt {a z : Nat} : bsh a z < 4294967296 := x_bs _
theorem b255_in {a : Nat} : 2147483648 ≤ b255 a ∧ b255 a ≤ 2147483903 := by
  obtain ⟨j, j1, j2⟩ := pk_andE (iv_ub a) (m := 255) 8 (by decide)
  have j1 : j < 256 := j1
  unfold b255
  rw [j2]
  have e := iv_ofn (n := j) (by omega)
  have e : iv_bs (nI j) = 2147483648 + j := e
  rw [e]
  omega
theorem b8_in {a : Nat} : 2147483520 ≤ b8 a ∧ b8 a ≤ 2147483775 := x_bs8 (iv_ub a)
/-- a byte, without and with its sign -/
def byE (c s : Nat) : Prop := (2147483648 ≤ s ∧ c = s) ∨ (s < 2147483648 ∧ c = s + 256)
theorem by_nat (y : Int32) : (y &&& 255).toBitVec.toNat = y.toBitVec.toNat % 256 := by
  rw [Int32.toBitVec_and, BitVec.toNat_and]
  show y.toBitVec.toNat &&& 255 = _
  rw [show (255 : Nat) = 2 ^ 8 - 1 from rfl, Nat.and_two_pow_sub_one_eq_mod]
theorem byE_of (a : Nat) : byE (b255 a) (b8 a) := by
  unfold byE b255 b8
  generalize iv_ub a = y
  have e1 := iv_bs_eq (y &&& 255)
  have e2 := iv_bs_eq y.toInt8.toInt32
  rw [Int8.toInt_toInt32] at e2
  have n1 := by_nat y
  have f1 : (y &&& 255).toInt = ((y.toBitVec.toNat % 256 : Nat) : Int) := by
    rw [← n1]
    show (y &&& 255).toBitVec.toInt = _
    rw [BitVec.toInt_eq_toNat_of_lt (by rw [n1]; omega)]
  have f2 : y.toInt8.toInt = y.toInt.bmod 256 := Int32.toInt_toInt8 y
  have f3 : y.toInt = if 2 * y.toBitVec.toNat < 2 ^ 32 then (y.toBitVec.toNat : Int) else (y.toBitVec.toNat : Int) - (2 ^ 32 : Nat) := BitVec.toInt_eq_toNat_cond y.toBitVec
  have f4 := y.toBitVec.isLt
  rw [f1] at e1
  rw [f2, Int.bmod_def] at e2
  split at f3 <;> split at e2 <;> omega
section EXA
variable {sc : Nat × Nat} {mi d c0 s0 pc np a z : Nat} {lo st : List Nat} {h : xh} {Q : Nat → xh → Prop}
theorem x_shrE (w : wd mi pc 17 np 4) (ha : a < 4294967296) (hz : z < 4294967296) (k : bsh a z < 4294967296 → X sc mi d Q c0 s0 np lo (iv_c (bsh a z) :: st) h) : X sc mi d Q c0 s0 pc lo (iv_c z :: iv_c a :: st) h := fun L hL =>
  let ⟨r, b, c, e, f, g⟩ := k bsh_lt L hL; ⟨r, b, c, e, f, iw_alu (k9 := 4) w.1 w.2 (wd_ne w (by decide)) ha hz rfl g⟩
theorem x_b255 (w : wd mi pc 17 np 0) (ha : a < 4294967296) (k : 2147483648 ≤ b255 a → b255 a ≤ 2147483903 → X sc mi d Q c0 s0 np lo (iv_c (b255 a) :: st) h) : X sc mi d Q c0 s0 pc lo (iv_c 2147483903 :: iv_c a :: st) h := fun L hL => by
  obtain ⟨r, b, c, e, f, g⟩ := k b255_in.1 b255_in.2 L hL
  refine ⟨r, b, c, e, f, iw_alu (k9 := 0) (w := iv_ub a &&& 255) w.1 w.2 (wd_ne w (by decide)) ha (by decide) ?_ g⟩
  show some (iv_ub a &&& iv_ub 2147483903) = some (iv_ub a &&& 255)
  rw [show iv_ub 2147483903 = 255 by decide]
theorem x_b8 (hd : decode (pm_b mi) pc = .ok (.i2b, 1)) (ha : a < 4294967296) (k : 2147483520 ≤ b8 a → b8 a ≤ 2147483775 → X sc mi d Q c0 s0 (pc + 1) lo (iv_c (b8 a) :: st) h) : X sc mi d Q c0 s0 pc lo (iv_c a :: st) h := fun L hL =>
  let ⟨r, b, c, e, f, g⟩ := k b8_in.1 b8_in.2 L hL; ⟨r, b, c, e, f, iw_i2b hd ha g⟩
end EXA
/-! ===== the text on the tape, as numbers: blanks, letters, digits, words ===== -/
/-- the bytes' own functions: B k the byte at k (0 to 255), n the size -/
def tSkip (B : Nat → Nat) (p : Nat → Bool) : Nat → Nat → Nat
  | 0, q => q
  | m + 1, q => if p (B q) then tSkip B p m (q + 1) else q
/-- the first place from q on, before n, whose byte is none of p's -/
def tEnd (B : Nat → Nat) (p : Nat → Bool) (n q : Nat) : Nat := tSkip B p (n - q) q
theorem tSkip_le (B : Nat → Nat) (p : Nat → Bool) : ∀ m q, q ≤ tSkip B p m q ∧ tSkip B p m q ≤ q + m
  | 0, q => ⟨Nat.le_refl _, Nat.le_refl _⟩
  | m + 1, q => by
    unfold tSkip
    split
    · obtain ⟨a, b⟩ := tSkip_le B p m (q + 1)
      omega
    · omega
theorem tEnd_le {B : Nat → Nat} {p : Nat → Bool} {n q : Nat} (h : q ≤ n) : q ≤ tEnd B p n q ∧ tEnd B p n q ≤ n := by
  obtain ⟨a, b⟩ := tSkip_le B p (n - q) q
  unfold tEnd
  omega
theorem tEnd_step {B : Nat → Nat} {p : Nat → Bool} {n q : Nat} (h : q < n) (hp : p (B q) = true) : tEnd B p n q = tEnd B p n (q + 1) := by
  unfold tEnd
  have e : n - q = (n - (q + 1)) + 1 := by omega
  rw [e]
  show (if p (B q) then tSkip B p (n - (q + 1)) (q + 1) else q) = _
  rw [if_pos hp]
theorem tEnd_stop {B : Nat → Nat} {p : Nat → Bool} {n q : Nat} (h : ¬ q < n ∨ p (B q) = false) : tEnd B p n q = q := by
  unfold tEnd
  rcases h with h | h
  · have e : n - q = 0 := by omega
    rw [e]
    rfl
  · cases e : n - q with
    | zero => rfl
    | succ m =>
      show (if p (B q) then tSkip B p m (q + 1) else q) = q
      rw [h]
      rfl
/-! ===== what stands on the tape: blanks, letters, digits, words, numbers ===== -/
def skp (c : Nat) : Bool := Nat.beq c 2147483680
def ltp (c : Nat) : Bool := Nat.ble 2147483745 c && Nat.ble c 2147483770
/-- behind the blanks, from p on -/
def sk (B : Nat → Nat) (n p : Nat) : Nat := tEnd B skp n p
/-- behind the letters, from p on -/
def le9 (B : Nat → Nat) (n p : Nat) : Nat := tEnd B ltp n p
def Sg (B : Nat → Nat) (n c p : Nat) : Prop := p < n ∧ B p = c
def Ltr (B : Nat → Nat) (n p : Nat) : Prop := p < n ∧ 2147483745 ≤ B p ∧ B p ≤ 2147483770
def Dg (B : Nat → Nat) (n p : Nat) : Prop := p < n ∧ 2147483696 ≤ B p ∧ B p ≤ 2147483705
def Wd (B : Nat → Nat) (n i p : Nat) : Prop := p + iv_tl i ≤ n ∧ (∀ j, j < iv_tl i → B (p + j) = 2147483648 + iv_tc i j) ∧ ¬ Ltr B n (p + iv_tl i)
def Wm (B : Nat → Nat) (i p e : Nat) : Prop := e = p + iv_tl i ∧ ∀ j, j < iv_tl i → B (p + j) = 2147483648 + iv_tc i j
theorem tSkip_post (B : Nat → Nat) (p : Nat → Bool) : ∀ m q, tSkip B p m q = q + m ∨ p (B (tSkip B p m q)) = false
  | 0, q => Or.inl rfl
  | m + 1, q => by
    unfold tSkip
    split
    · rcases tSkip_post B p m (q + 1) with a | a
      · exact Or.inl (by omega)
      · exact Or.inr a
    · rename_i a
      exact Or.inr (by simpa using a)
theorem tSkip_all (B : Nat → Nat) (p : Nat → Bool) : ∀ m q j, q ≤ j → j < tSkip B p m q → p (B j) = true
  | 0, q, j, h1, h2 => by
    unfold tSkip at h2
    omega
  | m + 1, q, j, h1, h2 => by
    unfold tSkip at h2
    split at h2
    · rename_i a
      by_cases e : j = q
      · rw [e]; exact a
      · exact tSkip_all B p m (q + 1) j (by omega) h2
    · omega
theorem tEnd_post {B : Nat → Nat} {p : Nat → Bool} {n q : Nat} : n ≤ tEnd B p n q ∨ p (B (tEnd B p n q)) = false := by
  unfold tEnd
  rcases tSkip_post B p (n - q) q with a | a
  · exact Or.inl (by omega)
  · exact Or.inr a
theorem tEnd_idem {B : Nat → Nat} {p : Nat → Bool} {n q : Nat} : tEnd B p n (tEnd B p n q) = tEnd B p n q := by
  rcases tEnd_post (B := B) (p := p) (n := n) (q := q) with a | a
  · exact tEnd_stop (Or.inl (by omega))
  · exact tEnd_stop (Or.inr a)
theorem tEnd_ge {B : Nat → Nat} {p : Nat → Bool} {n q : Nat} : q ≤ tEnd B p n q := (tSkip_le B p (n - q) q).1
theorem sk_step {B : Nat → Nat} {n p : Nat} (h : p < n) (e : B p = 2147483680) : sk B n p = sk B n (p + 1) := tEnd_step h (by rw [e]; rfl)
theorem sk_stop {B : Nat → Nat} {n p : Nat} (h : n ≤ p ∨ B p ≠ 2147483680) : sk B n p = p := tEnd_stop (h.elim (fun a => Or.inl (by omega)) (fun a => Or.inr (by
  unfold skp
  cases e : Nat.beq (B p) 2147483680 with
  | false => rfl
  | true => exact absurd (Nat.eq_of_beq_eq_true e) a)))
theorem sk_ge {B : Nat → Nat} {n p : Nat} : p ≤ sk B n p := tEnd_ge
theorem sk_le {B : Nat → Nat} {n p : Nat} (h : p ≤ n) : sk B n p ≤ n := (tEnd_le h).2
theorem sk_idem {B : Nat → Nat} {n p : Nat} : sk B n (sk B n p) = sk B n p := tEnd_idem
theorem ltp_t {c : Nat} (h : ltp c = true) : 2147483745 ≤ c ∧ c ≤ 2147483770 := by
  unfold ltp at h
  rw [Bool.and_eq_true] at h
  exact ⟨Nat.le_of_ble_eq_true h.1, Nat.le_of_ble_eq_true h.2⟩
theorem ltp_of {c : Nat} (h : 2147483745 ≤ c ∧ c ≤ 2147483770) : ltp c = true := by
  unfold ltp
  rw [Nat.ble_eq_true_of_le h.1, Nat.ble_eq_true_of_le h.2]
  rfl
theorem ltp_f {c : Nat} (h : ¬ (2147483745 ≤ c ∧ c ≤ 2147483770)) : ltp c = false := by
  cases e : ltp c with
  | false => rfl
  | true => exact absurd (ltp_t e) h
theorem le9_step {B : Nat → Nat} {n p : Nat} (h : Ltr B n p) : le9 B n p = le9 B n (p + 1) := tEnd_step h.1 (ltp_of h.2)
theorem le9_stop {B : Nat → Nat} {n p : Nat} (h : ¬ Ltr B n p) : le9 B n p = p := by
  by_cases a : p < n
  · exact tEnd_stop (Or.inr (ltp_f (fun z => h ⟨a, z⟩)))
  · exact tEnd_stop (Or.inl a)
theorem le9_ge {B : Nat → Nat} {n p : Nat} : p ≤ le9 B n p := tEnd_ge
theorem le9_le {B : Nat → Nat} {n p : Nat} (h : p ≤ n) : le9 B n p ≤ n := (tEnd_le h).2
theorem le9_end {B : Nat → Nat} {n p : Nat} : ¬ Ltr B n (le9 B n p) := fun z => by
  rcases tEnd_post (B := B) (p := ltp) (n := n) (q := p) with a | a
  · have := z.1
    unfold le9 at this
    omega
  · have b := ltp_of z.2
    unfold le9 at b
    rw [b] at a
    exact absurd a (by decide)
theorem le9_eq {B : Nat → Nat} {n p : Nat} : ∀ m, (∀ j, j < m → Ltr B n (p + j)) → ¬ Ltr B n (p + m) → le9 B n p = p + m := by
  intro m
  induction m generalizing p with
  | zero => intro _ h; exact le9_stop h
  | succ m ih =>
    intro h1 h2
    have z := h1 0 (by omega)
    rw [Nat.add_zero] at z
    rw [le9_step z, ih (fun j hj => by have := h1 (j + 1) (by omega); rw [show p + 1 + j = p + (j + 1) by omega]; exact this) (by rw [show p + 1 + m = p + (m + 1) by omega]; exact h2)]
    omega
theorem tx_ltr : ∀ i, i < 32 → ∀ j, j < iv_tl i → 97 ≤ iv_tc i j ∧ iv_tc i j ≤ 122 := by decide +kernel
theorem Wd.ltr {B : Nat → Nat} {n i p : Nat} (hi : i < 32) (w : Wd B n i p) {j : Nat} (hj : j < iv_tl i) : Ltr B n (p + j) := by
  have a := w.2.1 j hj
  have b := tx_ltr i hi j hj
  have c := w.1
  exact ⟨by omega, by omega, by omega⟩
theorem Wd.le {B : Nat → Nat} {n i p : Nat} (hi : i < 32) (w : Wd B n i p) : le9 B n p = p + iv_tl i := le9_eq _ (fun _ hj => w.ltr hi hj) w.2.2
theorem Wd.of {B : Nat → Nat} {n i p e : Nat} (w : Wm B i p e) (he : e = le9 B n p) (hp : p ≤ n) : Wd B n i p := by
  refine ⟨?_, w.2, ?_⟩
  · have := le9_le (B := B) hp
    have := w.1
    omega
  · rw [← w.1, he]
    exact le9_end
theorem Wd.no {B : Nat → Nat} {n i p e : Nat} (hi : i < 32) (w : ¬ Wm B i p e) (he : e = le9 B n p) : ¬ Wd B n i p := fun z => w ⟨he.trans (z.le hi), z.2.1⟩
/-- words at one place are as long -/
theorem Wd.same {B : Nat → Nat} {n i j p : Nat} (hi : i < 32) (hj : j < 32) (a : Wd B n i p) (b : Wd B n j p) : iv_tl i = iv_tl j := by
  have x := a.le hi
  have y := b.le hj
  omega
theorem Wd.fst {B : Nat → Nat} {n i p : Nat} (a : Wd B n i p) (h : 0 < iv_tl i) : B p = 2147483648 + iv_tc i 0 := a.2.1 0 h
/-- numbers -/
def nv (B : Nat → Nat) (p : Nat) : Nat → Nat
  | 0 => 0
  | d + 1 => 10 * nv B p d + (B (p + d) - 2147483696)
def Nu (B : Nat → Nat) (n p d : Nat) : Prop := (∀ j, j < d → Dg B n (p + j)) ∧ ¬ Dg B n (p + d) ∧ 1 ≤ d ∧ d ≤ 3
def Nb (B : Nat → Nat) (n p : Nat) : Prop := ¬ Dg B n p ∨ ∀ j, j < 4 → Dg B n (p + j)
theorem Nu.same {B : Nat → Nat} {n p d e : Nat} (a : Nu B n p d) (b : Nu B n p e) : d = e := by
  by_cases h : d < e
  · exact absurd (b.1 d h) a.2.1
  · by_cases h2 : e < d
    · exact absurd (a.1 e h2) b.2.1
    · omega
theorem Nu.nb {B : Nat → Nat} {n p d : Nat} (a : Nu B n p d) : ¬ Nb B n p := fun z => by
  rcases z with z | z
  · exact z (a.1 0 (by have := a.2.2.1; omega))
  · exact a.2.1 (z d (by have := a.2.2.2; omega))
theorem nv_lt {B : Nat → Nat} {n p : Nat} : ∀ d, (∀ j, j < d → Dg B n (p + j)) → nv B p d < 10 ^ d := by
  intro d
  induction d with
  | zero => intro _; exact Nat.zero_lt_one
  | succ d ih =>
    intro h
    have a := ih (fun j hj => h j (by omega))
    have b := h d (by omega)
    have c := b.2
    show 10 * nv B p d + (B (p + d) - 2147483696) < 10 ^ (d + 1)
    rw [Nat.pow_succ]
    omega
/-- a number from lo to hi stands at p, is v, and q is behind it; or there is none, and v is -1 -/
def Nr (B : Nat → Nat) (n lo hi p v q : Nat) : Prop := (∃ d, Nu B n p d ∧ v = 2147483648 + nv B p d ∧ lo ≤ v ∧ v ≤ hi ∧ q = sk B n (p + d)) ∨ (v = 2147483647 ∧ (Nb B n p ∨ ∃ d, Nu B n p d ∧ ¬ (lo ≤ 2147483648 + nv B p d ∧ 2147483648 + nv B p d ≤ hi)))
/-- answers -/
def Is (W : Prop) (r : Nat) : Prop := (r = 2147483649 ∧ W) ∨ (r = 2147483648 ∧ ¬ W)
def Tk (W : Prop) (B : Nat → Nat) (n p m r q : Nat) : Prop := (r = 2147483649 ∧ W ∧ q = sk B n (p + m)) ∨ (r = 2147483648 ∧ ¬ W ∧ q = p)
theorem Is.yes {W : Prop} {r : Nat} (h : Is W r) (e : r = 2147483649) : W := h.elim (fun z => z.2) (fun z => by omega)
theorem Is.no {W : Prop} {r : Nat} (h : Is W r) (e : r = 2147483648) : ¬ W := h.elim (fun z => by omega) (fun z => z.2)
theorem Is.mk1 {W : Prop} {r : Nat} (e : r = 2147483649) (w : W) : Is W r := Or.inl ⟨e, w⟩
theorem Is.mk0 {W : Prop} {r : Nat} (e : r = 2147483648) (w : ¬ W) : Is W r := Or.inr ⟨e, w⟩
theorem Tk.yes {W : Prop} {B : Nat → Nat} {n p m r q : Nat} (h : Tk W B n p m r q) (e : r = 2147483649) : W ∧ q = sk B n (p + m) := h.elim (fun z => z.2) (fun z => by omega)
theorem Tk.no {W : Prop} {B : Nat → Nat} {n p m r q : Nat} (h : Tk W B n p m r q) (e : r = 2147483648) : ¬ W ∧ q = p := h.elim (fun z => by omega) (fun z => z.2)
theorem Tk.mk1 {W : Prop} {B : Nat → Nat} {n p m r q a : Nat} (e : r = 2147483649) (w : W) (f : q = sk B n a) (g : a = p + m) : Tk W B n p m r q := Or.inl ⟨e, w, by rw [f, g]⟩
theorem Tk.mk0 {W : Prop} {B : Nat → Nat} {n p m r q : Nat} (e : r = 2147483648) (w : ¬ W) (f : q = p) : Tk W B n p m r q := Or.inr ⟨e, w, f⟩
def rs (r q : Nat) : Option Nat := if r = 2147483649 then some q else none
theorem rs1 {r q : Nat} (h : r = 2147483649) : rs r q = some q := if_pos h
theorem rs0 {r q : Nat} (h : r = 2147483648) : rs r q = none := if_neg (by omega)
/-! ===== the custom's text ===== -/
def Kd.part : Nat := 0
def Kd.atom : Nat := 1
def Kd.line : Nat := 2
def Kd.seq (t : Nat) : Nat := 10 + 2 * t
def Kd.lp (t : Nat) : Nat := 11 + 2 * t
def el : Nat → Nat
  | 0 => Kd.part
  | 1 => Kd.atom
  | _ => Kd.seq 1
/-- '+', 'and', 'or' -/
def Cw (B : Nat → Nat) (n t p : Nat) : Prop := match t with
  | 0 => Sg B n 2147483691 p
  | 1 => Wd B n 31 p
  | _ => Wd B n 15 p
def cw (t : Nat) : Nat := match t with
  | 0 => 1
  | 1 => 3
  | _ => 2
def six (i : Nat) : Prop := i = 2 ∨ i = 27 ∨ i = 5 ∨ i = 28 ∨ i = 29 ∨ i = 30
theorem six_lt {i : Nat} (h : six i) : i < 32 := by unfold six at h; omega
def An (B : Nat → Nat) (n p : Nat) : Prop := ¬ Wd B n 24 p ∧ ¬ Sg B n 2147483688 p ∧ ¬ Wd B n 25 p ∧ ¬ Wd B n 26 p
def G_R (B : Nat → Nat) (n : Nat) (R : Nat → Nat → Nat → Option Nat → Prop) (k : Nat) (l : Nat) (p : Nat) (r : Option Nat) : Prop :=
  (∃ d, k = Kd.part ∧ r = some (sk B n (p + d)) ∧ Nu B n p d) ∨
  (∃ i, k = Kd.part ∧ r = some (sk B n (p + iv_tl i)) ∧ six i ∧ Wd B n i p) ∨
  (k = Kd.part ∧ r = none ∧ Nb B n p ∧ (∀ i, six i → ¬ Wd B n i p)) ∨
  (∃ t, k = Kd.seq t ∧ r = none ∧ R (el t) l p none) ∨
  (∃ t q, k = Kd.seq t ∧ R (el t) l p (some q) ∧ R (Kd.lp t) l q r) ∨
  (∃ t, k = Kd.lp t ∧ r = some p ∧ ¬ Cw B n t p) ∨
  (∃ t, k = Kd.lp t ∧ r = none ∧ Cw B n t p ∧ R (el t) l (sk B n (p + cw t)) none) ∨
  (∃ t q, k = Kd.lp t ∧ Cw B n t p ∧ R (el t) l (sk B n (p + cw t)) (some q) ∧ R (Kd.lp t) l q r) ∨
  (k = Kd.atom ∧ r = none ∧ Wd B n 24 p ∧ 6 ≤ l) ∨
  (k = Kd.atom ∧ Wd B n 24 p ∧ l < 6 ∧ R Kd.atom (l + 1) (sk B n (p + 3)) r) ∨
  (k = Kd.atom ∧ r = none ∧ Sg B n 2147483688 p ∧ 6 ≤ l) ∨
  (k = Kd.atom ∧ r = none ∧ Sg B n 2147483688 p ∧ l < 6 ∧ R (Kd.seq 2) (l + 1) (sk B n (p + 1)) none) ∨
  (∃ q, k = Kd.atom ∧ r = none ∧ Sg B n 2147483688 p ∧ l < 6 ∧ R (Kd.seq 2) (l + 1) (sk B n (p + 1)) (some q) ∧ ¬ Sg B n 2147483689 q) ∨
  (∃ q, k = Kd.atom ∧ r = some (sk B n (q + 1)) ∧ Sg B n 2147483688 p ∧ l < 6 ∧ R (Kd.seq 2) (l + 1) (sk B n (p + 1)) (some q) ∧ Sg B n 2147483689 q) ∨
  (k = Kd.atom ∧ r = some (sk B n (p + 3)) ∧ Wd B n 25 p) ∨
  (k = Kd.atom ∧ r = some (sk B n (p + 4)) ∧ Wd B n 26 p) ∨
  (k = Kd.atom ∧ r = none ∧ An B n p ∧ R (Kd.seq 0) l p none) ∨
  (∃ q, k = Kd.atom ∧ r = none ∧ An B n p ∧ R (Kd.seq 0) l p (some q) ∧ ¬ Sg B n 2147483708 q ∧ ¬ Sg B n 2147483710 q) ∨
  (∃ q, k = Kd.atom ∧ An B n p ∧ R (Kd.seq 0) l p (some q) ∧ (Sg B n 2147483708 q ∨ Sg B n 2147483710 q) ∧ R (Kd.seq 0) l (sk B n (q + 1)) r) ∨
  (k = Kd.line ∧ r = none ∧ ¬ Wd B n 21 p ∧ ¬ Wd B n 22 p) ∨
  (∃ i, k = Kd.line ∧ r = some (sk B n (p + iv_tl i)) ∧ (i = 21 ∨ i = 22) ∧ Wd B n i p ∧ ¬ Wd B n 23 (sk B n (p + iv_tl i))) ∨
  (∃ i, k = Kd.line ∧ (i = 21 ∨ i = 22) ∧ Wd B n i p ∧ Wd B n 23 (sk B n (p + iv_tl i)) ∧ R (Kd.seq 2) 0 (sk B n (sk B n (p + iv_tl i) + 2)) r)
def G (B : Nat → Nat) (n : Nat) (k : Nat) (l : Nat) (p : Nat) (r : Option Nat) : Prop := ∀ R : Nat → Nat → Nat → Option Nat → Prop, (∀ k l p r, G_R B n R k l p r → R k l p r) → R k l p r
theorem G_R.mono {B : Nat → Nat} {n : Nat} {R S : Nat → Nat → Nat → Option Nat → Prop} (h : ∀ k l p r, R k l p r → S k l p r) {k : Nat} {l : Nat} {p : Nat} {r : Option Nat} (x : G_R B n R k l p r) : G_R B n S k l p r := by
  rcases x with ⟨d, e0, e1, a0⟩ | ⟨i, e0, e1, a0, a1⟩ | ⟨e0, e1, a0, a1⟩ | ⟨t, e0, e1, a0⟩ | ⟨t, q, e0, a0, a1⟩ | ⟨t, e0, e1, a0⟩ | ⟨t, e0, e1, a0, a1⟩ | ⟨t, q, e0, a0, a1, a2⟩ | ⟨e0, e1, a0, a1⟩ | ⟨e0, a0, a1, a2⟩ | ⟨e0, e1, a0, a1⟩ | ⟨e0, e1, a0, a1, a2⟩ | ⟨q, e0, e1, a0, a1, a2, a3⟩ | ⟨q, e0, e1, a0, a1, a2, a3⟩ | ⟨e0, e1, a0⟩ | ⟨e0, e1, a0⟩ | ⟨e0, e1, a0, a1⟩ | ⟨q, e0, e1, a0, a1, a2, a3⟩ | ⟨q, e0, a0, a1, a2, a3⟩ | ⟨e0, e1, a0, a1⟩ | ⟨i, e0, e1, a0, a1, a2⟩ | ⟨i, e0, a0, a1, a2, a3⟩
  · exact (Or.inl ⟨d, e0, e1, a0⟩)
  · exact (Or.inr (Or.inl ⟨i, e0, e1, a0, a1⟩))
  · exact (Or.inr (Or.inr (Or.inl ⟨e0, e1, a0, a1⟩)))
  · exact (Or.inr (Or.inr (Or.inr (Or.inl ⟨t, e0, e1, h _ _ _ _ a0⟩))))
  · exact (Or.inr (Or.inr (Or.inr (Or.inr (Or.inl ⟨t, q, e0, h _ _ _ _ a0, h _ _ _ _ a1⟩)))))
  · exact (Or.inr (Or.inr (Or.inr (Or.inr (Or.inr (Or.inl ⟨t, e0, e1, a0⟩))))))
  · exact (Or.inr (Or.inr (Or.inr (Or.inr (Or.inr (Or.inr (Or.inl ⟨t, e0, e1, a0, h _ _ _ _ a1⟩)))))))
  · exact (Or.inr (Or.inr (Or.inr (Or.inr (Or.inr (Or.inr (Or.inr (Or.inl ⟨t, q, e0, a0, h _ _ _ _ a1, h _ _ _ _ a2⟩))))))))
  · exact (Or.inr (Or.inr (Or.inr (Or.inr (Or.inr (Or.inr (Or.inr (Or.inr (Or.inl ⟨e0, e1, a0, a1⟩)))))))))
  · exact (Or.inr (Or.inr (Or.inr (Or.inr (Or.inr (Or.inr (Or.inr (Or.inr (Or.inr (Or.inl ⟨e0, a0, a1, h _ _ _ _ a2⟩))))))))))
  · exact (Or.inr (Or.inr (Or.inr (Or.inr (Or.inr (Or.inr (Or.inr (Or.inr (Or.inr (Or.inr (Or.inl ⟨e0, e1, a0, a1⟩)))))))))))
  · exact (Or.inr (Or.inr (Or.inr (Or.inr (Or.inr (Or.inr (Or.inr (Or.inr (Or.inr (Or.inr (Or.inr (Or.inl ⟨e0, e1, a0, a1, h _ _ _ _ a2⟩))))))))))))
  · exact (Or.inr (Or.inr (Or.inr (Or.inr (Or.inr (Or.inr (Or.inr (Or.inr (Or.inr (Or.inr (Or.inr (Or.inr (Or.inl ⟨q, e0, e1, a0, a1, h _ _ _ _ a2, a3⟩)))))))))))))
  · exact (Or.inr (Or.inr (Or.inr (Or.inr (Or.inr (Or.inr (Or.inr (Or.inr (Or.inr (Or.inr (Or.inr (Or.inr (Or.inr (Or.inl ⟨q, e0, e1, a0, a1, h _ _ _ _ a2, a3⟩))))))))))))))
  · exact (Or.inr (Or.inr (Or.inr (Or.inr (Or.inr (Or.inr (Or.inr (Or.inr (Or.inr (Or.inr (Or.inr (Or.inr (Or.inr (Or.inr (Or.inl ⟨e0, e1, a0⟩)))))))))))))))
  · exact (Or.inr (Or.inr (Or.inr (Or.inr (Or.inr (Or.inr (Or.inr (Or.inr (Or.inr (Or.inr (Or.inr (Or.inr (Or.inr (Or.inr (Or.inr (Or.inl ⟨e0, e1, a0⟩))))))))))))))))
  · exact (Or.inr (Or.inr (Or.inr (Or.inr (Or.inr (Or.inr (Or.inr (Or.inr (Or.inr (Or.inr (Or.inr (Or.inr (Or.inr (Or.inr (Or.inr (Or.inr (Or.inl ⟨e0, e1, a0, h _ _ _ _ a1⟩)))))))))))))))))
  · exact (Or.inr (Or.inr (Or.inr (Or.inr (Or.inr (Or.inr (Or.inr (Or.inr (Or.inr (Or.inr (Or.inr (Or.inr (Or.inr (Or.inr (Or.inr (Or.inr (Or.inr (Or.inl ⟨q, e0, e1, a0, h _ _ _ _ a1, a2, a3⟩))))))))))))))))))
  · exact (Or.inr (Or.inr (Or.inr (Or.inr (Or.inr (Or.inr (Or.inr (Or.inr (Or.inr (Or.inr (Or.inr (Or.inr (Or.inr (Or.inr (Or.inr (Or.inr (Or.inr (Or.inr (Or.inl ⟨q, e0, a0, h _ _ _ _ a1, a2, h _ _ _ _ a3⟩)))))))))))))))))))
  · exact (Or.inr (Or.inr (Or.inr (Or.inr (Or.inr (Or.inr (Or.inr (Or.inr (Or.inr (Or.inr (Or.inr (Or.inr (Or.inr (Or.inr (Or.inr (Or.inr (Or.inr (Or.inr (Or.inr (Or.inl ⟨e0, e1, a0, a1⟩))))))))))))))))))))
  · exact (Or.inr (Or.inr (Or.inr (Or.inr (Or.inr (Or.inr (Or.inr (Or.inr (Or.inr (Or.inr (Or.inr (Or.inr (Or.inr (Or.inr (Or.inr (Or.inr (Or.inr (Or.inr (Or.inr (Or.inr (Or.inl ⟨i, e0, e1, a0, a1, a2⟩)))))))))))))))))))))
  · exact (Or.inr (Or.inr (Or.inr (Or.inr (Or.inr (Or.inr (Or.inr (Or.inr (Or.inr (Or.inr (Or.inr (Or.inr (Or.inr (Or.inr (Or.inr (Or.inr (Or.inr (Or.inr (Or.inr (Or.inr (Or.inr ⟨i, e0, a0, a1, a2, h _ _ _ _ a3⟩)))))))))))))))))))))
theorem G.mk {B : Nat → Nat} {n : Nat} {k : Nat} {l : Nat} {p : Nat} {r : Option Nat} (x : G_R B n (G B n) k l p r) : G B n k l p r := fun R c => c _ _ _ _ (G_R.mono (fun _ _ _ _ z => z R c) x)
theorem G.inv {B : Nat → Nat} {n : Nat} {k : Nat} {l : Nat} {p : Nat} {r : Option Nat} (x : G B n k l p r) : G_R B n (G B n) k l p r := x (fun k l p r => G_R B n (G B n) k l p r) (fun _ _ _ _ z => G_R.mono (fun _ _ _ _ y => G.mk y) z)
theorem G.ind {B : Nat → Nat} {n : Nat} {C : Nat → Nat → Nat → Option Nat → Prop} (st : ∀ k l p r, G_R B n (fun k l p r => G B n k l p r ∧ C k l p r) k l p r → C k l p r) {k : Nat} {l : Nat} {p : Nat} {r : Option Nat} (x : G B n k l p r) : C k l p r :=
  (x (fun k l p r => G B n k l p r ∧ C k l p r) (fun _ _ _ _ z => ⟨G.mk (G_R.mono (fun _ _ _ _ y => y.1) z), st _ _ _ _ z⟩)).2
theorem G.pnum {B : Nat → Nat} {n : Nat} {d : Nat} {l : Nat} {p : Nat} (a0 : Nu B n p d) : G B n Kd.part l p (some (sk B n (p + d))) := G.mk (Or.inl ⟨d, rfl, rfl, a0⟩)
theorem G.pwd {B : Nat → Nat} {n : Nat} {i : Nat} {l : Nat} {p : Nat} (a0 : six i) (a1 : Wd B n i p) : G B n Kd.part l p (some (sk B n (p + iv_tl i))) := G.mk (Or.inr (Or.inl ⟨i, rfl, rfl, a0, a1⟩))
theorem G.pno {B : Nat → Nat} {n : Nat} {l : Nat} {p : Nat} (a0 : Nb B n p) (a1 : ∀ i, six i → ¬ Wd B n i p) : G B n Kd.part l p none := G.mk (Or.inr (Or.inr (Or.inl ⟨rfl, rfl, a0, a1⟩)))
theorem G.sno {B : Nat → Nat} {n : Nat} {t : Nat} {l : Nat} {p : Nat} (a0 : G B n (el t) l p none) : G B n (Kd.seq t) l p none := G.mk (Or.inr (Or.inr (Or.inr (Or.inl ⟨t, rfl, rfl, a0⟩))))
theorem G.sgo {B : Nat → Nat} {n : Nat} {t : Nat} {q : Nat} {l : Nat} {p : Nat} {r : Option Nat} (a0 : G B n (el t) l p (some q)) (a1 : G B n (Kd.lp t) l q r) : G B n (Kd.seq t) l p r := G.mk (Or.inr (Or.inr (Or.inr (Or.inr (Or.inl ⟨t, q, rfl, a0, a1⟩)))))
theorem G.lend {B : Nat → Nat} {n : Nat} {t : Nat} {l : Nat} {p : Nat} (a0 : ¬ Cw B n t p) : G B n (Kd.lp t) l p (some p) := G.mk (Or.inr (Or.inr (Or.inr (Or.inr (Or.inr (Or.inl ⟨t, rfl, rfl, a0⟩))))))
theorem G.lno {B : Nat → Nat} {n : Nat} {t : Nat} {l : Nat} {p : Nat} (a0 : Cw B n t p) (a1 : G B n (el t) l (sk B n (p + cw t)) none) : G B n (Kd.lp t) l p none := G.mk (Or.inr (Or.inr (Or.inr (Or.inr (Or.inr (Or.inr (Or.inl ⟨t, rfl, rfl, a0, a1⟩)))))))
theorem G.lgo {B : Nat → Nat} {n : Nat} {t : Nat} {q : Nat} {l : Nat} {p : Nat} {r : Option Nat} (a0 : Cw B n t p) (a1 : G B n (el t) l (sk B n (p + cw t)) (some q)) (a2 : G B n (Kd.lp t) l q r) : G B n (Kd.lp t) l p r := G.mk (Or.inr (Or.inr (Or.inr (Or.inr (Or.inr (Or.inr (Or.inr (Or.inl ⟨t, q, rfl, a0, a1, a2⟩))))))))
theorem G.not6 {B : Nat → Nat} {n : Nat} {l : Nat} {p : Nat} (a0 : Wd B n 24 p) (a1 : 6 ≤ l) : G B n Kd.atom l p none := G.mk (Or.inr (Or.inr (Or.inr (Or.inr (Or.inr (Or.inr (Or.inr (Or.inr (Or.inl ⟨rfl, rfl, a0, a1⟩)))))))))
theorem G.not {B : Nat → Nat} {n : Nat} {l : Nat} {p : Nat} {r : Option Nat} (a0 : Wd B n 24 p) (a1 : l < 6) (a2 : G B n Kd.atom (l + 1) (sk B n (p + 3)) r) : G B n Kd.atom l p r := G.mk (Or.inr (Or.inr (Or.inr (Or.inr (Or.inr (Or.inr (Or.inr (Or.inr (Or.inr (Or.inl ⟨rfl, a0, a1, a2⟩))))))))))
theorem G.par6 {B : Nat → Nat} {n : Nat} {l : Nat} {p : Nat} (a0 : Sg B n 2147483688 p) (a1 : 6 ≤ l) : G B n Kd.atom l p none := G.mk (Or.inr (Or.inr (Or.inr (Or.inr (Or.inr (Or.inr (Or.inr (Or.inr (Or.inr (Or.inr (Or.inl ⟨rfl, rfl, a0, a1⟩)))))))))))
theorem G.par0 {B : Nat → Nat} {n : Nat} {l : Nat} {p : Nat} (a0 : Sg B n 2147483688 p) (a1 : l < 6) (a2 : G B n (Kd.seq 2) (l + 1) (sk B n (p + 1)) none) : G B n Kd.atom l p none := G.mk (Or.inr (Or.inr (Or.inr (Or.inr (Or.inr (Or.inr (Or.inr (Or.inr (Or.inr (Or.inr (Or.inr (Or.inl ⟨rfl, rfl, a0, a1, a2⟩))))))))))))
theorem G.par1 {B : Nat → Nat} {n : Nat} {q : Nat} {l : Nat} {p : Nat} (a0 : Sg B n 2147483688 p) (a1 : l < 6) (a2 : G B n (Kd.seq 2) (l + 1) (sk B n (p + 1)) (some q)) (a3 : ¬ Sg B n 2147483689 q) : G B n Kd.atom l p none := G.mk (Or.inr (Or.inr (Or.inr (Or.inr (Or.inr (Or.inr (Or.inr (Or.inr (Or.inr (Or.inr (Or.inr (Or.inr (Or.inl ⟨q, rfl, rfl, a0, a1, a2, a3⟩)))))))))))))
theorem G.par2 {B : Nat → Nat} {n : Nat} {q : Nat} {l : Nat} {p : Nat} (a0 : Sg B n 2147483688 p) (a1 : l < 6) (a2 : G B n (Kd.seq 2) (l + 1) (sk B n (p + 1)) (some q)) (a3 : Sg B n 2147483689 q) : G B n Kd.atom l p (some (sk B n (q + 1))) := G.mk (Or.inr (Or.inr (Or.inr (Or.inr (Or.inr (Or.inr (Or.inr (Or.inr (Or.inr (Or.inr (Or.inr (Or.inr (Or.inr (Or.inl ⟨q, rfl, rfl, a0, a1, a2, a3⟩))))))))))))))
theorem G.own {B : Nat → Nat} {n : Nat} {l : Nat} {p : Nat} (a0 : Wd B n 25 p) : G B n Kd.atom l p (some (sk B n (p + 3))) := G.mk (Or.inr (Or.inr (Or.inr (Or.inr (Or.inr (Or.inr (Or.inr (Or.inr (Or.inr (Or.inr (Or.inr (Or.inr (Or.inr (Or.inr (Or.inl ⟨rfl, rfl, a0⟩)))))))))))))))
theorem G.mine {B : Nat → Nat} {n : Nat} {l : Nat} {p : Nat} (a0 : Wd B n 26 p) : G B n Kd.atom l p (some (sk B n (p + 4))) := G.mk (Or.inr (Or.inr (Or.inr (Or.inr (Or.inr (Or.inr (Or.inr (Or.inr (Or.inr (Or.inr (Or.inr (Or.inr (Or.inr (Or.inr (Or.inr (Or.inl ⟨rfl, rfl, a0⟩))))))))))))))))
theorem G.c0 {B : Nat → Nat} {n : Nat} {l : Nat} {p : Nat} (a0 : An B n p) (a1 : G B n (Kd.seq 0) l p none) : G B n Kd.atom l p none := G.mk (Or.inr (Or.inr (Or.inr (Or.inr (Or.inr (Or.inr (Or.inr (Or.inr (Or.inr (Or.inr (Or.inr (Or.inr (Or.inr (Or.inr (Or.inr (Or.inr (Or.inl ⟨rfl, rfl, a0, a1⟩)))))))))))))))))
theorem G.c1 {B : Nat → Nat} {n : Nat} {q : Nat} {l : Nat} {p : Nat} (a0 : An B n p) (a1 : G B n (Kd.seq 0) l p (some q)) (a2 : ¬ Sg B n 2147483708 q) (a3 : ¬ Sg B n 2147483710 q) : G B n Kd.atom l p none := G.mk (Or.inr (Or.inr (Or.inr (Or.inr (Or.inr (Or.inr (Or.inr (Or.inr (Or.inr (Or.inr (Or.inr (Or.inr (Or.inr (Or.inr (Or.inr (Or.inr (Or.inr (Or.inl ⟨q, rfl, rfl, a0, a1, a2, a3⟩))))))))))))))))))
theorem G.c2 {B : Nat → Nat} {n : Nat} {q : Nat} {l : Nat} {p : Nat} {r : Option Nat} (a0 : An B n p) (a1 : G B n (Kd.seq 0) l p (some q)) (a2 : Sg B n 2147483708 q ∨ Sg B n 2147483710 q) (a3 : G B n (Kd.seq 0) l (sk B n (q + 1)) r) : G B n Kd.atom l p r := G.mk (Or.inr (Or.inr (Or.inr (Or.inr (Or.inr (Or.inr (Or.inr (Or.inr (Or.inr (Or.inr (Or.inr (Or.inr (Or.inr (Or.inr (Or.inr (Or.inr (Or.inr (Or.inr (Or.inl ⟨q, rfl, a0, a1, a2, a3⟩)))))))))))))))))))
theorem G.lnno {B : Nat → Nat} {n : Nat} {l : Nat} {p : Nat} (a0 : ¬ Wd B n 21 p) (a1 : ¬ Wd B n 22 p) : G B n Kd.line l p none := G.mk (Or.inr (Or.inr (Or.inr (Or.inr (Or.inr (Or.inr (Or.inr (Or.inr (Or.inr (Or.inr (Or.inr (Or.inr (Or.inr (Or.inr (Or.inr (Or.inr (Or.inr (Or.inr (Or.inr (Or.inl ⟨rfl, rfl, a0, a1⟩))))))))))))))))))))
theorem G.lnend {B : Nat → Nat} {n : Nat} {i : Nat} {l : Nat} {p : Nat} (a0 : i = 21 ∨ i = 22) (a1 : Wd B n i p) (a2 : ¬ Wd B n 23 (sk B n (p + iv_tl i))) : G B n Kd.line l p (some (sk B n (p + iv_tl i))) := G.mk (Or.inr (Or.inr (Or.inr (Or.inr (Or.inr (Or.inr (Or.inr (Or.inr (Or.inr (Or.inr (Or.inr (Or.inr (Or.inr (Or.inr (Or.inr (Or.inr (Or.inr (Or.inr (Or.inr (Or.inr (Or.inl ⟨i, rfl, rfl, a0, a1, a2⟩)))))))))))))))))))))
theorem G.lnif {B : Nat → Nat} {n : Nat} {i : Nat} {l : Nat} {p : Nat} {r : Option Nat} (a0 : i = 21 ∨ i = 22) (a1 : Wd B n i p) (a2 : Wd B n 23 (sk B n (p + iv_tl i))) (a3 : G B n (Kd.seq 2) 0 (sk B n (sk B n (p + iv_tl i) + 2)) r) : G B n Kd.line l p r := G.mk (Or.inr (Or.inr (Or.inr (Or.inr (Or.inr (Or.inr (Or.inr (Or.inr (Or.inr (Or.inr (Or.inr (Or.inr (Or.inr (Or.inr (Or.inr (Or.inr (Or.inr (Or.inr (Or.inr (Or.inr (Or.inr ⟨i, rfl, a0, a1, a2, a3⟩)))))))))))))))))))))
/-- the lines: c is how many were read -/
def Ls_R (B : Nat → Nat) (n : Nat) (R : Nat → Nat → Option Nat → Prop) (c : Nat) (p : Nat) (r : Option Nat) : Prop :=
  (r = none ∧ 2147483658 ≤ c) ∨
  (r = none ∧ c < 2147483658 ∧ G B n Kd.line 0 p none) ∨
  (∃ q, r = some (c + 1) ∧ c < 2147483658 ∧ G B n Kd.line 0 p (some q) ∧ n ≤ q) ∨
  (∃ q, r = none ∧ c < 2147483658 ∧ G B n Kd.line 0 p (some q) ∧ q < n ∧ ¬ Sg B n 2147483707 q) ∨
  (∃ q, c < 2147483658 ∧ G B n Kd.line 0 p (some q) ∧ Sg B n 2147483707 q ∧ R (c + 1) (sk B n (q + 1)) r)
def Ls (B : Nat → Nat) (n : Nat) (c : Nat) (p : Nat) (r : Option Nat) : Prop := ∀ R : Nat → Nat → Option Nat → Prop, (∀ c p r, Ls_R B n R c p r → R c p r) → R c p r
theorem Ls_R.mono {B : Nat → Nat} {n : Nat} {R S : Nat → Nat → Option Nat → Prop} (h : ∀ c p r, R c p r → S c p r) {c : Nat} {p : Nat} {r : Option Nat} (x : Ls_R B n R c p r) : Ls_R B n S c p r := by
  rcases x with ⟨e0, a0⟩ | ⟨e0, a0, a1⟩ | ⟨q, e0, a0, a1, a2⟩ | ⟨q, e0, a0, a1, a2, a3⟩ | ⟨q, a0, a1, a2, a3⟩
  · exact (Or.inl ⟨e0, a0⟩)
  · exact (Or.inr (Or.inl ⟨e0, a0, a1⟩))
  · exact (Or.inr (Or.inr (Or.inl ⟨q, e0, a0, a1, a2⟩)))
  · exact (Or.inr (Or.inr (Or.inr (Or.inl ⟨q, e0, a0, a1, a2, a3⟩))))
  · exact (Or.inr (Or.inr (Or.inr (Or.inr ⟨q, a0, a1, a2, h _ _ _ a3⟩))))
theorem Ls.mk {B : Nat → Nat} {n : Nat} {c : Nat} {p : Nat} {r : Option Nat} (x : Ls_R B n (Ls B n) c p r) : Ls B n c p r := fun R c => c _ _ _ (Ls_R.mono (fun _ _ _ z => z R c) x)
theorem Ls.inv {B : Nat → Nat} {n : Nat} {c : Nat} {p : Nat} {r : Option Nat} (x : Ls B n c p r) : Ls_R B n (Ls B n) c p r := x (fun c p r => Ls_R B n (Ls B n) c p r) (fun _ _ _ z => Ls_R.mono (fun _ _ _ y => Ls.mk y) z)
theorem Ls.ind {B : Nat → Nat} {n : Nat} {C : Nat → Nat → Option Nat → Prop} (st : ∀ c p r, Ls_R B n (fun c p r => Ls B n c p r ∧ C c p r) c p r → C c p r) {c : Nat} {p : Nat} {r : Option Nat} (x : Ls B n c p r) : C c p r :=
  (x (fun c p r => Ls B n c p r ∧ C c p r) (fun _ _ _ z => ⟨Ls.mk (Ls_R.mono (fun _ _ _ y => y.1) z), st _ _ _ z⟩)).2
theorem Ls.full {B : Nat → Nat} {n : Nat} {c : Nat} {p : Nat} (a0 : 2147483658 ≤ c) : Ls B n c p none := Ls.mk (Or.inl ⟨rfl, a0⟩)
theorem Ls.no {B : Nat → Nat} {n : Nat} {c : Nat} {p : Nat} (a0 : c < 2147483658) (a1 : G B n Kd.line 0 p none) : Ls B n c p none := Ls.mk (Or.inr (Or.inl ⟨rfl, a0, a1⟩))
theorem Ls.fin {B : Nat → Nat} {n : Nat} {q : Nat} {c : Nat} {p : Nat} (a0 : c < 2147483658) (a1 : G B n Kd.line 0 p (some q)) (a2 : n ≤ q) : Ls B n c p (some (c + 1)) := Ls.mk (Or.inr (Or.inr (Or.inl ⟨q, rfl, a0, a1, a2⟩)))
theorem Ls.bad {B : Nat → Nat} {n : Nat} {q : Nat} {c : Nat} {p : Nat} (a0 : c < 2147483658) (a1 : G B n Kd.line 0 p (some q)) (a2 : q < n) (a3 : ¬ Sg B n 2147483707 q) : Ls B n c p none := Ls.mk (Or.inr (Or.inr (Or.inr (Or.inl ⟨q, rfl, a0, a1, a2, a3⟩))))
theorem Ls.go {B : Nat → Nat} {n : Nat} {q : Nat} {c : Nat} {p : Nat} {r : Option Nat} (a0 : c < 2147483658) (a1 : G B n Kd.line 0 p (some q)) (a2 : Sg B n 2147483707 q) (a3 : Ls B n (c + 1) (sk B n (q + 1)) r) : Ls B n c p r := Ls.mk (Or.inr (Or.inr (Or.inr (Or.inr ⟨q, a0, a1, a2, a3⟩))))
def Cu (B : Nat → Nat) (n : Nat) (r : Option Nat) : Prop := (n ≤ sk B n 2147483648 ∧ r = some 2147483648) ∨ (sk B n 2147483648 < n ∧ Ls B n 2147483648 (sk B n 2147483648) r)
/-! ===== one text is read in one way alone ===== -/
theorem wd_c24 {B : Nat → Nat} {n p : Nat} (a : Wd B n 24 p) : p < n ∧ B p = 2147483758 := ⟨by have x := a.1; have y : iv_tl 24 = 3 := (by decide); omega, a.fst (by decide)⟩
theorem wd_c25 {B : Nat → Nat} {n p : Nat} (a : Wd B n 25 p) : p < n ∧ B p = 2147483759 := ⟨by have x := a.1; have y : iv_tl 25 = 3 := (by decide); omega, a.fst (by decide)⟩
theorem wd_c26 {B : Nat → Nat} {n p : Nat} (a : Wd B n 26 p) : p < n ∧ B p = 2147483757 := ⟨by have x := a.1; have y : iv_tl 26 = 4 := (by decide); omega, a.fst (by decide)⟩
theorem wd_c21 {B : Nat → Nat} {n p : Nat} (a : Wd B n 21 p) : B p = 2147483762 := a.fst (by decide)
theorem wd_c22 {B : Nat → Nat} {n p : Nat} (a : Wd B n 22 p) : B p = 2147483751 := a.fst (by decide)
theorem wd_dg {B : Nat → Nat} {n i p : Nat} (hi : i < 32) (h : 0 < iv_tl i) (a : Wd B n i p) : ¬ Dg B n p := fun z => by
  have b := a.ltr hi h
  rw [Nat.add_zero] at b
  have := b.2
  have := z.2
  omega
theorem six_pos {i : Nat} (h : six i) : 0 < iv_tl i := by
  rcases h with rfl | rfl | rfl | rfl | rfl | rfl <;> decide
theorem wd_ln {B : Nat → Nat} {n p i j : Nat} (hi : i = 21 ∨ i = 22) (hj : j = 21 ∨ j = 22) (a : Wd B n i p) (b : Wd B n j p) : i = j := by
  rcases hi with rfl | rfl <;> rcases hj with rfl | rfl
  · rfl
  · have := wd_c21 a; have := wd_c22 b; omega
  · have := wd_c22 a; have := wd_c21 b; omega
  · rfl
theorem Nu.d0 {B : Nat → Nat} {n p d : Nat} (a : Nu B n p d) : Dg B n p := a.1 0 (by have := a.2.2.1; omega)
/-- which of the atoms' beginnings stands here -/
def Ak (B : Nat → Nat) (n p k : Nat) : Prop := (k = 0 ∧ Wd B n 24 p) ∨ (k = 1 ∧ Sg B n 2147483688 p) ∨ (k = 2 ∧ Wd B n 25 p) ∨ (k = 3 ∧ Wd B n 26 p) ∨ (k = 4 ∧ An B n p)
theorem Ak.same {B : Nat → Nat} {n p k m : Nat} (a : Ak B n p k) (b : Ak B n p m) : k = m := by
  rcases a with ⟨e, a⟩ | ⟨e, a⟩ | ⟨e, a⟩ | ⟨e, a⟩ | ⟨e, a⟩ <;> rcases b with ⟨f, b⟩ | ⟨f, b⟩ | ⟨f, b⟩ | ⟨f, b⟩ | ⟨f, b⟩ <;>
    first
    | (rw [e, f]; done)
    | (exfalso; have x := wd_c24 a; have y := b.2; omega)
    | (exfalso; have x := wd_c24 b; have y := a.2; omega)
    | (exfalso; have x := wd_c25 a; have y := b.2; omega)
    | (exfalso; have x := wd_c25 b; have y := a.2; omega)
    | (exfalso; have x := wd_c26 a; have y := b.2; omega)
    | (exfalso; have x := wd_c26 b; have y := a.2; omega)
    | (exfalso; have x := wd_c24 a; have y := wd_c25 b; omega)
    | (exfalso; have x := wd_c24 b; have y := wd_c25 a; omega)
    | (exfalso; have x := wd_c24 a; have y := wd_c26 b; omega)
    | (exfalso; have x := wd_c24 b; have y := wd_c26 a; omega)
    | (exfalso; have x := wd_c25 a; have y := wd_c26 b; omega)
    | (exfalso; have x := wd_c25 b; have y := wd_c26 a; omega)
    | exact absurd a b.1
    | exact absurd a b.2.1
    | exact absurd a b.2.2.1
    | exact absurd a b.2.2.2
    | exact absurd b a.1
    | exact absurd b a.2.1
    | exact absurd b a.2.2.1
    | exact absurd b a.2.2.2
theorem G.inv_part {B : Nat → Nat} {n l p : Nat} {r : Option Nat} (b : G B n Kd.part l p r) : (∃ d, r = some (sk B n (p + d)) ∧ Nu B n p d) ∨ (∃ i, r = some (sk B n (p + iv_tl i)) ∧ six i ∧ Wd B n i p) ∨ (r = none ∧ Nb B n p ∧ (∀ i, six i → ¬ Wd B n i p)) := by
  rcases b.inv with ⟨d, e0, e1, a0⟩ | ⟨i, e0, e1, a0, a1⟩ | ⟨e0, e1, a0, a1⟩ | ⟨t, e0, e1, a0⟩ | ⟨t, q, e0, a0, a1⟩ | ⟨t, e0, e1, a0⟩ | ⟨t, e0, e1, a0, a1⟩ | ⟨t, q, e0, a0, a1, a2⟩ | ⟨e0, e1, a0, a1⟩ | ⟨e0, a0, a1, a2⟩ | ⟨e0, e1, a0, a1⟩ | ⟨e0, e1, a0, a1, a2⟩ | ⟨q, e0, e1, a0, a1, a2, a3⟩ | ⟨q, e0, e1, a0, a1, a2, a3⟩ | ⟨e0, e1, a0⟩ | ⟨e0, e1, a0⟩ | ⟨e0, e1, a0, a1⟩ | ⟨q, e0, e1, a0, a1, a2, a3⟩ | ⟨q, e0, a0, a1, a2, a3⟩ | ⟨e0, e1, a0, a1⟩ | ⟨i, e0, e1, a0, a1, a2⟩ | ⟨i, e0, a0, a1, a2, a3⟩
  · exact Or.inl ⟨d, e1, a0⟩
  · exact Or.inr (Or.inl ⟨i, e1, a0, a1⟩)
  · exact Or.inr (Or.inr (⟨e1, a0, a1⟩))
  · exact absurd e0 (by show ¬ (0 = 10 + 2 * t); omega)
  · exact absurd e0 (by show ¬ (0 = 10 + 2 * t); omega)
  · exact absurd e0 (by show ¬ (0 = 11 + 2 * t); omega)
  · exact absurd e0 (by show ¬ (0 = 11 + 2 * t); omega)
  · exact absurd e0 (by show ¬ (0 = 11 + 2 * t); omega)
  · exact absurd e0 (by show ¬ (0 = 1); omega)
  · exact absurd e0 (by show ¬ (0 = 1); omega)
  · exact absurd e0 (by show ¬ (0 = 1); omega)
  · exact absurd e0 (by show ¬ (0 = 1); omega)
  · exact absurd e0 (by show ¬ (0 = 1); omega)
  · exact absurd e0 (by show ¬ (0 = 1); omega)
  · exact absurd e0 (by show ¬ (0 = 1); omega)
  · exact absurd e0 (by show ¬ (0 = 1); omega)
  · exact absurd e0 (by show ¬ (0 = 1); omega)
  · exact absurd e0 (by show ¬ (0 = 1); omega)
  · exact absurd e0 (by show ¬ (0 = 1); omega)
  · exact absurd e0 (by show ¬ (0 = 2); omega)
  · exact absurd e0 (by show ¬ (0 = 2); omega)
  · exact absurd e0 (by show ¬ (0 = 2); omega)
theorem G.inv_seq {B : Nat → Nat} {n s l p : Nat} {r : Option Nat} (b : G B n (Kd.seq s) l p r) : (r = none ∧ G B n (el s) l p none) ∨ (∃ q, G B n (el s) l p (some q) ∧ G B n (Kd.lp s) l q r) := by
  rcases b.inv with ⟨d, e0, e1, a0⟩ | ⟨i, e0, e1, a0, a1⟩ | ⟨e0, e1, a0, a1⟩ | ⟨t, e0, e1, a0⟩ | ⟨t, q, e0, a0, a1⟩ | ⟨t, e0, e1, a0⟩ | ⟨t, e0, e1, a0, a1⟩ | ⟨t, q, e0, a0, a1, a2⟩ | ⟨e0, e1, a0, a1⟩ | ⟨e0, a0, a1, a2⟩ | ⟨e0, e1, a0, a1⟩ | ⟨e0, e1, a0, a1, a2⟩ | ⟨q, e0, e1, a0, a1, a2, a3⟩ | ⟨q, e0, e1, a0, a1, a2, a3⟩ | ⟨e0, e1, a0⟩ | ⟨e0, e1, a0⟩ | ⟨e0, e1, a0, a1⟩ | ⟨q, e0, e1, a0, a1, a2, a3⟩ | ⟨q, e0, a0, a1, a2, a3⟩ | ⟨e0, e1, a0, a1⟩ | ⟨i, e0, e1, a0, a1, a2⟩ | ⟨i, e0, a0, a1, a2, a3⟩
  · exact absurd e0 (by show ¬ (10 + 2 * s = 0); omega)
  · exact absurd e0 (by show ¬ (10 + 2 * s = 0); omega)
  · exact absurd e0 (by show ¬ (10 + 2 * s = 0); omega)
  · have z : t = s := by have y : 10 + 2 * s = 10 + 2 * t := e0; omega
    subst z
    exact Or.inl ⟨e1, a0⟩
  · have z : t = s := by have y : 10 + 2 * s = 10 + 2 * t := e0; omega
    subst z
    exact Or.inr (⟨q, a0, a1⟩)
  · exact absurd e0 (by show ¬ (10 + 2 * s = 11 + 2 * t); omega)
  · exact absurd e0 (by show ¬ (10 + 2 * s = 11 + 2 * t); omega)
  · exact absurd e0 (by show ¬ (10 + 2 * s = 11 + 2 * t); omega)
  · exact absurd e0 (by show ¬ (10 + 2 * s = 1); omega)
  · exact absurd e0 (by show ¬ (10 + 2 * s = 1); omega)
  · exact absurd e0 (by show ¬ (10 + 2 * s = 1); omega)
  · exact absurd e0 (by show ¬ (10 + 2 * s = 1); omega)
  · exact absurd e0 (by show ¬ (10 + 2 * s = 1); omega)
  · exact absurd e0 (by show ¬ (10 + 2 * s = 1); omega)
  · exact absurd e0 (by show ¬ (10 + 2 * s = 1); omega)
  · exact absurd e0 (by show ¬ (10 + 2 * s = 1); omega)
  · exact absurd e0 (by show ¬ (10 + 2 * s = 1); omega)
  · exact absurd e0 (by show ¬ (10 + 2 * s = 1); omega)
  · exact absurd e0 (by show ¬ (10 + 2 * s = 1); omega)
  · exact absurd e0 (by show ¬ (10 + 2 * s = 2); omega)
  · exact absurd e0 (by show ¬ (10 + 2 * s = 2); omega)
  · exact absurd e0 (by show ¬ (10 + 2 * s = 2); omega)
theorem G.inv_lp {B : Nat → Nat} {n s l p : Nat} {r : Option Nat} (b : G B n (Kd.lp s) l p r) : (r = some p ∧ ¬ Cw B n s p) ∨ (r = none ∧ Cw B n s p ∧ G B n (el s) l (sk B n (p + cw s)) none) ∨ (∃ q, Cw B n s p ∧ G B n (el s) l (sk B n (p + cw s)) (some q) ∧ G B n (Kd.lp s) l q r) := by
  rcases b.inv with ⟨d, e0, e1, a0⟩ | ⟨i, e0, e1, a0, a1⟩ | ⟨e0, e1, a0, a1⟩ | ⟨t, e0, e1, a0⟩ | ⟨t, q, e0, a0, a1⟩ | ⟨t, e0, e1, a0⟩ | ⟨t, e0, e1, a0, a1⟩ | ⟨t, q, e0, a0, a1, a2⟩ | ⟨e0, e1, a0, a1⟩ | ⟨e0, a0, a1, a2⟩ | ⟨e0, e1, a0, a1⟩ | ⟨e0, e1, a0, a1, a2⟩ | ⟨q, e0, e1, a0, a1, a2, a3⟩ | ⟨q, e0, e1, a0, a1, a2, a3⟩ | ⟨e0, e1, a0⟩ | ⟨e0, e1, a0⟩ | ⟨e0, e1, a0, a1⟩ | ⟨q, e0, e1, a0, a1, a2, a3⟩ | ⟨q, e0, a0, a1, a2, a3⟩ | ⟨e0, e1, a0, a1⟩ | ⟨i, e0, e1, a0, a1, a2⟩ | ⟨i, e0, a0, a1, a2, a3⟩
  · exact absurd e0 (by show ¬ (11 + 2 * s = 0); omega)
  · exact absurd e0 (by show ¬ (11 + 2 * s = 0); omega)
  · exact absurd e0 (by show ¬ (11 + 2 * s = 0); omega)
  · exact absurd e0 (by show ¬ (11 + 2 * s = 10 + 2 * t); omega)
  · exact absurd e0 (by show ¬ (11 + 2 * s = 10 + 2 * t); omega)
  · have z : t = s := by have y : 11 + 2 * s = 11 + 2 * t := e0; omega
    subst z
    exact Or.inl ⟨e1, a0⟩
  · have z : t = s := by have y : 11 + 2 * s = 11 + 2 * t := e0; omega
    subst z
    exact Or.inr (Or.inl ⟨e1, a0, a1⟩)
  · have z : t = s := by have y : 11 + 2 * s = 11 + 2 * t := e0; omega
    subst z
    exact Or.inr (Or.inr (⟨q, a0, a1, a2⟩))
  · exact absurd e0 (by show ¬ (11 + 2 * s = 1); omega)
  · exact absurd e0 (by show ¬ (11 + 2 * s = 1); omega)
  · exact absurd e0 (by show ¬ (11 + 2 * s = 1); omega)
  · exact absurd e0 (by show ¬ (11 + 2 * s = 1); omega)
  · exact absurd e0 (by show ¬ (11 + 2 * s = 1); omega)
  · exact absurd e0 (by show ¬ (11 + 2 * s = 1); omega)
  · exact absurd e0 (by show ¬ (11 + 2 * s = 1); omega)
  · exact absurd e0 (by show ¬ (11 + 2 * s = 1); omega)
  · exact absurd e0 (by show ¬ (11 + 2 * s = 1); omega)
  · exact absurd e0 (by show ¬ (11 + 2 * s = 1); omega)
  · exact absurd e0 (by show ¬ (11 + 2 * s = 1); omega)
  · exact absurd e0 (by show ¬ (11 + 2 * s = 2); omega)
  · exact absurd e0 (by show ¬ (11 + 2 * s = 2); omega)
  · exact absurd e0 (by show ¬ (11 + 2 * s = 2); omega)
theorem G.inv_atom {B : Nat → Nat} {n l p : Nat} {r : Option Nat} (b : G B n Kd.atom l p r) : (r = none ∧ Wd B n 24 p ∧ 6 ≤ l) ∨ (Wd B n 24 p ∧ l < 6 ∧ G B n Kd.atom (l + 1) (sk B n (p + 3)) r) ∨ (r = none ∧ Sg B n 2147483688 p ∧ 6 ≤ l) ∨ (r = none ∧ Sg B n 2147483688 p ∧ l < 6 ∧ G B n (Kd.seq 2) (l + 1) (sk B n (p + 1)) none) ∨ (∃ q, r = none ∧ Sg B n 2147483688 p ∧ l < 6 ∧ G B n (Kd.seq 2) (l + 1) (sk B n (p + 1)) (some q) ∧ ¬ Sg B n 2147483689 q) ∨ (∃ q, r = some (sk B n (q + 1)) ∧ Sg B n 2147483688 p ∧ l < 6 ∧ G B n (Kd.seq 2) (l + 1) (sk B n (p + 1)) (some q) ∧ Sg B n 2147483689 q) ∨ (r = some (sk B n (p + 3)) ∧ Wd B n 25 p) ∨ (r = some (sk B n (p + 4)) ∧ Wd B n 26 p) ∨ (r = none ∧ An B n p ∧ G B n (Kd.seq 0) l p none) ∨ (∃ q, r = none ∧ An B n p ∧ G B n (Kd.seq 0) l p (some q) ∧ ¬ Sg B n 2147483708 q ∧ ¬ Sg B n 2147483710 q) ∨ (∃ q, An B n p ∧ G B n (Kd.seq 0) l p (some q) ∧ (Sg B n 2147483708 q ∨ Sg B n 2147483710 q) ∧ G B n (Kd.seq 0) l (sk B n (q + 1)) r) := by
  rcases b.inv with ⟨d, e0, e1, a0⟩ | ⟨i, e0, e1, a0, a1⟩ | ⟨e0, e1, a0, a1⟩ | ⟨t, e0, e1, a0⟩ | ⟨t, q, e0, a0, a1⟩ | ⟨t, e0, e1, a0⟩ | ⟨t, e0, e1, a0, a1⟩ | ⟨t, q, e0, a0, a1, a2⟩ | ⟨e0, e1, a0, a1⟩ | ⟨e0, a0, a1, a2⟩ | ⟨e0, e1, a0, a1⟩ | ⟨e0, e1, a0, a1, a2⟩ | ⟨q, e0, e1, a0, a1, a2, a3⟩ | ⟨q, e0, e1, a0, a1, a2, a3⟩ | ⟨e0, e1, a0⟩ | ⟨e0, e1, a0⟩ | ⟨e0, e1, a0, a1⟩ | ⟨q, e0, e1, a0, a1, a2, a3⟩ | ⟨q, e0, a0, a1, a2, a3⟩ | ⟨e0, e1, a0, a1⟩ | ⟨i, e0, e1, a0, a1, a2⟩ | ⟨i, e0, a0, a1, a2, a3⟩
  · exact absurd e0 (by show ¬ (1 = 0); omega)
  · exact absurd e0 (by show ¬ (1 = 0); omega)
  · exact absurd e0 (by show ¬ (1 = 0); omega)
  · exact absurd e0 (by show ¬ (1 = 10 + 2 * t); omega)
  · exact absurd e0 (by show ¬ (1 = 10 + 2 * t); omega)
  · exact absurd e0 (by show ¬ (1 = 11 + 2 * t); omega)
  · exact absurd e0 (by show ¬ (1 = 11 + 2 * t); omega)
  · exact absurd e0 (by show ¬ (1 = 11 + 2 * t); omega)
  · exact Or.inl ⟨e1, a0, a1⟩
  · exact Or.inr (Or.inl ⟨a0, a1, a2⟩)
  · exact Or.inr (Or.inr (Or.inl ⟨e1, a0, a1⟩))
  · exact Or.inr (Or.inr (Or.inr (Or.inl ⟨e1, a0, a1, a2⟩)))
  · exact Or.inr (Or.inr (Or.inr (Or.inr (Or.inl ⟨q, e1, a0, a1, a2, a3⟩))))
  · exact Or.inr (Or.inr (Or.inr (Or.inr (Or.inr (Or.inl ⟨q, e1, a0, a1, a2, a3⟩)))))
  · exact Or.inr (Or.inr (Or.inr (Or.inr (Or.inr (Or.inr (Or.inl ⟨e1, a0⟩))))))
  · exact Or.inr (Or.inr (Or.inr (Or.inr (Or.inr (Or.inr (Or.inr (Or.inl ⟨e1, a0⟩)))))))
  · exact Or.inr (Or.inr (Or.inr (Or.inr (Or.inr (Or.inr (Or.inr (Or.inr (Or.inl ⟨e1, a0, a1⟩))))))))
  · exact Or.inr (Or.inr (Or.inr (Or.inr (Or.inr (Or.inr (Or.inr (Or.inr (Or.inr (Or.inl ⟨q, e1, a0, a1, a2, a3⟩)))))))))
  · exact Or.inr (Or.inr (Or.inr (Or.inr (Or.inr (Or.inr (Or.inr (Or.inr (Or.inr (Or.inr (⟨q, a0, a1, a2, a3⟩))))))))))
  · exact absurd e0 (by show ¬ (1 = 2); omega)
  · exact absurd e0 (by show ¬ (1 = 2); omega)
  · exact absurd e0 (by show ¬ (1 = 2); omega)
theorem G.inv_line {B : Nat → Nat} {n l p : Nat} {r : Option Nat} (b : G B n Kd.line l p r) : (r = none ∧ ¬ Wd B n 21 p ∧ ¬ Wd B n 22 p) ∨ (∃ i, r = some (sk B n (p + iv_tl i)) ∧ (i = 21 ∨ i = 22) ∧ Wd B n i p ∧ ¬ Wd B n 23 (sk B n (p + iv_tl i))) ∨ (∃ i, (i = 21 ∨ i = 22) ∧ Wd B n i p ∧ Wd B n 23 (sk B n (p + iv_tl i)) ∧ G B n (Kd.seq 2) 0 (sk B n (sk B n (p + iv_tl i) + 2)) r) := by
  rcases b.inv with ⟨d, e0, e1, a0⟩ | ⟨i, e0, e1, a0, a1⟩ | ⟨e0, e1, a0, a1⟩ | ⟨t, e0, e1, a0⟩ | ⟨t, q, e0, a0, a1⟩ | ⟨t, e0, e1, a0⟩ | ⟨t, e0, e1, a0, a1⟩ | ⟨t, q, e0, a0, a1, a2⟩ | ⟨e0, e1, a0, a1⟩ | ⟨e0, a0, a1, a2⟩ | ⟨e0, e1, a0, a1⟩ | ⟨e0, e1, a0, a1, a2⟩ | ⟨q, e0, e1, a0, a1, a2, a3⟩ | ⟨q, e0, e1, a0, a1, a2, a3⟩ | ⟨e0, e1, a0⟩ | ⟨e0, e1, a0⟩ | ⟨e0, e1, a0, a1⟩ | ⟨q, e0, e1, a0, a1, a2, a3⟩ | ⟨q, e0, a0, a1, a2, a3⟩ | ⟨e0, e1, a0, a1⟩ | ⟨i, e0, e1, a0, a1, a2⟩ | ⟨i, e0, a0, a1, a2, a3⟩
  · exact absurd e0 (by show ¬ (2 = 0); omega)
  · exact absurd e0 (by show ¬ (2 = 0); omega)
  · exact absurd e0 (by show ¬ (2 = 0); omega)
  · exact absurd e0 (by show ¬ (2 = 10 + 2 * t); omega)
  · exact absurd e0 (by show ¬ (2 = 10 + 2 * t); omega)
  · exact absurd e0 (by show ¬ (2 = 11 + 2 * t); omega)
  · exact absurd e0 (by show ¬ (2 = 11 + 2 * t); omega)
  · exact absurd e0 (by show ¬ (2 = 11 + 2 * t); omega)
  · exact absurd e0 (by show ¬ (2 = 1); omega)
  · exact absurd e0 (by show ¬ (2 = 1); omega)
  · exact absurd e0 (by show ¬ (2 = 1); omega)
  · exact absurd e0 (by show ¬ (2 = 1); omega)
  · exact absurd e0 (by show ¬ (2 = 1); omega)
  · exact absurd e0 (by show ¬ (2 = 1); omega)
  · exact absurd e0 (by show ¬ (2 = 1); omega)
  · exact absurd e0 (by show ¬ (2 = 1); omega)
  · exact absurd e0 (by show ¬ (2 = 1); omega)
  · exact absurd e0 (by show ¬ (2 = 1); omega)
  · exact absurd e0 (by show ¬ (2 = 1); omega)
  · exact Or.inl ⟨e1, a0, a1⟩
  · exact Or.inr (Or.inl ⟨i, e1, a0, a1, a2⟩)
  · exact Or.inr (Or.inr (⟨i, a0, a1, a2, a3⟩))
theorem G.same {B : Nat → Nat} {n : Nat} {k : Nat} {l p : Nat} {r : Option Nat} (a : G B n k l p r) : ∀ r', G B n k l p r' → r = r' := by
  refine G.ind (C := fun k l p r => ∀ r', G B n k l p r' → r = r') ?_ a
  intro k l p r x
  rcases x with ⟨d, rfl, rfl, h⟩ | ⟨i, rfl, rfl, s, h⟩ | ⟨rfl, rfl, h, h2⟩ | ⟨t, rfl, rfl, ⟨h, ih⟩⟩ | ⟨t, q, rfl, ⟨h, ih⟩, ⟨h2, ih2⟩⟩ | ⟨t, rfl, rfl, h⟩ | ⟨t, rfl, rfl, h, ⟨h2, ih⟩⟩ | ⟨t, q, rfl, h, ⟨h2, ih⟩, ⟨h3, ih2⟩⟩ | ⟨rfl, rfl, h, hl⟩ | ⟨rfl, h, hl, ⟨_, ih⟩⟩ | ⟨rfl, rfl, h, hl⟩ | ⟨rfl, rfl, h, hl, ⟨_, ih⟩⟩ | ⟨q, rfl, rfl, h, hl, ⟨_, ih⟩, hn⟩ | ⟨q, rfl, rfl, h, hl, ⟨_, ih⟩, hn⟩ | ⟨rfl, rfl, h⟩ | ⟨rfl, rfl, h⟩ | ⟨rfl, rfl, h, ⟨_, ih⟩⟩ | ⟨q, rfl, rfl, h, ⟨_, ih⟩, n1, n2⟩ | ⟨q, rfl, h, ⟨_, ih⟩, s, ⟨_, ih2⟩⟩ | ⟨rfl, rfl, h1, h2⟩ | ⟨i, rfl, rfl, s, h, h2⟩ | ⟨i, rfl, s, h, h2, ⟨_, ih⟩⟩
  · intro r' b
    rcases b.inv_part with ⟨_, rfl, g⟩ | ⟨_, rfl, s, g⟩ | ⟨rfl, g, _⟩
    · rw [h.same g]
    · exact absurd h.d0 (wd_dg (six_lt s) (six_pos s) g)
    · exact absurd g h.nb
  · intro r' b
    rcases b.inv_part with ⟨_, rfl, g⟩ | ⟨_, rfl, s', g⟩ | ⟨rfl, _, g⟩
    · exact absurd g.d0 (wd_dg (six_lt s) (six_pos s) h)
    · rw [h.same (six_lt s) (six_lt s') g]
    · exact absurd h (g _ s)
  · intro r' b
    rcases b.inv_part with ⟨_, rfl, g⟩ | ⟨_, rfl, s, g⟩ | ⟨rfl, _, _⟩
    · exact absurd h g.nb
    · exact absurd g (h2 _ s)
    · rfl
  · intro r' b
    rcases b.inv_seq with ⟨rfl, g⟩ | ⟨_, g, g2⟩
    · rfl
    · exact absurd (ih _ g) (by simp)
  · intro r' b
    rcases b.inv_seq with ⟨rfl, g⟩ | ⟨_, g, g2⟩
    · exact absurd (ih _ g) (by simp)
    · have e := ih _ g; injection e with e; subst e; exact ih2 _ g2
  · intro r' b
    rcases b.inv_lp with ⟨rfl, g⟩ | ⟨rfl, g, _⟩ | ⟨_, g, _, _⟩
    · rfl
    · exact absurd g h
    · exact absurd g h
  · intro r' b
    rcases b.inv_lp with ⟨rfl, g⟩ | ⟨rfl, g, _⟩ | ⟨_, g, g2, _⟩
    · exact absurd h g
    · rfl
    · exact absurd (ih _ g2) (by simp)
  · intro r' b
    rcases b.inv_lp with ⟨rfl, g⟩ | ⟨rfl, g, g2⟩ | ⟨_, g, g2, g3⟩
    · exact absurd h g
    · exact absurd (ih _ g2) (by simp)
    · have e := ih _ g2; injection e with e; subst e; exact ih2 _ g3
  · have ka : Ak B n _ 0 := Or.inl ⟨rfl, h⟩
    intro r' b
    rcases b.inv_atom with ⟨rfl, _, _⟩ | ⟨_, g, _⟩ | ⟨rfl, g, _⟩ | ⟨rfl, g, _, _⟩ | ⟨_, rfl, g, _, _, _⟩ | ⟨_, rfl, g, _, _, _⟩ | ⟨rfl, g⟩ | ⟨rfl, g⟩ | ⟨rfl, g, _⟩ | ⟨_, rfl, g, _, _, _⟩ | ⟨_, g, _, _, _⟩
    · rfl
    · omega
    · exact absurd (ka.same (Or.inr (Or.inl ⟨rfl, g⟩))) (by decide)
    · exact absurd (ka.same (Or.inr (Or.inl ⟨rfl, g⟩))) (by decide)
    · exact absurd (ka.same (Or.inr (Or.inl ⟨rfl, g⟩))) (by decide)
    · exact absurd (ka.same (Or.inr (Or.inl ⟨rfl, g⟩))) (by decide)
    · exact absurd (ka.same (Or.inr (Or.inr (Or.inl ⟨rfl, g⟩)))) (by decide)
    · exact absurd (ka.same (Or.inr (Or.inr (Or.inr (Or.inl ⟨rfl, g⟩))))) (by decide)
    · exact absurd h g.1
    · exact absurd h g.1
    · exact absurd h g.1
  · have ka : Ak B n _ 0 := Or.inl ⟨rfl, h⟩
    intro r' b
    rcases b.inv_atom with ⟨rfl, _, g⟩ | ⟨_, _, g⟩ | ⟨rfl, g, _⟩ | ⟨rfl, g, _, _⟩ | ⟨_, rfl, g, _, _, _⟩ | ⟨_, rfl, g, _, _, _⟩ | ⟨rfl, g⟩ | ⟨rfl, g⟩ | ⟨rfl, g, _⟩ | ⟨_, rfl, g, _, _, _⟩ | ⟨_, g, _, _, _⟩
    · omega
    · exact ih _ g
    · exact absurd (ka.same (Or.inr (Or.inl ⟨rfl, g⟩))) (by decide)
    · exact absurd (ka.same (Or.inr (Or.inl ⟨rfl, g⟩))) (by decide)
    · exact absurd (ka.same (Or.inr (Or.inl ⟨rfl, g⟩))) (by decide)
    · exact absurd (ka.same (Or.inr (Or.inl ⟨rfl, g⟩))) (by decide)
    · exact absurd (ka.same (Or.inr (Or.inr (Or.inl ⟨rfl, g⟩)))) (by decide)
    · exact absurd (ka.same (Or.inr (Or.inr (Or.inr (Or.inl ⟨rfl, g⟩))))) (by decide)
    · exact absurd h g.1
    · exact absurd h g.1
    · exact absurd h g.1
  · have ka : Ak B n _ 1 := Or.inr (Or.inl ⟨rfl, h⟩)
    intro r' b
    rcases b.inv_atom with ⟨rfl, g, _⟩ | ⟨g, _, _⟩ | ⟨rfl, _, _⟩ | ⟨rfl, _, _, _⟩ | ⟨_, rfl, _, _, _, _⟩ | ⟨_, rfl, _, g, _, _⟩ | ⟨rfl, g⟩ | ⟨rfl, g⟩ | ⟨rfl, g, _⟩ | ⟨_, rfl, g, _, _, _⟩ | ⟨_, g, _, _, _⟩
    · exact absurd (ka.same (Or.inl ⟨rfl, g⟩)) (by decide)
    · exact absurd (ka.same (Or.inl ⟨rfl, g⟩)) (by decide)
    · rfl
    · rfl
    · rfl
    · omega
    · exact absurd (ka.same (Or.inr (Or.inr (Or.inl ⟨rfl, g⟩)))) (by decide)
    · exact absurd (ka.same (Or.inr (Or.inr (Or.inr (Or.inl ⟨rfl, g⟩))))) (by decide)
    · exact absurd h g.2.1
    · exact absurd h g.2.1
    · exact absurd h g.2.1
  · have ka : Ak B n _ 1 := Or.inr (Or.inl ⟨rfl, h⟩)
    intro r' b
    rcases b.inv_atom with ⟨rfl, g, _⟩ | ⟨g, _, _⟩ | ⟨rfl, _, _⟩ | ⟨rfl, _, _, _⟩ | ⟨_, rfl, _, _, _, _⟩ | ⟨_, rfl, _, _, g, _⟩ | ⟨rfl, g⟩ | ⟨rfl, g⟩ | ⟨rfl, g, _⟩ | ⟨_, rfl, g, _, _, _⟩ | ⟨_, g, _, _, _⟩
    · exact absurd (ka.same (Or.inl ⟨rfl, g⟩)) (by decide)
    · exact absurd (ka.same (Or.inl ⟨rfl, g⟩)) (by decide)
    · rfl
    · rfl
    · rfl
    · exact absurd (ih _ g) (by simp)
    · exact absurd (ka.same (Or.inr (Or.inr (Or.inl ⟨rfl, g⟩)))) (by decide)
    · exact absurd (ka.same (Or.inr (Or.inr (Or.inr (Or.inl ⟨rfl, g⟩))))) (by decide)
    · exact absurd h g.2.1
    · exact absurd h g.2.1
    · exact absurd h g.2.1
  · have ka : Ak B n _ 1 := Or.inr (Or.inl ⟨rfl, h⟩)
    intro r' b
    rcases b.inv_atom with ⟨rfl, g, _⟩ | ⟨g, _, _⟩ | ⟨rfl, _, _⟩ | ⟨rfl, _, _, _⟩ | ⟨_, rfl, _, _, _, _⟩ | ⟨_, rfl, _, _, g, g2⟩ | ⟨rfl, g⟩ | ⟨rfl, g⟩ | ⟨rfl, g, _⟩ | ⟨_, rfl, g, _, _, _⟩ | ⟨_, g, _, _, _⟩
    · exact absurd (ka.same (Or.inl ⟨rfl, g⟩)) (by decide)
    · exact absurd (ka.same (Or.inl ⟨rfl, g⟩)) (by decide)
    · rfl
    · rfl
    · rfl
    · have e := ih _ g; injection e with e; subst e; exact absurd g2 hn
    · exact absurd (ka.same (Or.inr (Or.inr (Or.inl ⟨rfl, g⟩)))) (by decide)
    · exact absurd (ka.same (Or.inr (Or.inr (Or.inr (Or.inl ⟨rfl, g⟩))))) (by decide)
    · exact absurd h g.2.1
    · exact absurd h g.2.1
    · exact absurd h g.2.1
  · have ka : Ak B n _ 1 := Or.inr (Or.inl ⟨rfl, h⟩)
    intro r' b
    rcases b.inv_atom with ⟨rfl, g, _⟩ | ⟨g, _, _⟩ | ⟨rfl, _, g⟩ | ⟨rfl, _, _, g⟩ | ⟨_, rfl, _, _, g, g2⟩ | ⟨_, rfl, _, _, g, g2⟩ | ⟨rfl, g⟩ | ⟨rfl, g⟩ | ⟨rfl, g, _⟩ | ⟨_, rfl, g, _, _, _⟩ | ⟨_, g, _, _, _⟩
    · exact absurd (ka.same (Or.inl ⟨rfl, g⟩)) (by decide)
    · exact absurd (ka.same (Or.inl ⟨rfl, g⟩)) (by decide)
    · omega
    · exact absurd (ih _ g) (by simp)
    · have e := ih _ g; injection e with e; subst e; exact absurd hn g2
    · have e := ih _ g; injection e with e; subst e; rfl
    · exact absurd (ka.same (Or.inr (Or.inr (Or.inl ⟨rfl, g⟩)))) (by decide)
    · exact absurd (ka.same (Or.inr (Or.inr (Or.inr (Or.inl ⟨rfl, g⟩))))) (by decide)
    · exact absurd h g.2.1
    · exact absurd h g.2.1
    · exact absurd h g.2.1
  · have ka : Ak B n _ 2 := Or.inr (Or.inr (Or.inl ⟨rfl, h⟩))
    intro r' b
    rcases b.inv_atom with ⟨rfl, g, _⟩ | ⟨g, _, _⟩ | ⟨rfl, g, _⟩ | ⟨rfl, g, _, _⟩ | ⟨_, rfl, g, _, _, _⟩ | ⟨_, rfl, g, _, _, _⟩ | ⟨rfl, g⟩ | ⟨rfl, g⟩ | ⟨rfl, g, _⟩ | ⟨_, rfl, g, _, _, _⟩ | ⟨_, g, _, _, _⟩
    · exact absurd (ka.same (Or.inl ⟨rfl, g⟩)) (by decide)
    · exact absurd (ka.same (Or.inl ⟨rfl, g⟩)) (by decide)
    · exact absurd (ka.same (Or.inr (Or.inl ⟨rfl, g⟩))) (by decide)
    · exact absurd (ka.same (Or.inr (Or.inl ⟨rfl, g⟩))) (by decide)
    · exact absurd (ka.same (Or.inr (Or.inl ⟨rfl, g⟩))) (by decide)
    · exact absurd (ka.same (Or.inr (Or.inl ⟨rfl, g⟩))) (by decide)
    · rfl
    · exact absurd (ka.same (Or.inr (Or.inr (Or.inr (Or.inl ⟨rfl, g⟩))))) (by decide)
    · exact absurd h g.2.2.1
    · exact absurd h g.2.2.1
    · exact absurd h g.2.2.1
  · have ka : Ak B n _ 3 := Or.inr (Or.inr (Or.inr (Or.inl ⟨rfl, h⟩)))
    intro r' b
    rcases b.inv_atom with ⟨rfl, g, _⟩ | ⟨g, _, _⟩ | ⟨rfl, g, _⟩ | ⟨rfl, g, _, _⟩ | ⟨_, rfl, g, _, _, _⟩ | ⟨_, rfl, g, _, _, _⟩ | ⟨rfl, g⟩ | ⟨rfl, g⟩ | ⟨rfl, g, _⟩ | ⟨_, rfl, g, _, _, _⟩ | ⟨_, g, _, _, _⟩
    · exact absurd (ka.same (Or.inl ⟨rfl, g⟩)) (by decide)
    · exact absurd (ka.same (Or.inl ⟨rfl, g⟩)) (by decide)
    · exact absurd (ka.same (Or.inr (Or.inl ⟨rfl, g⟩))) (by decide)
    · exact absurd (ka.same (Or.inr (Or.inl ⟨rfl, g⟩))) (by decide)
    · exact absurd (ka.same (Or.inr (Or.inl ⟨rfl, g⟩))) (by decide)
    · exact absurd (ka.same (Or.inr (Or.inl ⟨rfl, g⟩))) (by decide)
    · exact absurd (ka.same (Or.inr (Or.inr (Or.inl ⟨rfl, g⟩)))) (by decide)
    · rfl
    · exact absurd h g.2.2.2
    · exact absurd h g.2.2.2
    · exact absurd h g.2.2.2
  · intro r' b
    rcases b.inv_atom with ⟨rfl, g, _⟩ | ⟨g, _, _⟩ | ⟨rfl, g, _⟩ | ⟨rfl, g, _, _⟩ | ⟨_, rfl, g, _, _, _⟩ | ⟨_, rfl, g, _, _, _⟩ | ⟨rfl, g⟩ | ⟨rfl, g⟩ | ⟨rfl, _, _⟩ | ⟨_, rfl, _, _, _, _⟩ | ⟨_, _, g, _, _⟩
    · exact absurd g h.1
    · exact absurd g h.1
    · exact absurd g h.2.1
    · exact absurd g h.2.1
    · exact absurd g h.2.1
    · exact absurd g h.2.1
    · exact absurd g h.2.2.1
    · exact absurd g h.2.2.2
    · rfl
    · rfl
    · exact absurd (ih _ g) (by simp)
  · intro r' b
    rcases b.inv_atom with ⟨rfl, g, _⟩ | ⟨g, _, _⟩ | ⟨rfl, g, _⟩ | ⟨rfl, g, _, _⟩ | ⟨_, rfl, g, _, _, _⟩ | ⟨_, rfl, g, _, _, _⟩ | ⟨rfl, g⟩ | ⟨rfl, g⟩ | ⟨rfl, _, _⟩ | ⟨_, rfl, _, _, _, _⟩ | ⟨_, _, g, g2, _⟩
    · exact absurd g h.1
    · exact absurd g h.1
    · exact absurd g h.2.1
    · exact absurd g h.2.1
    · exact absurd g h.2.1
    · exact absurd g h.2.1
    · exact absurd g h.2.2.1
    · exact absurd g h.2.2.2
    · rfl
    · rfl
    · have e := ih _ g; injection e with e; subst e; exact g2.elim (fun z => absurd z n1) (fun z => absurd z n2)
  · intro r' b
    rcases b.inv_atom with ⟨rfl, g, _⟩ | ⟨g, _, _⟩ | ⟨rfl, g, _⟩ | ⟨rfl, g, _, _⟩ | ⟨_, rfl, g, _, _, _⟩ | ⟨_, rfl, g, _, _, _⟩ | ⟨rfl, g⟩ | ⟨rfl, g⟩ | ⟨rfl, _, g⟩ | ⟨_, rfl, _, g, n1, n2⟩ | ⟨_, _, g, _, g3⟩
    · exact absurd g h.1
    · exact absurd g h.1
    · exact absurd g h.2.1
    · exact absurd g h.2.1
    · exact absurd g h.2.1
    · exact absurd g h.2.1
    · exact absurd g h.2.2.1
    · exact absurd g h.2.2.2
    · exact absurd (ih _ g) (by simp)
    · have e := ih _ g; injection e with e; subst e; exact s.elim (fun z => absurd z n1) (fun z => absurd z n2)
    · have e := ih _ g; injection e with e; subst e; exact ih2 _ g3
  · intro r' b
    rcases b.inv_line with ⟨rfl, _, _⟩ | ⟨_, rfl, s, g, _⟩ | ⟨_, s, g, _, _⟩
    · rfl
    · exact s.elim (fun z => absurd (z ▸ g) h1) (fun z => absurd (z ▸ g) h2)
    · exact s.elim (fun z => absurd (z ▸ g) h1) (fun z => absurd (z ▸ g) h2)
  · intro r' b
    rcases b.inv_line with ⟨rfl, n1, n2⟩ | ⟨_, rfl, s', g, _⟩ | ⟨_, s', g, g2, _⟩
    · exact s.elim (fun z => absurd (z ▸ h) n1) (fun z => absurd (z ▸ h) n2)
    · rw [wd_ln s s' h g]
    · rw [wd_ln s s' h g] at h2; exact absurd g2 h2
  · intro r' b
    rcases b.inv_line with ⟨rfl, n1, n2⟩ | ⟨_, rfl, s', g, g2⟩ | ⟨_, s', g, g2, g3⟩
    · exact s.elim (fun z => absurd (z ▸ h) n1) (fun z => absurd (z ▸ h) n2)
    · rw [wd_ln s s' h g] at h2; exact absurd h2 g2
    · have e := wd_ln s s' h g; subst e; exact ih _ g3
theorem Ls.same {B : Nat → Nat} {n c p : Nat} {r : Option Nat} (a : Ls B n c p r) : ∀ r', Ls B n c p r' → r = r' := by
  refine Ls.ind (C := fun c p r => ∀ r', Ls B n c p r' → r = r') ?_ a
  intro c p r x
  rcases x with ⟨rfl, h⟩ | ⟨rfl, h, h2⟩ | ⟨q, rfl, h, h2, h3⟩ | ⟨q, rfl, h, h2, h3, h4⟩ | ⟨q, h, h2, h3, ⟨_, ih⟩⟩
  · intro r' b
    rcases b.inv with ⟨rfl, _⟩ | ⟨rfl, _, _⟩ | ⟨_, rfl, g, _, _⟩ | ⟨_, rfl, _, _, _, _⟩ | ⟨_, g, _, _, _⟩
    · rfl
    · rfl
    · omega
    · rfl
    · omega
  · intro r' b
    rcases b.inv with ⟨rfl, _⟩ | ⟨rfl, _, _⟩ | ⟨_, rfl, _, g, _⟩ | ⟨_, rfl, _, _, _, _⟩ | ⟨_, _, g, _, _⟩
    · rfl
    · rfl
    · exact absurd (h2.same _ g) (by simp)
    · rfl
    · exact absurd (h2.same _ g) (by simp)
  · intro r' b
    rcases b.inv with ⟨rfl, g⟩ | ⟨rfl, _, g⟩ | ⟨_, rfl, _, g, _⟩ | ⟨_, rfl, _, g, g2, _⟩ | ⟨_, _, g, g2, _⟩
    · omega
    · exact absurd (h2.same _ g) (by simp)
    · rfl
    · have e := h2.same _ g; injection e with e; omega
    · have e := h2.same _ g; injection e with e; have := g2.1; omega
  · intro r' b
    rcases b.inv with ⟨rfl, _⟩ | ⟨rfl, _, _⟩ | ⟨_, rfl, _, g, g2⟩ | ⟨_, rfl, _, _, _, _⟩ | ⟨_, _, g, g2, _⟩
    · rfl
    · rfl
    · have e := h2.same _ g; injection e with e; omega
    · rfl
    · have e := h2.same _ g; injection e with e; subst e; exact absurd g2 h4
  · intro r' b
    rcases b.inv with ⟨rfl, g⟩ | ⟨rfl, _, g⟩ | ⟨_, rfl, _, g, g2⟩ | ⟨_, rfl, _, g, _, g2⟩ | ⟨_, _, g, _, g3⟩
    · omega
    · exact absurd (h2.same _ g) (by simp)
    · have e := h2.same _ g; injection e with e; have := h3.1; omega
    · have e := h2.same _ g; injection e with e; subst e; exact absurd h3 g2
    · have e := h2.same _ g; injection e with e; subst e; exact ih _ g3
theorem Cu.same {B : Nat → Nat} {n : Nat} {r r' : Option Nat} (a : Cu B n r) (b : Cu B n r') : r = r' := by
  rcases a with ⟨x, a⟩ | ⟨x, a⟩ <;> rcases b with ⟨y, b⟩ | ⟨y, b⟩
  · rw [a, b]
  · omega
  · omega
  · exact a.same _ b
/-! ===== tapes in the heap ===== -/
/-- the bytes and the size; in the reference the bytes and the end, or what is taped -/
def Tp (B : Nat → Nat) (n : Nat) (h : xh) : Prop := h 1 1 = n ∧ ∀ u, u < 400 → h 2 u = B (2147483648 + u)
def Tq (B : Nat → Nat) (n : Nat) (h : xh) : Prop := h 75 8 = n ∧ ∀ u, u < 400 → byE (B (2147483648 + u)) (h 79 u)
def Tr (B : Nat → Nat) (n : Nat) (h : xh) : Prop := h 75 6 = n ∧ ∀ u, u < 400 → byE (B (2147483648 + u)) (h 79 u)
theorem Tp.at {B : Nat → Nat} {n p u : Nat} {h : xh} (t : Tp B n h) (e : p = 2147483648 + u) (hu : u < 400) : h 2 u = B p := by
  rw [e]
  exact t.2 u hu
theorem Tq.at {B : Nat → Nat} {n p u : Nat} {h : xh} (t : Tq B n h) (e : p = 2147483648 + u) (hu : u < 400) : (2147483648 ≤ h 79 u ∧ B p = h 79 u) ∨ (h 79 u < 2147483648 ∧ B p = h 79 u + 256) := by
  rw [e]
  exact t.2 u hu
theorem Tp.oth {B : Nat → Nat} {n k i v : Nat} {h : xh} (t : Tp B n h) (hk : k ≠ 2) (hi : ¬ (k = 1 ∧ i = 1)) : Tp B n (x_up h k i v) := by
  refine ⟨?_, fun u hu => ?_⟩
  · rw [show x_up h k i v 1 1 = h 1 1 from if_neg (fun z => hi ⟨z.1.symm, z.2.symm⟩)]
    exact t.1
  · rw [show x_up h k i v 2 u = h 2 u from if_neg (fun z => hk z.1.symm)]
    exact t.2 u hu
theorem Tq.oth {B : Nat → Nat} {n k i v : Nat} {h : xh} (t : Tq B n h) (hk : k ≠ 79) (hi : ¬ (k = 75 ∧ i = 8)) : Tq B n (x_up h k i v) := by
  refine ⟨?_, fun u hu => ?_⟩
  · rw [show x_up h k i v 75 8 = h 75 8 from if_neg (fun z => hi ⟨z.1.symm, z.2.symm⟩)]
    exact t.1
  · rw [show x_up h k i v 79 u = h 79 u from if_neg (fun z => hk z.1.symm)]
    exact t.2 u hu
theorem Tr.oth {B : Nat → Nat} {n k i v : Nat} {h : xh} (t : Tr B n h) (hk : k ≠ 79) (hi : ¬ (k = 75 ∧ i = 6)) : Tr B n (x_up h k i v) := by
  refine ⟨?_, fun u hu => ?_⟩
  · rw [show x_up h k i v 75 6 = h 75 6 from if_neg (fun z => hi ⟨z.1.symm, z.2.symm⟩)]
    exact t.1
  · rw [show x_up h k i v 79 u = h 79 u from if_neg (fun z => hk z.1.symm)]
    exact t.2 u hu
theorem Tr.tq {B : Nat → Nat} {n v : Nat} {h : xh} (t : Tr B n h) (e : v = h 75 6) : Tq B n (x_up h 75 8 v) := by
  refine ⟨?_, fun u hu => ?_⟩
  · rw [show x_up h 75 8 v 75 8 = v from x_up_at, e]
    exact t.1
  · rw [show x_up h 75 8 v 79 u = h 79 u from x_up_k (by decide)]
    exact t.2 u hu
theorem Tp.fr {B : Nat → Nat} {n m : Nat} {h h' : xh} (t : Tp B n h) (f : Fr m h h') (g1 : Nat.testBit m 4 = false) (g2 : Nat.testBit m 6 = false) : Tp B n h' := by
  refine ⟨(f 1 1 (by rw [show x_gr 1 1 = 4 from rfl]; exact g1)).trans t.1, fun u hu => ?_⟩
  rw [f 2 u (by rw [show x_gr 2 u = 6 from rfl]; exact g2)]
  exact t.2 u hu
theorem Tq.fr {B : Nat → Nat} {n m : Nat} {h h' : xh} (t : Tq B n h) (f : Fr m h h') (g1 : Nat.testBit m 21 = false) (g2 : Nat.testBit m 29 = false) : Tq B n h' := by
  refine ⟨(f 75 8 (by rw [show x_gr 75 8 = 21 from rfl]; exact g1)).trans t.1, fun u hu => ?_⟩
  rw [f 79 u (by rw [show x_gr 79 u = 29 from rfl]; exact g2)]
  exact t.2 u hu
theorem Tr.fr {B : Nat → Nat} {n m : Nat} {h h' : xh} (t : Tr B n h) (f : Fr m h h') (g1 : Nat.testBit m 19 = false) (g2 : Nat.testBit m 29 = false) : Tr B n h' := by
  refine ⟨(f 75 6 (by rw [show x_gr 75 6 = 19 from rfl]; exact g1)).trans t.1, fun u hu => ?_⟩
  rw [f 79 u (by rw [show x_gr 79 u = 29 from rfl]; exact g2)]
  exact t.2 u hu

/-- how long the custom's code is, where the reader writes -/
def cl9 (h : xh) : Nat := h (h 62 1) 2
def ln9 (h : xh) : Nat := h (h 62 1) 3
/-! ===== the readers' steps ===== -/
def Res (B : Nat → Nat) (n : Nat) (k : Nat) (l p : Nat) (k0 : Nat) (l0 p0 : Nat) : Prop := ∀ r, G B n k l p r → G B n k0 l0 p0 r
section GS
variable {B : Nat → Nat} {n l p q q' p1 p2 p3 q1 q2 a r i t v : Nat}
theorem rs_eq (hr : r = a) (hq : a = 2147483649 → q2 = q') : rs a q2 = rs r q' := by
  rw [hr]
  unfold rs
  split
  · rename_i e
    rw [hq e]
  · rfl
theorem Nr.nb (h : Nr B n 2147483648 2147484647 p v q) (e : v = 2147483647) : Nb B n p := by
  rcases h with ⟨d, a, b, c, x⟩ | ⟨_, a⟩
  · omega
  · rcases a with a | ⟨d, a, b⟩
    · exact a
    · have x := nv_lt d a.1
      have y : 10 ^ d ≤ 10 ^ 3 := Nat.pow_le_pow_right (by decide) a.2.2.2
      have z : (10 : Nat) ^ 3 = 1000 := by decide
      omega
theorem no_wd (hi : i < 32) (h : ¬ Ltr B n p) : ¬ Wd B n i p := fun z => by
  have x := z.ltr hi (j := 0) (by have := iv_tl_ge i hi; omega)
  rw [Nat.add_zero] at x
  exact h x
theorem Wd.of' (hi : i < 32) (w : Wm B i p q) (he : q = le9 B n p) : Wd B n i p := by
  by_cases hp : p ≤ n
  · exact Wd.of w he hp
  · have x : le9 B n p = p := le9_stop (fun z => by have := z.1; omega)
    have y := w.1
    have z := iv_tl_ge i hi
    omega
theorem ltr_of (h : le9 B n p ≠ p) : Ltr B n p := Classical.byContradiction (fun z => h (le9_stop z))
theorem ltr_nb (h : Ltr B n p) : Nb B n p := Or.inl (fun z => by have x := h.2; have y := z.2; omega)
theorem gP_num (f : Nr B n 2147483648 2147484647 p1 v q) (e : p1 = p) (h : v ≠ 2147483647) (hr : r = 2147483649) (hq : q = q') : G B n Kd.part l p (rs r q') := by
  rcases f with ⟨d, a, b, c, x, y⟩ | ⟨z, _⟩
  · rw [rs1 hr, ← hq, y, e]
    rw [e] at a
    exact G.pnum a
  · exact absurd z h
theorem gP_wd (s : six i) (w : Wd B n i p1) (e : p1 = p) (f : q = sk B n (p1 + iv_tl i)) (hr : r = 2147483649) (hq : q = q') : G B n Kd.part l p (rs r q') := by
  rw [rs1 hr, ← hq, f, e]
  rw [e] at w
  exact G.pwd s w
theorem gP_no (hn : Nb B n p) (w1 : ¬ Wd B n 2 p) (w2 : ¬ Wd B n 27 p) (w3 : ¬ Wd B n 5 p) (w4 : ¬ Wd B n 28 p) (w5 : ¬ Wd B n 29 p) (w6 : ¬ Wd B n 30 p) (hr : r = 2147483648) : G B n Kd.part l p (rs r q') := by
  rw [rs0 hr]
  refine G.pno hn (fun i s => ?_)
  rcases s with rfl | rfl | rfl | rfl | rfl | rfl
  · exact w1
  · exact w2
  · exact w3
  · exact w4
  · exact w5
  · exact w6
theorem gP_nol (hn : Nb B n p) (w : ¬ Ltr B n p) (hr : r = 2147483648) : G B n Kd.part l p (rs r q') := by
  rw [rs0 hr]
  exact G.pno hn (fun i s => no_wd (six_lt s) w)
theorem gQ_no (f : G B n (el t) l p1 (rs a q)) (e : p1 = p) (ha : a = 2147483648) (hr : r = 2147483648) : G B n (Kd.seq t) l p (rs r q') := by
  rw [rs0 ha, e] at f
  rw [rs0 hr]
  exact G.sno f
theorem gQ_in (f : G B n (el t) l p1 (rs a q)) (e : p1 = p) (ha : a = 2147483649) (hq : q = q') : Res B n (Kd.lp t) l q' (Kd.seq t) l p := by
  rw [rs1 ha, e, hq] at f
  exact fun r g => G.sgo f g
theorem gQ_st (m : Res B n (Kd.lp t) l p1 (Kd.seq t) l p) (w : Cw B n t p2) (e1 : p2 = p1) (e2 : q1 = sk B n (p2 + cw t)) (f : G B n (el t) l p3 (rs a q2)) (e3 : p3 = q1) (ha : a = 2147483649) (hq : q2 = q') : Res B n (Kd.lp t) l q' (Kd.seq t) l p := by
  rw [rs1 ha, e3, e2, e1, hq] at f
  rw [e1] at w
  exact fun r g => m r (G.lgo w f g)
theorem gQ_f (m : Res B n (Kd.lp t) l p1 (Kd.seq t) l p) (w : Cw B n t p2) (e1 : p2 = p1) (e2 : q1 = sk B n (p2 + cw t)) (f : G B n (el t) l p3 (rs a q2)) (e3 : p3 = q1) (ha : a = 2147483648) (hr : r = 2147483648) : G B n (Kd.seq t) l p (rs r q') := by
  rw [rs0 ha, e3, e2, e1] at f
  rw [e1] at w
  rw [rs0 hr]
  exact m _ (G.lno w f)
theorem gQ_e (m : Res B n (Kd.lp t) l p1 (Kd.seq t) l p) (w : ¬ Cw B n t p2) (e1 : p2 = p1) (hr : r = 2147483649) (hq : p1 = q') : G B n (Kd.seq t) l p (rs r q') := by
  rw [e1] at w
  rw [rs1 hr, ← hq]
  exact m _ (G.lend w)
theorem Cw.lt (w : Cw B n t p) : p < n := by
  match t with
  | 0 => exact w.1
  | 1 => have x := w.1; have y : iv_tl 31 = 3 := (by decide); omega
  | _ + 2 => have x := w.1; have y : iv_tl 15 = 2 := (by decide); omega
theorem gQ_x (m : Res B n (Kd.lp t) l p1 (Kd.seq t) l p) (h : n ≤ p1) (hr : r = 2147483649) (hq : p1 = q') : G B n (Kd.seq t) l p (rs r q') :=
  gQ_e m (fun z => by have := Cw.lt z; omega) rfl hr hq
theorem gA_not6 (w : Wd B n 24 p1) (e : p1 = p) (hl : 6 ≤ l) (hr : r = 2147483648) : G B n Kd.atom l p (rs r q') := by
  rw [e] at w
  rw [rs0 hr]
  exact G.not6 w hl
theorem gA_not (w : Wd B n 24 p1) (e : p1 = p) (e2 : q1 = sk B n (p1 + iv_tl 24)) (hl : l < 6) (f : G B n Kd.atom (l + 1) p2 (rs a q2)) (e3 : p2 = q1) (hr : r = a) (hq : a = 2147483649 → q2 = q') : G B n Kd.atom l p (rs r q') := by
  rw [e3, e2, e, rs_eq hr hq] at f
  rw [e] at w
  exact G.not w hl f
theorem gA_par6 (w : Sg B n 2147483688 p1) (e : p1 = p) (hl : 6 ≤ l) (hr : r = 2147483648) : G B n Kd.atom l p (rs r q') := by
  rw [e] at w
  rw [rs0 hr]
  exact G.par6 w hl
theorem gA_par0 (w : Sg B n 2147483688 p1) (e : p1 = p) (e2 : q1 = sk B n (p1 + 1)) (hl : l < 6) (f : G B n (Kd.seq 2) (l + 1) p2 (rs a q2)) (e3 : p2 = q1) (ha : a = 2147483648) (hr : r = 2147483648) : G B n Kd.atom l p (rs r q') := by
  rw [e3, e2, e, rs0 ha] at f
  rw [e] at w
  rw [rs0 hr]
  exact G.par0 w hl f
theorem gA_parT (w : Sg B n 2147483688 p1) (e : p1 = p) (e2 : q1 = sk B n (p1 + 1)) (hl : l < 6) (f : G B n (Kd.seq 2) (l + 1) p2 (rs a q2)) (e3 : p2 = q1) (ha : a = 2147483649) (g : Tk (Sg B n 2147483689 p3) B n p3 1 v q) (e4 : p3 = q2) (hr : r = v) (hq : v = 2147483649 → q = q') : G B n Kd.atom l p (rs r q') := by
  rw [e3, e2, e, rs1 ha] at f
  rw [e] at w
  rw [e4] at g
  rcases g with ⟨x, y, z⟩ | ⟨x, y, z⟩
  · rw [rs1 (hr.trans x), ← hq x, z]
    exact G.par2 w hl f y
  · rw [rs0 (hr.trans x)]
    exact G.par1 w hl f y
theorem gA_own (w : Wd B n 25 p1) (e : p1 = p) (e2 : q = sk B n (p1 + iv_tl 25)) (hr : r = 2147483649) (hq : q = q') : G B n Kd.atom l p (rs r q') := by
  rw [e] at w
  rw [rs1 hr, ← hq, e2, e]
  exact G.own w
theorem gA_mine (w : Wd B n 26 p1) (e : p1 = p) (e2 : q = sk B n (p1 + iv_tl 26)) (hr : r = 2147483649) (hq : q = q') : G B n Kd.atom l p (rs r q') := by
  rw [e] at w
  rw [rs1 hr, ← hq, e2, e]
  exact G.mine w
theorem gA_c0 (w : An B n p) (f : G B n (Kd.seq 0) l p1 (rs a q2)) (e : p1 = p) (ha : a = 2147483648) (hr : r = 2147483648) : G B n Kd.atom l p (rs r q') := by
  rw [e, rs0 ha] at f
  rw [rs0 hr]
  exact G.c0 w f
theorem gA_c1 (w : An B n p) (f : G B n (Kd.seq 0) l p1 (rs a q2)) (e : p1 = p) (ha : a = 2147483649) (u1 : ¬ Sg B n 2147483708 p2) (e2 : p2 = q2) (u2 : ¬ Sg B n 2147483710 p3) (e3 : p3 = q2) (hr : r = 2147483648) : G B n Kd.atom l p (rs r q') := by
  rw [e, rs1 ha] at f
  rw [rs0 hr]
  rw [e2] at u1
  rw [e3] at u2
  exact G.c1 w f u1 u2
theorem gA_c2 (w : An B n p) (f : G B n (Kd.seq 0) l p1 (rs a q2)) (e : p1 = p) (ha : a = 2147483649) (u : Sg B n 2147483708 p2 ∨ Sg B n 2147483710 p2) (e2 : p2 = q2) (e3 : q1 = sk B n (p2 + 1)) (g : G B n (Kd.seq 0) l p3 (rs v q)) (e4 : p3 = q1) (hr : r = v) (hq : v = 2147483649 → q = q') : G B n Kd.atom l p (rs r q') := by
  rw [e, rs1 ha] at f
  rw [e4, e3, e2, rs_eq hr hq] at g
  rw [e2] at u
  exact G.c2 w f u g
theorem gA_an (w1 : ¬ Wd B n 24 p1) (e1 : p1 = p) (w2 : ¬ Sg B n 2147483688 p2) (e2 : p2 = p) (w3 : ¬ Wd B n 25 p3) (e3 : p3 = p) (w4 : ¬ Wd B n 26 q) (e4 : q = p) : An B n p := by
  rw [e1] at w1
  rw [e2] at w2
  rw [e3] at w3
  rw [e4] at w4
  exact ⟨w1, w2, w3, w4⟩
theorem gL_no (w1 : ¬ Wd B n 21 p1) (e1 : p1 = p) (w2 : ¬ Wd B n 22 p2) (e2 : p2 = p) (hr : r = 2147483648) : G B n Kd.line 0 p (rs r q') := by
  rw [e1] at w1
  rw [e2] at w2
  rw [rs0 hr]
  exact G.lnno w1 w2
theorem gL_end (s : i = 21 ∨ i = 22) (w : Wd B n i p1) (e1 : p1 = p) (e2 : q1 = sk B n (p1 + iv_tl i)) (u : ¬ Wd B n 23 p2) (e3 : p2 = q1) (hr : r = 2147483649) (hq : q1 = q') : G B n Kd.line 0 p (rs r q') := by
  rw [e1] at w e2
  rw [e3, e2] at u
  rw [rs1 hr, ← hq, e2]
  exact G.lnend s w u
theorem gL_if (s : i = 21 ∨ i = 22) (w : Wd B n i p1) (e1 : p1 = p) (e2 : q1 = sk B n (p1 + iv_tl i)) (u : Wd B n 23 p2) (e3 : p2 = q1) (e4 : q2 = sk B n (p2 + iv_tl 23)) (f : G B n (Kd.seq 2) 0 p3 (rs a q)) (e5 : p3 = q2) (hr : r = a) (hq : a = 2147483649 → q = q') : G B n Kd.line 0 p (rs r q') := by
  rw [e1] at w e2
  rw [e5, e4, e3, e2, rs_eq hr hq] at f
  rw [e3, e2] at u
  exact G.lnif s w u f
end GS
theorem wd_n {B : Nat → Nat} {n p i m : Nat} (w : Wd B n i p) (e : iv_tl i = m) : sk B n (p + m) ≤ n := sk_le (by have := w.1; omega)
theorem Cw.sk {B : Nat → Nat} {n t p : Nat} (w : Cw B n t p) : sk B n (p + cw t) ≤ n := by
  match t with
  | 0 => exact sk_le (by have := w.1; show _ + 1 ≤ _; omega)
  | 1 => exact wd_n w (by decide)
  | _ + 2 => exact wd_n (m := 2) w (by decide)
theorem G.le {B : Nat → Nat} {n : Nat} {k : Nat} {l p : Nat} {r : Option Nat} (a : G B n k l p r) : p ≤ n → ∀ q, r = some q → q ≤ n := by
  refine G.ind (C := fun k l p r => p ≤ n → ∀ q, r = some q → q ≤ n) ?_ a
  intro k l p r x
  rcases x with ⟨d, rfl, rfl, h⟩ | ⟨i, rfl, rfl, s, h⟩ | ⟨rfl, rfl, _, _⟩ | ⟨t, rfl, rfl, ⟨_, _⟩⟩ | ⟨t, q, rfl, ⟨_, ih⟩, ⟨_, ih2⟩⟩ | ⟨t, rfl, rfl, _⟩ | ⟨t, rfl, rfl, _, ⟨_, _⟩⟩ | ⟨t, q, rfl, w, ⟨_, ih⟩, ⟨_, ih2⟩⟩ | ⟨rfl, rfl, _, _⟩ | ⟨rfl, w, _, ⟨_, ih⟩⟩ | ⟨rfl, rfl, _, _⟩ | ⟨rfl, rfl, _, _, ⟨_, _⟩⟩ | ⟨q, rfl, rfl, _, _, ⟨_, _⟩, _⟩ | ⟨q, rfl, rfl, _, _, ⟨_, _⟩, w⟩ | ⟨rfl, rfl, w⟩ | ⟨rfl, rfl, w⟩ | ⟨rfl, rfl, _, ⟨_, _⟩⟩ | ⟨q, rfl, rfl, _, ⟨_, _⟩, _, _⟩ | ⟨q, rfl, _, ⟨_, _⟩, u, ⟨_, ih2⟩⟩ | ⟨rfl, rfl, _, _⟩ | ⟨i, rfl, rfl, _, w, _⟩ | ⟨i, rfl, _, w, u, ⟨_, ih⟩⟩
  · intro _ q e; injection e with e; subst e; exact sk_le (by have w := h.2.2.1; have x := h.1 (d - 1) (by omega); have y := x.1; omega)
  · intro _ q e; injection e with e; subst e; exact sk_le h.1
  · intro _ q e; cases e
  · intro _ q e; cases e
  · intro h q e; exact ih2 (ih h _ rfl) q e
  · intro h q e; injection e with e; subst e; exact h
  · intro _ q e; cases e
  · intro h q e; exact ih2 (ih (Cw.sk w) _ rfl) q e
  · intro _ q e; cases e
  · intro _ q e; exact ih (wd_n w (by decide)) q e
  · intro _ q e; cases e
  · intro _ q e; cases e
  · intro _ q e; cases e
  · intro _ q e; injection e with e; subst e; exact sk_le (by have := w.1; omega)
  · intro _ q e; injection e with e; subst e; exact wd_n w (by decide)
  · intro _ q e; injection e with e; subst e; exact wd_n w (by decide)
  · intro _ q e; cases e
  · intro _ q e; cases e
  · intro _ q e; exact ih2 (sk_le (by rcases u with u | u <;> (have := u.1; omega))) q e
  · intro _ q e; cases e
  · intro _ q e; injection e with e; subst e; exact sk_le w.1
  · intro _ q e; exact ih (wd_n u (by decide)) q e
/-- what is left of the lines -/
def Lq (B : Nat → Nat) (n c p : Nat) : Prop := p ≤ n ∧ ∀ r, Ls B n c p r → Cu B n r
def rn9 (r : Nat) : Option Nat := if r = 2147483647 then none else some r
section LS
variable {B : Nat → Nat} {n p q q' p1 p2 p3 q1 q2 a r i t v w c c' : Nat}
theorem Cu.nil (e : p = sk B n 2147483648) (h : n ≤ p) {o : Option Nat} (ho : o = some 2147483648) : Cu B n o := Or.inl ⟨by omega, ho⟩
theorem Cu.n0 (hr : r = 2147483648) (m : Cu B n none) : Cu B n (rs r q) := by rw [rs0 hr]; exact m
theorem Cu.s1 (hr : r = 2147483649) (m : Cu B n (some v)) (hq : q = v) : Cu B n (rs r q) := by rw [rs1 hr, hq]; exact m
theorem rs1' (hr : r = 2147483649) (hq : q = v) : rs r q = some v := by rw [rs1 hr, hq]
theorem rn0 (hr : r = 2147483647) : rn9 r = none := if_pos hr
theorem rn1 (hr : r = v) (hv : v ≠ 2147483647) : rn9 r = some v := by rw [hr]; exact if_neg hv
theorem Cu.rn0 (hr : r = 2147483647) (m : Cu B n none) : Cu B n (rn9 r) := by rw [show rn9 r = none from if_pos hr]; exact m
theorem Cu.rn1 (hr : r = v) (hv : v ≠ 2147483647) (m : Cu B n (some v)) : Cu B n (rn9 r) := by rw [show rn9 r = some v by rw [hr]; exact if_neg hv]; exact m
theorem Lq.zero (e : p = sk B n 2147483648) (h : p < n) (hc : c = 2147483648) : Lq B n c p := ⟨by omega, fun r z => Or.inr ⟨by omega, by rw [← e, ← hc]; exact z⟩⟩
theorem Lq.zeroR (e : w = sk B n 2147483648) (h0 : 2147483648 ≤ n) (h : w ≠ n) (hc : c = 2147483648) : Lq B n c (sk B n w) := by
  have x := sk_le (B := B) h0
  have y : sk B n w = w := by rw [e, sk_idem]
  exact Lq.zero (y.trans e) (by omega) hc
theorem Lq.full (m : Lq B n c p) (h : 2147483658 ≤ c) : Cu B n none := m.2 _ (Ls.full h)
theorem Lq.no (m : Lq B n c p) (h : c < 2147483658) (f : G B n Kd.line 0 p1 (rs a q)) (e : p1 = p) (ha : a = 2147483648) : Cu B n none := by
  rw [e, rs0 ha] at f
  exact m.2 _ (Ls.no h f)
theorem Lq.fin (m : Lq B n c p) (h : c < 2147483658) (f : G B n Kd.line 0 p1 (rs a q)) (e : p1 = p) (ha : a = 2147483649) (hn : n ≤ q) (hc : c' = c + 1) : Cu B n (some c') := by
  rw [e, rs1 ha] at f
  rw [hc]
  exact m.2 _ (Ls.fin h f hn)
theorem Lq.bad (m : Lq B n c p) (h : c < 2147483658) (f : G B n Kd.line 0 p1 (rs a q)) (e : p1 = p) (ha : a = 2147483649) (hn : q ≠ n) (w : ¬ Sg B n 2147483707 p2) (e2 : p2 = q) : Cu B n none := by
  rw [e, rs1 ha] at f
  rw [e2] at w
  exact m.2 _ (Ls.bad h f (by have := f.le m.1 _ rfl; omega) w)
theorem Lq.go (m : Lq B n c p) (h : c < 2147483658) (f : G B n Kd.line 0 p1 (rs a q)) (e : p1 = p) (ha : a = 2147483649) (w : Sg B n 2147483707 p2) (e2 : p2 = q) (e3 : q1 = sk B n (p2 + 1)) (hc : c' = c + 1) (hp : q1 = p3) : Lq B n c' p3 := by
  rw [e, rs1 ha] at f
  rw [e2] at w e3
  rw [hc, ← hp, e3]
  exact ⟨sk_le (by have := w.1; omega), fun r g => m.2 r (Ls.go h f w g)⟩
end LS
/-- the reference's custom: its answer and what it throws -/
def Cq (B : Nat → Nat) (n r t : Nat) : Prop := (t = 2147483648 ∧ Cu B n (some r)) ∨ (t = 2147483649 ∧ r = 2147483648 ∧ Cu B n none)
theorem Cq.yes {B : Nat → Nat} {n r t v : Nat} (f : Cu B n (rn9 v)) (hv : v ≠ 2147483647) (hr : r = v) (ht : t = 2147483648) : Cq B n r t := by
  rw [rn1 hr.symm (by omega)] at f
  exact Or.inl ⟨ht, f⟩
theorem Cq.no {B : Nat → Nat} {n r t v : Nat} (f : Cu B n (rn9 v)) (hv : v = 2147483647) (hr : r = 2147483648) (ht : t = 2147483649) : Cq B n r t := by
  rw [rn0 hv] at f
  exact Or.inr ⟨ht, hr, f⟩
theorem Cu.of1 {B : Nat → Nat} {n r q v : Nat} (f : Cu B n (rs r q)) (hr : r = 2147483649) (hv : v = q) : Cu B n (some v) := by
  rw [rs1 hr, ← hv] at f
  exact f
theorem Cu.of0 {B : Nat → Nat} {n r q : Nat} (f : Cu B n (rs r q)) (hr : r = 2147483648) : Cu B n none := by
  rw [rs0 hr] at f
  exact f
theorem Cu.cs {B : Nat → Nat} {n v w : Nat} (f : Cu B n (some v)) (e : w = v) : Cu B n (some w) := by rw [e]; exact f
/-! ===== the tape's own methods ===== -/
section LF
variable {B : Nat → Nat} {n p q v w x i e : Nat}
theorem wIn_st (m : ∀ j, j < v - p → B (p + j) = 2147483648 + iv_tc i j) (hx : v = p + x) (g : B (p + x) = 2147483648 + iv_tc i x) (hw : w = v + 1) : ∀ j, j < w - p → B (p + j) = 2147483648 + iv_tc i j := fun j hj => by
  by_cases h : j = x
  · rw [h]; exact g
  · exact m j (by omega)
theorem Nu.mk1 (a : Dg B n (p + 0)) (z : ¬ Dg B n (p + 1)) : Nu B n p 1 := ⟨fun j hj => by rw [show j = 0 by omega]; exact a, z, by decide, by decide⟩
theorem Nu.mk2 (a : Dg B n (p + 0)) (b : Dg B n (p + 1)) (z : ¬ Dg B n (p + 2)) : Nu B n p 2 := ⟨fun j hj => by
  rcases (show j = 0 ∨ j = 1 by omega) with rfl | rfl
  · exact a
  · exact b, z, by decide, by decide⟩
theorem Nu.mk3 (a : Dg B n (p + 0)) (b : Dg B n (p + 1)) (c : Dg B n (p + 2)) (z : ¬ Dg B n (p + 3)) : Nu B n p 3 := ⟨fun j hj => by
  rcases (show j = 0 ∨ j = 1 ∨ j = 2 by omega) with rfl | rfl | rfl
  · exact a
  · exact b
  · exact c, z, by decide, by decide⟩
theorem Nb.mk0 (z : ¬ Dg B n (p + 0)) : Nb B n p := Or.inl z
theorem Nb.mk4 (a : Dg B n (p + 0)) (b : Dg B n (p + 1)) (c : Dg B n (p + 2)) (z : Dg B n (p + 3)) : Nb B n p := Or.inr (fun j hj => by
  rcases (show j = 0 ∨ j = 1 ∨ j = 2 ∨ j = 3 by omega) with rfl | rfl | rfl | rfl
  · exact a
  · exact b
  · exact c
  · exact z)
theorem nv1 : nv B p 1 = B (p + 0) - 2147483696 := by
  show 10 * 0 + (B (p + 0) - 2147483696) = _
  omega
theorem nv2 : nv B p 2 = 10 * (B (p + 0) - 2147483696) + (B (p + 1) - 2147483696) := by
  show 10 * (10 * 0 + (B (p + 0) - 2147483696)) + (B (p + 1) - 2147483696) = _
  omega
theorem nv3 : nv B p 3 = 100 * (B (p + 0) - 2147483696) + 10 * (B (p + 1) - 2147483696) + (B (p + 2) - 2147483696) := by
  show 10 * (10 * (10 * 0 + (B (p + 0) - 2147483696)) + (B (p + 1) - 2147483696)) + (B (p + 2) - 2147483696) = _
  omega
theorem Nr.yes {lo hi d : Nat} (a : Nu B n p d) (e1 : v = 2147483648 + nv B p d) (e2 : lo ≤ v) (e3 : v ≤ hi) (e4 : q = sk B n w) (e5 : w = p + d) : Nr B n lo hi p v q := Or.inl ⟨d, a, e1, e2, e3, by rw [e4, e5]⟩
theorem Nr.nob {lo hi : Nat} (e1 : v = 2147483647) (a : Nb B n p) : Nr B n lo hi p v q := Or.inr ⟨e1, Or.inl a⟩
theorem Nr.nor {lo hi d : Nat} (e1 : v = 2147483647) (a : Nu B n p d) (b : ¬ (lo ≤ 2147483648 + nv B p d ∧ 2147483648 + nv B p d ≤ hi)) : Nr B n lo hi p v q := Or.inr ⟨e1, Or.inr ⟨d, a, b⟩⟩
/-- the reference's isWord, on its way -/
def Wi (B : Nat → Nat) (i p e s k : Nat) : Prop := (s = 2147483649 ∧ e = p + iv_tl i ∧ ∀ j, 2147483648 + j < k → B (p + j) = 2147483648 + iv_tc i j) ∨ (s = 2147483648 ∧ ¬ Wm B i p e)
variable {s k s' k' r : Nat}
theorem Wi.in1 (hs : s = 2147483649) (he : e = p + iv_tl i) (hk : k = 2147483648) : Wi B i p e s k := Or.inl ⟨hs, he, fun j hj => by omega⟩
theorem Wi.in0 (hs : s = 2147483648) (he : e ≠ p + iv_tl i) : Wi B i p e s k := Or.inr ⟨hs, fun z => he z.1⟩
theorem Wi.st1 (m : Wi B i p e s k) (h : s = 2147483649) (hx : k = 2147483648 + x) (g : B (p + x) = 2147483648 + iv_tc i x) (hs : s' = 2147483649) (hk : k' = k + 1) : Wi B i p e s' k' := by
  rcases m with ⟨a, b, c⟩ | ⟨a, b⟩
  · refine Or.inl ⟨hs, b, fun j hj => ?_⟩
    by_cases y : j = x
    · rw [y]; exact g
    · exact c j (by omega)
  · omega
theorem Wi.st0 (hx : x < iv_tl i) (g : B (p + x) ≠ 2147483648 + iv_tc i x) (hs : s' = 2147483648) : Wi B i p e s' k' := Or.inr ⟨hs, fun z => g (z.2 x hx)⟩
theorem Wi.is (m : Wi B i p e s k) (hr : r = s) (h : s = 2147483648 ∨ 2147483648 + iv_tl i ≤ k) : Is (Wm B i p e) r := by
  rcases m with ⟨a, b, c⟩ | ⟨a, b⟩
  · refine Is.mk1 (by omega) ⟨b, fun j hj => c j (by omega)⟩
  · exact Is.mk0 (by omega) b
theorem ps1 (a : w = sk B n p) (b : e = le9 B n w) (f : Is (Wm B i w e) v) (hv : v = 2147483649) (hi : i < 32) (hr : r = 2147483649) : Tk (Wd B n i (sk B n p)) B n (sk B n p) (iv_tl i) r (sk B n e) := by
  have g := f.yes hv
  have c := Wd.of' hi g b
  rw [a] at c
  exact Or.inl ⟨hr, c, by rw [g.1, a]⟩
theorem ps0 (a : w = sk B n p) (b : e = le9 B n w) (f : Is (Wm B i w e) v) (hv : v = 2147483648) (hi : i < 32) (he : q = w) (hr : r = 2147483648) : Tk (Wd B n i (sk B n p)) B n (sk B n p) (iv_tl i) r (sk B n q) := by
  have c := Wd.no hi (f.no hv) b
  rw [a] at c
  exact Or.inr ⟨hr, c, by rw [he, a, sk_idem]⟩
theorem sg1 {c : Nat} (a : w = sk B n p) (g : Sg B n c w) (he : q = w + 1) (hr : r = 2147483649) : Tk (Sg B n c (sk B n p)) B n (sk B n p) 1 r (sk B n q) := by
  rw [a] at g he
  exact Or.inl ⟨hr, g, by rw [he]⟩
theorem sg0 {c : Nat} (a : w = sk B n p) (g : ¬ Sg B n c w) (he : q = w) (hr : r = 2147483648) : Tk (Sg B n c (sk B n p)) B n (sk B n p) 1 r (sk B n q) := by
  rw [a] at g
  exact Or.inr ⟨hr, g, by rw [he, a, sk_idem]⟩
/-- the reference's number, on its way -/
def Ni (B : Nat → Nat) (n p e v : Nat) : Prop := p ≤ e ∧ (∀ j, j < e - p → Dg B n (p + j)) ∧ v = 2147483648 + nv B p (min 3 (e - p))
theorem Ni.zero (he : e = p) (hv : v = 2147483648) : Ni B n p e v := by
  refine ⟨by omega, fun j hj => by omega, ?_⟩
  rw [show min 3 (e - p) = 0 by omega, hv]
  rfl
theorem Ni.lt (m : Ni B n p e v) (h : e < p + 3) : v ≤ 2147483747 := by
  obtain ⟨a, b, c⟩ := m
  have x := nv_lt (min 3 (e - p)) (fun j hj => b j (by omega))
  have y : 10 ^ (min 3 (e - p)) ≤ 10 ^ 2 := Nat.pow_le_pow_right (by decide) (by omega)
  have z : (10 : Nat) ^ 2 = 100 := by decide
  omega
theorem Ni.ge (m : Ni B n p e v) : 2147483648 ≤ v := by have := m.2.2; omega
theorem Ni.dg (m : Ni B n p e v) (g : Dg B n e) : ∀ j, j < e + 1 - p → Dg B n (p + j) := fun j hj => by
  by_cases y : p + j = e
  · rw [y]; exact g
  · exact m.2.1 j (by have := m.1; omega)
theorem Ni.st {p' e' v' : Nat} (m : Ni B n p e v) (h : e < p + 3) (g : Dg B n e) (hv : v' + 21474836480 = 2147483648 + (10 * v + (B e - 2147483696))) (he : e' = e + 1) (hp : p' = p) : Ni B n p' e' v' := by
  have a := m.1
  have c := m.2.2
  subst he hp
  refine ⟨by omega, m.dg g, ?_⟩
  have x : min 3 (e + 1 - p') = min 3 (e - p') + 1 := by omega
  rw [x]
  show v' = 2147483648 + (10 * nv B p' (min 3 (e - p')) + (B (p' + min 3 (e - p')) - 2147483696))
  rw [show p' + min 3 (e - p') = e by omega]
  omega
theorem Ni.st3 {p' e' v' : Nat} (m : Ni B n p e v) (h : p + 3 ≤ e) (g : Dg B n e) (hv : v' = v) (he : e' = e + 1) (hp : p' = p) : Ni B n p' e' v' := by
  have c := m.2.2
  subst he hp hv
  refine ⟨by omega, m.dg g, ?_⟩
  rw [show min 3 (e + 1 - p') = min 3 (e - p') by omega]
  exact c
theorem Ni.nb0 (m : Ni B n p e v) (h : e ≤ p) (g : ¬ Dg B n e) : Nb B n p := by
  have a := m.1
  rw [show e = p by omega] at g
  exact Or.inl g
theorem Ni.nb4 (m : Ni B n p e v) (h : p + 4 ≤ e) : Nb B n p := Or.inr (fun j hj => m.2.1 j (by omega))
theorem Ni.nu (m : Ni B n p e v) (h1 : p < e) (h2 : e ≤ p + 3) (g : ¬ Dg B n e) : Nu B n p (e - p) ∧ v = 2147483648 + nv B p (e - p) := by
  refine ⟨⟨m.2.1, by rw [show p + (e - p) = e by omega]; exact g, by omega, by omega⟩, ?_⟩
  have c := m.2.2
  rw [show min 3 (e - p) = e - p by omega] at c
  exact c
theorem Nr.cast {lo hi p' : Nat} (a : Nr B n lo hi p v q) (e : p = p') : Nr B n lo hi p' v q := by rw [← e]; exact a
theorem Ni.val {lo hi : Nat} (m : Ni B n p e v) (h1 : p < e) (h2 : e ≤ p + 3) (g : ¬ Dg B n e) (hr : r = v) (h3 : lo ≤ v) (h4 : v ≤ hi) (hq : q = e) : Nr B n lo hi p r (sk B n q) := by
  obtain ⟨a, b⟩ := m.nu h1 h2 g
  exact Nr.yes a (by omega) (by omega) (by omega) (by rw [hq]) (by omega)
theorem Ni.rng {lo hi : Nat} (m : Ni B n p e v) (h1 : p < e) (h2 : e ≤ p + 3) (g : ¬ Dg B n e) (hr : r = 2147483647) (h3 : v < lo ∨ hi < v) : Nr B n lo hi p r q := by
  obtain ⟨a, b⟩ := m.nu h1 h2 g
  exact Nr.nor hr a (by omega)
end LF
/-! ===== askedWord, one by one ===== -/
def xS1 (i : Nat) (h : xh) : Nat → xh → Prop := fun v h' => v = x_b (i + 1) ∧ h' = h
theorem x_cS1 {sc : Nat × Nat} {mi d c0 s0 pc np i : Nat} {lo st : List Nat} {h : xh} {Q : Nat → xh → Prop} {t mj n rc ml nr : Nat} {as rest lo1 : List Nat} (w : wd mi pc 12 np (mj + 4096 * n + 1048576 * t + 16777216 * rc)) (ht : t = 6 ∨ t = 8 ∨ (t = 0 ∧ rc = 0) ∨ (t = 7 ∧ rc = 0)) (g : x_cb mi mj n ml 0 0 c0 s0 = true) (hrc : x_rc rc as) (hst : st = as.reverse ++ rest) (hn : as.length = n) (hwa : iv_wl as ≤ n) (hwr : iv_wl rest ≤ nr) (h8 : nr ≤ 8) (hl : lo1 = as ++ List.replicate (ml - n) 147573952589676412928)
    (k : X sc mj d (xS1 i h) 0 0 0 lo1 [] h) (hi : i < 32) (k2 : X sc mi (d + 1) Q c0 s0 np lo (x_b (i + 1) :: rest) h) : X sc mi (d + 1) Q c0 s0 pc lo st h :=
  x_call w ht g hrc hst hn hwa hwr h8 hl k (fun v h' q => by
    obtain ⟨rfl, rfl⟩ := q
    exact Or.inl ⟨x_b_lt (by omega), k2⟩)
theorem c51_0 {sc : Nat × Nat} {d : Nat} {h : xh} : X sc 51 d (xS1 2 h) 0 0 0 [iv_c 2147483648] [] h := by
  refine x_iload (np := 1) (x := 0) (by decide +kernel) rfl (by decide) ?_
  refine x_tsw1 (np := 2) (x := 0) (by decide +kernel) (by decide) (i := 0) (lo9 := 2147483648) (hi9 := 2147483652) (tg := 36) (by decide +kernel) (by omega) (by omega) ?_
  refine x_ldcB (i := 2) (idx := 97) (tx := "day") (by rw [tb_y51]; exact List.mem_of_getElem? (i := 27) rfl) (by decide) (by rw [tb_b51]; decide +kernel) ?_
  exact x_retA (by decide) rfl (by rw [tb_b51]; decide +kernel) ⟨rfl, rfl⟩
theorem c51_1 {sc : Nat × Nat} {d : Nat} {h : xh} : X sc 51 d (xS1 27 h) 0 0 0 [iv_c 2147483649] [] h := by
  refine x_iload (np := 1) (x := 0) (by decide +kernel) rfl (by decide) ?_
  refine x_tsw1 (np := 2) (x := 0) (by decide +kernel) (by decide) (i := 1) (lo9 := 2147483648) (hi9 := 2147483652) (tg := 39) (by decide +kernel) (by omega) (by omega) ?_
  refine x_ldcB (i := 27) (idx := 99) (tx := "days") (by rw [tb_y51]; exact List.mem_of_getElem? (i := 28) rfl) (by decide) (by rw [tb_b51]; decide +kernel) ?_
  exact x_retA (by decide) rfl (by rw [tb_b51]; decide +kernel) ⟨rfl, rfl⟩
theorem c51_2 {sc : Nat × Nat} {d : Nat} {h : xh} : X sc 51 d (xS1 5 h) 0 0 0 [iv_c 2147483650] [] h := by
  refine x_iload (np := 1) (x := 0) (by decide +kernel) rfl (by decide) ?_
  refine x_tsw1 (np := 2) (x := 0) (by decide +kernel) (by decide) (i := 2) (lo9 := 2147483648) (hi9 := 2147483652) (tg := 42) (by decide +kernel) (by omega) (by omega) ?_
  refine x_ldcB (i := 5) (idx := 101) (tx := "pledge") (by rw [tb_y51]; exact List.mem_of_getElem? (i := 29) rfl) (by decide) (by rw [tb_b51]; decide +kernel) ?_
  exact x_retA (by decide) rfl (by rw [tb_b51]; decide +kernel) ⟨rfl, rfl⟩
theorem c51_3 {sc : Nat × Nat} {d : Nat} {h : xh} : X sc 51 d (xS1 28 h) 0 0 0 [iv_c 2147483651] [] h := by
  refine x_iload (np := 1) (x := 0) (by decide +kernel) rfl (by decide) ?_
  refine x_tsw1 (np := 2) (x := 0) (by decide +kernel) (by decide) (i := 3) (lo9 := 2147483648) (hi9 := 2147483652) (tg := 45) (by decide +kernel) (by omega) (by omega) ?_
  refine x_ldcB (i := 28) (idx := 103) (tx := "deep") (by rw [tb_y51]; exact List.mem_of_getElem? (i := 30) rfl) (by decide) (by rw [tb_b51]; decide +kernel) ?_
  exact x_retA (by decide) rfl (by rw [tb_b51]; decide +kernel) ⟨rfl, rfl⟩
theorem c51_4 {sc : Nat × Nat} {d : Nat} {h : xh} : X sc 51 d (xS1 29 h) 0 0 0 [iv_c 2147483652] [] h := by
  refine x_iload (np := 1) (x := 0) (by decide +kernel) rfl (by decide) ?_
  refine x_tsw1 (np := 2) (x := 0) (by decide +kernel) (by decide) (i := 4) (lo9 := 2147483648) (hi9 := 2147483652) (tg := 48) (by decide +kernel) (by omega) (by omega) ?_
  refine x_ldcB (i := 29) (idx := 105) (tx := "gives") (by rw [tb_y51]; exact List.mem_of_getElem? (i := 31) rfl) (by decide) (by rw [tb_b51]; decide +kernel) ?_
  exact x_retA (by decide) rfl (by rw [tb_b51]; decide +kernel) ⟨rfl, rfl⟩
theorem c51_5 {sc : Nat × Nat} {d : Nat} {h : xh} : X sc 51 d (xS1 30 h) 0 0 0 [iv_c 2147483653] [] h := by
  refine x_iload (np := 1) (x := 0) (by decide +kernel) rfl (by decide) ?_
  refine x_tsw0 (np := 2) (x := 0) (by decide +kernel) (by decide) (lo9 := 2147483648) (hi9 := 2147483652) (tg := 51) (by decide +kernel) (Or.inr (by decide)) ?_
  refine x_ldcB (i := 30) (idx := 107) (tx := "takes") (by rw [tb_y51]; exact List.mem_of_getElem? (i := 32) rfl) (by decide) (by rw [tb_b51]; decide +kernel) ?_
  exact x_retA (by decide) rfl (by rw [tb_b51]; decide +kernel) ⟨rfl, rfl⟩
/-! ===== feed: what comes onto the tapes ===== -/
/-- cell c: from s on k places are f's, all else as before -/
def Ap (c : Nat) (h h' : xh) (s k : Nat) (f : Nat → Nat) : Prop := (∀ u, (u < s ∨ s + k ≤ u) → h' c u = h c u) ∧ ∀ j, j < k → h' c (s + j) = f j
theorem Ap.zero {c s : Nat} {h : xh} {f : Nat → Nat} : Ap c h h s 0 f := ⟨fun _ _ => rfl, fun j hj => absurd hj (Nat.not_lt_zero _)⟩
theorem Ap.put {c s k i v : Nat} {h h1 : xh} {f : Nat → Nat} (a : Ap c h h1 s k f) (hi : i = s + k) (hv : v = f k) : Ap c h (x_up h1 c i v) s (k + 1) f := by
  refine ⟨fun u hu => ?_, fun j hj => ?_⟩
  · rw [x_up_i (by omega)]
    exact a.1 u (by omega)
  · by_cases e : j = k
    · rw [e, hi, x_up_at, hv]
    · rw [x_up_i (by omega)]
      exact a.2 j (by omega)
theorem Ap.oth {c s k q i v : Nat} {h h1 : xh} {f : Nat → Nat} (a : Ap c h h1 s k f) (hq : c ≠ q) : Ap c h (x_up h1 q i v) s k f :=
  ⟨fun u hu => by rw [x_up_k hq]; exact a.1 u hu, fun j hj => by rw [x_up_k hq]; exact a.2 j hj⟩
theorem Ap.app {c s s' k : Nat} {h h1 h2 : xh} {f g : Nat → Nat} (a : Ap c h h1 s k f) (b : Ap c h1 h2 s' 4 g) (hs : s' = s + k) (hg : ∀ j, j < 4 → g j = f (k + j)) : Ap c h h2 s (k + 4) f := by
  refine ⟨fun u hu => ?_, fun j hj => ?_⟩
  · rw [b.1 u (by omega)]
    exact a.1 u (by omega)
  · by_cases e : j < k
    · rw [b.1 (s + j) (by omega)]
      exact a.2 j e
    · have x := b.2 (j - k) (by omega)
      rw [show s' + (j - k) = s + j by omega] at x
      rw [x, hg _ (by omega), show k + (j - k) = j by omega]
theorem Ap.cast {c s s' k : Nat} {h h' : xh} {f : Nat → Nat} (a : Ap c h h' s k f) (e : s = s') : Ap c h h' s' k f := by rw [← e]; exact a
def f4 (a j : Nat) : Nat := b255 (bsh a (2147483672 - 8 * j))
def g4 (a j : Nat) : Nat := b8 (bsh a (2147483672 - 8 * j))
def pk5 (a b c d e k : Nat) : Nat := match k with
  | 0 => a
  | 1 => b
  | 2 => c
  | 3 => d
  | _ => e
def f20 (a b c d e j : Nat) : Nat := f4 (pk5 a b c d e (j / 4)) (j % 4)
def g20 (a b c d e j : Nat) : Nat := g4 (pk5 a b c d e (j / 4)) (j % 4)
theorem f20_q {a b c d e : Nat} (k : Nat) (hk : k < 5) (j : Nat) (hj : j < 4) : f4 (pk5 a b c d e k) j = f20 a b c d e (4 * k + j) := by
  unfold f20
  rw [show (4 * k + j) / 4 = k by omega, show (4 * k + j) % 4 = j by omega]
/-- the two tapes are alike -/
def Ty (h : xh) : Prop := ∀ u, u < 400 → byE (h 2 u) (h 79 u)
theorem Ty.fr {h h' : xh} {m : Nat} (t : Ty h) (f : Fr m h h') (g1 : Nat.testBit m 6 = false) (g2 : Nat.testBit m 29 = false) : Ty h' := fun u hu => by
  rw [f 2 u (by rw [show x_gr 2 u = 6 from rfl]; exact g1), f 79 u (by rw [show x_gr 79 u = 29 from rfl]; exact g2)]
  exact t u hu
theorem Ty.feed {h h1 h2 h3 : xh} {s a b c d e m m2 : Nat} (t : Ty h) (x : Ap 2 h h1 s 20 (f20 a b c d e)) (f : Fr m h h1) (gm : Nat.testBit m 29 = false) (y : Ap 79 h1 h2 s 20 (g20 a b c d e)) (f2 : Fr m2 h1 h2) (gb : Nat.testBit m2 6 = false) : Ty h2 := fun u hu => by
  rw [f2 2 u (by rw [show x_gr 2 u = 6 from rfl]; exact gb)]
  by_cases z : u < s ∨ s + 20 ≤ u
  · rw [x.1 u z, y.1 u z, f 79 u (by rw [show x_gr 79 u = 29 from rfl]; exact gm)]
    exact t u hu
  · have p := x.2 (u - s) (by omega)
    have q := y.2 (u - s) (by omega)
    rw [show s + (u - s) = u by omega] at p q
    rw [p, q]
    unfold f20 g20 f4 g4
    exact byE_of _
/-- the text on both tapes -/
def tb9 (h : xh) : Nat → Nat := fun p => h 2 (p - 2147483648)
theorem Ty.tp {h : xh} : Tp (tb9 h) (h 1 1) h := ⟨rfl, fun u hu => by
  show h 2 u = h 2 (2147483648 + u - 2147483648)
  rw [Nat.add_sub_cancel_left]⟩
theorem Ty.tr {h h1 : xh} {m n : Nat} (t : Ty h) (f : Fr m h h1) (g : Nat.testBit m 29 = false) (e : h1 75 6 = n) : Tr (tb9 h) n h1 := ⟨e, fun u hu => by
  show byE (h 2 (2147483648 + u - 2147483648)) (h1 79 u)
  rw [Nat.add_sub_cancel_left, f 79 u (by rw [show x_gr 79 u = 29 from rfl]; exact g)]
  exact t u hu⟩
