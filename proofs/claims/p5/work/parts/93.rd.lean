/-! ===== exact numbers: shifts, the lowest byte (for the likeness of the tapes) ===== -/
def bsh (a z : Nat) : Nat := iv_bs (iv_ub a >>> (iv_ub z &&& 31))
def b255 (a : Nat) : Nat := iv_bs (iv_ub a &&& 255)
def b8 (a : Nat) : Nat := iv_bs (iv_ub a).toInt8.toInt32
theorem bsh_lt {a z : Nat} : bsh a z < 4294967296 := x_bs _
theorem b255_in {a : Nat} : 2147483648 ≤ b255 a ∧ b255 a ≤ 2147483903 := by
  obtain ⟨j, j1, j2⟩ := pk_andE (iv_ub a) (m := 255) 8 (by decide)
  have j1 : j < 256 := j1
  unfold b255
  rw [j2]
  have e := iv_ofn (n := j) (by omega)
  have e : iv_bs (nI j) = 2147483648 + j := e
  rw [e]
  omega
theorem b8_in {a : Nat} : 2147483520 ≤ b8 a ∧ b8 a ≤ 2147483775 := x_bs8 (iv_ub a)
/-- a byte, without and with its sign -/
def byE (c s : Nat) : Prop := (2147483648 ≤ s ∧ c = s) ∨ (s < 2147483648 ∧ c = s + 256)
theorem by_nat (y : Int32) : (y &&& 255).toBitVec.toNat = y.toBitVec.toNat % 256 := by
  rw [Int32.toBitVec_and, BitVec.toNat_and]
  show y.toBitVec.toNat &&& 255 = _
  rw [show (255 : Nat) = 2 ^ 8 - 1 from rfl, Nat.and_two_pow_sub_one_eq_mod]
theorem byE_of (a : Nat) : byE (b255 a) (b8 a) := by
  unfold byE b255 b8
  generalize iv_ub a = y
  have e1 := iv_bs_eq (y &&& 255)
  have e2 := iv_bs_eq y.toInt8.toInt32
  rw [Int8.toInt_toInt32] at e2
  have n1 := by_nat y
  have f1 : (y &&& 255).toInt = ((y.toBitVec.toNat % 256 : Nat) : Int) := by
    rw [← n1]
    show (y &&& 255).toBitVec.toInt = _
    rw [BitVec.toInt_eq_toNat_of_lt (by rw [n1]; omega)]
  have f2 : y.toInt8.toInt = y.toInt.bmod 256 := Int32.toInt_toInt8 y
  have f3 : y.toInt = if 2 * y.toBitVec.toNat < 2 ^ 32 then (y.toBitVec.toNat : Int) else (y.toBitVec.toNat : Int) - (2 ^ 32 : Nat) := BitVec.toInt_eq_toNat_cond y.toBitVec
  have f4 := y.toBitVec.isLt
  rw [f1] at e1
  rw [f2, Int.bmod_def] at e2
  split at f3 <;> split at e2 <;> omega
section EXA
variable {sc : Nat × Nat} {mi d c0 s0 pc np a z : Nat} {lo st : List Nat} {h : xh} {Q : Nat → xh → Prop}
theorem x_shrE (w : wd mi pc 17 np 4) (ha : a < 4294967296) (hz : z < 4294967296) (k : bsh a z < 4294967296 → X sc mi d Q c0 s0 np lo (iv_c (bsh a z) :: st) h) : X sc mi d Q c0 s0 pc lo (iv_c z :: iv_c a :: st) h := fun L hL =>
  let ⟨r, b, c, e, f, g⟩ := k bsh_lt L hL; ⟨r, b, c, e, f, iw_alu (k9 := 4) w.1 w.2 (wd_ne w (by decide)) ha hz rfl g⟩
theorem x_b255 (w : wd mi pc 17 np 0) (ha : a < 4294967296) (k : 2147483648 ≤ b255 a → b255 a ≤ 2147483903 → X sc mi d Q c0 s0 np lo (iv_c (b255 a) :: st) h) : X sc mi d Q c0 s0 pc lo (iv_c 2147483903 :: iv_c a :: st) h := fun L hL => by
  obtain ⟨r, b, c, e, f, g⟩ := k b255_in.1 b255_in.2 L hL
  refine ⟨r, b, c, e, f, iw_alu (k9 := 0) (w := iv_ub a &&& 255) w.1 w.2 (wd_ne w (by decide)) ha (by decide) ?_ g⟩
  show some (iv_ub a &&& iv_ub 2147483903) = some (iv_ub a &&& 255)
  rw [show iv_ub 2147483903 = 255 by decide]
theorem x_b8 (hd : decode (pm_b mi) pc = .ok (.i2b, 1)) (ha : a < 4294967296) (k : 2147483520 ≤ b8 a → b8 a ≤ 2147483775 → X sc mi d Q c0 s0 (pc + 1) lo (iv_c (b8 a) :: st) h) : X sc mi d Q c0 s0 pc lo (iv_c a :: st) h := fun L hL =>
  let ⟨r, b, c, e, f, g⟩ := k b8_in.1 b8_in.2 L hL; ⟨r, b, c, e, f, iw_i2b hd ha g⟩
end EXA
/-! ===== the text on the tape, as numbers: blanks, letters, digits, words ===== -/
/-- the bytes' own functions: B k the byte at k (0 to 255), n the size -/
def tSkip (B : Nat → Nat) (p : Nat → Bool) : Nat → Nat → Nat
  | 0, q => q
  | m + 1, q => if p (B q) then tSkip B p m (q + 1) else q
/-- the first place from q on, before n, whose byte is none of p's -/
def tEnd (B : Nat → Nat) (p : Nat → Bool) (n q : Nat) : Nat := tSkip B p (n - q) q
theorem tSkip_le (B : Nat → Nat) (p : Nat → Bool) : ∀ m q, q ≤ tSkip B p m q ∧ tSkip B p m q ≤ q + m
  | 0, q => ⟨Nat.le_refl _, Nat.le_refl _⟩
  | m + 1, q => by
    unfold tSkip
    split
    · obtain ⟨a, b⟩ := tSkip_le B p m (q + 1)
      omega
    · omega
theorem tEnd_le {B : Nat → Nat} {p : Nat → Bool} {n q : Nat} (h : q ≤ n) : q ≤ tEnd B p n q ∧ tEnd B p n q ≤ n := by
  obtain ⟨a, b⟩ := tSkip_le B p (n - q) q
  unfold tEnd
  omega
theorem tEnd_step {B : Nat → Nat} {p : Nat → Bool} {n q : Nat} (h : q < n) (hp : p (B q) = true) : tEnd B p n q = tEnd B p n (q + 1) := by
  unfold tEnd
  have e : n - q = (n - (q + 1)) + 1 := by omega
  rw [e]
  show (if p (B q) then tSkip B p (n - (q + 1)) (q + 1) else q) = _
  rw [if_pos hp]
theorem tEnd_stop {B : Nat → Nat} {p : Nat → Bool} {n q : Nat} (h : ¬ q < n ∨ p (B q) = false) : tEnd B p n q = q := by
  unfold tEnd
  rcases h with h | h
  · have e : n - q = 0 := by omega
    rw [e]
    rfl
  · cases e : n - q with
    | zero => rfl
    | succ m =>
      show (if p (B q) then tSkip B p m (q + 1) else q) = q
      rw [h]
      rfl
/-! ===== what stands on the tape: blanks, letters, digits, words, numbers ===== -/
def skp (c : Nat) : Bool := Nat.beq c 2147483680
def ltp (c : Nat) : Bool := Nat.ble 2147483745 c && Nat.ble c 2147483770
/-- behind the blanks, from p on -/
def sk (B : Nat → Nat) (n p : Nat) : Nat := tEnd B skp n p
/-- behind the letters, from p on -/
def le9 (B : Nat → Nat) (n p : Nat) : Nat := tEnd B ltp n p
def Sg (B : Nat → Nat) (n c p : Nat) : Prop := p < n ∧ B p = c
def Ltr (B : Nat → Nat) (n p : Nat) : Prop := p < n ∧ 2147483745 ≤ B p ∧ B p ≤ 2147483770
def Dg (B : Nat → Nat) (n p : Nat) : Prop := p < n ∧ 2147483696 ≤ B p ∧ B p ≤ 2147483705
def Wd (B : Nat → Nat) (n i p : Nat) : Prop := p + iv_tl i ≤ n ∧ (∀ j, j < iv_tl i → B (p + j) = 2147483648 + iv_tc i j) ∧ ¬ Ltr B n (p + iv_tl i)
def Wm (B : Nat → Nat) (i p e : Nat) : Prop := e = p + iv_tl i ∧ ∀ j, j < iv_tl i → B (p + j) = 2147483648 + iv_tc i j
theorem tSkip_post (B : Nat → Nat) (p : Nat → Bool) : ∀ m q, tSkip B p m q = q + m ∨ p (B (tSkip B p m q)) = false
  | 0, q => Or.inl rfl
  | m + 1, q => by
    unfold tSkip
    split
    · rcases tSkip_post B p m (q + 1) with a | a
      · exact Or.inl (by omega)
      · exact Or.inr a
    · rename_i a
      exact Or.inr (by simpa using a)
theorem tSkip_all (B : Nat → Nat) (p : Nat → Bool) : ∀ m q j, q ≤ j → j < tSkip B p m q → p (B j) = true
  | 0, q, j, h1, h2 => by
    unfold tSkip at h2
    omega
  | m + 1, q, j, h1, h2 => by
    unfold tSkip at h2
    split at h2
    · rename_i a
      by_cases e : j = q
      · rw [e]; exact a
      · exact tSkip_all B p m (q + 1) j (by omega) h2
    · omega
theorem tEnd_post {B : Nat → Nat} {p : Nat → Bool} {n q : Nat} : n ≤ tEnd B p n q ∨ p (B (tEnd B p n q)) = false := by
  unfold tEnd
  rcases tSkip_post B p (n - q) q with a | a
  · exact Or.inl (by omega)
  · exact Or.inr a
theorem tEnd_idem {B : Nat → Nat} {p : Nat → Bool} {n q : Nat} : tEnd B p n (tEnd B p n q) = tEnd B p n q := by
  rcases tEnd_post (B := B) (p := p) (n := n) (q := q) with a | a
  · exact tEnd_stop (Or.inl (by omega))
  · exact tEnd_stop (Or.inr a)
theorem tEnd_ge {B : Nat → Nat} {p : Nat → Bool} {n q : Nat} : q ≤ tEnd B p n q := (tSkip_le B p (n - q) q).1
theorem sk_step {B : Nat → Nat} {n p : Nat} (h : p < n) (e : B p = 2147483680) : sk B n p = sk B n (p + 1) := tEnd_step h (by rw [e]; rfl)
theorem sk_stop {B : Nat → Nat} {n p : Nat} (h : n ≤ p ∨ B p ≠ 2147483680) : sk B n p = p := tEnd_stop (h.elim (fun a => Or.inl (by omega)) (fun a => Or.inr (by
  unfold skp
  cases e : Nat.beq (B p) 2147483680 with
  | false => rfl
  | true => exact absurd (Nat.eq_of_beq_eq_true e) a)))
theorem sk_ge {B : Nat → Nat} {n p : Nat} : p ≤ sk B n p := tEnd_ge
theorem sk_le {B : Nat → Nat} {n p : Nat} (h : p ≤ n) : sk B n p ≤ n := (tEnd_le h).2
theorem sk_idem {B : Nat → Nat} {n p : Nat} : sk B n (sk B n p) = sk B n p := tEnd_idem
theorem ltp_t {c : Nat} (h : ltp c = true) : 2147483745 ≤ c ∧ c ≤ 2147483770 := by
  unfold ltp at h
  rw [Bool.and_eq_true] at h
  exact ⟨Nat.le_of_ble_eq_true h.1, Nat.le_of_ble_eq_true h.2⟩
theorem ltp_of {c : Nat} (h : 2147483745 ≤ c ∧ c ≤ 2147483770) : ltp c = true := by
  unfold ltp
  rw [Nat.ble_eq_true_of_le h.1, Nat.ble_eq_true_of_le h.2]
  rfl
theorem ltp_f {c : Nat} (h : ¬ (2147483745 ≤ c ∧ c ≤ 2147483770)) : ltp c = false := by
  cases e : ltp c with
  | false => rfl
  | true => exact absurd (ltp_t e) h
theorem le9_step {B : Nat → Nat} {n p : Nat} (h : Ltr B n p) : le9 B n p = le9 B n (p + 1) := tEnd_step h.1 (ltp_of h.2)
theorem le9_stop {B : Nat → Nat} {n p : Nat} (h : ¬ Ltr B n p) : le9 B n p = p := by
  by_cases a : p < n
  · exact tEnd_stop (Or.inr (ltp_f (fun z => h ⟨a, z⟩)))
  · exact tEnd_stop (Or.inl a)
theorem le9_ge {B : Nat → Nat} {n p : Nat} : p ≤ le9 B n p := tEnd_ge
theorem le9_le {B : Nat → Nat} {n p : Nat} (h : p ≤ n) : le9 B n p ≤ n := (tEnd_le h).2
theorem le9_end {B : Nat → Nat} {n p : Nat} : ¬ Ltr B n (le9 B n p) := fun z => by
  rcases tEnd_post (B := B) (p := ltp) (n := n) (q := p) with a | a
  · have := z.1
    unfold le9 at this
    omega
  · have b := ltp_of z.2
    unfold le9 at b
    rw [b] at a
    exact absurd a (by decide)
theorem le9_eq {B : Nat → Nat} {n p : Nat} : ∀ m, (∀ j, j < m → Ltr B n (p + j)) → ¬ Ltr B n (p + m) → le9 B n p = p + m := by
  intro m
  induction m generalizing p with
  | zero => intro _ h; exact le9_stop h
  | succ m ih =>
    intro h1 h2
    have z := h1 0 (by omega)
    rw [Nat.add_zero] at z
    rw [le9_step z, ih (fun j hj => by have := h1 (j + 1) (by omega); rw [show p + 1 + j = p + (j + 1) by omega]; exact this) (by rw [show p + 1 + m = p + (m + 1) by omega]; exact h2)]
    omega
theorem tx_ltr : ∀ i, i < 32 → ∀ j, j < iv_tl i → 97 ≤ iv_tc i j ∧ iv_tc i j ≤ 122 := by decide +kernel
theorem Wd.ltr {B : Nat → Nat} {n i p : Nat} (hi : i < 32) (w : Wd B n i p) {j : Nat} (hj : j < iv_tl i) : Ltr B n (p + j) := by
  have a := w.2.1 j hj
  have b := tx_ltr i hi j hj
  have c := w.1
  exact ⟨by omega, by omega, by omega⟩
theorem Wd.le {B : Nat → Nat} {n i p : Nat} (hi : i < 32) (w : Wd B n i p) : le9 B n p = p + iv_tl i := le9_eq _ (fun _ hj => w.ltr hi hj) w.2.2
theorem Wd.of {B : Nat → Nat} {n i p e : Nat} (w : Wm B i p e) (he : e = le9 B n p) (hp : p ≤ n) : Wd B n i p := by
  refine ⟨?_, w.2, ?_⟩
  · have := le9_le (B := B) hp
    have := w.1
    omega
  · rw [← w.1, he]
    exact le9_end
theorem Wd.no {B : Nat → Nat} {n i p e : Nat} (hi : i < 32) (w : ¬ Wm B i p e) (he : e = le9 B n p) : ¬ Wd B n i p := fun z => w ⟨he.trans (z.le hi), z.2.1⟩
/-- words at one place are as long -/
theorem Wd.same {B : Nat → Nat} {n i j p : Nat} (hi : i < 32) (hj : j < 32) (a : Wd B n i p) (b : Wd B n j p) : iv_tl i = iv_tl j := by
  have x := a.le hi
  have y := b.le hj
  omega
theorem Wd.fst {B : Nat → Nat} {n i p : Nat} (a : Wd B n i p) (h : 0 < iv_tl i) : B p = 2147483648 + iv_tc i 0 := a.2.1 0 h
/-- numbers -/
def nv (B : Nat → Nat) (p : Nat) : Nat → Nat
  | 0 => 0
  | d + 1 => 10 * nv B p d + (B (p + d) - 2147483696)
def Nu (B : Nat → Nat) (n p d : Nat) : Prop := (∀ j, j < d → Dg B n (p + j)) ∧ ¬ Dg B n (p + d) ∧ 1 ≤ d ∧ d ≤ 3
def Nb (B : Nat → Nat) (n p : Nat) : Prop := ¬ Dg B n p ∨ ∀ j, j < 4 → Dg B n (p + j)
theorem Nu.same {B : Nat → Nat} {n p d e : Nat} (a : Nu B n p d) (b : Nu B n p e) : d = e := by
  by_cases h : d < e
  · exact absurd (b.1 d h) a.2.1
  · by_cases h2 : e < d
    · exact absurd (a.1 e h2) b.2.1
    · omega
theorem Nu.nb {B : Nat → Nat} {n p d : Nat} (a : Nu B n p d) : ¬ Nb B n p := fun z => by
  rcases z with z | z
  · exact z (a.1 0 (by have := a.2.2.1; omega))
  · exact a.2.1 (z d (by have := a.2.2.2; omega))
theorem nv_lt {B : Nat → Nat} {n p : Nat} : ∀ d, (∀ j, j < d → Dg B n (p + j)) → nv B p d < 10 ^ d := by
  intro d
  induction d with
  | zero => intro _; exact Nat.zero_lt_one
  | succ d ih =>
    intro h
    have a := ih (fun j hj => h j (by omega))
    have b := h d (by omega)
    have c := b.2
    show 10 * nv B p d + (B (p + d) - 2147483696) < 10 ^ (d + 1)
    rw [Nat.pow_succ]
    omega
/-- a number from lo to hi stands at p, is v, and q is behind it; or there is none, and v is -1 -/
def Nr (B : Nat → Nat) (n lo hi p v q : Nat) : Prop := (∃ d, Nu B n p d ∧ v = 2147483648 + nv B p d ∧ lo ≤ v ∧ v ≤ hi ∧ q = sk B n (p + d)) ∨ (v = 2147483647 ∧ (Nb B n p ∨ ∃ d, Nu B n p d ∧ ¬ (lo ≤ 2147483648 + nv B p d ∧ 2147483648 + nv B p d ≤ hi)))
/-- answers -/
def Is (W : Prop) (r : Nat) : Prop := (r = 2147483649 ∧ W) ∨ (r = 2147483648 ∧ ¬ W)
def Tk (W : Prop) (B : Nat → Nat) (n p m r q : Nat) : Prop := (r = 2147483649 ∧ W ∧ q = sk B n (p + m)) ∨ (r = 2147483648 ∧ ¬ W ∧ q = p)
theorem Is.yes {W : Prop} {r : Nat} (h : Is W r) (e : r = 2147483649) : W := h.elim (fun z => z.2) (fun z => by omega)
theorem Is.no {W : Prop} {r : Nat} (h : Is W r) (e : r = 2147483648) : ¬ W := h.elim (fun z => by omega) (fun z => z.2)
theorem Is.mk1 {W : Prop} {r : Nat} (e : r = 2147483649) (w : W) : Is W r := Or.inl ⟨e, w⟩
theorem Is.mk0 {W : Prop} {r : Nat} (e : r = 2147483648) (w : ¬ W) : Is W r := Or.inr ⟨e, w⟩
theorem Tk.yes {W : Prop} {B : Nat → Nat} {n p m r q : Nat} (h : Tk W B n p m r q) (e : r = 2147483649) : W ∧ q = sk B n (p + m) := h.elim (fun z => z.2) (fun z => by omega)
theorem Tk.no {W : Prop} {B : Nat → Nat} {n p m r q : Nat} (h : Tk W B n p m r q) (e : r = 2147483648) : ¬ W ∧ q = p := h.elim (fun z => by omega) (fun z => z.2)
theorem Tk.mk1 {W : Prop} {B : Nat → Nat} {n p m r q a : Nat} (e : r = 2147483649) (w : W) (f : q = sk B n a) (g : a = p + m) : Tk W B n p m r q := Or.inl ⟨e, w, by rw [f, g]⟩
theorem Tk.mk0 {W : Prop} {B : Nat → Nat} {n p m r q : Nat} (e : r = 2147483648) (w : ¬ W) (f : q = p) : Tk W B n p m r q := Or.inr ⟨e, w, f⟩
def rs (r q : Nat) : Option Nat := if r = 2147483649 then some q else none
theorem rs1 {r q : Nat} (h : r = 2147483649) : rs r q = some q := if_pos h
theorem rs0 {r q : Nat} (h : r = 2147483648) : rs r q = none := if_neg (by omega)
/-! ===== the custom's text ===== -/
def Kd.part : Nat := 0
def Kd.atom : Nat := 1
def Kd.line : Nat := 2
def Kd.seq (t : Nat) : Nat := 10 + 2 * t
def Kd.lp (t : Nat) : Nat := 11 + 2 * t
def el : Nat → Nat
  | 0 => Kd.part
  | 1 => Kd.atom
  | _ => Kd.seq 1
/-- '+', 'and', 'or' -/
def Cw (B : Nat → Nat) (n t p : Nat) : Prop := match t with
  | 0 => Sg B n 2147483691 p
  | 1 => Wd B n 31 p
  | _ => Wd B n 15 p
def cw (t : Nat) : Nat := match t with
  | 0 => 1
  | 1 => 3
  | _ => 2
def six (i : Nat) : Prop := i = 2 ∨ i = 27 ∨ i = 5 ∨ i = 28 ∨ i = 29 ∨ i = 30
theorem six_lt {i : Nat} (h : six i) : i < 32 := by unfold six at h; omega
def An (B : Nat → Nat) (n p : Nat) : Prop := ¬ Wd B n 24 p ∧ ¬ Sg B n 2147483688 p ∧ ¬ Wd B n 25 p ∧ ¬ Wd B n 26 p
def G_R (B : Nat → Nat) (n : Nat) (R : Nat → Nat → Nat → Option Nat → Prop) (k : Nat) (l : Nat) (p : Nat) (r : Option Nat) : Prop :=
  (∃ d, k = Kd.part ∧ r = some (sk B n (p + d)) ∧ Nu B n p d) ∨
  (∃ i, k = Kd.part ∧ r = some (sk B n (p + iv_tl i)) ∧ six i ∧ Wd B n i p) ∨
  (k = Kd.part ∧ r = none ∧ Nb B n p ∧ (∀ i, six i → ¬ Wd B n i p)) ∨
  (∃ t, k = Kd.seq t ∧ r = none ∧ R (el t) l p none) ∨
  (∃ t q, k = Kd.seq t ∧ R (el t) l p (some q) ∧ R (Kd.lp t) l q r) ∨
  (∃ t, k = Kd.lp t ∧ r = some p ∧ ¬ Cw B n t p) ∨
  (∃ t, k = Kd.lp t ∧ r = none ∧ Cw B n t p ∧ R (el t) l (sk B n (p + cw t)) none) ∨
  (∃ t q, k = Kd.lp t ∧ Cw B n t p ∧ R (el t) l (sk B n (p + cw t)) (some q) ∧ R (Kd.lp t) l q r) ∨
  (k = Kd.atom ∧ r = none ∧ Wd B n 24 p ∧ 6 ≤ l) ∨
  (k = Kd.atom ∧ Wd B n 24 p ∧ l < 6 ∧ R Kd.atom (l + 1) (sk B n (p + 3)) r) ∨
  (k = Kd.atom ∧ r = none ∧ Sg B n 2147483688 p ∧ 6 ≤ l) ∨
  (k = Kd.atom ∧ r = none ∧ Sg B n 2147483688 p ∧ l < 6 ∧ R (Kd.seq 2) (l + 1) (sk B n (p + 1)) none) ∨
  (∃ q, k = Kd.atom ∧ r = none ∧ Sg B n 2147483688 p ∧ l < 6 ∧ R (Kd.seq 2) (l + 1) (sk B n (p + 1)) (some q) ∧ ¬ Sg B n 2147483689 q) ∨
  (∃ q, k = Kd.atom ∧ r = some (sk B n (q + 1)) ∧ Sg B n 2147483688 p ∧ l < 6 ∧ R (Kd.seq 2) (l + 1) (sk B n (p + 1)) (some q) ∧ Sg B n 2147483689 q) ∨
  (k = Kd.atom ∧ r = some (sk B n (p + 3)) ∧ Wd B n 25 p) ∨
  (k = Kd.atom ∧ r = some (sk B n (p + 4)) ∧ Wd B n 26 p) ∨
  (k = Kd.atom ∧ r = none ∧ An B n p ∧ R (Kd.seq 0) l p none) ∨
  (∃ q, k = Kd.atom ∧ r = none ∧ An B n p ∧ R (Kd.seq 0) l p (some q) ∧ ¬ Sg B n 2147483708 q ∧ ¬ Sg B n 2147483710 q) ∨
  (∃ q, k = Kd.atom ∧ An B n p ∧ R (Kd.seq 0) l p (some q) ∧ (Sg B n 2147483708 q ∨ Sg B n 2147483710 q) ∧ R (Kd.seq 0) l (sk B n (q + 1)) r) ∨
  (k = Kd.line ∧ r = none ∧ ¬ Wd B n 21 p ∧ ¬ Wd B n 22 p) ∨
  (∃ i, k = Kd.line ∧ r = some (sk B n (p + iv_tl i)) ∧ (i = 21 ∨ i = 22) ∧ Wd B n i p ∧ ¬ Wd B n 23 (sk B n (p + iv_tl i))) ∨
  (∃ i, k = Kd.line ∧ (i = 21 ∨ i = 22) ∧ Wd B n i p ∧ Wd B n 23 (sk B n (p + iv_tl i)) ∧ R (Kd.seq 2) 0 (sk B n (sk B n (p + iv_tl i) + 2)) r)
def G (B : Nat → Nat) (n : Nat) (k : Nat) (l : Nat) (p : Nat) (r : Option Nat) : Prop := ∀ R : Nat → Nat → Nat → Option Nat → Prop, (∀ k l p r, G_R B n R k l p r → R k l p r) → R k l p r
theorem G_R.mono {B : Nat → Nat} {n : Nat} {R S : Nat → Nat → Nat → Option Nat → Prop} (h : ∀ k l p r, R k l p r → S k l p r) {k : Nat} {l : Nat} {p : Nat} {r : Option Nat} (x : G_R B n R k l p r) : G_R B n S k l p r := by
  rcases x with ⟨d, e0, e1, a0⟩ | ⟨i, e0, e1, a0, a1⟩ | ⟨e0, e1, a0, a1⟩ | ⟨t, e0, e1, a0⟩ | ⟨t, q, e0, a0, a1⟩ | ⟨t, e0, e1, a0⟩ | ⟨t, e0, e1, a0, a1⟩ | ⟨t, q, e0, a0, a1, a2⟩ | ⟨e0, e1, a0, a1⟩ | ⟨e0, a0, a1, a2⟩ | ⟨e0, e1, a0, a1⟩ | ⟨e0, e1, a0, a1, a2⟩ | ⟨q, e0, e1, a0, a1, a2, a3⟩ | ⟨q, e0, e1, a0, a1, a2, a3⟩ | ⟨e0, e1, a0⟩ | ⟨e0, e1, a0⟩ | ⟨e0, e1, a0, a1⟩ | ⟨q, e0, e1, a0, a1, a2, a3⟩ | ⟨q, e0, a0, a1, a2, a3⟩ | ⟨e0, e1, a0, a1⟩ | ⟨i, e0, e1, a0, a1, a2⟩ | ⟨i, e0, a0, a1, a2, a3⟩
  · exact (Or.inl ⟨d, e0, e1, a0⟩)
  · exact (Or.inr (Or.inl ⟨i, e0, e1, a0, a1⟩))
  · exact (Or.inr (Or.inr (Or.inl ⟨e0, e1, a0, a1⟩)))
  · exact (Or.inr (Or.inr (Or.inr (Or.inl ⟨t, e0, e1, h _ _ _ _ a0⟩))))
  · exact (Or.inr (Or.inr (Or.inr (Or.inr (Or.inl ⟨t, q, e0, h _ _ _ _ a0, h _ _ _ _ a1⟩)))))
  · exact (Or.inr (Or.inr (Or.inr (Or.inr (Or.inr (Or.inl ⟨t, e0, e1, a0⟩))))))
  · exact (Or.inr (Or.inr (Or.inr (Or.inr (Or.inr (Or.inr (Or.inl ⟨t, e0, e1, a0, h _ _ _ _ a1⟩)))))))
  · exact (Or.inr (Or.inr (Or.inr (Or.inr (Or.inr (Or.inr (Or.inr (Or.inl ⟨t, q, e0, a0, h _ _ _ _ a1, h _ _ _ _ a2⟩))))))))
  · exact (Or.inr (Or.inr (Or.inr (Or.inr (Or.inr (Or.inr (Or.inr (Or.inr (Or.inl ⟨e0, e1, a0, a1⟩)))))))))
  · exact (Or.inr (Or.inr (Or.inr (Or.inr (Or.inr (Or.inr (Or.inr (Or.inr (Or.inr (Or.inl ⟨e0, a0, a1, h _ _ _ _ a2⟩))))))))))
  · exact (Or.inr (Or.inr (Or.inr (Or.inr (Or.inr (Or.inr (Or.inr (Or.inr (Or.inr (Or.inr (Or.inl ⟨e0, e1, a0, a1⟩)))))))))))
  · exact (Or.inr (Or.inr (Or.inr (Or.inr (Or.inr (Or.inr (Or.inr (Or.inr (Or.inr (Or.inr (Or.inr (Or.inl ⟨e0, e1, a0, a1, h _ _ _ _ a2⟩))))))))))))
  · exact (Or.inr (Or.inr (Or.inr (Or.inr (Or.inr (Or.inr (Or.inr (Or.inr (Or.inr (Or.inr (Or.inr (Or.inr (Or.inl ⟨q, e0, e1, a0, a1, h _ _ _ _ a2, a3⟩)))))))))))))
  · exact (Or.inr (Or.inr (Or.inr (Or.inr (Or.inr (Or.inr (Or.inr (Or.inr (Or.inr (Or.inr (Or.inr (Or.inr (Or.inr (Or.inl ⟨q, e0, e1, a0, a1, h _ _ _ _ a2, a3⟩))))))))))))))
  · exact (Or.inr (Or.inr (Or.inr (Or.inr (Or.inr (Or.inr (Or.inr (Or.inr (Or.inr (Or.inr (Or.inr (Or.inr (Or.inr (Or.inr (Or.inl ⟨e0, e1, a0⟩)))))))))))))))
  · exact (Or.inr (Or.inr (Or.inr (Or.inr (Or.inr (Or.inr (Or.inr (Or.inr (Or.inr (Or.inr (Or.inr (Or.inr (Or.inr (Or.inr (Or.inr (Or.inl ⟨e0, e1, a0⟩))))))))))))))))
  · exact (Or.inr (Or.inr (Or.inr (Or.inr (Or.inr (Or.inr (Or.inr (Or.inr (Or.inr (Or.inr (Or.inr (Or.inr (Or.inr (Or.inr (Or.inr (Or.inr (Or.inl ⟨e0, e1, a0, h _ _ _ _ a1⟩)))))))))))))))))
  · exact (Or.inr (Or.inr (Or.inr (Or.inr (Or.inr (Or.inr (Or.inr (Or.inr (Or.inr (Or.inr (Or.inr (Or.inr (Or.inr (Or.inr (Or.inr (Or.inr (Or.inr (Or.inl ⟨q, e0, e1, a0, h _ _ _ _ a1, a2, a3⟩))))))))))))))))))
  · exact (Or.inr (Or.inr (Or.inr (Or.inr (Or.inr (Or.inr (Or.inr (Or.inr (Or.inr (Or.inr (Or.inr (Or.inr (Or.inr (Or.inr (Or.inr (Or.inr (Or.inr (Or.inr (Or.inl ⟨q, e0, a0, h _ _ _ _ a1, a2, h _ _ _ _ a3⟩)))))))))))))))))))
  · exact (Or.inr (Or.inr (Or.inr (Or.inr (Or.inr (Or.inr (Or.inr (Or.inr (Or.inr (Or.inr (Or.inr (Or.inr (Or.inr (Or.inr (Or.inr (Or.inr (Or.inr (Or.inr (Or.inr (Or.inl ⟨e0, e1, a0, a1⟩))))))))))))))))))))
  · exact (Or.inr (Or.inr (Or.inr (Or.inr (Or.inr (Or.inr (Or.inr (Or.inr (Or.inr (Or.inr (Or.inr (Or.inr (Or.inr (Or.inr (Or.inr (Or.inr (Or.inr (Or.inr (Or.inr (Or.inr (Or.inl ⟨i, e0, e1, a0, a1, a2⟩)))))))))))))))))))))
  · exact (Or.inr (Or.inr (Or.inr (Or.inr (Or.inr (Or.inr (Or.inr (Or.inr (Or.inr (Or.inr (Or.inr (Or.inr (Or.inr (Or.inr (Or.inr (Or.inr (Or.inr (Or.inr (Or.inr (Or.inr (Or.inr ⟨i, e0, a0, a1, a2, h _ _ _ _ a3⟩)))))))))))))))))))))
theorem G.mk {B : Nat → Nat} {n : Nat} {k : Nat} {l : Nat} {p : Nat} {r : Option Nat} (x : G_R B n (G B n) k l p r) : G B n k l p r := fun R c => c _ _ _ _ (G_R.mono (fun _ _ _ _ z => z R c) x)
theorem G.inv {B : Nat → Nat} {n : Nat} {k : Nat} {l : Nat} {p : Nat} {r : Option Nat} (x : G B n k l p r) : G_R B n (G B n) k l p r := x (fun k l p r => G_R B n (G B n) k l p r) (fun _ _ _ _ z => G_R.mono (fun _ _ _ _ y => G.mk y) z)
theorem G.ind {B : Nat → Nat} {n : Nat} {C : Nat → Nat → Nat → Option Nat → Prop} (st : ∀ k l p r, G_R B n (fun k l p r => G B n k l p r ∧ C k l p r) k l p r → C k l p r) {k : Nat} {l : Nat} {p : Nat} {r : Option Nat} (x : G B n k l p r) : C k l p r :=
  (x (fun k l p r => G B n k l p r ∧ C k l p r) (fun _ _ _ _ z => ⟨G.mk (G_R.mono (fun _ _ _ _ y => y.1) z), st _ _ _ _ z⟩)).2
theorem G.pnum {B : Nat → Nat} {n : Nat} {d : Nat} {l : Nat} {p : Nat} (a0 : Nu B n p d) : G B n Kd.part l p (some (sk B n (p + d))) := G.mk (Or.inl ⟨d, rfl, rfl, a0⟩)
theorem G.pwd {B : Nat → Nat} {n : Nat} {i : Nat} {l : Nat} {p : Nat} (a0 : six i) (a1 : Wd B n i p) : G B n Kd.part l p (some (sk B n (p + iv_tl i))) := G.mk (Or.inr (Or.inl ⟨i, rfl, rfl, a0, a1⟩))
theorem G.pno {B : Nat → Nat} {n : Nat} {l : Nat} {p : Nat} (a0 : Nb B n p) (a1 : ∀ i, six i → ¬ Wd B n i p) : G B n Kd.part l p none := G.mk (Or.inr (Or.inr (Or.inl ⟨rfl, rfl, a0, a1⟩)))
theorem G.sno {B : Nat → Nat} {n : Nat} {t : Nat} {l : Nat} {p : Nat} (a0 : G B n (el t) l p none) : G B n (Kd.seq t) l p none := G.mk (Or.inr (Or.inr (Or.inr (Or.inl ⟨t, rfl, rfl, a0⟩))))
theorem G.sgo {B : Nat → Nat} {n : Nat} {t : Nat} {q : Nat} {l : Nat} {p : Nat} {r : Option Nat} (a0 : G B n (el t) l p (some q)) (a1 : G B n (Kd.lp t) l q r) : G B n (Kd.seq t) l p r := G.mk (Or.inr (Or.inr (Or.inr (Or.inr (Or.inl ⟨t, q, rfl, a0, a1⟩)))))
theorem G.lend {B : Nat → Nat} {n : Nat} {t : Nat} {l : Nat} {p : Nat} (a0 : ¬ Cw B n t p) : G B n (Kd.lp t) l p (some p) := G.mk (Or.inr (Or.inr (Or.inr (Or.inr (Or.inr (Or.inl ⟨t, rfl, rfl, a0⟩))))))
theorem G.lno {B : Nat → Nat} {n : Nat} {t : Nat} {l : Nat} {p : Nat} (a0 : Cw B n t p) (a1 : G B n (el t) l (sk B n (p + cw t)) none) : G B n (Kd.lp t) l p none := G.mk (Or.inr (Or.inr (Or.inr (Or.inr (Or.inr (Or.inr (Or.inl ⟨t, rfl, rfl, a0, a1⟩)))))))
theorem G.lgo {B : Nat → Nat} {n : Nat} {t : Nat} {q : Nat} {l : Nat} {p : Nat} {r : Option Nat} (a0 : Cw B n t p) (a1 : G B n (el t) l (sk B n (p + cw t)) (some q)) (a2 : G B n (Kd.lp t) l q r) : G B n (Kd.lp t) l p r := G.mk (Or.inr (Or.inr (Or.inr (Or.inr (Or.inr (Or.inr (Or.inr (Or.inl ⟨t, q, rfl, a0, a1, a2⟩))))))))
theorem G.not6 {B : Nat → Nat} {n : Nat} {l : Nat} {p : Nat} (a0 : Wd B n 24 p) (a1 : 6 ≤ l) : G B n Kd.atom l p none := G.mk (Or.inr (Or.inr (Or.inr (Or.inr (Or.inr (Or.inr (Or.inr (Or.inr (Or.inl ⟨rfl, rfl, a0, a1⟩)))))))))
theorem G.not {B : Nat → Nat} {n : Nat} {l : Nat} {p : Nat} {r : Option Nat} (a0 : Wd B n 24 p) (a1 : l < 6) (a2 : G B n Kd.atom (l + 1) (sk B n (p + 3)) r) : G B n Kd.atom l p r := G.mk (Or.inr (Or.inr (Or.inr (Or.inr (Or.inr (Or.inr (Or.inr (Or.inr (Or.inr (Or.inl ⟨rfl, a0, a1, a2⟩))))))))))
theorem G.par6 {B : Nat → Nat} {n : Nat} {l : Nat} {p : Nat} (a0 : Sg B n 2147483688 p) (a1 : 6 ≤ l) : G B n Kd.atom l p none := G.mk (Or.inr (Or.inr (Or.inr (Or.inr (Or.inr (Or.inr (Or.inr (Or.inr (Or.inr (Or.inr (Or.inl ⟨rfl, rfl, a0, a1⟩)))))))))))
theorem G.par0 {B : Nat → Nat} {n : Nat} {l : Nat} {p : Nat} (a0 : Sg B n 2147483688 p) (a1 : l < 6) (a2 : G B n (Kd.seq 2) (l + 1) (sk B n (p + 1)) none) : G B n Kd.atom l p none := G.mk (Or.inr (Or.inr (Or.inr (Or.inr (Or.inr (Or.inr (Or.inr (Or.inr (Or.inr (Or.inr (Or.inr (Or.inl ⟨rfl, rfl, a0, a1, a2⟩))))))))))))
theorem G.par1 {B : Nat → Nat} {n : Nat} {q : Nat} {l : Nat} {p : Nat} (a0 : Sg B n 2147483688 p) (a1 : l < 6) (a2 : G B n (Kd.seq 2) (l + 1) (sk B n (p + 1)) (some q)) (a3 : ¬ Sg B n 2147483689 q) : G B n Kd.atom l p none := G.mk (Or.inr (Or.inr (Or.inr (Or.inr (Or.inr (Or.inr (Or.inr (Or.inr (Or.inr (Or.inr (Or.inr (Or.inr (Or.inl ⟨q, rfl, rfl, a0, a1, a2, a3⟩)))))))))))))
theorem G.par2 {B : Nat → Nat} {n : Nat} {q : Nat} {l : Nat} {p : Nat} (a0 : Sg B n 2147483688 p) (a1 : l < 6) (a2 : G B n (Kd.seq 2) (l + 1) (sk B n (p + 1)) (some q)) (a3 : Sg B n 2147483689 q) : G B n Kd.atom l p (some (sk B n (q + 1))) := G.mk (Or.inr (Or.inr (Or.inr (Or.inr (Or.inr (Or.inr (Or.inr (Or.inr (Or.inr (Or.inr (Or.inr (Or.inr (Or.inr (Or.inl ⟨q, rfl, rfl, a0, a1, a2, a3⟩))))))))))))))
theorem G.own {B : Nat → Nat} {n : Nat} {l : Nat} {p : Nat} (a0 : Wd B n 25 p) : G B n Kd.atom l p (some (sk B n (p + 3))) := G.mk (Or.inr (Or.inr (Or.inr (Or.inr (Or.inr (Or.inr (Or.inr (Or.inr (Or.inr (Or.inr (Or.inr (Or.inr (Or.inr (Or.inr (Or.inl ⟨rfl, rfl, a0⟩)))))))))))))))
theorem G.mine {B : Nat → Nat} {n : Nat} {l : Nat} {p : Nat} (a0 : Wd B n 26 p) : G B n Kd.atom l p (some (sk B n (p + 4))) := G.mk (Or.inr (Or.inr (Or.inr (Or.inr (Or.inr (Or.inr (Or.inr (Or.inr (Or.inr (Or.inr (Or.inr (Or.inr (Or.inr (Or.inr (Or.inr (Or.inl ⟨rfl, rfl, a0⟩))))))))))))))))
theorem G.c0 {B : Nat → Nat} {n : Nat} {l : Nat} {p : Nat} (a0 : An B n p) (a1 : G B n (Kd.seq 0) l p none) : G B n Kd.atom l p none := G.mk (Or.inr (Or.inr (Or.inr (Or.inr (Or.inr (Or.inr (Or.inr (Or.inr (Or.inr (Or.inr (Or.inr (Or.inr (Or.inr (Or.inr (Or.inr (Or.inr (Or.inl ⟨rfl, rfl, a0, a1⟩)))))))))))))))))
theorem G.c1 {B : Nat → Nat} {n : Nat} {q : Nat} {l : Nat} {p : Nat} (a0 : An B n p) (a1 : G B n (Kd.seq 0) l p (some q)) (a2 : ¬ Sg B n 2147483708 q) (a3 : ¬ Sg B n 2147483710 q) : G B n Kd.atom l p none := G.mk (Or.inr (Or.inr (Or.inr (Or.inr (Or.inr (Or.inr (Or.inr (Or.inr (Or.inr (Or.inr (Or.inr (Or.inr (Or.inr (Or.inr (Or.inr (Or.inr (Or.inr (Or.inl ⟨q, rfl, rfl, a0, a1, a2, a3⟩))))))))))))))))))
theorem G.c2 {B : Nat → Nat} {n : Nat} {q : Nat} {l : Nat} {p : Nat} {r : Option Nat} (a0 : An B n p) (a1 : G B n (Kd.seq 0) l p (some q)) (a2 : Sg B n 2147483708 q ∨ Sg B n 2147483710 q) (a3 : G B n (Kd.seq 0) l (sk B n (q + 1)) r) : G B n Kd.atom l p r := G.mk (Or.inr (Or.inr (Or.inr (Or.inr (Or.inr (Or.inr (Or.inr (Or.inr (Or.inr (Or.inr (Or.inr (Or.inr (Or.inr (Or.inr (Or.inr (Or.inr (Or.inr (Or.inr (Or.inl ⟨q, rfl, a0, a1, a2, a3⟩)))))))))))))))))))
theorem G.lnno {B : Nat → Nat} {n : Nat} {l : Nat} {p : Nat} (a0 : ¬ Wd B n 21 p) (a1 : ¬ Wd B n 22 p) : G B n Kd.line l p none := G.mk (Or.inr (Or.inr (Or.inr (Or.inr (Or.inr (Or.inr (Or.inr (Or.inr (Or.inr (Or.inr (Or.inr (Or.inr (Or.inr (Or.inr (Or.inr (Or.inr (Or.inr (Or.inr (Or.inr (Or.inl ⟨rfl, rfl, a0, a1⟩))))))))))))))))))))
theorem G.lnend {B : Nat → Nat} {n : Nat} {i : Nat} {l : Nat} {p : Nat} (a0 : i = 21 ∨ i = 22) (a1 : Wd B n i p) (a2 : ¬ Wd B n 23 (sk B n (p + iv_tl i))) : G B n Kd.line l p (some (sk B n (p + iv_tl i))) := G.mk (Or.inr (Or.inr (Or.inr (Or.inr (Or.inr (Or.inr (Or.inr (Or.inr (Or.inr (Or.inr (Or.inr (Or.inr (Or.inr (Or.inr (Or.inr (Or.inr (Or.inr (Or.inr (Or.inr (Or.inr (Or.inl ⟨i, rfl, rfl, a0, a1, a2⟩)))))))))))))))))))))
theorem G.lnif {B : Nat → Nat} {n : Nat} {i : Nat} {l : Nat} {p : Nat} {r : Option Nat} (a0 : i = 21 ∨ i = 22) (a1 : Wd B n i p) (a2 : Wd B n 23 (sk B n (p + iv_tl i))) (a3 : G B n (Kd.seq 2) 0 (sk B n (sk B n (p + iv_tl i) + 2)) r) : G B n Kd.line l p r := G.mk (Or.inr (Or.inr (Or.inr (Or.inr (Or.inr (Or.inr (Or.inr (Or.inr (Or.inr (Or.inr (Or.inr (Or.inr (Or.inr (Or.inr (Or.inr (Or.inr (Or.inr (Or.inr (Or.inr (Or.inr (Or.inr ⟨i, rfl, a0, a1, a2, a3⟩)))))))))))))))))))))
/-- the lines: c is how many were read -/
def Ls_R (B : Nat → Nat) (n : Nat) (R : Nat → Nat → Option Nat → Prop) (c : Nat) (p : Nat) (r : Option Nat) : Prop :=
  (r = none ∧ 2147483658 ≤ c) ∨
  (r = none ∧ c < 2147483658 ∧ G B n Kd.line 0 p none) ∨
  (∃ q, r = some (c + 1) ∧ c < 2147483658 ∧ G B n Kd.line 0 p (some q) ∧ n ≤ q) ∨
  (∃ q, r = none ∧ c < 2147483658 ∧ G B n Kd.line 0 p (some q) ∧ q < n ∧ ¬ Sg B n 2147483707 q) ∨
  (∃ q, c < 2147483658 ∧ G B n Kd.line 0 p (some q) ∧ Sg B n 2147483707 q ∧ R (c + 1) (sk B n (q + 1)) r)
def Ls (B : Nat → Nat) (n : Nat) (c : Nat) (p : Nat) (r : Option Nat) : Prop := ∀ R : Nat → Nat → Option Nat → Prop, (∀ c p r, Ls_R B n R c p r → R c p r) → R c p r
theorem Ls_R.mono {B : Nat → Nat} {n : Nat} {R S : Nat → Nat → Option Nat → Prop} (h : ∀ c p r, R c p r → S c p r) {c : Nat} {p : Nat} {r : Option Nat} (x : Ls_R B n R c p r) : Ls_R B n S c p r := by
  rcases x with ⟨e0, a0⟩ | ⟨e0, a0, a1⟩ | ⟨q, e0, a0, a1, a2⟩ | ⟨q, e0, a0, a1, a2, a3⟩ | ⟨q, a0, a1, a2, a3⟩
  · exact (Or.inl ⟨e0, a0⟩)
  · exact (Or.inr (Or.inl ⟨e0, a0, a1⟩))
  · exact (Or.inr (Or.inr (Or.inl ⟨q, e0, a0, a1, a2⟩)))
  · exact (Or.inr (Or.inr (Or.inr (Or.inl ⟨q, e0, a0, a1, a2, a3⟩))))
  · exact (Or.inr (Or.inr (Or.inr (Or.inr ⟨q, a0, a1, a2, h _ _ _ a3⟩))))
theorem Ls.mk {B : Nat → Nat} {n : Nat} {c : Nat} {p : Nat} {r : Option Nat} (x : Ls_R B n (Ls B n) c p r) : Ls B n c p r := fun R c => c _ _ _ (Ls_R.mono (fun _ _ _ z => z R c) x)
theorem Ls.inv {B : Nat → Nat} {n : Nat} {c : Nat} {p : Nat} {r : Option Nat} (x : Ls B n c p r) : Ls_R B n (Ls B n) c p r := x (fun c p r => Ls_R B n (Ls B n) c p r) (fun _ _ _ z => Ls_R.mono (fun _ _ _ y => Ls.mk y) z)
theorem Ls.ind {B : Nat → Nat} {n : Nat} {C : Nat → Nat → Option Nat → Prop} (st : ∀ c p r, Ls_R B n (fun c p r => Ls B n c p r ∧ C c p r) c p r → C c p r) {c : Nat} {p : Nat} {r : Option Nat} (x : Ls B n c p r) : C c p r :=
  (x (fun c p r => Ls B n c p r ∧ C c p r) (fun _ _ _ z => ⟨Ls.mk (Ls_R.mono (fun _ _ _ y => y.1) z), st _ _ _ z⟩)).2
theorem Ls.full {B : Nat → Nat} {n : Nat} {c : Nat} {p : Nat} (a0 : 2147483658 ≤ c) : Ls B n c p none := Ls.mk (Or.inl ⟨rfl, a0⟩)
theorem Ls.no {B : Nat → Nat} {n : Nat} {c : Nat} {p : Nat} (a0 : c < 2147483658) (a1 : G B n Kd.line 0 p none) : Ls B n c p none := Ls.mk (Or.inr (Or.inl ⟨rfl, a0, a1⟩))
theorem Ls.fin {B : Nat → Nat} {n : Nat} {q : Nat} {c : Nat} {p : Nat} (a0 : c < 2147483658) (a1 : G B n Kd.line 0 p (some q)) (a2 : n ≤ q) : Ls B n c p (some (c + 1)) := Ls.mk (Or.inr (Or.inr (Or.inl ⟨q, rfl, a0, a1, a2⟩)))
theorem Ls.bad {B : Nat → Nat} {n : Nat} {q : Nat} {c : Nat} {p : Nat} (a0 : c < 2147483658) (a1 : G B n Kd.line 0 p (some q)) (a2 : q < n) (a3 : ¬ Sg B n 2147483707 q) : Ls B n c p none := Ls.mk (Or.inr (Or.inr (Or.inr (Or.inl ⟨q, rfl, a0, a1, a2, a3⟩))))
theorem Ls.go {B : Nat → Nat} {n : Nat} {q : Nat} {c : Nat} {p : Nat} {r : Option Nat} (a0 : c < 2147483658) (a1 : G B n Kd.line 0 p (some q)) (a2 : Sg B n 2147483707 q) (a3 : Ls B n (c + 1) (sk B n (q + 1)) r) : Ls B n c p r := Ls.mk (Or.inr (Or.inr (Or.inr (Or.inr ⟨q, a0, a1, a2, a3⟩))))
def Cu (B : Nat → Nat) (n : Nat) (r : Option Nat) : Prop := (n ≤ sk B n 2147483648 ∧ r = some 2147483648) ∨ (sk B n 2147483648 < n ∧ Ls B n 2147483648 (sk B n 2147483648) r)
/-! ===== one text is read in one way alone ===== -/
theorem wd_c24 {B : Nat → Nat} {n p : Nat} (a : Wd B n 24 p) : p < n ∧ B p = 2147483758 := ⟨by have x := a.1; have y : iv_tl 24 = 3 := (by decide); omega, a.fst (by decide)⟩
theorem wd_c25 {B : Nat → Nat} {n p : Nat} (a : Wd B n 25 p) : p < n ∧ B p = 2147483759 := ⟨by have x := a.1; have y : iv_tl 25 = 3 := (by decide); omega, a.fst (by decide)⟩
theorem wd_c26 {B : Nat → Nat} {n p : Nat} (a : Wd B n 26 p) : p < n ∧ B p = 2147483757 := ⟨by have x := a.1; have y : iv_tl 26 = 4 := (by decide); omega, a.fst (by decide)⟩
theorem wd_c21 {B : Nat → Nat} {n p : Nat} (a : Wd B n 21 p) : B p = 2147483762 := a.fst (by decide)
theorem wd_c22 {B : Nat → Nat} {n p : Nat} (a : Wd B n 22 p) : B p = 2147483751 := a.fst (by decide)
theorem wd_dg {B : Nat → Nat} {n i p : Nat} (hi : i < 32) (h : 0 < iv_tl i) (a : Wd B n i p) : ¬ Dg B n p := fun z => by
  have b := a.ltr hi h
  rw [Nat.add_zero] at b
  have := b.2
  have := z.2
  omega
theorem six_pos {i : Nat} (h : six i) : 0 < iv_tl i := by
  rcases h with rfl | rfl | rfl | rfl | rfl | rfl <;> decide
theorem wd_ln {B : Nat → Nat} {n p i j : Nat} (hi : i = 21 ∨ i = 22) (hj : j = 21 ∨ j = 22) (a : Wd B n i p) (b : Wd B n j p) : i = j := by
  rcases hi with rfl | rfl <;> rcases hj with rfl | rfl
  · rfl
  · have := wd_c21 a; have := wd_c22 b; omega
  · have := wd_c22 a; have := wd_c21 b; omega
  · rfl
theorem Nu.d0 {B : Nat → Nat} {n p d : Nat} (a : Nu B n p d) : Dg B n p := a.1 0 (by have := a.2.2.1; omega)
/-- which of the atoms' beginnings stands here -/
def Ak (B : Nat → Nat) (n p k : Nat) : Prop := (k = 0 ∧ Wd B n 24 p) ∨ (k = 1 ∧ Sg B n 2147483688 p) ∨ (k = 2 ∧ Wd B n 25 p) ∨ (k = 3 ∧ Wd B n 26 p) ∨ (k = 4 ∧ An B n p)
theorem Ak.same {B : Nat → Nat} {n p k m : Nat} (a : Ak B n p k) (b : Ak B n p m) : k = m := by
  rcases a with ⟨e, a⟩ | ⟨e, a⟩ | ⟨e, a⟩ | ⟨e, a⟩ | ⟨e, a⟩ <;> rcases b with ⟨f, b⟩ | ⟨f, b⟩ | ⟨f, b⟩ | ⟨f, b⟩ | ⟨f, b⟩ <;>
    first
    | (rw [e, f]; done)
    | (exfalso; have x := wd_c24 a; have y := b.2; omega)
    | (exfalso; have x := wd_c24 b; have y := a.2; omega)
    | (exfalso; have x := wd_c25 a; have y := b.2; omega)
    | (exfalso; have x := wd_c25 b; have y := a.2; omega)
    | (exfalso; have x := wd_c26 a; have y := b.2; omega)
    | (exfalso; have x := wd_c26 b; have y := a.2; omega)
    | (exfalso; have x := wd_c24 a; have y := wd_c25 b; omega)
    | (exfalso; have x := wd_c24 b; have y := wd_c25 a; omega)
    | (exfalso; have x := wd_c24 a; have y := wd_c26 b; omega)
    | (exfalso; have x := wd_c24 b; have y := wd_c26 a; omega)
    | (exfalso; have x := wd_c25 a; have y := wd_c26 b; omega)
    | (exfalso; have x := wd_c25 b; have y := wd_c26 a; omega)
    | exact absurd a b.1
    | exact absurd a b.2.1
    | exact absurd a b.2.2.1
    | exact absurd a b.2.2.2
    | exact absurd b a.1
    | exact absurd b a.2.1
    | exact absurd b a.2.2.1
    | exact absurd b a.2.2.2
theorem G.inv_part {B : Nat → Nat} {n l p : Nat} {r : Option Nat} (b : G B n Kd.part l p r) : (∃ d, r = some (sk B n (p + d)) ∧ Nu B n p d) ∨ (∃ i, r = some (sk B n (p + iv_tl i)) ∧ six i ∧ Wd B n i p) ∨ (r = none ∧ Nb B n p ∧ (∀ i, six i → ¬ Wd B n i p)) := by
  rcases b.inv with ⟨d, e0, e1, a0⟩ | ⟨i, e0, e1, a0, a1⟩ | ⟨e0, e1, a0, a1⟩ | ⟨t, e0, e1, a0⟩ | ⟨t, q, e0, a0, a1⟩ | ⟨t, e0, e1, a0⟩ | ⟨t, e0, e1, a0, a1⟩ | ⟨t, q, e0, a0, a1, a2⟩ | ⟨e0, e1, a0, a1⟩ | ⟨e0, a0, a1, a2⟩ | ⟨e0, e1, a0, a1⟩ | ⟨e0, e1, a0, a1, a2⟩ | ⟨q, e0, e1, a0, a1, a2, a3⟩ | ⟨q, e0, e1, a0, a1, a2, a3⟩ | ⟨e0, e1, a0⟩ | ⟨e0, e1, a0⟩ | ⟨e0, e1, a0, a1⟩ | ⟨q, e0, e1, a0, a1, a2, a3⟩ | ⟨q, e0, a0, a1, a2, a3⟩ | ⟨e0, e1, a0, a1⟩ | ⟨i, e0, e1, a0, a1, a2⟩ | ⟨i, e0, a0, a1, a2, a3⟩
  · exact Or.inl ⟨d, e1, a0⟩
  · exact Or.inr (Or.inl ⟨i, e1, a0, a1⟩)
  · exact Or.inr (Or.inr (⟨e1, a0, a1⟩))
  · exact absurd e0 (by show ¬ (0 = 10 + 2 * t); omega)
  · exact absurd e0 (by show ¬ (0 = 10 + 2 * t); omega)
  · exact absurd e0 (by show ¬ (0 = 11 + 2 * t); omega)
  · exact absurd e0 (by show ¬ (0 = 11 + 2 * t); omega)
  · exact absurd e0 (by show ¬ (0 = 11 + 2 * t); omega)
  · exact absurd e0 (by show ¬ (0 = 1); omega)
  · exact absurd e0 (by show ¬ (0 = 1); omega)
  · exact absurd e0 (by show ¬ (0 = 1); omega)
  · exact absurd e0 (by show ¬ (0 = 1); omega)
  · exact absurd e0 (by show ¬ (0 = 1); omega)
  · exact absurd e0 (by show ¬ (0 = 1); omega)
  · exact absurd e0 (by show ¬ (0 = 1); omega)
  · exact absurd e0 (by show ¬ (0 = 1); omega)
  · exact absurd e0 (by show ¬ (0 = 1); omega)
  · exact absurd e0 (by show ¬ (0 = 1); omega)
  · exact absurd e0 (by show ¬ (0 = 1); omega)
  · exact absurd e0 (by show ¬ (0 = 2); omega)
  · exact absurd e0 (by show ¬ (0 = 2); omega)
  · exact absurd e0 (by show ¬ (0 = 2); omega)
theorem G.inv_seq {B : Nat → Nat} {n s l p : Nat} {r : Option Nat} (b : G B n (Kd.seq s) l p r) : (r = none ∧ G B n (el s) l p none) ∨ (∃ q, G B n (el s) l p (some q) ∧ G B n (Kd.lp s) l q r) := by
  rcases b.inv with ⟨d, e0, e1, a0⟩ | ⟨i, e0, e1, a0, a1⟩ | ⟨e0, e1, a0, a1⟩ | ⟨t, e0, e1, a0⟩ | ⟨t, q, e0, a0, a1⟩ | ⟨t, e0, e1, a0⟩ | ⟨t, e0, e1, a0, a1⟩ | ⟨t, q, e0, a0, a1, a2⟩ | ⟨e0, e1, a0, a1⟩ | ⟨e0, a0, a1, a2⟩ | ⟨e0, e1, a0, a1⟩ | ⟨e0, e1, a0, a1, a2⟩ | ⟨q, e0, e1, a0, a1, a2, a3⟩ | ⟨q, e0, e1, a0, a1, a2, a3⟩ | ⟨e0, e1, a0⟩ | ⟨e0, e1, a0⟩ | ⟨e0, e1, a0, a1⟩ | ⟨q, e0, e1, a0, a1, a2, a3⟩ | ⟨q, e0, a0, a1, a2, a3⟩ | ⟨e0, e1, a0, a1⟩ | ⟨i, e0, e1, a0, a1, a2⟩ | ⟨i, e0, a0, a1, a2, a3⟩
  · exact absurd e0 (by show ¬ (10 + 2 * s = 0); omega)
  · exact absurd e0 (by show ¬ (10 + 2 * s = 0); omega)
  · exact absurd e0 (by show ¬ (10 + 2 * s = 0); omega)
  · have z : t = s := by have y : 10 + 2 * s = 10 + 2 * t := e0; omega
    subst z
    exact Or.inl ⟨e1, a0⟩
  · have z : t = s := by have y : 10 + 2 * s = 10 + 2 * t := e0; omega
    subst z
    exact Or.inr (⟨q, a0, a1⟩)
  · exact absurd e0 (by show ¬ (10 + 2 * s = 11 + 2 * t); omega)
  · exact absurd e0 (by show ¬ (10 + 2 * s = 11 + 2 * t); omega)
  · exact absurd e0 (by show ¬ (10 + 2 * s = 11 + 2 * t); omega)
  · exact absurd e0 (by show ¬ (10 + 2 * s = 1); omega)
  · exact absurd e0 (by show ¬ (10 + 2 * s = 1); omega)
  · exact absurd e0 (by show ¬ (10 + 2 * s = 1); omega)
  · exact absurd e0 (by show ¬ (10 + 2 * s = 1); omega)
  · exact absurd e0 (by show ¬ (10 + 2 * s = 1); omega)
  · exact absurd e0 (by show ¬ (10 + 2 * s = 1); omega)
  · exact absurd e0 (by show ¬ (10 + 2 * s = 1); omega)
  · exact absurd e0 (by show ¬ (10 + 2 * s = 1); omega)
  · exact absurd e0 (by show ¬ (10 + 2 * s = 1); omega)
  · exact absurd e0 (by show ¬ (10 + 2 * s = 1); omega)
  · exact absurd e0 (by show ¬ (10 + 2 * s = 1); omega)
  · exact absurd e0 (by show ¬ (10 + 2 * s = 2); omega)
  · exact absurd e0 (by show ¬ (10 + 2 * s = 2); omega)
  · exact absurd e0 (by show ¬ (10 + 2 * s = 2); omega)
theorem G.inv_lp {B : Nat → Nat} {n s l p : Nat} {r : Option Nat} (b : G B n (Kd.lp s) l p r) : (r = some p ∧ ¬ Cw B n s p) ∨ (r = none ∧ Cw B n s p ∧ G B n (el s) l (sk B n (p + cw s)) none) ∨ (∃ q, Cw B n s p ∧ G B n (el s) l (sk B n (p + cw s)) (some q) ∧ G B n (Kd.lp s) l q r) := by
  rcases b.inv with ⟨d, e0, e1, a0⟩ | ⟨i, e0, e1, a0, a1⟩ | ⟨e0, e1, a0, a1⟩ | ⟨t, e0, e1, a0⟩ | ⟨t, q, e0, a0, a1⟩ | ⟨t, e0, e1, a0⟩ | ⟨t, e0, e1, a0, a1⟩ | ⟨t, q, e0, a0, a1, a2⟩ | ⟨e0, e1, a0, a1⟩ | ⟨e0, a0, a1, a2⟩ | ⟨e0, e1, a0, a1⟩ | ⟨e0, e1, a0, a1, a2⟩ | ⟨q, e0, e1, a0, a1, a2, a3⟩ | ⟨q, e0, e1, a0, a1, a2, a3⟩ | ⟨e0, e1, a0⟩ | ⟨e0, e1, a0⟩ | ⟨e0, e1, a0, a1⟩ | ⟨q, e0, e1, a0, a1, a2, a3⟩ | ⟨q, e0, a0, a1, a2, a3⟩ | ⟨e0, e1, a0, a1⟩ | ⟨i, e0, e1, a0, a1, a2⟩ | ⟨i, e0, a0, a1, a2, a3⟩
  · exact absurd e0 (by show ¬ (11 + 2 * s = 0); omega)
  · exact absurd e0 (by show ¬ (11 + 2 * s = 0); omega)
  · exact absurd e0 (by show ¬ (11 + 2 * s = 0); omega)
  · exact absurd e0 (by show ¬ (11 + 2 * s = 10 + 2 * t); omega)
  · exact absurd e0 (by show ¬ (11 + 2 * s = 10 + 2 * t); omega)
  · have z : t = s := by have y : 11 + 2 * s = 11 + 2 * t := e0; omega
    subst z
    exact Or.inl ⟨e1, a0⟩
  · have z : t = s := by have y : 11 + 2 * s = 11 + 2 * t := e0; omega
    subst z
    exact Or.inr (Or.inl ⟨e1, a0, a1⟩)
  · have z : t = s := by have y : 11 + 2 * s = 11 + 2 * t := e0; omega
    subst z
    exact Or.inr (Or.inr (⟨q, a0, a1, a2⟩))
  · exact absurd e0 (by show ¬ (11 + 2 * s = 1); omega)
  · exact absurd e0 (by show ¬ (11 + 2 * s = 1); omega)
  · exact absurd e0 (by show ¬ (11 + 2 * s = 1); omega)
  · exact absurd e0 (by show ¬ (11 + 2 * s = 1); omega)
  · exact absurd e0 (by show ¬ (11 + 2 * s = 1); omega)
  · exact absurd e0 (by show ¬ (11 + 2 * s = 1); omega)
  · exact absurd e0 (by show ¬ (11 + 2 * s = 1); omega)
  · exact absurd e0 (by show ¬ (11 + 2 * s = 1); omega)
  · exact absurd e0 (by show ¬ (11 + 2 * s = 1); omega)
  · exact absurd e0 (by show ¬ (11 + 2 * s = 1); omega)
  · exact absurd e0 (by show ¬ (11 + 2 * s = 1); omega)
  · exact absurd e0 (by show ¬ (11 + 2 * s = 2); omega)
  · exact absurd e0 (by show ¬ (11 + 2 * s = 2); omega)
  · exact absurd e0 (by show ¬ (11 + 2 * s = 2); omega)
theorem G.inv_atom {B : Nat → Nat} {n l p : Nat} {r : Option Nat} (b : G B n Kd.atom l p r) : (r = none ∧ Wd B n 24 p ∧ 6 ≤ l) ∨ (Wd B n 24 p ∧ l < 6 ∧ G B n Kd.atom (l + 1) (sk B n (p + 3)) r) ∨ (r = none ∧ Sg B n 2147483688 p ∧ 6 ≤ l) ∨ (r = none ∧ Sg B n 2147483688 p ∧ l < 6 ∧ G B n (Kd.seq 2) (l + 1) (sk B n (p + 1)) none) ∨ (∃ q, r = none ∧ Sg B n 2147483688 p ∧ l < 6 ∧ G B n (Kd.seq 2) (l + 1) (sk B n (p + 1)) (some q) ∧ ¬ Sg B n 2147483689 q) ∨ (∃ q, r = some (sk B n (q + 1)) ∧ Sg B n 2147483688 p ∧ l < 6 ∧ G B n (Kd.seq 2) (l + 1) (sk B n (p + 1)) (some q) ∧ Sg B n 2147483689 q) ∨ (r = some (sk B n (p + 3)) ∧ Wd B n 25 p) ∨ (r = some (sk B n (p + 4)) ∧ Wd B n 26 p) ∨ (r = none ∧ An B n p ∧ G B n (Kd.seq 0) l p none) ∨ (∃ q, r = none ∧ An B n p ∧ G B n (Kd.seq 0) l p (some q) ∧ ¬ Sg B n 2147483708 q ∧ ¬ Sg B n 2147483710 q) ∨ (∃ q, An B n p ∧ G B n (Kd.seq 0) l p (some q) ∧ (Sg B n 2147483708 q ∨ Sg B n 2147483710 q) ∧ G B n (Kd.seq 0) l (sk B n (q + 1)) r) := by
  rcases b.inv with ⟨d, e0, e1, a0⟩ | ⟨i, e0, e1, a0, a1⟩ | ⟨e0, e1, a0, a1⟩ | ⟨t, e0, e1, a0⟩ | ⟨t, q, e0, a0, a1⟩ | ⟨t, e0, e1, a0⟩ | ⟨t, e0, e1, a0, a1⟩ | ⟨t, q, e0, a0, a1, a2⟩ | ⟨e0, e1, a0, a1⟩ | ⟨e0, a0, a1, a2⟩ | ⟨e0, e1, a0, a1⟩ | ⟨e0, e1, a0, a1, a2⟩ | ⟨q, e0, e1, a0, a1, a2, a3⟩ | ⟨q, e0, e1, a0, a1, a2, a3⟩ | ⟨e0, e1, a0⟩ | ⟨e0, e1, a0⟩ | ⟨e0, e1, a0, a1⟩ | ⟨q, e0, e1, a0, a1, a2, a3⟩ | ⟨q, e0, a0, a1, a2, a3⟩ | ⟨e0, e1, a0, a1⟩ | ⟨i, e0, e1, a0, a1, a2⟩ | ⟨i, e0, a0, a1, a2, a3⟩
  · exact absurd e0 (by show ¬ (1 = 0); omega)
  · exact absurd e0 (by show ¬ (1 = 0); omega)
  · exact absurd e0 (by show ¬ (1 = 0); omega)
  · exact absurd e0 (by show ¬ (1 = 10 + 2 * t); omega)
  · exact absurd e0 (by show ¬ (1 = 10 + 2 * t); omega)
  · exact absurd e0 (by show ¬ (1 = 11 + 2 * t); omega)
  · exact absurd e0 (by show ¬ (1 = 11 + 2 * t); omega)
  · exact absurd e0 (by show ¬ (1 = 11 + 2 * t); omega)
  · exact Or.inl ⟨e1, a0, a1⟩
  · exact Or.inr (Or.inl ⟨a0, a1, a2⟩)
  · exact Or.inr (Or.inr (Or.inl ⟨e1, a0, a1⟩))
  · exact Or.inr (Or.inr (Or.inr (Or.inl ⟨e1, a0, a1, a2⟩)))
  · exact Or.inr (Or.inr (Or.inr (Or.inr (Or.inl ⟨q, e1, a0, a1, a2, a3⟩))))
  · exact Or.inr (Or.inr (Or.inr (Or.inr (Or.inr (Or.inl ⟨q, e1, a0, a1, a2, a3⟩)))))
  · exact Or.inr (Or.inr (Or.inr (Or.inr (Or.inr (Or.inr (Or.inl ⟨e1, a0⟩))))))
  · exact Or.inr (Or.inr (Or.inr (Or.inr (Or.inr (Or.inr (Or.inr (Or.inl ⟨e1, a0⟩)))))))
  · exact Or.inr (Or.inr (Or.inr (Or.inr (Or.inr (Or.inr (Or.inr (Or.inr (Or.inl ⟨e1, a0, a1⟩))))))))
  · exact Or.inr (Or.inr (Or.inr (Or.inr (Or.inr (Or.inr (Or.inr (Or.inr (Or.inr (Or.inl ⟨q, e1, a0, a1, a2, a3⟩)))))))))
  · exact Or.inr (Or.inr (Or.inr (Or.inr (Or.inr (Or.inr (Or.inr (Or.inr (Or.inr (Or.inr (⟨q, a0, a1, a2, a3⟩))))))))))
  · exact absurd e0 (by show ¬ (1 = 2); omega)
  · exact absurd e0 (by show ¬ (1 = 2); omega)
  · exact absurd e0 (by show ¬ (1 = 2); omega)
theorem G.inv_line {B : Nat → Nat} {n l p : Nat} {r : Option Nat} (b : G B n Kd.line l p r) : (r = none ∧ ¬ Wd B n 21 p ∧ ¬ Wd B n 22 p) ∨ (∃ i, r = some (sk B n (p + iv_tl i)) ∧ (i = 21 ∨ i = 22) ∧ Wd B n i p ∧ ¬ Wd B n 23 (sk B n (p + iv_tl i))) ∨ (∃ i, (i = 21 ∨ i = 22) ∧ Wd B n i p ∧ Wd B n 23 (sk B n (p + iv_tl i)) ∧ G B n (Kd.seq 2) 0 (sk B n (sk B n (p + iv_tl i) + 2)) r) := by
  rcases b.inv with ⟨d, e0, e1, a0⟩ | ⟨i, e0, e1, a0, a1⟩ | ⟨e0, e1, a0, a1⟩ | ⟨t, e0, e1, a0⟩ | ⟨t, q, e0, a0, a1⟩ | ⟨t, e0, e1, a0⟩ | ⟨t, e0, e1, a0, a1⟩ | ⟨t, q, e0, a0, a1, a2⟩ | ⟨e0, e1, a0, a1⟩ | ⟨e0, a0, a1, a2⟩ | ⟨e0, e1, a0, a1⟩ | ⟨e0, e1, a0, a1, a2⟩ | ⟨q, e0, e1, a0, a1, a2, a3⟩ | ⟨q, e0, e1, a0, a1, a2, a3⟩ | ⟨e0, e1, a0⟩ | ⟨e0, e1, a0⟩ | ⟨e0, e1, a0, a1⟩ | ⟨q, e0, e1, a0, a1, a2, a3⟩ | ⟨q, e0, a0, a1, a2, a3⟩ | ⟨e0, e1, a0, a1⟩ | ⟨i, e0, e1, a0, a1, a2⟩ | ⟨i, e0, a0, a1, a2, a3⟩
  · exact absurd e0 (by show ¬ (2 = 0); omega)
  · exact absurd e0 (by show ¬ (2 = 0); omega)
  · exact absurd e0 (by show ¬ (2 = 0); omega)
  · exact absurd e0 (by show ¬ (2 = 10 + 2 * t); omega)
  · exact absurd e0 (by show ¬ (2 = 10 + 2 * t); omega)
  · exact absurd e0 (by show ¬ (2 = 11 + 2 * t); omega)
  · exact absurd e0 (by show ¬ (2 = 11 + 2 * t); omega)
  · exact absurd e0 (by show ¬ (2 = 11 + 2 * t); omega)
  · exact absurd e0 (by show ¬ (2 = 1); omega)
  · exact absurd e0 (by show ¬ (2 = 1); omega)
  · exact absurd e0 (by show ¬ (2 = 1); omega)
  · exact absurd e0 (by show ¬ (2 = 1); omega)
  · exact absurd e0 (by show ¬ (2 = 1); omega)
  · exact absurd e0 (by show ¬ (2 = 1); omega)
  · exact absurd e0 (by show ¬ (2 = 1); omega)
  · exact absurd e0 (by show ¬ (2 = 1); omega)
  · exact absurd e0 (by show ¬ (2 = 1); omega)
  · exact absurd e0 (by show ¬ (2 = 1); omega)
  · exact absurd e0 (by show ¬ (2 = 1); omega)
  · exact Or.inl ⟨e1, a0, a1⟩
  · exact Or.inr (Or.inl ⟨i, e1, a0, a1, a2⟩)
  · exact Or.inr (Or.inr (⟨i, a0, a1, a2, a3⟩))
theorem G.same {B : Nat → Nat} {n : Nat} {k : Nat} {l p : Nat} {r : Option Nat} (a : G B n k l p r) : ∀ r', G B n k l p r' → r = r' := by
  refine G.ind (C := fun k l p r => ∀ r', G B n k l p r' → r = r') ?_ a
  intro k l p r x
  rcases x with ⟨d, rfl, rfl, h⟩ | ⟨i, rfl, rfl, s, h⟩ | ⟨rfl, rfl, h, h2⟩ | ⟨t, rfl, rfl, ⟨h, ih⟩⟩ | ⟨t, q, rfl, ⟨h, ih⟩, ⟨h2, ih2⟩⟩ | ⟨t, rfl, rfl, h⟩ | ⟨t, rfl, rfl, h, ⟨h2, ih⟩⟩ | ⟨t, q, rfl, h, ⟨h2, ih⟩, ⟨h3, ih2⟩⟩ | ⟨rfl, rfl, h, hl⟩ | ⟨rfl, h, hl, ⟨_, ih⟩⟩ | ⟨rfl, rfl, h, hl⟩ | ⟨rfl, rfl, h, hl, ⟨_, ih⟩⟩ | ⟨q, rfl, rfl, h, hl, ⟨_, ih⟩, hn⟩ | ⟨q, rfl, rfl, h, hl, ⟨_, ih⟩, hn⟩ | ⟨rfl, rfl, h⟩ | ⟨rfl, rfl, h⟩ | ⟨rfl, rfl, h, ⟨_, ih⟩⟩ | ⟨q, rfl, rfl, h, ⟨_, ih⟩, n1, n2⟩ | ⟨q, rfl, h, ⟨_, ih⟩, s, ⟨_, ih2⟩⟩ | ⟨rfl, rfl, h1, h2⟩ | ⟨i, rfl, rfl, s, h, h2⟩ | ⟨i, rfl, s, h, h2, ⟨_, ih⟩⟩
  · intro r' b
    rcases b.inv_part with ⟨_, rfl, g⟩ | ⟨_, rfl, s, g⟩ | ⟨rfl, g, _⟩
    · rw [h.same g]
    · exact absurd h.d0 (wd_dg (six_lt s) (six_pos s) g)
    · exact absurd g h.nb
  · intro r' b
    rcases b.inv_part with ⟨_, rfl, g⟩ | ⟨_, rfl, s', g⟩ | ⟨rfl, _, g⟩
    · exact absurd g.d0 (wd_dg (six_lt s) (six_pos s) h)
    · rw [h.same (six_lt s) (six_lt s') g]
    · exact absurd h (g _ s)
  · intro r' b
    rcases b.inv_part with ⟨_, rfl, g⟩ | ⟨_, rfl, s, g⟩ | ⟨rfl, _, _⟩
    · exact absurd h g.nb
    · exact absurd g (h2 _ s)
    · rfl
  · intro r' b
    rcases b.inv_seq with ⟨rfl, g⟩ | ⟨_, g, g2⟩
    · rfl
    · exact absurd (ih _ g) (by simp)
  · intro r' b
    rcases b.inv_seq with ⟨rfl, g⟩ | ⟨_, g, g2⟩
    · exact absurd (ih _ g) (by simp)
    · have e := ih _ g; injection e with e; subst e; exact ih2 _ g2
  · intro r' b
    rcases b.inv_lp with ⟨rfl, g⟩ | ⟨rfl, g, _⟩ | ⟨_, g, _, _⟩
    · rfl
    · exact absurd g h
    · exact absurd g h
  · intro r' b
    rcases b.inv_lp with ⟨rfl, g⟩ | ⟨rfl, g, _⟩ | ⟨_, g, g2, _⟩
    · exact absurd h g
    · rfl
    · exact absurd (ih _ g2) (by simp)
  · intro r' b
    rcases b.inv_lp with ⟨rfl, g⟩ | ⟨rfl, g, g2⟩ | ⟨_, g, g2, g3⟩
    · exact absurd h g
    · exact absurd (ih _ g2) (by simp)
    · have e := ih _ g2; injection e with e; subst e; exact ih2 _ g3
  · have ka : Ak B n _ 0 := Or.inl ⟨rfl, h⟩
    intro r' b
    rcases b.inv_atom with ⟨rfl, _, _⟩ | ⟨_, g, _⟩ | ⟨rfl, g, _⟩ | ⟨rfl, g, _, _⟩ | ⟨_, rfl, g, _, _, _⟩ | ⟨_, rfl, g, _, _, _⟩ | ⟨rfl, g⟩ | ⟨rfl, g⟩ | ⟨rfl, g, _⟩ | ⟨_, rfl, g, _, _, _⟩ | ⟨_, g, _, _, _⟩
    · rfl
    · omega
    · exact absurd (ka.same (Or.inr (Or.inl ⟨rfl, g⟩))) (by decide)
    · exact absurd (ka.same (Or.inr (Or.inl ⟨rfl, g⟩))) (by decide)
    · exact absurd (ka.same (Or.inr (Or.inl ⟨rfl, g⟩))) (by decide)
    · exact absurd (ka.same (Or.inr (Or.inl ⟨rfl, g⟩))) (by decide)
    · exact absurd (ka.same (Or.inr (Or.inr (Or.inl ⟨rfl, g⟩)))) (by decide)
    · exact absurd (ka.same (Or.inr (Or.inr (Or.inr (Or.inl ⟨rfl, g⟩))))) (by decide)
    · exact absurd h g.1
    · exact absurd h g.1
    · exact absurd h g.1
  · have ka : Ak B n _ 0 := Or.inl ⟨rfl, h⟩
    intro r' b
    rcases b.inv_atom with ⟨rfl, _, g⟩ | ⟨_, _, g⟩ | ⟨rfl, g, _⟩ | ⟨rfl, g, _, _⟩ | ⟨_, rfl, g, _, _, _⟩ | ⟨_, rfl, g, _, _, _⟩ | ⟨rfl, g⟩ | ⟨rfl, g⟩ | ⟨rfl, g, _⟩ | ⟨_, rfl, g, _, _, _⟩ | ⟨_, g, _, _, _⟩
    · omega
    · exact ih _ g
    · exact absurd (ka.same (Or.inr (Or.inl ⟨rfl, g⟩))) (by decide)
    · exact absurd (ka.same (Or.inr (Or.inl ⟨rfl, g⟩))) (by decide)
    · exact absurd (ka.same (Or.inr (Or.inl ⟨rfl, g⟩))) (by decide)
    · exact absurd (ka.same (Or.inr (Or.inl ⟨rfl, g⟩))) (by decide)
    · exact absurd (ka.same (Or.inr (Or.inr (Or.inl ⟨rfl, g⟩)))) (by decide)
    · exact absurd (ka.same (Or.inr (Or.inr (Or.inr (Or.inl ⟨rfl, g⟩))))) (by decide)
    · exact absurd h g.1
    · exact absurd h g.1
    · exact absurd h g.1
  · have ka : Ak B n _ 1 := Or.inr (Or.inl ⟨rfl, h⟩)
    intro r' b
    rcases b.inv_atom with ⟨rfl, g, _⟩ | ⟨g, _, _⟩ | ⟨rfl, _, _⟩ | ⟨rfl, _, _, _⟩ | ⟨_, rfl, _, _, _, _⟩ | ⟨_, rfl, _, g, _, _⟩ | ⟨rfl, g⟩ | ⟨rfl, g⟩ | ⟨rfl, g, _⟩ | ⟨_, rfl, g, _, _, _⟩ | ⟨_, g, _, _, _⟩
    · exact absurd (ka.same (Or.inl ⟨rfl, g⟩)) (by decide)
    · exact absurd (ka.same (Or.inl ⟨rfl, g⟩)) (by decide)
    · rfl
    · rfl
    · rfl
    · omega
    · exact absurd (ka.same (Or.inr (Or.inr (Or.inl ⟨rfl, g⟩)))) (by decide)
    · exact absurd (ka.same (Or.inr (Or.inr (Or.inr (Or.inl ⟨rfl, g⟩))))) (by decide)
    · exact absurd h g.2.1
    · exact absurd h g.2.1
    · exact absurd h g.2.1
  · have ka : Ak B n _ 1 := Or.inr (Or.inl ⟨rfl, h⟩)
    intro r' b
    rcases b.inv_atom with ⟨rfl, g, _⟩ | ⟨g, _, _⟩ | ⟨rfl, _, _⟩ | ⟨rfl, _, _, _⟩ | ⟨_, rfl, _, _, _, _⟩ | ⟨_, rfl, _, _, g, _⟩ | ⟨rfl, g⟩ | ⟨rfl, g⟩ | ⟨rfl, g, _⟩ | ⟨_, rfl, g, _, _, _⟩ | ⟨_, g, _, _, _⟩
    · exact absurd (ka.same (Or.inl ⟨rfl, g⟩)) (by decide)
    · exact absurd (ka.same (Or.inl ⟨rfl, g⟩)) (by decide)
    · rfl
    · rfl
    · rfl
    · exact absurd (ih _ g) (by simp)
    · exact absurd (ka.same (Or.inr (Or.inr (Or.inl ⟨rfl, g⟩)))) (by decide)
    · exact absurd (ka.same (Or.inr (Or.inr (Or.inr (Or.inl ⟨rfl, g⟩))))) (by decide)
    · exact absurd h g.2.1
    · exact absurd h g.2.1
    · exact absurd h g.2.1
  · have ka : Ak B n _ 1 := Or.inr (Or.inl ⟨rfl, h⟩)
    intro r' b
    rcases b.inv_atom with ⟨rfl, g, _⟩ | ⟨g, _, _⟩ | ⟨rfl, _, _⟩ | ⟨rfl, _, _, _⟩ | ⟨_, rfl, _, _, _, _⟩ | ⟨_, rfl, _, _, g, g2⟩ | ⟨rfl, g⟩ | ⟨rfl, g⟩ | ⟨rfl, g, _⟩ | ⟨_, rfl, g, _, _, _⟩ | ⟨_, g, _, _, _⟩
    · exact absurd (ka.same (Or.inl ⟨rfl, g⟩)) (by decide)
    · exact absurd (ka.same (Or.inl ⟨rfl, g⟩)) (by decide)
    · rfl
    · rfl
    · rfl
    · have e := ih _ g; injection e with e; subst e; exact absurd g2 hn
    · exact absurd (ka.same (Or.inr (Or.inr (Or.inl ⟨rfl, g⟩)))) (by decide)
    · exact absurd (ka.same (Or.inr (Or.inr (Or.inr (Or.inl ⟨rfl, g⟩))))) (by decide)
    · exact absurd h g.2.1
    · exact absurd h g.2.1
    · exact absurd h g.2.1
  · have ka : Ak B n _ 1 := Or.inr (Or.inl ⟨rfl, h⟩)
    intro r' b
    rcases b.inv_atom with ⟨rfl, g, _⟩ | ⟨g, _, _⟩ | ⟨rfl, _, g⟩ | ⟨rfl, _, _, g⟩ | ⟨_, rfl, _, _, g, g2⟩ | ⟨_, rfl, _, _, g, g2⟩ | ⟨rfl, g⟩ | ⟨rfl, g⟩ | ⟨rfl, g, _⟩ | ⟨_, rfl, g, _, _, _⟩ | ⟨_, g, _, _, _⟩
    · exact absurd (ka.same (Or.inl ⟨rfl, g⟩)) (by decide)
    · exact absurd (ka.same (Or.inl ⟨rfl, g⟩)) (by decide)
    · omega
    · exact absurd (ih _ g) (by simp)
    · have e := ih _ g; injection e with e; subst e; exact absurd hn g2
    · have e := ih _ g; injection e with e; subst e; rfl
    · exact absurd (ka.same (Or.inr (Or.inr (Or.inl ⟨rfl, g⟩)))) (by decide)
    · exact absurd (ka.same (Or.inr (Or.inr (Or.inr (Or.inl ⟨rfl, g⟩))))) (by decide)
    · exact absurd h g.2.1
    · exact absurd h g.2.1
    · exact absurd h g.2.1
  · have ka : Ak B n _ 2 := Or.inr (Or.inr (Or.inl ⟨rfl, h⟩))
    intro r' b
    rcases b.inv_atom with ⟨rfl, g, _⟩ | ⟨g, _, _⟩ | ⟨rfl, g, _⟩ | ⟨rfl, g, _, _⟩ | ⟨_, rfl, g, _, _, _⟩ | ⟨_, rfl, g, _, _, _⟩ | ⟨rfl, g⟩ | ⟨rfl, g⟩ | ⟨rfl, g, _⟩ | ⟨_, rfl, g, _, _, _⟩ | ⟨_, g, _, _, _⟩
    · exact absurd (ka.same (Or.inl ⟨rfl, g⟩)) (by decide)
    · exact absurd (ka.same (Or.inl ⟨rfl, g⟩)) (by decide)
    · exact absurd (ka.same (Or.inr (Or.inl ⟨rfl, g⟩))) (by decide)
    · exact absurd (ka.same (Or.inr (Or.inl ⟨rfl, g⟩))) (by decide)
    · exact absurd (ka.same (Or.inr (Or.inl ⟨rfl, g⟩))) (by decide)
    · exact absurd (ka.same (Or.inr (Or.inl ⟨rfl, g⟩))) (by decide)
    · rfl
    · exact absurd (ka.same (Or.inr (Or.inr (Or.inr (Or.inl ⟨rfl, g⟩))))) (by decide)
    · exact absurd h g.2.2.1
    · exact absurd h g.2.2.1
    · exact absurd h g.2.2.1
  · have ka : Ak B n _ 3 := Or.inr (Or.inr (Or.inr (Or.inl ⟨rfl, h⟩)))
    intro r' b
    rcases b.inv_atom with ⟨rfl, g, _⟩ | ⟨g, _, _⟩ | ⟨rfl, g, _⟩ | ⟨rfl, g, _, _⟩ | ⟨_, rfl, g, _, _, _⟩ | ⟨_, rfl, g, _, _, _⟩ | ⟨rfl, g⟩ | ⟨rfl, g⟩ | ⟨rfl, g, _⟩ | ⟨_, rfl, g, _, _, _⟩ | ⟨_, g, _, _, _⟩
    · exact absurd (ka.same (Or.inl ⟨rfl, g⟩)) (by decide)
    · exact absurd (ka.same (Or.inl ⟨rfl, g⟩)) (by decide)
    · exact absurd (ka.same (Or.inr (Or.inl ⟨rfl, g⟩))) (by decide)
    · exact absurd (ka.same (Or.inr (Or.inl ⟨rfl, g⟩))) (by decide)
    · exact absurd (ka.same (Or.inr (Or.inl ⟨rfl, g⟩))) (by decide)
    · exact absurd (ka.same (Or.inr (Or.inl ⟨rfl, g⟩))) (by decide)
    · exact absurd (ka.same (Or.inr (Or.inr (Or.inl ⟨rfl, g⟩)))) (by decide)
    · rfl
    · exact absurd h g.2.2.2
    · exact absurd h g.2.2.2
    · exact absurd h g.2.2.2
  · intro r' b
    rcases b.inv_atom with ⟨rfl, g, _⟩ | ⟨g, _, _⟩ | ⟨rfl, g, _⟩ | ⟨rfl, g, _, _⟩ | ⟨_, rfl, g, _, _, _⟩ | ⟨_, rfl, g, _, _, _⟩ | ⟨rfl, g⟩ | ⟨rfl, g⟩ | ⟨rfl, _, _⟩ | ⟨_, rfl, _, _, _, _⟩ | ⟨_, _, g, _, _⟩
    · exact absurd g h.1
    · exact absurd g h.1
    · exact absurd g h.2.1
    · exact absurd g h.2.1
    · exact absurd g h.2.1
    · exact absurd g h.2.1
    · exact absurd g h.2.2.1
    · exact absurd g h.2.2.2
    · rfl
    · rfl
    · exact absurd (ih _ g) (by simp)
  · intro r' b
    rcases b.inv_atom with ⟨rfl, g, _⟩ | ⟨g, _, _⟩ | ⟨rfl, g, _⟩ | ⟨rfl, g, _, _⟩ | ⟨_, rfl, g, _, _, _⟩ | ⟨_, rfl, g, _, _, _⟩ | ⟨rfl, g⟩ | ⟨rfl, g⟩ | ⟨rfl, _, _⟩ | ⟨_, rfl, _, _, _, _⟩ | ⟨_, _, g, g2, _⟩
    · exact absurd g h.1
    · exact absurd g h.1
    · exact absurd g h.2.1
    · exact absurd g h.2.1
    · exact absurd g h.2.1
    · exact absurd g h.2.1
    · exact absurd g h.2.2.1
    · exact absurd g h.2.2.2
    · rfl
    · rfl
    · have e := ih _ g; injection e with e; subst e; exact g2.elim (fun z => absurd z n1) (fun z => absurd z n2)
  · intro r' b
    rcases b.inv_atom with ⟨rfl, g, _⟩ | ⟨g, _, _⟩ | ⟨rfl, g, _⟩ | ⟨rfl, g, _, _⟩ | ⟨_, rfl, g, _, _, _⟩ | ⟨_, rfl, g, _, _, _⟩ | ⟨rfl, g⟩ | ⟨rfl, g⟩ | ⟨rfl, _, g⟩ | ⟨_, rfl, _, g, n1, n2⟩ | ⟨_, _, g, _, g3⟩
    · exact absurd g h.1
    · exact absurd g h.1
    · exact absurd g h.2.1
    · exact absurd g h.2.1
    · exact absurd g h.2.1
    · exact absurd g h.2.1
    · exact absurd g h.2.2.1
    · exact absurd g h.2.2.2
    · exact absurd (ih _ g) (by simp)
    · have e := ih _ g; injection e with e; subst e; exact s.elim (fun z => absurd z n1) (fun z => absurd z n2)
    · have e := ih _ g; injection e with e; subst e; exact ih2 _ g3
  · intro r' b
    rcases b.inv_line with ⟨rfl, _, _⟩ | ⟨_, rfl, s, g, _⟩ | ⟨_, s, g, _, _⟩
    · rfl
    · exact s.elim (fun z => absurd (z ▸ g) h1) (fun z => absurd (z ▸ g) h2)
    · exact s.elim (fun z => absurd (z ▸ g) h1) (fun z => absurd (z ▸ g) h2)
  · intro r' b
    rcases b.inv_line with ⟨rfl, n1, n2⟩ | ⟨_, rfl, s', g, _⟩ | ⟨_, s', g, g2, _⟩
    · exact s.elim (fun z => absurd (z ▸ h) n1) (fun z => absurd (z ▸ h) n2)
    · rw [wd_ln s s' h g]
    · rw [wd_ln s s' h g] at h2; exact absurd g2 h2
  · intro r' b
    rcases b.inv_line with ⟨rfl, n1, n2⟩ | ⟨_, rfl, s', g, g2⟩ | ⟨_, s', g, g2, g3⟩
    · exact s.elim (fun z => absurd (z ▸ h) n1) (fun z => absurd (z ▸ h) n2)
    · rw [wd_ln s s' h g] at h2; exact absurd h2 g2
    · have e := wd_ln s s' h g; subst e; exact ih _ g3
theorem Ls.same {B : Nat → Nat} {n c p : Nat} {r : Option Nat} (a : Ls B n c p r) : ∀ r', Ls B n c p r' → r = r' := by
  refine Ls.ind (C := fun c p r => ∀ r', Ls B n c p r' → r = r') ?_ a
  intro c p r x
  rcases x with ⟨rfl, h⟩ | ⟨rfl, h, h2⟩ | ⟨q, rfl, h, h2, h3⟩ | ⟨q, rfl, h, h2, h3, h4⟩ | ⟨q, h, h2, h3, ⟨_, ih⟩⟩
  · intro r' b
    rcases b.inv with ⟨rfl, _⟩ | ⟨rfl, _, _⟩ | ⟨_, rfl, g, _, _⟩ | ⟨_, rfl, _, _, _, _⟩ | ⟨_, g, _, _, _⟩
    · rfl
    · rfl
    · omega
    · rfl
    · omega
  · intro r' b
    rcases b.inv with ⟨rfl, _⟩ | ⟨rfl, _, _⟩ | ⟨_, rfl, _, g, _⟩ | ⟨_, rfl, _, _, _, _⟩ | ⟨_, _, g, _, _⟩
    · rfl
    · rfl
    · exact absurd (h2.same _ g) (by simp)
    · rfl
    · exact absurd (h2.same _ g) (by simp)
  · intro r' b
    rcases b.inv with ⟨rfl, g⟩ | ⟨rfl, _, g⟩ | ⟨_, rfl, _, g, _⟩ | ⟨_, rfl, _, g, g2, _⟩ | ⟨_, _, g, g2, _⟩
    · omega
    · exact absurd (h2.same _ g) (by simp)
    · rfl
    · have e := h2.same _ g; injection e with e; omega
    · have e := h2.same _ g; injection e with e; have := g2.1; omega
  · intro r' b
    rcases b.inv with ⟨rfl, _⟩ | ⟨rfl, _, _⟩ | ⟨_, rfl, _, g, g2⟩ | ⟨_, rfl, _, _, _, _⟩ | ⟨_, _, g, g2, _⟩
    · rfl
    · rfl
    · have e := h2.same _ g; injection e with e; omega
    · rfl
    · have e := h2.same _ g; injection e with e; subst e; exact absurd g2 h4
  · intro r' b
    rcases b.inv with ⟨rfl, g⟩ | ⟨rfl, _, g⟩ | ⟨_, rfl, _, g, g2⟩ | ⟨_, rfl, _, g, _, g2⟩ | ⟨_, _, g, _, g3⟩
    · omega
    · exact absurd (h2.same _ g) (by simp)
    · have e := h2.same _ g; injection e with e; have := h3.1; omega
    · have e := h2.same _ g; injection e with e; subst e; exact absurd h3 g2
    · have e := h2.same _ g; injection e with e; subst e; exact ih _ g3
theorem Cu.same {B : Nat → Nat} {n : Nat} {r r' : Option Nat} (a : Cu B n r) (b : Cu B n r') : r = r' := by
  rcases a with ⟨x, a⟩ | ⟨x, a⟩ <;> rcases b with ⟨y, b⟩ | ⟨y, b⟩
  · rw [a, b]
  · omega
  · omega
  · exact a.same _ b
/-! ===== tapes in the heap ===== -/
/-- the bytes and the size; in the reference the bytes and the end, or what is taped -/
def Tp (B : Nat → Nat) (n : Nat) (h : xh) : Prop := h 1 1 = n ∧ ∀ u, u < 400 → h 2 u = B (2147483648 + u)
def Tq (B : Nat → Nat) (n : Nat) (h : xh) : Prop := h 75 8 = n ∧ ∀ u, u < 400 → byE (B (2147483648 + u)) (h 79 u)
def Tr (B : Nat → Nat) (n : Nat) (h : xh) : Prop := h 75 6 = n ∧ ∀ u, u < 400 → byE (B (2147483648 + u)) (h 79 u)
theorem Tp.at {B : Nat → Nat} {n p u : Nat} {h : xh} (t : Tp B n h) (e : p = 2147483648 + u) (hu : u < 400) : h 2 u = B p := by
  rw [e]
  exact t.2 u hu
theorem Tq.at {B : Nat → Nat} {n p u : Nat} {h : xh} (t : Tq B n h) (e : p = 2147483648 + u) (hu : u < 400) : (2147483648 ≤ h 79 u ∧ B p = h 79 u) ∨ (h 79 u < 2147483648 ∧ B p = h 79 u + 256) := by
  rw [e]
  exact t.2 u hu
theorem Tp.oth {B : Nat → Nat} {n k i v : Nat} {h : xh} (t : Tp B n h) (hk : k ≠ 2) (hi : ¬ (k = 1 ∧ i = 1)) : Tp B n (x_up h k i v) := by
  refine ⟨?_, fun u hu => ?_⟩
  · rw [show x_up h k i v 1 1 = h 1 1 from if_neg (fun z => hi ⟨z.1.symm, z.2.symm⟩)]
    exact t.1
  · rw [show x_up h k i v 2 u = h 2 u from if_neg (fun z => hk z.1.symm)]
    exact t.2 u hu
theorem Tq.oth {B : Nat → Nat} {n k i v : Nat} {h : xh} (t : Tq B n h) (hk : k ≠ 79) (hi : ¬ (k = 75 ∧ i = 8)) : Tq B n (x_up h k i v) := by
  refine ⟨?_, fun u hu => ?_⟩
  · rw [show x_up h k i v 75 8 = h 75 8 from if_neg (fun z => hi ⟨z.1.symm, z.2.symm⟩)]
    exact t.1
  · rw [show x_up h k i v 79 u = h 79 u from if_neg (fun z => hk z.1.symm)]
    exact t.2 u hu
theorem Tr.oth {B : Nat → Nat} {n k i v : Nat} {h : xh} (t : Tr B n h) (hk : k ≠ 79) (hi : ¬ (k = 75 ∧ i = 6)) : Tr B n (x_up h k i v) := by
  refine ⟨?_, fun u hu => ?_⟩
  · rw [show x_up h k i v 75 6 = h 75 6 from if_neg (fun z => hi ⟨z.1.symm, z.2.symm⟩)]
    exact t.1
  · rw [show x_up h k i v 79 u = h 79 u from if_neg (fun z => hk z.1.symm)]
    exact t.2 u hu
theorem Tr.tq {B : Nat → Nat} {n v : Nat} {h : xh} (t : Tr B n h) (e : v = h 75 6) : Tq B n (x_up h 75 8 v) := by
  refine ⟨?_, fun u hu => ?_⟩
  · rw [show x_up h 75 8 v 75 8 = v from x_up_at, e]
    exact t.1
  · rw [show x_up h 75 8 v 79 u = h 79 u from x_up_k (by decide)]
    exact t.2 u hu
theorem Tp.fr {B : Nat → Nat} {n m : Nat} {h h' : xh} (t : Tp B n h) (f : Fr m h h') (g1 : Nat.testBit m 4 = false) (g2 : Nat.testBit m 6 = false) : Tp B n h' := by
  refine ⟨(f 1 1 (by rw [show x_gr 1 1 = 4 from rfl]; exact g1)).trans t.1, fun u hu => ?_⟩
  rw [f 2 u (by rw [show x_gr 2 u = 6 from rfl]; exact g2)]
  exact t.2 u hu
theorem Tq.fr {B : Nat → Nat} {n m : Nat} {h h' : xh} (t : Tq B n h) (f : Fr m h h') (g1 : Nat.testBit m 21 = false) (g2 : Nat.testBit m 29 = false) : Tq B n h' := by
  refine ⟨(f 75 8 (by rw [show x_gr 75 8 = 21 from rfl]; exact g1)).trans t.1, fun u hu => ?_⟩
  rw [f 79 u (by rw [show x_gr 79 u = 29 from rfl]; exact g2)]
  exact t.2 u hu
theorem Tr.fr {B : Nat → Nat} {n m : Nat} {h h' : xh} (t : Tr B n h) (f : Fr m h h') (g1 : Nat.testBit m 19 = false) (g2 : Nat.testBit m 29 = false) : Tr B n h' := by
  refine ⟨(f 75 6 (by rw [show x_gr 75 6 = 19 from rfl]; exact g1)).trans t.1, fun u hu => ?_⟩
  rw [f 79 u (by rw [show x_gr 79 u = 29 from rfl]; exact g2)]
  exact t.2 u hu

/-- how long the custom's code is, where the reader writes -/
def cl9 (h : xh) : Nat := h (h 62 1) 2
def ln9 (h : xh) : Nat := h (h 62 1) 3
/-! ===== the readers' steps ===== -/
def Res (B : Nat → Nat) (n : Nat) (k : Nat) (l p : Nat) (k0 : Nat) (l0 p0 : Nat) : Prop := ∀ r, G B n k l p r → G B n k0 l0 p0 r
section GS
variable {B : Nat → Nat} {n l p q q' p1 p2 p3 q1 q2 a r i t v : Nat}
theorem rs_eq (hr : r = a) (hq : a = 2147483649 → q2 = q') : rs a q2 = rs r q' := by
  rw [hr]
  unfold rs
  split
  · rename_i e
    rw [hq e]
  · rfl
theorem Nr.nb (h : Nr B n 2147483648 2147484647 p v q) (e : v = 2147483647) : Nb B n p := by
  rcases h with ⟨d, a, b, c, x⟩ | ⟨_, a⟩
  · omega
  · rcases a with a | ⟨d, a, b⟩
    · exact a
    · have x := nv_lt d a.1
      have y : 10 ^ d ≤ 10 ^ 3 := Nat.pow_le_pow_right (by decide) a.2.2.2
      have z : (10 : Nat) ^ 3 = 1000 := by decide
      omega
theorem no_wd (hi : i < 32) (h : ¬ Ltr B n p) : ¬ Wd B n i p := fun z => by
  have x := z.ltr hi (j := 0) (by have := iv_tl_ge i hi; omega)
  rw [Nat.add_zero] at x
  exact h x
theorem Wd.of' (hi : i < 32) (w : Wm B i p q) (he : q = le9 B n p) : Wd B n i p := by
  by_cases hp : p ≤ n
  · exact Wd.of w he hp
  · have x : le9 B n p = p := le9_stop (fun z => by have := z.1; omega)
    have y := w.1
    have z := iv_tl_ge i hi
    omega
theorem ltr_of (h : le9 B n p ≠ p) : Ltr B n p := Classical.byContradiction (fun z => h (le9_stop z))
theorem ltr_nb (h : Ltr B n p) : Nb B n p := Or.inl (fun z => by have x := h.2; have y := z.2; omega)
theorem gP_num (f : Nr B n 2147483648 2147484647 p1 v q) (e : p1 = p) (h : v ≠ 2147483647) (hr : r = 2147483649) (hq : q = q') : G B n Kd.part l p (rs r q') := by
  rcases f with ⟨d, a, b, c, x, y⟩ | ⟨z, _⟩
  · rw [rs1 hr, ← hq, y, e]
    rw [e] at a
    exact G.pnum a
  · exact absurd z h
theorem gP_wd (s : six i) (w : Wd B n i p1) (e : p1 = p) (f : q = sk B n (p1 + iv_tl i)) (hr : r = 2147483649) (hq : q = q') : G B n Kd.part l p (rs r q') := by
  rw [rs1 hr, ← hq, f, e]
  rw [e] at w
  exact G.pwd s w
theorem gP_no (hn : Nb B n p) (w1 : ¬ Wd B n 2 p) (w2 : ¬ Wd B n 27 p) (w3 : ¬ Wd B n 5 p) (w4 : ¬ Wd B n 28 p) (w5 : ¬ Wd B n 29 p) (w6 : ¬ Wd B n 30 p) (hr : r = 2147483648) : G B n Kd.part l p (rs r q') := by
  rw [rs0 hr]
  refine G.pno hn (fun i s => ?_)
  rcases s with rfl | rfl | rfl | rfl | rfl | rfl
  · exact w1
  · exact w2
  · exact w3
  · exact w4
  · exact w5
  · exact w6
theorem gP_nol (hn : Nb B n p) (w : ¬ Ltr B n p) (hr : r = 2147483648) : G B n Kd.part l p (rs r q') := by
  rw [rs0 hr]
  exact G.pno hn (fun i s => no_wd (six_lt s) w)
theorem gQ_no (f : G B n (el t) l p1 (rs a q)) (e : p1 = p) (ha : a = 2147483648) (hr : r = 2147483648) : G B n (Kd.seq t) l p (rs r q') := by
  rw [rs0 ha, e] at f
  rw [rs0 hr]
  exact G.sno f
theorem gQ_in (f : G B n (el t) l p1 (rs a q)) (e : p1 = p) (ha : a = 2147483649) (hq : q = q') : Res B n (Kd.lp t) l q' (Kd.seq t) l p := by
  rw [rs1 ha, e, hq] at f
  exact fun r g => G.sgo f g
theorem gQ_st (m : Res B n (Kd.lp t) l p1 (Kd.seq t) l p) (w : Cw B n t p2) (e1 : p2 = p1) (e2 : q1 = sk B n (p2 + cw t)) (f : G B n (el t) l p3 (rs a q2)) (e3 : p3 = q1) (ha : a = 2147483649) (hq : q2 = q') : Res B n (Kd.lp t) l q' (Kd.seq t) l p := by
  rw [rs1 ha, e3, e2, e1, hq] at f
  rw [e1] at w
  exact fun r g => m r (G.lgo w f g)
theorem gQ_f (m : Res B n (Kd.lp t) l p1 (Kd.seq t) l p) (w : Cw B n t p2) (e1 : p2 = p1) (e2 : q1 = sk B n (p2 + cw t)) (f : G B n (el t) l p3 (rs a q2)) (e3 : p3 = q1) (ha : a = 2147483648) (hr : r = 2147483648) : G B n (Kd.seq t) l p (rs r q') := by
  rw [rs0 ha, e3, e2, e1] at f
  rw [e1] at w
  rw [rs0 hr]
  exact m _ (G.lno w f)
theorem gQ_e (m : Res B n (Kd.lp t) l p1 (Kd.seq t) l p) (w : ¬ Cw B n t p2) (e1 : p2 = p1) (hr : r = 2147483649) (hq : p1 = q') : G B n (Kd.seq t) l p (rs r q') := by
  rw [e1] at w
  rw [rs1 hr, ← hq]
  exact m _ (G.lend w)
theorem Cw.lt (w : Cw B n t p) : p < n := by
  match t with
  | 0 => exact w.1
  | 1 => have x := w.1; have y : iv_tl 31 = 3 := (by decide); omega
  | _ + 2 => have x := w.1; have y : iv_tl 15 = 2 := (by decide); omega
theorem gQ_x (m : Res B n (Kd.lp t) l p1 (Kd.seq t) l p) (h : n ≤ p1) (hr : r = 2147483649) (hq : p1 = q') : G B n (Kd.seq t) l p (rs r q') :=
  gQ_e m (fun z => by have := Cw.lt z; omega) rfl hr hq
theorem gA_not6 (w : Wd B n 24 p1) (e : p1 = p) (hl : 6 ≤ l) (hr : r = 2147483648) : G B n Kd.atom l p (rs r q') := by
  rw [e] at w
  rw [rs0 hr]
  exact G.not6 w hl
theorem gA_not (w : Wd B n 24 p1) (e : p1 = p) (e2 : q1 = sk B n (p1 + iv_tl 24)) (hl : l < 6) (f : G B n Kd.atom (l + 1) p2 (rs a q2)) (e3 : p2 = q1) (hr : r = a) (hq : a = 2147483649 → q2 = q') : G B n Kd.atom l p (rs r q') := by
  rw [e3, e2, e, rs_eq hr hq] at f
  rw [e] at w
  exact G.not w hl f
theorem gA_par6 (w : Sg B n 2147483688 p1) (e : p1 = p) (hl : 6 ≤ l) (hr : r = 2147483648) : G B n Kd.atom l p (rs r q') := by
  rw [e] at w
  rw [rs0 hr]
  exact G.par6 w hl
theorem gA_par0 (w : Sg B n 2147483688 p1) (e : p1 = p) (e2 : q1 = sk B n (p1 + 1)) (hl : l < 6) (f : G B n (Kd.seq 2) (l + 1) p2 (rs a q2)) (e3 : p2 = q1) (ha : a = 2147483648) (hr : r = 2147483648) : G B n Kd.atom l p (rs r q') := by
  rw [e3, e2, e, rs0 ha] at f
  rw [e] at w
  rw [rs0 hr]
  exact G.par0 w hl f
theorem gA_parT (w : Sg B n 2147483688 p1) (e : p1 = p) (e2 : q1 = sk B n (p1 + 1)) (hl : l < 6) (f : G B n (Kd.seq 2) (l + 1) p2 (rs a q2)) (e3 : p2 = q1) (ha : a = 2147483649) (g : Tk (Sg B n 2147483689 p3) B n p3 1 v q) (e4 : p3 = q2) (hr : r = v) (hq : v = 2147483649 → q = q') : G B n Kd.atom l p (rs r q') := by
  rw [e3, e2, e, rs1 ha] at f
  rw [e] at w
  rw [e4] at g
  rcases g with ⟨x, y, z⟩ | ⟨x, y, z⟩
  · rw [rs1 (hr.trans x), ← hq x, z]
    exact G.par2 w hl f y
  · rw [rs0 (hr.trans x)]
    exact G.par1 w hl f y
theorem gA_own (w : Wd B n 25 p1) (e : p1 = p) (e2 : q = sk B n (p1 + iv_tl 25)) (hr : r = 2147483649) (hq : q = q') : G B n Kd.atom l p (rs r q') := by
  rw [e] at w
  rw [rs1 hr, ← hq, e2, e]
  exact G.own w
theorem gA_mine (w : Wd B n 26 p1) (e : p1 = p) (e2 : q = sk B n (p1 + iv_tl 26)) (hr : r = 2147483649) (hq : q = q') : G B n Kd.atom l p (rs r q') := by
  rw [e] at w
  rw [rs1 hr, ← hq, e2, e]
  exact G.mine w
theorem gA_c0 (w : An B n p) (f : G B n (Kd.seq 0) l p1 (rs a q2)) (e : p1 = p) (ha : a = 2147483648) (hr : r = 2147483648) : G B n Kd.atom l p (rs r q') := by
  rw [e, rs0 ha] at f
  rw [rs0 hr]
  exact G.c0 w f
theorem gA_c1 (w : An B n p) (f : G B n (Kd.seq 0) l p1 (rs a q2)) (e : p1 = p) (ha : a = 2147483649) (u1 : ¬ Sg B n 2147483708 p2) (e2 : p2 = q2) (u2 : ¬ Sg B n 2147483710 p3) (e3 : p3 = q2) (hr : r = 2147483648) : G B n Kd.atom l p (rs r q') := by
  rw [e, rs1 ha] at f
  rw [rs0 hr]
  rw [e2] at u1
  rw [e3] at u2
  exact G.c1 w f u1 u2
theorem gA_c2 (w : An B n p) (f : G B n (Kd.seq 0) l p1 (rs a q2)) (e : p1 = p) (ha : a = 2147483649) (u : Sg B n 2147483708 p2 ∨ Sg B n 2147483710 p2) (e2 : p2 = q2) (e3 : q1 = sk B n (p2 + 1)) (g : G B n (Kd.seq 0) l p3 (rs v q)) (e4 : p3 = q1) (hr : r = v) (hq : v = 2147483649 → q = q') : G B n Kd.atom l p (rs r q') := by
  rw [e, rs1 ha] at f
  rw [e4, e3, e2, rs_eq hr hq] at g
  rw [e2] at u
  exact G.c2 w f u g
theorem gA_an (w1 : ¬ Wd B n 24 p1) (e1 : p1 = p) (w2 : ¬ Sg B n 2147483688 p2) (e2 : p2 = p) (w3 : ¬ Wd B n 25 p3) (e3 : p3 = p) (w4 : ¬ Wd B n 26 q) (e4 : q = p) : An B n p := by
  rw [e1] at w1
  rw [e2] at w2
  rw [e3] at w3
  rw [e4] at w4
  exact ⟨w1, w2, w3, w4⟩
theorem gL_no (w1 : ¬ Wd B n 21 p1) (e1 : p1 = p) (w2 : ¬ Wd B n 22 p2) (e2 : p2 = p) (hr : r = 2147483648) : G B n Kd.line 0 p (rs r q') := by
  rw [e1] at w1
  rw [e2] at w2
  rw [rs0 hr]
  exact G.lnno w1 w2
theorem gL_end (s : i = 21 ∨ i = 22) (w : Wd B n i p1) (e1 : p1 = p) (e2 : q1 = sk B n (p1 + iv_tl i)) (u : ¬ Wd B n 23 p2) (e3 : p2 = q1) (hr : r = 2147483649) (hq : q1 = q') : G B n Kd.line 0 p (rs r q') := by
  rw [e1] at w e2
  rw [e3, e2] at u
  rw [rs1 hr, ← hq, e2]
  exact G.lnend s w u
theorem gL_if (s : i = 21 ∨ i = 22) (w : Wd B n i p1) (e1 : p1 = p) (e2 : q1 = sk B n (p1 + iv_tl i)) (u : Wd B n 23 p2) (e3 : p2 = q1) (e4 : q2 = sk B n (p2 + iv_tl 23)) (f : G B n (Kd.seq 2) 0 p3 (rs a q)) (e5 : p3 = q2) (hr : r = a) (hq : a = 2147483649 → q = q') : G B n Kd.line 0 p (rs r q') := by
  rw [e1] at w e2
  rw [e5, e4, e3, e2, rs_eq hr hq] at f
  rw [e3, e2] at u
  exact G.lnif s w u f
end GS
theorem wd_n {B : Nat → Nat} {n p i m : Nat} (w : Wd B n i p) (e : iv_tl i = m) : sk B n (p + m) ≤ n := sk_le (by have := w.1; omega)
theorem Cw.sk {B : Nat → Nat} {n t p : Nat} (w : Cw B n t p) : sk B n (p + cw t) ≤ n := by
  match t with
  | 0 => exact sk_le (by have := w.1; show _ + 1 ≤ _; omega)
  | 1 => exact wd_n w (by decide)
  | _ + 2 => exact wd_n (m := 2) w (by decide)
theorem G.le {B : Nat → Nat} {n : Nat} {k : Nat} {l p : Nat} {r : Option Nat} (a : G B n k l p r) : p ≤ n → ∀ q, r = some q → q ≤ n := by
  refine G.ind (C := fun k l p r => p ≤ n → ∀ q, r = some q → q ≤ n) ?_ a
  intro k l p r x
  rcases x with ⟨d, rfl, rfl, h⟩ | ⟨i, rfl, rfl, s, h⟩ | ⟨rfl, rfl, _, _⟩ | ⟨t, rfl, rfl, ⟨_, _⟩⟩ | ⟨t, q, rfl, ⟨_, ih⟩, ⟨_, ih2⟩⟩ | ⟨t, rfl, rfl, _⟩ | ⟨t, rfl, rfl, _, ⟨_, _⟩⟩ | ⟨t, q, rfl, w, ⟨_, ih⟩, ⟨_, ih2⟩⟩ | ⟨rfl, rfl, _, _⟩ | ⟨rfl, w, _, ⟨_, ih⟩⟩ | ⟨rfl, rfl, _, _⟩ | ⟨rfl, rfl, _, _, ⟨_, _⟩⟩ | ⟨q, rfl, rfl, _, _, ⟨_, _⟩, _⟩ | ⟨q, rfl, rfl, _, _, ⟨_, _⟩, w⟩ | ⟨rfl, rfl, w⟩ | ⟨rfl, rfl, w⟩ | ⟨rfl, rfl, _, ⟨_, _⟩⟩ | ⟨q, rfl, rfl, _, ⟨_, _⟩, _, _⟩ | ⟨q, rfl, _, ⟨_, _⟩, u, ⟨_, ih2⟩⟩ | ⟨rfl, rfl, _, _⟩ | ⟨i, rfl, rfl, _, w, _⟩ | ⟨i, rfl, _, w, u, ⟨_, ih⟩⟩
  · intro _ q e; injection e with e; subst e; exact sk_le (by have w := h.2.2.1; have x := h.1 (d - 1) (by omega); have y := x.1; omega)
  · intro _ q e; injection e with e; subst e; exact sk_le h.1
  · intro _ q e; cases e
  · intro _ q e; cases e
  · intro h q e; exact ih2 (ih h _ rfl) q e
  · intro h q e; injection e with e; subst e; exact h
  · intro _ q e; cases e
  · intro h q e; exact ih2 (ih (Cw.sk w) _ rfl) q e
  · intro _ q e; cases e
  · intro _ q e; exact ih (wd_n w (by decide)) q e
  · intro _ q e; cases e
  · intro _ q e; cases e
  · intro _ q e; cases e
  · intro _ q e; injection e with e; subst e; exact sk_le (by have := w.1; omega)
  · intro _ q e; injection e with e; subst e; exact wd_n w (by decide)
  · intro _ q e; injection e with e; subst e; exact wd_n w (by decide)
  · intro _ q e; cases e
  · intro _ q e; cases e
  · intro _ q e; exact ih2 (sk_le (by rcases u with u | u <;> (have := u.1; omega))) q e
  · intro _ q e; cases e
  · intro _ q e; injection e with e; subst e; exact sk_le w.1
  · intro _ q e; exact ih (wd_n u (by decide)) q e
/-- what is left of the lines -/
def Lq (B : Nat → Nat) (n c p : Nat) : Prop := p ≤ n ∧ ∀ r, Ls B n c p r → Cu B n r
def rn9 (r : Nat) : Option Nat := if r = 2147483647 then none else some r
section LS
variable {B : Nat → Nat} {n p q q' p1 p2 p3 q1 q2 a r i t v w c c' : Nat}
theorem Cu.nil (e : p = sk B n 2147483648) (h : n ≤ p) {o : Option Nat} (ho : o = some 2147483648) : Cu B n o := Or.inl ⟨by omega, ho⟩
theorem Cu.n0 (hr : r = 2147483648) (m : Cu B n none) : Cu B n (rs r q) := by rw [rs0 hr]; exact m
theorem Cu.s1 (hr : r = 2147483649) (m : Cu B n (some v)) (hq : q = v) : Cu B n (rs r q) := by rw [rs1 hr, hq]; exact m
theorem rs1' (hr : r = 2147483649) (hq : q = v) : rs r q = some v := by rw [rs1 hr, hq]
theorem rn0 (hr : r = 2147483647) : rn9 r = none := if_pos hr
theorem rn1 (hr : r = v) (hv : v ≠ 2147483647) : rn9 r = some v := by rw [hr]; exact if_neg hv
theorem Cu.rn0 (hr : r = 2147483647) (m : Cu B n none) : Cu B n (rn9 r) := by rw [show rn9 r = none from if_pos hr]; exact m
theorem Cu.rn1 (hr : r = v) (hv : v ≠ 2147483647) (m : Cu B n (some v)) : Cu B n (rn9 r) := by rw [show rn9 r = some v by rw [hr]; exact if_neg hv]; exact m
theorem Lq.zero (e : p = sk B n 2147483648) (h : p < n) (hc : c = 2147483648) : Lq B n c p := ⟨by omega, fun r z => Or.inr ⟨by omega, by rw [← e, ← hc]; exact z⟩⟩
theorem Lq.zeroR (e : w = sk B n 2147483648) (h0 : 2147483648 ≤ n) (h : w ≠ n) (hc : c = 2147483648) : Lq B n c (sk B n w) := by
  have x := sk_le (B := B) h0
  have y : sk B n w = w := by rw [e, sk_idem]
  exact Lq.zero (y.trans e) (by omega) hc
theorem Lq.full (m : Lq B n c p) (h : 2147483658 ≤ c) : Cu B n none := m.2 _ (Ls.full h)
theorem Lq.no (m : Lq B n c p) (h : c < 2147483658) (f : G B n Kd.line 0 p1 (rs a q)) (e : p1 = p) (ha : a = 2147483648) : Cu B n none := by
  rw [e, rs0 ha] at f
  exact m.2 _ (Ls.no h f)
theorem Lq.fin (m : Lq B n c p) (h : c < 2147483658) (f : G B n Kd.line 0 p1 (rs a q)) (e : p1 = p) (ha : a = 2147483649) (hn : n ≤ q) (hc : c' = c + 1) : Cu B n (some c') := by
  rw [e, rs1 ha] at f
  rw [hc]
  exact m.2 _ (Ls.fin h f hn)
theorem Lq.bad (m : Lq B n c p) (h : c < 2147483658) (f : G B n Kd.line 0 p1 (rs a q)) (e : p1 = p) (ha : a = 2147483649) (hn : q ≠ n) (w : ¬ Sg B n 2147483707 p2) (e2 : p2 = q) : Cu B n none := by
  rw [e, rs1 ha] at f
  rw [e2] at w
  exact m.2 _ (Ls.bad h f (by have := f.le m.1 _ rfl; omega) w)
theorem Lq.go (m : Lq B n c p) (h : c < 2147483658) (f : G B n Kd.line 0 p1 (rs a q)) (e : p1 = p) (ha : a = 2147483649) (w : Sg B n 2147483707 p2) (e2 : p2 = q) (e3 : q1 = sk B n (p2 + 1)) (hc : c' = c + 1) (hp : q1 = p3) : Lq B n c' p3 := by
  rw [e, rs1 ha] at f
  rw [e2] at w e3
  rw [hc, ← hp, e3]
  exact ⟨sk_le (by have := w.1; omega), fun r g => m.2 r (Ls.go h f w g)⟩
end LS
/-- the reference's custom: its answer and what it throws -/
def Cq (B : Nat → Nat) (n r t : Nat) : Prop := (t = 2147483648 ∧ Cu B n (some r)) ∨ (t = 2147483649 ∧ r = 2147483648 ∧ Cu B n none)
theorem Cq.yes {B : Nat → Nat} {n r t v : Nat} (f : Cu B n (rn9 v)) (hv : v ≠ 2147483647) (hr : r = v) (ht : t = 2147483648) : Cq B n r t := by
  rw [rn1 hr.symm (by omega)] at f
  exact Or.inl ⟨ht, f⟩
theorem Cq.no {B : Nat → Nat} {n r t v : Nat} (f : Cu B n (rn9 v)) (hv : v = 2147483647) (hr : r = 2147483648) (ht : t = 2147483649) : Cq B n r t := by
  rw [rn0 hv] at f
  exact Or.inr ⟨ht, hr, f⟩
theorem Cu.of1 {B : Nat → Nat} {n r q v : Nat} (f : Cu B n (rs r q)) (hr : r = 2147483649) (hv : v = q) : Cu B n (some v) := by
  rw [rs1 hr, ← hv] at f
  exact f
theorem Cu.of0 {B : Nat → Nat} {n r q : Nat} (f : Cu B n (rs r q)) (hr : r = 2147483648) : Cu B n none := by
  rw [rs0 hr] at f
  exact f
theorem Cu.cs {B : Nat → Nat} {n v w : Nat} (f : Cu B n (some v)) (e : w = v) : Cu B n (some w) := by rw [e]; exact f
/-! ===== the tape's own methods ===== -/
section LF
variable {B : Nat → Nat} {n p q v w x i e : Nat}
theorem wIn_st (m : ∀ j, j < v - p → B (p + j) = 2147483648 + iv_tc i j) (hx : v = p + x) (g : B (p + x) = 2147483648 + iv_tc i x) (hw : w = v + 1) : ∀ j, j < w - p → B (p + j) = 2147483648 + iv_tc i j := fun j hj => by
  by_cases h : j = x
  · rw [h]; exact g
  · exact m j (by omega)
theorem Nu.mk1 (a : Dg B n (p + 0)) (z : ¬ Dg B n (p + 1)) : Nu B n p 1 := ⟨fun j hj => by rw [show j = 0 by omega]; exact a, z, by decide, by decide⟩
theorem Nu.mk2 (a : Dg B n (p + 0)) (b : Dg B n (p + 1)) (z : ¬ Dg B n (p + 2)) : Nu B n p 2 := ⟨fun j hj => by
  rcases (show j = 0 ∨ j = 1 by omega) with rfl | rfl
  · exact a
  · exact b, z, by decide, by decide⟩
theorem Nu.mk3 (a : Dg B n (p + 0)) (b : Dg B n (p + 1)) (c : Dg B n (p + 2)) (z : ¬ Dg B n (p + 3)) : Nu B n p 3 := ⟨fun j hj => by
  rcases (show j = 0 ∨ j = 1 ∨ j = 2 by omega) with rfl | rfl | rfl
  · exact a
  · exact b
  · exact c, z, by decide, by decide⟩
theorem Nb.mk0 (z : ¬ Dg B n (p + 0)) : Nb B n p := Or.inl z
theorem Nb.mk4 (a : Dg B n (p + 0)) (b : Dg B n (p + 1)) (c : Dg B n (p + 2)) (z : Dg B n (p + 3)) : Nb B n p := Or.inr (fun j hj => by
  rcases (show j = 0 ∨ j = 1 ∨ j = 2 ∨ j = 3 by omega) with rfl | rfl | rfl | rfl
  · exact a
  · exact b
  · exact c
  · exact z)
theorem nv1 : nv B p 1 = B (p + 0) - 2147483696 := by
  show 10 * 0 + (B (p + 0) - 2147483696) = _
  omega
theorem nv2 : nv B p 2 = 10 * (B (p + 0) - 2147483696) + (B (p + 1) - 2147483696) := by
  show 10 * (10 * 0 + (B (p + 0) - 2147483696)) + (B (p + 1) - 2147483696) = _
  omega
theorem nv3 : nv B p 3 = 100 * (B (p + 0) - 2147483696) + 10 * (B (p + 1) - 2147483696) + (B (p + 2) - 2147483696) := by
  show 10 * (10 * (10 * 0 + (B (p + 0) - 2147483696)) + (B (p + 1) - 2147483696)) + (B (p + 2) - 2147483696) = _
  omega
theorem Nr.yes {lo hi d : Nat} (a : Nu B n p d) (e1 : v = 2147483648 + nv B p d) (e2 : lo ≤ v) (e3 : v ≤ hi) (e4 : q = sk B n w) (e5 : w = p + d) : Nr B n lo hi p v q := Or.inl ⟨d, a, e1, e2, e3, by rw [e4, e5]⟩
theorem Nr.nob {lo hi : Nat} (e1 : v = 2147483647) (a : Nb B n p) : Nr B n lo hi p v q := Or.inr ⟨e1, Or.inl a⟩
theorem Nr.nor {lo hi d : Nat} (e1 : v = 2147483647) (a : Nu B n p d) (b : ¬ (lo ≤ 2147483648 + nv B p d ∧ 2147483648 + nv B p d ≤ hi)) : Nr B n lo hi p v q := Or.inr ⟨e1, Or.inr ⟨d, a, b⟩⟩
/-- the reference's isWord, on its way -/
def Wi (B : Nat → Nat) (i p e s k : Nat) : Prop := (s = 2147483649 ∧ e = p + iv_tl i ∧ ∀ j, 2147483648 + j < k → B (p + j) = 2147483648 + iv_tc i j) ∨ (s = 2147483648 ∧ ¬ Wm B i p e)
variable {s k s' k' r : Nat}
theorem Wi.in1 (hs : s = 2147483649) (he : e = p + iv_tl i) (hk : k = 2147483648) : Wi B i p e s k := Or.inl ⟨hs, he, fun j hj => by omega⟩
theorem Wi.in0 (hs : s = 2147483648) (he : e ≠ p + iv_tl i) : Wi B i p e s k := Or.inr ⟨hs, fun z => he z.1⟩
theorem Wi.st1 (m : Wi B i p e s k) (h : s = 2147483649) (hx : k = 2147483648 + x) (g : B (p + x) = 2147483648 + iv_tc i x) (hs : s' = 2147483649) (hk : k' = k + 1) : Wi B i p e s' k' := by
  rcases m with ⟨a, b, c⟩ | ⟨a, b⟩
  · refine Or.inl ⟨hs, b, fun j hj => ?_⟩
    by_cases y : j = x
    · rw [y]; exact g
    · exact c j (by omega)
  · omega
theorem Wi.st0 (hx : x < iv_tl i) (g : B (p + x) ≠ 2147483648 + iv_tc i x) (hs : s' = 2147483648) : Wi B i p e s' k' := Or.inr ⟨hs, fun z => g (z.2 x hx)⟩
theorem Wi.is (m : Wi B i p e s k) (hr : r = s) (h : s = 2147483648 ∨ 2147483648 + iv_tl i ≤ k) : Is (Wm B i p e) r := by
  rcases m with ⟨a, b, c⟩ | ⟨a, b⟩
  · refine Is.mk1 (by omega) ⟨b, fun j hj => c j (by omega)⟩
  · exact Is.mk0 (by omega) b
theorem ps1 (a : w = sk B n p) (b : e = le9 B n w) (f : Is (Wm B i w e) v) (hv : v = 2147483649) (hi : i < 32) (hr : r = 2147483649) : Tk (Wd B n i (sk B n p)) B n (sk B n p) (iv_tl i) r (sk B n e) := by
  have g := f.yes hv
  have c := Wd.of' hi g b
  rw [a] at c
  exact Or.inl ⟨hr, c, by rw [g.1, a]⟩
theorem ps0 (a : w = sk B n p) (b : e = le9 B n w) (f : Is (Wm B i w e) v) (hv : v = 2147483648) (hi : i < 32) (he : q = w) (hr : r = 2147483648) : Tk (Wd B n i (sk B n p)) B n (sk B n p) (iv_tl i) r (sk B n q) := by
  have c := Wd.no hi (f.no hv) b
  rw [a] at c
  exact Or.inr ⟨hr, c, by rw [he, a, sk_idem]⟩
theorem sg1 {c : Nat} (a : w = sk B n p) (g : Sg B n c w) (he : q = w + 1) (hr : r = 2147483649) : Tk (Sg B n c (sk B n p)) B n (sk B n p) 1 r (sk B n q) := by
  rw [a] at g he
  exact Or.inl ⟨hr, g, by rw [he]⟩
theorem sg0 {c : Nat} (a : w = sk B n p) (g : ¬ Sg B n c w) (he : q = w) (hr : r = 2147483648) : Tk (Sg B n c (sk B n p)) B n (sk B n p) 1 r (sk B n q) := by
  rw [a] at g
  exact Or.inr ⟨hr, g, by rw [he, a, sk_idem]⟩
/-- the reference's number, on its way -/
def Ni (B : Nat → Nat) (n p e v : Nat) : Prop := p ≤ e ∧ (∀ j, j < e - p → Dg B n (p + j)) ∧ v = 2147483648 + nv B p (min 3 (e - p))
theorem Ni.zero (he : e = p) (hv : v = 2147483648) : Ni B n p e v := by
  refine ⟨by omega, fun j hj => by omega, ?_⟩
  rw [show min 3 (e - p) = 0 by omega, hv]
  rfl
theorem Ni.lt (m : Ni B n p e v) (h : e < p + 3) : v ≤ 2147483747 := by
  obtain ⟨a, b, c⟩ := m
  have x := nv_lt (min 3 (e - p)) (fun j hj => b j (by omega))
  have y : 10 ^ (min 3 (e - p)) ≤ 10 ^ 2 := Nat.pow_le_pow_right (by decide) (by omega)
  have z : (10 : Nat) ^ 2 = 100 := by decide
  omega
theorem Ni.ge (m : Ni B n p e v) : 2147483648 ≤ v := by have := m.2.2; omega
theorem Ni.dg (m : Ni B n p e v) (g : Dg B n e) : ∀ j, j < e + 1 - p → Dg B n (p + j) := fun j hj => by
  by_cases y : p + j = e
  · rw [y]; exact g
  · exact m.2.1 j (by have := m.1; omega)
theorem Ni.st {p' e' v' : Nat} (m : Ni B n p e v) (h : e < p + 3) (g : Dg B n e) (hv : v' + 21474836480 = 2147483648 + (10 * v + (B e - 2147483696))) (he : e' = e + 1) (hp : p' = p) : Ni B n p' e' v' := by
  have a := m.1
  have c := m.2.2
  subst he hp
  refine ⟨by omega, m.dg g, ?_⟩
  have x : min 3 (e + 1 - p') = min 3 (e - p') + 1 := by omega
  rw [x]
  show v' = 2147483648 + (10 * nv B p' (min 3 (e - p')) + (B (p' + min 3 (e - p')) - 2147483696))
  rw [show p' + min 3 (e - p') = e by omega]
  omega
theorem Ni.st3 {p' e' v' : Nat} (m : Ni B n p e v) (h : p + 3 ≤ e) (g : Dg B n e) (hv : v' = v) (he : e' = e + 1) (hp : p' = p) : Ni B n p' e' v' := by
  have c := m.2.2
  subst he hp hv
  refine ⟨by omega, m.dg g, ?_⟩
  rw [show min 3 (e + 1 - p') = min 3 (e - p') by omega]
  exact c
theorem Ni.nb0 (m : Ni B n p e v) (h : e ≤ p) (g : ¬ Dg B n e) : Nb B n p := by
  have a := m.1
  rw [show e = p by omega] at g
  exact Or.inl g
theorem Ni.nb4 (m : Ni B n p e v) (h : p + 4 ≤ e) : Nb B n p := Or.inr (fun j hj => m.2.1 j (by omega))
theorem Ni.nu (m : Ni B n p e v) (h1 : p < e) (h2 : e ≤ p + 3) (g : ¬ Dg B n e) : Nu B n p (e - p) ∧ v = 2147483648 + nv B p (e - p) := by
  refine ⟨⟨m.2.1, by rw [show p + (e - p) = e by omega]; exact g, by omega, by omega⟩, ?_⟩
  have c := m.2.2
  rw [show min 3 (e - p) = e - p by omega] at c
  exact c
theorem Nr.cast {lo hi p' : Nat} (a : Nr B n lo hi p v q) (e : p = p') : Nr B n lo hi p' v q := by rw [← e]; exact a
theorem Ni.val {lo hi : Nat} (m : Ni B n p e v) (h1 : p < e) (h2 : e ≤ p + 3) (g : ¬ Dg B n e) (hr : r = v) (h3 : lo ≤ v) (h4 : v ≤ hi) (hq : q = e) : Nr B n lo hi p r (sk B n q) := by
  obtain ⟨a, b⟩ := m.nu h1 h2 g
  exact Nr.yes a (by omega) (by omega) (by omega) (by rw [hq]) (by omega)
theorem Ni.rng {lo hi : Nat} (m : Ni B n p e v) (h1 : p < e) (h2 : e ≤ p + 3) (g : ¬ Dg B n e) (hr : r = 2147483647) (h3 : v < lo ∨ hi < v) : Nr B n lo hi p r q := by
  obtain ⟨a, b⟩ := m.nu h1 h2 g
  exact Nr.nor hr a (by omega)
end LF
/-! ===== askedWord, one by one ===== -/
def xS1 (i : Nat) (h : xh) : Nat → xh → Prop := fun v h' => v = x_b (i + 1) ∧ h' = h
theorem x_cS1 {sc : Nat × Nat} {mi d c0 s0 pc np i : Nat} {lo st : List Nat} {h : xh} {Q : Nat → xh → Prop} {t mj n rc ml nr : Nat} {as rest lo1 : List Nat} (w : wd mi pc 12 np (mj + 4096 * n + 1048576 * t + 16777216 * rc)) (ht : t = 6 ∨ t = 8 ∨ (t = 0 ∧ rc = 0) ∨ (t = 7 ∧ rc = 0)) (g : x_cb mi mj n ml 0 0 c0 s0 = true) (hrc : x_rc rc as) (hst : st = as.reverse ++ rest) (hn : as.length = n) (hwa : iv_wl as ≤ n) (hwr : iv_wl rest ≤ nr) (h8 : nr ≤ 8) (hl : lo1 = as ++ List.replicate (ml - n) 147573952589676412928)
    (k : X sc mj d (xS1 i h) 0 0 0 lo1 [] h) (hi : i < 32) (k2 : X sc mi (d + 1) Q c0 s0 np lo (x_b (i + 1) :: rest) h) : X sc mi (d + 1) Q c0 s0 pc lo st h :=
  x_call w ht g hrc hst hn hwa hwr h8 hl k (fun v h' q => by
    obtain ⟨rfl, rfl⟩ := q
    exact Or.inl ⟨x_b_lt (by omega), k2⟩)
theorem c51_0 {sc : Nat × Nat} {d : Nat} {h : xh} : X sc 51 d (xS1 2 h) 0 0 0 [iv_c 2147483648] [] h := by
  refine x_iload (np := 1) (x := 0) (by decide +kernel) rfl (by decide) ?_
  refine x_tsw1 (np := 2) (x := 0) (by decide +kernel) (by decide) (i := 0) (lo9 := 2147483648) (hi9 := 2147483652) (tg := 36) (by decide +kernel) (by omega) (by omega) ?_
  refine x_ldcB (i := 2) (idx := 97) (tx := "day") (by rw [tb_y51]; exact List.mem_of_getElem? (i := 27) rfl) (by decide) (by rw [tb_b51]; decide +kernel) ?_
  exact x_retA (by decide) rfl (by rw [tb_b51]; decide +kernel) ⟨rfl, rfl⟩
theorem c51_1 {sc : Nat × Nat} {d : Nat} {h : xh} : X sc 51 d (xS1 27 h) 0 0 0 [iv_c 2147483649] [] h := by
  refine x_iload (np := 1) (x := 0) (by decide +kernel) rfl (by decide) ?_
  refine x_tsw1 (np := 2) (x := 0) (by decide +kernel) (by decide) (i := 1) (lo9 := 2147483648) (hi9 := 2147483652) (tg := 39) (by decide +kernel) (by omega) (by omega) ?_
  refine x_ldcB (i := 27) (idx := 99) (tx := "days") (by rw [tb_y51]; exact List.mem_of_getElem? (i := 28) rfl) (by decide) (by rw [tb_b51]; decide +kernel) ?_
  exact x_retA (by decide) rfl (by rw [tb_b51]; decide +kernel) ⟨rfl, rfl⟩
theorem c51_2 {sc : Nat × Nat} {d : Nat} {h : xh} : X sc 51 d (xS1 5 h) 0 0 0 [iv_c 2147483650] [] h := by
  refine x_iload (np := 1) (x := 0) (by decide +kernel) rfl (by decide) ?_
  refine x_tsw1 (np := 2) (x := 0) (by decide +kernel) (by decide) (i := 2) (lo9 := 2147483648) (hi9 := 2147483652) (tg := 42) (by decide +kernel) (by omega) (by omega) ?_
  refine x_ldcB (i := 5) (idx := 101) (tx := "pledge") (by rw [tb_y51]; exact List.mem_of_getElem? (i := 29) rfl) (by decide) (by rw [tb_b51]; decide +kernel) ?_
  exact x_retA (by decide) rfl (by rw [tb_b51]; decide +kernel) ⟨rfl, rfl⟩
theorem c51_3 {sc : Nat × Nat} {d : Nat} {h : xh} : X sc 51 d (xS1 28 h) 0 0 0 [iv_c 2147483651] [] h := by
  refine x_iload (np := 1) (x := 0) (by decide +kernel) rfl (by decide) ?_
  refine x_tsw1 (np := 2) (x := 0) (by decide +kernel) (by decide) (i := 3) (lo9 := 2147483648) (hi9 := 2147483652) (tg := 45) (by decide +kernel) (by omega) (by omega) ?_
  refine x_ldcB (i := 28) (idx := 103) (tx := "deep") (by rw [tb_y51]; exact List.mem_of_getElem? (i := 30) rfl) (by decide) (by rw [tb_b51]; decide +kernel) ?_
  exact x_retA (by decide) rfl (by rw [tb_b51]; decide +kernel) ⟨rfl, rfl⟩
theorem c51_4 {sc : Nat × Nat} {d : Nat} {h : xh} : X sc 51 d (xS1 29 h) 0 0 0 [iv_c 2147483652] [] h := by
  refine x_iload (np := 1) (x := 0) (by decide +kernel) rfl (by decide) ?_
  refine x_tsw1 (np := 2) (x := 0) (by decide +kernel) (by decide) (i := 4) (lo9 := 2147483648) (hi9 := 2147483652) (tg := 48) (by decide +kernel) (by omega) (by omega) ?_
  refine x_ldcB (i := 29) (idx := 105) (tx := "gives") (by rw [tb_y51]; exact List.mem_of_getElem? (i := 31) rfl) (by decide) (by rw [tb_b51]; decide +kernel) ?_
  exact x_retA (by decide) rfl (by rw [tb_b51]; decide +kernel) ⟨rfl, rfl⟩
theorem c51_5 {sc : Nat × Nat} {d : Nat} {h : xh} : X sc 51 d (xS1 30 h) 0 0 0 [iv_c 2147483653] [] h := by
  refine x_iload (np := 1) (x := 0) (by decide +kernel) rfl (by decide) ?_
  refine x_tsw0 (np := 2) (x := 0) (by decide +kernel) (by decide) (lo9 := 2147483648) (hi9 := 2147483652) (tg := 51) (by decide +kernel) (Or.inr (by decide)) ?_
  refine x_ldcB (i := 30) (idx := 107) (tx := "takes") (by rw [tb_y51]; exact List.mem_of_getElem? (i := 32) rfl) (by decide) (by rw [tb_b51]; decide +kernel) ?_
  exact x_retA (by decide) rfl (by rw [tb_b51]; decide +kernel) ⟨rfl, rfl⟩
/-! ===== feed: what comes onto the tapes ===== -/
/-- cell c: from s on k places are f's, all else as before -/
def Ap (c : Nat) (h h' : xh) (s k : Nat) (f : Nat → Nat) : Prop := (∀ u, (u < s ∨ s + k ≤ u) → h' c u = h c u) ∧ ∀ j, j < k → h' c (s + j) = f j
theorem Ap.zero {c s : Nat} {h : xh} {f : Nat → Nat} : Ap c h h s 0 f := ⟨fun _ _ => rfl, fun j hj => absurd hj (Nat.not_lt_zero _)⟩
theorem Ap.put {c s k i v : Nat} {h h1 : xh} {f : Nat → Nat} (a : Ap c h h1 s k f) (hi : i = s + k) (hv : v = f k) : Ap c h (x_up h1 c i v) s (k + 1) f := by
  refine ⟨fun u hu => ?_, fun j hj => ?_⟩
  · rw [x_up_i (by omega)]
    exact a.1 u (by omega)
  · by_cases e : j = k
    · rw [e, hi, x_up_at, hv]
    · rw [x_up_i (by omega)]
      exact a.2 j (by omega)
theorem Ap.oth {c s k q i v : Nat} {h h1 : xh} {f : Nat → Nat} (a : Ap c h h1 s k f) (hq : c ≠ q) : Ap c h (x_up h1 q i v) s k f :=
  ⟨fun u hu => by rw [x_up_k hq]; exact a.1 u hu, fun j hj => by rw [x_up_k hq]; exact a.2 j hj⟩
theorem Ap.app {c s s' k : Nat} {h h1 h2 : xh} {f g : Nat → Nat} (a : Ap c h h1 s k f) (b : Ap c h1 h2 s' 4 g) (hs : s' = s + k) (hg : ∀ j, j < 4 → g j = f (k + j)) : Ap c h h2 s (k + 4) f := by
  refine ⟨fun u hu => ?_, fun j hj => ?_⟩
  · rw [b.1 u (by omega)]
    exact a.1 u (by omega)
  · by_cases e : j < k
    · rw [b.1 (s + j) (by omega)]
      exact a.2 j e
    · have x := b.2 (j - k) (by omega)
      rw [show s' + (j - k) = s + j by omega] at x
      rw [x, hg _ (by omega), show k + (j - k) = j by omega]
theorem Ap.cast {c s s' k : Nat} {h h' : xh} {f : Nat → Nat} (a : Ap c h h' s k f) (e : s = s') : Ap c h h' s' k f := by rw [← e]; exact a
def f4 (a j : Nat) : Nat := b255 (bsh a (2147483672 - 8 * j))
def g4 (a j : Nat) : Nat := b8 (bsh a (2147483672 - 8 * j))
def pk5 (a b c d e k : Nat) : Nat := match k with
  | 0 => a
  | 1 => b
  | 2 => c
  | 3 => d
  | _ => e
def f20 (a b c d e j : Nat) : Nat := f4 (pk5 a b c d e (j / 4)) (j % 4)
def g20 (a b c d e j : Nat) : Nat := g4 (pk5 a b c d e (j / 4)) (j % 4)
theorem f20_q {a b c d e : Nat} (k : Nat) (hk : k < 5) (j : Nat) (hj : j < 4) : f4 (pk5 a b c d e k) j = f20 a b c d e (4 * k + j) := by
  unfold f20
  rw [show (4 * k + j) / 4 = k by omega, show (4 * k + j) % 4 = j by omega]
/-- the two tapes are alike -/
def Ty (h : xh) : Prop := ∀ u, u < 400 → byE (h 2 u) (h 79 u)
theorem Ty.fr {h h' : xh} {m : Nat} (t : Ty h) (f : Fr m h h') (g1 : Nat.testBit m 6 = false) (g2 : Nat.testBit m 29 = false) : Ty h' := fun u hu => by
  rw [f 2 u (by rw [show x_gr 2 u = 6 from rfl]; exact g1), f 79 u (by rw [show x_gr 79 u = 29 from rfl]; exact g2)]
  exact t u hu
theorem Ty.feed {h h1 h2 h3 : xh} {s a b c d e m m2 : Nat} (t : Ty h) (x : Ap 2 h h1 s 20 (f20 a b c d e)) (f : Fr m h h1) (gm : Nat.testBit m 29 = false) (y : Ap 79 h1 h2 s 20 (g20 a b c d e)) (f2 : Fr m2 h1 h2) (gb : Nat.testBit m2 6 = false) : Ty h2 := fun u hu => by
  rw [f2 2 u (by rw [show x_gr 2 u = 6 from rfl]; exact gb)]
  by_cases z : u < s ∨ s + 20 ≤ u
  · rw [x.1 u z, y.1 u z, f 79 u (by rw [show x_gr 79 u = 29 from rfl]; exact gm)]
    exact t u hu
  · have p := x.2 (u - s) (by omega)
    have q := y.2 (u - s) (by omega)
    rw [show s + (u - s) = u by omega] at p q
    rw [p, q]
    unfold f20 g20 f4 g4
    exact byE_of _
/-- the text on both tapes -/
def tb9 (h : xh) : Nat → Nat := fun p => h 2 (p - 2147483648)
theorem Ty.tp {h : xh} : Tp (tb9 h) (h 1 1) h := ⟨rfl, fun u hu => by
  show h 2 u = h 2 (2147483648 + u - 2147483648)
  rw [Nat.add_sub_cancel_left]⟩
theorem Ty.tr {h h1 : xh} {m n : Nat} (t : Ty h) (f : Fr m h h1) (g : Nat.testBit m 29 = false) (e : h1 75 6 = n) : Tr (tb9 h) n h1 := ⟨e, fun u hu => by
  show byE (h 2 (2147483648 + u - 2147483648)) (h1 79 u)
  rw [Nat.add_sub_cancel_left, f 79 u (by rw [show x_gr 79 u = 29 from rfl]; exact g)]
  exact t u hu⟩
/-! ===== the town's text ===== -/
theorem tx_inj : ∀ i, i < 32 → ∀ j, j < 32 → iv_tl i = iv_tl j → (∀ k, k < iv_tl i → iv_tc i k = iv_tc j k) → i = j := by decide +kernel
/-- one word alone stands at a place -/
theorem Wd.inj {B : Nat → Nat} {n i j p : Nat} (hi : i < 32) (hj : j < 32) (a : Wd B n i p) (b : Wd B n j p) : i = j := by
  have e := a.same hi hj b
  exact tx_inj i hi j hj e (fun k hk => by have x := a.2.1 k hk; have y := b.2.1 k (by omega); omega)
theorem Nr.same {B : Nat → Nat} {n lo hi p v q v' q' : Nat} (a : Nr B n lo hi p v q) (b : Nr B n lo hi p v' q') : v = v' ∧ (v ≠ 2147483647 → q = q') := by
  rcases a with ⟨d, a1, a2, a3, a4, a5⟩ | ⟨a1, a2⟩ <;> rcases b with ⟨d', b1, b2, b3, b4, b5⟩ | ⟨b1, b2⟩
  · have e := a1.same b1
    subst e
    exact ⟨by omega, fun _ => by rw [a5, b5]⟩
  · exfalso
    rcases b2 with b2 | ⟨d', b2, b3⟩
    · exact a1.nb b2
    · have e := a1.same b2
      subst e
      exact b3 ⟨by omega, by omega⟩
  · exfalso
    rcases a2 with a2 | ⟨d, a2, a3⟩
    · exact b1.nb a2
    · have e := b1.same a2
      subst e
      exact a3 ⟨by omega, by omega⟩
  · exact ⟨by omega, fun z => absurd a1 z⟩
def wd9 (B : Nat → Nat) (n i : Nat) (K : Nat → Option Nat → Prop) (p : Nat) (r : Option Nat) : Prop := (Wd B n i p ∧ K (sk B n (p + iv_tl i)) r) ∨ (¬ Wd B n i p ∧ r = none)
def or9 (B : Nat → Nat) (n i : Nat) (K L : Nat → Option Nat → Prop) (p : Nat) (r : Option Nat) : Prop := (Wd B n i p ∧ K (sk B n (p + iv_tl i)) r) ∨ (¬ Wd B n i p ∧ L p r)
def nm9 (B : Nat → Nat) (n lo hi : Nat) (K : Nat → Nat → Option Nat → Prop) (p : Nat) (r : Option Nat) : Prop := ∃ v q, Nr B n lo hi p v q ∧ ((v = 2147483647 ∧ r = none) ∨ (v ≠ 2147483647 ∧ K v q r))
def fin9 (p : Nat) (r : Option Nat) : Prop := r = some p
def Det (K : Nat → Option Nat → Prop) : Prop := ∀ p r r', K p r → K p r' → r = r'
section DT
variable {B : Nat → Nat} {n i lo hi : Nat} {K L : Nat → Option Nat → Prop}
theorem Det.wd (k : Det K) : Det (wd9 B n i K) := fun p r r' a b => by
  rcases a with ⟨a1, a2⟩ | ⟨a1, a2⟩ <;> rcases b with ⟨b1, b2⟩ | ⟨b1, b2⟩
  · exact k _ _ _ a2 b2
  · exact absurd a1 b1
  · exact absurd b1 a1
  · rw [a2, b2]
theorem Det.or (k : Det K) (l : Det L) : Det (or9 B n i K L) := fun p r r' a b => by
  rcases a with ⟨a1, a2⟩ | ⟨a1, a2⟩ <;> rcases b with ⟨b1, b2⟩ | ⟨b1, b2⟩
  · exact k _ _ _ a2 b2
  · exact absurd a1 b1
  · exact absurd b1 a1
  · exact l _ _ _ a2 b2
theorem Det.nm {M : Nat → Nat → Option Nat → Prop} (k : ∀ v, Det (M v)) : Det (nm9 B n lo hi M) := fun p r r' a b => by
  obtain ⟨v, q, f, a⟩ := a
  obtain ⟨v', q', f', b⟩ := b
  obtain ⟨e1, e2⟩ := f.same f'
  subst e1
  rcases a with ⟨a1, a2⟩ | ⟨a1, a2⟩ <;> rcases b with ⟨b1, b2⟩ | ⟨b1, b2⟩
  · rw [a2, b2]
  · exact absurd a1 b1
  · exact absurd b1 a1
  · rw [← e2 a1] at b2
    exact k v _ _ _ a2 b2
theorem Det.fin : Det fin9 := fun p r r' a b => by
  unfold fin9 at a b
  rw [a, b]
end DT
/-- numbers with 'or' between them -/
def Bl_R (B : Nat → Nat) (n hi : Nat) (R : Nat → Option Nat → Prop) (p : Nat) (r : Option Nat) : Prop :=
  (∃ v q, r = none ∧ Nr B n 2147483648 hi p v q ∧ v = 2147483647) ∨
  (∃ v q, r = some q ∧ Nr B n 2147483648 hi p v q ∧ v ≠ 2147483647 ∧ ¬ Wd B n 15 q) ∨
  (∃ v q, Nr B n 2147483648 hi p v q ∧ v ≠ 2147483647 ∧ Wd B n 15 q ∧ R (sk B n (q + iv_tl 15)) r)
def Bl (B : Nat → Nat) (n hi : Nat) (p : Nat) (r : Option Nat) : Prop := ∀ R : Nat → Option Nat → Prop, (∀ p r, Bl_R B n hi R p r → R p r) → R p r
theorem Bl_R.mono {B : Nat → Nat} {n hi : Nat} {R S : Nat → Option Nat → Prop} (h : ∀ p r, R p r → S p r) {p : Nat} {r : Option Nat} (x : Bl_R B n hi R p r) : Bl_R B n hi S p r := by
  rcases x with ⟨v, q, e0, a0, a1⟩ | ⟨v, q, e0, a0, a1, a2⟩ | ⟨v, q, a0, a1, a2, a3⟩
  · exact (Or.inl ⟨v, q, e0, a0, a1⟩)
  · exact (Or.inr (Or.inl ⟨v, q, e0, a0, a1, a2⟩))
  · exact (Or.inr (Or.inr ⟨v, q, a0, a1, a2, h _ _ a3⟩))
theorem Bl.mk {B : Nat → Nat} {n hi : Nat} {p : Nat} {r : Option Nat} (x : Bl_R B n hi (Bl B n hi) p r) : Bl B n hi p r := fun R c => c _ _ (Bl_R.mono (fun _ _ z => z R c) x)
theorem Bl.inv {B : Nat → Nat} {n hi : Nat} {p : Nat} {r : Option Nat} (x : Bl B n hi p r) : Bl_R B n hi (Bl B n hi) p r := x (fun p r => Bl_R B n hi (Bl B n hi) p r) (fun _ _ z => Bl_R.mono (fun _ _ y => Bl.mk y) z)
theorem Bl.ind {B : Nat → Nat} {n hi : Nat} {C : Nat → Option Nat → Prop} (st : ∀ p r, Bl_R B n hi (fun p r => Bl B n hi p r ∧ C p r) p r → C p r) {p : Nat} {r : Option Nat} (x : Bl B n hi p r) : C p r :=
  (x (fun p r => Bl B n hi p r ∧ C p r) (fun _ _ z => ⟨Bl.mk (Bl_R.mono (fun _ _ y => y.1) z), st _ _ z⟩)).2
theorem Bl.bno {B : Nat → Nat} {n hi : Nat} {v : Nat} {q : Nat} {p : Nat} (a0 : Nr B n 2147483648 hi p v q) (a1 : v = 2147483647) : Bl B n hi p none := Bl.mk (Or.inl ⟨v, q, rfl, a0, a1⟩)
theorem Bl.bend {B : Nat → Nat} {n hi : Nat} {v : Nat} {q : Nat} {p : Nat} (a0 : Nr B n 2147483648 hi p v q) (a1 : v ≠ 2147483647) (a2 : ¬ Wd B n 15 q) : Bl B n hi p (some q) := Bl.mk (Or.inr (Or.inl ⟨v, q, rfl, a0, a1, a2⟩))
theorem Bl.bgo {B : Nat → Nat} {n hi : Nat} {v : Nat} {q : Nat} {p : Nat} {r : Option Nat} (a0 : Nr B n 2147483648 hi p v q) (a1 : v ≠ 2147483647) (a2 : Wd B n 15 q) (a3 : Bl B n hi (sk B n (q + iv_tl 15)) r) : Bl B n hi p r := Bl.mk (Or.inr (Or.inr ⟨v, q, a0, a1, a2, a3⟩))
theorem Bl.same {B : Nat → Nat} {n hi p : Nat} {r : Option Nat} (a : Bl B n hi p r) : ∀ r', Bl B n hi p r' → r = r' := by
  refine Bl.ind (C := fun p r => ∀ r', Bl B n hi p r' → r = r') ?_ a
  intro p r x
  rcases x with ⟨v, q, rfl, f, e⟩ | ⟨v, q, rfl, f, e, w⟩ | ⟨v, q, f, e, w, ⟨_, ih⟩⟩
  · intro r' b
    rcases b.inv with ⟨v', q', rfl, f', e'⟩ | ⟨v', q', rfl, f', e', w'⟩ | ⟨v', q', f', e', w', b'⟩
    · rfl
    · exact absurd (((f.same f').1).symm.trans e) e'
    · exact absurd (((f.same f').1).symm.trans e) e'
  · intro r' b
    rcases b.inv with ⟨v', q', rfl, f', e'⟩ | ⟨v', q', rfl, f', e', w'⟩ | ⟨v', q', f', e', w', b'⟩
    · exact absurd (((f.same f').1).trans e') e
    · rw [(f.same f').2 e]
    · rw [← (f.same f').2 e] at w'
      exact absurd w' w
  · intro r' b
    rcases b.inv with ⟨v', q', rfl, f', e'⟩ | ⟨v', q', rfl, f', e', w'⟩ | ⟨v', q', f', e', w', b'⟩
    · exact absurd (((f.same f').1).trans e') e
    · rw [← (f.same f').2 e] at w'
      exact absurd w w'
    · rw [← (f.same f').2 e] at b'
      exact ih _ b'
def bl9 (B : Nat → Nat) (n hi : Nat) (K : Nat → Option Nat → Prop) (p : Nat) (r : Option Nat) : Prop := (Bl B n hi p none ∧ r = none) ∨ ∃ q, Bl B n hi p (some q) ∧ K q r
theorem Det.bl {B : Nat → Nat} {n hi : Nat} {K : Nat → Option Nat → Prop} (k : Det K) : Det (bl9 B n hi K) := fun p r r' a b => by
  rcases a with ⟨a1, a2⟩ | ⟨q, a1, a2⟩ <;> rcases b with ⟨b1, b2⟩ | ⟨q', b1, b2⟩
  · rw [a2, b2]
  · exact absurd (a1.same _ b1) (by simp)
  · exact absurd (a1.same _ b1) (by simp)
  · have e := a1.same _ b1
    injection e with e
    subst e
    exact k _ _ _ a2 b2
section TL
variable (B : Nat → Nat) (n : Nat)
def pl9 : Nat → Option Nat → Prop := or9 B n 5 (nm9 B n 2147483648 2147484647 fun _ => fin9) fin9
def loan9 (pe : Nat) : Nat → Option Nat → Prop := nm9 B n 2147483648 (pe - 1) fun _ => wd9 B n 1 (nm9 B n 2147483648 (pe - 1) fun _ => wd9 B n 2 (nm9 B n 2147483648 2147483659 fun _ => wd9 B n 3 (nm9 B n 2147483649 2147483660 fun _ => or9 B n 4 (pl9 B n) (pl9 B n))))
def late9 (l : Nat) : Nat → Option Nat → Prop := nm9 B n 2147483648 (l - 1) fun _ => wd9 B n 18 (nm9 B n 2147483649 2147483660 fun _ => fin9)
def dies9 (pe : Nat) : Nat → Option Nat → Prop := nm9 B n 2147483648 (pe - 1) fun _ => wd9 B n 2 (nm9 B n 2147483648 2147483659 fun _ => fin9)
def court9 : Nat → Option Nat → Prop := wd9 B n 2 (nm9 B n 2147483648 2147483659 fun _ => fin9)
def letter9 (pe : Nat) : Nat → Option Nat → Prop := nm9 B n 2147483648 (pe - 1) fun _ => wd9 B n 2 (nm9 B n 2147483648 2147483659 fun x => wd9 B n 7 (nm9 B n x 2147483659 fun _ => fin9))
def de9 (pe : Nat) : Nat → Option Nat → Prop := nm9 B n 2147483648 (pe - 1) fun _ => wd9 B n 2 (nm9 B n 2147483648 2147483659 fun x => wd9 B n 11 (nm9 B n x 2147483659 fun _ => wd9 B n 12 (nm9 B n 2147483648 2147484647 fun _ => fin9)))
def debt9 (pe : Nat) : Nat → Option Nat → Prop := or9 B n 9 (de9 B n pe) (wd9 B n 10 (de9 B n pe))
def seen9 (pe : Nat) : Nat → Option Nat → Prop := nm9 B n 2147483648 (pe - 1) fun _ => wd9 B n 2 (nm9 B n 2147483648 2147483659 fun x => wd9 B n 14 (bl9 B n (pe - 1) (wd9 B n 16 (nm9 B n x 2147483659 fun _ => fin9))))
/-- a line: people, how many loans, letters, debts, sightings; behind it the place and the numbers then -/
def line9 (pe l t d s p : Nat) (r : Option (Nat × Nat × Nat × Nat × Nat)) : Prop :=
  (Wd B n 0 p ∧ ((2147483668 ≤ l ∧ r = none) ∨ (l < 2147483668 ∧ ∃ o, loan9 B n pe (sk B n (p + iv_tl 0)) o ∧ r = o.map fun q => (q, l + 1, t, d, s)))) ∨
  (Wd B n 6 p ∧ ((2147483658 ≤ t ∧ r = none) ∨ (t < 2147483658 ∧ ∃ o, letter9 B n pe (sk B n (p + iv_tl 6)) o ∧ r = o.map fun q => (q, l, t + 1, d, s)))) ∨
  (Wd B n 8 p ∧ ((2147483658 ≤ d ∧ r = none) ∨ (d < 2147483658 ∧ ∃ o, debt9 B n pe (sk B n (p + iv_tl 8)) o ∧ r = o.map fun q => (q, l, t, d + 1, s)))) ∨
  (Wd B n 13 p ∧ ((2147483658 ≤ s ∧ r = none) ∨ (s < 2147483658 ∧ ∃ o, seen9 B n pe (sk B n (p + iv_tl 13)) o ∧ r = o.map fun q => (q, l, t, d, s + 1)))) ∨
  (Wd B n 17 p ∧ ∃ o, late9 B n l (sk B n (p + iv_tl 17)) o ∧ r = o.map fun q => (q, l, t, d, s)) ∨
  (Wd B n 19 p ∧ ∃ o, dies9 B n pe (sk B n (p + iv_tl 19)) o ∧ r = o.map fun q => (q, l, t, d, s)) ∨
  (Wd B n 20 p ∧ ∃ o, court9 B n (sk B n (p + iv_tl 20)) o ∧ r = o.map fun q => (q, l, t, d, s)) ∨
  ((¬ Wd B n 0 p ∧ ¬ Wd B n 6 p ∧ ¬ Wd B n 8 p ∧ ¬ Wd B n 13 p ∧ ¬ Wd B n 17 p ∧ ¬ Wd B n 19 p ∧ ¬ Wd B n 20 p) ∧ r = none)
/-- the lines: m more may come -/
def town9 (pe : Nat) : Nat → Nat → Nat → Nat → Nat → Nat → Option (Nat × Nat × Nat × Nat) → Prop
  | 0, _, _, _, _, _, r => r = none
  | m + 1, l, t, d, s, p, r => ∃ o, line9 B n pe l t d s p o ∧ ((o = none ∧ r = none) ∨ ∃ q l' t' d' s', o = some (q, l', t', d', s') ∧ ((n ≤ q ∧ r = some (l', t', d', s')) ∨ (q < n ∧ ¬ Sg B n 2147483707 q ∧ r = none) ∨ (Sg B n 2147483707 q ∧ town9 pe m l' t' d' s' (sk B n (q + 1)) r)))
def Tt (pe l t d s : Nat) (r : Option (Nat × Nat × Nat × Nat)) : Prop := (n ≤ sk B n 2147483648 ∧ r = some (l, t, d, s)) ∨ (sk B n 2147483648 < n ∧ town9 B n pe 14 l t d s (sk B n 2147483648) r)
end TL
section TD
variable {B : Nat → Nat} {n : Nat}
theorem pl9_d : Det (pl9 B n) := Det.or (Det.nm fun _ => Det.fin) Det.fin
theorem loan9_d {pe : Nat} : Det (loan9 B n pe) := Det.nm fun _ => Det.wd (Det.nm fun _ => Det.wd (Det.nm fun _ => Det.wd (Det.nm fun _ => Det.or pl9_d pl9_d)))
theorem late9_d {l : Nat} : Det (late9 B n l) := Det.nm fun _ => Det.wd (Det.nm fun _ => Det.fin)
theorem dies9_d {pe : Nat} : Det (dies9 B n pe) := Det.nm fun _ => Det.wd (Det.nm fun _ => Det.fin)
theorem court9_d : Det (court9 B n) := Det.wd (Det.nm fun _ => Det.fin)
theorem letter9_d {pe : Nat} : Det (letter9 B n pe) := Det.nm fun _ => Det.wd (Det.nm fun _ => Det.wd (Det.nm fun _ => Det.fin))
theorem de9_d {pe : Nat} : Det (de9 B n pe) := Det.nm fun _ => Det.wd (Det.nm fun _ => Det.wd (Det.nm fun _ => Det.wd (Det.nm fun _ => Det.fin)))
theorem debt9_d {pe : Nat} : Det (debt9 B n pe) := Det.or de9_d (Det.wd de9_d)
theorem seen9_d {pe : Nat} : Det (seen9 B n pe) := Det.nm fun _ => Det.wd (Det.nm fun _ => Det.wd (Det.bl (Det.wd (Det.nm fun _ => Det.fin))))
/-- which word begins the line -/
def Lk (B : Nat → Nat) (n p k : Nat) : Prop := (k = 0 ∨ k = 6 ∨ k = 8 ∨ k = 13 ∨ k = 17 ∨ k = 19 ∨ k = 20) ∧ Wd B n k p
theorem Lk.same {p k m : Nat} (a : Lk B n p k) (b : Lk B n p m) : k = m := a.2.inj (by have := a.1; omega) (by have := b.1; omega) b.2
theorem line9_d {pe l t d s p : Nat} {r r' : Option (Nat × Nat × Nat × Nat × Nat)} (a : line9 B n pe l t d s p r) (b : line9 B n pe l t d s p r') : r = r' := by
  rcases a with ⟨w, a⟩ | ⟨w, a⟩ | ⟨w, a⟩ | ⟨w, a⟩ | ⟨w, o, a1, a2⟩ | ⟨w, o, a1, a2⟩ | ⟨w, o, a1, a2⟩ | ⟨⟨w1, w2, w3, w4, w5, w6, w7⟩, a⟩ <;>
    rcases b with ⟨y, b⟩ | ⟨y, b⟩ | ⟨y, b⟩ | ⟨y, b⟩ | ⟨y, o', b1, b2⟩ | ⟨y, o', b1, b2⟩ | ⟨y, o', b1, b2⟩ | ⟨⟨y1, y2, y3, y4, y5, y6, y7⟩, b⟩ <;>
    first
    | exact absurd (w.inj (by decide) (by decide) y) (by decide)
    | exact absurd w y1
    | exact absurd w y2
    | exact absurd w y3
    | exact absurd w y4
    | exact absurd w y5
    | exact absurd w y6
    | exact absurd w y7
    | exact absurd y w1
    | exact absurd y w2
    | exact absurd y w3
    | exact absurd y w4
    | exact absurd y w5
    | exact absurd y w6
    | exact absurd y w7
    | (rw [a2, b2, late9_d _ _ _ a1 b1]; done)
    | (rw [a2, b2, dies9_d _ _ _ a1 b1]; done)
    | (rw [a2, b2, court9_d _ _ _ a1 b1]; done)
    | (rw [a, b]; done)
    | (rcases a with ⟨a1, a2⟩ | ⟨a1, o, a2, a3⟩ <;> rcases b with ⟨b1, b2⟩ | ⟨b1, o', b2, b3⟩ <;> first | omega | (rw [a2, b2]; done) | (rw [a3, b3, loan9_d _ _ _ a2 b2]; done) | (rw [a3, b3, letter9_d _ _ _ a2 b2]; done) | (rw [a3, b3, debt9_d _ _ _ a2 b2]; done) | (rw [a3, b3, seen9_d _ _ _ a2 b2]; done))
theorem town9_d {pe : Nat} : ∀ {m l t d s p : Nat} {r r' : Option (Nat × Nat × Nat × Nat)}, town9 B n pe m l t d s p r → town9 B n pe m l t d s p r' → r = r' := by
  intro m
  induction m with
  | zero =>
    intro l t d s p r r' a b
    have a : r = none := a
    have b : r' = none := b
    rw [a, b]
  | succ m ih =>
    intro l t d s p r r' a b
    obtain ⟨o, a1, a2⟩ := a
    obtain ⟨o', b1, b2⟩ := b
    have e := line9_d a1 b1
    subst e
    rcases a2 with ⟨a2, a3⟩ | ⟨q, l1, t1, d1, s1, a2, a3⟩ <;> rcases b2 with ⟨b2, b3⟩ | ⟨q', l2, t2, d2, s2, b2, b3⟩
    · rw [a3, b3]
    · rw [a2] at b2
      cases b2
    · rw [a2] at b2
      cases b2
    · rw [a2] at b2
      injection b2 with b2
      injection b2 with e1 b2
      injection b2 with e2 b2
      injection b2 with e3 b2
      injection b2 with e4 e5
      subst e1 e2 e3 e4 e5
      rcases a3 with ⟨a3, a4⟩ | ⟨a3, a4, a5⟩ | ⟨a3, a4⟩ <;> rcases b3 with ⟨b3, b4⟩ | ⟨b3, b4, b5⟩ | ⟨b3, b4⟩
      · rw [a4, b4]
      · omega
      · have := b3.1; omega
      · omega
      · rw [a5, b5]
      · exact absurd b3 a4
      · have := a3.1; omega
      · exact absurd a3 b4
      · exact ih a4 b4
theorem Tt.same {pe l t d s : Nat} {r r' : Option (Nat × Nat × Nat × Nat)} (a : Tt B n pe l t d s r) (b : Tt B n pe l t d s r') : r = r' := by
  rcases a with ⟨a1, a2⟩ | ⟨a1, a2⟩ <;> rcases b with ⟨b1, b2⟩ | ⟨b1, b2⟩
  · rw [a2, b2]
  · omega
  · omega
  · exact town9_d a2 b2
end TD
/-! ===== the town's text: its steps ===== -/
section US
variable {B : Nat → Nat} {n i lo hi lo1 hi1 p q q' p1 v R : Nat} {K L : Nat → Option Nat → Prop} {M : Nat → Nat → Option Nat → Prop} {r : Option Nat}
theorem wd9.y (w : Wd B n i p1) (e : p1 = p) (f : q = sk B n (p1 + iv_tl i)) (g : q = q') (k : K q' r) : wd9 B n i K p r := by
  rw [e] at w f
  rw [← g, f] at k
  exact Or.inl ⟨w, k⟩
theorem wd9.f (w : ¬ Wd B n i p1) (e : p1 = p) (hr : R = 2147483648) : wd9 B n i K p (rs R q) := by
  rw [e] at w
  exact Or.inr ⟨w, rs0 hr⟩
theorem or9.y (w : Wd B n i p1) (e : p1 = p) (f : q = sk B n (p1 + iv_tl i)) (g : q = q') (k : K q' r) : or9 B n i K L p r := by
  rw [e] at w f
  rw [← g, f] at k
  exact Or.inl ⟨w, k⟩
theorem or9.f (w : ¬ Wd B n i p1) (e : p1 = p) (g : q' = p) (k : L q' r) : or9 B n i K L p r := by
  rw [e] at w
  rw [g] at k
  exact Or.inr ⟨w, k⟩
theorem nm9.y (f : Nr B n lo1 hi1 p1 v q) (e1 : lo1 = lo) (e2 : hi1 = hi) (e : p1 = p) (hv : v ≠ 2147483647) (g : q = q') (k : M v q' r) : nm9 B n lo hi M p r := by
  rw [e1, e2, e, g] at f
  exact ⟨v, q', f, Or.inr ⟨hv, k⟩⟩
theorem nm9.f (f : Nr B n lo1 hi1 p1 v q) (e1 : lo1 = lo) (e2 : hi1 = hi) (e : p1 = p) (hv : v = 2147483647) (hr : R = 2147483648) : nm9 B n lo hi M p (rs R q') := by
  rw [e1, e2, e] at f
  exact ⟨v, q, f, Or.inl ⟨hv, rs0 hr⟩⟩
theorem fin9.mk (hr : R = 2147483649) (e : p = q') : fin9 p (rs R q') := by
  unfold fin9
  rw [rs1 hr, e]
theorem bl9.f {a : Nat} (f : Bl B n hi1 p1 (rs a q)) (e2 : hi1 = hi) (e : p1 = p) (ha : a = 2147483648) (hr : R = 2147483648) : bl9 B n hi K p (rs R q') := by
  rw [rs0 ha, e2, e] at f
  exact Or.inl ⟨f, rs0 hr⟩
theorem bl9.y {a : Nat} (f : Bl B n hi1 p1 (rs a q)) (e2 : hi1 = hi) (e : p1 = p) (ha : a = 2147483649) (g : q = q') (k : K q' r) : bl9 B n hi K p r := by
  rw [rs1 ha, e2, e, g] at f
  exact Or.inr ⟨q', f, k⟩
/-- what is left of a row of bodies -/
def Bq (B : Nat → Nat) (n hi p p0 : Nat) : Prop := ∀ r, Bl B n hi p r → Bl B n hi p0 r
theorem Bq.zero (e : p = p1) : Bq B n hi p p1 := fun r h => by rw [← e]; exact h
variable {p0 p2 q2 : Nat}
theorem Bq.no (m : Bq B n hi p p0) (f : Nr B n lo1 hi1 p1 v q) (e1 : lo1 = 2147483648) (e2 : hi1 = hi) (e : p1 = p) (hv : v = 2147483647) (hr : R = 2147483648) : Bl B n hi p0 (rs R q') := by
  rw [e1, e2, e] at f
  rw [rs0 hr]
  exact m _ (Bl.bno f hv)
theorem Bq.fin (m : Bq B n hi p p0) (f : Nr B n lo1 hi1 p1 v q) (e1 : lo1 = 2147483648) (e2 : hi1 = hi) (e : p1 = p) (hv : v ≠ 2147483647) (w : ¬ Wd B n 15 p2) (g : p2 = q) (hr : R = 2147483649) (hq : q = q') : Bl B n hi p0 (rs R q') := by
  rw [e1, e2, e] at f
  rw [g] at w
  rw [rs1 hr, ← hq]
  exact m _ (Bl.bend f hv w)
theorem Bq.go (m : Bq B n hi p p0) (f : Nr B n lo1 hi1 p1 v q) (e1 : lo1 = 2147483648) (e2 : hi1 = hi) (e : p1 = p) (hv : v ≠ 2147483647) (w : Wd B n 15 p2) (g : p2 = q) (h : q2 = sk B n (p2 + iv_tl 15)) (hq : q2 = q') : Bq B n hi q' p0 := by
  rw [e1, e2, e] at f
  rw [g] at w h
  rw [← hq, h]
  exact fun r z => m _ (Bl.bgo f hv w z)
end US
/-- with an answer: the place and the numbers -/
def rs5 (r q a b c d : Nat) : Option (Nat × Nat × Nat × Nat × Nat) := if r = 2147483649 then some (q, a, b, c, d) else none
def rs4 (r a b c d : Nat) : Option (Nat × Nat × Nat × Nat) := if r = 2147483649 then some (a, b, c, d) else none
theorem rs5_1 {r q a b c d : Nat} (h : r = 2147483649) : rs5 r q a b c d = some (q, a, b, c, d) := if_pos h
theorem rs5_0 {r q a b c d : Nat} (h : r = 2147483648) : rs5 r q a b c d = none := if_neg (by omega)
theorem rs5_m {r x q q1 a b c d a1 b1 c1 d1 : Nat} (hr : r = x) (hx : x = 2147483648 ∨ x = 2147483649) (h : x = 2147483649 → q1 = q ∧ a1 = a ∧ b1 = b ∧ c1 = c ∧ d1 = d) : rs5 r q a b c d = (rs x q1).map fun z => (z, a1, b1, c1, d1) := by
  rcases hx with y | y
  · rw [rs5_0 (hr.trans y), rs0 y]
    rfl
  · obtain ⟨rfl, rfl, rfl, rfl, rfl⟩ := h y
    rw [rs5_1 (hr.trans y), rs1 y]
    rfl
section UL
variable {B : Nat → Nat} {n pe l t d s p p1 q1 p2 q2 r x q a b c e f : Nat}
theorem l9_lend0 (w : Wd B n 0 p1) (e1 : p1 = p) (h : 2147483668 ≤ l) (hr : r = 2147483648) : line9 B n pe l t d s p (rs5 r q a b c e) := by
  rw [e1] at w
  exact Or.inl ⟨w, Or.inl ⟨h, rs5_0 hr⟩⟩
theorem l9_lend (w : Wd B n 0 p1) (e1 : p1 = p) (h : l < 2147483668) (f1 : q1 = sk B n (p1 + iv_tl 0)) (e2 : p2 = q1) (k : loan9 B n pe p2 (rs x q2)) (hr : r = x) (hx : x = 2147483648 ∨ x = 2147483649) (g : x = 2147483649 → q2 = q ∧ l + 1 = a ∧ t = b ∧ d = c ∧ s = e) : line9 B n pe l t d s p (rs5 r q a b c e) := by
  rw [e1] at w f1
  rw [e2, f1] at k
  exact Or.inl ⟨w, Or.inr ⟨h, _, k, rs5_m hr hx g⟩⟩
theorem l9_letter0 (w : Wd B n 6 p1) (e1 : p1 = p) (h : 2147483658 ≤ t) (hr : r = 2147483648) : line9 B n pe l t d s p (rs5 r q a b c e) := by
  rw [e1] at w
  exact Or.inr (Or.inl ⟨w, Or.inl ⟨h, rs5_0 hr⟩⟩)
theorem l9_letter (w : Wd B n 6 p1) (e1 : p1 = p) (h : t < 2147483658) (f1 : q1 = sk B n (p1 + iv_tl 6)) (e2 : p2 = q1) (k : letter9 B n pe p2 (rs x q2)) (hr : r = x) (hx : x = 2147483648 ∨ x = 2147483649) (g : x = 2147483649 → q2 = q ∧ l = a ∧ t + 1 = b ∧ d = c ∧ s = e) : line9 B n pe l t d s p (rs5 r q a b c e) := by
  rw [e1] at w f1
  rw [e2, f1] at k
  exact Or.inr (Or.inl ⟨w, Or.inr ⟨h, _, k, rs5_m hr hx g⟩⟩)
theorem l9_debt0 (w : Wd B n 8 p1) (e1 : p1 = p) (h : 2147483658 ≤ d) (hr : r = 2147483648) : line9 B n pe l t d s p (rs5 r q a b c e) := by
  rw [e1] at w
  exact Or.inr (Or.inr (Or.inl ⟨w, Or.inl ⟨h, rs5_0 hr⟩⟩))
theorem l9_debt (w : Wd B n 8 p1) (e1 : p1 = p) (h : d < 2147483658) (f1 : q1 = sk B n (p1 + iv_tl 8)) (e2 : p2 = q1) (k : debt9 B n pe p2 (rs x q2)) (hr : r = x) (hx : x = 2147483648 ∨ x = 2147483649) (g : x = 2147483649 → q2 = q ∧ l = a ∧ t = b ∧ d + 1 = c ∧ s = e) : line9 B n pe l t d s p (rs5 r q a b c e) := by
  rw [e1] at w f1
  rw [e2, f1] at k
  exact Or.inr (Or.inr (Or.inl ⟨w, Or.inr ⟨h, _, k, rs5_m hr hx g⟩⟩))
theorem l9_seen0 (w : Wd B n 13 p1) (e1 : p1 = p) (h : 2147483658 ≤ s) (hr : r = 2147483648) : line9 B n pe l t d s p (rs5 r q a b c e) := by
  rw [e1] at w
  exact Or.inr (Or.inr (Or.inr (Or.inl ⟨w, Or.inl ⟨h, rs5_0 hr⟩⟩)))
theorem l9_seen (w : Wd B n 13 p1) (e1 : p1 = p) (h : s < 2147483658) (f1 : q1 = sk B n (p1 + iv_tl 13)) (e2 : p2 = q1) (k : seen9 B n pe p2 (rs x q2)) (hr : r = x) (hx : x = 2147483648 ∨ x = 2147483649) (g : x = 2147483649 → q2 = q ∧ l = a ∧ t = b ∧ d = c ∧ s + 1 = e) : line9 B n pe l t d s p (rs5 r q a b c e) := by
  rw [e1] at w f1
  rw [e2, f1] at k
  exact Or.inr (Or.inr (Or.inr (Or.inl ⟨w, Or.inr ⟨h, _, k, rs5_m hr hx g⟩⟩)))
theorem l9_late (w : Wd B n 17 p1) (e1 : p1 = p) (f1 : q1 = sk B n (p1 + iv_tl 17)) (e2 : p2 = q1) (k : late9 B n l p2 (rs x q2)) (hr : r = x) (hx : x = 2147483648 ∨ x = 2147483649) (g : x = 2147483649 → q2 = q ∧ l = a ∧ t = b ∧ d = c ∧ s = e) : line9 B n pe l t d s p (rs5 r q a b c e) := by
  rw [e1] at w f1
  rw [e2, f1] at k
  exact Or.inr (Or.inr (Or.inr (Or.inr (Or.inl ⟨w, _, k, rs5_m hr hx g⟩))))
theorem l9_dies (w : Wd B n 19 p1) (e1 : p1 = p) (f1 : q1 = sk B n (p1 + iv_tl 19)) (e2 : p2 = q1) (k : dies9 B n pe p2 (rs x q2)) (hr : r = x) (hx : x = 2147483648 ∨ x = 2147483649) (g : x = 2147483649 → q2 = q ∧ l = a ∧ t = b ∧ d = c ∧ s = e) : line9 B n pe l t d s p (rs5 r q a b c e) := by
  rw [e1] at w f1
  rw [e2, f1] at k
  exact Or.inr (Or.inr (Or.inr (Or.inr (Or.inr (Or.inl ⟨w, _, k, rs5_m hr hx g⟩)))))
theorem l9_court (w : Wd B n 20 p1) (e1 : p1 = p) (f1 : q1 = sk B n (p1 + iv_tl 20)) (e2 : p2 = q1) (k : court9 B n p2 (rs x q2)) (hr : r = x) (hx : x = 2147483648 ∨ x = 2147483649) (g : x = 2147483649 → q2 = q ∧ l = a ∧ t = b ∧ d = c ∧ s = e) : line9 B n pe l t d s p (rs5 r q a b c e) := by
  rw [e1] at w f1
  rw [e2, f1] at k
  exact Or.inr (Or.inr (Or.inr (Or.inr (Or.inr (Or.inr (Or.inl ⟨w, _, k, rs5_m hr hx g⟩))))))
theorem l9_no (w0 : ¬ Wd B n 0 p) (w6 : ¬ Wd B n 6 p) (w8 : ¬ Wd B n 8 p) (w13 : ¬ Wd B n 13 p) (w17 : ¬ Wd B n 17 p) (w19 : ¬ Wd B n 19 p) (w20 : ¬ Wd B n 20 p) (hr : r = 2147483648) : line9 B n pe l t d s p (rs5 r q a b c e) :=
  Or.inr (Or.inr (Or.inr (Or.inr (Or.inr (Or.inr (Or.inr ⟨⟨w0, w6, w8, w13, w17, w19, w20⟩, rs5_0 hr⟩))))))
end UL
/-- what is left of the town's lines: m more may come -/
def Tl (B : Nat → Nat) (n pe l0 t0 d0 s0 m l t d s p : Nat) : Prop := p ≤ n ∧ ∀ r, town9 B n pe m l t d s p r → Tt B n pe l0 t0 d0 s0 r
def Le9 (n : Nat) (K : Nat → Option Nat → Prop) : Prop := ∀ p r, K p r → p ≤ n → ∀ q, r = some q → q ≤ n
section LE
variable {B : Nat → Nat} {n i lo hi : Nat} {K L : Nat → Option Nat → Prop}
theorem Nr.le {p v q : Nat} (a : Nr B n lo hi p v q) (h : v ≠ 2147483647) : q ≤ n := by
  rcases a with ⟨d, a1, a2, a3, a4, a5⟩ | ⟨a1, _⟩
  · rw [a5]
    exact sk_le (by have w := a1.2.2.1; have x := a1.1 (d - 1) (by omega); have y := x.1; omega)
  · exact absurd a1 h
theorem Le9.wd (k : Le9 n K) : Le9 n (wd9 B n i K) := fun p r a _ q e => by
  rcases a with ⟨a1, a2⟩ | ⟨_, a2⟩
  · exact k _ _ a2 (sk_le a1.1) q e
  · rw [a2] at e; cases e
theorem Le9.or (k : Le9 n K) (l : Le9 n L) : Le9 n (or9 B n i K L) := fun p r a hp q e => by
  rcases a with ⟨a1, a2⟩ | ⟨_, a2⟩
  · exact k _ _ a2 (sk_le a1.1) q e
  · exact l _ _ a2 hp q e
theorem Le9.nm {M : Nat → Nat → Option Nat → Prop} (k : ∀ v, Le9 n (M v)) : Le9 n (nm9 B n lo hi M) := fun p r a _ q e => by
  obtain ⟨v, q1, f, a⟩ := a
  rcases a with ⟨_, a2⟩ | ⟨a1, a2⟩
  · rw [a2] at e; cases e
  · exact k v _ _ a2 (f.le a1) q e
theorem Le9.fin : Le9 n fin9 := fun p r a hp q e => by
  unfold fin9 at a
  rw [a] at e
  injection e with e
  omega
theorem Bl.le {p : Nat} {r : Option Nat} (a : Bl B n hi p r) : ∀ q, r = some q → q ≤ n := by
  refine Bl.ind (C := fun p r => ∀ q, r = some q → q ≤ n) ?_ a
  intro p r x
  rcases x with ⟨v, q, rfl, f, e⟩ | ⟨v, q, rfl, f, e, w⟩ | ⟨v, q, f, e, w, ⟨_, ih⟩⟩
  · intro q' e'; cases e'
  · intro q' e'; injection e' with e'; rw [← e']; exact f.le e
  · exact ih
theorem Le9.bl (k : Le9 n K) : Le9 n (bl9 B n hi K) := fun p r a _ q e => by
  rcases a with ⟨_, a2⟩ | ⟨q1, a1, a2⟩
  · rw [a2] at e; cases e
  · exact k _ _ a2 (a1.le _ rfl) q e
end LE
theorem line9_le {B : Nat → Nat} {n pe l t d s p : Nat} {o : Option (Nat × Nat × Nat × Nat × Nat)} (k : line9 B n pe l t d s p o) (hp : p ≤ n) : ∀ z, o = some z → z.1 ≤ n := by
  have pl : Le9 n (pl9 B n) := Le9.or (Le9.nm fun _ => Le9.fin) Le9.fin
  have A : ∀ (K : Nat → Option Nat → Prop) (w : Nat) (g : Nat → Nat × Nat × Nat × Nat × Nat), Le9 n K → w ≤ n → (∀ q, (g q).1 = q) → ∀ y, K w y → o = y.map g → ∀ z, o = some z → z.1 ≤ n := by
    intro K w g hK hw hg y hy e z hz
    rw [e] at hz
    cases y with
    | none => cases hz
    | some q =>
      have hz : some (g q) = some z := hz
      injection hz with hz
      rw [← hz, hg q]
      exact hK _ _ hy hw q rfl
  have nn : o = none → ∀ z, o = some z → z.1 ≤ n := fun e z hz => by rw [e] at hz; cases hz
  rcases k with ⟨w, ⟨_, k⟩ | ⟨_, y, k, e⟩⟩ | ⟨w, ⟨_, k⟩ | ⟨_, y, k, e⟩⟩ | ⟨w, ⟨_, k⟩ | ⟨_, y, k, e⟩⟩ | ⟨w, ⟨_, k⟩ | ⟨_, y, k, e⟩⟩ | ⟨w, y, k, e⟩ | ⟨w, y, k, e⟩ | ⟨w, y, k, e⟩ | ⟨_, k⟩
  · exact nn k
  · exact A (loan9 B n pe) _ _ (Le9.nm fun _ => Le9.wd (Le9.nm fun _ => Le9.wd (Le9.nm fun _ => Le9.wd (Le9.nm fun _ => Le9.or pl pl)))) (sk_le w.1) (fun _ => rfl) y k e
  · exact nn k
  · exact A (letter9 B n pe) _ _ (Le9.nm fun _ => Le9.wd (Le9.nm fun _ => Le9.wd (Le9.nm fun _ => Le9.fin))) (sk_le w.1) (fun _ => rfl) y k e
  · exact nn k
  · have de : Le9 n (de9 B n pe) := Le9.nm fun _ => Le9.wd (Le9.nm fun _ => Le9.wd (Le9.nm fun _ => Le9.wd (Le9.nm fun _ => Le9.fin)))
    exact A (debt9 B n pe) _ _ (Le9.or de (Le9.wd de)) (sk_le w.1) (fun _ => rfl) y k e
  · exact nn k
  · exact A (seen9 B n pe) _ _ (Le9.nm fun _ => Le9.wd (Le9.nm fun _ => Le9.wd (Le9.bl (Le9.wd (Le9.nm fun _ => Le9.fin))))) (sk_le w.1) (fun _ => rfl) y k e
  · exact A (late9 B n l) _ _ (Le9.nm fun _ => Le9.wd (Le9.nm fun _ => Le9.fin)) (sk_le w.1) (fun _ => rfl) y k e
  · exact A (dies9 B n pe) _ _ (Le9.nm fun _ => Le9.wd (Le9.nm fun _ => Le9.fin)) (sk_le w.1) (fun _ => rfl) y k e
  · exact A (court9 B n) _ _ (Le9.wd (Le9.nm fun _ => Le9.fin)) (sk_le w.1) (fun _ => rfl) y k e
  · exact nn k
section UT
variable {B : Nat → Nat} {n pe l0 t0 d0 s0 m m' l t d s l' t' d' s' p p1 p2 p3 q q1 x w c r a b e f : Nat}
theorem Tt.nil (e1 : p = sk B n 2147483648) (h : n ≤ p) {o : Option (Nat × Nat × Nat × Nat)} (ho : o = some (l, t, d, s)) : Tt B n pe l t d s o := Or.inl ⟨by omega, ho⟩
theorem Tl.zero (e1 : p = sk B n 2147483648) (h : p < n) (hm : m = 14) : Tl B n pe l t d s m l t d s p := ⟨by omega, fun r z => Or.inr ⟨by omega, by rw [← e1, ← hm]; exact z⟩⟩
theorem Tl.full (z : Tl B n pe l0 t0 d0 s0 m l t d s p) (h : m = 0) : Tt B n pe l0 t0 d0 s0 none := by
  subst h
  exact z.2 _ rfl
theorem Tl.no (z : Tl B n pe l0 t0 d0 s0 m l t d s p) (h : 0 < m) (k : line9 B n pe l t d s p1 (rs5 x q l' t' d' s')) (e1 : p1 = p) (hx : x = 2147483648) : Tt B n pe l0 t0 d0 s0 none := by
  rw [rs5_0 hx, e1] at k
  obtain ⟨m, rfl⟩ : ∃ y, m = y + 1 := ⟨m - 1, by omega⟩
  exact z.2 _ ⟨none, k, Or.inl ⟨rfl, rfl⟩⟩
theorem Tl.fin (z : Tl B n pe l0 t0 d0 s0 m l t d s p) (h : 0 < m) (k : line9 B n pe l t d s p1 (rs5 x q l' t' d' s')) (e1 : p1 = p) (hx : x = 2147483649) (hn : n ≤ q) : Tt B n pe l0 t0 d0 s0 (some (l', t', d', s')) := by
  rw [rs5_1 hx, e1] at k
  obtain ⟨m, rfl⟩ : ∃ y, m = y + 1 := ⟨m - 1, by omega⟩
  exact z.2 _ ⟨_, k, Or.inr ⟨q, l', t', d', s', rfl, Or.inl ⟨hn, rfl⟩⟩⟩
theorem Tl.bad (z : Tl B n pe l0 t0 d0 s0 m l t d s p) (h : 0 < m) (k : line9 B n pe l t d s p1 (rs5 x q l' t' d' s')) (e1 : p1 = p) (hx : x = 2147483649) (hn : q ≠ n) (u : ¬ Sg B n 2147483707 p2) (e2 : p2 = q) : Tt B n pe l0 t0 d0 s0 none := by
  rw [rs5_1 hx, e1] at k
  rw [e2] at u
  have y := line9_le k z.1 _ rfl
  obtain ⟨m, rfl⟩ : ∃ y, m = y + 1 := ⟨m - 1, by omega⟩
  exact z.2 _ ⟨_, k, Or.inr ⟨q, l', t', d', s', rfl, Or.inr (Or.inl ⟨by have y : q ≤ n := y; omega, u, rfl⟩)⟩⟩
theorem Tl.go (z : Tl B n pe l0 t0 d0 s0 m l t d s p) (h : m = m' + 1) (k : line9 B n pe l t d s p1 (rs5 x q l' t' d' s')) (e1 : p1 = p) (hx : x = 2147483649) (u : Sg B n 2147483707 p2) (e2 : p2 = q) (e3 : q1 = sk B n (p2 + 1)) (e4 : q1 = p3) : Tl B n pe l0 t0 d0 s0 m' l' t' d' s' p3 := by
  rw [rs5_1 hx, e1] at k
  rw [e2] at u e3
  rw [← e4, e3]
  subst h
  exact ⟨sk_le (by have := u.1; omega), fun r y => z.2 _ ⟨_, k, Or.inr ⟨q, l', t', d', s', rfl, Or.inr (Or.inr ⟨u, y⟩)⟩⟩⟩
end UT
theorem l9_pe {B : Nat → Nat} {n pe pe' l t d s l1 t1 d1 s1 p : Nat} {o : Option (Nat × Nat × Nat × Nat × Nat)} (k : line9 B n pe l t d s p o) (e : pe = pe') (e1 : l = l1) (e2 : t = t1) (e3 : d = d1) (e4 : s = s1) : line9 B n pe' l1 t1 d1 s1 p o := by
  rw [← e, ← e1, ← e2, ← e3, ← e4]
  exact k
theorem Tt.cast {B : Nat → Nat} {n pe pe' l t d s l1 t1 d1 s1 : Nat} {o : Option (Nat × Nat × Nat × Nat)} (k : Tt B n pe l t d s o) (e : pe = pe') (e1 : l = l1) (e2 : t = t1) (e3 : d = d1) (e4 : s = s1) : Tt B n pe' l1 t1 d1 s1 o := by
  rw [← e, ← e1, ← e2, ← e3, ← e4]
  exact k
/-! ===== the numbers of a town, the other town ===== -/
/-- people, texts, loans, letters, debts, sightings of the town at q -/
def svq (h : xh) (q i : Nat) : Nat := match i with
  | 0 => h q 7
  | 1 => h q 8
  | 2 => h (q + 1) 2
  | 3 => h (q + 3) 2
  | 4 => h (q + 5) 2
  | _ => h (q + 7) 2
def rv (h : xh) (i : Nat) : Nat := svq h (h 61 1) i
def tv (h : xh) (i : Nat) : Nat := svq h (h 0 8) i
/-- of the other town nothing of these has changed -/
def Ot (b : Nat) (h h' : xh) : Prop := ∀ q, tw q → q ≠ b → ∀ i, svq h' q i = svq h q i
theorem svq_of {h h' : xh} {a b : Nat} (e0 : h' b 7 = h a 7) (e1 : h' b 8 = h a 8) (e2 : h' (b + 1) 2 = h (a + 1) 2) (e3 : h' (b + 3) 2 = h (a + 3) 2) (e4 : h' (b + 5) 2 = h (a + 5) 2) (e5 : h' (b + 7) 2 = h (a + 7) 2) : ∀ i, svq h' b i = svq h a i
  | 0 => e0
  | 1 => e1
  | 2 => e2
  | 3 => e3
  | 4 => e4
  | _ + 5 => e5
theorem Ot.refl {b : Nat} {h : xh} : Ot b h h := fun _ _ _ _ => rfl
theorem Ot.trans {b : Nat} {h h1 h2 : xh} (p : Ot b h h1) (q : Ot b h1 h2) : Ot b h h2 := fun r t n i => (q r t n i).trans (p r t n i)
theorem Ot.cast {b c : Nat} {h h1 : xh} (p : Ot b h h1) (e : b = c) : Ot c h h1 := by rw [← e]; exact p
theorem svq_up {h : xh} {q k i v : Nat} (h0 : ¬ (k = q ∧ (i = 7 ∨ i = 8))) (h1 : k ≠ q + 1) (h3 : k ≠ q + 3) (h5 : k ≠ q + 5) (h7 : k ≠ q + 7) : ∀ j, svq (x_up h k i v) q j = svq h q j :=
  svq_of (if_neg (fun z => h0 ⟨z.1.symm, Or.inl z.2.symm⟩)) (if_neg (fun z => h0 ⟨z.1.symm, Or.inr z.2.symm⟩)) (if_neg (fun z => h1 z.1.symm)) (if_neg (fun z => h3 z.1.symm)) (if_neg (fun z => h5 z.1.symm)) (if_neg (fun z => h7 z.1.symm))
theorem Ot.oth {b k i v : Nat} {h h1 : xh} (p : Ot b h h1) (hk : k < 17 ∨ 44 < k) : Ot b h (x_up h1 k i v) := fun q t n j => by
  rw [svq_up (by rcases t with rfl | rfl <;> omega) (by rcases t with rfl | rfl <;> omega) (by rcases t with rfl | rfl <;> omega) (by rcases t with rfl | rfl <;> omega) (by rcases t with rfl | rfl <;> omega)]
  exact p q t n j
theorem Ot.up {b k o i v : Nat} {h h1 : xh} (p : Ot b h h1) (tb : tw b) (ho : o ≤ 13) (hk : k = b + o) : Ot b h (x_up h1 k i v) := fun q t n j => by
  rw [svq_up (by rcases t with rfl | rfl <;> rcases tb with rfl | rfl <;> omega) (by rcases t with rfl | rfl <;> rcases tb with rfl | rfl <;> omega) (by rcases t with rfl | rfl <;> rcases tb with rfl | rfl <;> omega) (by rcases t with rfl | rfl <;> rcases tb with rfl | rfl <;> omega) (by rcases t with rfl | rfl <;> rcases tb with rfl | rfl <;> omega)]
  exact p q t n j
theorem svq_gr {m : Nat} {h h' : xh} (f : Fr m h h') (g : Nat.testBit m 48 = false) {q : Nat} (t : tw q) : ∀ i, svq h' q i = svq h q i := by
  have G : ∀ k i, x_gr k i = 48 → h' k i = h k i := fun k i e => f k i (by rw [e]; exact g)
  rcases t with rfl | rfl
  · exact svq_of (G _ _ (by decide +kernel)) (G _ _ (by decide +kernel)) (G _ _ (by decide +kernel)) (G _ _ (by decide +kernel)) (G _ _ (by decide +kernel)) (G _ _ (by decide +kernel))
  · exact svq_of (G _ _ (by decide +kernel)) (G _ _ (by decide +kernel)) (G _ _ (by decide +kernel)) (G _ _ (by decide +kernel)) (G _ _ (by decide +kernel)) (G _ _ (by decide +kernel))
theorem Ot.fr {b m : Nat} {h h1 h2 : xh} (p : Ot b h h1) (f : Fr m h1 h2) (g : Nat.testBit m 48 = false) : Ot b h h2 := fun q t n i => (svq_gr f g t i).trans (p q t n i)
theorem Ot.cp {b q r N o : Nat} {h h1 : xh} (p : Ot b h h1) (tb : tw b) (ho : o ≤ 13) (hq : q = b + o) : Ot b h (x_cp h1 q r N) := fun w t n j => by
  refine Eq.trans ?_ (p w t n j)
  refine svq_of ?_ ?_ ?_ ?_ ?_ ?_ j
  · exact if_neg (fun z => by rcases t with rfl | rfl <;> rcases tb with rfl | rfl <;> omega)
  · exact if_neg (fun z => by rcases t with rfl | rfl <;> rcases tb with rfl | rfl <;> omega)
  · exact if_neg (fun z => by rcases t with rfl | rfl <;> rcases tb with rfl | rfl <;> omega)
  · exact if_neg (fun z => by rcases t with rfl | rfl <;> rcases tb with rfl | rfl <;> omega)
  · exact if_neg (fun z => by rcases t with rfl | rfl <;> rcases tb with rfl | rfl <;> omega)
  · exact if_neg (fun z => by rcases t with rfl | rfl <;> rcases tb with rfl | rfl <;> omega)
/-- tell's answers -/
def Te (B : Nat → Nat) (n pe tx l t d s : Nat) (E : Nat) : Prop := (E = 0 ∧ Tt B n pe l t d s none) ∨ (E = 3 ∧ 2147483658 ≤ tx ∧ ∃ x, Tt B n pe l t d s (some x))
theorem rs4_1 {r a b c d : Nat} (h : r = 2147483649) : rs4 r a b c d = some (a, b, c, d) := if_pos h
theorem rs4_0 {r a b c d : Nat} (h : r = 2147483648) : rs4 r a b c d = none := if_neg (by omega)
theorem Tt.n0 {B : Nat → Nat} {n pe l t d s r a b c e : Nat} (hr : r = 2147483648) (m : Tt B n pe l t d s none) : Tt B n pe l t d s (rs4 r a b c e) := by rw [rs4_0 hr]; exact m
theorem Tt.s1 {B : Nat → Nat} {n pe l t d s r a b c e a1 b1 c1 e1 : Nat} (hr : r = 2147483649) (m : Tt B n pe l t d s (some (a1, b1, c1, e1))) (h1 : a1 = a) (h2 : b1 = b) (h3 : c1 = c) (h4 : e1 = e) : Tt B n pe l t d s (rs4 r a b c e) := by rw [rs4_1 hr, ← h1, ← h2, ← h3, ← h4]; exact m
/-- in the reference the answer is a number of lines, or -1 -/
def rt4 (r a b c d : Nat) : Option (Nat × Nat × Nat × Nat) := if r = 2147483647 then none else some (a, b, c, d)
theorem rt4_1 {r a b c d : Nat} (h : r ≠ 2147483647) : rt4 r a b c d = some (a, b, c, d) := if_neg h
theorem rt4_0 {r a b c d : Nat} (h : r = 2147483647) : rt4 r a b c d = none := if_pos h
theorem Tt.r0 {B : Nat → Nat} {n pe l t d s r a b c e : Nat} (hr : r = 2147483647) (m : Tt B n pe l t d s none) : Tt B n pe l t d s (rt4 r a b c e) := by rw [rt4_0 hr]; exact m
theorem Tt.r1 {B : Nat → Nat} {n pe l t d s r a b c e a1 b1 c1 e1 : Nat} (hr : r ≠ 2147483647) (m : Tt B n pe l t d s (some (a1, b1, c1, e1))) (h1 : a1 = a) (h2 : b1 = b) (h3 : c1 = c) (h4 : e1 = e) : Tt B n pe l t d s (rt4 r a b c e) := by rw [rt4_1 hr, ← h1, ← h2, ← h3, ← h4]; exact m
theorem Tl.zeroR {B : Nat → Nat} {n pe l t d s m w : Nat} (e : w = sk B n 2147483648) (h0 : 2147483648 ≤ n) (h : w ≠ n) (hm : m = 14) : Tl B n pe l t d s m l t d s (sk B n w) := by
  have x := sk_le (B := B) h0
  have y : sk B n w = w := by rw [e, sk_idem]
  exact Tl.zero (y.trans e) (by omega) hm
/-- a word that must stand here -/
def Tw (W : Prop) (B : Nat → Nat) (n p m r q : Nat) : Prop := (r = 2147483649 ∧ W ∧ q = sk B n (p + m)) ∨ (r = 2147483648 ∧ ¬ W)
theorem Tw.yes {W : Prop} {B : Nat → Nat} {n p m r q : Nat} (h : Tw W B n p m r q) (e : r = 2147483649) : W ∧ q = sk B n (p + m) := h.elim (fun z => z.2) (fun z => by omega)
theorem Tw.no {W : Prop} {B : Nat → Nat} {n p m r q : Nat} (h : Tw W B n p m r q) (e : r = 2147483648) : ¬ W := h.elim (fun z => by omega) (fun z => z.2)
theorem nd9 {B : Nat → Nat} {n p w e i v r : Nat} (a : w = sk B n p) (b : e = le9 B n w) (f : Is (Wm B i w e) v) (hi : i < 32) (hr : r = v) : Tw (Wd B n i (sk B n p)) B n (sk B n p) (iv_tl i) r (sk B n e) := by
  rcases f with ⟨x, g⟩ | ⟨x, g⟩
  · have c := Wd.of' hi g b
    rw [a] at c
    exact Or.inl ⟨hr.trans x, c, by rw [g.1, a]⟩
  · have c := Wd.no hi g b
    rw [a] at c
    exact Or.inr ⟨hr.trans x, c⟩
theorem wd_910 {B : Nat → Nat} {n p : Nat} (a : Wd B n 10 p) : ¬ Wd B n 9 p := fun b => absurd (a.inj (by decide) (by decide) b) (by decide)
theorem Tt.some4 {B : Nat → Nat} {n pe l t d s r a b c e a1 b1 c1 e1 : Nat} (k : Tt B n pe l t d s (rs4 r a b c e)) (hr : r = 2147483649) (h1 : a = a1) (h2 : b = b1) (h3 : c = c1) (h4 : e = e1) : Tt B n pe l t d s (some (a1, b1, c1, e1)) := by
  rw [rs4_1 hr, h1, h2, h3, h4] at k
  exact k
theorem Tt.none4 {B : Nat → Nat} {n pe l t d s r a b c e : Nat} (k : Tt B n pe l t d s (rs4 r a b c e)) (hr : r = 2147483648) : Tt B n pe l t d s none := by
  rw [rs4_0 hr] at k
  exact k
theorem Tt.somer {B : Nat → Nat} {n pe l t d s r a b c e a1 b1 c1 e1 : Nat} (k : Tt B n pe l t d s (rt4 r a b c e)) (hr : r ≠ 2147483647) (h1 : a = a1) (h2 : b = b1) (h3 : c = c1) (h4 : e = e1) : Tt B n pe l t d s (some (a1, b1, c1, e1)) := by
  rw [rt4_1 hr, h1, h2, h3, h4] at k
  exact k
theorem Tt.noner {B : Nat → Nat} {n pe l t d s r a b c e : Nat} (k : Tt B n pe l t d s (rt4 r a b c e)) (hr : r = 2147483647) : Tt B n pe l t d s none := by
  rw [rt4_0 hr] at k
  exact k
/-- in the reference: what tell throws, answers and leaves (t thrown, r the answer; u: the texts told) -/
def Tf (B : Nat → Nat) (n : Nat) (h h' : xh) (r : Nat) : Prop :=
  (h' 75 0 = 2147483648 ∧ Tt B n (h 76 0) (h 76 2) (h 76 3) (h 76 4) (h 76 5) (some (h' 76 2, h' 76 3, h' 76 4, h' 76 5)) ∧ h' 76 0 = h 76 0 ∧ h' 76 1 = h 76 1 + 1 ∧ r = h 76 1 + 1 ∧ h 76 1 ≠ 2147483658) ∨
  (h' 75 0 = 2147483649 ∧ Tt B n (h 76 0) (h 76 2) (h 76 3) (h 76 4) (h 76 5) none ∧ ∀ i, i < 6 → h' 76 i = h 76 i) ∨
  (h' 75 0 = 2147483650 ∧ (∃ x, Tt B n (h 76 0) (h 76 2) (h 76 3) (h 76 4) (h 76 5) (some x)) ∧ h 76 1 = 2147483658 ∧ ∀ i, i < 6 → h' 76 i = h 76 i)
theorem six6 {h h' : xh} {k : Nat} (e0 : h' k 0 = h k 0) (e1 : h' k 1 = h k 1) (e2 : h' k 2 = h k 2) (e3 : h' k 3 = h k 3) (e4 : h' k 4 = h k 4) (e5 : h' k 5 = h k 5) : ∀ i, i < 6 → h' k i = h k i := fun i hi => by
  rcases (show i = 0 ∨ i = 1 ∨ i = 2 ∨ i = 3 ∨ i = 4 ∨ i = 5 by omega) with rfl | rfl | rfl | rfl | rfl | rfl
  · exact e0
  · exact e1
  · exact e2
  · exact e3
  · exact e4
  · exact e5
theorem Te.iae {B : Nat → Nat} {n pe tx l t d s : Nat} (x : Te B n pe tx l t d s 0) : Tt B n pe l t d s none := by
  rcases x with ⟨_, z⟩ | ⟨z, _⟩
  · exact z
  · exact absurd z (by decide)
theorem Te.uoe {B : Nat → Nat} {n pe tx l t d s : Nat} (x : Te B n pe tx l t d s 3) : 2147483658 ≤ tx ∧ ∃ x, Tt B n pe l t d s (some x) := by
  rcases x with ⟨z, _⟩ | ⟨_, z⟩
  · exact absurd z (by decide)
  · exact z
theorem Tt.seq {B : Nat → Nat} {n pe l t d s a b c e a1 b1 c1 e1 : Nat} (k : Tt B n pe l t d s (some (a, b, c, e))) (h1 : a = a1) (h2 : b = b1) (h3 : c = c1) (h4 : e = e1) : Tt B n pe l t d s (some (a1, b1, c1, e1)) := by
  rw [h1, h2, h3, h4] at k
  exact k
theorem tv_up {h : xh} {k e v : Nat} (hk : 44 < k) (hJ : tw (h 0 8)) : ∀ i, tv (x_up h k e v) i = tv h i := fun i => by
  have e0 : x_up h k e v 0 8 = h 0 8 := x_up_k (by omega)
  unfold tv
  rw [e0]
  exact svq_up (by rcases hJ with z | z <;> rw [z] <;> omega) (by rcases hJ with z | z <;> rw [z] <;> omega) (by rcases hJ with z | z <;> rw [z] <;> omega) (by rcases hJ with z | z <;> rw [z] <;> omega) (by rcases hJ with z | z <;> rw [z] <;> omega) i
/-- tell, caught: what it came to -/
def Tc (B : Nat → Nat) (n : Nat) (h h' : xh) (r : Nat) : Prop :=
  (r = 2147483648 ∧ Tt B n (tv h 0) (tv h 2) (tv h 3) (tv h 4) (tv h 5) (some (tv h' 2, tv h' 3, tv h' 4, tv h' 5)) ∧ tv h' 0 = tv h 0 ∧ tv h' 1 = tv h 1 + 1 ∧ h' 97 0 = tv h 1 + 1 ∧ tv h 1 < 2147483658 ∧ h' 0 8 = h 0 9 ∧ h' 0 9 = h 0 8) ∨
  (r = 2147483649 ∧ Tt B n (tv h 0) (tv h 2) (tv h 3) (tv h 4) (tv h 5) none ∧ (∀ i, tv h' i = tv h i) ∧ h' 0 8 = h 0 8 ∧ h' 0 9 = h 0 9) ∨
  (r = 2147483650 ∧ (2147483658 ≤ tv h 1 ∧ ∃ x, Tt B n (tv h 0) (tv h 2) (tv h 3) (tv h 4) (tv h 5) (some x)) ∧ (∀ i, tv h' i = tv h i) ∧ h' 0 8 = h 0 8 ∧ h' 0 9 = h 0 9)
def Pc (h h' : xh) (a r : Nat) : Prop :=
  (r = 2147483648 ∧ tv h' 0 = a ∧ tv h' 1 = tv h 1 ∧ tv h' 2 = tv h 2 ∧ tv h' 3 = tv h 3 ∧ tv h' 4 = tv h 4 ∧ tv h' 5 = tv h 5 ∧ 2147483650 ≤ a ∧ a ≤ 2147483654 ∧ tv h 1 ≤ 2147483648 ∧ h' 0 8 = h 0 8 ∧ h' 0 9 = h 0 9) ∨
  (r = 2147483649 ∧ (a < 2147483650 ∨ 2147483654 < a) ∧ h' = h) ∨
  (r = 2147483650 ∧ (2147483650 ≤ a ∧ a ≤ 2147483654 ∧ 2147483648 < tv h 1) ∧ h' = h)
/-- people in the reference -/
def Pf (h h' : xh) (a : Nat) : Prop := (¬ (2147483650 ≤ a ∧ a ≤ 2147483654) → h' 75 0 = 2147483649 ∧ h' 76 0 = h 76 0) ∧ ((2147483650 ≤ a ∧ a ≤ 2147483654) → 2147483648 < h 76 1 → h' 75 0 = 2147483650 ∧ h' 76 0 = h 76 0) ∧ ((2147483650 ≤ a ∧ a ≤ 2147483654) → h 76 1 ≤ 2147483648 → h' 75 0 = 2147483648 ∧ h' 76 0 = a) ∧ h' 76 1 = h 76 1 ∧ h' 76 2 = h 76 2 ∧ h' 76 3 = h 76 3 ∧ h' 76 4 = h 76 4 ∧ h' 76 5 = h 76 5
/-! ===== where a text of the town is wrong: the place, as a relation beside line9 ===== -/
def wF (B : Nat → Nat) (n i : Nat) (K : Nat → Nat → Prop) (p f : Nat) : Prop := (Wd B n i p ∧ K (sk B n (p + iv_tl i)) f) ∨ (¬ Wd B n i p ∧ f = p)
def oF (B : Nat → Nat) (n i : Nat) (K L : Nat → Nat → Prop) (p f : Nat) : Prop := (Wd B n i p ∧ K (sk B n (p + iv_tl i)) f) ∨ (¬ Wd B n i p ∧ L p f)
def mF (B : Nat → Nat) (n lo hi : Nat) (K : Nat → Nat → Nat → Prop) (p f : Nat) : Prop := ∃ v q, Nr B n lo hi p v q ∧ ((v = 2147483647 ∧ f = p) ∨ (v ≠ 2147483647 ∧ K v q f))
def eF (_ _ : Nat) : Prop := False
def BlF_R (B : Nat → Nat) (n hi : Nat) (R : Nat → Nat → Prop) (p f : Nat) : Prop :=
  (∃ v q, Nr B n 2147483648 hi p v q ∧ v = 2147483647 ∧ f = p) ∨
  (∃ v q, Nr B n 2147483648 hi p v q ∧ v ≠ 2147483647 ∧ Wd B n 15 q ∧ R (sk B n (q + iv_tl 15)) f)
def BlF (B : Nat → Nat) (n hi p f : Nat) : Prop := ∀ R : Nat → Nat → Prop, (∀ p f, BlF_R B n hi R p f → R p f) → R p f
theorem BlF_R.mono {B : Nat → Nat} {n hi : Nat} {R S : Nat → Nat → Prop} (h : ∀ p f, R p f → S p f) {p f : Nat} (x : BlF_R B n hi R p f) : BlF_R B n hi S p f := by
  rcases x with ⟨v, q, a⟩ | ⟨v, q, a, b, c, d⟩
  · exact Or.inl ⟨v, q, a⟩
  · exact Or.inr ⟨v, q, a, b, c, h _ _ d⟩
theorem BlF.mk {B : Nat → Nat} {n hi p f : Nat} (x : BlF_R B n hi (BlF B n hi) p f) : BlF B n hi p f := fun R c => c _ _ (BlF_R.mono (fun _ _ z => z R c) x)
theorem BlF.inv {B : Nat → Nat} {n hi p f : Nat} (x : BlF B n hi p f) : BlF_R B n hi (BlF B n hi) p f := x (fun p f => BlF_R B n hi (BlF B n hi) p f) (fun _ _ z => BlF_R.mono (fun _ _ y => BlF.mk y) z)
theorem BlF.ind {B : Nat → Nat} {n hi : Nat} {C : Nat → Nat → Prop} (st : ∀ p f, BlF_R B n hi (fun p f => BlF B n hi p f ∧ C p f) p f → C p f) {p f : Nat} (x : BlF B n hi p f) : C p f :=
  (x (fun p f => BlF B n hi p f ∧ C p f) (fun _ _ z => ⟨BlF.mk (BlF_R.mono (fun _ _ y => y.1) z), st _ _ z⟩)).2
def bF (B : Nat → Nat) (n hi : Nat) (K : Nat → Nat → Prop) (p f : Nat) : Prop := BlF B n hi p f ∨ ∃ q, Bl B n hi p (some q) ∧ K q f
def DF (K : Nat → Nat → Prop) : Prop := ∀ p f f', K p f → K p f' → f = f'
/-- what fails is not read -/
def XF (K : Nat → Nat → Prop) (M : Nat → Option Nat → Prop) : Prop := ∀ p f q, K p f → M p (some q) → False
theorem BlF.same {B : Nat → Nat} {n hi p f : Nat} (a : BlF B n hi p f) : ∀ f', BlF B n hi p f' → f = f' := by
  refine BlF.ind (C := fun p f => ∀ f', BlF B n hi p f' → f = f') ?_ a
  intro p f x f' b
  rcases x with ⟨v, q, g, e, rfl⟩ | ⟨v, q, g, e, w, -, ih⟩ <;> rcases b.inv with ⟨v', q', g', e', rfl⟩ | ⟨v', q', g', e', w', b'⟩
  · rfl
  · exact absurd (((g.same g').1).symm.trans e) e'
  · exact absurd (((g.same g').1).trans e') e
  · rw [← (g.same g').2 e] at b'
    exact ih _ b'
theorem BlF.no {B : Nat → Nat} {n hi p f : Nat} (a : BlF B n hi p f) : ∀ q, ¬ Bl B n hi p (some q) := by
  refine BlF.ind (C := fun p f => ∀ q, ¬ Bl B n hi p (some q)) ?_ a
  intro p f x r b
  rcases x with ⟨v, q, g, e, rfl⟩ | ⟨v, q, g, e, w, -, ih⟩ <;> rcases b.inv with ⟨v', q', z, g', e'⟩ | ⟨v', q', z, g', e', w'⟩ | ⟨v', q', g', e', w', b'⟩
  · cases z
  · exact absurd (((g.same g').1).symm.trans e) e'
  · exact absurd (((g.same g').1).symm.trans e) e'
  · cases z
  · rw [← (g.same g').2 e] at w'
    exact absurd w w'
  · rw [← (g.same g').2 e] at b'
    exact ih _ b'
section FD
variable {B : Nat → Nat} {n i lo hi : Nat} {K L : Nat → Nat → Prop} {K9 L9 : Nat → Option Nat → Prop} {M : Nat → Nat → Nat → Prop} {M9 : Nat → Nat → Option Nat → Prop}
theorem DF.w (k : DF K) : DF (wF B n i K) := fun p f f' a b => by
  rcases a with ⟨a1, a2⟩ | ⟨a1, a2⟩ <;> rcases b with ⟨b1, b2⟩ | ⟨b1, b2⟩
  · exact k _ _ _ a2 b2
  · exact absurd a1 b1
  · exact absurd b1 a1
  · rw [a2, b2]
theorem DF.o (k : DF K) (l : DF L) : DF (oF B n i K L) := fun p f f' a b => by
  rcases a with ⟨a1, a2⟩ | ⟨a1, a2⟩ <;> rcases b with ⟨b1, b2⟩ | ⟨b1, b2⟩
  · exact k _ _ _ a2 b2
  · exact absurd a1 b1
  · exact absurd b1 a1
  · exact l _ _ _ a2 b2
theorem DF.m (k : ∀ v, DF (M v)) : DF (mF B n lo hi M) := fun p f f' a b => by
  obtain ⟨v, q, g, a⟩ := a
  obtain ⟨v', q', g', b⟩ := b
  obtain ⟨e1, e2⟩ := g.same g'
  subst e1
  rcases a with ⟨a1, a2⟩ | ⟨a1, a2⟩ <;> rcases b with ⟨b1, b2⟩ | ⟨b1, b2⟩
  · rw [a2, b2]
  · exact absurd a1 b1
  · exact absurd b1 a1
  · rw [← e2 a1] at b2
    exact k v _ _ _ a2 b2
theorem DF.e : DF eF := fun _ _ _ a _ => absurd a (fun z => z)
theorem DF.b (k : DF K) : DF (bF B n hi K) := fun p f f' a b => by
  rcases a with a | ⟨q, a1, a2⟩ <;> rcases b with b | ⟨q', b1, b2⟩
  · exact a.same _ b
  · exact absurd b1 (a.no _)
  · exact absurd a1 (b.no _)
  · have e := a1.same _ b1
    injection e with e
    subst e
    exact k _ _ _ a2 b2
theorem XF.w (k : XF K K9) : XF (wF B n i K) (wd9 B n i K9) := fun p f q a b => by
  rcases a with ⟨a1, a2⟩ | ⟨a1, a2⟩ <;> rcases b with ⟨b1, b2⟩ | ⟨b1, b2⟩
  · exact k _ _ _ a2 b2
  · cases b2
  · exact absurd b1 a1
  · cases b2
theorem XF.o (k : XF K K9) (l : XF L L9) : XF (oF B n i K L) (or9 B n i K9 L9) := fun p f q a b => by
  rcases a with ⟨a1, a2⟩ | ⟨a1, a2⟩ <;> rcases b with ⟨b1, b2⟩ | ⟨b1, b2⟩
  · exact k _ _ _ a2 b2
  · exact absurd a1 b1
  · exact absurd b1 a1
  · exact l _ _ _ a2 b2
theorem XF.m (k : ∀ v, XF (M v) (M9 v)) : XF (mF B n lo hi M) (nm9 B n lo hi M9) := fun p f q a b => by
  obtain ⟨v, q1, g, a⟩ := a
  obtain ⟨v', q', g', b⟩ := b
  obtain ⟨e1, e2⟩ := g.same g'
  subst e1
  rcases a with ⟨a1, a2⟩ | ⟨a1, a2⟩ <;> rcases b with ⟨b1, b2⟩ | ⟨b1, b2⟩
  · cases b2
  · exact absurd a1 b1
  · exact absurd b1 a1
  · rw [← e2 a1] at b2
    exact k v _ _ _ a2 b2
theorem XF.e : XF eF K9 := fun _ _ _ a _ => a
theorem XF.b (k : XF K K9) : XF (bF B n hi K) (bl9 B n hi K9) := fun p f q a b => by
  rcases a with a | ⟨q1, a1, a2⟩ <;> rcases b with ⟨b1, b2⟩ | ⟨q', b1, b2⟩
  · cases b2
  · exact absurd b1 (a.no _)
  · cases b2
  · have e := a1.same _ b1
    injection e with e
    subst e
    exact k _ _ _ a2 b2
end FD
section FL
variable (B : Nat → Nat) (n : Nat)
def plF : Nat → Nat → Prop := oF B n 5 (mF B n 2147483648 2147484647 fun _ => eF) eF
def loanF (pe : Nat) : Nat → Nat → Prop := mF B n 2147483648 (pe - 1) fun _ => wF B n 1 (mF B n 2147483648 (pe - 1) fun _ => wF B n 2 (mF B n 2147483648 2147483659 fun _ => wF B n 3 (mF B n 2147483649 2147483660 fun _ => oF B n 4 (plF B n) (plF B n))))
def lateF (l : Nat) : Nat → Nat → Prop := mF B n 2147483648 (l - 1) fun _ => wF B n 18 (mF B n 2147483649 2147483660 fun _ => eF)
def diesF (pe : Nat) : Nat → Nat → Prop := mF B n 2147483648 (pe - 1) fun _ => wF B n 2 (mF B n 2147483648 2147483659 fun _ => eF)
def courtF : Nat → Nat → Prop := wF B n 2 (mF B n 2147483648 2147483659 fun _ => eF)
def letterF (pe : Nat) : Nat → Nat → Prop := mF B n 2147483648 (pe - 1) fun _ => wF B n 2 (mF B n 2147483648 2147483659 fun x => wF B n 7 (mF B n x 2147483659 fun _ => eF))
def deF (pe : Nat) : Nat → Nat → Prop := mF B n 2147483648 (pe - 1) fun _ => wF B n 2 (mF B n 2147483648 2147483659 fun x => wF B n 11 (mF B n x 2147483659 fun _ => wF B n 12 (mF B n 2147483648 2147484647 fun _ => eF)))
def debtF (pe : Nat) : Nat → Nat → Prop := oF B n 9 (deF B n pe) (wF B n 10 (deF B n pe))
def seenF (pe : Nat) : Nat → Nat → Prop := mF B n 2147483648 (pe - 1) fun _ => wF B n 2 (mF B n 2147483648 2147483659 fun x => wF B n 14 (bF B n (pe - 1) (wF B n 16 (mF B n x 2147483659 fun _ => eF))))
def lineF (pe l t d s p f : Nat) : Prop :=
  (Wd B n 0 p ∧ ((2147483668 ≤ l ∧ f = p) ∨ (l < 2147483668 ∧ loanF B n pe (sk B n (p + iv_tl 0)) f))) ∨
  (Wd B n 6 p ∧ ((2147483658 ≤ t ∧ f = p) ∨ (t < 2147483658 ∧ letterF B n pe (sk B n (p + iv_tl 6)) f))) ∨
  (Wd B n 8 p ∧ ((2147483658 ≤ d ∧ f = p) ∨ (d < 2147483658 ∧ debtF B n pe (sk B n (p + iv_tl 8)) f))) ∨
  (Wd B n 13 p ∧ ((2147483658 ≤ s ∧ f = p) ∨ (s < 2147483658 ∧ seenF B n pe (sk B n (p + iv_tl 13)) f))) ∨
  (Wd B n 17 p ∧ lateF B n l (sk B n (p + iv_tl 17)) f) ∨
  (Wd B n 19 p ∧ diesF B n pe (sk B n (p + iv_tl 19)) f) ∨
  (Wd B n 20 p ∧ courtF B n (sk B n (p + iv_tl 20)) f) ∨
  ((¬ Wd B n 0 p ∧ ¬ Wd B n 6 p ∧ ¬ Wd B n 8 p ∧ ¬ Wd B n 13 p ∧ ¬ Wd B n 17 p ∧ ¬ Wd B n 19 p ∧ ¬ Wd B n 20 p) ∧ f = p)
/-- the lines: m more may come -/
def townF (pe : Nat) : Nat → Nat → Nat → Nat → Nat → Nat → Nat → Prop
  | 0, _, _, _, _, p, f => f = p
  | m + 1, l, t, d, s, p, f => lineF B n pe l t d s p f ∨ ∃ q l' t' d' s', line9 B n pe l t d s p (some (q, l', t', d', s')) ∧ ((q < n ∧ ¬ Sg B n 2147483707 q ∧ f = q) ∨ (q < n ∧ Sg B n 2147483707 q ∧ townF pe m l' t' d' s' (sk B n (q + 1)) f))
def TF (pe l t d s f : Nat) : Prop := sk B n 2147483648 < n ∧ townF B n pe 14 l t d s (sk B n 2147483648) f
end FL
section FM
variable {B : Nat → Nat} {n : Nat}
theorem plF_d : DF (plF B n) := DF.o (DF.m fun _ => DF.e) DF.e
theorem loanF_d {pe : Nat} : DF (loanF B n pe) := DF.m fun _ => DF.w (DF.m fun _ => DF.w (DF.m fun _ => DF.w (DF.m fun _ => DF.o plF_d plF_d)))
theorem lateF_d {l : Nat} : DF (lateF B n l) := DF.m fun _ => DF.w (DF.m fun _ => DF.e)
theorem diesF_d {pe : Nat} : DF (diesF B n pe) := DF.m fun _ => DF.w (DF.m fun _ => DF.e)
theorem courtF_d : DF (courtF B n) := DF.w (DF.m fun _ => DF.e)
theorem letterF_d {pe : Nat} : DF (letterF B n pe) := DF.m fun _ => DF.w (DF.m fun _ => DF.w (DF.m fun _ => DF.e))
theorem deF_d {pe : Nat} : DF (deF B n pe) := DF.m fun _ => DF.w (DF.m fun _ => DF.w (DF.m fun _ => DF.w (DF.m fun _ => DF.e)))
theorem debtF_d {pe : Nat} : DF (debtF B n pe) := DF.o deF_d (DF.w deF_d)
theorem seenF_d {pe : Nat} : DF (seenF B n pe) := DF.m fun _ => DF.w (DF.m fun _ => DF.w (DF.b (DF.w (DF.m fun _ => DF.e))))
theorem plF_x : XF (plF B n) (pl9 B n) := XF.o (XF.m fun _ => XF.e) XF.e
theorem loanF_x {pe : Nat} : XF (loanF B n pe) (loan9 B n pe) := XF.m fun _ => XF.w (XF.m fun _ => XF.w (XF.m fun _ => XF.w (XF.m fun _ => XF.o plF_x plF_x)))
theorem lateF_x {l : Nat} : XF (lateF B n l) (late9 B n l) := XF.m fun _ => XF.w (XF.m fun _ => XF.e)
theorem diesF_x {pe : Nat} : XF (diesF B n pe) (dies9 B n pe) := XF.m fun _ => XF.w (XF.m fun _ => XF.e)
theorem courtF_x : XF (courtF B n) (court9 B n) := XF.w (XF.m fun _ => XF.e)
theorem letterF_x {pe : Nat} : XF (letterF B n pe) (letter9 B n pe) := XF.m fun _ => XF.w (XF.m fun _ => XF.w (XF.m fun _ => XF.e))
theorem deF_x {pe : Nat} : XF (deF B n pe) (de9 B n pe) := XF.m fun _ => XF.w (XF.m fun _ => XF.w (XF.m fun _ => XF.w (XF.m fun _ => XF.e)))
theorem debtF_x {pe : Nat} : XF (debtF B n pe) (debt9 B n pe) := XF.o deF_x (XF.w deF_x)
theorem seenF_x {pe : Nat} : XF (seenF B n pe) (seen9 B n pe) := XF.m fun _ => XF.w (XF.m fun _ => XF.w (XF.b (XF.w (XF.m fun _ => XF.e))))
theorem lineF_d {pe l t d s p f f' : Nat} (a : lineF B n pe l t d s p f) (b : lineF B n pe l t d s p f') : f = f' := by
  rcases a with ⟨w, a⟩ | ⟨w, a⟩ | ⟨w, a⟩ | ⟨w, a⟩ | ⟨w, a⟩ | ⟨w, a⟩ | ⟨w, a⟩ | ⟨⟨w1, w2, w3, w4, w5, w6, w7⟩, a⟩ <;>
    rcases b with ⟨y, b⟩ | ⟨y, b⟩ | ⟨y, b⟩ | ⟨y, b⟩ | ⟨y, b⟩ | ⟨y, b⟩ | ⟨y, b⟩ | ⟨⟨y1, y2, y3, y4, y5, y6, y7⟩, b⟩ <;>
    first
    | exact absurd (w.inj (by decide) (by decide) y) (by decide)
    | exact absurd w y1
    | exact absurd w y2
    | exact absurd w y3
    | exact absurd w y4
    | exact absurd w y5
    | exact absurd w y6
    | exact absurd w y7
    | exact absurd y w1
    | exact absurd y w2
    | exact absurd y w3
    | exact absurd y w4
    | exact absurd y w5
    | exact absurd y w6
    | exact absurd y w7
    | exact lateF_d _ _ _ a b
    | exact diesF_d _ _ _ a b
    | exact courtF_d _ _ _ a b
    | (rw [a, b]; done)
    | (rcases a with ⟨a1, a2⟩ | ⟨a1, a2⟩ <;> rcases b with ⟨b1, b2⟩ | ⟨b1, b2⟩ <;> first | omega | exact loanF_d _ _ _ a2 b2 | exact letterF_d _ _ _ a2 b2 | exact debtF_d _ _ _ a2 b2 | exact seenF_d _ _ _ a2 b2)
theorem lineF_x {pe l t d s p f : Nat} {z : Nat × Nat × Nat × Nat × Nat} (a : lineF B n pe l t d s p f) (b : line9 B n pe l t d s p (some z)) : False := by
  have S : ∀ (o : Option Nat) (g : Nat → Nat × Nat × Nat × Nat × Nat) (C : Prop), some z = o.map g → (∀ q, o = some q → C) → C := fun o g C e k => by
    cases o with
    | none => cases e
    | some q => exact k q rfl
  rcases a with ⟨w, a⟩ | ⟨w, a⟩ | ⟨w, a⟩ | ⟨w, a⟩ | ⟨w, a⟩ | ⟨w, a⟩ | ⟨w, a⟩ | ⟨⟨w1, w2, w3, w4, w5, w6, w7⟩, a⟩ <;>
    rcases b with ⟨y, b⟩ | ⟨y, b⟩ | ⟨y, b⟩ | ⟨y, b⟩ | ⟨y, o', b1, b2⟩ | ⟨y, o', b1, b2⟩ | ⟨y, o', b1, b2⟩ | ⟨⟨y1, y2, y3, y4, y5, y6, y7⟩, b⟩ <;>
    first
    | exact absurd (w.inj (by decide) (by decide) y) (by decide)
    | exact absurd w y1
    | exact absurd w y2
    | exact absurd w y3
    | exact absurd w y4
    | exact absurd w y5
    | exact absurd w y6
    | exact absurd w y7
    | exact absurd y w1
    | exact absurd y w2
    | exact absurd y w3
    | exact absurd y w4
    | exact absurd y w5
    | exact absurd y w6
    | exact absurd y w7
    | (cases b; done)
    | exact S _ _ _ b2 (fun q e => lateF_x _ _ _ a (by rw [e] at b1; exact b1))
    | exact S _ _ _ b2 (fun q e => diesF_x _ _ _ a (by rw [e] at b1; exact b1))
    | exact S _ _ _ b2 (fun q e => courtF_x _ _ _ a (by rw [e] at b1; exact b1))
    | (rcases b with ⟨b1, b2⟩ | ⟨b1, o', b2, b3⟩ <;> rcases a with ⟨a1, a2⟩ | ⟨a1, a2⟩ <;> first | omega | (cases b2; done) | exact S _ _ _ b3 (fun q e => loanF_x _ _ _ a2 (by rw [e] at b2; exact b2)) | exact S _ _ _ b3 (fun q e => letterF_x _ _ _ a2 (by rw [e] at b2; exact b2)) | exact S _ _ _ b3 (fun q e => debtF_x _ _ _ a2 (by rw [e] at b2; exact b2)) | exact S _ _ _ b3 (fun q e => seenF_x _ _ _ a2 (by rw [e] at b2; exact b2)))
theorem townF_d {pe : Nat} : ∀ {m l t d s p f f' : Nat}, townF B n pe m l t d s p f → townF B n pe m l t d s p f' → f = f' := by
  intro m
  induction m with
  | zero =>
    intro l t d s p f f' a b
    have a : f = p := a
    have b : f' = p := b
    rw [a, b]
  | succ m ih =>
    intro l t d s p f f' a b
    rcases a with a | ⟨q, l1, t1, d1, s1, k, a⟩ <;> rcases b with b | ⟨q', l2, t2, d2, s2, k', b⟩
    · exact lineF_d a b
    · exact absurd (lineF_x a k') (fun z => z)
    · exact absurd (lineF_x b k) (fun z => z)
    · have e := line9_d k k'
      injection e with e
      injection e with e1 e
      injection e with e2 e
      injection e with e3 e
      injection e with e4 e5
      subst e1 e2 e3 e4 e5
      rcases a with ⟨a0, a1, a2⟩ | ⟨a0, a1, a2⟩ <;> rcases b with ⟨b0, b1, b2⟩ | ⟨b0, b1, b2⟩
      · rw [a2, b2]
      · exact absurd b1 a1
      · exact absurd a1 b1
      · exact ih a2 b2
theorem TF.same {pe l t d s f f' : Nat} (a : TF B n pe l t d s f) (b : TF B n pe l t d s f') : f = f' := townF_d a.2 b.2
end FM
section FU
variable {B : Nat → Nat} {n i lo hi lo1 hi1 p q q' p1 v f f1 : Nat} {K L : Nat → Nat → Prop} {M : Nat → Nat → Nat → Prop}
theorem wF.y (w : Wd B n i p1) (e : p1 = p) (g9 : q = sk B n (p1 + iv_tl i)) (g : q = q') (k : K q' f) : wF B n i K p f := by
  rw [e] at w g9
  rw [← g, g9] at k
  exact Or.inl ⟨w, k⟩
theorem wF.no (w : ¬ Wd B n i p1) (e : p1 = p) (hf : f = p1) : wF B n i K p f := by
  rw [e] at w hf
  exact Or.inr ⟨w, hf⟩
theorem oF.y (w : Wd B n i p1) (e : p1 = p) (g9 : q = sk B n (p1 + iv_tl i)) (g : q = q') (k : K q' f) : oF B n i K L p f := by
  rw [e] at w g9
  rw [← g, g9] at k
  exact Or.inl ⟨w, k⟩
theorem oF.no (w : ¬ Wd B n i p1) (e : p1 = p) (g : q' = p) (k : L q' f) : oF B n i K L p f := by
  rw [e] at w
  rw [g] at k
  exact Or.inr ⟨w, k⟩
theorem mF.y (g9 : Nr B n lo1 hi1 p1 v q) (e1 : lo1 = lo) (e2 : hi1 = hi) (e : p1 = p) (hv : v ≠ 2147483647) (g : q = q') (k : M v q' f) : mF B n lo hi M p f := by
  rw [e1, e2, e, g] at g9
  exact ⟨v, q', g9, Or.inr ⟨hv, k⟩⟩
theorem mF.no (g9 : Nr B n lo1 hi1 p1 v q) (e1 : lo1 = lo) (e2 : hi1 = hi) (e : p1 = p) (hv : v = 2147483647) (hf : f = p1) : mF B n lo hi M p f := by
  rw [e1, e2, e] at g9
  rw [e] at hf
  exact ⟨v, q, g9, Or.inl ⟨hv, hf⟩⟩
theorem bF.no (a : BlF B n hi1 p1 f1) (e2 : hi1 = hi) (e : p1 = p) (hf : f = f1) : bF B n hi K p f := by
  rw [e2, e, ← hf] at a
  exact Or.inl a
theorem bF.y {a : Nat} (g9 : Bl B n hi1 p1 (rs a q)) (e2 : hi1 = hi) (e : p1 = p) (ha : a = 2147483649) (g : q = q') (k : K q' f) : bF B n hi K p f := by
  rw [rs1 ha, e2, e, g] at g9
  exact Or.inr ⟨q', g9, k⟩
/-- what is left of a row of bodies -/
def Bqf (B : Nat → Nat) (n hi p p0 : Nat) : Prop := ∀ f, BlF B n hi p f → BlF B n hi p0 f
variable {p0 p2 q2 : Nat}
theorem Bqf.zero (e : p = p1) : Bqf B n hi p p1 := fun f h => by rw [← e]; exact h
theorem Bqf.no (m : Bqf B n hi p p0) (g9 : Nr B n lo1 hi1 p1 v q) (e1 : lo1 = 2147483648) (e2 : hi1 = hi) (e : p1 = p) (hv : v = 2147483647) (hf : f = p1) : BlF B n hi p0 f := by
  rw [e1, e2, e] at g9
  rw [e] at hf
  exact m _ (BlF.mk (Or.inl ⟨v, q, g9, hv, hf⟩))
theorem Bqf.go (m : Bqf B n hi p p0) (g9 : Nr B n lo1 hi1 p1 v q) (e1 : lo1 = 2147483648) (e2 : hi1 = hi) (e : p1 = p) (hv : v ≠ 2147483647) (w : Wd B n 15 p2) (g : p2 = q) (h : q2 = sk B n (p2 + iv_tl 15)) (hq : q2 = q') : Bqf B n hi q' p0 := by
  rw [e1, e2, e] at g9
  rw [g] at w h
  rw [← hq, h]
  exact fun r z => m _ (BlF.mk (Or.inr ⟨v, q, g9, hv, w, z⟩))
end FU
section FV
variable {B : Nat → Nat} {n pe l t d s p p1 q1 p2 f : Nat}
theorem lF_lend0 (w : Wd B n 0 p1) (e1 : p1 = p) (h : 2147483668 ≤ l) (hf : f = p1) : lineF B n pe l t d s p f := by
  rw [e1] at w hf
  exact Or.inl ⟨w, Or.inl ⟨h, hf⟩⟩
theorem lF_lend (w : Wd B n 0 p1) (e1 : p1 = p) (h : l < 2147483668) (f1 : q1 = sk B n (p1 + iv_tl 0)) (e2 : p2 = q1) (k : loanF B n pe p2 f) : lineF B n pe l t d s p f := by
  rw [e1] at w f1
  rw [e2, f1] at k
  exact Or.inl ⟨w, Or.inr ⟨h, k⟩⟩
theorem lF_letter0 (w : Wd B n 6 p1) (e1 : p1 = p) (h : 2147483658 ≤ t) (hf : f = p1) : lineF B n pe l t d s p f := by
  rw [e1] at w hf
  exact Or.inr (Or.inl ⟨w, Or.inl ⟨h, hf⟩⟩)
theorem lF_letter (w : Wd B n 6 p1) (e1 : p1 = p) (h : t < 2147483658) (f1 : q1 = sk B n (p1 + iv_tl 6)) (e2 : p2 = q1) (k : letterF B n pe p2 f) : lineF B n pe l t d s p f := by
  rw [e1] at w f1
  rw [e2, f1] at k
  exact Or.inr (Or.inl ⟨w, Or.inr ⟨h, k⟩⟩)
theorem lF_debt0 (w : Wd B n 8 p1) (e1 : p1 = p) (h : 2147483658 ≤ d) (hf : f = p1) : lineF B n pe l t d s p f := by
  rw [e1] at w hf
  exact Or.inr (Or.inr (Or.inl ⟨w, Or.inl ⟨h, hf⟩⟩))
theorem lF_debt (w : Wd B n 8 p1) (e1 : p1 = p) (h : d < 2147483658) (f1 : q1 = sk B n (p1 + iv_tl 8)) (e2 : p2 = q1) (k : debtF B n pe p2 f) : lineF B n pe l t d s p f := by
  rw [e1] at w f1
  rw [e2, f1] at k
  exact Or.inr (Or.inr (Or.inl ⟨w, Or.inr ⟨h, k⟩⟩))
theorem lF_seen0 (w : Wd B n 13 p1) (e1 : p1 = p) (h : 2147483658 ≤ s) (hf : f = p1) : lineF B n pe l t d s p f := by
  rw [e1] at w hf
  exact Or.inr (Or.inr (Or.inr (Or.inl ⟨w, Or.inl ⟨h, hf⟩⟩)))
theorem lF_seen (w : Wd B n 13 p1) (e1 : p1 = p) (h : s < 2147483658) (f1 : q1 = sk B n (p1 + iv_tl 13)) (e2 : p2 = q1) (k : seenF B n pe p2 f) : lineF B n pe l t d s p f := by
  rw [e1] at w f1
  rw [e2, f1] at k
  exact Or.inr (Or.inr (Or.inr (Or.inl ⟨w, Or.inr ⟨h, k⟩⟩)))
theorem lF_late (w : Wd B n 17 p1) (e1 : p1 = p) (f1 : q1 = sk B n (p1 + iv_tl 17)) (e2 : p2 = q1) (k : lateF B n l p2 f) : lineF B n pe l t d s p f := by
  rw [e1] at w f1
  rw [e2, f1] at k
  exact Or.inr (Or.inr (Or.inr (Or.inr (Or.inl ⟨w, k⟩))))
theorem lF_dies (w : Wd B n 19 p1) (e1 : p1 = p) (f1 : q1 = sk B n (p1 + iv_tl 19)) (e2 : p2 = q1) (k : diesF B n pe p2 f) : lineF B n pe l t d s p f := by
  rw [e1] at w f1
  rw [e2, f1] at k
  exact Or.inr (Or.inr (Or.inr (Or.inr (Or.inr (Or.inl ⟨w, k⟩)))))
theorem lF_court (w : Wd B n 20 p1) (e1 : p1 = p) (f1 : q1 = sk B n (p1 + iv_tl 20)) (e2 : p2 = q1) (k : courtF B n p2 f) : lineF B n pe l t d s p f := by
  rw [e1] at w f1
  rw [e2, f1] at k
  exact Or.inr (Or.inr (Or.inr (Or.inr (Or.inr (Or.inr (Or.inl ⟨w, k⟩))))))
theorem lF_no (w0 : ¬ Wd B n 0 p) (w6 : ¬ Wd B n 6 p) (w8 : ¬ Wd B n 8 p) (w13 : ¬ Wd B n 13 p) (w17 : ¬ Wd B n 17 p) (w19 : ¬ Wd B n 19 p) (w20 : ¬ Wd B n 20 p) (hf : f = p) : lineF B n pe l t d s p f :=
  Or.inr (Or.inr (Or.inr (Or.inr (Or.inr (Or.inr (Or.inr ⟨⟨w0, w6, w8, w13, w17, w19, w20⟩, hf⟩))))))
theorem lF_pe {pe' l1 t1 d1 s1 : Nat} (k : lineF B n pe l t d s p f) (e : pe = pe') (e1 : l = l1) (e2 : t = t1) (e3 : d = d1) (e4 : s = s1) : lineF B n pe' l1 t1 d1 s1 p f := by
  rw [← e, ← e1, ← e2, ← e3, ← e4]
  exact k
theorem TF.cast {pe' l1 t1 d1 s1 f' : Nat} (k : TF B n pe l t d s f) (e : pe = pe') (e1 : l = l1) (e2 : t = t1) (e3 : d = d1) (e4 : s = s1) (ef : f = f') : TF B n pe' l1 t1 d1 s1 f' := by
  rw [← e, ← e1, ← e2, ← e3, ← e4, ← ef]
  exact k
end FV
/-- what is left of the town's lines -/
def TlF (B : Nat → Nat) (n pe l0 t0 d0 s0 m l t d s p : Nat) : Prop := p ≤ n ∧ ∀ f, townF B n pe m l t d s p f → TF B n pe l0 t0 d0 s0 f
section FT
variable {B : Nat → Nat} {n pe l0 t0 d0 s0 m m' l t d s l' t' d' s' p p1 p2 p3 q q1 x w f : Nat}
theorem TlF.zero (e1 : p = sk B n 2147483648) (h : p < n) (hm : m = 14) : TlF B n pe l t d s m l t d s p := ⟨by omega, fun f z => ⟨by omega, by rw [← e1, ← hm]; exact z⟩⟩
theorem TlF.zeroR (e : w = sk B n 2147483648) (h0 : 2147483648 ≤ n) (h : w ≠ n) (hm : m = 14) : TlF B n pe l t d s m l t d s (sk B n w) := by
  have x := sk_le (B := B) h0
  have y : sk B n w = w := by rw [e, sk_idem]
  exact TlF.zero (y.trans e) (by omega) hm
theorem TlF.full (z : TlF B n pe l0 t0 d0 s0 m l t d s p) (h : m = 0) (hf : f = p) : TF B n pe l0 t0 d0 s0 f := by
  subst h
  exact z.2 _ hf
theorem TlF.no (z : TlF B n pe l0 t0 d0 s0 m l t d s p) (h : 0 < m) (k : lineF B n pe l t d s p1 f) (e1 : p1 = p) : TF B n pe l0 t0 d0 s0 f := by
  rw [e1] at k
  obtain ⟨m, rfl⟩ : ∃ y, m = y + 1 := ⟨m - 1, by omega⟩
  exact z.2 _ (Or.inl k)
theorem TlF.bad (z : TlF B n pe l0 t0 d0 s0 m l t d s p) (h : 0 < m) (k : line9 B n pe l t d s p1 (rs5 x q l' t' d' s')) (e1 : p1 = p) (hx : x = 2147483649) (hn : q ≠ n) (u : ¬ Sg B n 2147483707 p2) (e2 : p2 = q) (hf : f = p2) : TF B n pe l0 t0 d0 s0 f := by
  rw [rs5_1 hx, e1] at k
  rw [e2] at u hf
  have y := line9_le k z.1 _ rfl
  obtain ⟨m, rfl⟩ : ∃ y, m = y + 1 := ⟨m - 1, by omega⟩
  exact z.2 _ (Or.inr ⟨q, l', t', d', s', k, Or.inl ⟨by have y : q ≤ n := y; omega, u, hf⟩⟩)
theorem TlF.go (z : TlF B n pe l0 t0 d0 s0 m l t d s p) (h : m = m' + 1) (k : line9 B n pe l t d s p1 (rs5 x q l' t' d' s')) (e1 : p1 = p) (hx : x = 2147483649) (u : Sg B n 2147483707 p2) (e2 : p2 = q) (e3 : q1 = sk B n (p2 + 1)) (e4 : q1 = p3) : TlF B n pe l0 t0 d0 s0 m' l' t' d' s' p3 := by
  rw [rs5_1 hx, e1] at k
  rw [e2] at u e3
  rw [← e4, e3]
  subst h
  exact ⟨sk_le (by have := u.1; omega), fun r y => z.2 _ (Or.inr ⟨q, l', t', d', s', k, Or.inr ⟨u.1, u, y⟩⟩)⟩
end FT
/-! ===== where a text of the custom is wrong ===== -/
def GF_R (B : Nat → Nat) (n : Nat) (R : Nat → Nat → Nat → Nat → Prop) (k : Nat) (l : Nat) (p : Nat) (f : Nat) : Prop :=
  (k = Kd.part ∧ f = p ∧ Nb B n p ∧ (∀ i, six i → ¬ Wd B n i p)) ∨
  (∃ t, k = Kd.seq t ∧ R (el t) l p f) ∨
  (∃ t q, k = Kd.seq t ∧ G B n (el t) l p (some q) ∧ R (Kd.lp t) l q f) ∨
  (∃ t, k = Kd.lp t ∧ Cw B n t p ∧ R (el t) l (sk B n (p + cw t)) f) ∨
  (∃ t q, k = Kd.lp t ∧ Cw B n t p ∧ G B n (el t) l (sk B n (p + cw t)) (some q) ∧ R (Kd.lp t) l q f) ∨
  (k = Kd.atom ∧ f = p ∧ Wd B n 24 p ∧ 6 ≤ l) ∨
  (k = Kd.atom ∧ Wd B n 24 p ∧ l < 6 ∧ R Kd.atom (l + 1) (sk B n (p + 3)) f) ∨
  (k = Kd.atom ∧ f = p ∧ Sg B n 2147483688 p ∧ 6 ≤ l) ∨
  (k = Kd.atom ∧ Sg B n 2147483688 p ∧ l < 6 ∧ R (Kd.seq 2) (l + 1) (sk B n (p + 1)) f) ∨
  (k = Kd.atom ∧ Sg B n 2147483688 p ∧ l < 6 ∧ G B n (Kd.seq 2) (l + 1) (sk B n (p + 1)) (some f) ∧ ¬ Sg B n 2147483689 f) ∨
  (k = Kd.atom ∧ An B n p ∧ R (Kd.seq 0) l p f) ∨
  (k = Kd.atom ∧ An B n p ∧ G B n (Kd.seq 0) l p (some f) ∧ ¬ Sg B n 2147483708 f ∧ ¬ Sg B n 2147483710 f) ∨
  (∃ q, k = Kd.atom ∧ An B n p ∧ G B n (Kd.seq 0) l p (some q) ∧ (Sg B n 2147483708 q ∨ Sg B n 2147483710 q) ∧ R (Kd.seq 0) l (sk B n (q + 1)) f) ∨
  (k = Kd.line ∧ f = p ∧ ¬ Wd B n 21 p ∧ ¬ Wd B n 22 p) ∨
  (∃ i, k = Kd.line ∧ (i = 21 ∨ i = 22) ∧ Wd B n i p ∧ Wd B n 23 (sk B n (p + iv_tl i)) ∧ R (Kd.seq 2) 0 (sk B n (sk B n (p + iv_tl i) + 2)) f)
def GF (B : Nat → Nat) (n : Nat) (k : Nat) (l : Nat) (p : Nat) (f : Nat) : Prop := ∀ R : Nat → Nat → Nat → Nat → Prop, (∀ k l p f, GF_R B n R k l p f → R k l p f) → R k l p f
theorem GF_R.mono {B : Nat → Nat} {n : Nat} {R S : Nat → Nat → Nat → Nat → Prop} (h : ∀ k l p f, R k l p f → S k l p f) {k : Nat} {l : Nat} {p : Nat} {f : Nat} (x : GF_R B n R k l p f) : GF_R B n S k l p f := by
  rcases x with ⟨e0, e1, a0, a1⟩ | ⟨t, e0, a0⟩ | ⟨t, q, e0, a0, a1⟩ | ⟨t, e0, a0, a1⟩ | ⟨t, q, e0, a0, a1, a2⟩ | ⟨e0, e1, a0, a1⟩ | ⟨e0, a0, a1, a2⟩ | ⟨e0, e1, a0, a1⟩ | ⟨e0, a0, a1, a2⟩ | ⟨e0, a0, a1, a2, a3⟩ | ⟨e0, a0, a1⟩ | ⟨e0, a0, a1, a2, a3⟩ | ⟨q, e0, a0, a1, a2, a3⟩ | ⟨e0, e1, a0, a1⟩ | ⟨i, e0, a0, a1, a2, a3⟩
  · exact (Or.inl ⟨e0, e1, a0, a1⟩)
  · exact (Or.inr (Or.inl ⟨t, e0, h _ _ _ _ a0⟩))
  · exact (Or.inr (Or.inr (Or.inl ⟨t, q, e0, a0, h _ _ _ _ a1⟩)))
  · exact (Or.inr (Or.inr (Or.inr (Or.inl ⟨t, e0, a0, h _ _ _ _ a1⟩))))
  · exact (Or.inr (Or.inr (Or.inr (Or.inr (Or.inl ⟨t, q, e0, a0, a1, h _ _ _ _ a2⟩)))))
  · exact (Or.inr (Or.inr (Or.inr (Or.inr (Or.inr (Or.inl ⟨e0, e1, a0, a1⟩))))))
  · exact (Or.inr (Or.inr (Or.inr (Or.inr (Or.inr (Or.inr (Or.inl ⟨e0, a0, a1, h _ _ _ _ a2⟩)))))))
  · exact (Or.inr (Or.inr (Or.inr (Or.inr (Or.inr (Or.inr (Or.inr (Or.inl ⟨e0, e1, a0, a1⟩))))))))
  · exact (Or.inr (Or.inr (Or.inr (Or.inr (Or.inr (Or.inr (Or.inr (Or.inr (Or.inl ⟨e0, a0, a1, h _ _ _ _ a2⟩)))))))))
  · exact (Or.inr (Or.inr (Or.inr (Or.inr (Or.inr (Or.inr (Or.inr (Or.inr (Or.inr (Or.inl ⟨e0, a0, a1, a2, a3⟩))))))))))
  · exact (Or.inr (Or.inr (Or.inr (Or.inr (Or.inr (Or.inr (Or.inr (Or.inr (Or.inr (Or.inr (Or.inl ⟨e0, a0, h _ _ _ _ a1⟩)))))))))))
  · exact (Or.inr (Or.inr (Or.inr (Or.inr (Or.inr (Or.inr (Or.inr (Or.inr (Or.inr (Or.inr (Or.inr (Or.inl ⟨e0, a0, a1, a2, a3⟩))))))))))))
  · exact (Or.inr (Or.inr (Or.inr (Or.inr (Or.inr (Or.inr (Or.inr (Or.inr (Or.inr (Or.inr (Or.inr (Or.inr (Or.inl ⟨q, e0, a0, a1, a2, h _ _ _ _ a3⟩)))))))))))))
  · exact (Or.inr (Or.inr (Or.inr (Or.inr (Or.inr (Or.inr (Or.inr (Or.inr (Or.inr (Or.inr (Or.inr (Or.inr (Or.inr (Or.inl ⟨e0, e1, a0, a1⟩))))))))))))))
  · exact (Or.inr (Or.inr (Or.inr (Or.inr (Or.inr (Or.inr (Or.inr (Or.inr (Or.inr (Or.inr (Or.inr (Or.inr (Or.inr (Or.inr ⟨i, e0, a0, a1, a2, h _ _ _ _ a3⟩))))))))))))))
theorem GF.mk {B : Nat → Nat} {n : Nat} {k : Nat} {l : Nat} {p : Nat} {f : Nat} (x : GF_R B n (GF B n) k l p f) : GF B n k l p f := fun R c => c _ _ _ _ (GF_R.mono (fun _ _ _ _ z => z R c) x)
theorem GF.inv {B : Nat → Nat} {n : Nat} {k : Nat} {l : Nat} {p : Nat} {f : Nat} (x : GF B n k l p f) : GF_R B n (GF B n) k l p f := x (fun k l p f => GF_R B n (GF B n) k l p f) (fun _ _ _ _ z => GF_R.mono (fun _ _ _ _ y => GF.mk y) z)
theorem GF.ind {B : Nat → Nat} {n : Nat} {C : Nat → Nat → Nat → Nat → Prop} (st : ∀ k l p f, GF_R B n (fun k l p f => GF B n k l p f ∧ C k l p f) k l p f → C k l p f) {k : Nat} {l : Nat} {p : Nat} {f : Nat} (x : GF B n k l p f) : C k l p f :=
  (x (fun k l p f => GF B n k l p f ∧ C k l p f) (fun _ _ _ _ z => ⟨GF.mk (GF_R.mono (fun _ _ _ _ y => y.1) z), st _ _ _ _ z⟩)).2
theorem GF.pno {B : Nat → Nat} {n : Nat} {l : Nat} {p : Nat} (a0 : Nb B n p) (a1 : ∀ i, six i → ¬ Wd B n i p) : GF B n Kd.part l p p := GF.mk (Or.inl ⟨rfl, rfl, a0, a1⟩)
theorem GF.sno {B : Nat → Nat} {n : Nat} {t : Nat} {l : Nat} {p : Nat} {f : Nat} (a0 : GF B n (el t) l p f) : GF B n (Kd.seq t) l p f := GF.mk (Or.inr (Or.inl ⟨t, rfl, a0⟩))
theorem GF.sgo {B : Nat → Nat} {n : Nat} {t : Nat} {q : Nat} {l : Nat} {p : Nat} {f : Nat} (a0 : G B n (el t) l p (some q)) (a1 : GF B n (Kd.lp t) l q f) : GF B n (Kd.seq t) l p f := GF.mk (Or.inr (Or.inr (Or.inl ⟨t, q, rfl, a0, a1⟩)))
theorem GF.lno {B : Nat → Nat} {n : Nat} {t : Nat} {l : Nat} {p : Nat} {f : Nat} (a0 : Cw B n t p) (a1 : GF B n (el t) l (sk B n (p + cw t)) f) : GF B n (Kd.lp t) l p f := GF.mk (Or.inr (Or.inr (Or.inr (Or.inl ⟨t, rfl, a0, a1⟩))))
theorem GF.lgo {B : Nat → Nat} {n : Nat} {t : Nat} {q : Nat} {l : Nat} {p : Nat} {f : Nat} (a0 : Cw B n t p) (a1 : G B n (el t) l (sk B n (p + cw t)) (some q)) (a2 : GF B n (Kd.lp t) l q f) : GF B n (Kd.lp t) l p f := GF.mk (Or.inr (Or.inr (Or.inr (Or.inr (Or.inl ⟨t, q, rfl, a0, a1, a2⟩)))))
theorem GF.not6 {B : Nat → Nat} {n : Nat} {l : Nat} {p : Nat} (a0 : Wd B n 24 p) (a1 : 6 ≤ l) : GF B n Kd.atom l p p := GF.mk (Or.inr (Or.inr (Or.inr (Or.inr (Or.inr (Or.inl ⟨rfl, rfl, a0, a1⟩))))))
theorem GF.not {B : Nat → Nat} {n : Nat} {l : Nat} {p : Nat} {f : Nat} (a0 : Wd B n 24 p) (a1 : l < 6) (a2 : GF B n Kd.atom (l + 1) (sk B n (p + 3)) f) : GF B n Kd.atom l p f := GF.mk (Or.inr (Or.inr (Or.inr (Or.inr (Or.inr (Or.inr (Or.inl ⟨rfl, a0, a1, a2⟩)))))))
theorem GF.par6 {B : Nat → Nat} {n : Nat} {l : Nat} {p : Nat} (a0 : Sg B n 2147483688 p) (a1 : 6 ≤ l) : GF B n Kd.atom l p p := GF.mk (Or.inr (Or.inr (Or.inr (Or.inr (Or.inr (Or.inr (Or.inr (Or.inl ⟨rfl, rfl, a0, a1⟩))))))))
theorem GF.par0 {B : Nat → Nat} {n : Nat} {l : Nat} {p : Nat} {f : Nat} (a0 : Sg B n 2147483688 p) (a1 : l < 6) (a2 : GF B n (Kd.seq 2) (l + 1) (sk B n (p + 1)) f) : GF B n Kd.atom l p f := GF.mk (Or.inr (Or.inr (Or.inr (Or.inr (Or.inr (Or.inr (Or.inr (Or.inr (Or.inl ⟨rfl, a0, a1, a2⟩)))))))))
theorem GF.par1 {B : Nat → Nat} {n : Nat} {l : Nat} {p : Nat} {f : Nat} (a0 : Sg B n 2147483688 p) (a1 : l < 6) (a2 : G B n (Kd.seq 2) (l + 1) (sk B n (p + 1)) (some f)) (a3 : ¬ Sg B n 2147483689 f) : GF B n Kd.atom l p f := GF.mk (Or.inr (Or.inr (Or.inr (Or.inr (Or.inr (Or.inr (Or.inr (Or.inr (Or.inr (Or.inl ⟨rfl, a0, a1, a2, a3⟩))))))))))
theorem GF.c0 {B : Nat → Nat} {n : Nat} {l : Nat} {p : Nat} {f : Nat} (a0 : An B n p) (a1 : GF B n (Kd.seq 0) l p f) : GF B n Kd.atom l p f := GF.mk (Or.inr (Or.inr (Or.inr (Or.inr (Or.inr (Or.inr (Or.inr (Or.inr (Or.inr (Or.inr (Or.inl ⟨rfl, a0, a1⟩)))))))))))
theorem GF.c1 {B : Nat → Nat} {n : Nat} {l : Nat} {p : Nat} {f : Nat} (a0 : An B n p) (a1 : G B n (Kd.seq 0) l p (some f)) (a2 : ¬ Sg B n 2147483708 f) (a3 : ¬ Sg B n 2147483710 f) : GF B n Kd.atom l p f := GF.mk (Or.inr (Or.inr (Or.inr (Or.inr (Or.inr (Or.inr (Or.inr (Or.inr (Or.inr (Or.inr (Or.inr (Or.inl ⟨rfl, a0, a1, a2, a3⟩))))))))))))
theorem GF.c2 {B : Nat → Nat} {n : Nat} {q : Nat} {l : Nat} {p : Nat} {f : Nat} (a0 : An B n p) (a1 : G B n (Kd.seq 0) l p (some q)) (a2 : Sg B n 2147483708 q ∨ Sg B n 2147483710 q) (a3 : GF B n (Kd.seq 0) l (sk B n (q + 1)) f) : GF B n Kd.atom l p f := GF.mk (Or.inr (Or.inr (Or.inr (Or.inr (Or.inr (Or.inr (Or.inr (Or.inr (Or.inr (Or.inr (Or.inr (Or.inr (Or.inl ⟨q, rfl, a0, a1, a2, a3⟩)))))))))))))
theorem GF.lnno {B : Nat → Nat} {n : Nat} {l : Nat} {p : Nat} (a0 : ¬ Wd B n 21 p) (a1 : ¬ Wd B n 22 p) : GF B n Kd.line l p p := GF.mk (Or.inr (Or.inr (Or.inr (Or.inr (Or.inr (Or.inr (Or.inr (Or.inr (Or.inr (Or.inr (Or.inr (Or.inr (Or.inr (Or.inl ⟨rfl, rfl, a0, a1⟩))))))))))))))
theorem GF.lnif {B : Nat → Nat} {n : Nat} {i : Nat} {l : Nat} {p : Nat} {f : Nat} (a0 : i = 21 ∨ i = 22) (a1 : Wd B n i p) (a2 : Wd B n 23 (sk B n (p + iv_tl i))) (a3 : GF B n (Kd.seq 2) 0 (sk B n (sk B n (p + iv_tl i) + 2)) f) : GF B n Kd.line l p f := GF.mk (Or.inr (Or.inr (Or.inr (Or.inr (Or.inr (Or.inr (Or.inr (Or.inr (Or.inr (Or.inr (Or.inr (Or.inr (Or.inr (Or.inr ⟨i, rfl, a0, a1, a2, a3⟩))))))))))))))
theorem GF.inv_part {B : Nat → Nat} {n l p f : Nat} (b : GF B n Kd.part l p f) : (f = p ∧ Nb B n p ∧ (∀ i, six i → ¬ Wd B n i p)) := by
  rcases b.inv with ⟨e0, e1, a0, a1⟩ | ⟨t, e0, a0⟩ | ⟨t, q, e0, a0, a1⟩ | ⟨t, e0, a0, a1⟩ | ⟨t, q, e0, a0, a1, a2⟩ | ⟨e0, e1, a0, a1⟩ | ⟨e0, a0, a1, a2⟩ | ⟨e0, e1, a0, a1⟩ | ⟨e0, a0, a1, a2⟩ | ⟨e0, a0, a1, a2, a3⟩ | ⟨e0, a0, a1⟩ | ⟨e0, a0, a1, a2, a3⟩ | ⟨q, e0, a0, a1, a2, a3⟩ | ⟨e0, e1, a0, a1⟩ | ⟨i, e0, a0, a1, a2, a3⟩
  · exact ⟨e1, a0, a1⟩
  · exact absurd e0 (by show ¬ (0 = 10 + 2 * t); omega)
  · exact absurd e0 (by show ¬ (0 = 10 + 2 * t); omega)
  · exact absurd e0 (by show ¬ (0 = 11 + 2 * t); omega)
  · exact absurd e0 (by show ¬ (0 = 11 + 2 * t); omega)
  · exact absurd e0 (by show ¬ (0 = 1); omega)
  · exact absurd e0 (by show ¬ (0 = 1); omega)
  · exact absurd e0 (by show ¬ (0 = 1); omega)
  · exact absurd e0 (by show ¬ (0 = 1); omega)
  · exact absurd e0 (by show ¬ (0 = 1); omega)
  · exact absurd e0 (by show ¬ (0 = 1); omega)
  · exact absurd e0 (by show ¬ (0 = 1); omega)
  · exact absurd e0 (by show ¬ (0 = 1); omega)
  · exact absurd e0 (by show ¬ (0 = 2); omega)
  · exact absurd e0 (by show ¬ (0 = 2); omega)
theorem GF.inv_seq {B : Nat → Nat} {n s l p f : Nat} (b : GF B n (Kd.seq s) l p f) : (GF B n (el s) l p f) ∨ (∃ q, G B n (el s) l p (some q) ∧ GF B n (Kd.lp s) l q f) := by
  rcases b.inv with ⟨e0, e1, a0, a1⟩ | ⟨t, e0, a0⟩ | ⟨t, q, e0, a0, a1⟩ | ⟨t, e0, a0, a1⟩ | ⟨t, q, e0, a0, a1, a2⟩ | ⟨e0, e1, a0, a1⟩ | ⟨e0, a0, a1, a2⟩ | ⟨e0, e1, a0, a1⟩ | ⟨e0, a0, a1, a2⟩ | ⟨e0, a0, a1, a2, a3⟩ | ⟨e0, a0, a1⟩ | ⟨e0, a0, a1, a2, a3⟩ | ⟨q, e0, a0, a1, a2, a3⟩ | ⟨e0, e1, a0, a1⟩ | ⟨i, e0, a0, a1, a2, a3⟩
  · exact absurd e0 (by show ¬ (10 + 2 * s = 0); omega)
  · have z : t = s := by have y : 10 + 2 * s = 10 + 2 * t := e0; omega
    subst z
    exact Or.inl a0
  · have z : t = s := by have y : 10 + 2 * s = 10 + 2 * t := e0; omega
    subst z
    exact Or.inr (⟨q, a0, a1⟩)
  · exact absurd e0 (by show ¬ (10 + 2 * s = 11 + 2 * t); omega)
  · exact absurd e0 (by show ¬ (10 + 2 * s = 11 + 2 * t); omega)
  · exact absurd e0 (by show ¬ (10 + 2 * s = 1); omega)
  · exact absurd e0 (by show ¬ (10 + 2 * s = 1); omega)
  · exact absurd e0 (by show ¬ (10 + 2 * s = 1); omega)
  · exact absurd e0 (by show ¬ (10 + 2 * s = 1); omega)
  · exact absurd e0 (by show ¬ (10 + 2 * s = 1); omega)
  · exact absurd e0 (by show ¬ (10 + 2 * s = 1); omega)
  · exact absurd e0 (by show ¬ (10 + 2 * s = 1); omega)
  · exact absurd e0 (by show ¬ (10 + 2 * s = 1); omega)
  · exact absurd e0 (by show ¬ (10 + 2 * s = 2); omega)
  · exact absurd e0 (by show ¬ (10 + 2 * s = 2); omega)
theorem GF.inv_lp {B : Nat → Nat} {n s l p f : Nat} (b : GF B n (Kd.lp s) l p f) : (Cw B n s p ∧ GF B n (el s) l (sk B n (p + cw s)) f) ∨ (∃ q, Cw B n s p ∧ G B n (el s) l (sk B n (p + cw s)) (some q) ∧ GF B n (Kd.lp s) l q f) := by
  rcases b.inv with ⟨e0, e1, a0, a1⟩ | ⟨t, e0, a0⟩ | ⟨t, q, e0, a0, a1⟩ | ⟨t, e0, a0, a1⟩ | ⟨t, q, e0, a0, a1, a2⟩ | ⟨e0, e1, a0, a1⟩ | ⟨e0, a0, a1, a2⟩ | ⟨e0, e1, a0, a1⟩ | ⟨e0, a0, a1, a2⟩ | ⟨e0, a0, a1, a2, a3⟩ | ⟨e0, a0, a1⟩ | ⟨e0, a0, a1, a2, a3⟩ | ⟨q, e0, a0, a1, a2, a3⟩ | ⟨e0, e1, a0, a1⟩ | ⟨i, e0, a0, a1, a2, a3⟩
  · exact absurd e0 (by show ¬ (11 + 2 * s = 0); omega)
  · exact absurd e0 (by show ¬ (11 + 2 * s = 10 + 2 * t); omega)
  · exact absurd e0 (by show ¬ (11 + 2 * s = 10 + 2 * t); omega)
  · have z : t = s := by have y : 11 + 2 * s = 11 + 2 * t := e0; omega
    subst z
    exact Or.inl ⟨a0, a1⟩
  · have z : t = s := by have y : 11 + 2 * s = 11 + 2 * t := e0; omega
    subst z
    exact Or.inr (⟨q, a0, a1, a2⟩)
  · exact absurd e0 (by show ¬ (11 + 2 * s = 1); omega)
  · exact absurd e0 (by show ¬ (11 + 2 * s = 1); omega)
  · exact absurd e0 (by show ¬ (11 + 2 * s = 1); omega)
  · exact absurd e0 (by show ¬ (11 + 2 * s = 1); omega)
  · exact absurd e0 (by show ¬ (11 + 2 * s = 1); omega)
  · exact absurd e0 (by show ¬ (11 + 2 * s = 1); omega)
  · exact absurd e0 (by show ¬ (11 + 2 * s = 1); omega)
  · exact absurd e0 (by show ¬ (11 + 2 * s = 1); omega)
  · exact absurd e0 (by show ¬ (11 + 2 * s = 2); omega)
  · exact absurd e0 (by show ¬ (11 + 2 * s = 2); omega)
theorem GF.inv_atom {B : Nat → Nat} {n l p f : Nat} (b : GF B n Kd.atom l p f) : (f = p ∧ Wd B n 24 p ∧ 6 ≤ l) ∨ (Wd B n 24 p ∧ l < 6 ∧ GF B n Kd.atom (l + 1) (sk B n (p + 3)) f) ∨ (f = p ∧ Sg B n 2147483688 p ∧ 6 ≤ l) ∨ (Sg B n 2147483688 p ∧ l < 6 ∧ GF B n (Kd.seq 2) (l + 1) (sk B n (p + 1)) f) ∨ (Sg B n 2147483688 p ∧ l < 6 ∧ G B n (Kd.seq 2) (l + 1) (sk B n (p + 1)) (some f) ∧ ¬ Sg B n 2147483689 f) ∨ (An B n p ∧ GF B n (Kd.seq 0) l p f) ∨ (An B n p ∧ G B n (Kd.seq 0) l p (some f) ∧ ¬ Sg B n 2147483708 f ∧ ¬ Sg B n 2147483710 f) ∨ (∃ q, An B n p ∧ G B n (Kd.seq 0) l p (some q) ∧ (Sg B n 2147483708 q ∨ Sg B n 2147483710 q) ∧ GF B n (Kd.seq 0) l (sk B n (q + 1)) f) := by
  rcases b.inv with ⟨e0, e1, a0, a1⟩ | ⟨t, e0, a0⟩ | ⟨t, q, e0, a0, a1⟩ | ⟨t, e0, a0, a1⟩ | ⟨t, q, e0, a0, a1, a2⟩ | ⟨e0, e1, a0, a1⟩ | ⟨e0, a0, a1, a2⟩ | ⟨e0, e1, a0, a1⟩ | ⟨e0, a0, a1, a2⟩ | ⟨e0, a0, a1, a2, a3⟩ | ⟨e0, a0, a1⟩ | ⟨e0, a0, a1, a2, a3⟩ | ⟨q, e0, a0, a1, a2, a3⟩ | ⟨e0, e1, a0, a1⟩ | ⟨i, e0, a0, a1, a2, a3⟩
  · exact absurd e0 (by show ¬ (1 = 0); omega)
  · exact absurd e0 (by show ¬ (1 = 10 + 2 * t); omega)
  · exact absurd e0 (by show ¬ (1 = 10 + 2 * t); omega)
  · exact absurd e0 (by show ¬ (1 = 11 + 2 * t); omega)
  · exact absurd e0 (by show ¬ (1 = 11 + 2 * t); omega)
  · exact Or.inl ⟨e1, a0, a1⟩
  · exact Or.inr (Or.inl ⟨a0, a1, a2⟩)
  · exact Or.inr (Or.inr (Or.inl ⟨e1, a0, a1⟩))
  · exact Or.inr (Or.inr (Or.inr (Or.inl ⟨a0, a1, a2⟩)))
  · exact Or.inr (Or.inr (Or.inr (Or.inr (Or.inl ⟨a0, a1, a2, a3⟩))))
  · exact Or.inr (Or.inr (Or.inr (Or.inr (Or.inr (Or.inl ⟨a0, a1⟩)))))
  · exact Or.inr (Or.inr (Or.inr (Or.inr (Or.inr (Or.inr (Or.inl ⟨a0, a1, a2, a3⟩))))))
  · exact Or.inr (Or.inr (Or.inr (Or.inr (Or.inr (Or.inr (Or.inr (⟨q, a0, a1, a2, a3⟩)))))))
  · exact absurd e0 (by show ¬ (1 = 2); omega)
  · exact absurd e0 (by show ¬ (1 = 2); omega)
theorem GF.inv_line {B : Nat → Nat} {n l p f : Nat} (b : GF B n Kd.line l p f) : (f = p ∧ ¬ Wd B n 21 p ∧ ¬ Wd B n 22 p) ∨ (∃ i, (i = 21 ∨ i = 22) ∧ Wd B n i p ∧ Wd B n 23 (sk B n (p + iv_tl i)) ∧ GF B n (Kd.seq 2) 0 (sk B n (sk B n (p + iv_tl i) + 2)) f) := by
  rcases b.inv with ⟨e0, e1, a0, a1⟩ | ⟨t, e0, a0⟩ | ⟨t, q, e0, a0, a1⟩ | ⟨t, e0, a0, a1⟩ | ⟨t, q, e0, a0, a1, a2⟩ | ⟨e0, e1, a0, a1⟩ | ⟨e0, a0, a1, a2⟩ | ⟨e0, e1, a0, a1⟩ | ⟨e0, a0, a1, a2⟩ | ⟨e0, a0, a1, a2, a3⟩ | ⟨e0, a0, a1⟩ | ⟨e0, a0, a1, a2, a3⟩ | ⟨q, e0, a0, a1, a2, a3⟩ | ⟨e0, e1, a0, a1⟩ | ⟨i, e0, a0, a1, a2, a3⟩
  · exact absurd e0 (by show ¬ (2 = 0); omega)
  · exact absurd e0 (by show ¬ (2 = 10 + 2 * t); omega)
  · exact absurd e0 (by show ¬ (2 = 10 + 2 * t); omega)
  · exact absurd e0 (by show ¬ (2 = 11 + 2 * t); omega)
  · exact absurd e0 (by show ¬ (2 = 11 + 2 * t); omega)
  · exact absurd e0 (by show ¬ (2 = 1); omega)
  · exact absurd e0 (by show ¬ (2 = 1); omega)
  · exact absurd e0 (by show ¬ (2 = 1); omega)
  · exact absurd e0 (by show ¬ (2 = 1); omega)
  · exact absurd e0 (by show ¬ (2 = 1); omega)
  · exact absurd e0 (by show ¬ (2 = 1); omega)
  · exact absurd e0 (by show ¬ (2 = 1); omega)
  · exact absurd e0 (by show ¬ (2 = 1); omega)
  · exact Or.inl ⟨e1, a0, a1⟩
  · exact Or.inr (⟨i, a0, a1, a2, a3⟩)
theorem GF.gno {B : Nat → Nat} {n k l p f : Nat} (a : GF B n k l p f) : G B n k l p none := by
  refine GF.ind (C := fun k l p _ => G B n k l p none) ?_ a
  intro k l p f x
  rcases x with ⟨rfl, rfl, h, h2⟩ | ⟨t, rfl, h, ih⟩ | ⟨t, q, rfl, h, h2, ih⟩ | ⟨t, rfl, w, h, ih⟩ | ⟨t, q, rfl, w, h, h2, ih⟩ | ⟨rfl, rfl, w, hl⟩ | ⟨rfl, w, hl, h, ih⟩ | ⟨rfl, rfl, w, hl⟩ | ⟨rfl, w, hl, h, ih⟩ | ⟨rfl, w, hl, h, h2⟩ | ⟨rfl, w, h, ih⟩ | ⟨rfl, w, h, u1, u2⟩ | ⟨q, rfl, w, h, u, h2, ih⟩ | ⟨rfl, rfl, h1, h2⟩ | ⟨i, rfl, s, w, w2, h, ih⟩
  · exact G.pno h h2
  · exact G.sno ih
  · exact G.sgo h ih
  · exact G.lno w ih
  · exact G.lgo w h ih
  · exact G.not6 w hl
  · exact G.not w hl ih
  · exact G.par6 w hl
  · exact G.par0 w hl ih
  · exact G.par1 w hl h h2
  · exact G.c0 w ih
  · exact G.c1 w h u1 u2
  · exact G.c2 w h u ih
  · exact G.lnno h1 h2
  · exact G.lnif s w w2 ih
theorem GF.nso {B : Nat → Nat} {n k l p f q : Nat} (a : GF B n k l p f) (b : G B n k l p (some q)) : False := by
  have e := a.gno.same _ b
  cases e
theorem Gq {B : Nat → Nat} {n k l p q q' : Nat} (a : G B n k l p (some q)) (b : G B n k l p (some q')) : q = q' := by
  have e := a.same _ b
  injection e with e
theorem ax01 {B : Nat → Nat} {n p : Nat} (a : Wd B n 24 p) (b : Sg B n 2147483688 p) : False := absurd (Ak.same (k := 0) (m := 1) (Or.inl ⟨rfl, a⟩) (Or.inr (Or.inl ⟨rfl, b⟩))) (by decide)
theorem GF.same {B : Nat → Nat} {n k l p f : Nat} (a : GF B n k l p f) : ∀ f', GF B n k l p f' → f = f' := by
  refine GF.ind (C := fun k l p f => ∀ f', GF B n k l p f' → f = f') ?_ a
  intro k l p f x
  rcases x with ⟨rfl, rfl, h, h2⟩ | ⟨t, rfl, h, ih⟩ | ⟨t, q, rfl, h, h2, ih⟩ | ⟨t, rfl, w, h, ih⟩ | ⟨t, q, rfl, w, h, h2, ih⟩ | ⟨rfl, rfl, w, hl⟩ | ⟨rfl, w, hl, h, ih⟩ | ⟨rfl, rfl, w, hl⟩ | ⟨rfl, w, hl, h, ih⟩ | ⟨rfl, w, hl, h, h2⟩ | ⟨rfl, w, h, ih⟩ | ⟨rfl, w, h, u1, u2⟩ | ⟨q, rfl, w, h, u, h2, ih⟩ | ⟨rfl, rfl, h1, h2⟩ | ⟨i, rfl, s, w, w2, h, ih⟩
  · intro f' b
    rcases b.inv_part with ⟨e, _, _⟩
    · exact e.symm
  · intro f' b
    rcases b.inv_seq with g | ⟨q, g, g2⟩
    · exact ih _ g
    · exact (h.nso g).elim
  · intro f' b
    rcases b.inv_seq with g | ⟨q', g, g2⟩
    · exact (g.nso h).elim
    · have e := Gq h g; subst e; exact ih _ g2
  · intro f' b
    rcases b.inv_lp with ⟨_, g⟩ | ⟨q, _, g, g2⟩
    · exact ih _ g
    · exact (h.nso g).elim
  · intro f' b
    rcases b.inv_lp with ⟨_, g⟩ | ⟨q', _, g, g2⟩
    · exact (g.nso h).elim
    · have e := Gq h g; subst e; exact ih _ g2
  · intro f' b
    rcases b.inv_atom with ⟨e, g, gl⟩ | ⟨g, gl, g2⟩ | ⟨e, g, gl⟩ | ⟨g, gl, g2⟩ | ⟨g, gl, g2, g3⟩ | ⟨g, g2⟩ | ⟨g, g2, g3, g4⟩ | ⟨q', g, g2, g3, g4⟩
    · exact e.symm
    · omega
    · exact (ax01 w g).elim
    · exact (ax01 w g).elim
    · exact (ax01 w g).elim
    · exact absurd w g.1
    · exact absurd w g.1
    · exact absurd w g.1
  · intro f' b
    rcases b.inv_atom with ⟨e, g, gl⟩ | ⟨g, gl, g2⟩ | ⟨e, g, gl⟩ | ⟨g, gl, g2⟩ | ⟨g, gl, g2, g3⟩ | ⟨g, g2⟩ | ⟨g, g2, g3, g4⟩ | ⟨q', g, g2, g3, g4⟩
    · omega
    · exact ih _ g2
    · exact (ax01 w g).elim
    · exact (ax01 w g).elim
    · exact (ax01 w g).elim
    · exact absurd w g.1
    · exact absurd w g.1
    · exact absurd w g.1
  · intro f' b
    rcases b.inv_atom with ⟨e, g, gl⟩ | ⟨g, gl, g2⟩ | ⟨e, g, gl⟩ | ⟨g, gl, g2⟩ | ⟨g, gl, g2, g3⟩ | ⟨g, g2⟩ | ⟨g, g2, g3, g4⟩ | ⟨q', g, g2, g3, g4⟩
    · exact (ax01 g w).elim
    · exact (ax01 g w).elim
    · exact e.symm
    · omega
    · omega
    · exact absurd w g.2.1
    · exact absurd w g.2.1
    · exact absurd w g.2.1
  · intro f' b
    rcases b.inv_atom with ⟨e, g, gl⟩ | ⟨g, gl, g2⟩ | ⟨e, g, gl⟩ | ⟨g, gl, g2⟩ | ⟨g, gl, g2, g3⟩ | ⟨g, g2⟩ | ⟨g, g2, g3, g4⟩ | ⟨q', g, g2, g3, g4⟩
    · exact (ax01 g w).elim
    · exact (ax01 g w).elim
    · omega
    · exact ih _ g2
    · exact (h.nso g2).elim
    · exact absurd w g.2.1
    · exact absurd w g.2.1
    · exact absurd w g.2.1
  · intro f' b
    rcases b.inv_atom with ⟨e, g, gl⟩ | ⟨g, gl, g2⟩ | ⟨e, g, gl⟩ | ⟨g, gl, g2⟩ | ⟨g, gl, g2, g3⟩ | ⟨g, g2⟩ | ⟨g, g2, g3, g4⟩ | ⟨q', g, g2, g3, g4⟩
    · exact (ax01 g w).elim
    · exact (ax01 g w).elim
    · omega
    · exact (g2.nso h).elim
    · exact Gq h g2
    · exact absurd w g.2.1
    · exact absurd w g.2.1
    · exact absurd w g.2.1
  · intro f' b
    rcases b.inv_atom with ⟨e, g, gl⟩ | ⟨g, gl, g2⟩ | ⟨e, g, gl⟩ | ⟨g, gl, g2⟩ | ⟨g, gl, g2, g3⟩ | ⟨g, g2⟩ | ⟨g, g2, g3, g4⟩ | ⟨q', g, g2, g3, g4⟩
    · exact absurd g w.1
    · exact absurd g w.1
    · exact absurd g w.2.1
    · exact absurd g w.2.1
    · exact absurd g w.2.1
    · exact ih _ g2
    · exact (h.nso g2).elim
    · exact (h.nso g2).elim
  · intro f' b
    rcases b.inv_atom with ⟨e, g, gl⟩ | ⟨g, gl, g2⟩ | ⟨e, g, gl⟩ | ⟨g, gl, g2⟩ | ⟨g, gl, g2, g3⟩ | ⟨g, g2⟩ | ⟨g, g2, g3, g4⟩ | ⟨q', g, g2, g3, g4⟩
    · exact absurd g w.1
    · exact absurd g w.1
    · exact absurd g w.2.1
    · exact absurd g w.2.1
    · exact absurd g w.2.1
    · exact (g2.nso h).elim
    · exact Gq h g2
    · have e := Gq h g2; subst e; exact g3.elim (fun z => absurd z u1) (fun z => absurd z u2)
  · intro f' b
    rcases b.inv_atom with ⟨e, g, gl⟩ | ⟨g, gl, g2⟩ | ⟨e, g, gl⟩ | ⟨g, gl, g2⟩ | ⟨g, gl, g2, g3⟩ | ⟨g, g2⟩ | ⟨g, g2, g3, g4⟩ | ⟨q', g, g2, g3, g4⟩
    · exact absurd g w.1
    · exact absurd g w.1
    · exact absurd g w.2.1
    · exact absurd g w.2.1
    · exact absurd g w.2.1
    · exact (g2.nso h).elim
    · have e := Gq h g2; subst e; exact u.elim (fun z => absurd z g3) (fun z => absurd z g4)
    · have e := Gq h g2; subst e; exact ih _ g4
  · intro f' b
    rcases b.inv_line with ⟨e, _, _⟩ | ⟨i, s, g, _, _⟩
    · exact e.symm
    · exact s.elim (fun z => absurd (z ▸ g) h1) (fun z => absurd (z ▸ g) h2)
  · intro f' b
    rcases b.inv_line with ⟨_, n1, n2⟩ | ⟨i', s', g, g2, g3⟩
    · exact s.elim (fun z => absurd (z ▸ w) n1) (fun z => absurd (z ▸ w) n2)
    · have e := wd_ln s s' w g; subst e; exact ih _ g3
/-- the lines: c is how many were read -/
def LsF_R (B : Nat → Nat) (n : Nat) (R : Nat → Nat → Nat → Prop) (c : Nat) (p : Nat) (f : Nat) : Prop :=
  (f = p ∧ 2147483658 ≤ c) ∨
  (c < 2147483658 ∧ GF B n Kd.line 0 p f) ∨
  (c < 2147483658 ∧ G B n Kd.line 0 p (some f) ∧ f < n ∧ ¬ Sg B n 2147483707 f) ∨
  (∃ q, c < 2147483658 ∧ G B n Kd.line 0 p (some q) ∧ Sg B n 2147483707 q ∧ R (c + 1) (sk B n (q + 1)) f)
def LsF (B : Nat → Nat) (n : Nat) (c : Nat) (p : Nat) (f : Nat) : Prop := ∀ R : Nat → Nat → Nat → Prop, (∀ c p f, LsF_R B n R c p f → R c p f) → R c p f
theorem LsF_R.mono {B : Nat → Nat} {n : Nat} {R S : Nat → Nat → Nat → Prop} (h : ∀ c p f, R c p f → S c p f) {c : Nat} {p : Nat} {f : Nat} (x : LsF_R B n R c p f) : LsF_R B n S c p f := by
  rcases x with ⟨e0, a0⟩ | ⟨a0, a1⟩ | ⟨a0, a1, a2, a3⟩ | ⟨q, a0, a1, a2, a3⟩
  · exact (Or.inl ⟨e0, a0⟩)
  · exact (Or.inr (Or.inl ⟨a0, a1⟩))
  · exact (Or.inr (Or.inr (Or.inl ⟨a0, a1, a2, a3⟩)))
  · exact (Or.inr (Or.inr (Or.inr ⟨q, a0, a1, a2, h _ _ _ a3⟩)))
theorem LsF.mk {B : Nat → Nat} {n : Nat} {c : Nat} {p : Nat} {f : Nat} (x : LsF_R B n (LsF B n) c p f) : LsF B n c p f := fun R c => c _ _ _ (LsF_R.mono (fun _ _ _ z => z R c) x)
theorem LsF.inv {B : Nat → Nat} {n : Nat} {c : Nat} {p : Nat} {f : Nat} (x : LsF B n c p f) : LsF_R B n (LsF B n) c p f := x (fun c p f => LsF_R B n (LsF B n) c p f) (fun _ _ _ z => LsF_R.mono (fun _ _ _ y => LsF.mk y) z)
theorem LsF.ind {B : Nat → Nat} {n : Nat} {C : Nat → Nat → Nat → Prop} (st : ∀ c p f, LsF_R B n (fun c p f => LsF B n c p f ∧ C c p f) c p f → C c p f) {c : Nat} {p : Nat} {f : Nat} (x : LsF B n c p f) : C c p f :=
  (x (fun c p f => LsF B n c p f ∧ C c p f) (fun _ _ _ z => ⟨LsF.mk (LsF_R.mono (fun _ _ _ y => y.1) z), st _ _ _ z⟩)).2
theorem LsF.full {B : Nat → Nat} {n : Nat} {c : Nat} {p : Nat} (a0 : 2147483658 ≤ c) : LsF B n c p p := LsF.mk (Or.inl ⟨rfl, a0⟩)
theorem LsF.no {B : Nat → Nat} {n : Nat} {c : Nat} {p : Nat} {f : Nat} (a0 : c < 2147483658) (a1 : GF B n Kd.line 0 p f) : LsF B n c p f := LsF.mk (Or.inr (Or.inl ⟨a0, a1⟩))
theorem LsF.bad {B : Nat → Nat} {n : Nat} {c : Nat} {p : Nat} {f : Nat} (a0 : c < 2147483658) (a1 : G B n Kd.line 0 p (some f)) (a2 : f < n) (a3 : ¬ Sg B n 2147483707 f) : LsF B n c p f := LsF.mk (Or.inr (Or.inr (Or.inl ⟨a0, a1, a2, a3⟩)))
theorem LsF.go {B : Nat → Nat} {n : Nat} {q : Nat} {c : Nat} {p : Nat} {f : Nat} (a0 : c < 2147483658) (a1 : G B n Kd.line 0 p (some q)) (a2 : Sg B n 2147483707 q) (a3 : LsF B n (c + 1) (sk B n (q + 1)) f) : LsF B n c p f := LsF.mk (Or.inr (Or.inr (Or.inr ⟨q, a0, a1, a2, a3⟩)))
theorem LsF.same {B : Nat → Nat} {n c p f : Nat} (a : LsF B n c p f) : ∀ f', LsF B n c p f' → f = f' := by
  refine LsF.ind (C := fun c p f => ∀ f', LsF B n c p f' → f = f') ?_ a
  intro c p f x
  rcases x with ⟨rfl, h⟩ | ⟨h, h2⟩ | ⟨h, h2, h3, h4⟩ | ⟨q, h, h2, h3, _, ih⟩
  · intro f' b
    rcases b.inv with ⟨e, _⟩ | ⟨g, _⟩ | ⟨g, _, _, _⟩ | ⟨q, g, _, _, _⟩
    · exact e.symm
    · omega
    · omega
    · omega
  · intro f' b
    rcases b.inv with ⟨e, g⟩ | ⟨_, g⟩ | ⟨_, g, _, _⟩ | ⟨q, _, g, _, _⟩
    · omega
    · exact h2.same _ g
    · exact (h2.nso g).elim
    · exact (h2.nso g).elim
  · intro f' b
    rcases b.inv with ⟨e, g⟩ | ⟨_, g⟩ | ⟨_, g, _, _⟩ | ⟨q, _, g, g2, _⟩
    · omega
    · exact (g.nso h2).elim
    · exact Gq h2 g
    · have e := Gq h2 g; subst e; exact absurd g2 h4
  · intro f' b
    rcases b.inv with ⟨e, g⟩ | ⟨_, g⟩ | ⟨_, g, _, g2⟩ | ⟨q', _, g, _, g2⟩
    · omega
    · exact (g.nso h2).elim
    · have e := Gq h2 g; subst e; exact absurd h3 g2
    · have e := Gq h2 g; subst e; exact ih _ g2
def CuF (B : Nat → Nat) (n f : Nat) : Prop := sk B n 2147483648 < n ∧ LsF B n 2147483648 (sk B n 2147483648) f
theorem CuF.same {B : Nat → Nat} {n f f' : Nat} (a : CuF B n f) (b : CuF B n f') : f = f' := a.2.same _ b.2
def ResF (B : Nat → Nat) (n : Nat) (k : Nat) (l p : Nat) (k0 : Nat) (l0 p0 : Nat) : Prop := ∀ f, GF B n k l p f → GF B n k0 l0 p0 f
/-- what is left of the custom's lines -/
def LqF (B : Nat → Nat) (n c p : Nat) : Prop := p ≤ n ∧ ∀ f, LsF B n c p f → CuF B n f
section GSF
variable {B : Nat → Nat} {n l p q q' p1 p2 p3 q1 q2 a i t f f1 w c c' : Nat}
theorem fP_no (hn : Nb B n p) (w1 : ¬ Wd B n 2 p) (w2 : ¬ Wd B n 27 p) (w3 : ¬ Wd B n 5 p) (w4 : ¬ Wd B n 28 p) (w5 : ¬ Wd B n 29 p) (w6 : ¬ Wd B n 30 p) (hf : f = p) : GF B n Kd.part l p f := by
  rw [hf]
  refine GF.pno hn (fun i s => ?_)
  rcases s with rfl | rfl | rfl | rfl | rfl | rfl
  · exact w1
  · exact w2
  · exact w3
  · exact w4
  · exact w5
  · exact w6
theorem fP_nol (hn : Nb B n p) (w : ¬ Ltr B n p) (hf : f = p) : GF B n Kd.part l p f := by
  rw [hf]
  exact GF.pno hn (fun i s => no_wd (six_lt s) w)
theorem fQ_no (g : GF B n (el t) l p1 f1) (e : p1 = p) (hf : f = f1) : GF B n (Kd.seq t) l p f := by
  rw [e] at g
  rw [hf]
  exact GF.sno g
theorem fQ_in (g : G B n (el t) l p1 (rs a q)) (e : p1 = p) (ha : a = 2147483649) (hq : q = q') : ResF B n (Kd.lp t) l q' (Kd.seq t) l p := by
  rw [rs1 ha, e, hq] at g
  exact fun f h => GF.sgo g h
theorem fQ_st (m : ResF B n (Kd.lp t) l p1 (Kd.seq t) l p) (w : Cw B n t p2) (e1 : p2 = p1) (e2 : q1 = sk B n (p2 + cw t)) (g : G B n (el t) l p3 (rs a q2)) (e3 : p3 = q1) (ha : a = 2147483649) (hq : q2 = q') : ResF B n (Kd.lp t) l q' (Kd.seq t) l p := by
  rw [rs1 ha, e3, e2, e1, hq] at g
  rw [e1] at w
  exact fun f h => m f (GF.lgo w g h)
theorem fQ_f (m : ResF B n (Kd.lp t) l p1 (Kd.seq t) l p) (w : Cw B n t p2) (e1 : p2 = p1) (e2 : q1 = sk B n (p2 + cw t)) (g : GF B n (el t) l p3 f1) (e3 : p3 = q1) (hf : f = f1) : GF B n (Kd.seq t) l p f := by
  rw [e3, e2, e1] at g
  rw [e1] at w
  rw [hf]
  exact m _ (GF.lno w g)
theorem fA_not6 (w : Wd B n 24 p1) (e : p1 = p) (hl : 6 ≤ l) (hf : f = p1) : GF B n Kd.atom l p f := by
  rw [hf, e]
  rw [e] at w
  exact GF.not6 w hl
theorem fA_not (w : Wd B n 24 p1) (e : p1 = p) (e2 : q1 = sk B n (p1 + iv_tl 24)) (hl : l < 6) (g : GF B n Kd.atom (l + 1) p2 f1) (e3 : p2 = q1) (hf : f = f1) : GF B n Kd.atom l p f := by
  rw [e3, e2, e] at g
  rw [e] at w
  rw [hf]
  exact GF.not w hl g
theorem fA_par6 (w : Sg B n 2147483688 p1) (e : p1 = p) (hl : 6 ≤ l) (hf : f = p1) : GF B n Kd.atom l p f := by
  rw [hf, e]
  rw [e] at w
  exact GF.par6 w hl
theorem fA_par0 (w : Sg B n 2147483688 p1) (e : p1 = p) (e2 : q1 = sk B n (p1 + 1)) (hl : l < 6) (g : GF B n (Kd.seq 2) (l + 1) p2 f1) (e3 : p2 = q1) (hf : f = f1) : GF B n Kd.atom l p f := by
  rw [e3, e2, e] at g
  rw [e] at w
  rw [hf]
  exact GF.par0 w hl g
theorem fA_par1 (w : Sg B n 2147483688 p1) (e : p1 = p) (e2 : q1 = sk B n (p1 + 1)) (hl : l < 6) (g : G B n (Kd.seq 2) (l + 1) p2 (rs a q2)) (e3 : p2 = q1) (ha : a = 2147483649) (u : ¬ Sg B n 2147483689 p3) (e4 : p3 = q2) (hf : f = p3) : GF B n Kd.atom l p f := by
  rw [e3, e2, e, rs1 ha] at g
  rw [e] at w
  rw [hf, e4]
  rw [e4] at u
  exact GF.par1 w hl g u
theorem fA_c0 (w : An B n p) (g : GF B n (Kd.seq 0) l p1 f1) (e : p1 = p) (hf : f = f1) : GF B n Kd.atom l p f := by
  rw [e] at g
  rw [hf]
  exact GF.c0 w g
theorem fA_c1 (w : An B n p) (g : G B n (Kd.seq 0) l p1 (rs a q2)) (e : p1 = p) (ha : a = 2147483649) (u1 : ¬ Sg B n 2147483708 p2) (e2 : p2 = q2) (u2 : ¬ Sg B n 2147483710 p3) (e3 : p3 = q2) (hf : f = p3) : GF B n Kd.atom l p f := by
  rw [e, rs1 ha] at g
  rw [hf, e3]
  rw [e2] at u1
  rw [e3] at u2
  exact GF.c1 w g u1 u2
theorem fA_c2 (w : An B n p) (g : G B n (Kd.seq 0) l p1 (rs a q2)) (e : p1 = p) (ha : a = 2147483649) (u : Sg B n 2147483708 p2 ∨ Sg B n 2147483710 p2) (e2 : p2 = q2) (e3 : q1 = sk B n (p2 + 1)) (k : GF B n (Kd.seq 0) l p3 f1) (e4 : p3 = q1) (hf : f = f1) : GF B n Kd.atom l p f := by
  rw [e, rs1 ha] at g
  rw [e4, e3, e2] at k
  rw [e2] at u
  rw [hf]
  exact GF.c2 w g u k
theorem fL_no (w1 : ¬ Wd B n 21 p1) (e1 : p1 = p) (w2 : ¬ Wd B n 22 p2) (e2 : p2 = p) (hf : f = p) : GF B n Kd.line 0 p f := by
  rw [e1] at w1
  rw [e2] at w2
  rw [hf]
  exact GF.lnno w1 w2
theorem fL_if (s : i = 21 ∨ i = 22) (w : Wd B n i p1) (e1 : p1 = p) (e2 : q1 = sk B n (p1 + iv_tl i)) (u : Wd B n 23 p2) (e3 : p2 = q1) (e4 : q2 = sk B n (p2 + iv_tl 23)) (g : GF B n (Kd.seq 2) 0 p3 f1) (e5 : p3 = q2) (hf : f = f1) : GF B n Kd.line 0 p f := by
  rw [e1] at w e2
  rw [e5, e4, e3, e2] at g
  rw [e3, e2] at u
  rw [hf]
  exact GF.lnif s w u g
theorem LqF.zero (e : p = sk B n 2147483648) (h : p < n) (hc : c = 2147483648) : LqF B n c p := ⟨by omega, fun f z => ⟨by omega, by rw [← e, ← hc]; exact z⟩⟩
theorem LqF.zeroR (e : w = sk B n 2147483648) (h0 : 2147483648 ≤ n) (h : w ≠ n) (hc : c = 2147483648) : LqF B n c (sk B n w) := by
  have x := sk_le (B := B) h0
  have y : sk B n w = w := by rw [e, sk_idem]
  exact LqF.zero (y.trans e) (by omega) hc
theorem LqF.full (m : LqF B n c p) (h : 2147483658 ≤ c) (hf : f = p) : CuF B n f := by
  rw [hf]
  exact m.2 _ (LsF.full h)
theorem LqF.no (m : LqF B n c p) (h : c < 2147483658) (g : GF B n Kd.line 0 p1 f1) (e : p1 = p) (hf : f = f1) : CuF B n f := by
  rw [e] at g
  rw [hf]
  exact m.2 _ (LsF.no h g)
theorem LqF.bad (m : LqF B n c p) (h : c < 2147483658) (g : G B n Kd.line 0 p1 (rs a q)) (e : p1 = p) (ha : a = 2147483649) (hn : q ≠ n) (u : ¬ Sg B n 2147483707 p2) (e2 : p2 = q) (hf : f = p2) : CuF B n f := by
  rw [e, rs1 ha] at g
  rw [e2] at u
  rw [hf, e2]
  exact m.2 _ (LsF.bad h g (by have := g.le m.1 _ rfl; omega) u)
theorem LqF.go (m : LqF B n c p) (h : c < 2147483658) (g : G B n Kd.line 0 p1 (rs a q)) (e : p1 = p) (ha : a = 2147483649) (u : Sg B n 2147483707 p2) (e2 : p2 = q) (e3 : q1 = sk B n (p2 + 1)) (hc : c' = c + 1) (hp : q1 = p3) : LqF B n c' p3 := by
  rw [e, rs1 ha] at g
  rw [e2] at u e3
  rw [hc, ← hp, e3]
  exact ⟨sk_le (by have := u.1; omega), fun f h2 => m.2 f (LsF.go h g u h2)⟩
end GSF
theorem CuF.cast {B : Nat → Nat} {n f f' : Nat} (a : CuF B n f) (e : f' = f) : CuF B n f' := by rw [e]; exact a
/-- the fault behind tell and custom, in the program (caught: r) and reference -/
def Fc (B : Nat → Nat) (n : Nat) (h h' : xh) (r : Nat) : Prop := (r = 2147483649 → TF B n (tv h 0) (tv h 2) (tv h 3) (tv h 4) (tv h 5) (h' 0 11)) ∧ (r ≠ 2147483649 → h' 0 11 = 2147483647)
def Gc (B : Nat → Nat) (n : Nat) (h' : xh) (r : Nat) : Prop := (r = 2147483649 → CuF B n (h' 0 11)) ∧ (r ≠ 2147483649 → h' 0 11 = 2147483647)
def Ff (B : Nat → Nat) (n : Nat) (h h' : xh) : Prop := (h' 75 0 = 2147483649 → TF B n (h 76 0) (h 76 2) (h 76 3) (h 76 4) (h 76 5) (h' 75 11)) ∧ (h' 75 0 ≠ 2147483649 → h' 75 11 = 2147483647)
def Gf (B : Nat → Nat) (n : Nat) (h' : xh) : Prop := (h' 75 0 = 2147483649 → CuF B n (h' 75 11)) ∧ (h' 75 0 ≠ 2147483649 → h' 75 11 = 2147483647)
