/-! ===== what the interpreter's numbers mean ===== -/
theorem iv_n1 (a b : Nat) : Nat.div a b = a / b := rfl
theorem iv_n2 (a b : Nat) : Nat.mod a b = a % b := rfl
theorem iv_n3 (a b : Nat) : Nat.add a b = a + b := rfl
theorem iv_n4 (a b : Nat) : Nat.sub a b = a - b := rfl
theorem iv_n5 (a b : Nat) : Nat.mul a b = a * b := rfl
theorem iv_n6 (a : Nat) : Nat.succ a = a + 1 := rfl
theorem iv_n7 (a b : Nat) : (Nat.ble a b = true) = (a ≤ b) := propext ⟨Nat.le_of_ble_eq_true, Nat.ble_eq_true_of_le⟩
theorem iv_n8 (a b : Nat) : (Nat.beq a b = true) = (a = b) := propext ⟨Nat.eq_of_beq_eq_true, fun h => by subst h; exact Nat.beq_refl a⟩
theorem iv_n9 (a b : Nat) : (Nat.ble a b = false) = (b < a) := by
  apply propext
  rcases Nat.lt_or_ge b a with h | h
  · refine ⟨fun _ => h, fun _ => ?_⟩
    cases g : Nat.ble a b with
    | false => rfl
    | true => exact absurd (Nat.le_of_ble_eq_true g) (Nat.not_le.mpr h)
  · rw [Nat.ble_eq_true_of_le h]
    exact ⟨fun g => (by cases g), fun g => absurd h (Nat.not_le.mpr g)⟩
theorem iv_n10 (a b : Nat) : (Nat.beq a b = false) = (a ≠ b) := by
  apply propext
  by_cases h : a = b
  · subst h
    rw [Nat.beq_refl]
    exact ⟨fun g => (by cases g), fun g => absurd rfl g⟩
  · refine ⟨fun _ => h, fun _ => ?_⟩
    cases g : Nat.beq a b with
    | false => rfl
    | true => exact absurd (Nat.eq_of_beq_eq_true g) h
theorem iv_f_eq {α : Type} (v : Nat) (k : Nat → α) : iv_f v k = k v := by cases v <;> rfl
theorem iv_b1 {c : Bool} {t : iv_R} {o : Nat × iv_H} (h : @Bool.rec (fun _ => iv_R) none t c = some o) : c = true ∧ t = some o := by cases c <;> first | exact ⟨rfl, h⟩ | cases h
theorem iv_b2 {c : Bool} {t e : iv_R} {o : Nat × iv_H} (h : @Bool.rec (fun _ => iv_R) e t c = some o) : (c = true ∧ t = some o) ∨ (c = false ∧ e = some o) := by cases c <;> first | exact Or.inl ⟨rfl, h⟩ | exact Or.inr ⟨rfl, h⟩
theorem iv_bB {c t : Bool} (h : @Bool.rec (fun _ => Bool) false t c = true) : c = true ∧ t = true := by cases c <;> first | exact ⟨rfl, h⟩ | cases h
theorem iv_bC {c t e : Bool} (h : @Bool.rec (fun _ => Bool) e t c = true) : (c = true ∧ t = true) ∨ (c = false ∧ e = true) := by cases c <;> first | exact Or.inl ⟨rfl, h⟩ | exact Or.inr ⟨rfl, h⟩
theorem iv_bN (c : Bool) (t e : Nat) : @Bool.rec (fun _ => Nat) e t c = if c = true then t else e := by cases c <;> rfl
theorem iv_l1 {l : List Nat} {f : Nat → List Nat → iv_R} {o : Nat × iv_H} (h : @List.rec Nat (fun _ => iv_R) none (fun a t _ => f a t) l = some o) : ∃ a t, l = a :: t ∧ f a t = some o := by
  cases l with
  | nil => cases h
  | cons a t => exact ⟨a, t, rfl, h⟩
theorem iv_o1 {α : Type} {x : Option α} {f : α → iv_R} {o : Nat × iv_H} (h : @Option.rec α (fun _ => iv_R) none f x = some o) : ∃ a, x = some a ∧ f a = some o := by
  cases x with
  | none => cases h
  | some a => exact ⟨a, rfl, h⟩
theorem iv_nth_some {α β : Type} : ∀ (l : List α) (k : Nat) (K : α → Option β) (o : β), iv_nth l k K = some o → ∃ a, l[k]? = some a ∧ K a = some o
  | [], _, _, _, h => by cases h
  | a :: l, 0, K, o, h => ⟨a, rfl, h⟩
  | a :: l, k + 1, K, o, h => by
    obtain ⟨b, h1, h2⟩ := iv_nth_some l k K o h
    exact ⟨b, by rw [List.getElem?_cons_succ]; exact h1, h2⟩
theorem iv_set_some {α β : Type} : ∀ (l : List α) (k : Nat) (v : α) (K : List α → Option β) (o : β), iv_set l k v K = some o → k < l.length ∧ K (l.set k v) = some o
  | [], _, _, _, _, h => by cases h
  | a :: l, 0, v, K, o, h => ⟨Nat.zero_lt_succ _, h⟩
  | a :: l, k + 1, v, K, o, h => by
    obtain ⟨h1, h2⟩ := iv_set_some l k v (fun t' => K (a :: t')) o h
    exact ⟨Nat.succ_lt_succ h1, h2⟩
/-- the cell at k -/
def iv_hk (L : iv_H) (k : Nat) : Option iv_C := (L.2[k / 8]?).bind (fun g => g[k % 8]?)
theorem iv_hg_some {L : iv_H} {k : Nat} {K : iv_C → iv_R} {o : Nat × iv_H} (h : iv_hg L k K = some o) : ∃ q, iv_hk L k = some q ∧ K q = some o := by
  obtain ⟨g, h1, h2⟩ := iv_nth_some _ _ _ _ h
  obtain ⟨q, h3, h4⟩ := iv_nth_some _ _ _ _ h2
  have h1 : L.2[k / 8]? = some g := h1
  have h3 : g[k % 8]? = some q := h3
  exact ⟨q, by unfold iv_hk; rw [h1]; exact h3, h4⟩
theorem iv_hs_some {L : iv_H} {k : Nat} {x : iv_C} {K : iv_H → iv_R} {o : Nat × iv_H} (h : iv_hs L k x K = some o) :
    ∃ L' : iv_H, K L' = some o ∧ L'.1 = L.1 ∧ iv_hk L' k = some x ∧ ∀ j, j ≠ k → iv_hk L' j = iv_hk L j := by
  obtain ⟨g, h1, h2⟩ := iv_nth_some _ _ _ _ h
  obtain ⟨h3, h4⟩ := iv_set_some _ _ _ _ _ h2
  obtain ⟨h5, h6⟩ := iv_set_some _ _ _ _ _ h4
  have h1 : L.2[k / 8]? = some g := h1
  have h3 : k % 8 < g.length := h3
  have h5 : k / 8 < L.2.length := h5
  refine ⟨_, h6, rfl, ?_, fun j hj => ?_⟩
  · show ((L.2.set (k / 8) (g.set (k % 8) x))[k / 8]?).bind (fun g => g[k % 8]?) = some x
    rw [List.getElem?_set_self h5]
    exact List.getElem?_set_self h3
  · show ((L.2.set (k / 8) (g.set (k % 8) x))[j / 8]?).bind (fun g => g[j % 8]?) = (L.2[j / 8]?).bind (fun g => g[j % 8]?)
    by_cases e : k / 8 = j / 8
    · rw [← e, List.getElem?_set_self h5, h1]
      show (g.set (k % 8) x)[j % 8]? = g[j % 8]?
      rw [List.getElem?_set_ne (by omega)]
    · rw [List.getElem?_set_ne e]
/-- ints and their numbers -/
theorem iv_bs_eq (x : Int32) : (iv_bs x : Int) = x.toInt + 2147483648 := by
  have h : iv_bs x = (x.toBitVec.toNat + 2147483648) % 4294967296 := rfl
  have h1 : x.toInt = x.toBitVec.toInt := rfl
  have h2 := BitVec.toInt_eq_toNat_cond x.toBitVec
  have h3 : x.toBitVec.toNat < 4294967296 := x.toBitVec.isLt
  rw [h, h1, h2]
  simp only [show (2 : Nat) ^ 32 = 4294967296 from rfl]
  split <;> omega
theorem iv_bs_lt (x : Int32) : iv_bs x < 4294967296 := Nat.mod_lt _ (by decide)
theorem iv_bs_inj {x y : Int32} (h : iv_bs x = iv_bs y) : x = y := by
  have h1 := iv_bs_eq x
  have h2 := iv_bs_eq y
  exact Int32.toInt_inj.mp (by omega)
theorem iv_bs_ub {a : Nat} (h : a < 4294967296) : iv_bs (iv_ub a) = a := by
  obtain ⟨n, hn⟩ : ∃ n, n = Nat.add a 2147483648 := ⟨_, rfl⟩
  have e : iv_ub a = Int32.ofNat n := by rw [hn]; rfl
  rw [iv_n3] at hn
  have e1 := iv_bs_eq (iv_ub a)
  rw [e, Int32.toInt_ofNat', Int.bmod_def] at e1
  rw [e]
  simp only [Int32.size] at e1
  split at e1 <;> omega
theorem iv_ub_bs (x : Int32) : iv_ub (iv_bs x) = x := iv_bs_inj (iv_bs_ub (iv_bs_lt x))
theorem iv_of_const {a : Nat} {x : Int32} (h : iv_bs x = a) : x = iv_ub a := by rw [← h, iv_ub_bs]
/-- x lies in the interval v -/
def iv_in (v : Nat) (x : Int32) : Prop := v % 4294967296 ≤ iv_bs x ∧ iv_bs x ≤ v / 4294967296
theorem iv_in_mk {lo hi : Nat} {x : Int32} (hl : lo < 4294967296) (h1 : lo ≤ iv_bs x) (h2 : iv_bs x ≤ hi) : iv_in (iv_mk lo hi) x := by
  unfold iv_in iv_mk
  rw [iv_n3, iv_n5]
  constructor <;> omega
theorem iv_in_c {a : Nat} {x : Int32} (h : iv_bs x = a) : iv_in (iv_c a) x := by
  have := iv_bs_lt x
  exact iv_in_mk (by omega) (by omega) (by omega)
theorem iv_c_lt {a : Nat} (h : a < 4294967296) : iv_c a < 18446744073709551616 := by
  show a + 4294967296 * a < _
  omega
theorem iv_mk_lt {lo hi : Nat} (h1 : lo < 4294967296) (h2 : hi < 4294967296) : iv_mk lo hi < 18446744073709551616 := by
  show lo + 4294967296 * hi < _
  omega
theorem iv_in_top (x : Int32) : iv_in iv_top x := by
  have := iv_bs_lt x
  unfold iv_in iv_top
  omega
theorem iv_top_lt : iv_top < 18446744073709551616 := by decide
theorem iv_add_ok {a b : Nat} {x y : Int32} (ha : a < 18446744073709551616) (hb : b < 18446744073709551616) (hx : iv_in a x) (hy : iv_in b y) : iv_in (iv_add a b) (x + y) ∧ iv_add a b < 18446744073709551616 := by
  unfold iv_add
  simp only [iv_bN, iv_n1, iv_n2, iv_n3, iv_n4, iv_n7]
  unfold iv_in at hx hy ⊢
  have e1 := iv_bs_eq x
  have e2 := iv_bs_eq y
  have e3 := iv_bs_eq (x + y)
  have e4 : (x + y).toInt = (x.toInt + y.toInt).bmod (2 ^ 32) := Int32.toInt_add x y
  rw [Int.bmod_def] at e4
  have l3 := iv_bs_lt (x + y)
  split
  · split
    · split at e4 <;> (refine ⟨⟨?_, ?_⟩, ?_⟩ <;> omega)
    · unfold iv_top; omega
  · unfold iv_top; omega
theorem iv_bcase {P : Nat → Prop} (c : Bool) (t e : Nat) (ht : c = true → P t) (he : c = false → P e) : P (@Bool.rec (fun _ => Nat) e t c) := by
  cases c with
  | true => exact ht rfl
  | false => exact he rfl
theorem iv_sub_ok {a b : Nat} {x y : Int32} (ha : a < 18446744073709551616) (hb : b < 18446744073709551616) (hx : iv_in a x) (hy : iv_in b y) : iv_in (iv_sub a b) (x - y) ∧ iv_sub a b < 18446744073709551616 := by
  have hx1 := hx.1
  have hx2 := hx.2
  have hy1 := hy.1
  have hy2 := hy.2
  have e1 := iv_bs_eq x
  have e2 := iv_bs_eq y
  have e3 := iv_bs_eq (x - y)
  have e4 : (x - y).toInt = (x.toInt - y.toInt).bmod (2 ^ 32) := Int32.toInt_sub x y
  rw [Int.bmod_def] at e4
  have l3 := iv_bs_lt (x - y)
  have q1 : a % 4294967296 < 4294967296 := Nat.mod_lt _ (by decide)
  have q2 : b % 4294967296 < 4294967296 := Nat.mod_lt _ (by decide)
  have q3 : a / 4294967296 < 4294967296 := by omega
  have q4 : b / 4294967296 < 4294967296 := by omega
  unfold iv_sub
  generalize h1 : Nat.ble (Nat.div b 4294967296) (Nat.add (Nat.mod a 4294967296) 2147483648) = c1
  generalize h2 : Nat.ble (Nat.add (Nat.div a 4294967296) 2147483648) (Nat.add (Nat.mod b 4294967296) 4294967295) = c2
  cases c1
  · exact ⟨iv_in_top _, iv_top_lt⟩
  cases c2
  · exact ⟨iv_in_top _, iv_top_lt⟩
  show iv_in (iv_mk (Nat.sub (Nat.add (Nat.mod a 4294967296) 2147483648) (Nat.div b 4294967296)) (Nat.sub (Nat.add (Nat.div a 4294967296) 2147483648) (Nat.mod b 4294967296))) (x - y) ∧ iv_mk (Nat.sub (Nat.add (Nat.mod a 4294967296) 2147483648) (Nat.div b 4294967296)) (Nat.sub (Nat.add (Nat.div a 4294967296) 2147483648) (Nat.mod b 4294967296)) < 18446744073709551616
  simp only [iv_n7, iv_n1, iv_n2, iv_n3] at h1 h2
  simp only [iv_n1, iv_n2, iv_n3, iv_n4]
  generalize a % 4294967296 = al at *
  generalize a / 4294967296 = ah at *
  generalize b % 4294967296 = bl at *
  generalize b / 4294967296 = bh at *
  obtain ⟨K, hK⟩ : ∃ K : Nat, K = 2147483648 := ⟨_, rfl⟩
  rw [← hK] at h1 h2 ⊢
  refine ⟨iv_in_mk ?_ ?_ ?_, iv_mk_lt ?_ ?_⟩ <;> (split at e4 <;> omega)
theorem iv_mul_ok {a b : Nat} {x y : Int32} (ha : a < 18446744073709551616) (hb : b < 18446744073709551616) (hx : iv_in a x) (hy : iv_in b y) : iv_in (iv_mul a b) (x * y) ∧ iv_mul a b < 18446744073709551616 := by
  have hx1 := hx.1
  have hx2 := hx.2
  have hy1 := hy.1
  have hy2 := hy.2
  have e1 := iv_bs_eq x
  have e2 := iv_bs_eq y
  have e3 := iv_bs_eq (x * y)
  have e4 : (x * y).toInt = (x.toInt * y.toInt).bmod (2 ^ 32) := Int32.toInt_mul x y
  have l3 := iv_bs_lt (x * y)
  unfold iv_mul
  generalize h1 : Nat.ble 2147483648 (Nat.mod a 4294967296) = c1
  generalize h2 : Nat.ble 2147483648 (Nat.mod b 4294967296) = c2
  generalize h3 : Nat.ble (Nat.mul (Nat.sub (Nat.div a 4294967296) 2147483648) (Nat.sub (Nat.div b 4294967296) 2147483648)) 2147483647 = c3
  cases c1
  · exact ⟨iv_in_top _, iv_top_lt⟩
  cases c2
  · exact ⟨iv_in_top _, iv_top_lt⟩
  cases c3
  · exact ⟨iv_in_top _, iv_top_lt⟩
  show iv_in (iv_mk (Nat.add (Nat.mul (Nat.sub (Nat.mod a 4294967296) 2147483648) (Nat.sub (Nat.mod b 4294967296) 2147483648)) 2147483648) (Nat.add (Nat.mul (Nat.sub (Nat.div a 4294967296) 2147483648) (Nat.sub (Nat.div b 4294967296) 2147483648)) 2147483648)) (x * y) ∧ iv_mk (Nat.add (Nat.mul (Nat.sub (Nat.mod a 4294967296) 2147483648) (Nat.sub (Nat.mod b 4294967296) 2147483648)) 2147483648) (Nat.add (Nat.mul (Nat.sub (Nat.div a 4294967296) 2147483648) (Nat.sub (Nat.div b 4294967296) 2147483648)) 2147483648) < 18446744073709551616
  simp only [iv_n7, iv_n1, iv_n2, iv_n4, iv_n5] at h1 h2 h3
  simp only [iv_n1, iv_n2, iv_n3, iv_n4, iv_n5]
  generalize a % 4294967296 = al at *
  generalize a / 4294967296 = ah at *
  generalize b % 4294967296 = bl at *
  generalize b / 4294967296 = bh at *
  obtain ⟨K, hK⟩ : ∃ K : Nat, K = 2147483648 := ⟨_, rfl⟩
  rw [← hK] at h1 h2 h3 ⊢
  obtain ⟨X, hX⟩ : ∃ X : Nat, x.toInt = (X : Int) := ⟨iv_bs x - K, by omega⟩
  obtain ⟨Y, hY⟩ : ∃ Y : Nat, y.toInt = (Y : Int) := ⟨iv_bs y - K, by omega⟩
  rw [hX, hY, ← Int.natCast_mul, Int.bmod_def] at e4
  have g1 : (al - K) * (bl - K) ≤ X * Y := Nat.mul_le_mul (by omega) (by omega)
  have g2 : X * Y ≤ (ah - K) * (bh - K) := Nat.mul_le_mul (by omega) (by omega)
  generalize X * Y = P at *
  generalize (ah - K) * (bh - K) = P2 at *
  generalize (al - K) * (bl - K) = P1 at *
  refine ⟨iv_in_mk ?_ ?_ ?_, iv_mk_lt ?_ ?_⟩ <;> (split at e4 <;> omega)
theorem iv_lt_iff (x y : Int32) : x < y ↔ iv_bs x < iv_bs y := by
  have e1 := iv_bs_eq x
  have e2 := iv_bs_eq y
  rw [Int32.lt_iff_toInt_lt]
  omega
theorem iv_le_iff (x y : Int32) : x ≤ y ↔ iv_bs x ≤ iv_bs y := by
  have e1 := iv_bs_eq x
  have e2 := iv_bs_eq y
  rw [Int32.le_iff_toInt_le]
  omega
theorem iv_eq_iff (x y : Int32) : x = y ↔ iv_bs x = iv_bs y := ⟨fun h => by rw [h], iv_bs_inj⟩
theorem iv_min_ok {a b : Nat} {x y : Int32} (ha : a < 18446744073709551616) (hb : b < 18446744073709551616) (hx : iv_in a x) (hy : iv_in b y) : iv_in (iv_min a b) (if y < x then y else x) ∧ iv_min a b < 18446744073709551616 := by
  unfold iv_min
  simp only [iv_bN, iv_n1, iv_n2, iv_n7, iv_lt_iff]
  unfold iv_in at hx hy
  refine ⟨?_, iv_mk_lt ?_ ?_⟩
  · split <;> (apply iv_in_mk <;> (repeat' split) <;> omega)
  · split <;> omega
  · split <;> omega
theorem iv_max_ok {a b : Nat} {x y : Int32} (ha : a < 18446744073709551616) (hb : b < 18446744073709551616) (hx : iv_in a x) (hy : iv_in b y) : iv_in (iv_max a b) (if y ≤ x then x else y) ∧ iv_max a b < 18446744073709551616 := by
  unfold iv_max
  simp only [iv_bN, iv_n1, iv_n2, iv_n7, iv_le_iff]
  unfold iv_in at hx hy
  refine ⟨?_, iv_mk_lt ?_ ?_⟩
  · split <;> (apply iv_in_mk <;> (repeat' split) <;> omega)
  · split <;> omega
  · split <;> omega
/-- a comparison that is decided holds, or doesn't -/
def iv_cond (cd : Nat) (x y : Int32) : Prop := (cd = 0 → x = y) ∧ (cd = 1 → ¬ x = y) ∧ (cd = 2 → x < y) ∧ (cd = 3 → y ≤ x) ∧ (cd = 4 → y < x) ∧ (cd = 5 → x ≤ y)
theorem iv_cmp_1 {cd al ah bl bh : Nat} {x y : Int32} (hx : al ≤ iv_bs x ∧ iv_bs x ≤ ah) (hy : bl ≤ iv_bs y ∧ iv_bs y ≤ bh) (h : iv_cmp cd al ah bl bh = 1) : iv_cond cd x y := by
  unfold iv_cmp iv_ceq iv_clt at h
  simp only [iv_bN, iv_n6, iv_n7, iv_n8] at h
  unfold iv_cond
  simp only [iv_lt_iff, iv_le_iff, iv_eq_iff]
  refine ⟨?_, ?_, ?_, ?_, ?_, ?_⟩ <;> intro e <;> subst e <;> simp at h <;> (repeat' split at h) <;> first | omega | (simp at h; done)
theorem iv_cmp_0 {cd al ah bl bh : Nat} {x y : Int32} (hx : al ≤ iv_bs x ∧ iv_bs x ≤ ah) (hy : bl ≤ iv_bs y ∧ iv_bs y ≤ bh) (h : iv_cmp cd al ah bl bh = 0) :
    (cd = 0 → ¬ x = y) ∧ (cd = 1 → x = y) ∧ (cd = 2 → ¬ x < y) ∧ (cd = 3 → ¬ y ≤ x) ∧ (cd = 4 → ¬ y < x) ∧ (cd = 5 → ¬ x ≤ y) := by
  unfold iv_cmp iv_ceq iv_clt at h
  simp only [iv_bN, iv_n6, iv_n7, iv_n8] at h
  simp only [iv_lt_iff, iv_le_iff, iv_eq_iff]
  refine ⟨?_, ?_, ?_, ?_, ?_, ?_⟩ <;> intro e <;> subst e <;> simp at h <;> (repeat' split at h) <;> first | omega | (simp at h; done)
/-- packed places -/
theorem iv_gt_lt (c k : Nat) : iv_gt c k < 4722366482869645213696 := Nat.mod_lt _ (by decide)
theorem iv_gt_bit (c k i : Nat) : (iv_gt c k).testBit i = (decide (i < 72) && c.testBit (72 * k + i)) := by
  show ((c >>> (72 * k)) % 2 ^ 72).testBit i = _
  rw [Nat.testBit_mod_two_pow, Nat.testBit_shiftRight]
theorem iv_big {v i : Nat} (hv : v < 4722366482869645213696) (h : 72 ≤ i) : v.testBit i = false := by
  apply Nat.testBit_lt_two_pow
  have : 2 ^ 72 ≤ 2 ^ i := Nat.pow_le_pow_right (by decide) h
  exact Nat.lt_of_lt_of_le hv this
theorem iv_st_bit (c k v i : Nat) : (iv_st c k v).testBit i = ((c.testBit i) ^^ (decide (72 * k ≤ i) && ((iv_gt c k).testBit (i - 72 * k) ^^ v.testBit (i - 72 * k)))) := by
  show (c ^^^ ((iv_gt c k ^^^ v) <<< (72 * k))).testBit i = _
  rw [Nat.testBit_xor, Nat.testBit_shiftLeft, Nat.testBit_xor]
theorem iv_gt_st {c k v : Nat} (hv : v < 4722366482869645213696) : iv_gt (iv_st c k v) k = v := by
  apply Nat.eq_of_testBit_eq
  intro i
  rw [iv_gt_bit, iv_st_bit, iv_gt_bit]
  have e : 72 * k + i - 72 * k = i := by omega
  rw [e]
  by_cases hi : i < 72
  · simp [hi]
  · rw [iv_big hv (by omega)]
    simp [hi]
theorem iv_gt_st_ne {c k j v : Nat} (hv : v < 4722366482869645213696) (h : j ≠ k) : iv_gt (iv_st c k v) j = iv_gt c j := by
  apply Nat.eq_of_testBit_eq
  intro i
  rw [iv_gt_bit, iv_gt_bit, iv_st_bit, iv_gt_bit]
  by_cases hi : i < 72
  · by_cases hj : 72 * k ≤ 72 * j + i
    · have hb : 72 ≤ 72 * j + i - 72 * k := by omega
      rw [iv_big hv hb]
      have : ¬ (72 * j + i - 72 * k < 72) := by omega
      simp [this]
    · simp [hj]
  · simp [hi]
theorem iv_fill_gt {z : Nat} (hz : z < 4722366482869645213696) : ∀ (n k : Nat), k < n → iv_gt (iv_fill z n) k = z
  | 0, k, h => absurd h (Nat.not_lt_zero k)
  | n + 1, 0, _ => by
    show ((z + 4722366482869645213696 * iv_fill z n) >>> (72 * 0)) % 4722366482869645213696 = z
    rw [Nat.mul_zero, Nat.shiftRight_zero, Nat.add_mul_mod_self_left]
    exact Nat.mod_eq_of_lt hz
  | n + 1, k + 1, h => by
    have ih := iv_fill_gt hz n k (by omega)
    have e : (z + 4722366482869645213696 * iv_fill z n) >>> (72 * (k + 1)) = (iv_fill z n) >>> (72 * k) := by
      rw [show 72 * (k + 1) = 72 + 72 * k by omega, Nat.shiftRight_add]
      congr 1
      rw [Nat.shiftRight_eq_div_pow, show (2 : Nat) ^ 72 = 4722366482869645213696 from rfl, Nat.add_mul_div_left _ _ (by decide), Nat.div_eq_of_lt hz, Nat.zero_add]
    show ((z + 4722366482869645213696 * iv_fill z n) >>> (72 * (k + 1))) % 4722366482869645213696 = z
    rw [e]
    exact ih
theorem iv_cpy_gt (d s n k : Nat) : iv_gt (Nat.xor d (Nat.mod (Nat.xor d s) (Nat.pow 2 (Nat.mul 72 n)))) k = if k < n then iv_gt s k else iv_gt d k := by
  have e : Nat.xor d (Nat.mod (Nat.xor d s) (Nat.pow 2 (Nat.mul 72 n))) = d ^^^ ((d ^^^ s) % 2 ^ (72 * n)) := rfl
  rw [e]
  split
  · rename_i h
    apply Nat.eq_of_testBit_eq
    intro i
    rw [iv_gt_bit, iv_gt_bit, Nat.testBit_xor, Nat.testBit_mod_two_pow, Nat.testBit_xor]
    by_cases hi : i < 72
    · have : 72 * k + i < 72 * n := by omega
      simp [hi, this]
    · simp [hi]
  · rename_i h
    apply Nat.eq_of_testBit_eq
    intro i
    rw [iv_gt_bit, iv_gt_bit, Nat.testBit_xor, Nat.testBit_mod_two_pow]
    have : ¬ 72 * k + i < 72 * n := by omega
    simp [this]
theorem iv_rng_ok {cts : Nat} {f : Nat → Int32} {k : Nat} : ∀ n : Nat, (∀ j, k ≤ j → j ≤ k + n → iv_gt cts j < 18446744073709551616 ∧ iv_in (iv_gt cts j) (f j)) → iv_rng cts k n < 18446744073709551616 ∧ ∀ j, k ≤ j → j ≤ k + n → iv_in (iv_rng cts k n) (f j)
  | 0, h => ⟨(h k (Nat.le_refl k) (Nat.le_refl k)).1, fun j h1 h2 => by
      have : j = k := by omega
      subst this
      exact (h j h1 h2).2⟩
  | n + 1, h => by
    obtain ⟨i1, i2⟩ := iv_rng_ok n (fun j h1 h2 => h j h1 (by omega))
    obtain ⟨g1, g2⟩ := h (k + (n + 1)) (by omega) (Nat.le_refl _)
    have e : iv_rng cts k (n + 1) = iv_f (iv_gt cts (k + (n + 1))) fun v => iv_f (iv_rng cts k n) fun w => iv_mk (@Bool.rec (fun _ => Nat) (Nat.mod w 4294967296) (Nat.mod v 4294967296) (Nat.ble (Nat.mod v 4294967296) (Nat.mod w 4294967296))) (@Bool.rec (fun _ => Nat) (Nat.div v 4294967296) (Nat.div w 4294967296) (Nat.ble (Nat.div v 4294967296) (Nat.div w 4294967296))) := rfl
    rw [e, iv_f_eq, iv_f_eq]
    generalize iv_rng cts k n = w at i1 i2
    generalize hv : iv_gt cts (k + (n + 1)) = v at g1 g2
    simp only [iv_bN, iv_n1, iv_n2, iv_n7]
    refine ⟨iv_mk_lt ?_ ?_, fun j h1 h2 => ?_⟩
    · split <;> omega
    · split <;> omega
    · by_cases hj : j = k + (n + 1)
      · subst hj
        unfold iv_in at g2
        apply iv_in_mk
        · split <;> omega
        · split <;> omega
        · split <;> omega
      · have := i2 j h1 (by omega)
        unfold iv_in at this
        apply iv_in_mk
        · split <;> omega
        · split <;> omega
        · split <;> omega
