/-! ===== the custom's code: steps that never lack a value ===== -/
/-- one step (its code biased), at a height -/
def st1 (c t : Nat) : Option Nat := if c < 2147483648 then none else if c ≤ 2147483656 then some (t + 1) else if c = 2147483660 then (if 1 ≤ t then some t else none) else (if 2 ≤ t then some (t - 1) else none)
/-- n steps from a on -/
def rn (g : Nat → Nat) : Nat → Nat → Nat → Option Nat
  | 0, _, t => some t
  | n + 1, a, t => (st1 (g a) t).bind fun t1 => rn g n (a + 1) t1
theorem rn_add (g : Nat → Nat) : ∀ (n m a t : Nat), rn g (n + m) a t = (rn g n a t).bind fun t1 => rn g m (a + n) t1
  | 0, m, a, t => by
    rw [Nat.zero_add, Nat.add_zero]
    rfl
  | n + 1, m, a, t => by
    have e : n + 1 + m = (n + m) + 1 := by omega
    rw [e]
    show (st1 (g a) t).bind (fun t1 => rn g (n + m) (a + 1) t1) = ((st1 (g a) t).bind fun t1 => rn g n (a + 1) t1).bind fun t1 => rn g m (a + (n + 1)) t1
    cases h : st1 (g a) t with
    | none => rfl
    | some t1 =>
      show rn g (n + m) (a + 1) t1 = (rn g n (a + 1) t1).bind fun t1 => rn g m (a + (n + 1)) t1
      rw [rn_add g n m (a + 1) t1]
      have e2 : a + 1 + n = a + (n + 1) := by omega
      rw [e2]
/-- the steps from a to b put one value on top -/
def Seg (g : Nat → Nat) (a b : Nat) : Prop := a ≤ b ∧ ∀ t, rn g (b - a) a t = some (t + 1)
theorem Seg.push {g : Nat → Nat} {a : Nat} (h1 : 2147483648 ≤ g a) (h2 : g a ≤ 2147483656) : Seg g a (a + 1) := by
  refine ⟨Nat.le_succ _, fun t => ?_⟩
  have e : a + 1 - a = 1 := by omega
  rw [e]
  show (st1 (g a) t).bind (fun t1 => rn g 0 (a + 1) t1) = some (t + 1)
  unfold st1
  rw [if_neg (by omega), if_pos h2]
  rfl
theorem Seg.not {g : Nat → Nat} {a b : Nat} (s : Seg g a b) (h1 : g b = 2147483660) : Seg g a (b + 1) := by
  obtain ⟨s1, s2⟩ := s
  refine ⟨by omega, fun t => ?_⟩
  have e : b + 1 - a = (b - a) + 1 := by omega
  have e2 : a + (b - a) = b := by omega
  rw [e, rn_add, s2 t]
  show (st1 (g (a + (b - a))) (t + 1)).bind (fun t1 => rn g 0 (a + (b - a) + 1) t1) = some (t + 1)
  rw [e2, h1]
  unfold st1
  rw [if_neg (by decide), if_neg (by decide), if_pos rfl, if_pos (by omega)]
  rfl
theorem Seg.bin {g : Nat → Nat} {a b c : Nat} (s : Seg g a b) (u : Seg g b c) (h1 : 2147483656 < g c) (h2 : g c ≠ 2147483660) : Seg g a (c + 1) := by
  obtain ⟨s1, s2⟩ := s
  obtain ⟨u1, u2⟩ := u
  refine ⟨by omega, fun t => ?_⟩
  have e : c + 1 - a = (b - a) + ((c - b) + 1) := by omega
  have e2 : a + (b - a) = b := by omega
  have e3 : b + (c - b) = c := by omega
  rw [e, rn_add, s2 t]
  show rn g ((c - b) + 1) (a + (b - a)) (t + 1) = some (t + 1)
  rw [e2, rn_add, u2 (t + 1)]
  show (st1 (g (b + (c - b))) (t + 1 + 1)).bind (fun t1 => rn g 0 (b + (c - b) + 1) t1) = some (t + 1)
  rw [e3]
  unfold st1
  rw [if_neg (by omega), if_neg (by omega), if_neg h2, if_pos (by omega)]
  rfl
theorem rn_congr {g g' : Nat → Nat} : ∀ (n a t : Nat), (∀ i, a ≤ i → i < a + n → g' i = g i) → rn g' n a t = rn g n a t
  | 0, _, _, _ => rfl
  | n + 1, a, t, h => by
    show (st1 (g' a) t).bind (fun t1 => rn g' n (a + 1) t1) = (st1 (g a) t).bind fun t1 => rn g n (a + 1) t1
    rw [h a (Nat.le_refl _) (by omega)]
    cases st1 (g a) t with
    | none => rfl
    | some t1 => exact rn_congr n (a + 1) t1 (fun i h1 h2 => h i (by omega) (by omega))
theorem Seg.congr {g g' : Nat → Nat} {a b : Nat} (s : Seg g a b) (h : ∀ i, i < b → g' i = g i) : Seg g' a b :=
  ⟨s.1, fun t => by rw [rn_congr (g := g) (g' := g') (b - a) a t (fun i _ h2 => h i (by have := s.1; omega))]; exact s.2 t⟩
theorem Seg.cast {g : Nat → Nat} {a b a' b' : Nat} (s : Seg g a b) (ha : a' = a) (hb : b' = b) : Seg g a' b' := by
  subst ha
  subst hb
  exact s
/-- the draft's steps -/
def sg (h : xh) : Nat → Nat := fun i => h 76 (1152 + 2 * i)
/-- the steps below b are kept, and all before the steps -/
def Kp (h h' : xh) (b : Nat) : Prop := (∀ i, i < b → sg h' i = sg h i) ∧ ∀ i, 1121 ≤ i → i < 1152 → h' 76 i = h 76 i
/-- the steps below b are kept -/
def Kq (h h' : xh) (b : Nat) : Prop := ∀ i, i < b → sg h' i = sg h i
/-- the lines below n are kept -/
def Kl (h h' : xh) (n : Nat) : Prop := ∀ i, 1121 ≤ i → i < 1122 + 3 * n → h' 76 i = h 76 i
theorem Kp.refl {h : xh} {b : Nat} : Kp h h b := ⟨fun _ _ => rfl, fun _ _ _ => rfl⟩
theorem Kp.trans {h h1 h2 : xh} {b c : Nat} (p : Kp h h1 b) (q : Kp h1 h2 c) (hb : b ≤ c) : Kp h h2 b := ⟨fun i hi => (q.1 i (Nat.lt_of_lt_of_le hi hb)).trans (p.1 i hi), fun i h1 h2 => (q.2 i h1 h2).trans (p.2 i h1 h2)⟩
theorem Kp.oth {h h1 : xh} {b k e v : Nat} (p : Kp h h1 b) (hk : 76 ≠ k) : Kp h (x_up h1 k e v) b := ⟨fun i hi => by
  show x_up h1 k e v 76 (1152 + 2 * i) = _
  rw [x_up_k hk]
  exact p.1 i hi, fun i a1 a2 => by rw [x_up_k hk]; exact p.2 i a1 a2⟩
theorem Kp.up {h h1 : xh} {b e v : Nat} (p : Kp h h1 b) (hl : 1152 ≤ e) (he : ∀ i, i < b → 1152 + 2 * i ≠ e) : Kp h (x_up h1 76 e v) b := ⟨fun i hi => by
  show x_up h1 76 e v 76 (1152 + 2 * i) = _
  rw [x_up_i (he i hi)]
  exact p.1 i hi, fun i a1 a2 => by rw [x_up_i (by omega)]; exact p.2 i a1 a2⟩
theorem sg_gr : ∀ i, i < 831 → x_gr 76 (1121 + i) = 26 := by decide +kernel
theorem sg_g2 {i : Nat} (h1 : 1121 ≤ i) (h2 : i < 1952) : x_gr 76 i = 26 := by
  have e := sg_gr (i - 1121) (by omega)
  have e2 : 1121 + (i - 1121) = i := by omega
  rw [e2] at e
  exact e
theorem Kp.fr {h h1 h2 : xh} {b m : Nat} (p : Kp h h1 b) (f : Fr m h1 h2) (hb : b ≤ 400) (hm : Nat.testBit m 26 = false) : Kp h h2 b := ⟨fun i hi => by
  show h2 76 (1152 + 2 * i) = _
  rw [f 76 (1152 + 2 * i) (by rw [sg_g2 (by omega) (by omega)]; exact hm)]
  exact p.1 i hi, fun i a1 a2 => by rw [f 76 i (by rw [sg_g2 a1 (by omega)]; exact hm)]; exact p.2 i a1 a2⟩
theorem Kp.less {h h1 : xh} {b c : Nat} (p : Kp h h1 c) (hb : b ≤ c) : Kp h h1 b := ⟨fun i hi => p.1 i (Nat.lt_of_lt_of_le hi hb), p.2⟩
theorem Kq.refl {h : xh} {b : Nat} : Kq h h b := fun _ _ => rfl
theorem Kq.kp {h h1 h2 : xh} {b c : Nat} (p : Kq h h1 b) (q : Kp h1 h2 c) (hb : b ≤ c) : Kq h h2 b := fun i hi => (q.1 i (Nat.lt_of_lt_of_le hi hb)).trans (p i hi)
theorem Kq.oth {h h1 : xh} {b k e v : Nat} (p : Kq h h1 b) (hk : 76 ≠ k) : Kq h (x_up h1 k e v) b := fun i hi => by
  show x_up h1 k e v 76 (1152 + 2 * i) = _
  rw [x_up_k hk]
  exact p i hi
theorem Kq.up {h h1 : xh} {b e v : Nat} (p : Kq h h1 b) (he : e < 1152) : Kq h (x_up h1 76 e v) b := fun i hi => by
  show x_up h1 76 e v 76 (1152 + 2 * i) = _
  rw [x_up_i (by omega)]
  exact p i hi
theorem Kq.fr {h h1 h2 : xh} {b m : Nat} (p : Kq h h1 b) (f : Fr m h1 h2) (hb : b ≤ 400) (hm : Nat.testBit m 26 = false) : Kq h h2 b := fun i hi => by
  show h2 76 (1152 + 2 * i) = _
  rw [f 76 (1152 + 2 * i) (by rw [sg_g2 (by omega) (by omega)]; exact hm)]
  exact p i hi
theorem Kl.refl {h : xh} {n : Nat} : Kl h h n := fun _ _ _ => rfl
theorem Kl.kp {h h1 h2 : xh} {n c : Nat} (p : Kl h h1 n) (q : Kp h1 h2 c) (hn : n ≤ 10) : Kl h h2 n := fun i a1 a2 => (q.2 i a1 (by omega)).trans (p i a1 a2)
theorem Kl.oth {h h1 : xh} {n k e v : Nat} (p : Kl h h1 n) (hk : 76 ≠ k) : Kl h (x_up h1 k e v) n := fun i a1 a2 => by
  rw [x_up_k hk]
  exact p i a1 a2
theorem Kl.up {h h1 : xh} {n e v : Nat} (p : Kl h h1 n) (he : 1122 + 3 * n ≤ e) : Kl h (x_up h1 76 e v) n := fun i a1 a2 => by
  rw [x_up_i (by omega)]
  exact p i a1 a2
theorem Kl.fr {h h1 h2 : xh} {n m : Nat} (p : Kl h h1 n) (f : Fr m h1 h2) (hn : n ≤ 10) (hm : Nat.testBit m 26 = false) : Kl h h2 n := fun i a1 a2 => by
  rw [f 76 i (by rw [sg_g2 a1 (by omega)]; exact hm)]
  exact p i a1 a2
theorem Seg.kq {h h1 : xh} {a b : Nat} (s : Seg (sg h) a b) (p : Kq h h1 b) : Seg (sg h1) a b := s.congr p
/-- line n of the draft is good -/
def Lg (h : xh) (n : Nat) : Prop := h 76 (1123 + 3 * n) = h 76 (1124 + 3 * n) ∨ Seg (sg h) (h 76 (1123 + 3 * n) - 2147483648) (h 76 (1124 + 3 * n) - 2147483648)
/-- the lines below n are good, and end before the steps' end -/
def LnS (n : Nat) (h : xh) : Prop := ∀ m, m < n → Lg h m ∧ h 76 (1124 + 3 * m) ≤ h 75 13
theorem LnS.zero {h : xh} : LnS (2147483648 - 2147483648) h := fun m hm => absurd hm (Nat.not_lt_zero _)
theorem LnS.cast {n n' : Nat} {h : xh} (p : LnS n h) (e : n' = n) : LnS n' h := by
  subst e
  exact p
theorem LnS.step {n : Nat} {h h' : xh} (p : LnS n h) (kl : Kl h h' n) (kq : Kq h h' (h 75 13 - 2147483648)) (g : Lg h' n) (e : h' 76 (1124 + 3 * n) = h' 75 13) (s : h 75 13 ≤ h' 75 13) : LnS (n + 1) h' := fun m hm => by
  by_cases c : m = n
  · subst c
    exact ⟨g, Nat.le_of_eq e⟩
  · obtain ⟨g1, g2⟩ := p m (by omega)
    have e1 := kl (1123 + 3 * m) (by omega) (by omega)
    have e2 := kl (1124 + 3 * m) (by omega) (by omega)
    refine ⟨?_, by rw [e2]; omega⟩
    unfold Lg
    rw [e1, e2]
    rcases g1 with q | q
    · exact Or.inl q
    · exact Or.inr (q.congr (fun i hi => kq i (Nat.lt_of_lt_of_le hi (Nat.sub_le_sub_right g2 _))))
theorem LnS.oth {n : Nat} {h : xh} {k e v : Nat} (p : LnS n h) (hk : 76 ≠ k) (he : ¬ (75 = k ∧ 13 = e)) : LnS n (x_up h k e v) := fun m hm => by
  obtain ⟨g1, g2⟩ := p m hm
  have e1 : ∀ i, x_up h k e v 76 i = h 76 i := fun i => x_up_k hk
  have e2 : x_up h k e v 75 13 = h 75 13 := if_neg he
  refine ⟨?_, by rw [e1, e2]; exact g2⟩
  unfold Lg
  rw [e1, e1]
  rcases g1 with q | q
  · exact Or.inl q
  · exact Or.inr (q.congr (fun i _ => e1 _))
theorem LnS.fr {n m9 : Nat} {h h' : xh} (p : LnS n h) (hJ : J h) (f : Fr m9 h h') (hn : n ≤ 10) (hm : Nat.testBit m9 26 = false) (hs : Nat.testBit m9 24 = false) : LnS n h' := fun m hm9 => by
  obtain ⟨g1, g2⟩ := p m hm9
  have e1 : ∀ i, 1121 ≤ i → i < 1952 → h' 76 i = h 76 i := fun i a1 a2 => f 76 i (by rw [sg_g2 a1 a2]; exact hm)
  have e2 : h' 75 13 = h 75 13 := f 75 13 (by rw [show x_gr 75 13 = 24 by decide +kernel]; exact hs)
  have e3 : h 75 13 ≤ 2147484048 := by
    have z := (hJ.1 75 13 (by decide) (by decide +kernel)).2
    have z2 : j_hi 75 13 = 2147484048 := by decide +kernel
    omega
  rw [e2, e1 (1124 + 3 * m) (by omega) (by omega)]
  refine ⟨?_, g2⟩
  unfold Lg
  rw [e1 (1123 + 3 * m) (by omega) (by omega), e1 (1124 + 3 * m) (by omega) (by omega)]
  rcases g1 with q | q
  · exact Or.inl q
  · exact Or.inr (q.congr (fun i hi => e1 (1152 + 2 * i) (by omega) (by omega)))
/-- the draft's text is copied up to n -/
def Cp6 (h h' : xh) (n : Nat) : Prop := ∀ i, i < n → h' 76 (290 + i) = h 76 (1121 + i)
theorem Cp6.zero {h h' : xh} : Cp6 h h' (2147483648 - 2147483648) := fun i hi => absurd hi (Nat.not_lt_zero _)
theorem Cp6.step {h h' : xh} {u m : Nat} (p : Cp6 h h' u) (f : Fr m h h') (hm : Nat.testBit m 26 = false) (hu : u < 831) : Cp6 h (x_up h' 76 (290 + u) (h' 76 (1121 + u))) (u + 1) := fun i hi => by
  by_cases c : i = u
  · subst c
    rw [x_up_at]
    exact f 76 (1121 + i) (by rw [sg_g2 (by omega) (by omega)]; exact hm)
  · rw [x_up_i (by omega)]
    exact p i (by omega)
theorem Seg.kp {h h1 : xh} {a b : Nat} (s : Seg (sg h) a b) (p : Kp h h1 b) : Seg (sg h1) a b := s.congr p.1
/-- each line of the custom in cell k is good -/
def WT (k : Nat) (h : xh) : Prop := ∀ n, n < h k 290 - 2147483648 → h k (292 + 3 * n) = h k (293 + 3 * n) ∨ Seg (fun i => h k (321 + 2 * i)) (h k (292 + 3 * n) - 2147483648) (h k (293 + 3 * n) - 2147483648)
theorem WT.of {k k' : Nat} {h h' : xh} (w : WT k h) (hJ : J h) (hk : k = 76 ∨ k = 77) (he : ∀ i, 290 ≤ i → i < 1121 → h' k' i = h k i) : WT k' h' := by
  have b0 : h k 290 ≤ 2147483658 := by
    have z := (hJ.1 k 290 (by rcases hk with rfl | rfl <;> decide) (by rcases hk with rfl | rfl <;> decide +kernel)).2
    have e : j_hi k 290 = 2147483658 := by rcases hk with rfl | rfl <;> decide +kernel
    omega
  have e9 : ∀ n, n < 10 → k < x_nc ∧ 293 + 3 * n < x_ln k ∧ j_hi k (293 + 3 * n) = 2147484048 := by
    rcases hk with rfl | rfl <;> decide +kernel
  intro n hn
  rw [he 290 (by decide) (by decide)] at hn
  have hn10 : n < 10 := by omega
  rw [he (292 + 3 * n) (by omega) (by omega), he (293 + 3 * n) (by omega) (by omega)]
  rcases w n hn with q | q
  · exact Or.inl q
  · refine Or.inr (q.congr (fun i hi => ?_))
    obtain ⟨r1, r2, r3⟩ := e9 n hn10
    have z := (hJ.1 k (293 + 3 * n) r1 r2).2
    exact he (321 + 2 * i) (by omega) (by omega)
theorem wt_gr : ∀ i, i < 831 → x_gr 76 (290 + i) = 25 ∧ x_gr 77 (290 + i) = 27 := by decide +kernel
theorem WT.fr {h h' : xh} {m : Nat} (w : WT 76 h) (hJ : J h) (f : Fr m h h') (hm : Nat.testBit m 25 = false) : WT 76 h' := w.of hJ (Or.inl rfl) (fun i h1 h2 => by
  have e := (wt_gr (i - 290) (by omega)).1
  have e2 : 290 + (i - 290) = i := by omega
  rw [e2] at e
  exact f 76 i (by rw [e]; exact hm))
theorem WT.oth {h : xh} {k e v : Nat} (w : WT 76 h) (hJ : J h) (hk : 76 ≠ k) : WT 76 (x_up h k e v) := w.of hJ (Or.inl rfl) (fun i _ _ => x_up_k hk)
theorem WT.up {h : xh} {e v : Nat} (w : WT 76 h) (hJ : J h) (he : e < 290) : WT 76 (x_up h 76 e v) := w.of hJ (Or.inl rfl) (fun i h1 _ => x_up_i (by omega))
theorem WT.mk {n m : Nat} {h h' : xh} (p : LnS n h) (c : Cp6 h h' m) (hm : 831 ≤ m) (hn : h 76 1121 = 2147483648 + n) (h10 : n ≤ 10) (hs : h 75 13 ≤ 2147484048) : WT 76 h' := fun q hq => by
  have e0 := c 0 (by omega)
  have e0 : h' 76 290 = h 76 1121 := e0
  rw [e0, hn, Nat.add_sub_cancel_left] at hq
  have e1 : h' 76 (292 + 3 * q) = h 76 (1123 + 3 * q) := by
    have z := c (2 + 3 * q) (by omega)
    have z1 : 290 + (2 + 3 * q) = 292 + 3 * q := by omega
    have z2 : 1121 + (2 + 3 * q) = 1123 + 3 * q := by omega
    rw [z1, z2] at z
    exact z
  have e2 : h' 76 (293 + 3 * q) = h 76 (1124 + 3 * q) := by
    have z := c (3 + 3 * q) (by omega)
    have z1 : 290 + (3 + 3 * q) = 293 + 3 * q := by omega
    have z2 : 1121 + (3 + 3 * q) = 1124 + 3 * q := by omega
    rw [z1, z2] at z
    exact z
  rw [e1, e2]
  obtain ⟨g1, g2⟩ := p q hq
  rcases g1 with g | g
  · exact Or.inl g
  · refine Or.inr (g.congr (fun i hi => ?_))
    have z := c (31 + 2 * i) (by omega)
    have z1 : 290 + (31 + 2 * i) = 321 + 2 * i := by omega
    have z2 : 1121 + (31 + 2 * i) = 1152 + 2 * i := by omega
    rw [z1, z2] at z
    exact z
/-- a line's steps from i on, at height t (all biased), up to e: they never lack a value -/
def Hl (h : xh) (e i t : Nat) : Prop := rn (fun j => h 76 (321 + 2 * j)) (e - i) (i - 2147483648) (t - 2147483648) ≠ none
theorem Hl.cast {h : xh} {e i t i' t' : Nat} (p : Hl h e i t) (hi : i' = i) (ht : t' = t) : Hl h e i' t' := by
  subst hi
  subst ht
  exact p
theorem Hl.step {h : xh} {e i t u : Nat} (p : Hl h e i t) (hi : i < e) (hu : i = 2147483648 + u) : ∃ t1, st1 (h 76 (321 + 2 * u)) (t - 2147483648) = some t1 ∧ rn (fun j => h 76 (321 + 2 * j)) (e - (i + 1)) (i + 1 - 2147483648) t1 ≠ none := by
  unfold Hl at p
  have e1 : e - i = (e - (i + 1)) + 1 := by omega
  have e2 : i - 2147483648 = u := by omega
  have e4 : i + 1 = 2147483648 + (u + 1) := by omega
  have e3 : i + 1 - 2147483648 = u + 1 := by rw [e4]; exact Nat.add_sub_cancel_left _ _
  rw [e1, e2] at p
  rw [e3]
  cases hs : st1 (h 76 (321 + 2 * u)) (t - 2147483648) with
  | none =>
    refine absurd ?_ p
    show (st1 (h 76 (321 + 2 * u)) (t - 2147483648)).bind _ = none
    rw [hs]
    rfl
  | some t1 =>
    refine ⟨t1, rfl, fun z => p ?_⟩
    show (st1 (h 76 (321 + 2 * u)) (t - 2147483648)).bind (fun t1 => rn _ (e - (i + 1)) (u + 1) t1) = none
    rw [hs]
    exact z
theorem Hl.push {h : xh} {e i t u : Nat} (p : Hl h e i t) (hi : i < e) (hu : i = 2147483648 + u) (ht : 2147483648 ≤ t) (hc : h 76 (321 + 2 * u) ≤ 2147483656) : 2147483648 ≤ h 76 (321 + 2 * u) ∧ Hl h e (i + 1) (t + 1) := by
  obtain ⟨t1, s, q⟩ := p.step hi hu
  unfold st1 at s
  by_cases c : h 76 (321 + 2 * u) < 2147483648
  · rw [if_pos c] at s
    cases s
  · rw [if_neg c, if_pos hc] at s
    cases s
    refine ⟨by omega, ?_⟩
    unfold Hl
    have e1 : t + 1 - 2147483648 = t - 2147483648 + 1 := by omega
    rw [e1]
    exact q
theorem Hl.not {h : xh} {e i t u : Nat} (p : Hl h e i t) (hi : i < e) (hu : i = 2147483648 + u) (ht : 2147483648 ≤ t) (hc : 2147483656 < h 76 (321 + 2 * u)) (hd : h 76 (321 + 2 * u) = 2147483660) : 2147483649 ≤ t ∧ Hl h e (i + 1) t := by
  obtain ⟨t1, s, q⟩ := p.step hi hu
  unfold st1 at s
  rw [if_neg (by omega), if_neg (by omega), if_pos hd] at s
  by_cases c : 1 ≤ t - 2147483648
  · rw [if_pos c] at s
    have s9 := Option.some.inj s
    rw [← s9] at q
    exact ⟨by omega, q⟩
  · rw [if_neg c] at s
    cases s
theorem Hl.bin {h : xh} {e i t u : Nat} (p : Hl h e i t) (hi : i < e) (hu : i = 2147483648 + u) (ht : 2147483648 ≤ t) (hc : 2147483656 < h 76 (321 + 2 * u)) (hd : h 76 (321 + 2 * u) ≠ 2147483660) : 2147483650 ≤ t ∧ Hl h e (i + 1) (t - 1) := by
  obtain ⟨t1, s, q⟩ := p.step hi hu
  unfold st1 at s
  rw [if_neg (by omega), if_neg (by omega), if_neg hd] at s
  by_cases c : 2 ≤ t - 2147483648
  · rw [if_pos c] at s
    have s9 := Option.some.inj s
    refine ⟨by omega, ?_⟩
    unfold Hl
    obtain ⟨w, hw⟩ : ∃ w, t = 2147483648 + (w + 1) := ⟨t - 2147483648 - 1, by omega⟩
    have e1 : t - 1 - 2147483648 = t - 2147483648 - 1 := by
      rw [hw, Nat.add_sub_cancel_left]
      show 2147483648 + w - 2147483648 = w
      exact Nat.add_sub_cancel_left _ _
    rw [e1, s9]
    exact q
  · rw [if_neg c] at s
    cases s
theorem WT.hl {h : xh} {u : Nat} (w : WT 76 h) (hu : u < h 76 290 - 2147483648) (h1 : 2147483648 ≤ h 76 (292 + 3 * u)) (h2 : 2147483648 ≤ h 76 (293 + 3 * u)) : Hl h (h 76 (293 + 3 * u)) (h 76 (292 + 3 * u)) 2147483648 := by
  unfold Hl
  rcases w u hu with q | ⟨q1, q2⟩
  · rw [q, Nat.sub_self]
    intro z
    cases z
  · have e : h 76 (293 + 3 * u) - h 76 (292 + 3 * u) = (h 76 (293 + 3 * u) - 2147483648) - (h 76 (292 + 3 * u) - 2147483648) := by omega
    rw [e, q2]
    intro z
    cases z
theorem LnS.up {n e v : Nat} {h : xh} (p : LnS n h) (he : e < 1122) : LnS n (x_up h 76 e v) := fun m hm => by
  obtain ⟨g1, g2⟩ := p m hm
  have e1 : ∀ i, 1122 ≤ i → x_up h 76 e v 76 i = h 76 i := fun i hi => x_up_i (by omega)
  have e2 : x_up h 76 e v 75 13 = h 75 13 := x_up_k (by decide)
  refine ⟨?_, by rw [e1 _ (by omega), e2]; exact g2⟩
  unfold Lg
  rw [e1 _ (by omega), e1 _ (by omega)]
  rcases g1 with q | q
  · exact Or.inl q
  · exact Or.inr (q.congr (fun i _ => e1 _ (by omega)))
/-! ===== copies of the whole ===== -/
def Cpa (d s : Nat) (h h' : xh) (n : Nat) : Prop := ∀ i, i < n → h' d i = h s i
theorem Cpa.zero {d s : Nat} {h h' : xh} : Cpa d s h h' (2147483648 - 2147483648) := fun i hi => absurd hi (Nat.not_lt_zero _)
theorem Cpa.step {d s u : Nat} {h h' : xh} (p : Cpa d s h h' u) (e : h' s u = h s u) : Cpa d s h (x_up h' d u (h' s u)) (u + 1) := fun i hi => by
  by_cases c : i = u
  · subst c
    rw [x_up_at]
    exact e
  · rw [x_up_i c]
    exact p i (by omega)
theorem Cpa.less {d s n m : Nat} {h h' : xh} (p : Cpa d s h h' n) (hm : m ≤ n) : Cpa d s h h' m := fun i hi => p i (Nat.lt_of_lt_of_le hi hm)
theorem Cpa.oth {d s n k e v : Nat} {h h' : xh} (p : Cpa d s h h' n) (hk : d ≠ k) : Cpa d s h (x_up h' k e v) n := fun i hi => by
  rw [x_up_k hk]
  exact p i hi
theorem gr_76 : ∀ i, i < 1121 → x_gr 76 i = 25 ∨ x_gr 76 i = 49 ∨ x_gr 76 i = 51 := by decide +kernel
theorem gr_76b {m i : Nat} (he : i < 1121) (h1 : Nat.testBit m 25 = false) (h2 : Nat.testBit m 49 = false) (h3 : Nat.testBit m 51 = false) : Nat.testBit m (x_gr 76 i) = false := by
  rcases gr_76 i he with z | z | z <;> rw [z] <;> assumption
theorem gr_77 (i : Nat) : x_gr 77 i = 27 := rfl
theorem im_b : ∀ i, i < 1121 → 0 < i → j_lo 76 i ≤ j_lo 77 i ∧ j_hi 77 i ≤ j_hi 76 i := by decide +kernel
theorem im_n : ∀ i, i < 1121 → i < x_ln 76 ∧ i < x_ln 77 ∧ j_nt 76 i := by unfold j_nt; decide +kernel
theorem imJ {h h1 : xh} {e v : Nat} (hJ : J h) (hJ1 : J h1) (hb : 2147483650 ≤ h1 77 0) (he : e < 1121) (hv : v = h1 77 e) : J (x_up h 76 e v) := by
  subst hv
  obtain ⟨n1, n2, n3⟩ := im_n e he
  obtain ⟨b1, b2⟩ := hJ1.1 77 e (by decide) n2
  refine J_up hJ ?_ n3
  by_cases c : e = 0
  · subst c
    have e1 : j_lo 76 0 = 2147483650 := by decide +kernel
    have e2 : j_hi 76 0 = 2147483654 := by decide +kernel
    have e3 : j_hi 77 0 = 2147483654 := by decide +kernel
    rw [e3] at b2
    rw [e1, e2]
    exact ⟨hb, b2⟩
  · obtain ⟨c1, c2⟩ := im_b e he (by omega)
    exact ⟨Nat.le_trans c1 b1, Nat.le_trans b2 c2⟩
theorem imF {h h1 : xh} {e v M : Nat} (f : Fr M h h1) (he : e < 1121) (hg : Nat.testBit M 25 = true) (hg2 : Nat.testBit M 49 = true) (hg3 : Nat.testBit M 51 = true) : Fr M h (x_up h1 76 e v) := f.up (by rcases gr_76 e he with z | z | z <;> rw [z] <;> assumption)
