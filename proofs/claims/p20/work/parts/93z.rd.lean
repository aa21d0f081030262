/-! ===== deaths: what a text leaves ===== -/
/-- two rows of six are alike but for those never told: 12 in the program, 99 in the reference -/
def R6 (σ τ : Nat → Nat) : Prop := ∀ b, b < 6 → σ b = min 2147483660 (τ b)
/-- behind 'dies': a body, a day -/
def Dx (B : Nat → Nat) (n pe p : Nat) (σ σ' : Nat → Nat) : Prop := ∃ v q w q2, Nr B n 2147483648 (pe - 1) p v q ∧ v ≠ 2147483647 ∧ Wd B n 2 q ∧ Nr B n 2147483648 2147483659 (sk B n (q + iv_tl 2)) w q2 ∧ w ≠ 2147483647 ∧ ∀ b, b < 6 → σ' b = if v = 2147483648 + b then min (σ b) w else σ b
/-- a line's deaths -/
def Lx (B : Nat → Nat) (n pe p : Nat) (σ σ' : Nat → Nat) : Prop := (Wd B n 19 p ∧ Dx B n pe (sk B n (p + iv_tl 19)) σ σ') ∨ (¬ Wd B n 19 p ∧ ∀ b, b < 6 → σ' b = σ b)
section YX
variable {B : Nat → Nat} {n pe p p1 p2 q1 q2 v w q i lo hi lo1 hi1 : Nat} {σ σ' τ τ' : Nat → Nat}
theorem Dx.mk (f : Nr B n lo hi p1 v q) (e1 : lo = 2147483648) (e2 : hi = pe - 1) (e : p1 = p) (hv : v ≠ 2147483647) (g : Wd B n 2 p2) (e3 : p2 = q) (e4 : q1 = sk B n (p2 + iv_tl 2)) {q3 lo2 hi2 p3 : Nat} (k : Nr B n lo2 hi2 p3 w q3) (e5 : lo2 = 2147483648) (e6 : hi2 = 2147483659) (e7 : p3 = q1) (hw : w ≠ 2147483647) (s : ∀ b, b < 6 → σ' b = if v = 2147483648 + b then min (σ b) w else σ b) : Dx B n pe p σ σ' := by
  rw [e1, e2, e] at f
  rw [e3] at g e4
  rw [e5, e6, e7, e4] at k
  exact ⟨v, q, w, q3, f, hv, g, k, hw, s⟩
theorem Lx.dies (g : Wd B n 19 p1) (e : p1 = p) (f : q1 = sk B n (p1 + iv_tl 19)) (e2 : p2 = q1) (k : Dx B n pe p2 σ σ') : Lx B n pe p σ σ' := by
  rw [e] at g f
  rw [e2, f] at k
  exact Or.inl ⟨g, k⟩
theorem Lx.oth (g : Wd B n i p1) (e : p1 = p) (h1 : i < 32) (h2 : i ≠ 19) (u : ∀ b, b < 6 → σ' b = σ b) : Lx B n pe p σ σ' := by
  rw [e] at g
  exact Or.inr ⟨fun y => h2 (g.inj h1 (by decide) y), u⟩
theorem Lx.cst {pe' : Nat} (a : Lx B n pe p σ σ') (e : pe = pe') : Lx B n pe' p σ σ' := by rw [← e]; exact a
theorem Dx.mp (a : Dx B n pe p σ σ') (h : ∀ b, b < 6 → σ b = τ b) (h' : ∀ b, b < 6 → τ' b = σ' b) : Dx B n pe p τ τ' := by
  obtain ⟨v, q, w, q2, f, v0, g, k, w0, s⟩ := a
  exact ⟨v, q, w, q2, f, v0, g, k, w0, fun b hb => by rw [h' b hb, s b hb, h b hb]⟩
theorem Lx.mp (a : Lx B n pe p σ σ') (h : ∀ b, b < 6 → σ b = τ b) (h' : ∀ b, b < 6 → τ' b = σ' b) : Lx B n pe p τ τ' := by
  rcases a with ⟨g, k⟩ | ⟨g, k⟩
  · exact Or.inl ⟨g, k.mp h h'⟩
  · exact Or.inr ⟨g, fun b hb => by rw [h' b hb, k b hb, h b hb]⟩
theorem Dx.rel (a : Dx B n pe p σ σ') (c : Dx B n pe p τ τ') (h : R6 σ τ) : R6 σ' τ' := by
  obtain ⟨v, q, w, q2, f, v0, g, k, w0, s⟩ := a
  obtain ⟨v', q', w', q2', f', v0', g', k', w0', s'⟩ := c
  obtain ⟨x1, x2⟩ := f.same f'
  subst x1
  have x2 := x2 v0
  subst x2
  have x3 := (k.same k').1
  subst x3
  intro b hb
  rw [s b hb, s' b hb, h b hb]
  by_cases c : v = 2147483648 + b
  · rw [if_pos c, if_pos c]
    omega
  · rw [if_neg c, if_neg c]
theorem Lx.rel (a : Lx B n pe p σ σ') (c : Lx B n pe p τ τ') (h : R6 σ τ) : R6 σ' τ' := by
  rcases a with ⟨g, k⟩ | ⟨g, k⟩ <;> rcases c with ⟨g', k'⟩ | ⟨g', k'⟩
  · exact k.rel k' h
  · exact absurd g g'
  · exact absurd g' g
  · exact fun b hb => by rw [k b hb, k' b hb]; exact h b hb
end YX
/-- the lines' deaths, of a text that is right: m more may come -/
def tx9 (B : Nat → Nat) (n pe : Nat) : Nat → Nat → Nat → Nat → Nat → Nat → (Nat → Nat) → (Nat → Nat) → Prop
  | 0, _, _, _, _, _, _, _ => False
  | m + 1, l, t, d, s, p, σ, σ' => ∃ q l' t' d' s' σ1, line9 B n pe l t d s p (some (q, l', t', d', s')) ∧ Lx B n pe p σ σ1 ∧ ((n ≤ q ∧ ∀ b, b < 6 → σ' b = σ1 b) ∨ (q < n ∧ Sg B n 2147483707 q ∧ tx9 B n pe m l' t' d' s' (sk B n (q + 1)) σ1 σ'))
def Tx (B : Nat → Nat) (n pe l t d s : Nat) (σ σ' : Nat → Nat) : Prop := (n ≤ sk B n 2147483648 ∧ ∀ b, b < 6 → σ' b = σ b) ∨ (sk B n 2147483648 < n ∧ tx9 B n pe 14 l t d s (sk B n 2147483648) σ σ')
section YT
variable {B : Nat → Nat} {n pe : Nat}
theorem tx9.mp : ∀ {m l t d s p : Nat} {σ σ' τ : Nat → Nat}, tx9 B n pe m l t d s p σ σ' → (∀ b, b < 6 → σ b = τ b) → tx9 B n pe m l t d s p τ σ' := by
  intro m
  cases m with
  | zero =>
    intro l t d s p σ σ' τ a _
    exact a
  | succ m =>
    intro l t d s p σ σ' τ a h
    obtain ⟨q, l1, t1, d1, s1, σ1, k, x, y⟩ := a
    exact ⟨q, l1, t1, d1, s1, σ1, k, x.mp h (fun _ _ => rfl), y⟩
theorem tx9.rel : ∀ {m l t d s p : Nat} {σ σ' τ τ' : Nat → Nat}, tx9 B n pe m l t d s p σ σ' → tx9 B n pe m l t d s p τ τ' → R6 σ τ → R6 σ' τ' := by
  intro m
  induction m with
  | zero =>
    intro l t d s p σ σ' τ τ' a _ _
    exact absurd a (fun z => z)
  | succ m ih =>
    intro l t d s p σ σ' τ τ' a c h
    obtain ⟨q, l1, t1, d1, s1, σ1, k, x, y⟩ := a
    obtain ⟨q2, l2, t2, d2, s2, σ2, k2, x2, y2⟩ := c
    have e := line9_d k k2
    injection e with e
    injection e with e1 e
    injection e with e2 e
    injection e with e3 e
    injection e with e4 e5
    subst e1 e2 e3 e4 e5
    have r := x.rel x2 h
    rcases y with ⟨y1, y3⟩ | ⟨y0, y1, y3⟩ <;> rcases y2 with ⟨z1, z3⟩ | ⟨z0, z1, z3⟩
    · exact fun b hb => by rw [y3 b hb, z3 b hb]; exact r b hb
    · omega
    · omega
    · exact ih y3 z3 r
theorem Tx.rel {l t d s : Nat} {σ σ' τ τ' : Nat → Nat} (a : Tx B n pe l t d s σ σ') (c : Tx B n pe l t d s τ τ') (h : R6 σ τ) : R6 σ' τ' := by
  rcases a with ⟨a1, a2⟩ | ⟨a1, a2⟩ <;> rcases c with ⟨c1, c2⟩ | ⟨c1, c2⟩
  · exact fun b hb => by rw [a2 b hb, c2 b hb]; exact h b hb
  · omega
  · omega
  · exact a2.rel c2 h
theorem Tx.mp {pe' l t d s l1 t1 d1 s1 : Nat} {σ σ' τ τ' : Nat → Nat} (a : Tx B n pe l t d s σ σ') (h : ∀ b, b < 6 → σ b = τ b) (h' : ∀ b, b < 6 → τ' b = σ' b) (e : pe = pe') (e1 : l = l1) (e2 : t = t1) (e3 : d = d1) (e4 : s = s1) : Tx B n pe' l1 t1 d1 s1 τ τ' := by
  subst e e1 e2 e3 e4
  rcases a with ⟨a1, a2⟩ | ⟨a1, a2⟩
  · exact Or.inl ⟨a1, fun b hb => by rw [h' b hb, a2 b hb, h b hb]⟩
  · have key : ∀ {m l t d s p : Nat} {σ σ' τ' : Nat → Nat}, (∀ b, b < 6 → τ' b = σ' b) → tx9 B n pe m l t d s p σ σ' → tx9 B n pe m l t d s p σ τ' := by
      intro m
      induction m with
      | zero =>
        intro l t d s p σ σ' τ' _ z
        exact z
      | succ m ih =>
        intro l t d s p σ σ' τ' u z
        obtain ⟨q, l1, t1, d1, s1, σ1, k, x, y⟩ := z
        refine ⟨q, l1, t1, d1, s1, σ1, k, x, ?_⟩
        rcases y with ⟨y1, y2⟩ | ⟨y0, y1, y2⟩
        · exact Or.inl ⟨y1, fun b hb => by rw [u b hb, y2 b hb]⟩
        · exact Or.inr ⟨y0, y1, ih u y2⟩
    exact Or.inr ⟨a1, key h' (a2.mp h)⟩
end YT
/-- what is left of the lines' deaths -/
def Txl (B : Nat → Nat) (n pe l0 t0 d0 s0 : Nat) (σ0 : Nat → Nat) (m l t d s p : Nat) (σ : Nat → Nat) : Prop := ∀ σ', tx9 B n pe m l t d s p σ σ' → Tx B n pe l0 t0 d0 s0 σ0 σ'
section YL
variable {B : Nat → Nat} {n pe l0 t0 d0 s0 m m' l t d s l' t' d' s' p p1 p2 p3 q q1 x w : Nat} {σ0 σ σ1 σa σb σ' : Nat → Nat}
theorem Tx.nil (e1 : p = sk B n 2147483648) (h : n ≤ p) (u : ∀ b, b < 6 → σ' b = σ0 b) : Tx B n pe l t d s σ0 σ' := Or.inl ⟨by omega, u⟩
theorem Txl.zero (e1 : p = sk B n 2147483648) (h : p < n) (hm : m = 14) (u : ∀ b, b < 6 → σ b = σ0 b) : Txl B n pe l t d s σ0 m l t d s p σ := fun σ' z => Or.inr ⟨by omega, by rw [← e1, ← hm]; exact z.mp u⟩
theorem Txl.zeroR (e : w = sk B n 2147483648) (h0 : 2147483648 ≤ n) (h : w ≠ n) (hm : m = 14) (u : ∀ b, b < 6 → σ b = σ0 b) : Txl B n pe l t d s σ0 m l t d s (sk B n w) σ := by
  have x := sk_le (B := B) h0
  have y : sk B n w = w := by rw [e, sk_idem]
  exact Txl.zero (y.trans e) (by omega) hm u
theorem Txl.fin (z : Txl B n pe l0 t0 d0 s0 σ0 m l t d s p σ) (h : 0 < m) (k : line9 B n pe l t d s p1 (rs5 x q l' t' d' s')) (e1 : p1 = p) (hx : x = 2147483649) (hn : n ≤ q) (lx : Lx B n pe p1 σa σb) (ua : ∀ b, b < 6 → σa b = σ b) (ub : ∀ b, b < 6 → σ' b = σb b) : Tx B n pe l0 t0 d0 s0 σ0 σ' := by
  rw [rs5_1 hx, e1] at k
  rw [e1] at lx
  obtain ⟨m, rfl⟩ : ∃ y, m = y + 1 := ⟨m - 1, by omega⟩
  exact z _ ⟨q, l', t', d', s', σb, k, lx.mp ua (fun _ _ => rfl), Or.inl ⟨hn, ub⟩⟩
theorem Txl.go (z : Txl B n pe l0 t0 d0 s0 σ0 m l t d s p σ) (h : m = m' + 1) (k : line9 B n pe l t d s p1 (rs5 x q l' t' d' s')) (e1 : p1 = p) (hx : x = 2147483649) (u : Sg B n 2147483707 p2) (e2 : p2 = q) (e3 : q1 = sk B n (p2 + 1)) (e4 : q1 = p3) (lx : Lx B n pe p1 σa σb) (ua : ∀ b, b < 6 → σa b = σ b) (ub : ∀ b, b < 6 → σ1 b = σb b) : Txl B n pe l0 t0 d0 s0 σ0 m' l' t' d' s' p3 σ1 := by
  rw [rs5_1 hx, e1] at k
  rw [e1] at lx
  rw [e2] at u e3
  rw [← e4, e3]
  subst h
  exact fun σ' y => z _ ⟨q, l', t', d', s', σb, k, lx.mp ua (fun _ _ => rfl), Or.inr ⟨u.1, u, y.mp ub⟩⟩
end YL
/-- the deaths of a town, of the draft, of the world -/
def xq (h : xh) (q b : Nat) : Nat := h (q + 9) b
def xd (h : xh) (b : Nat) : Nat := h 78 (8 + b)
def xw (h : xh) (b : Nat) : Nat := h 76 (8 + b)
theorem xq_i {h : xh} {k i v q b : Nat} (n : b ≠ i) : xq (x_up h k i v) q b = xq h q b := if_neg (fun z => n z.2)
theorem xq_k {h : xh} {k i v q b : Nat} (n : q + 9 ≠ k) : xq (x_up h k i v) q b = xq h q b := if_neg (fun z => n z.1)
theorem xq_c {h : xh} {k r N q b : Nat} (n : q + 9 ≠ k) : xq (x_cp h k r N) q b = xq h q b := if_neg (fun z => n z.1)
theorem xd_i {h : xh} {k i v b : Nat} (n : 8 + b ≠ i) : xd (x_up h k i v) b = xd h b := if_neg (fun z => n z.2)
theorem xd_k {h : xh} {k i v b : Nat} (n : 78 ≠ k) : xd (x_up h k i v) b = xd h b := if_neg (fun z => n z.1)
theorem xw_i {h : xh} {k i v b : Nat} (n : 8 + b ≠ i) : xw (x_up h k i v) b = xw h b := if_neg (fun z => n z.2)
theorem xw_k {h : xh} {k i v b : Nat} (n : 76 ≠ k) : xw (x_up h k i v) b = xw h b := if_neg (fun z => n z.1)
theorem xq_gr {m q : Nat} {h h' : xh} (t : tw q) (f : Fr m h h') (g : Nat.testBit m 53 = false) : ∀ b, b < 6 → xq h' q b = xq h q b := fun b _ => f (q + 9) b (by rcases t with rfl | rfl <;> exact g)
theorem dd_gr : ∀ b, b < 6 → x_gr 78 (8 + b) = 61 := by decide +kernel
theorem wd_gr : ∀ b, b < 6 → x_gr 76 (8 + b) = 56 := by decide +kernel
theorem xd_gr {m : Nat} {h h' : xh} (f : Fr m h h') (g : Nat.testBit m 61 = false) : ∀ b, b < 6 → xd h' b = xd h b := fun b hb => f 78 (8 + b) (by rw [dd_gr b hb]; exact g)
theorem xw_gr {m : Nat} {h h' : xh} (f : Fr m h h') (g : Nat.testBit m 56 = false) : ∀ b, b < 6 → xw h' b = xw h b := fun b hb => f 76 (8 + b) (by rw [wd_gr b hb]; exact g)
/-- one death is told -/
theorem xq_at {h : xh} {q u v w y : Nat} (e : v = 2147483648 + u) (ey : y = min (h (q + 9) u) w) : ∀ b, b < 6 → xq (x_up h (q + 9) u y) q b = if v = 2147483648 + b then min (xq h q b) w else xq h q b := fun b _ => by
  by_cases c : b = u
  · subst c
    rw [if_pos e]
    exact x_up_at.trans ey
  · rw [if_neg (by omega)]
    exact if_neg (fun z => c z.2)
theorem xd_at {h : xh} {u v w y : Nat} (e : v = 2147483648 + u) (ey : y = min (h 78 (8 + u)) w) : ∀ b, b < 6 → xd (x_up h 78 (8 + u) y) b = if v = 2147483648 + b then min (xd h b) w else xd h b := fun b _ => by
  by_cases c : b = u
  · subst c
    rw [if_pos e]
    exact x_up_at.trans ey
  · rw [if_neg (by omega)]
    exact if_neg (fun z => c (by have y := z.2; omega))
theorem svq_x {h : xh} {q : Nat} : ∀ b, b < 6 → svq h q (12 + b) = xq h q b := fun b hb => by
  have z : ∀ b, b < 6 → so (6 + b) = 9 ∧ sf (6 + b) = b := by decide +kernel
  obtain ⟨z1, z2⟩ := z b hb
  have e : svq h q (12 + b) = h (q + so (6 + b)) (sf (6 + b)) := by
    rw [show 12 + b = (6 + b) + 6 by omega]
    rfl
  rw [e, z1, z2]
  rfl
/-! ===== who lives, as bits ===== -/
def ban (a z : Nat) : Nat := iv_bs (iv_ub a &&& iv_ub z)
def bor (a z : Nat) : Nat := iv_bs (iv_ub a ||| iv_ub z)
def bsl (a z : Nat) : Nat := iv_bs (iv_ub a <<< (iv_ub z &&& 31))
section EXB
variable {sc : Nat × Nat} {mi d c0 s0 pc np a z : Nat} {lo st : List Nat} {h : xh} {Q : Nat → xh → Prop}
theorem x_andE (w : wd mi pc 17 np 0) (ha : a < 4294967296) (hz : z < 4294967296) (k : ban a z < 4294967296 → X sc mi d Q c0 s0 np lo (iv_c (ban a z) :: st) h) : X sc mi d Q c0 s0 pc lo (iv_c z :: iv_c a :: st) h := fun L hL =>
  let ⟨r, b, c, e, f, g⟩ := k (x_bs _) L hL; ⟨r, b, c, e, f, iw_alu (k9 := 0) w.1 w.2 (wd_ne w (by decide)) ha hz rfl g⟩
theorem x_orE (w : wd mi pc 17 np 1) (ha : a < 4294967296) (hz : z < 4294967296) (k : bor a z < 4294967296 → X sc mi d Q c0 s0 np lo (iv_c (bor a z) :: st) h) : X sc mi d Q c0 s0 pc lo (iv_c z :: iv_c a :: st) h := fun L hL =>
  let ⟨r, b, c, e, f, g⟩ := k (x_bs _) L hL; ⟨r, b, c, e, f, iw_alu (k9 := 1) w.1 w.2 (wd_ne w (by decide)) ha hz rfl g⟩
theorem x_shlE (w : wd mi pc 17 np 3) (ha : a < 4294967296) (hz : z < 4294967296) (k : bsl a z < 4294967296 → X sc mi d Q c0 s0 np lo (iv_c (bsl a z) :: st) h) : X sc mi d Q c0 s0 pc lo (iv_c z :: iv_c a :: st) h := fun L hL =>
  let ⟨r, b, c, e, f, g⟩ := k (x_bs _) L hL; ⟨r, b, c, e, f, iw_alu (k9 := 3) w.1 w.2 (wd_ne w (by decide)) ha hz rfl g⟩
end EXB
theorem bsl_b {x : Nat} (h1 : 2147483648 ≤ x) (h2 : x ≤ 2147483660) : 2147483649 ≤ bsl 2147483649 x ∧ bsl 2147483649 x ≤ 2147487744 := by
  have z : ∀ u, u < 13 → 2147483649 ≤ bsl 2147483649 (2147483648 + u) ∧ bsl 2147483649 (2147483648 + u) ≤ 2147487744 := by decide +kernel
  have y := z (x - 2147483648) (by omega)
  rw [show 2147483648 + (x - 2147483648) = x by omega] at y
  exact y
/-- the days on which a body lives that dies on day x -/
def al9 (x : Nat) : Nat := ban 2147487743 (bsl 2147483649 x - 1)
/-- a bit of it -/
def hb9 (a d : Nat) : Nat := ban (bsh a d) 2147483649
theorem al_bit {x d : Nat} (h1 : 2147483648 ≤ x) (h2 : x ≤ 2147483660) (h3 : 2147483648 ≤ d) (h4 : d ≤ 2147483659) : hb9 (al9 x) d = 2147483649 ↔ d < x := by
  have z : ∀ u, u < 13 → ∀ y, y < 12 → (hb9 (al9 (2147483648 + u)) (2147483648 + y) = 2147483649 ↔ y < u) := by decide +kernel
  have y := z (x - 2147483648) (by omega) (d - 2147483648) (by omega)
  rw [show 2147483648 + (x - 2147483648) = x by omega, show 2147483648 + (d - 2147483648) = d by omega] at y
  rw [y]
  omega
theorem al_gr {m : Nat} {h h' : xh} {X9 : Nat → Nat} (p : ∀ b, b < 6 → h 46 b = X9 b) (f : Fr m h h') (g : Nat.testBit m 59 = false) : ∀ b, b < 6 → h' 46 b = X9 b := fun b hb => (f 46 b g).trans (p b hb)
/-! ===== sightings: what a text leaves ===== -/
def R20 (σ τ : Nat → Nat) : Prop := ∀ b, b < 20 → σ b = τ b
def ab (α β : Nat → Nat) (i : Nat) : Nat := if i < 10 then α i else β (i - 10)
theorem ab2 {α β α' β' : Nat → Nat} (p : ∀ u, u < 10 → α' u = α u) (q : ∀ u, u < 10 → β' u = β u) : ∀ i, i < 20 → ab α' β' i = ab α β i := fun i hi => by
  unfold ab
  by_cases c : i < 10
  · rw [if_pos c, if_pos c]
    exact p i c
  · rw [if_neg c, if_neg c]
    exact q (i - 10) (by omega)
theorem ab_1 {α β : Nat → Nat} {u : Nat} (h : u < 10) : ab α β u = α u := if_pos h
theorem ab_2 {α β : Nat → Nat} {u : Nat} : ab α β (10 + u) = β u := by
  unfold ab
  rw [if_neg (by omega), show 10 + u - 10 = u by omega]
/-- bodies with 'or' between them, as bits: the place, the bits so far; the place behind, all bits -/
def Bv_R (B : Nat → Nat) (n hi : Nat) (R : Nat → Nat → Nat → Nat → Prop) (p x q y : Nat) : Prop :=
  (∃ v, Nr B n 2147483648 hi p v q ∧ v ≠ 2147483647 ∧ ¬ Wd B n 15 q ∧ y = bor x (bsl 2147483649 v)) ∨
  (∃ v q1, Nr B n 2147483648 hi p v q1 ∧ v ≠ 2147483647 ∧ Wd B n 15 q1 ∧ R (sk B n (q1 + iv_tl 15)) (bor x (bsl 2147483649 v)) q y)
def Bv (B : Nat → Nat) (n hi p x q y : Nat) : Prop := ∀ R : Nat → Nat → Nat → Nat → Prop, (∀ p x q y, Bv_R B n hi R p x q y → R p x q y) → R p x q y
theorem Bv_R.mono {B : Nat → Nat} {n hi : Nat} {R S : Nat → Nat → Nat → Nat → Prop} (h : ∀ p x q y, R p x q y → S p x q y) {p x q y : Nat} (z : Bv_R B n hi R p x q y) : Bv_R B n hi S p x q y := by
  rcases z with ⟨v, a⟩ | ⟨v, q1, a, b, c, d⟩
  · exact Or.inl ⟨v, a⟩
  · exact Or.inr ⟨v, q1, a, b, c, h _ _ _ _ d⟩
section BV
variable {B : Nat → Nat} {n hi p x q y : Nat}
theorem Bv.mk (z : Bv_R B n hi (Bv B n hi) p x q y) : Bv B n hi p x q y := fun R c => c _ _ _ _ (Bv_R.mono (fun _ _ _ _ w => w R c) z)
theorem Bv.inv (z : Bv B n hi p x q y) : Bv_R B n hi (Bv B n hi) p x q y := z (fun p x q y => Bv_R B n hi (Bv B n hi) p x q y) (fun _ _ _ _ w => Bv_R.mono (fun _ _ _ _ u => Bv.mk u) w)
theorem Bv.ind {C : Nat → Nat → Nat → Nat → Prop} (st : ∀ p x q y, Bv_R B n hi (fun p x q y => Bv B n hi p x q y ∧ C p x q y) p x q y → C p x q y) (z : Bv B n hi p x q y) : C p x q y :=
  (z (fun p x q y => Bv B n hi p x q y ∧ C p x q y) (fun _ _ _ _ w => ⟨Bv.mk (Bv_R.mono (fun _ _ _ _ u => u.1) w), st _ _ _ _ w⟩)).2
theorem Bv.same (z : Bv B n hi p x q y) : ∀ q' y', Bv B n hi p x q' y' → q = q' ∧ y = y' := by
  refine Bv.ind (C := fun p x q y => ∀ q' y', Bv B n hi p x q' y' → q = q' ∧ y = y') ?_ z
  intro p x q y w q' y' b
  rcases w with ⟨v, f, v0, g, e⟩ | ⟨v, q1, f, v0, g, -, ih⟩ <;> rcases b.inv with ⟨v', f', v0', g', e'⟩ | ⟨v', q1', f', v0', g', b'⟩
  · obtain ⟨s1, s2⟩ := f.same f'
    exact ⟨s2 v0, by rw [e, e', s1]⟩
  · obtain ⟨s1, s2⟩ := f.same f'
    rw [← s2 v0] at g'
    exact absurd g' g
  · obtain ⟨s1, s2⟩ := f.same f'
    rw [← s2 v0] at g'
    exact absurd g g'
  · obtain ⟨s1, s2⟩ := f.same f'
    rw [← s2 v0, ← s1] at b'
    exact ih q' y' b'
end BV
/-- what is left of a row of bodies -/
def Bw (B : Nat → Nat) (n hi p x p0 x0 : Nat) : Prop := ∀ q y, Bv B n hi p x q y → Bv B n hi p0 x0 q y
section BW
variable {B : Nat → Nat} {n hi lo1 hi1 p p0 p1 p2 x x0 x1 q q2 q3 v y R : Nat}
theorem Bw.zero (e : p = p0) (e1 : x = x0) : Bw B n hi p x p0 x0 := fun q y h => by rw [← e, ← e1]; exact h
theorem Bw.fin (m : Bw B n hi p x p0 x0) (f : Nr B n lo1 hi1 p1 v q) (e1 : lo1 = 2147483648) (e2 : hi1 = hi) (e : p1 = p) (hv : v ≠ 2147483647) (w : ¬ Wd B n 15 p2) (g : p2 = q) (hq : q = q3) (hy : y = bor x (bsl 2147483649 v)) : Bv B n hi p0 x0 q3 y := by
  rw [e1, e2, e] at f
  rw [g] at w
  rw [← hq]
  exact m _ _ (Bv.mk (Or.inl ⟨v, f, hv, w, hy⟩))
theorem Bw.go (m : Bw B n hi p x p0 x0) (f : Nr B n lo1 hi1 p1 v q) (e1 : lo1 = 2147483648) (e2 : hi1 = hi) (e : p1 = p) (hv : v ≠ 2147483647) (w : Wd B n 15 p2) (g : p2 = q) (h : q2 = sk B n (p2 + iv_tl 15)) (hq : q2 = q3) (hy : x1 = bor x (bsl 2147483649 v)) : Bw B n hi q3 x1 p0 x0 := by
  rw [e1, e2, e] at f
  rw [g] at w h
  rw [← hq, h, hy]
  exact fun a b z => m _ _ (Bv.mk (Or.inr ⟨v, q, f, hv, w, z⟩))
end BW
/-- behind 'seen': a name, a day, bodies; the row s gets them -/
def Sx (B : Nat → Nat) (n pe s p : Nat) (σ σ' : Nat → Nat) : Prop := ∃ a q0 v q1 q2 y, Nr B n 2147483648 (pe - 1) p a q0 ∧ a ≠ 2147483647 ∧ Wd B n 2 q0 ∧ Nr B n 2147483648 2147483659 (sk B n (q0 + iv_tl 2)) v q1 ∧ v ≠ 2147483647 ∧ Wd B n 14 q1 ∧ Bv B n (pe - 1) (sk B n (q1 + iv_tl 14)) 2147483648 q2 y ∧ ∀ b, b < 20 → σ' b = if s = 2147483648 + b then v else if s + 10 = 2147483648 + b ∧ 10 ≤ b then y else σ b
/-- a line's sightings -/
def Sl (B : Nat → Nat) (n pe s p : Nat) (σ σ' : Nat → Nat) : Prop := (Wd B n 13 p ∧ s < 2147483658 ∧ Sx B n pe s (sk B n (p + iv_tl 13)) σ σ') ∨ (¬ Wd B n 13 p ∧ ∀ b, b < 20 → σ' b = σ b)
section ZX
variable {B : Nat → Nat} {n pe s p p1 p2 q1 i : Nat} {σ σ' τ τ' : Nat → Nat}
theorem Sx.mk {lo1 hi1 p3 a q0 p4 p5 lo2 hi2 p6 v q2 p7 p8 hi3 p9 x9 q9 y : Nat} (f : Nr B n lo1 hi1 p3 a q0) (e1 : lo1 = 2147483648) (e2 : hi1 = pe - 1) (e3 : p3 = p) (ha : a ≠ 2147483647) (g : Wd B n 2 p4) (e4 : p4 = q0) (e5 : p5 = sk B n (p4 + iv_tl 2)) (k : Nr B n lo2 hi2 p6 v q2) (e6 : lo2 = 2147483648) (e7 : hi2 = 2147483659) (e8 : p6 = p5) (hv : v ≠ 2147483647) (w : Wd B n 14 p7) (e9 : p7 = q2) (ea : p8 = sk B n (p7 + iv_tl 14)) (r : Bv B n hi3 p9 x9 q9 y) (eb : hi3 = pe - 1) (ec : p9 = p8) (ed : x9 = 2147483648) (t : ∀ b, b < 20 → σ' b = if s = 2147483648 + b then v else if s + 10 = 2147483648 + b ∧ 10 ≤ b then y else σ b) : Sx B n pe s p σ σ' := by
  rw [e1, e2, e3] at f
  rw [e4] at g e5
  rw [e6, e7, e8, e5] at k
  rw [e9] at w ea
  rw [eb, ec, ea, ed] at r
  exact ⟨a, q0, v, q2, q9, y, f, ha, g, k, hv, w, r, t⟩
/-- the row, by its two parts -/
theorem sx_ab {α β α' β' : Nat → Nat} {u v y : Nat} (hs : s = 2147483648 + u) (hu : u < 10) (a1 : α' u = v) (b1 : β' u = y) (a0 : ∀ w, w < 10 → w ≠ u → α' w = α w) (b0 : ∀ w, w < 10 → w ≠ u → β' w = β w) : ∀ b, b < 20 → ab α' β' b = if s = 2147483648 + b then v else if s + 10 = 2147483648 + b ∧ 10 ≤ b then y else ab α β b := fun b hb => by
  unfold ab
  by_cases c : b < 10
  · rw [if_pos c, if_pos c]
    by_cases d : b = u
    · subst d
      rw [if_pos hs]
      exact a1
    · rw [if_neg (by omega), if_neg (by omega)]
      exact a0 b c d
  · rw [if_neg c, if_neg c, if_neg (by omega)]
    by_cases d : b - 10 = u
    · rw [if_pos (by omega), d]
      exact b1
    · rw [if_neg (by omega)]
      exact b0 (b - 10) (by omega) d
theorem Sl.seen (g : Wd B n 13 p1) (e : p1 = p) (hs : s < 2147483658) (f : q1 = sk B n (p1 + iv_tl 13)) (e2 : p2 = q1) (k : Sx B n pe s p2 σ σ') : Sl B n pe s p σ σ' := by
  rw [e] at g f
  rw [e2, f] at k
  exact Or.inl ⟨g, hs, k⟩
theorem Sl.oth (g : Wd B n i p1) (e : p1 = p) (h1 : i < 32) (h2 : i ≠ 13) (u : ∀ b, b < 20 → σ' b = σ b) : Sl B n pe s p σ σ' := by
  rw [e] at g
  exact Or.inr ⟨fun y => h2 (g.inj h1 (by decide) y), u⟩
theorem Sl.cst {pe' s' : Nat} (a : Sl B n pe s p σ σ') (e : pe = pe') (e1 : s = s') : Sl B n pe' s' p σ σ' := by rw [← e, ← e1]; exact a
theorem Sx.cst {pe' s' : Nat} (a : Sx B n pe s p σ σ') (e : pe = pe') (e1 : s = s') : Sx B n pe' s' p σ σ' := by rw [← e, ← e1]; exact a
theorem Sx.mp (a : Sx B n pe s p σ σ') (h : ∀ b, b < 20 → σ b = τ b) (h' : ∀ b, b < 20 → τ' b = σ' b) : Sx B n pe s p τ τ' := by
  obtain ⟨a, q0, v, q1, q2, y, f, ha, g, k, hv, w, r, t⟩ := a
  exact ⟨a, q0, v, q1, q2, y, f, ha, g, k, hv, w, r, fun b hb => by rw [h' b hb, t b hb, h b hb]⟩
theorem Sl.mp (a : Sl B n pe s p σ σ') (h : ∀ b, b < 20 → σ b = τ b) (h' : ∀ b, b < 20 → τ' b = σ' b) : Sl B n pe s p τ τ' := by
  rcases a with ⟨g, hs, k⟩ | ⟨g, k⟩
  · exact Or.inl ⟨g, hs, k.mp h h'⟩
  · exact Or.inr ⟨g, fun b hb => by rw [h' b hb, k b hb, h b hb]⟩
theorem Sx.rel (a : Sx B n pe s p σ σ') (c : Sx B n pe s p τ τ') (h : R20 σ τ) : R20 σ' τ' := by
  obtain ⟨a, q0, v, q1, q2, y, f, ha, g, k, hv, w, r, t⟩ := a
  obtain ⟨a', q0', v', q1', q2', y', f', ha', g', k', hv', w', r', t'⟩ := c
  have x1 := (f.same f').2 ha
  subst x1
  obtain ⟨x2, x3⟩ := k.same k'
  have x3 := x3 hv
  subst x2 x3
  have x4 := (r.same _ _ r').2
  subst x4
  intro b hb
  rw [t b hb, t' b hb, h b hb]
theorem Sl.rel (a : Sl B n pe s p σ σ') (c : Sl B n pe s p τ τ') (h : R20 σ τ) : R20 σ' τ' := by
  rcases a with ⟨g, -, k⟩ | ⟨g, k⟩ <;> rcases c with ⟨g', -, k'⟩ | ⟨g', k'⟩
  · exact k.rel k' h
  · exact absurd g g'
  · exact absurd g' g
  · exact fun b hb => by rw [k b hb, k' b hb]; exact h b hb
end ZX
/-- the lines' sightings, of a text that is right: m more may come -/
def ts9 (B : Nat → Nat) (n pe : Nat) : Nat → Nat → Nat → Nat → Nat → Nat → (Nat → Nat) → (Nat → Nat) → Prop
  | 0, _, _, _, _, _, _, _ => False
  | m + 1, l, t, d, s, p, σ, σ' => ∃ q l' t' d' s' σ1, line9 B n pe l t d s p (some (q, l', t', d', s')) ∧ Sl B n pe s p σ σ1 ∧ ((n ≤ q ∧ ∀ b, b < 20 → σ' b = σ1 b) ∨ (q < n ∧ Sg B n 2147483707 q ∧ ts9 B n pe m l' t' d' s' (sk B n (q + 1)) σ1 σ'))
def Tz (B : Nat → Nat) (n pe l t d s : Nat) (σ σ' : Nat → Nat) : Prop := (n ≤ sk B n 2147483648 ∧ ∀ b, b < 20 → σ' b = σ b) ∨ (sk B n 2147483648 < n ∧ ts9 B n pe 14 l t d s (sk B n 2147483648) σ σ')
section ZT
variable {B : Nat → Nat} {n pe : Nat}
theorem ts9.mp : ∀ {m l t d s p : Nat} {σ σ' τ : Nat → Nat}, ts9 B n pe m l t d s p σ σ' → (∀ b, b < 20 → σ b = τ b) → ts9 B n pe m l t d s p τ σ' := by
  intro m
  cases m with
  | zero =>
    intro l t d s p σ σ' τ a _
    exact a
  | succ m =>
    intro l t d s p σ σ' τ a h
    obtain ⟨q, l1, t1, d1, s1, σ1, k, x, y⟩ := a
    exact ⟨q, l1, t1, d1, s1, σ1, k, x.mp h (fun _ _ => rfl), y⟩
theorem ts9.rel : ∀ {m l t d s p : Nat} {σ σ' τ τ' : Nat → Nat}, ts9 B n pe m l t d s p σ σ' → ts9 B n pe m l t d s p τ τ' → R20 σ τ → R20 σ' τ' := by
  intro m
  induction m with
  | zero =>
    intro l t d s p σ σ' τ τ' a _ _
    exact absurd a (fun z => z)
  | succ m ih =>
    intro l t d s p σ σ' τ τ' a c h
    obtain ⟨q, l1, t1, d1, s1, σ1, k, x, y⟩ := a
    obtain ⟨q2, l2, t2, d2, s2, σ2, k2, x2, y2⟩ := c
    have e := line9_d k k2
    injection e with e
    injection e with e1 e
    injection e with e2 e
    injection e with e3 e
    injection e with e4 e5
    subst e1 e2 e3 e4 e5
    have r := x.rel x2 h
    rcases y with ⟨y1, y3⟩ | ⟨y0, y1, y3⟩ <;> rcases y2 with ⟨z1, z3⟩ | ⟨z0, z1, z3⟩
    · exact fun b hb => by rw [y3 b hb, z3 b hb]; exact r b hb
    · omega
    · omega
    · exact ih y3 z3 r
theorem Tz.rel {l t d s : Nat} {σ σ' τ τ' : Nat → Nat} (a : Tz B n pe l t d s σ σ') (c : Tz B n pe l t d s τ τ') (h : R20 σ τ) : R20 σ' τ' := by
  rcases a with ⟨a1, a2⟩ | ⟨a1, a2⟩ <;> rcases c with ⟨c1, c2⟩ | ⟨c1, c2⟩
  · exact fun b hb => by rw [a2 b hb, c2 b hb]; exact h b hb
  · omega
  · omega
  · exact a2.rel c2 h
theorem Tz.mp {pe' l t d s l1 t1 d1 s1 : Nat} {σ σ' τ τ' : Nat → Nat} (a : Tz B n pe l t d s σ σ') (h : ∀ b, b < 20 → σ b = τ b) (h' : ∀ b, b < 20 → τ' b = σ' b) (e : pe = pe') (e1 : l = l1) (e2 : t = t1) (e3 : d = d1) (e4 : s = s1) : Tz B n pe' l1 t1 d1 s1 τ τ' := by
  subst e e1 e2 e3 e4
  rcases a with ⟨a1, a2⟩ | ⟨a1, a2⟩
  · exact Or.inl ⟨a1, fun b hb => by rw [h' b hb, a2 b hb, h b hb]⟩
  · have key : ∀ {m l t d s p : Nat} {σ σ' τ' : Nat → Nat}, (∀ b, b < 20 → τ' b = σ' b) → ts9 B n pe m l t d s p σ σ' → ts9 B n pe m l t d s p σ τ' := by
      intro m
      induction m with
      | zero =>
        intro l t d s p σ σ' τ' _ z
        exact z
      | succ m ih =>
        intro l t d s p σ σ' τ' u z
        obtain ⟨q, l1, t1, d1, s1, σ1, k, x, y⟩ := z
        refine ⟨q, l1, t1, d1, s1, σ1, k, x, ?_⟩
        rcases y with ⟨y1, y2⟩ | ⟨y0, y1, y2⟩
        · exact Or.inl ⟨y1, fun b hb => by rw [u b hb, y2 b hb]⟩
        · exact Or.inr ⟨y0, y1, ih u y2⟩
    exact Or.inr ⟨a1, key h' (a2.mp h)⟩
end ZT
/-- what is left of the lines' sightings -/
def Tzl (B : Nat → Nat) (n pe l0 t0 d0 s0 : Nat) (σ0 : Nat → Nat) (m l t d s p : Nat) (σ : Nat → Nat) : Prop := ∀ σ', ts9 B n pe m l t d s p σ σ' → Tz B n pe l0 t0 d0 s0 σ0 σ'
section ZL
variable {B : Nat → Nat} {n pe l0 t0 d0 s0 m m' l t d s l' t' d' s' p p1 p2 p3 q q1 x w : Nat} {σ0 σ σ1 σa σb σ' : Nat → Nat}
theorem Tz.nil (e1 : p = sk B n 2147483648) (h : n ≤ p) (u : ∀ b, b < 20 → σ' b = σ0 b) : Tz B n pe l t d s σ0 σ' := Or.inl ⟨by omega, u⟩
theorem Tzl.zero (e1 : p = sk B n 2147483648) (h : p < n) (hm : m = 14) (u : ∀ b, b < 20 → σ b = σ0 b) : Tzl B n pe l t d s σ0 m l t d s p σ := fun σ' z => Or.inr ⟨by omega, by rw [← e1, ← hm]; exact z.mp u⟩
theorem Tzl.zeroR (e : w = sk B n 2147483648) (h0 : 2147483648 ≤ n) (h : w ≠ n) (hm : m = 14) (u : ∀ b, b < 20 → σ b = σ0 b) : Tzl B n pe l t d s σ0 m l t d s (sk B n w) σ := by
  have x := sk_le (B := B) h0
  have y : sk B n w = w := by rw [e, sk_idem]
  exact Tzl.zero (y.trans e) (by omega) hm u
theorem Tzl.fin (z : Tzl B n pe l0 t0 d0 s0 σ0 m l t d s p σ) (h : 0 < m) (k : line9 B n pe l t d s p1 (rs5 x q l' t' d' s')) (e1 : p1 = p) (hx : x = 2147483649) (hn : n ≤ q) (lx : Sl B n pe s p1 σa σb) (ua : ∀ b, b < 20 → σa b = σ b) (ub : ∀ b, b < 20 → σ' b = σb b) : Tz B n pe l0 t0 d0 s0 σ0 σ' := by
  rw [rs5_1 hx, e1] at k
  rw [e1] at lx
  obtain ⟨m, rfl⟩ : ∃ y, m = y + 1 := ⟨m - 1, by omega⟩
  exact z _ ⟨q, l', t', d', s', σb, k, lx.mp ua (fun _ _ => rfl), Or.inl ⟨hn, ub⟩⟩
theorem Tzl.go (z : Tzl B n pe l0 t0 d0 s0 σ0 m l t d s p σ) (h : m = m' + 1) (k : line9 B n pe l t d s p1 (rs5 x q l' t' d' s')) (e1 : p1 = p) (hx : x = 2147483649) (u : Sg B n 2147483707 p2) (e2 : p2 = q) (e3 : q1 = sk B n (p2 + 1)) (e4 : q1 = p3) (lx : Sl B n pe s p1 σa σb) (ua : ∀ b, b < 20 → σa b = σ b) (ub : ∀ b, b < 20 → σ1 b = σb b) : Tzl B n pe l0 t0 d0 s0 σ0 m' l' t' d' s' p3 σ1 := by
  rw [rs5_1 hx, e1] at k
  rw [e1] at lx
  rw [e2] at u e3
  rw [← e4, e3]
  subst h
  exact fun σ' y => z _ ⟨q, l', t', d', s', σb, k, lx.mp ua (fun _ _ => rfl), Or.inr ⟨u.1, u, y.mp ub⟩⟩
end ZL
/-- days and bodies of the sightings: of a town, of the draft, of the world -/
def aq (h : xh) (q u : Nat) : Nat := h (q + 8) (1 + 4 * u)
def bq (h : xh) (q u : Nat) : Nat := h (q + 8) (2 + 4 * u)
def adr (h : xh) (u : Nat) : Nat := h 78 (251 + 4 * u)
def bdr (h : xh) (u : Nat) : Nat := h 78 (252 + 4 * u)
def aw (h : xh) (u : Nat) : Nat := h 76 (251 + 4 * u)
def bw (h : xh) (u : Nat) : Nat := h 76 (252 + 4 * u)
theorem aq_i {h : xh} {k i v q u : Nat} (n : 1 + 4 * u ≠ i) : aq (x_up h k i v) q u = aq h q u := if_neg (fun z => n z.2)
theorem aq_k {h : xh} {k i v q u : Nat} (n : q + 8 ≠ k) : aq (x_up h k i v) q u = aq h q u := if_neg (fun z => n z.1)
theorem aq_c {h : xh} {k r N q u : Nat} (n : q + 8 ≠ k) : aq (x_cp h k r N) q u = aq h q u := if_neg (fun z => n z.1)
theorem aq_gr {m q : Nat} {h h' : xh} (t : tw q) (f : Fr m h h') (g : Nat.testBit m 55 = false) : ∀ u, u < 10 → aq h' q u = aq h q u := fun u _ => f (q + 8) (1 + 4 * u) (by rcases t with rfl | rfl <;> exact g)
theorem bq_i {h : xh} {k i v q u : Nat} (n : 2 + 4 * u ≠ i) : bq (x_up h k i v) q u = bq h q u := if_neg (fun z => n z.2)
theorem bq_k {h : xh} {k i v q u : Nat} (n : q + 8 ≠ k) : bq (x_up h k i v) q u = bq h q u := if_neg (fun z => n z.1)
theorem bq_c {h : xh} {k r N q u : Nat} (n : q + 8 ≠ k) : bq (x_cp h k r N) q u = bq h q u := if_neg (fun z => n z.1)
theorem bq_gr {m q : Nat} {h h' : xh} (t : tw q) (f : Fr m h h') (g : Nat.testBit m 55 = false) : ∀ u, u < 10 → bq h' q u = bq h q u := fun u _ => f (q + 8) (2 + 4 * u) (by rcases t with rfl | rfl <;> exact g)
theorem adr_i {h : xh} {k i v u : Nat} (n : 251 + 4 * u ≠ i) : adr (x_up h k i v) u = adr h u := if_neg (fun z => n z.2)
theorem adr_k {h : xh} {k i v u : Nat} (n : 78 ≠ k) : adr (x_up h k i v) u = adr h u := if_neg (fun z => n z.1)
theorem adr_g0 : ∀ u, u < 10 → x_gr 78 (251 + 4 * u) = 63 := by decide +kernel
theorem adr_gr {m : Nat} {h h' : xh} (f : Fr m h h') (g : Nat.testBit m 63 = false) : ∀ u, u < 10 → adr h' u = adr h u := fun u hu => f 78 (251 + 4 * u) (by rw [adr_g0 u hu]; exact g)
theorem bdr_i {h : xh} {k i v u : Nat} (n : 252 + 4 * u ≠ i) : bdr (x_up h k i v) u = bdr h u := if_neg (fun z => n z.2)
theorem bdr_k {h : xh} {k i v u : Nat} (n : 78 ≠ k) : bdr (x_up h k i v) u = bdr h u := if_neg (fun z => n z.1)
theorem bdr_g0 : ∀ u, u < 10 → x_gr 78 (252 + 4 * u) = 63 := by decide +kernel
theorem bdr_gr {m : Nat} {h h' : xh} (f : Fr m h h') (g : Nat.testBit m 63 = false) : ∀ u, u < 10 → bdr h' u = bdr h u := fun u hu => f 78 (252 + 4 * u) (by rw [bdr_g0 u hu]; exact g)
theorem aw_i {h : xh} {k i v u : Nat} (n : 251 + 4 * u ≠ i) : aw (x_up h k i v) u = aw h u := if_neg (fun z => n z.2)
theorem aw_k {h : xh} {k i v u : Nat} (n : 76 ≠ k) : aw (x_up h k i v) u = aw h u := if_neg (fun z => n z.1)
theorem aw_g0 : ∀ u, u < 10 → x_gr 76 (251 + 4 * u) = 58 := by decide +kernel
theorem aw_gr {m : Nat} {h h' : xh} (f : Fr m h h') (g : Nat.testBit m 58 = false) : ∀ u, u < 10 → aw h' u = aw h u := fun u hu => f 76 (251 + 4 * u) (by rw [aw_g0 u hu]; exact g)
theorem bw_i {h : xh} {k i v u : Nat} (n : 252 + 4 * u ≠ i) : bw (x_up h k i v) u = bw h u := if_neg (fun z => n z.2)
theorem bw_k {h : xh} {k i v u : Nat} (n : 76 ≠ k) : bw (x_up h k i v) u = bw h u := if_neg (fun z => n z.1)
theorem bw_g0 : ∀ u, u < 10 → x_gr 76 (252 + 4 * u) = 58 := by decide +kernel
theorem bw_gr {m : Nat} {h h' : xh} (f : Fr m h h') (g : Nat.testBit m 58 = false) : ∀ u, u < 10 → bw h' u = bw h u := fun u hu => f 76 (252 + 4 * u) (by rw [bw_g0 u hu]; exact g)
theorem Sx.bs {B : Nat → Nat} {n pe s p b c : Nat} {h h' : xh} (w : Sx B n pe s p (ab (aq h b) (bq h b)) (ab (aq h' b) (bq h' b))) (e : b = c) : Sx B n pe s p (ab (aq h c) (bq h c)) (ab (aq h' c) (bq h' c)) := by rw [← e]; exact w
theorem Sl.bs {B : Nat → Nat} {n pe s p b c : Nat} {h h' : xh} (w : Sl B n pe s p (ab (aq h b) (bq h b)) (ab (aq h' b) (bq h' b))) (e : b = c) : Sl B n pe s p (ab (aq h c) (bq h c)) (ab (aq h' c) (bq h' c)) := by rw [← e]; exact w
theorem svq_s {h : xh} {q : Nat} : ∀ i, i < 20 → svq h q (28 + i) = ab (aq h q) (bq h q) i := fun i hi => by
  have z : ∀ u, u < 10 → (so (22 + u) = 8 ∧ sf (22 + u) = 1 + 4 * u) ∧ so (32 + u) = 8 ∧ sf (32 + u) = 2 + 4 * u := by decide +kernel
  have E : ∀ j, svq h q (j + 6) = h (q + so j) (sf j) := fun _ => rfl
  unfold ab
  by_cases c : i < 10
  · rw [if_pos c, show 28 + i = (22 + i) + 6 by omega, E, (z i c).1.1, (z i c).1.2]
    rfl
  · obtain ⟨u, rfl⟩ : ∃ u, i = 10 + u := ⟨i - 10, by omega⟩
    rw [if_neg c, show 28 + (10 + u) = (32 + u) + 6 by omega, E, (z u (by omega)).2.1, (z u (by omega)).2.2, show 10 + u - 10 = u by omega]
    rfl
/-- the bodies that a sighting can have been: in the program, in the reference -/
def cb (t d : Nat) (al : Nat → Nat) : Nat → Nat
  | 0 => 2147483648
  | k + 1 => if hb9 t (2147483648 + k) = 2147483649 ∧ hb9 (al k) d = 2147483649 then bor (cb t d al k) (bsl 2147483649 (2147483648 + k)) else cb t d al k
def cr (t d : Nat) (x : Nat → Nat) : Nat → Nat
  | 0 => 2147483648
  | k + 1 => if hb9 t (2147483648 + k) = 2147483649 ∧ d < x k then bor (cr t d x k) (bsl 2147483649 (2147483648 + k)) else cr t d x k
theorem cb_cr {t d : Nat} {al x : Nat → Nat} (h : ∀ k, k < 6 → (hb9 (al k) d = 2147483649 ↔ d < x k)) : ∀ k, k ≤ 6 → cb t d al k = cr t d x k := by
  intro k
  induction k with
  | zero => exact fun _ => rfl
  | succ k ih =>
    intro hk
    have e := ih (by omega)
    have q := h k (by omega)
    show (if hb9 t (2147483648 + k) = 2147483649 ∧ hb9 (al k) d = 2147483649 then bor (cb t d al k) (bsl 2147483649 (2147483648 + k)) else cb t d al k) = (if hb9 t (2147483648 + k) = 2147483649 ∧ d < x k then bor (cr t d x k) (bsl 2147483649 (2147483648 + k)) else cr t d x k)
    rw [e]
    by_cases c : hb9 t (2147483648 + k) = 2147483649 ∧ d < x k
    · rw [if_pos c, if_pos ⟨c.1, q.mpr c.2⟩]
    · rw [if_neg c, if_neg (fun z => c ⟨z.1, q.mp z.2⟩)]
theorem bor_0 {v : Nat} (h : v < 4294967296) : bor v 2147483648 = v := by
  unfold bor
  rw [show iv_ub 2147483648 = 0 by decide, Int32.or_zero]
  exact iv_bs_ub h
section CBR
variable {t d p p' v v' : Nat} {al x : Nat → Nat}
theorem cb_s (u : Nat) : cb t d al (u + 1) = if hb9 t (2147483648 + u) = 2147483649 ∧ hb9 (al u) d = 2147483649 then bor (cb t d al u) (bsl 2147483649 (2147483648 + u)) else cb t d al u := rfl
theorem cr_s (u : Nat) : cr t d x (u + 1) = if hb9 t (2147483648 + u) = 2147483649 ∧ d < x u then bor (cr t d x u) (bsl 2147483649 (2147483648 + u)) else cr t d x u := rfl
theorem cb_y {u : Nat} (e : v = cb t d al (p - 2147483648)) (hp : p = 2147483648 + u) (hp' : p' = p + 1) (h1 : hb9 t p = 2147483649) (h2 : hb9 (al u) d = 2147483649) (e' : v' = bor v (bsl 2147483649 p)) : v' = cb t d al (p' - 2147483648) := by
  rw [show p - 2147483648 = u by omega] at e
  rw [show p' - 2147483648 = u + 1 by omega, cb_s, ← e, if_pos ⟨by rw [← hp]; exact h1, h2⟩, ← hp]
  exact e'
theorem cb_n {u : Nat} (e : v = cb t d al (p - 2147483648)) (hp : p = 2147483648 + u) (hp' : p' = p + 1) (h1 : ¬ (hb9 t p = 2147483649 ∧ hb9 (al u) d = 2147483649)) (e' : v' = v) : v' = cb t d al (p' - 2147483648) := by
  rw [show p - 2147483648 = u by omega] at e
  rw [show p' - 2147483648 = u + 1 by omega, cb_s, ← e, if_neg (by rw [← hp]; exact h1)]
  exact e'
theorem cr_y {u : Nat} (e : v = cr t d x (p - 2147483648)) (hp : p = 2147483648 + u) (hp' : p' = p + 1) (h1 : hb9 t p = 2147483649) (h2 : d < x u) (e' : v' = bor v (bsl 2147483649 p)) : v' = cr t d x (p' - 2147483648) := by
  rw [show p - 2147483648 = u by omega] at e
  rw [show p' - 2147483648 = u + 1 by omega, cr_s, ← e, if_pos ⟨by rw [← hp]; exact h1, h2⟩, ← hp]
  exact e'
theorem cr_n {u : Nat} (e : v = cr t d x (p - 2147483648)) (hp : p = 2147483648 + u) (hp' : p' = p + 1) (hv : v < 4294967296) (h1 : ¬ (hb9 t p = 2147483649 ∧ d < x u)) (e' : v' = bor v 2147483648) : v' = cr t d x (p' - 2147483648) := by
  rw [show p - 2147483648 = u by omega] at e
  rw [show p' - 2147483648 = u + 1 by omega, cr_s, ← e, if_neg (by rw [← hp]; exact h1)]
  exact e'.trans (bor_0 hv)
end CBR
