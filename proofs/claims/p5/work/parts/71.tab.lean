/-! ===== calls that change nothing; tables of regions ===== -/
theorem x_cP {sc : Nat × Nat} {mi d c0 s0 pc np : Nat} {lo st : List Nat} {h : xh} {Q : Nat → xh → Prop} {t mj n rc ml nr : Nat} {as rest lo1 : List Nat} {P : Nat → Prop} (w : wd mi pc 12 np (mj + 4096 * n + 1048576 * t + 16777216 * rc)) (ht : t = 6 ∨ t = 8 ∨ (t = 0 ∧ rc = 0) ∨ (t = 7 ∧ rc = 0)) (g : x_cb mi mj n ml 0 0 c0 s0 = true) (hrc : x_rc rc as) (hst : st = as.reverse ++ rest) (hn : as.length = n) (hwa : iv_wl as ≤ n) (hwr : iv_wl rest ≤ nr) (h8 : nr ≤ 8) (hl : lo1 = as ++ List.replicate (ml - n) 147573952589676412928)
    (k : X sc mj d (xI fun r h' => h' = h ∧ P r) 0 0 0 lo1 [] h) (k2 : ∀ r, r < 4294967296 → P r → X sc mi (d + 1) Q c0 s0 np lo (iv_c r :: rest) h) : X sc mi (d + 1) Q c0 s0 pc lo st h :=
  x_cI w ht g hrc hst hn hwa hwr h8 hl k (fun r h' q1 q2 => by
    rw [q2.1]
    exact k2 r q1 q2.2)
theorem x_vI {sc : Nat × Nat} {mi d c0 s0 pc np x : Nat} {lo : List Nat} {h : xh} {Q : Nat → xh → Prop} {mj r kk cls ml nr : Nat} {rest lo1 : List Nat} {P : Nat → xh → Prop} (w : wd mi pc 12 np x) (hx5 : x / 1048576 % 16 = 5) (hx4 : x % 4096 = kk) (hr : r < x_nc) (hkd : x_kd r = 4 * cls) (hv : pg_v cls kk = mj) (hj : mj ≤ 3999) (hs : iv_sub2 cls cls = true) (g : x_cb mi mj 1 ml 0 0 c0 s0 = true) (hwr : iv_wl rest ≤ nr) (h8 : nr ≤ 8) (hl : lo1 = x_r r :: List.replicate (ml - 1) 147573952589676412928)
    (k : X sc mj d (xI P) 0 0 0 lo1 [] h) (k2 : ∀ r9 h', r9 < 4294967296 → P r9 h' → X sc mi (d + 1) Q c0 s0 np lo (iv_c r9 :: rest) h') : X sc mi (d + 1) Q c0 s0 pc lo (x_r r :: rest) h :=
  x_virt w hx5 hx4 hr hkd hv hj hs g hwr h8 hl k (fun v h' q => by
    obtain ⟨r9, rfl, q1, q2⟩ := q
    exact Or.inl ⟨Nat.lt_trans (iw_c_lt q1).1 (by decide), k2 r9 h' q1 q2⟩)
theorem x_vV {sc : Nat × Nat} {mi d c0 s0 pc np x : Nat} {lo : List Nat} {h : xh} {Q : Nat → xh → Prop} {mj r kk cls ml nr : Nat} {rest lo1 : List Nat} {P : xh → Prop} (w : wd mi pc 12 np x) (hx5 : x / 1048576 % 16 = 5) (hx4 : x % 4096 = kk) (hr : r < x_nc) (hkd : x_kd r = 4 * cls) (hv : pg_v cls kk = mj) (hj : mj ≤ 3999) (hs : iv_sub2 cls cls = true) (g : x_cb mi mj 1 ml 0 0 c0 s0 = true) (hwr : iv_wl rest ≤ nr) (h8 : nr ≤ 8) (hl : lo1 = x_r r :: List.replicate (ml - 1) 147573952589676412928)
    (k : X sc mj d (xV P) 0 0 0 lo1 [] h) (k2 : ∀ h', P h' → X sc mi (d + 1) Q c0 s0 np lo rest h') : X sc mi (d + 1) Q c0 s0 pc lo (x_r r :: rest) h :=
  x_virt w hx5 hx4 hr hkd hv hj hs g hwr h8 hl k (fun v h' q => Or.inr ⟨q.1, k2 h' q.2⟩)
theorem J_upW {h : xh} {k i v : Nat} (hJ : J h) (t : tw v) (hk : (k = 0 ∧ i = 8) ∨ (k = 0 ∧ i = 9) ∨ (k = 45 ∧ i = 5) ∨ (k = 61 ∧ i = 1) ∨ (k = 63 ∧ i = 6) ∨ (k = 69 ∧ i = 6)) : J (x_up h k i v) := by
  have e : j_lo k i = 17 ∧ j_hi k i = 31 ∧ ¬ (k = 62 ∧ i = 1) := by
    rcases hk with ⟨rfl, rfl⟩ | ⟨rfl, rfl⟩ | ⟨rfl, rfl⟩ | ⟨rfl, rfl⟩ | ⟨rfl, rfl⟩ | ⟨rfl, rfl⟩ <;> decide +kernel
  obtain ⟨e1, e2, e3⟩ := e
  refine J_upT (a := 17) (b := 31) hJ ?_ t (fun k9 i9 z => ⟨fun q => absurd (by rw [← z.1, ← z.2]; exact q) e3, fun _ => ⟨rfl, rfl⟩⟩)
  rw [e1, e2]
  rcases t with rfl | rfl <;> decide
theorem J_upC {h : xh} {r : Nat} (hJ : J h) (t : tw r) : J (x_up h 62 1 (r + 11)) := by
  have e1 : j_lo 62 1 = 28 := by decide +kernel
  have e2 : j_hi 62 1 = 42 := by decide +kernel
  refine J_upT (a := 28) (b := 42) hJ ?_ (by rcases t with rfl | rfl; exact Or.inl rfl; exact Or.inr rfl) (fun k9 i9 z => ⟨fun _ => ⟨rfl, rfl⟩, fun q => absurd z q⟩)
  rw [e1, e2]
  rcases t with rfl | rfl <;> decide
/-- a place of q may take what stands at a place of r -/
def cwn (q a r b N g : Nat) : Prop := ∀ l, l < N → q < x_nc ∧ a + l < x_ln q ∧ r < x_nc ∧ b + l < x_ln r ∧ j_lo q (a + l) ≤ j_lo r (b + l) ∧ j_hi r (b + l) ≤ j_hi q (a + l) ∧ x_gr q (a + l) = g ∧ j_nt q (a + l)
theorem cwJ {h h1 : xh} {q a r b N g e v : Nat} (l : Nat) (hJ : J h) (hJ1 : J h1) (cw : cwn q a r b N g) (hl : l < N) (he : e = a + l) (hv : v = h1 r (b + l)) : J (x_up h q e v) := by
  obtain ⟨c1, c2, c3, c4, c5, c6, -, c8⟩ := cw l hl
  subst he
  subst hv
  obtain ⟨b1, b2⟩ := hJ1.1 r (b + l) c3 c4
  exact J_up hJ ⟨Nat.le_trans c5 b1, Nat.le_trans b2 c6⟩ c8
theorem cwF {h h1 : xh} {q a r b N g e v M : Nat} (l : Nat) (f : Fr M h h1) (cw : cwn q a r b N g) (hl : l < N) (he : e = a + l) (hg : Nat.testBit M g = true) : Fr M h (x_up h1 q e v) := by
  obtain ⟨-, -, -, -, -, -, c7, -⟩ := cw l hl
  subst he
  exact f.up (by rw [c7]; exact hg)
/-- quotients and rests: any number may come -/
theorem x_anyD {sc : Nat × Nat} {mi d c0 s0 pc np a z : Nat} {lo st : List Nat} {h : xh} {Q : Nat → xh → Prop} {k9 : Nat} (w : wd mi pc 17 np k9) (h5 : k9 = 6 ∨ k9 = 7) (ha : a < 4294967296) (hz : z < 4294967296) (hz0 : z ≠ 2147483648) (k : ∀ v, v < 4294967296 → X sc mi d Q c0 s0 np lo (iv_c v :: st) h) : X sc mi d Q c0 s0 pc lo (iv_c z :: iv_c a :: st) h := fun L hL => by
  have e1 : Nat.beq z 2147483648 = false := by rw [iv_n10]; exact hz0
  have hq : ∃ q, iv_alu k9 a z = some q := by
    rcases h5 with rfl | rfl
    · refine ⟨iv_ub a / iv_ub z, ?_⟩
      show (bif Nat.beq z 2147483648 then none else some (iv_ub a / iv_ub z)) = _
      rw [e1]
      rfl
    · refine ⟨iv_ub a - iv_ub a / iv_ub z * iv_ub z, ?_⟩
      show (bif Nat.beq z 2147483648 then none else some (iv_ub a - iv_ub a / iv_ub z * iv_ub z)) = _
      rw [e1]
      rfl
  obtain ⟨q, hq⟩ := hq
  obtain ⟨v, b, c, e, f1, g9⟩ := k (iv_bs q) (x_bs q) L hL
  exact ⟨v, b, c, e, f1, iw_alu w.1 w.2 (wd_ne w (by decide)) ha hz hq g9⟩

