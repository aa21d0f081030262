/-! ===== where a text of the town is wrong: the place, as a relation beside line9 ===== -/
def wF (B : Nat → Nat) (n i : Nat) (K : Nat → Nat → Prop) (p f : Nat) : Prop := (Wd B n i p ∧ K (sk B n (p + iv_tl i)) f) ∨ (¬ Wd B n i p ∧ f = p)
def oF (B : Nat → Nat) (n i : Nat) (K L : Nat → Nat → Prop) (p f : Nat) : Prop := (Wd B n i p ∧ K (sk B n (p + iv_tl i)) f) ∨ (¬ Wd B n i p ∧ L p f)
def mF (B : Nat → Nat) (n lo hi : Nat) (K : Nat → Nat → Nat → Prop) (p f : Nat) : Prop := ∃ v q, Nr B n lo hi p v q ∧ ((v = 2147483647 ∧ f = p) ∨ (v ≠ 2147483647 ∧ K v q f))
def eF (_ _ : Nat) : Prop := False
def BlF_R (B : Nat → Nat) (n hi : Nat) (R : Nat → Nat → Prop) (p f : Nat) : Prop :=
  (∃ v q, Nr B n 2147483648 hi p v q ∧ v = 2147483647 ∧ f = p) ∨
  (∃ v q, Nr B n 2147483648 hi p v q ∧ v ≠ 2147483647 ∧ Wd B n 15 q ∧ R (sk B n (q + iv_tl 15)) f)
def BlF (B : Nat → Nat) (n hi p f : Nat) : Prop := ∀ R : Nat → Nat → Prop, (∀ p f, BlF_R B n hi R p f → R p f) → R p f
theorem BlF_R.mono {B : Nat → Nat} {n hi : Nat} {R S : Nat → Nat → Prop} (h : ∀ p f, R p f → S p f) {p f : Nat} (x : BlF_R B n hi R p f) : BlF_R B n hi S p f := by
  rcases x with ⟨v, q, a⟩ | ⟨v, q, a, b, c, d⟩
  · exact Or.inl ⟨v, q, a⟩
  · exact Or.inr ⟨v, q, a, b, c, h _ _ d⟩
theorem BlF.mk {B : Nat → Nat} {n hi p f : Nat} (x : BlF_R B n hi (BlF B n hi) p f) : BlF B n hi p f := fun R c => c _ _ (BlF_R.mono (fun _ _ z => z R c) x)
theorem BlF.inv {B : Nat → Nat} {n hi p f : Nat} (x : BlF B n hi p f) : BlF_R B n hi (BlF B n hi) p f := x (fun p f => BlF_R B n hi (BlF B n hi) p f) (fun _ _ z => BlF_R.mono (fun _ _ y => BlF.mk y) z)
theorem BlF.ind {B : Nat → Nat} {n hi : Nat} {C : Nat → Nat → Prop} (st : ∀ p f, BlF_R B n hi (fun p f => BlF B n hi p f ∧ C p f) p f → C p f) {p f : Nat} (x : BlF B n hi p f) : C p f :=
  (x (fun p f => BlF B n hi p f ∧ C p f) (fun _ _ z => ⟨BlF.mk (BlF_R.mono (fun _ _ y => y.1) z), st _ _ z⟩)).2
def bF (B : Nat → Nat) (n hi : Nat) (K : Nat → Nat → Prop) (p f : Nat) : Prop := BlF B n hi p f ∨ ∃ q, Bl B n hi p (some q) ∧ K q f
def DF (K : Nat → Nat → Prop) : Prop := ∀ p f f', K p f → K p f' → f = f'
/-- what fails is not read -/
def XF (K : Nat → Nat → Prop) (M : Nat → Option Nat → Prop) : Prop := ∀ p f q, K p f → M p (some q) → False
theorem BlF.same {B : Nat → Nat} {n hi p f : Nat} (a : BlF B n hi p f) : ∀ f', BlF B n hi p f' → f = f' := by
  refine BlF.ind (C := fun p f => ∀ f', BlF B n hi p f' → f = f') ?_ a
  intro p f x f' b
  rcases x with ⟨v, q, g, e, rfl⟩ | ⟨v, q, g, e, w, -, ih⟩ <;> rcases b.inv with ⟨v', q', g', e', rfl⟩ | ⟨v', q', g', e', w', b'⟩
  · rfl
  · exact absurd (((g.same g').1).symm.trans e) e'
  · exact absurd (((g.same g').1).trans e') e
  · rw [← (g.same g').2 e] at b'
    exact ih _ b'
theorem BlF.no {B : Nat → Nat} {n hi p f : Nat} (a : BlF B n hi p f) : ∀ q, ¬ Bl B n hi p (some q) := by
  refine BlF.ind (C := fun p f => ∀ q, ¬ Bl B n hi p (some q)) ?_ a
  intro p f x r b
  rcases x with ⟨v, q, g, e, rfl⟩ | ⟨v, q, g, e, w, -, ih⟩ <;> rcases b.inv with ⟨v', q', z, g', e'⟩ | ⟨v', q', z, g', e', w'⟩ | ⟨v', q', g', e', w', b'⟩
  · cases z
  · exact absurd (((g.same g').1).symm.trans e) e'
  · exact absurd (((g.same g').1).symm.trans e) e'
  · cases z
  · rw [← (g.same g').2 e] at w'
    exact absurd w w'
  · rw [← (g.same g').2 e] at b'
    exact ih _ b'
section FD
variable {B : Nat → Nat} {n i lo hi : Nat} {K L : Nat → Nat → Prop} {K9 L9 : Nat → Option Nat → Prop} {M : Nat → Nat → Nat → Prop} {M9 : Nat → Nat → Option Nat → Prop}
theorem DF.w (k : DF K) : DF (wF B n i K) := fun p f f' a b => by
  rcases a with ⟨a1, a2⟩ | ⟨a1, a2⟩ <;> rcases b with ⟨b1, b2⟩ | ⟨b1, b2⟩
  · exact k _ _ _ a2 b2
  · exact absurd a1 b1
  · exact absurd b1 a1
  · rw [a2, b2]
theorem DF.o (k : DF K) (l : DF L) : DF (oF B n i K L) := fun p f f' a b => by
  rcases a with ⟨a1, a2⟩ | ⟨a1, a2⟩ <;> rcases b with ⟨b1, b2⟩ | ⟨b1, b2⟩
  · exact k _ _ _ a2 b2
  · exact absurd a1 b1
  · exact absurd b1 a1
  · exact l _ _ _ a2 b2
theorem DF.m (k : ∀ v, DF (M v)) : DF (mF B n lo hi M) := fun p f f' a b => by
  obtain ⟨v, q, g, a⟩ := a
  obtain ⟨v', q', g', b⟩ := b
  obtain ⟨e1, e2⟩ := g.same g'
  subst e1
  rcases a with ⟨a1, a2⟩ | ⟨a1, a2⟩ <;> rcases b with ⟨b1, b2⟩ | ⟨b1, b2⟩
  · rw [a2, b2]
  · exact absurd a1 b1
  · exact absurd b1 a1
  · rw [← e2 a1] at b2
    exact k v _ _ _ a2 b2
theorem DF.e : DF eF := fun _ _ _ a _ => absurd a (fun z => z)
theorem DF.b (k : DF K) : DF (bF B n hi K) := fun p f f' a b => by
  rcases a with a | ⟨q, a1, a2⟩ <;> rcases b with b | ⟨q', b1, b2⟩
  · exact a.same _ b
  · exact absurd b1 (a.no _)
  · exact absurd a1 (b.no _)
  · have e := a1.same _ b1
    injection e with e
    subst e
    exact k _ _ _ a2 b2
theorem XF.w (k : XF K K9) : XF (wF B n i K) (wd9 B n i K9) := fun p f q a b => by
  rcases a with ⟨a1, a2⟩ | ⟨a1, a2⟩ <;> rcases b with ⟨b1, b2⟩ | ⟨b1, b2⟩
  · exact k _ _ _ a2 b2
  · cases b2
  · exact absurd b1 a1
  · cases b2
theorem XF.o (k : XF K K9) (l : XF L L9) : XF (oF B n i K L) (or9 B n i K9 L9) := fun p f q a b => by
  rcases a with ⟨a1, a2⟩ | ⟨a1, a2⟩ <;> rcases b with ⟨b1, b2⟩ | ⟨b1, b2⟩
  · exact k _ _ _ a2 b2
  · exact absurd a1 b1
  · exact absurd b1 a1
  · exact l _ _ _ a2 b2
theorem XF.m (k : ∀ v, XF (M v) (M9 v)) : XF (mF B n lo hi M) (nm9 B n lo hi M9) := fun p f q a b => by
  obtain ⟨v, q1, g, a⟩ := a
  obtain ⟨v', q', g', b⟩ := b
  obtain ⟨e1, e2⟩ := g.same g'
  subst e1
  rcases a with ⟨a1, a2⟩ | ⟨a1, a2⟩ <;> rcases b with ⟨b1, b2⟩ | ⟨b1, b2⟩
  · cases b2
  · exact absurd a1 b1
  · exact absurd b1 a1
  · rw [← e2 a1] at b2
    exact k v _ _ _ a2 b2
theorem XF.e : XF eF K9 := fun _ _ _ a _ => a
theorem XF.b (k : XF K K9) : XF (bF B n hi K) (bl9 B n hi K9) := fun p f q a b => by
  rcases a with a | ⟨q1, a1, a2⟩ <;> rcases b with ⟨b1, b2⟩ | ⟨q', b1, b2⟩
  · cases b2
  · exact absurd b1 (a.no _)
  · cases b2
  · have e := a1.same _ b1
    injection e with e
    subst e
    exact k _ _ _ a2 b2
end FD
section FL
variable (B : Nat → Nat) (n : Nat)
def plF : Nat → Nat → Prop := oF B n 5 (mF B n 2147483648 2147484647 fun _ => eF) eF
def loanF (pe : Nat) : Nat → Nat → Prop := mF B n 2147483648 (pe - 1) fun _ => wF B n 1 (mF B n 2147483648 (pe - 1) fun _ => wF B n 2 (mF B n 2147483648 2147483659 fun _ => wF B n 3 (mF B n 2147483649 2147483660 fun _ => oF B n 4 (plF B n) (plF B n))))
def lateF (l : Nat) : Nat → Nat → Prop := mF B n 2147483648 (l - 1) fun _ => wF B n 18 (mF B n 2147483649 2147483660 fun _ => eF)
def diesF (pe : Nat) : Nat → Nat → Prop := mF B n 2147483648 (pe - 1) fun _ => wF B n 2 (mF B n 2147483648 2147483659 fun _ => eF)
def courtF : Nat → Nat → Prop := wF B n 2 (mF B n 2147483648 2147483659 fun _ => eF)
def letterF (pe : Nat) : Nat → Nat → Prop := mF B n 2147483648 (pe - 1) fun _ => wF B n 2 (mF B n 2147483648 2147483659 fun x => wF B n 7 (mF B n x 2147483659 fun _ => eF))
def deF (pe : Nat) : Nat → Nat → Prop := mF B n 2147483648 (pe - 1) fun _ => wF B n 2 (mF B n 2147483648 2147483659 fun x => wF B n 11 (mF B n x 2147483659 fun _ => wF B n 12 (mF B n 2147483648 2147484647 fun _ => eF)))
def debtF (pe : Nat) : Nat → Nat → Prop := oF B n 9 (deF B n pe) (wF B n 10 (deF B n pe))
def seenF (pe : Nat) : Nat → Nat → Prop := mF B n 2147483648 (pe - 1) fun _ => wF B n 2 (mF B n 2147483648 2147483659 fun x => wF B n 14 (bF B n (pe - 1) (wF B n 16 (mF B n x 2147483659 fun _ => eF))))
def lineF (pe l t d s p f : Nat) : Prop :=
  (Wd B n 0 p ∧ ((2147483668 ≤ l ∧ f = p) ∨ (l < 2147483668 ∧ loanF B n pe (sk B n (p + iv_tl 0)) f))) ∨
  (Wd B n 6 p ∧ ((2147483658 ≤ t ∧ f = p) ∨ (t < 2147483658 ∧ letterF B n pe (sk B n (p + iv_tl 6)) f))) ∨
  (Wd B n 8 p ∧ ((2147483658 ≤ d ∧ f = p) ∨ (d < 2147483658 ∧ debtF B n pe (sk B n (p + iv_tl 8)) f))) ∨
  (Wd B n 13 p ∧ ((2147483658 ≤ s ∧ f = p) ∨ (s < 2147483658 ∧ seenF B n pe (sk B n (p + iv_tl 13)) f))) ∨
  (Wd B n 17 p ∧ lateF B n l (sk B n (p + iv_tl 17)) f) ∨
  (Wd B n 19 p ∧ diesF B n pe (sk B n (p + iv_tl 19)) f) ∨
  (Wd B n 20 p ∧ courtF B n (sk B n (p + iv_tl 20)) f) ∨
  ((¬ Wd B n 0 p ∧ ¬ Wd B n 6 p ∧ ¬ Wd B n 8 p ∧ ¬ Wd B n 13 p ∧ ¬ Wd B n 17 p ∧ ¬ Wd B n 19 p ∧ ¬ Wd B n 20 p) ∧ f = p)
/-- the lines: m more may come -/
def townF (pe : Nat) : Nat → Nat → Nat → Nat → Nat → Nat → Nat → Prop
  | 0, _, _, _, _, p, f => f = p
  | m + 1, l, t, d, s, p, f => lineF B n pe l t d s p f ∨ ∃ q l' t' d' s', line9 B n pe l t d s p (some (q, l', t', d', s')) ∧ ((q < n ∧ ¬ Sg B n 2147483707 q ∧ f = q) ∨ (q < n ∧ Sg B n 2147483707 q ∧ townF pe m l' t' d' s' (sk B n (q + 1)) f))
def TF (pe l t d s f : Nat) : Prop := sk B n 2147483648 < n ∧ townF B n pe 14 l t d s (sk B n 2147483648) f
end FL
section FM
variable {B : Nat → Nat} {n : Nat}
theorem plF_d : DF (plF B n) := DF.o (DF.m fun _ => DF.e) DF.e
theorem loanF_d {pe : Nat} : DF (loanF B n pe) := DF.m fun _ => DF.w (DF.m fun _ => DF.w (DF.m fun _ => DF.w (DF.m fun _ => DF.o plF_d plF_d)))
theorem lateF_d {l : Nat} : DF (lateF B n l) := DF.m fun _ => DF.w (DF.m fun _ => DF.e)
theorem diesF_d {pe : Nat} : DF (diesF B n pe) := DF.m fun _ => DF.w (DF.m fun _ => DF.e)
theorem courtF_d : DF (courtF B n) := DF.w (DF.m fun _ => DF.e)
theorem letterF_d {pe : Nat} : DF (letterF B n pe) := DF.m fun _ => DF.w (DF.m fun _ => DF.w (DF.m fun _ => DF.e))
theorem deF_d {pe : Nat} : DF (deF B n pe) := DF.m fun _ => DF.w (DF.m fun _ => DF.w (DF.m fun _ => DF.w (DF.m fun _ => DF.e)))
theorem debtF_d {pe : Nat} : DF (debtF B n pe) := DF.o deF_d (DF.w deF_d)
theorem seenF_d {pe : Nat} : DF (seenF B n pe) := DF.m fun _ => DF.w (DF.m fun _ => DF.w (DF.b (DF.w (DF.m fun _ => DF.e))))
theorem plF_x : XF (plF B n) (pl9 B n) := XF.o (XF.m fun _ => XF.e) XF.e
theorem loanF_x {pe : Nat} : XF (loanF B n pe) (loan9 B n pe) := XF.m fun _ => XF.w (XF.m fun _ => XF.w (XF.m fun _ => XF.w (XF.m fun _ => XF.o plF_x plF_x)))
theorem lateF_x {l : Nat} : XF (lateF B n l) (late9 B n l) := XF.m fun _ => XF.w (XF.m fun _ => XF.e)
theorem diesF_x {pe : Nat} : XF (diesF B n pe) (dies9 B n pe) := XF.m fun _ => XF.w (XF.m fun _ => XF.e)
theorem courtF_x : XF (courtF B n) (court9 B n) := XF.w (XF.m fun _ => XF.e)
theorem letterF_x {pe : Nat} : XF (letterF B n pe) (letter9 B n pe) := XF.m fun _ => XF.w (XF.m fun _ => XF.w (XF.m fun _ => XF.e))
theorem deF_x {pe : Nat} : XF (deF B n pe) (de9 B n pe) := XF.m fun _ => XF.w (XF.m fun _ => XF.w (XF.m fun _ => XF.w (XF.m fun _ => XF.e)))
theorem debtF_x {pe : Nat} : XF (debtF B n pe) (debt9 B n pe) := XF.o deF_x (XF.w deF_x)
theorem seenF_x {pe : Nat} : XF (seenF B n pe) (seen9 B n pe) := XF.m fun _ => XF.w (XF.m fun _ => XF.w (XF.b (XF.w (XF.m fun _ => XF.e))))
theorem lineF_d {pe l t d s p f f' : Nat} (a : lineF B n pe l t d s p f) (b : lineF B n pe l t d s p f') : f = f' := by
  rcases a with ⟨w, a⟩ | ⟨w, a⟩ | ⟨w, a⟩ | ⟨w, a⟩ | ⟨w, a⟩ | ⟨w, a⟩ | ⟨w, a⟩ | ⟨⟨w1, w2, w3, w4, w5, w6, w7⟩, a⟩ <;>
    rcases b with ⟨y, b⟩ | ⟨y, b⟩ | ⟨y, b⟩ | ⟨y, b⟩ | ⟨y, b⟩ | ⟨y, b⟩ | ⟨y, b⟩ | ⟨⟨y1, y2, y3, y4, y5, y6, y7⟩, b⟩ <;>
    first
    | exact absurd (w.inj (by decide) (by decide) y) (by decide)
    | exact absurd w y1
    | exact absurd w y2
    | exact absurd w y3
    | exact absurd w y4
    | exact absurd w y5
    | exact absurd w y6
    | exact absurd w y7
    | exact absurd y w1
    | exact absurd y w2
    | exact absurd y w3
    | exact absurd y w4
    | exact absurd y w5
    | exact absurd y w6
    | exact absurd y w7
    | exact lateF_d _ _ _ a b
    | exact diesF_d _ _ _ a b
    | exact courtF_d _ _ _ a b
    | (rw [a, b]; done)
    | (rcases a with ⟨a1, a2⟩ | ⟨a1, a2⟩ <;> rcases b with ⟨b1, b2⟩ | ⟨b1, b2⟩ <;> first | omega | exact loanF_d _ _ _ a2 b2 | exact letterF_d _ _ _ a2 b2 | exact debtF_d _ _ _ a2 b2 | exact seenF_d _ _ _ a2 b2)
theorem lineF_x {pe l t d s p f : Nat} {z : Nat × Nat × Nat × Nat × Nat} (a : lineF B n pe l t d s p f) (b : line9 B n pe l t d s p (some z)) : False := by
  have S : ∀ (o : Option Nat) (g : Nat → Nat × Nat × Nat × Nat × Nat) (C : Prop), some z = o.map g → (∀ q, o = some q → C) → C := fun o g C e k => by
    cases o with
    | none => cases e
    | some q => exact k q rfl
  rcases a with ⟨w, a⟩ | ⟨w, a⟩ | ⟨w, a⟩ | ⟨w, a⟩ | ⟨w, a⟩ | ⟨w, a⟩ | ⟨w, a⟩ | ⟨⟨w1, w2, w3, w4, w5, w6, w7⟩, a⟩ <;>
    rcases b with ⟨y, b⟩ | ⟨y, b⟩ | ⟨y, b⟩ | ⟨y, b⟩ | ⟨y, o', b1, b2⟩ | ⟨y, o', b1, b2⟩ | ⟨y, o', b1, b2⟩ | ⟨⟨y1, y2, y3, y4, y5, y6, y7⟩, b⟩ <;>
    first
    | exact absurd (w.inj (by decide) (by decide) y) (by decide)
    | exact absurd w y1
    | exact absurd w y2
    | exact absurd w y3
    | exact absurd w y4
    | exact absurd w y5
    | exact absurd w y6
    | exact absurd w y7
    | exact absurd y w1
    | exact absurd y w2
    | exact absurd y w3
    | exact absurd y w4
    | exact absurd y w5
    | exact absurd y w6
    | exact absurd y w7
    | (cases b; done)
    | exact S _ _ _ b2 (fun q e => lateF_x _ _ _ a (by rw [e] at b1; exact b1))
    | exact S _ _ _ b2 (fun q e => diesF_x _ _ _ a (by rw [e] at b1; exact b1))
    | exact S _ _ _ b2 (fun q e => courtF_x _ _ _ a (by rw [e] at b1; exact b1))
    | (rcases b with ⟨b1, b2⟩ | ⟨b1, o', b2, b3⟩ <;> rcases a with ⟨a1, a2⟩ | ⟨a1, a2⟩ <;> first | omega | (cases b2; done) | exact S _ _ _ b3 (fun q e => loanF_x _ _ _ a2 (by rw [e] at b2; exact b2)) | exact S _ _ _ b3 (fun q e => letterF_x _ _ _ a2 (by rw [e] at b2; exact b2)) | exact S _ _ _ b3 (fun q e => debtF_x _ _ _ a2 (by rw [e] at b2; exact b2)) | exact S _ _ _ b3 (fun q e => seenF_x _ _ _ a2 (by rw [e] at b2; exact b2)))
theorem townF_d {pe : Nat} : ∀ {m l t d s p f f' : Nat}, townF B n pe m l t d s p f → townF B n pe m l t d s p f' → f = f' := by
  intro m
  induction m with
  | zero =>
    intro l t d s p f f' a b
    have a : f = p := a
    have b : f' = p := b
    rw [a, b]
  | succ m ih =>
    intro l t d s p f f' a b
    rcases a with a | ⟨q, l1, t1, d1, s1, k, a⟩ <;> rcases b with b | ⟨q', l2, t2, d2, s2, k', b⟩
    · exact lineF_d a b
    · exact absurd (lineF_x a k') (fun z => z)
    · exact absurd (lineF_x b k) (fun z => z)
    · have e := line9_d k k'
      injection e with e
      injection e with e1 e
      injection e with e2 e
      injection e with e3 e
      injection e with e4 e5
      subst e1 e2 e3 e4 e5
      rcases a with ⟨a0, a1, a2⟩ | ⟨a0, a1, a2⟩ <;> rcases b with ⟨b0, b1, b2⟩ | ⟨b0, b1, b2⟩
      · rw [a2, b2]
      · exact absurd b1 a1
      · exact absurd a1 b1
      · exact ih a2 b2
theorem TF.same {pe l t d s f f' : Nat} (a : TF B n pe l t d s f) (b : TF B n pe l t d s f') : f = f' := townF_d a.2 b.2
end FM
section FU
variable {B : Nat → Nat} {n i lo hi lo1 hi1 p q q' p1 v f f1 : Nat} {K L : Nat → Nat → Prop} {M : Nat → Nat → Nat → Prop}
theorem wF.y (w : Wd B n i p1) (e : p1 = p) (g9 : q = sk B n (p1 + iv_tl i)) (g : q = q') (k : K q' f) : wF B n i K p f := by
  rw [e] at w g9
  rw [← g, g9] at k
  exact Or.inl ⟨w, k⟩
theorem wF.no (w : ¬ Wd B n i p1) (e : p1 = p) (hf : f = p1) : wF B n i K p f := by
  rw [e] at w hf
  exact Or.inr ⟨w, hf⟩
theorem oF.y (w : Wd B n i p1) (e : p1 = p) (g9 : q = sk B n (p1 + iv_tl i)) (g : q = q') (k : K q' f) : oF B n i K L p f := by
  rw [e] at w g9
  rw [← g, g9] at k
  exact Or.inl ⟨w, k⟩
theorem oF.no (w : ¬ Wd B n i p1) (e : p1 = p) (g : q' = p) (k : L q' f) : oF B n i K L p f := by
  rw [e] at w
  rw [g] at k
  exact Or.inr ⟨w, k⟩
theorem mF.y (g9 : Nr B n lo1 hi1 p1 v q) (e1 : lo1 = lo) (e2 : hi1 = hi) (e : p1 = p) (hv : v ≠ 2147483647) (g : q = q') (k : M v q' f) : mF B n lo hi M p f := by
  rw [e1, e2, e, g] at g9
  exact ⟨v, q', g9, Or.inr ⟨hv, k⟩⟩
theorem mF.no (g9 : Nr B n lo1 hi1 p1 v q) (e1 : lo1 = lo) (e2 : hi1 = hi) (e : p1 = p) (hv : v = 2147483647) (hf : f = p1) : mF B n lo hi M p f := by
  rw [e1, e2, e] at g9
  rw [e] at hf
  exact ⟨v, q, g9, Or.inl ⟨hv, hf⟩⟩
theorem bF.no (a : BlF B n hi1 p1 f1) (e2 : hi1 = hi) (e : p1 = p) (hf : f = f1) : bF B n hi K p f := by
  rw [e2, e, ← hf] at a
  exact Or.inl a
theorem bF.y {a : Nat} (g9 : Bl B n hi1 p1 (rs a q)) (e2 : hi1 = hi) (e : p1 = p) (ha : a = 2147483649) (g : q = q') (k : K q' f) : bF B n hi K p f := by
  rw [rs1 ha, e2, e, g] at g9
  exact Or.inr ⟨q', g9, k⟩
/-- what is left of a row of bodies -/
def Bqf (B : Nat → Nat) (n hi p p0 : Nat) : Prop := ∀ f, BlF B n hi p f → BlF B n hi p0 f
variable {p0 p2 q2 : Nat}
theorem Bqf.zero (e : p = p1) : Bqf B n hi p p1 := fun f h => by rw [← e]; exact h
theorem Bqf.no (m : Bqf B n hi p p0) (g9 : Nr B n lo1 hi1 p1 v q) (e1 : lo1 = 2147483648) (e2 : hi1 = hi) (e : p1 = p) (hv : v = 2147483647) (hf : f = p1) : BlF B n hi p0 f := by
  rw [e1, e2, e] at g9
  rw [e] at hf
  exact m _ (BlF.mk (Or.inl ⟨v, q, g9, hv, hf⟩))
theorem Bqf.go (m : Bqf B n hi p p0) (g9 : Nr B n lo1 hi1 p1 v q) (e1 : lo1 = 2147483648) (e2 : hi1 = hi) (e : p1 = p) (hv : v ≠ 2147483647) (w : Wd B n 15 p2) (g : p2 = q) (h : q2 = sk B n (p2 + iv_tl 15)) (hq : q2 = q') : Bqf B n hi q' p0 := by
  rw [e1, e2, e] at g9
  rw [g] at w h
  rw [← hq, h]
  exact fun r z => m _ (BlF.mk (Or.inr ⟨v, q, g9, hv, w, z⟩))
end FU
section FV
variable {B : Nat → Nat} {n pe l t d s p p1 q1 p2 f : Nat}
theorem lF_lend0 (w : Wd B n 0 p1) (e1 : p1 = p) (h : 2147483668 ≤ l) (hf : f = p1) : lineF B n pe l t d s p f := by
  rw [e1] at w hf
  exact Or.inl ⟨w, Or.inl ⟨h, hf⟩⟩
theorem lF_lend (w : Wd B n 0 p1) (e1 : p1 = p) (h : l < 2147483668) (f1 : q1 = sk B n (p1 + iv_tl 0)) (e2 : p2 = q1) (k : loanF B n pe p2 f) : lineF B n pe l t d s p f := by
  rw [e1] at w f1
  rw [e2, f1] at k
  exact Or.inl ⟨w, Or.inr ⟨h, k⟩⟩
theorem lF_letter0 (w : Wd B n 6 p1) (e1 : p1 = p) (h : 2147483658 ≤ t) (hf : f = p1) : lineF B n pe l t d s p f := by
  rw [e1] at w hf
  exact Or.inr (Or.inl ⟨w, Or.inl ⟨h, hf⟩⟩)
theorem lF_letter (w : Wd B n 6 p1) (e1 : p1 = p) (h : t < 2147483658) (f1 : q1 = sk B n (p1 + iv_tl 6)) (e2 : p2 = q1) (k : letterF B n pe p2 f) : lineF B n pe l t d s p f := by
  rw [e1] at w f1
  rw [e2, f1] at k
  exact Or.inr (Or.inl ⟨w, Or.inr ⟨h, k⟩⟩)
theorem lF_debt0 (w : Wd B n 8 p1) (e1 : p1 = p) (h : 2147483658 ≤ d) (hf : f = p1) : lineF B n pe l t d s p f := by
  rw [e1] at w hf
  exact Or.inr (Or.inr (Or.inl ⟨w, Or.inl ⟨h, hf⟩⟩))
theorem lF_debt (w : Wd B n 8 p1) (e1 : p1 = p) (h : d < 2147483658) (f1 : q1 = sk B n (p1 + iv_tl 8)) (e2 : p2 = q1) (k : debtF B n pe p2 f) : lineF B n pe l t d s p f := by
  rw [e1] at w f1
  rw [e2, f1] at k
  exact Or.inr (Or.inr (Or.inl ⟨w, Or.inr ⟨h, k⟩⟩))
theorem lF_seen0 (w : Wd B n 13 p1) (e1 : p1 = p) (h : 2147483658 ≤ s) (hf : f = p1) : lineF B n pe l t d s p f := by
  rw [e1] at w hf
  exact Or.inr (Or.inr (Or.inr (Or.inl ⟨w, Or.inl ⟨h, hf⟩⟩)))
theorem lF_seen (w : Wd B n 13 p1) (e1 : p1 = p) (h : s < 2147483658) (f1 : q1 = sk B n (p1 + iv_tl 13)) (e2 : p2 = q1) (k : seenF B n pe p2 f) : lineF B n pe l t d s p f := by
  rw [e1] at w f1
  rw [e2, f1] at k
  exact Or.inr (Or.inr (Or.inr (Or.inl ⟨w, Or.inr ⟨h, k⟩⟩)))
theorem lF_late (w : Wd B n 17 p1) (e1 : p1 = p) (f1 : q1 = sk B n (p1 + iv_tl 17)) (e2 : p2 = q1) (k : lateF B n l p2 f) : lineF B n pe l t d s p f := by
  rw [e1] at w f1
  rw [e2, f1] at k
  exact Or.inr (Or.inr (Or.inr (Or.inr (Or.inl ⟨w, k⟩))))
theorem lF_dies (w : Wd B n 19 p1) (e1 : p1 = p) (f1 : q1 = sk B n (p1 + iv_tl 19)) (e2 : p2 = q1) (k : diesF B n pe p2 f) : lineF B n pe l t d s p f := by
  rw [e1] at w f1
  rw [e2, f1] at k
  exact Or.inr (Or.inr (Or.inr (Or.inr (Or.inr (Or.inl ⟨w, k⟩)))))
theorem lF_court (w : Wd B n 20 p1) (e1 : p1 = p) (f1 : q1 = sk B n (p1 + iv_tl 20)) (e2 : p2 = q1) (k : courtF B n p2 f) : lineF B n pe l t d s p f := by
  rw [e1] at w f1
  rw [e2, f1] at k
  exact Or.inr (Or.inr (Or.inr (Or.inr (Or.inr (Or.inr (Or.inl ⟨w, k⟩))))))
theorem lF_no (w0 : ¬ Wd B n 0 p) (w6 : ¬ Wd B n 6 p) (w8 : ¬ Wd B n 8 p) (w13 : ¬ Wd B n 13 p) (w17 : ¬ Wd B n 17 p) (w19 : ¬ Wd B n 19 p) (w20 : ¬ Wd B n 20 p) (hf : f = p) : lineF B n pe l t d s p f :=
  Or.inr (Or.inr (Or.inr (Or.inr (Or.inr (Or.inr (Or.inr ⟨⟨w0, w6, w8, w13, w17, w19, w20⟩, hf⟩))))))
theorem lF_pe {pe' l1 t1 d1 s1 : Nat} (k : lineF B n pe l t d s p f) (e : pe = pe') (e1 : l = l1) (e2 : t = t1) (e3 : d = d1) (e4 : s = s1) : lineF B n pe' l1 t1 d1 s1 p f := by
  rw [← e, ← e1, ← e2, ← e3, ← e4]
  exact k
theorem TF.cast {pe' l1 t1 d1 s1 f' : Nat} (k : TF B n pe l t d s f) (e : pe = pe') (e1 : l = l1) (e2 : t = t1) (e3 : d = d1) (e4 : s = s1) (ef : f = f') : TF B n pe' l1 t1 d1 s1 f' := by
  rw [← e, ← e1, ← e2, ← e3, ← e4, ← ef]
  exact k
end FV
/-- what is left of the town's lines -/
def TlF (B : Nat → Nat) (n pe l0 t0 d0 s0 m l t d s p : Nat) : Prop := p ≤ n ∧ ∀ f, townF B n pe m l t d s p f → TF B n pe l0 t0 d0 s0 f
section FT
variable {B : Nat → Nat} {n pe l0 t0 d0 s0 m m' l t d s l' t' d' s' p p1 p2 p3 q q1 x w f : Nat}
theorem TlF.zero (e1 : p = sk B n 2147483648) (h : p < n) (hm : m = 14) : TlF B n pe l t d s m l t d s p := ⟨by omega, fun f z => ⟨by omega, by rw [← e1, ← hm]; exact z⟩⟩
theorem TlF.zeroR (e : w = sk B n 2147483648) (h0 : 2147483648 ≤ n) (h : w ≠ n) (hm : m = 14) : TlF B n pe l t d s m l t d s (sk B n w) := by
  have x := sk_le (B := B) h0
  have y : sk B n w = w := by rw [e, sk_idem]
  exact TlF.zero (y.trans e) (by omega) hm
theorem TlF.full (z : TlF B n pe l0 t0 d0 s0 m l t d s p) (h : m = 0) (hf : f = p) : TF B n pe l0 t0 d0 s0 f := by
  subst h
  exact z.2 _ hf
theorem TlF.no (z : TlF B n pe l0 t0 d0 s0 m l t d s p) (h : 0 < m) (k : lineF B n pe l t d s p1 f) (e1 : p1 = p) : TF B n pe l0 t0 d0 s0 f := by
  rw [e1] at k
  obtain ⟨m, rfl⟩ : ∃ y, m = y + 1 := ⟨m - 1, by omega⟩
  exact z.2 _ (Or.inl k)
theorem TlF.bad (z : TlF B n pe l0 t0 d0 s0 m l t d s p) (h : 0 < m) (k : line9 B n pe l t d s p1 (rs5 x q l' t' d' s')) (e1 : p1 = p) (hx : x = 2147483649) (hn : q ≠ n) (u : ¬ Sg B n 2147483707 p2) (e2 : p2 = q) (hf : f = p2) : TF B n pe l0 t0 d0 s0 f := by
  rw [rs5_1 hx, e1] at k
  rw [e2] at u hf
  have y := line9_le k z.1 _ rfl
  obtain ⟨m, rfl⟩ : ∃ y, m = y + 1 := ⟨m - 1, by omega⟩
  exact z.2 _ (Or.inr ⟨q, l', t', d', s', k, Or.inl ⟨by have y : q ≤ n := y; omega, u, hf⟩⟩)
theorem TlF.go (z : TlF B n pe l0 t0 d0 s0 m l t d s p) (h : m = m' + 1) (k : line9 B n pe l t d s p1 (rs5 x q l' t' d' s')) (e1 : p1 = p) (hx : x = 2147483649) (u : Sg B n 2147483707 p2) (e2 : p2 = q) (e3 : q1 = sk B n (p2 + 1)) (e4 : q1 = p3) : TlF B n pe l0 t0 d0 s0 m' l' t' d' s' p3 := by
  rw [rs5_1 hx, e1] at k
  rw [e2] at u e3
  rw [← e4, e3]
  subst h
  exact ⟨sk_le (by have := u.1; omega), fun r y => z.2 _ (Or.inr ⟨q, l', t', d', s', k, Or.inr ⟨u.1, u, y⟩⟩)⟩
end FT
/-! ===== where a text of the custom is wrong ===== -/
def GFz_R (B : Nat → Nat) (n : Nat) (R : Nat → Nat → Nat → Nat → Prop) (k : Nat) (l : Nat) (p : Nat) (f : Nat) : Prop :=
  (k = Kd.part ∧ f = p ∧ Nb B n p ∧ (∀ i, six i → ¬ Wd B n i p)) ∨
  (∃ t, k = Kd.seq t ∧ R (el t) l p f) ∨
  (∃ t q, k = Kd.seq t ∧ G B n (el t) l p (some q) ∧ R (Kd.lp t) l q f) ∨
  (∃ t, k = Kd.lp t ∧ Cw B n t p ∧ R (el t) l (sk B n (p + cw t)) f) ∨
  (∃ t q, k = Kd.lp t ∧ Cw B n t p ∧ G B n (el t) l (sk B n (p + cw t)) (some q) ∧ R (Kd.lp t) l q f) ∨
  (k = Kd.atom ∧ f = p ∧ Wd B n 24 p ∧ 6 ≤ l) ∨
  (k = Kd.atom ∧ Wd B n 24 p ∧ l < 6 ∧ R Kd.atom (l + 1) (sk B n (p + 3)) f) ∨
  (k = Kd.atom ∧ f = p ∧ Sg B n 2147483688 p ∧ 6 ≤ l) ∨
  (k = Kd.atom ∧ Sg B n 2147483688 p ∧ l < 6 ∧ R (Kd.seq 2) (l + 1) (sk B n (p + 1)) f) ∨
  (k = Kd.atom ∧ Sg B n 2147483688 p ∧ l < 6 ∧ G B n (Kd.seq 2) (l + 1) (sk B n (p + 1)) (some f) ∧ ¬ Sg B n 2147483689 f) ∨
  (k = Kd.atom ∧ An B n p ∧ R (Kd.seq 0) l p f) ∨
  (k = Kd.atom ∧ An B n p ∧ G B n (Kd.seq 0) l p (some f) ∧ ¬ Sg B n 2147483708 f ∧ ¬ Sg B n 2147483710 f) ∨
  (∃ q, k = Kd.atom ∧ An B n p ∧ G B n (Kd.seq 0) l p (some q) ∧ (Sg B n 2147483708 q ∨ Sg B n 2147483710 q) ∧ R (Kd.seq 0) l (sk B n (q + 1)) f) ∨
  (k = Kd.line ∧ f = p ∧ ¬ Wd B n 21 p ∧ ¬ Wd B n 22 p) ∨
  (∃ i, k = Kd.line ∧ (i = 21 ∨ i = 22) ∧ Wd B n i p ∧ Wd B n 23 (sk B n (p + iv_tl i)) ∧ R (Kd.seq 2) 0 (sk B n (sk B n (p + iv_tl i) + 2)) f)
def GFz (B : Nat → Nat) (n : Nat) (k : Nat) (l : Nat) (p : Nat) (f : Nat) : Prop := ∀ R : Nat → Nat → Nat → Nat → Prop, (∀ k l p f, GFz_R B n R k l p f → R k l p f) → R k l p f
theorem GFz_R.mono {B : Nat → Nat} {n : Nat} {R S : Nat → Nat → Nat → Nat → Prop} (h : ∀ k l p f, R k l p f → S k l p f) {k : Nat} {l : Nat} {p : Nat} {f : Nat} (x : GFz_R B n R k l p f) : GFz_R B n S k l p f := by
  rcases x with ⟨e0, e1, a0, a1⟩ | ⟨t, e0, a0⟩ | ⟨t, q, e0, a0, a1⟩ | ⟨t, e0, a0, a1⟩ | ⟨t, q, e0, a0, a1, a2⟩ | ⟨e0, e1, a0, a1⟩ | ⟨e0, a0, a1, a2⟩ | ⟨e0, e1, a0, a1⟩ | ⟨e0, a0, a1, a2⟩ | ⟨e0, a0, a1, a2, a3⟩ | ⟨e0, a0, a1⟩ | ⟨e0, a0, a1, a2, a3⟩ | ⟨q, e0, a0, a1, a2, a3⟩ | ⟨e0, e1, a0, a1⟩ | ⟨i, e0, a0, a1, a2, a3⟩
  · exact (Or.inl ⟨e0, e1, a0, a1⟩)
  · exact (Or.inr (Or.inl ⟨t, e0, h _ _ _ _ a0⟩))
  · exact (Or.inr (Or.inr (Or.inl ⟨t, q, e0, a0, h _ _ _ _ a1⟩)))
  · exact (Or.inr (Or.inr (Or.inr (Or.inl ⟨t, e0, a0, h _ _ _ _ a1⟩))))
  · exact (Or.inr (Or.inr (Or.inr (Or.inr (Or.inl ⟨t, q, e0, a0, a1, h _ _ _ _ a2⟩)))))
  · exact (Or.inr (Or.inr (Or.inr (Or.inr (Or.inr (Or.inl ⟨e0, e1, a0, a1⟩))))))
  · exact (Or.inr (Or.inr (Or.inr (Or.inr (Or.inr (Or.inr (Or.inl ⟨e0, a0, a1, h _ _ _ _ a2⟩)))))))
  · exact (Or.inr (Or.inr (Or.inr (Or.inr (Or.inr (Or.inr (Or.inr (Or.inl ⟨e0, e1, a0, a1⟩))))))))
  · exact (Or.inr (Or.inr (Or.inr (Or.inr (Or.inr (Or.inr (Or.inr (Or.inr (Or.inl ⟨e0, a0, a1, h _ _ _ _ a2⟩)))))))))
  · exact (Or.inr (Or.inr (Or.inr (Or.inr (Or.inr (Or.inr (Or.inr (Or.inr (Or.inr (Or.inl ⟨e0, a0, a1, a2, a3⟩))))))))))
  · exact (Or.inr (Or.inr (Or.inr (Or.inr (Or.inr (Or.inr (Or.inr (Or.inr (Or.inr (Or.inr (Or.inl ⟨e0, a0, h _ _ _ _ a1⟩)))))))))))
  · exact (Or.inr (Or.inr (Or.inr (Or.inr (Or.inr (Or.inr (Or.inr (Or.inr (Or.inr (Or.inr (Or.inr (Or.inl ⟨e0, a0, a1, a2, a3⟩))))))))))))
  · exact (Or.inr (Or.inr (Or.inr (Or.inr (Or.inr (Or.inr (Or.inr (Or.inr (Or.inr (Or.inr (Or.inr (Or.inr (Or.inl ⟨q, e0, a0, a1, a2, h _ _ _ _ a3⟩)))))))))))))
  · exact (Or.inr (Or.inr (Or.inr (Or.inr (Or.inr (Or.inr (Or.inr (Or.inr (Or.inr (Or.inr (Or.inr (Or.inr (Or.inr (Or.inl ⟨e0, e1, a0, a1⟩))))))))))))))
  · exact (Or.inr (Or.inr (Or.inr (Or.inr (Or.inr (Or.inr (Or.inr (Or.inr (Or.inr (Or.inr (Or.inr (Or.inr (Or.inr (Or.inr ⟨i, e0, a0, a1, a2, h _ _ _ _ a3⟩))))))))))))))
theorem GFz.mk {B : Nat → Nat} {n : Nat} {k : Nat} {l : Nat} {p : Nat} {f : Nat} (x : GFz_R B n (GFz B n) k l p f) : GFz B n k l p f := fun R c => c _ _ _ _ (GFz_R.mono (fun _ _ _ _ z => z R c) x)
theorem GFz.inv {B : Nat → Nat} {n : Nat} {k : Nat} {l : Nat} {p : Nat} {f : Nat} (x : GFz B n k l p f) : GFz_R B n (GFz B n) k l p f := x (fun k l p f => GFz_R B n (GFz B n) k l p f) (fun _ _ _ _ z => GFz_R.mono (fun _ _ _ _ y => GFz.mk y) z)
theorem GFz.ind {B : Nat → Nat} {n : Nat} {C : Nat → Nat → Nat → Nat → Prop} (st : ∀ k l p f, GFz_R B n (fun k l p f => GFz B n k l p f ∧ C k l p f) k l p f → C k l p f) {k : Nat} {l : Nat} {p : Nat} {f : Nat} (x : GFz B n k l p f) : C k l p f :=
  (x (fun k l p f => GFz B n k l p f ∧ C k l p f) (fun _ _ _ _ z => ⟨GFz.mk (GFz_R.mono (fun _ _ _ _ y => y.1) z), st _ _ _ _ z⟩)).2
theorem GFz.pno {B : Nat → Nat} {n : Nat} {l : Nat} {p : Nat} (a0 : Nb B n p) (a1 : ∀ i, six i → ¬ Wd B n i p) : GFz B n Kd.part l p p := GFz.mk (Or.inl ⟨rfl, rfl, a0, a1⟩)
theorem GFz.sno {B : Nat → Nat} {n : Nat} {t : Nat} {l : Nat} {p : Nat} {f : Nat} (a0 : GFz B n (el t) l p f) : GFz B n (Kd.seq t) l p f := GFz.mk (Or.inr (Or.inl ⟨t, rfl, a0⟩))
theorem GFz.sgo {B : Nat → Nat} {n : Nat} {t : Nat} {q : Nat} {l : Nat} {p : Nat} {f : Nat} (a0 : G B n (el t) l p (some q)) (a1 : GFz B n (Kd.lp t) l q f) : GFz B n (Kd.seq t) l p f := GFz.mk (Or.inr (Or.inr (Or.inl ⟨t, q, rfl, a0, a1⟩)))
theorem GFz.lno {B : Nat → Nat} {n : Nat} {t : Nat} {l : Nat} {p : Nat} {f : Nat} (a0 : Cw B n t p) (a1 : GFz B n (el t) l (sk B n (p + cw t)) f) : GFz B n (Kd.lp t) l p f := GFz.mk (Or.inr (Or.inr (Or.inr (Or.inl ⟨t, rfl, a0, a1⟩))))
theorem GFz.lgo {B : Nat → Nat} {n : Nat} {t : Nat} {q : Nat} {l : Nat} {p : Nat} {f : Nat} (a0 : Cw B n t p) (a1 : G B n (el t) l (sk B n (p + cw t)) (some q)) (a2 : GFz B n (Kd.lp t) l q f) : GFz B n (Kd.lp t) l p f := GFz.mk (Or.inr (Or.inr (Or.inr (Or.inr (Or.inl ⟨t, q, rfl, a0, a1, a2⟩)))))
theorem GFz.not6 {B : Nat → Nat} {n : Nat} {l : Nat} {p : Nat} (a0 : Wd B n 24 p) (a1 : 6 ≤ l) : GFz B n Kd.atom l p p := GFz.mk (Or.inr (Or.inr (Or.inr (Or.inr (Or.inr (Or.inl ⟨rfl, rfl, a0, a1⟩))))))
theorem GFz.not {B : Nat → Nat} {n : Nat} {l : Nat} {p : Nat} {f : Nat} (a0 : Wd B n 24 p) (a1 : l < 6) (a2 : GFz B n Kd.atom (l + 1) (sk B n (p + 3)) f) : GFz B n Kd.atom l p f := GFz.mk (Or.inr (Or.inr (Or.inr (Or.inr (Or.inr (Or.inr (Or.inl ⟨rfl, a0, a1, a2⟩)))))))
theorem GFz.par6 {B : Nat → Nat} {n : Nat} {l : Nat} {p : Nat} (a0 : Sg B n 2147483688 p) (a1 : 6 ≤ l) : GFz B n Kd.atom l p p := GFz.mk (Or.inr (Or.inr (Or.inr (Or.inr (Or.inr (Or.inr (Or.inr (Or.inl ⟨rfl, rfl, a0, a1⟩))))))))
theorem GFz.par0 {B : Nat → Nat} {n : Nat} {l : Nat} {p : Nat} {f : Nat} (a0 : Sg B n 2147483688 p) (a1 : l < 6) (a2 : GFz B n (Kd.seq 2) (l + 1) (sk B n (p + 1)) f) : GFz B n Kd.atom l p f := GFz.mk (Or.inr (Or.inr (Or.inr (Or.inr (Or.inr (Or.inr (Or.inr (Or.inr (Or.inl ⟨rfl, a0, a1, a2⟩)))))))))
theorem GFz.par1 {B : Nat → Nat} {n : Nat} {l : Nat} {p : Nat} {f : Nat} (a0 : Sg B n 2147483688 p) (a1 : l < 6) (a2 : G B n (Kd.seq 2) (l + 1) (sk B n (p + 1)) (some f)) (a3 : ¬ Sg B n 2147483689 f) : GFz B n Kd.atom l p f := GFz.mk (Or.inr (Or.inr (Or.inr (Or.inr (Or.inr (Or.inr (Or.inr (Or.inr (Or.inr (Or.inl ⟨rfl, a0, a1, a2, a3⟩))))))))))
theorem GFz.c0 {B : Nat → Nat} {n : Nat} {l : Nat} {p : Nat} {f : Nat} (a0 : An B n p) (a1 : GFz B n (Kd.seq 0) l p f) : GFz B n Kd.atom l p f := GFz.mk (Or.inr (Or.inr (Or.inr (Or.inr (Or.inr (Or.inr (Or.inr (Or.inr (Or.inr (Or.inr (Or.inl ⟨rfl, a0, a1⟩)))))))))))
theorem GFz.c1 {B : Nat → Nat} {n : Nat} {l : Nat} {p : Nat} {f : Nat} (a0 : An B n p) (a1 : G B n (Kd.seq 0) l p (some f)) (a2 : ¬ Sg B n 2147483708 f) (a3 : ¬ Sg B n 2147483710 f) : GFz B n Kd.atom l p f := GFz.mk (Or.inr (Or.inr (Or.inr (Or.inr (Or.inr (Or.inr (Or.inr (Or.inr (Or.inr (Or.inr (Or.inr (Or.inl ⟨rfl, a0, a1, a2, a3⟩))))))))))))
theorem GFz.c2 {B : Nat → Nat} {n : Nat} {q : Nat} {l : Nat} {p : Nat} {f : Nat} (a0 : An B n p) (a1 : G B n (Kd.seq 0) l p (some q)) (a2 : Sg B n 2147483708 q ∨ Sg B n 2147483710 q) (a3 : GFz B n (Kd.seq 0) l (sk B n (q + 1)) f) : GFz B n Kd.atom l p f := GFz.mk (Or.inr (Or.inr (Or.inr (Or.inr (Or.inr (Or.inr (Or.inr (Or.inr (Or.inr (Or.inr (Or.inr (Or.inr (Or.inl ⟨q, rfl, a0, a1, a2, a3⟩)))))))))))))
theorem GFz.lnno {B : Nat → Nat} {n : Nat} {l : Nat} {p : Nat} (a0 : ¬ Wd B n 21 p) (a1 : ¬ Wd B n 22 p) : GFz B n Kd.line l p p := GFz.mk (Or.inr (Or.inr (Or.inr (Or.inr (Or.inr (Or.inr (Or.inr (Or.inr (Or.inr (Or.inr (Or.inr (Or.inr (Or.inr (Or.inl ⟨rfl, rfl, a0, a1⟩))))))))))))))
theorem GFz.lnif {B : Nat → Nat} {n : Nat} {i : Nat} {l : Nat} {p : Nat} {f : Nat} (a0 : i = 21 ∨ i = 22) (a1 : Wd B n i p) (a2 : Wd B n 23 (sk B n (p + iv_tl i))) (a3 : GFz B n (Kd.seq 2) 0 (sk B n (sk B n (p + iv_tl i) + 2)) f) : GFz B n Kd.line l p f := GFz.mk (Or.inr (Or.inr (Or.inr (Or.inr (Or.inr (Or.inr (Or.inr (Or.inr (Or.inr (Or.inr (Or.inr (Or.inr (Or.inr (Or.inr ⟨i, rfl, a0, a1, a2, a3⟩))))))))))))))
theorem GFz.inv_part {B : Nat → Nat} {n l p f : Nat} (b : GFz B n Kd.part l p f) : (f = p ∧ Nb B n p ∧ (∀ i, six i → ¬ Wd B n i p)) := by
  rcases b.inv with ⟨e0, e1, a0, a1⟩ | ⟨t, e0, a0⟩ | ⟨t, q, e0, a0, a1⟩ | ⟨t, e0, a0, a1⟩ | ⟨t, q, e0, a0, a1, a2⟩ | ⟨e0, e1, a0, a1⟩ | ⟨e0, a0, a1, a2⟩ | ⟨e0, e1, a0, a1⟩ | ⟨e0, a0, a1, a2⟩ | ⟨e0, a0, a1, a2, a3⟩ | ⟨e0, a0, a1⟩ | ⟨e0, a0, a1, a2, a3⟩ | ⟨q, e0, a0, a1, a2, a3⟩ | ⟨e0, e1, a0, a1⟩ | ⟨i, e0, a0, a1, a2, a3⟩
  · exact ⟨e1, a0, a1⟩
  · exact absurd e0 (by show ¬ (0 = 10 + 2 * t); omega)
  · exact absurd e0 (by show ¬ (0 = 10 + 2 * t); omega)
  · exact absurd e0 (by show ¬ (0 = 11 + 2 * t); omega)
  · exact absurd e0 (by show ¬ (0 = 11 + 2 * t); omega)
  · exact absurd e0 (by show ¬ (0 = 1); omega)
  · exact absurd e0 (by show ¬ (0 = 1); omega)
  · exact absurd e0 (by show ¬ (0 = 1); omega)
  · exact absurd e0 (by show ¬ (0 = 1); omega)
  · exact absurd e0 (by show ¬ (0 = 1); omega)
  · exact absurd e0 (by show ¬ (0 = 1); omega)
  · exact absurd e0 (by show ¬ (0 = 1); omega)
  · exact absurd e0 (by show ¬ (0 = 1); omega)
  · exact absurd e0 (by show ¬ (0 = 2); omega)
  · exact absurd e0 (by show ¬ (0 = 2); omega)
theorem GFz.inv_seq {B : Nat → Nat} {n s l p f : Nat} (b : GFz B n (Kd.seq s) l p f) : (GFz B n (el s) l p f) ∨ (∃ q, G B n (el s) l p (some q) ∧ GFz B n (Kd.lp s) l q f) := by
  rcases b.inv with ⟨e0, e1, a0, a1⟩ | ⟨t, e0, a0⟩ | ⟨t, q, e0, a0, a1⟩ | ⟨t, e0, a0, a1⟩ | ⟨t, q, e0, a0, a1, a2⟩ | ⟨e0, e1, a0, a1⟩ | ⟨e0, a0, a1, a2⟩ | ⟨e0, e1, a0, a1⟩ | ⟨e0, a0, a1, a2⟩ | ⟨e0, a0, a1, a2, a3⟩ | ⟨e0, a0, a1⟩ | ⟨e0, a0, a1, a2, a3⟩ | ⟨q, e0, a0, a1, a2, a3⟩ | ⟨e0, e1, a0, a1⟩ | ⟨i, e0, a0, a1, a2, a3⟩
  · exact absurd e0 (by show ¬ (10 + 2 * s = 0); omega)
  · have z : t = s := by have y : 10 + 2 * s = 10 + 2 * t := e0; omega
    subst z
    exact Or.inl a0
  · have z : t = s := by have y : 10 + 2 * s = 10 + 2 * t := e0; omega
    subst z
    exact Or.inr (⟨q, a0, a1⟩)
  · exact absurd e0 (by show ¬ (10 + 2 * s = 11 + 2 * t); omega)
  · exact absurd e0 (by show ¬ (10 + 2 * s = 11 + 2 * t); omega)
  · exact absurd e0 (by show ¬ (10 + 2 * s = 1); omega)
  · exact absurd e0 (by show ¬ (10 + 2 * s = 1); omega)
  · exact absurd e0 (by show ¬ (10 + 2 * s = 1); omega)
  · exact absurd e0 (by show ¬ (10 + 2 * s = 1); omega)
  · exact absurd e0 (by show ¬ (10 + 2 * s = 1); omega)
  · exact absurd e0 (by show ¬ (10 + 2 * s = 1); omega)
  · exact absurd e0 (by show ¬ (10 + 2 * s = 1); omega)
  · exact absurd e0 (by show ¬ (10 + 2 * s = 1); omega)
  · exact absurd e0 (by show ¬ (10 + 2 * s = 2); omega)
  · exact absurd e0 (by show ¬ (10 + 2 * s = 2); omega)
theorem GFz.inv_lp {B : Nat → Nat} {n s l p f : Nat} (b : GFz B n (Kd.lp s) l p f) : (Cw B n s p ∧ GFz B n (el s) l (sk B n (p + cw s)) f) ∨ (∃ q, Cw B n s p ∧ G B n (el s) l (sk B n (p + cw s)) (some q) ∧ GFz B n (Kd.lp s) l q f) := by
  rcases b.inv with ⟨e0, e1, a0, a1⟩ | ⟨t, e0, a0⟩ | ⟨t, q, e0, a0, a1⟩ | ⟨t, e0, a0, a1⟩ | ⟨t, q, e0, a0, a1, a2⟩ | ⟨e0, e1, a0, a1⟩ | ⟨e0, a0, a1, a2⟩ | ⟨e0, e1, a0, a1⟩ | ⟨e0, a0, a1, a2⟩ | ⟨e0, a0, a1, a2, a3⟩ | ⟨e0, a0, a1⟩ | ⟨e0, a0, a1, a2, a3⟩ | ⟨q, e0, a0, a1, a2, a3⟩ | ⟨e0, e1, a0, a1⟩ | ⟨i, e0, a0, a1, a2, a3⟩
  · exact absurd e0 (by show ¬ (11 + 2 * s = 0); omega)
  · exact absurd e0 (by show ¬ (11 + 2 * s = 10 + 2 * t); omega)
  · exact absurd e0 (by show ¬ (11 + 2 * s = 10 + 2 * t); omega)
  · have z : t = s := by have y : 11 + 2 * s = 11 + 2 * t := e0; omega
    subst z
    exact Or.inl ⟨a0, a1⟩
  · have z : t = s := by have y : 11 + 2 * s = 11 + 2 * t := e0; omega
    subst z
    exact Or.inr (⟨q, a0, a1, a2⟩)
  · exact absurd e0 (by show ¬ (11 + 2 * s = 1); omega)
  · exact absurd e0 (by show ¬ (11 + 2 * s = 1); omega)
  · exact absurd e0 (by show ¬ (11 + 2 * s = 1); omega)
  · exact absurd e0 (by show ¬ (11 + 2 * s = 1); omega)
  · exact absurd e0 (by show ¬ (11 + 2 * s = 1); omega)
  · exact absurd e0 (by show ¬ (11 + 2 * s = 1); omega)
  · exact absurd e0 (by show ¬ (11 + 2 * s = 1); omega)
  · exact absurd e0 (by show ¬ (11 + 2 * s = 1); omega)
  · exact absurd e0 (by show ¬ (11 + 2 * s = 2); omega)
  · exact absurd e0 (by show ¬ (11 + 2 * s = 2); omega)
theorem GFz.inv_atom {B : Nat → Nat} {n l p f : Nat} (b : GFz B n Kd.atom l p f) : (f = p ∧ Wd B n 24 p ∧ 6 ≤ l) ∨ (Wd B n 24 p ∧ l < 6 ∧ GFz B n Kd.atom (l + 1) (sk B n (p + 3)) f) ∨ (f = p ∧ Sg B n 2147483688 p ∧ 6 ≤ l) ∨ (Sg B n 2147483688 p ∧ l < 6 ∧ GFz B n (Kd.seq 2) (l + 1) (sk B n (p + 1)) f) ∨ (Sg B n 2147483688 p ∧ l < 6 ∧ G B n (Kd.seq 2) (l + 1) (sk B n (p + 1)) (some f) ∧ ¬ Sg B n 2147483689 f) ∨ (An B n p ∧ GFz B n (Kd.seq 0) l p f) ∨ (An B n p ∧ G B n (Kd.seq 0) l p (some f) ∧ ¬ Sg B n 2147483708 f ∧ ¬ Sg B n 2147483710 f) ∨ (∃ q, An B n p ∧ G B n (Kd.seq 0) l p (some q) ∧ (Sg B n 2147483708 q ∨ Sg B n 2147483710 q) ∧ GFz B n (Kd.seq 0) l (sk B n (q + 1)) f) := by
  rcases b.inv with ⟨e0, e1, a0, a1⟩ | ⟨t, e0, a0⟩ | ⟨t, q, e0, a0, a1⟩ | ⟨t, e0, a0, a1⟩ | ⟨t, q, e0, a0, a1, a2⟩ | ⟨e0, e1, a0, a1⟩ | ⟨e0, a0, a1, a2⟩ | ⟨e0, e1, a0, a1⟩ | ⟨e0, a0, a1, a2⟩ | ⟨e0, a0, a1, a2, a3⟩ | ⟨e0, a0, a1⟩ | ⟨e0, a0, a1, a2, a3⟩ | ⟨q, e0, a0, a1, a2, a3⟩ | ⟨e0, e1, a0, a1⟩ | ⟨i, e0, a0, a1, a2, a3⟩
  · exact absurd e0 (by show ¬ (1 = 0); omega)
  · exact absurd e0 (by show ¬ (1 = 10 + 2 * t); omega)
  · exact absurd e0 (by show ¬ (1 = 10 + 2 * t); omega)
  · exact absurd e0 (by show ¬ (1 = 11 + 2 * t); omega)
  · exact absurd e0 (by show ¬ (1 = 11 + 2 * t); omega)
  · exact Or.inl ⟨e1, a0, a1⟩
  · exact Or.inr (Or.inl ⟨a0, a1, a2⟩)
  · exact Or.inr (Or.inr (Or.inl ⟨e1, a0, a1⟩))
  · exact Or.inr (Or.inr (Or.inr (Or.inl ⟨a0, a1, a2⟩)))
  · exact Or.inr (Or.inr (Or.inr (Or.inr (Or.inl ⟨a0, a1, a2, a3⟩))))
  · exact Or.inr (Or.inr (Or.inr (Or.inr (Or.inr (Or.inl ⟨a0, a1⟩)))))
  · exact Or.inr (Or.inr (Or.inr (Or.inr (Or.inr (Or.inr (Or.inl ⟨a0, a1, a2, a3⟩))))))
  · exact Or.inr (Or.inr (Or.inr (Or.inr (Or.inr (Or.inr (Or.inr (⟨q, a0, a1, a2, a3⟩)))))))
  · exact absurd e0 (by show ¬ (1 = 2); omega)
  · exact absurd e0 (by show ¬ (1 = 2); omega)
theorem GFz.inv_line {B : Nat → Nat} {n l p f : Nat} (b : GFz B n Kd.line l p f) : (f = p ∧ ¬ Wd B n 21 p ∧ ¬ Wd B n 22 p) ∨ (∃ i, (i = 21 ∨ i = 22) ∧ Wd B n i p ∧ Wd B n 23 (sk B n (p + iv_tl i)) ∧ GFz B n (Kd.seq 2) 0 (sk B n (sk B n (p + iv_tl i) + 2)) f) := by
  rcases b.inv with ⟨e0, e1, a0, a1⟩ | ⟨t, e0, a0⟩ | ⟨t, q, e0, a0, a1⟩ | ⟨t, e0, a0, a1⟩ | ⟨t, q, e0, a0, a1, a2⟩ | ⟨e0, e1, a0, a1⟩ | ⟨e0, a0, a1, a2⟩ | ⟨e0, e1, a0, a1⟩ | ⟨e0, a0, a1, a2⟩ | ⟨e0, a0, a1, a2, a3⟩ | ⟨e0, a0, a1⟩ | ⟨e0, a0, a1, a2, a3⟩ | ⟨q, e0, a0, a1, a2, a3⟩ | ⟨e0, e1, a0, a1⟩ | ⟨i, e0, a0, a1, a2, a3⟩
  · exact absurd e0 (by show ¬ (2 = 0); omega)
  · exact absurd e0 (by show ¬ (2 = 10 + 2 * t); omega)
  · exact absurd e0 (by show ¬ (2 = 10 + 2 * t); omega)
  · exact absurd e0 (by show ¬ (2 = 11 + 2 * t); omega)
  · exact absurd e0 (by show ¬ (2 = 11 + 2 * t); omega)
  · exact absurd e0 (by show ¬ (2 = 1); omega)
  · exact absurd e0 (by show ¬ (2 = 1); omega)
  · exact absurd e0 (by show ¬ (2 = 1); omega)
  · exact absurd e0 (by show ¬ (2 = 1); omega)
  · exact absurd e0 (by show ¬ (2 = 1); omega)
  · exact absurd e0 (by show ¬ (2 = 1); omega)
  · exact absurd e0 (by show ¬ (2 = 1); omega)
  · exact absurd e0 (by show ¬ (2 = 1); omega)
  · exact Or.inl ⟨e1, a0, a1⟩
  · exact Or.inr (⟨i, a0, a1, a2, a3⟩)
theorem GFz.gno {B : Nat → Nat} {n k l p f : Nat} (a : GFz B n k l p f) : G B n k l p none := by
  refine GFz.ind (C := fun k l p _ => G B n k l p none) ?_ a
  intro k l p f x
  rcases x with ⟨rfl, rfl, h, h2⟩ | ⟨t, rfl, h, ih⟩ | ⟨t, q, rfl, h, h2, ih⟩ | ⟨t, rfl, w, h, ih⟩ | ⟨t, q, rfl, w, h, h2, ih⟩ | ⟨rfl, rfl, w, hl⟩ | ⟨rfl, w, hl, h, ih⟩ | ⟨rfl, rfl, w, hl⟩ | ⟨rfl, w, hl, h, ih⟩ | ⟨rfl, w, hl, h, h2⟩ | ⟨rfl, w, h, ih⟩ | ⟨rfl, w, h, u1, u2⟩ | ⟨q, rfl, w, h, u, h2, ih⟩ | ⟨rfl, rfl, h1, h2⟩ | ⟨i, rfl, s, w, w2, h, ih⟩
  · exact G.pno h h2
  · exact G.sno ih
  · exact G.sgo h ih
  · exact G.lno w ih
  · exact G.lgo w h ih
  · exact G.not6 w hl
  · exact G.not w hl ih
  · exact G.par6 w hl
  · exact G.par0 w hl ih
  · exact G.par1 w hl h h2
  · exact G.c0 w ih
  · exact G.c1 w h u1 u2
  · exact G.c2 w h u ih
  · exact G.lnno h1 h2
  · exact G.lnif s w w2 ih
theorem GFz.nso {B : Nat → Nat} {n k l p f q : Nat} (a : GFz B n k l p f) (b : G B n k l p (some q)) : False := by
  have e := a.gno.same _ b
  cases e
theorem Gq {B : Nat → Nat} {n k l p q q' : Nat} (a : G B n k l p (some q)) (b : G B n k l p (some q')) : q = q' := by
  have e := a.same _ b
  injection e with e
theorem ax01 {B : Nat → Nat} {n p : Nat} (a : Wd B n 24 p) (b : Sg B n 2147483688 p) : False := absurd (Ak.same (k := 0) (m := 1) (Or.inl ⟨rfl, a⟩) (Or.inr (Or.inl ⟨rfl, b⟩))) (by decide)
theorem GFz.same {B : Nat → Nat} {n k l p f : Nat} (a : GFz B n k l p f) : ∀ f', GFz B n k l p f' → f = f' := by
  refine GFz.ind (C := fun k l p f => ∀ f', GFz B n k l p f' → f = f') ?_ a
  intro k l p f x
  rcases x with ⟨rfl, rfl, h, h2⟩ | ⟨t, rfl, h, ih⟩ | ⟨t, q, rfl, h, h2, ih⟩ | ⟨t, rfl, w, h, ih⟩ | ⟨t, q, rfl, w, h, h2, ih⟩ | ⟨rfl, rfl, w, hl⟩ | ⟨rfl, w, hl, h, ih⟩ | ⟨rfl, rfl, w, hl⟩ | ⟨rfl, w, hl, h, ih⟩ | ⟨rfl, w, hl, h, h2⟩ | ⟨rfl, w, h, ih⟩ | ⟨rfl, w, h, u1, u2⟩ | ⟨q, rfl, w, h, u, h2, ih⟩ | ⟨rfl, rfl, h1, h2⟩ | ⟨i, rfl, s, w, w2, h, ih⟩
  · intro f' b
    rcases b.inv_part with ⟨e, _, _⟩
    · exact e.symm
  · intro f' b
    rcases b.inv_seq with g | ⟨q, g, g2⟩
    · exact ih _ g
    · exact (h.nso g).elim
  · intro f' b
    rcases b.inv_seq with g | ⟨q', g, g2⟩
    · exact (g.nso h).elim
    · have e := Gq h g; subst e; exact ih _ g2
  · intro f' b
    rcases b.inv_lp with ⟨_, g⟩ | ⟨q, _, g, g2⟩
    · exact ih _ g
    · exact (h.nso g).elim
  · intro f' b
    rcases b.inv_lp with ⟨_, g⟩ | ⟨q', _, g, g2⟩
    · exact (g.nso h).elim
    · have e := Gq h g; subst e; exact ih _ g2
  · intro f' b
    rcases b.inv_atom with ⟨e, g, gl⟩ | ⟨g, gl, g2⟩ | ⟨e, g, gl⟩ | ⟨g, gl, g2⟩ | ⟨g, gl, g2, g3⟩ | ⟨g, g2⟩ | ⟨g, g2, g3, g4⟩ | ⟨q', g, g2, g3, g4⟩
    · exact e.symm
    · omega
    · exact (ax01 w g).elim
    · exact (ax01 w g).elim
    · exact (ax01 w g).elim
    · exact absurd w g.1
    · exact absurd w g.1
    · exact absurd w g.1
  · intro f' b
    rcases b.inv_atom with ⟨e, g, gl⟩ | ⟨g, gl, g2⟩ | ⟨e, g, gl⟩ | ⟨g, gl, g2⟩ | ⟨g, gl, g2, g3⟩ | ⟨g, g2⟩ | ⟨g, g2, g3, g4⟩ | ⟨q', g, g2, g3, g4⟩
    · omega
    · exact ih _ g2
    · exact (ax01 w g).elim
    · exact (ax01 w g).elim
    · exact (ax01 w g).elim
    · exact absurd w g.1
    · exact absurd w g.1
    · exact absurd w g.1
  · intro f' b
    rcases b.inv_atom with ⟨e, g, gl⟩ | ⟨g, gl, g2⟩ | ⟨e, g, gl⟩ | ⟨g, gl, g2⟩ | ⟨g, gl, g2, g3⟩ | ⟨g, g2⟩ | ⟨g, g2, g3, g4⟩ | ⟨q', g, g2, g3, g4⟩
    · exact (ax01 g w).elim
    · exact (ax01 g w).elim
    · exact e.symm
    · omega
    · omega
    · exact absurd w g.2.1
    · exact absurd w g.2.1
    · exact absurd w g.2.1
  · intro f' b
    rcases b.inv_atom with ⟨e, g, gl⟩ | ⟨g, gl, g2⟩ | ⟨e, g, gl⟩ | ⟨g, gl, g2⟩ | ⟨g, gl, g2, g3⟩ | ⟨g, g2⟩ | ⟨g, g2, g3, g4⟩ | ⟨q', g, g2, g3, g4⟩
    · exact (ax01 g w).elim
    · exact (ax01 g w).elim
    · omega
    · exact ih _ g2
    · exact (h.nso g2).elim
    · exact absurd w g.2.1
    · exact absurd w g.2.1
    · exact absurd w g.2.1
  · intro f' b
    rcases b.inv_atom with ⟨e, g, gl⟩ | ⟨g, gl, g2⟩ | ⟨e, g, gl⟩ | ⟨g, gl, g2⟩ | ⟨g, gl, g2, g3⟩ | ⟨g, g2⟩ | ⟨g, g2, g3, g4⟩ | ⟨q', g, g2, g3, g4⟩
    · exact (ax01 g w).elim
    · exact (ax01 g w).elim
    · omega
    · exact (g2.nso h).elim
    · exact Gq h g2
    · exact absurd w g.2.1
    · exact absurd w g.2.1
    · exact absurd w g.2.1
  · intro f' b
    rcases b.inv_atom with ⟨e, g, gl⟩ | ⟨g, gl, g2⟩ | ⟨e, g, gl⟩ | ⟨g, gl, g2⟩ | ⟨g, gl, g2, g3⟩ | ⟨g, g2⟩ | ⟨g, g2, g3, g4⟩ | ⟨q', g, g2, g3, g4⟩
    · exact absurd g w.1
    · exact absurd g w.1
    · exact absurd g w.2.1
    · exact absurd g w.2.1
    · exact absurd g w.2.1
    · exact ih _ g2
    · exact (h.nso g2).elim
    · exact (h.nso g2).elim
  · intro f' b
    rcases b.inv_atom with ⟨e, g, gl⟩ | ⟨g, gl, g2⟩ | ⟨e, g, gl⟩ | ⟨g, gl, g2⟩ | ⟨g, gl, g2, g3⟩ | ⟨g, g2⟩ | ⟨g, g2, g3, g4⟩ | ⟨q', g, g2, g3, g4⟩
    · exact absurd g w.1
    · exact absurd g w.1
    · exact absurd g w.2.1
    · exact absurd g w.2.1
    · exact absurd g w.2.1
    · exact (g2.nso h).elim
    · exact Gq h g2
    · have e := Gq h g2; subst e; exact g3.elim (fun z => absurd z u1) (fun z => absurd z u2)
  · intro f' b
    rcases b.inv_atom with ⟨e, g, gl⟩ | ⟨g, gl, g2⟩ | ⟨e, g, gl⟩ | ⟨g, gl, g2⟩ | ⟨g, gl, g2, g3⟩ | ⟨g, g2⟩ | ⟨g, g2, g3, g4⟩ | ⟨q', g, g2, g3, g4⟩
    · exact absurd g w.1
    · exact absurd g w.1
    · exact absurd g w.2.1
    · exact absurd g w.2.1
    · exact absurd g w.2.1
    · exact (g2.nso h).elim
    · have e := Gq h g2; subst e; exact u.elim (fun z => absurd z g3) (fun z => absurd z g4)
    · have e := Gq h g2; subst e; exact ih _ g4
  · intro f' b
    rcases b.inv_line with ⟨e, _, _⟩ | ⟨i, s, g, _, _⟩
    · exact e.symm
    · exact s.elim (fun z => absurd (z ▸ g) h1) (fun z => absurd (z ▸ g) h2)
  · intro f' b
    rcases b.inv_line with ⟨_, n1, n2⟩ | ⟨i', s', g, g2, g3⟩
    · exact s.elim (fun z => absurd (z ▸ w) n1) (fun z => absurd (z ▸ w) n2)
    · have e := wd_ln s s' w g; subst e; exact ih _ g3
/-- the lines: c is how many were read -/
def LsF_R (B : Nat → Nat) (n : Nat) (R : Nat → Nat → Nat → Prop) (c : Nat) (p : Nat) (f : Nat) : Prop :=
  (f = p ∧ 2147483658 ≤ c) ∨
  (c < 2147483658 ∧ GFz B n Kd.line 0 p f) ∨
  (c < 2147483658 ∧ G B n Kd.line 0 p (some f) ∧ f < n ∧ ¬ Sg B n 2147483707 f) ∨
  (∃ q, c < 2147483658 ∧ G B n Kd.line 0 p (some q) ∧ Sg B n 2147483707 q ∧ R (c + 1) (sk B n (q + 1)) f)
def LsF (B : Nat → Nat) (n : Nat) (c : Nat) (p : Nat) (f : Nat) : Prop := ∀ R : Nat → Nat → Nat → Prop, (∀ c p f, LsF_R B n R c p f → R c p f) → R c p f
theorem LsF_R.mono {B : Nat → Nat} {n : Nat} {R S : Nat → Nat → Nat → Prop} (h : ∀ c p f, R c p f → S c p f) {c : Nat} {p : Nat} {f : Nat} (x : LsF_R B n R c p f) : LsF_R B n S c p f := by
  rcases x with ⟨e0, a0⟩ | ⟨a0, a1⟩ | ⟨a0, a1, a2, a3⟩ | ⟨q, a0, a1, a2, a3⟩
  · exact (Or.inl ⟨e0, a0⟩)
  · exact (Or.inr (Or.inl ⟨a0, a1⟩))
  · exact (Or.inr (Or.inr (Or.inl ⟨a0, a1, a2, a3⟩)))
  · exact (Or.inr (Or.inr (Or.inr ⟨q, a0, a1, a2, h _ _ _ a3⟩)))
theorem LsF.mk {B : Nat → Nat} {n : Nat} {c : Nat} {p : Nat} {f : Nat} (x : LsF_R B n (LsF B n) c p f) : LsF B n c p f := fun R c => c _ _ _ (LsF_R.mono (fun _ _ _ z => z R c) x)
theorem LsF.inv {B : Nat → Nat} {n : Nat} {c : Nat} {p : Nat} {f : Nat} (x : LsF B n c p f) : LsF_R B n (LsF B n) c p f := x (fun c p f => LsF_R B n (LsF B n) c p f) (fun _ _ _ z => LsF_R.mono (fun _ _ _ y => LsF.mk y) z)
theorem LsF.ind {B : Nat → Nat} {n : Nat} {C : Nat → Nat → Nat → Prop} (st : ∀ c p f, LsF_R B n (fun c p f => LsF B n c p f ∧ C c p f) c p f → C c p f) {c : Nat} {p : Nat} {f : Nat} (x : LsF B n c p f) : C c p f :=
  (x (fun c p f => LsF B n c p f ∧ C c p f) (fun _ _ _ z => ⟨LsF.mk (LsF_R.mono (fun _ _ _ y => y.1) z), st _ _ _ z⟩)).2
theorem LsF.full {B : Nat → Nat} {n : Nat} {c : Nat} {p : Nat} (a0 : 2147483658 ≤ c) : LsF B n c p p := LsF.mk (Or.inl ⟨rfl, a0⟩)
theorem LsF.no {B : Nat → Nat} {n : Nat} {c : Nat} {p : Nat} {f : Nat} (a0 : c < 2147483658) (a1 : GFz B n Kd.line 0 p f) : LsF B n c p f := LsF.mk (Or.inr (Or.inl ⟨a0, a1⟩))
theorem LsF.bad {B : Nat → Nat} {n : Nat} {c : Nat} {p : Nat} {f : Nat} (a0 : c < 2147483658) (a1 : G B n Kd.line 0 p (some f)) (a2 : f < n) (a3 : ¬ Sg B n 2147483707 f) : LsF B n c p f := LsF.mk (Or.inr (Or.inr (Or.inl ⟨a0, a1, a2, a3⟩)))
theorem LsF.go {B : Nat → Nat} {n : Nat} {q : Nat} {c : Nat} {p : Nat} {f : Nat} (a0 : c < 2147483658) (a1 : G B n Kd.line 0 p (some q)) (a2 : Sg B n 2147483707 q) (a3 : LsF B n (c + 1) (sk B n (q + 1)) f) : LsF B n c p f := LsF.mk (Or.inr (Or.inr (Or.inr ⟨q, a0, a1, a2, a3⟩)))
theorem LsF.same {B : Nat → Nat} {n c p f : Nat} (a : LsF B n c p f) : ∀ f', LsF B n c p f' → f = f' := by
  refine LsF.ind (C := fun c p f => ∀ f', LsF B n c p f' → f = f') ?_ a
  intro c p f x
  rcases x with ⟨rfl, h⟩ | ⟨h, h2⟩ | ⟨h, h2, h3, h4⟩ | ⟨q, h, h2, h3, _, ih⟩
  · intro f' b
    rcases b.inv with ⟨e, _⟩ | ⟨g, _⟩ | ⟨g, _, _, _⟩ | ⟨q, g, _, _, _⟩
    · exact e.symm
    · omega
    · omega
    · omega
  · intro f' b
    rcases b.inv with ⟨e, g⟩ | ⟨_, g⟩ | ⟨_, g, _, _⟩ | ⟨q, _, g, _, _⟩
    · omega
    · exact h2.same _ g
    · exact (h2.nso g).elim
    · exact (h2.nso g).elim
  · intro f' b
    rcases b.inv with ⟨e, g⟩ | ⟨_, g⟩ | ⟨_, g, _, _⟩ | ⟨q, _, g, g2, _⟩
    · omega
    · exact (g.nso h2).elim
    · exact Gq h2 g
    · have e := Gq h2 g; subst e; exact absurd g2 h4
  · intro f' b
    rcases b.inv with ⟨e, g⟩ | ⟨_, g⟩ | ⟨_, g, _, g2⟩ | ⟨q', _, g, _, g2⟩
    · omega
    · exact (g.nso h2).elim
    · have e := Gq h2 g; subst e; exact absurd h3 g2
    · have e := Gq h2 g; subst e; exact ih _ g2
def CuF (B : Nat → Nat) (n f : Nat) : Prop := sk B n 2147483648 < n ∧ LsF B n 2147483648 (sk B n 2147483648) f
theorem CuF.same {B : Nat → Nat} {n f f' : Nat} (a : CuF B n f) (b : CuF B n f') : f = f' := a.2.same _ b.2
def ResF (B : Nat → Nat) (n : Nat) (k : Nat) (l p : Nat) (k0 : Nat) (l0 p0 : Nat) : Prop := ∀ f, GFz B n k l p f → GFz B n k0 l0 p0 f
/-- what is left of the custom's lines -/
def LqF (B : Nat → Nat) (n c p : Nat) : Prop := p ≤ n ∧ ∀ f, LsF B n c p f → CuF B n f
section GSF
variable {B : Nat → Nat} {n l p q q' p1 p2 p3 q1 q2 a i t f f1 w c c' : Nat}
theorem fP_no (hn : Nb B n p) (w1 : ¬ Wd B n 2 p) (w2 : ¬ Wd B n 27 p) (w3 : ¬ Wd B n 5 p) (w4 : ¬ Wd B n 28 p) (w5 : ¬ Wd B n 29 p) (w6 : ¬ Wd B n 30 p) (hf : f = p) : GFz B n Kd.part l p f := by
  rw [hf]
  refine GFz.pno hn (fun i s => ?_)
  rcases s with rfl | rfl | rfl | rfl | rfl | rfl
  · exact w1
  · exact w2
  · exact w3
  · exact w4
  · exact w5
  · exact w6
theorem fP_nol (hn : Nb B n p) (w : ¬ Ltr B n p) (hf : f = p) : GFz B n Kd.part l p f := by
  rw [hf]
  exact GFz.pno hn (fun i s => no_wd (six_lt s) w)
theorem fQ_no (g : GFz B n (el t) l p1 f1) (e : p1 = p) (hf : f = f1) : GFz B n (Kd.seq t) l p f := by
  rw [e] at g
  rw [hf]
  exact GFz.sno g
theorem fQ_in (g : G B n (el t) l p1 (rs a q)) (e : p1 = p) (ha : a = 2147483649) (hq : q = q') : ResF B n (Kd.lp t) l q' (Kd.seq t) l p := by
  rw [rs1 ha, e, hq] at g
  exact fun f h => GFz.sgo g h
theorem fQ_st (m : ResF B n (Kd.lp t) l p1 (Kd.seq t) l p) (w : Cw B n t p2) (e1 : p2 = p1) (e2 : q1 = sk B n (p2 + cw t)) (g : G B n (el t) l p3 (rs a q2)) (e3 : p3 = q1) (ha : a = 2147483649) (hq : q2 = q') : ResF B n (Kd.lp t) l q' (Kd.seq t) l p := by
  rw [rs1 ha, e3, e2, e1, hq] at g
  rw [e1] at w
  exact fun f h => m f (GFz.lgo w g h)
theorem fQ_f (m : ResF B n (Kd.lp t) l p1 (Kd.seq t) l p) (w : Cw B n t p2) (e1 : p2 = p1) (e2 : q1 = sk B n (p2 + cw t)) (g : GFz B n (el t) l p3 f1) (e3 : p3 = q1) (hf : f = f1) : GFz B n (Kd.seq t) l p f := by
  rw [e3, e2, e1] at g
  rw [e1] at w
  rw [hf]
  exact m _ (GFz.lno w g)
theorem fA_not6 (w : Wd B n 24 p1) (e : p1 = p) (hl : 6 ≤ l) (hf : f = p1) : GFz B n Kd.atom l p f := by
  rw [hf, e]
  rw [e] at w
  exact GFz.not6 w hl
theorem fA_not (w : Wd B n 24 p1) (e : p1 = p) (e2 : q1 = sk B n (p1 + iv_tl 24)) (hl : l < 6) (g : GFz B n Kd.atom (l + 1) p2 f1) (e3 : p2 = q1) (hf : f = f1) : GFz B n Kd.atom l p f := by
  rw [e3, e2, e] at g
  rw [e] at w
  rw [hf]
  exact GFz.not w hl g
theorem fA_par6 (w : Sg B n 2147483688 p1) (e : p1 = p) (hl : 6 ≤ l) (hf : f = p1) : GFz B n Kd.atom l p f := by
  rw [hf, e]
  rw [e] at w
  exact GFz.par6 w hl
theorem fA_par0 (w : Sg B n 2147483688 p1) (e : p1 = p) (e2 : q1 = sk B n (p1 + 1)) (hl : l < 6) (g : GFz B n (Kd.seq 2) (l + 1) p2 f1) (e3 : p2 = q1) (hf : f = f1) : GFz B n Kd.atom l p f := by
  rw [e3, e2, e] at g
  rw [e] at w
  rw [hf]
  exact GFz.par0 w hl g
theorem fA_par1 (w : Sg B n 2147483688 p1) (e : p1 = p) (e2 : q1 = sk B n (p1 + 1)) (hl : l < 6) (g : G B n (Kd.seq 2) (l + 1) p2 (rs a q2)) (e3 : p2 = q1) (ha : a = 2147483649) (u : ¬ Sg B n 2147483689 p3) (e4 : p3 = q2) (hf : f = p3) : GFz B n Kd.atom l p f := by
  rw [e3, e2, e, rs1 ha] at g
  rw [e] at w
  rw [hf, e4]
  rw [e4] at u
  exact GFz.par1 w hl g u
theorem fA_c0 (w : An B n p) (g : GFz B n (Kd.seq 0) l p1 f1) (e : p1 = p) (hf : f = f1) : GFz B n Kd.atom l p f := by
  rw [e] at g
  rw [hf]
  exact GFz.c0 w g
theorem fA_c1 (w : An B n p) (g : G B n (Kd.seq 0) l p1 (rs a q2)) (e : p1 = p) (ha : a = 2147483649) (u1 : ¬ Sg B n 2147483708 p2) (e2 : p2 = q2) (u2 : ¬ Sg B n 2147483710 p3) (e3 : p3 = q2) (hf : f = p3) : GFz B n Kd.atom l p f := by
  rw [e, rs1 ha] at g
  rw [hf, e3]
  rw [e2] at u1
  rw [e3] at u2
  exact GFz.c1 w g u1 u2
theorem fA_c2 (w : An B n p) (g : G B n (Kd.seq 0) l p1 (rs a q2)) (e : p1 = p) (ha : a = 2147483649) (u : Sg B n 2147483708 p2 ∨ Sg B n 2147483710 p2) (e2 : p2 = q2) (e3 : q1 = sk B n (p2 + 1)) (k : GFz B n (Kd.seq 0) l p3 f1) (e4 : p3 = q1) (hf : f = f1) : GFz B n Kd.atom l p f := by
  rw [e, rs1 ha] at g
  rw [e4, e3, e2] at k
  rw [e2] at u
  rw [hf]
  exact GFz.c2 w g u k
theorem fL_no (w1 : ¬ Wd B n 21 p1) (e1 : p1 = p) (w2 : ¬ Wd B n 22 p2) (e2 : p2 = p) (hf : f = p) : GFz B n Kd.line 0 p f := by
  rw [e1] at w1
  rw [e2] at w2
  rw [hf]
  exact GFz.lnno w1 w2
theorem fL_if (s : i = 21 ∨ i = 22) (w : Wd B n i p1) (e1 : p1 = p) (e2 : q1 = sk B n (p1 + iv_tl i)) (u : Wd B n 23 p2) (e3 : p2 = q1) (e4 : q2 = sk B n (p2 + iv_tl 23)) (g : GFz B n (Kd.seq 2) 0 p3 f1) (e5 : p3 = q2) (hf : f = f1) : GFz B n Kd.line 0 p f := by
  rw [e1] at w e2
  rw [e5, e4, e3, e2] at g
  rw [e3, e2] at u
  rw [hf]
  exact GFz.lnif s w u g
theorem LqF.zero (e : p = sk B n 2147483648) (h : p < n) (hc : c = 2147483648) : LqF B n c p := ⟨by omega, fun f z => ⟨by omega, by rw [← e, ← hc]; exact z⟩⟩
theorem LqF.zeroR (e : w = sk B n 2147483648) (h0 : 2147483648 ≤ n) (h : w ≠ n) (hc : c = 2147483648) : LqF B n c (sk B n w) := by
  have x := sk_le (B := B) h0
  have y : sk B n w = w := by rw [e, sk_idem]
  exact LqF.zero (y.trans e) (by omega) hc
theorem LqF.full (m : LqF B n c p) (h : 2147483658 ≤ c) (hf : f = p) : CuF B n f := by
  rw [hf]
  exact m.2 _ (LsF.full h)
theorem LqF.no (m : LqF B n c p) (h : c < 2147483658) (g : GFz B n Kd.line 0 p1 f1) (e : p1 = p) (hf : f = f1) : CuF B n f := by
  rw [e] at g
  rw [hf]
  exact m.2 _ (LsF.no h g)
theorem LqF.bad (m : LqF B n c p) (h : c < 2147483658) (g : G B n Kd.line 0 p1 (rs a q)) (e : p1 = p) (ha : a = 2147483649) (hn : q ≠ n) (u : ¬ Sg B n 2147483707 p2) (e2 : p2 = q) (hf : f = p2) : CuF B n f := by
  rw [e, rs1 ha] at g
  rw [e2] at u
  rw [hf, e2]
  exact m.2 _ (LsF.bad h g (by have := g.le m.1 _ rfl; omega) u)
theorem LqF.go (m : LqF B n c p) (h : c < 2147483658) (g : G B n Kd.line 0 p1 (rs a q)) (e : p1 = p) (ha : a = 2147483649) (u : Sg B n 2147483707 p2) (e2 : p2 = q) (e3 : q1 = sk B n (p2 + 1)) (hc : c' = c + 1) (hp : q1 = p3) : LqF B n c' p3 := by
  rw [e, rs1 ha] at g
  rw [e2] at u e3
  rw [hc, ← hp, e3]
  exact ⟨sk_le (by have := u.1; omega), fun f h2 => m.2 f (LsF.go h g u h2)⟩
end GSF
theorem CuF.cast {B : Nat → Nat} {n f f' : Nat} (a : CuF B n f) (e : f' = f) : CuF B n f' := by rw [e]; exact a
/-- the fault behind tell and custom, in the program (caught: r) and reference -/
def Fc (B : Nat → Nat) (n : Nat) (h h' : xh) (r : Nat) : Prop := (r = 2147483649 → TF B n (tv h 0) (tv h 2) (tv h 3) (tv h 4) (tv h 5) (h' 0 11)) ∧ (r ≠ 2147483649 → h' 0 11 = 2147483647)
def Gc (B : Nat → Nat) (n : Nat) (h' : xh) (r : Nat) : Prop := (r = 2147483649 → CuF B n (h' 0 11)) ∧ (r ≠ 2147483649 → h' 0 11 = 2147483647)
def Ff (B : Nat → Nat) (n : Nat) (h h' : xh) : Prop := (h' 75 0 = 2147483649 → TF B n (h 76 0) (h 76 2) (h 76 3) (h 76 4) (h 76 5) (h' 75 11)) ∧ (h' 75 0 ≠ 2147483649 → h' 75 11 = 2147483647)
def Gf (B : Nat → Nat) (n : Nat) (h' : xh) : Prop := (h' 75 0 = 2147483649 → CuF B n (h' 75 11)) ∧ (h' 75 0 ≠ 2147483649 → h' 75 11 = 2147483647)
