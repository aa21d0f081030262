/-! ===== a call against the machine ===== -/
section CALL2
variable {sc : Nat × Nat} {mi d : Nat} {out : Nat × iv_H} {p : Program} {l : Launch} {e : Env} {R : Room} {s : State} {m : MethodId} {args : Array Value} {below : List Frame} {meth : Method} {c : Code} {D : va_G} {cI cB cJ : ClassId} {b : Nat → Nat} {ws0 : va_W} {ih : iv_I} {c0 s0 pc np x : Nat} {lo st : List Nat} {L : iv_H}
/-- the call at pc runs as its contract says -/
def iv_CR (sc : Nat × Nat) (d : Nat) (p : Program) (l : Launch) (e : Env) (R : Room) (s : State) (m : MethodId) (args : Array Value) (below : List Frame) (meth : Method) (c : Code) (D : va_G) (cI cB cJ : ClassId) (b : Nat → Nat) (ws0 : va_W) (c0 s0 pc nL nt rc mj n : Nat) : Prop :=
  ∀ (d' : Nat) (as : List Nat) (L : iv_H) (oj : Nat × iv_H) (ws : va_W) (H : Heap) (locs : List Loc) (ls : Array Slot) (As rest : List Value), d' + 1 ≤ d → as.length = n → iv_Tri sc d' mj as L oj → (nt = 0 ∨ oj.1 ≤ 147573952589676412928) → iv_rc rc as L → iv_W b cI cB cJ L ws → iv_stk b (iv_al ws) as As →
    va_P D vwCl ws H → va_D (va_A ws0 s.heap.size) ws → va_S (va_A ws0 s.heap.size) s.heap H locs → ls.size = nL → (rest.map fun v => v.category).sum ≤ 8 → c0 + (pg_i mj).2.2.1 ≤ R.cells → s0 + (pg_i mj).2.2.2 ≤ R.slots →
    vx_Run p l e R s m args below meth c H locs c0 s0 (pg_i mj).2.2.1 (pg_i mj).2.2.2 (F0 m pc ls (As.reverse ++ rest)) rest (iv_Qc D cI cB cJ b ws oj As.toArray) (iv_XC D cI cB cJ b ws oj) (va_A ws H.size)
theorem iv_stk_len {al : Nat → Option Nat} : ∀ {st : List Nat} {sv : List Value}, iv_stk b al st sv → sv.length = st.length
  | [], [], _ => rfl
  | [], _ :: _, h => h.elim
  | _ :: _, [], h => h.elim
  | _ :: _, _ :: _, h => by rw [List.length_cons, List.length_cons, iv_stk_len h.2]
theorem iv_stk_app {al : Nat → Option Nat} : ∀ {l1 st : List Nat} {sv : List Value}, iv_stk b al (l1 ++ st) sv → ∃ s1 s2, sv = s1 ++ s2 ∧ iv_stk b al l1 s1 ∧ iv_stk b al st s2
  | [], st, sv, h => ⟨[], sv, rfl, trivial, h⟩
  | v :: l1, st, sv, h => by
    obtain ⟨V, sv', rfl, h1, h2⟩ := iv_stk_cons (st := l1 ++ st) h
    obtain ⟨s1, s2, rfl, h3, h4⟩ := iv_stk_app h2
    exact ⟨V :: s1, s2, rfl, ⟨h1, h3⟩, h4⟩
theorem iv_stk_join {al : Nat → Option Nat} : ∀ {l1 st : List Nat} {s1 s2 : List Value}, iv_stk b al l1 s1 → iv_stk b al st s2 → iv_stk b al (l1 ++ st) (s1 ++ s2)
  | [], st, [], s2, _, h => h
  | [], st, _ :: _, s2, h, _ => h.elim
  | _ :: _, st, [], s2, h, _ => h.elim
  | _ :: _, st, _ :: _, s2, h, g => ⟨h.1, iv_stk_join h.2 g⟩
theorem iv_stk_rev {al : Nat → Option Nat} : ∀ {l1 : List Nat} {s1 : List Value}, iv_stk b al l1 s1 → iv_stk b al l1.reverse s1.reverse
  | [], [], _ => trivial
  | [], _ :: _, h => h.elim
  | _ :: _, [], h => h.elim
  | _ :: _, _ :: _, h => by
    rw [List.reverse_cons, List.reverse_cons]
    exact iv_stk_join (iv_stk_rev h.2) ⟨h.1, trivial⟩
theorem iv_A_sub {ws : va_W} {A : Nat → Prop} {H0 H : Heap} {locs : List Loc} (hD : va_D A ws) (hS : va_S A H0 H locs) (hA : ∀ q, H0.size ≤ q → A q) : ∀ q, va_A ws H.size q → A q := by
  intro q h
  rcases h with ⟨k, e, h⟩ | h
  · exact hD.2 _ _ h
  · exact hA q (Nat.le_trans hS.1 h)
theorem iv_locs {nL : Nat} {al : Nat → Option Nat} {ls : Array Slot} (h : iv_loc b al lo ls nL) : ls.size = nL := by
  obtain ⟨-, lv, h1, -⟩ := h
  exact h1.1
theorem iv_back_some {fr : Nat × Nat × Nat × Nat} {cd nt r : Nat} (h : iv_back ih fr cd pc np nt lo st r L = some out) : (r < 147573952589676412928 ∧ ih fr cd np lo (r :: st) L = some out) ∨ (r = 147573952589676412928 ∧ ih fr cd np lo st L = some out) ∨ (147573952589676412928 < r ∧ nt = 0 ∧ iv_hd (pg_h fr.2.1) pc (r - 166020696663385964544) (fun h => ih fr cd h lo [55340232221128654850] L) (some (r, L)) = some out) := by
  rcases iv_b2 h with ⟨h1, h⟩ | ⟨h1, h⟩
  · rw [iv_n7] at h1
    exact Or.inl ⟨by omega, h⟩
  · rw [iv_n9] at h1
    rcases iv_b2 h with ⟨h2, h⟩ | ⟨h2, h⟩
    · rw [iv_n8] at h2
      exact Or.inr (Or.inl ⟨h2, h⟩)
    · rw [iv_n10] at h2
      obtain ⟨h3, h⟩ := iv_b1 h
      rw [iv_n8] at h3
      rw [iv_n4] at h
      exact Or.inr (Or.inr ⟨by omega, h3, h⟩)
/-- behind the call -/
theorem iv_behind {mj : Nat} {oj : Nat × iv_H} {ws : va_W} {H : Heap} {locs : List Loc} {ls : Array Slot} {rest : List Value} {st0 : List Value} {a : Array Value} {nt : Nat} (X : iv_Cx sc mi d p l R s m args meth c D cI cB cJ b ws0) (hO : iv_HOK mi) (hO2 : iv_HO2 mi) (hnp : np = pc + 3) (hI : iv_IH ih d mi out p l e R s m args below meth c D cI cB cJ b ws0)
    (hr : vx_Run p l e R s m args below meth c H locs c0 s0 (pg_i mj).2.2.1 (pg_i mj).2.2.2 (F0 m pc ls st0) rest (iv_Qc D cI cB cJ b ws oj a) (iv_XC D cI cB cJ b ws oj) (va_A ws H.size))
    (hL : iv_loc b (iv_al ws) lo ls (pg_i mi).1) (hK : iv_stk b (iv_al ws) st rest) (hP : va_P D vwCl ws H) (hD : va_D (va_A ws0 s.heap.size) ws) (hA : va_S (va_A ws0 s.heap.size) s.heap H locs) (hX : iv_ext ws0 ws) (hc : c0 + (pg_i mj).2.2.1 ≤ (pg_i mi).2.2.1) (hs : s0 + (pg_i mj).2.2.2 ≤ (pg_i mi).2.2.2)
    (h : iv_back ih (d, mi, c0 + (pg_i mj).2.2.1, s0 + (pg_i mj).2.2.2) (pg_c mi) pc np nt lo st oj.1 oj.2 = some out) :
    W p l e R s m args below meth c H locs c0 s0 (vx_MQ below (iv_Qc D cI cB cJ b ws0 out) (iv_XC D cI cB cJ b ws0 out) args s (pg_i mi).2.2.1 (pg_i mi).2.2.2 (va_A ws0 s.heap.size)) (F0 m pc ls st0) := by
  have hsub : ∀ q, va_A ws H.size q → va_A ws0 s.heap.size q := iv_A_sub hD hA (fun q hq => Or.inr hq)
  subst hnp
  obtain ⟨hx, hb, hml, hown, hts, hE, hR, hl, hlk, hnm, hrt, htb⟩ := X
  intro T hT XX
  have key : ∀ {st₀ t T' : State} {Lx : List Loc} {ws' : va_W}, st₀.heap = H → T'.heap = t.heap → (∀ q ∈ Lx, va_A ws H.size q.base) → iv_Z D cI cB cJ b ws oj.2 ws' st₀ t →
      iv_W b cI cB cJ oj.2 ws' ∧ iv_ext ws ws' ∧ va_P D vwCl ws' T'.heap ∧ va_D (va_A ws0 s.heap.size) ws' ∧ va_S (va_A ws0 s.heap.size) s.heap T'.heap (locs ++ Lx) := by
    intro st₀ t T' Lx ws' h0 e1 hLx hZ
    obtain ⟨z1, z2, z3, z4, z5⟩ := hZ
    rw [h0] at z4 z5
    obtain ⟨k1, k2, k3⟩ := vx_keep h0 e1 hA (fun q _ hq => hsub q hq) hsub hLx (A1 := va_A ws H.size) z5
    exact ⟨z1, z2, by rw [e1]; exact z3, ⟨z4.1, fun k q hk => hsub _ (z4.2 k q hk)⟩, k3⟩
  rcases hr T hT XX with ⟨v, st₀, t, T', Lx, h0, X', hLx, e1, e2, ⟨v', ws', hv, hret, hZ⟩, st1⟩ | ⟨q, st₀, t, T', Lx, E, ce, h0, X', hLx, e1, e2, ⟨hgt, hE2, ws', hZ⟩, hce, hcv, hcl, st1⟩
  · cases hv
    obtain ⟨k1, k2, k3, k4, k5⟩ := key h0 e1 hLx hZ
    have fin : ∀ (st2 : List Nat) (sv2 : List Value), ih (d, mi, c0 + (pg_i mj).2.2.1, s0 + (pg_i mj).2.2.2) (pg_c mi) (pc + 3) lo st2 oj.2 = some out → v.toList ++ rest = sv2 → iv_stk b (iv_al ws') st2 sv2 → ∃ t, Steps p.tables e below (T.setTop (F0 m pc ls st0)) t ∧ (vx_MQ below (iv_Qc D cI cB cJ b ws0 out) (iv_XC D cI cB cJ b ws0 out) args s (pg_i mi).2.2.1 (pg_i mi).2.2.2 (va_A ws0 s.heap.size)) t := by
      intro st2 sv2 h2 hsv hst
      obtain ⟨t2, a1, b1⟩ := hI _ _ _ _ _ _ h2 ws' T'.heap (locs ++ Lx) ls sv2 ⟨k1, iv_loc_mono k2 hL, hst, k3, k4, k5, hX.trans k2⟩ hc hs T' rfl X'
      refine ⟨t2, st1 t2 ?_, b1⟩
      subst hsv
      exact a1
    rcases iv_back_some h with ⟨g1, h⟩ | ⟨g1, h⟩ | ⟨g1, -⟩
    · rcases hret with ⟨-, V, rfl, hV⟩ | ⟨g2, -⟩
      · exact fin _ (V :: rest) h rfl ⟨hV, iv_stk_mono k2 hK⟩
      · omega
    · rcases hret with ⟨g2, -⟩ | ⟨-, rfl⟩
      · omega
      · exact fin _ rest h rfl (iv_stk_mono k2 hK)
    · rcases hret with ⟨g2, -⟩ | ⟨g2, -⟩ <;> omega
  · obtain ⟨k1, k2, k3, k4, k5⟩ := key h0 e1 hLx hZ
    have hce' : T'.heap[q]? = some ce := by rw [e1]; exact hce
    rcases iv_back_some h with ⟨g1, -⟩ | ⟨g1, -⟩ | ⟨-, -, h⟩
    · omega
    · omega
    · obtain ⟨ex, hex⟩ : ∃ ex, ex = oj.1 - 166020696663385964544 := ⟨_, rfl⟩
      have hE4 := hE2
      rw [← hex] at h hE4
      rcases iv_hd_some _ _ h with ⟨pre, q1, suf, p1, p2, p3, p4, h⟩ | ⟨p1, h⟩ | ⟨-, h⟩
      · obtain ⟨pre', cp, suf', u1, u2, u3, u4, u5⟩ := hO pre q1 suf p1
        have hE3 : E = pm_e q1.2.2.2 := by rw [p3]; exact hE4
        obtain ⟨t2, a1, b1⟩ := ct_catch (rest := rest) (c := c) (p := p) (l := l) (e := e) (R := R) (below := below) (meth := meth) hown (tableOf pre') ⟨q1.1, q1.2.1, q1.2.2.1, cp⟩ (tableOf suf') (by rw [htb, u1]; unfold tableOf; rw [List.map_append]; rfl) (fun z hz => by
            unfold tableOf at hz
            obtain ⟨zz, hzz, rfl⟩ := List.mem_map.mp hz
            obtain ⟨y, y1, y2, y3, y4, y5⟩ := u5 zz hzz
            rcases p4 y y1 with g | g
            · refine Or.inl ?_
              rw [← y2, ← y3]
              cases hcv2 : covers (⟨y.1, y.2.1, zz.2.2.1, zz.2.2.2⟩ : ExceptionTableEntry) pc with
              | false => rfl
              | true => exact absurd (iv_covers.mp hcv2) g
            · refine Or.inr ⟨y4, _, hts _ y5, ?_⟩
              rw [hE4]
              exact hE.2.2.2.1 _ (iv_ncq_ok g)) (iv_covers.mpr p2) u2 (hts _ u3) (by rw [hE3]; exact va_Nw.use rfl (hE.2.1 _ u4 rfl)) hce' hcv hcl
          (hI _ _ _ _ _ _ h ws' T'.heap (locs ++ Lx) ls [.ref q] ⟨k1, iv_loc_mono k2 hL, ⟨Or.inr (Or.inr (Or.inr (Or.inr (Or.inl ⟨rfl, q, rfl⟩)))), trivial⟩, k3, k4, k5, hX.trans k2⟩ hc hs) T' rfl X'
        exact ⟨t2, st1.trans a1, b1⟩
      · cases h
        obtain ⟨t2, a1, b1⟩ := vx_out (rest := rest) (ls := ls) (pc := pc) (E := E) (p := p) (l := l) (e := e) (R := R) (below := below) (Qc := iv_Qc D cI cB cJ b ws0 oj) (XC := iv_XC D cI cB cJ b ws0 oj) (free := va_A ws0 s.heap.size) (fun z hz => by
            rw [htb] at hz
            unfold tableOf at hz
            obtain ⟨zz, hzz, rfl⟩ := List.mem_map.mp hz
            obtain ⟨y, y1, y2, y3⟩ := hO2 zz hzz
            rw [← y2, ← y3]
            cases hcv2 : covers (⟨y.1, y.2.1, zz.2.2.1, zz.2.2.2⟩ : ExceptionTableEntry) pc with
            | false => rfl
            | true => exact absurd (iv_covers.mp hcv2) (p1 y y1)) hlk hce' hcv hcl (fun t2 ht2 _ => ⟨hgt, hE2, ws', k1, hX.trans k2, by rw [ht2]; exact k3, k4, k5.F ht2⟩) (fun z hz => k5.2.2 z hz) hc hs T' rfl X'
        exact ⟨t2, st1.trans a1, b1⟩
      · exact h.elim
set_option maxRecDepth 100000 in
theorem ss_call {SM : iv_S} {nt rc mj n : Nat} (X : iv_Cx sc mi d p l R s m args meth c D cI cB cJ b ws0) (hO : iv_HOK mi) (hO2 : iv_HO2 mi) (hnp : np = pc + 3) (hI : iv_IH ih d mi out p l e R s m args below meth c D cI cB cJ b ws0)
    (hT : ∀ (d' mj : Nat) (as : List Nat) (L : iv_H) (oj : Nat × iv_H), as.length ≤ (pg_i mj).1 → iv_wl as ≤ as.length → ih (d', mj, 0, 0) (pg_c mj) 0 (as ++ List.replicate ((pg_i mj).1 - as.length) 147573952589676412928) [] L = some oj → iv_Tri sc d' mj as L oj)
    (hM : ∀ q ∈ SM, iv_Tri sc 12 q.1 q.2.1 q.2.2.1 q.2.2.2)
    (hC : iv_CR sc d p l e R s m args below meth c D cI cB cJ b ws0 c0 s0 pc (pg_i mi).1 nt rc mj n) (h : iv_call SM ih (d, mi, c0, s0) (pg_c mi) pc np nt rc mj n lo st L = some out) : iv_G mi out p l e R s m args below meth c D cI cB cJ b ws0 c0 s0 pc lo st L := by
  intro ws H locs ls sv hS hc hs
  obtain ⟨hW, hL, hK, hP, hD, hA, hX⟩ := hS
  obtain ⟨l1, rst, rfl, hn, h⟩ := iv_take_some _ _ _ _ _ h
  rw [List.append_nil] at h
  obtain ⟨hrc, h⟩ := iv_rcv_some h
  obtain ⟨a1, h⟩ := iv_b1 h
  obtain ⟨a5, h⟩ := iv_b1 h
  obtain ⟨a2, h⟩ := iv_b1 h
  obtain ⟨a3, h⟩ := iv_b1 h
  obtain ⟨a4, h⟩ := iv_b1 h
  rw [iv_f_eq, iv_f_eq] at h
  rw [iv_n7] at a1 a4 a5
  rw [iv_n7, iv_n3] at a2 a3
  have a2 : c0 + (pg_i mj).2.2.1 ≤ (pg_i mi).2.2.1 := a2
  have a3 : s0 + (pg_i mj).2.2.2 ≤ (pg_i mi).2.2.2 := a3
  obtain ⟨s1, s2, rfl, q1, q2⟩ := iv_stk_app hK
  have hw2 := iv_stk_wl q2
  have hlen : l1.reverse.length = n := by rw [List.length_reverse]; exact hn
  have hcells : c0 + (pg_i mj).2.2.1 ≤ R.cells := Nat.le_trans a2 X.2.2.2.2.2.2.1.2.2.1
  have hslots : s0 + (pg_i mj).2.2.2 ≤ R.slots := Nat.le_trans a3 X.2.2.2.2.2.2.1.2.2.2
  have fin : ∀ (d' : Nat) (oj : Nat × iv_H), d' + 1 ≤ d → iv_Tri sc d' mj l1.reverse L oj → iv_back ih (d, mi, c0 + (pg_i mj).2.2.1, s0 + (pg_i mj).2.2.2) (pg_c mi) pc np nt lo rst oj.1 oj.2 = some out →
      W p l e R s m args below meth c H locs c0 s0 (vx_MQ below (iv_Qc D cI cB cJ b ws0 out) (iv_XC D cI cB cJ b ws0 out) args s (pg_i mi).2.2.1 (pg_i mi).2.2.2 (va_A ws0 s.heap.size)) (F0 m pc ls (s1 ++ s2)) := by
    intro d' oj hd hTri hb
    have hnt : nt = 0 ∨ oj.1 ≤ 147573952589676412928 := by
      rcases iv_back_some hb with ⟨g, -⟩ | ⟨g, -⟩ | ⟨-, g, -⟩
      · exact Or.inr (by omega)
      · exact Or.inr (by omega)
      · exact Or.inl g
    have hrun := hC d' l1.reverse L oj ws H locs ls s1.reverse s2 hd hlen hTri hnt hrc hW (iv_stk_rev q1) hP hD hA (iv_locs hL) (by omega) hcells hslots
    rw [List.reverse_reverse] at hrun
    exact iv_behind X hO hO2 hnp hI hrun hL q2 hP hD hA hX a2 a3 hb
  rcases iv_sm_some _ h with ⟨q, g1, g2, g3, g4, h⟩ | h
  · cases hd13 : Nat.ble 13 d with
    | false =>
      have e9 : (@Bool.rec (fun _ => iv_S) [] SM (Nat.ble 13 (d, mi, c0, s0).1)) = [] := by rw [show (d, mi, c0, s0).1 = d from rfl, hd13]
      rw [e9] at g1
      cases g1
    | true =>
      have e9 : (@Bool.rec (fun _ => iv_S) [] SM (Nat.ble 13 (d, mi, c0, s0).1)) = SM := by rw [show (d, mi, c0, s0).1 = d from rfl, hd13]
      rw [e9] at g1
      rw [iv_n7] at hd13
      have hq := hM q g1
      rw [g2, g3, g4] at hq
      exact fin 12 q.2.2.2 (by omega) hq h
  · cases d with
    | zero => cases h
    | succ d' =>
      have h : iv_pad (Nat.sub (pg_i mj).1 n) (fun pd => iv_cat l1.reverse pd fun lo1 => @Option.rec (Nat × iv_H) (fun _ => iv_R) none (fun z => iv_back ih (d' + 1, mi, Nat.add c0 (pg_i mj).2.2.1, Nat.add s0 (pg_i mj).2.2.2) (pg_c mi) pc np nt lo rst z.1 z.2) (iv_f (pg_c mj) fun cd1 => ih (d', mj, 0, 0) cd1 0 lo1 [] L)) = some out := h
      rw [iv_pad_eq, iv_cat_eq] at h
      obtain ⟨oj, h1, h⟩ := iv_o1 h
      rw [iv_f_eq] at h1
      rw [iv_n4] at h1
      rw [← hlen] at h1 a4 a5
      exact fin d' oj (Nat.le_refl _) (hT d' mj _ L oj a4 a5 h1) h
end CALL2
