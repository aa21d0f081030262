/-! ===== the claim ===== -/
def R_law : String := "LentNamesLaw"
def lw_P (b : Addr) (xs : List Int32) (args : Array Value) (s : State) : Prop := args = #[.ref b] ∧ s.IntsAt b xs ∧ xs.length ≤ 384 ∧ (Jvm.Cond.and given_1 narrow_1).before args s = true
def lw_Q (_ : Array Value) (s : State) (o : Outcome) (t : State) : Prop := o = .returned (some (.int 1)) ∧ Framed s o t [] 600128 7301098
def lw_Z (below : List Frame) (a : Array Value) (s : State) : State → Prop := fun t => ∃ o, t.status = .running ∧ Ended t below o ∧ lw_Q a s o t
theorem W.post {p : Program} {l : Launch} {e : Env} {R : Room} {s : State} {m : MethodId} {args : Array Value} {below : List Frame} {meth : Method} {c : Code} {H : Heap} {locs : List Loc} {cells slots : Nat} {Q Q' : State → Prop} {g : JFrame} (h : W p l e R s m args below meth c H locs cells slots Q g) (hQ : ∀ t, Q t → Q' t) : W p l e R s m args below meth c H locs cells slots Q' g := fun T hT X => by
  obtain ⟨t, h1, h2⟩ := h T hT X
  exact ⟨t, h1, hQ t h2⟩
theorem lw_one {b : Nat → Nat} {al : Nat → Option Nat} {V : Value} (h : iv_rel b al 9223372043297226753 V) : V = .int 1 := by
  obtain ⟨x, rfl, h1, h2⟩ := iv_rel_int (by decide) h
  have e : iv_bs x = iv_bs 1 := by
    have e0 : iv_bs 1 = 2147483649 := by decide
    omega
  rw [iv_bs_inj e]
theorem lw_sc (f : Nat → Nat) (hf : ∀ j, f j < 4294967296) : ∀ n, ∃ P, ∀ j, j < n → iv_gt P j = iv_c (f j)
  | 0 => ⟨1, fun j hj => absurd hj (Nat.not_lt_zero _)⟩
  | n + 1 => by
    obtain ⟨P, hP⟩ := lw_sc f hf n
    have hv : iv_c (f n) < 4722366482869645213696 := Nat.lt_trans (iw_c_lt (hf n)).1 (by decide)
    refine ⟨iv_st P n (iv_c (f n)), fun j hj => ?_⟩
    by_cases e : j = n
    · subst e
      exact iv_gt_st hv
    · rw [iv_gt_st_ne hv e]
      exact hP j (by omega)
theorem whole_start {p : Program} {e : Env} {s : State} {m : MethodId} {below : List Frame} {meth : Method} {c : Code} (l : Launch) {bs L : Nat} {xs : Nat → Int32} (hL : L ≤ 384) (hl : l.stackTraces = false) (hx : p.tables.exec = Jvm.exec) (hb : c.code = code) (hrt : meth.sig.returnType = ret) (hml : c.maxLocals = 7) (hown : s.vm.findClass R_law = some m.cls) (hts : ∀ w ∈ lw_tbl, w.before #[Value.ref bs] s = true) (hX : va_X bs L xs s s.heap) (hbl : bs < s.heap.size) (hlk : meth.locks = false) (hgv : (Jvm.Cond.and given_1 narrow_1).before #[Value.ref bs] s = true) (hnm : meth.name = x.name) (htb : ∀ z ∈ c.exceptionTable.toList, False) : W p l e room_1 s m #[Value.ref bs] below meth c s.heap [] 0 0 (lw_Z below #[Value.ref bs] s) (entryFrame m ([Value.ref bs] : List Value).toArray 7) := by
  obtain ⟨P, hP⟩ := lw_sc (fun j => iv_bs (xs j)) (fun j => iv_bs_lt _) L
  obtain ⟨sc, hsc⟩ : ∃ sc : Nat × Nat, sc = (L, if L = 0 then 1 else P) := ⟨_, rfl⟩
  have h1 : sc.1 = L := by rw [hsc]
  have h3 : ∀ j, j < L → iv_gt sc.2 j = iv_c (iv_bs (xs j)) := fun j hj => by
    rw [hsc]
    show iv_gt (if L = 0 then 1 else P) j = _
    rw [if_neg (by omega)]
    exact hP j hj
  have hok : scOK sc := by
    refine ⟨by rw [h1]; exact hL, ?_, fun j hj => ?_⟩
    · rw [hsc]
      show 1 ≤ L + (if L = 0 then 1 else P)
      by_cases e0 : L = 0
      · rw [if_pos e0]
        omega
      · omega
    · rw [h1] at hj
      unfold sv
      rw [h3 j hj, (iw_c_lt (iv_bs_lt (xs j))).2.1]
  obtain ⟨b, D, cI, cB, cJ, hb0, hE⟩ := lw_E hts hgv hX hbl h1 (fun b j hj => by rw [h3 j hj]; exact iv_rel_i (iv_c_lt (iv_bs_lt _)) (iv_in_c rfl))
  subst hb0
  have htab : c.exceptionTable.toList = tableOf (pm_h 309) := by
    cases hq : c.exceptionTable.toList with
    | nil => rfl
    | cons a t => exact (htb a (by rw [hq]; exact List.mem_cons_self)).elim
  have X : iv_Cx sc 309 60 p l room_1 s m #[Value.ref (b 0)] meth c D cI cB cJ b [] :=
    ⟨hx, hb, hml, by rw [tb_y309]; exact hown, fun w hw => hts w (List.mem_filter.mp hw).1, hE, ⟨by decide, by decide, by decide +kernel, by decide +kernel⟩, hl, hlk, by rw [tb_y309]; exact hnm, hrt, htab⟩
  obtain ⟨L', g⟩ := lw_all hok
  have g := g p l e room_1 s m #[Value.ref (b 0)] below meth c D cI cB cJ b [] X
  obtain ⟨k1, -⟩ := iv_enter (b := b) (al := iv_al []) (as := [55340232221128654849]) (vs := [Value.ref (b 0)]) (nL := 7) ⟨Or.inr (Or.inr (Or.inr (Or.inl ⟨rfl, rfl⟩))), trivial⟩ (by decide) (by decide +kernel)
  have hP0 : va_P D vwCl [] s.heap := fun k q hq => by simp at hq
  have hD0 : va_D (va_A [] s.heap.size) [] := ⟨fun i j p q hp => by simp at hp, fun k q hq => by simp at hq⟩
  rw [lg_entry_eq]
  refine W.post (g [] s.heap [] _ [] ⟨⟨rfl, Nat.zero_le _, fun k hk => absurd hk (Nat.not_lt_zero _)⟩, k1, trivial, hP0, hD0, ⟨Nat.le_refl _, fun _ _ _ => rfl, fun z hz => nomatch hz⟩, iv_ext.refl _⟩ (Nat.zero_le _) (Nat.zero_le _)) (fun t ht => ?_)
  obtain ⟨o, t1, t2, t3⟩ := ht
  rcases t3 with ⟨⟨v, ws, r1, r2, -⟩, LL, ⟨r4, r5, r6⟩, r7⟩ | ⟨q, -, E, ce, LL, r1, -⟩
  · rcases r2 with ⟨-, V, rfl, r2⟩ | ⟨r2, -⟩
    · have e := lw_one r2
      subst e
      refine ⟨o, t1, t2, r1, r4, r5, r6.weaken (fun z hz hlt => ?_) (by decide +kernel) (by decide +kernel)⟩
      rcases r7 z hz with ⟨k, e, w⟩ | w
      · cases w
      · exact absurd hlt (Nat.not_lt.mpr w)
    · exact absurd (show 9223372043297226753 = 147573952589676412928 from r2) (by decide)
  · exact absurd (show 147573952589676412928 < 9223372043297226753 from r1.1) (by decide)
set_option maxHeartbeats 4000000 in
theorem lw_walk (l : Launch) (hl : l.stackTraces = false) (b : Addr) (xs : List Int32) : MetFree l x (headSpec (Jvm.Cond.code x code maxLocals ret :: tables_1) room_1) (lw_P b xs) (fun _ _ _ _ _ => True) lw_Q := by
  refine MetFree.of_bodyS (code := code) (maxLocals := maxLocals) (ret := ret) (by decide) ?_ ?_
  · intro args s m h hn
    obtain ⟨meth, c, h1, h2, h3, h4, h5, h6, -, -⟩ := Cond.code_spec hn (atoms_spec (ws := Jvm.Cond.code x code maxLocals ret :: tables_1) h _ List.mem_cons_self)
    exact ⟨meth, c, h1, h2, h3, h4, h5, h6⟩
  · intro p e s m args below meth c s₁ B hml0 hP _
    obtain ⟨rfl, hx, hbd, hgv⟩ := hP
    obtain ⟨scr, harrAt, hlist, hof, hsmall⟩ := hx
    obtain ⟨hcb, hkn, -, -⟩ := State.arrayAt?_spec harrAt
    have hown : s.vm.findClass R_law = some m.cls := findClass_of_methodNamed B.named
    have hts0 : ∀ c ∈ (Jvm.Cond.code x code maxLocals ret :: tables_1), c.before #[Value.ref b] s = true := atoms_spec (ws := Jvm.Cond.code x code maxLocals ret :: tables_1) B.pre
    have hts : ∀ w ∈ lw_tbl, w.before #[Value.ref b] s = true := k2_hts_sels lw_privs (fun w hw => hts0 w (List.mem_cons_of_mem _ hw)) lw_privs_ok
    have hml : c.maxLocals = 7 := B.maxLocals_eq (hts0 _ List.mem_cons_self)
    have X₀ : Stand p l e room_1 s m #[Value.ref b] below meth c s₁ [] 0 0 := Stand.of_body B
    have hh0 : s₁.heap = s.heap := by rw [B.state]; rfl
    have hsz : scr.slots.size = xs.length := by rw [← Array.length_toList, hlist, List.length_map]
    have hval : ∀ j : Nat, j < xs.length → scr.slots[j]? = some (.int (xs.getD j 0)) := fun j hj => by
      rw [← Array.getElem?_toList, hlist]
      simp [hj]
    have hbl : b < s.heap.size := (Array.getElem?_eq_some_iff.mp hcb).1
    have hX : va_X b xs.length (fun j => xs.getD j 0) s s.heap := ⟨scr, hcb, hof, hkn, hsz, hval⟩
    have K : W p l e room_1 s m #[Value.ref b] below meth c s₁.heap [] 0 0 (lw_Z below #[Value.ref b] s) (entryFrame m ([Value.ref b] : List Value).toArray 7) := by
      rw [hh0]
      exact whole_start l hbd hl B.exec B.bytes B.returns hml hown hts hX hbl B.notSynchronized hgv (name_of_methodNamed B.named B.method).1 (by
        obtain ⟨meth9, c9, h1, h2, -, -, -, -, h7, -⟩ := Cond.code_spec B.named (hts0 _ List.mem_cons_self)
        cases Option.some.inj (h1.symm.trans B.method)
        cases Option.some.inj (h2.symm.trans X₀.code)
        intro z hz
        rw [Array.isEmpty_iff.mp h7] at hz
        cases hz)
    obtain ⟨t, a1, o, b1, b2, b3⟩ := K s₁ rfl X₀
    exact ⟨t, o, a1, b1, b2, b3⟩
theorem lw_pre_spec {args : Array Value} {s : State} (h : (Jvm.Cond.and given_1 narrow_1).before args s = true) (hr : rest_1_c.before args s = true) : ∃ (b : Addr) (xs : List Int32), lw_P b xs args s := by
  have hs := flat_of_before _ h
  have hq := flat_of_before _ hr
  have hc : (Cond.count 1).before args s = true := hs _ (by decide +kernel)
  have harr : (Cond.arrayOf (.arg 0) .int).before args s = true := hs _ (by decide +kernel)
  have hle : (Cond.le (.length (.arg 0)) (.int 384)).before args s = true := hs _ (by decide +kernel)
  have hlen : (Cond.isInt (.length (.arg 0))).before args s = true := hq _ (by decide +kernel)
  have hall : (Cond.all (.arg 0) (.isInt (.elem (.arg 0) (.index 0)))).before args s = true := hq _ (by decide +kernel)
  obtain ⟨b, xs, hb, hx⟩ := State.ints_of_pre rfl harr hlen hall
  have hsm : xs.length < 2 ^ 31 := hx.choose_spec.2.2.2
  have hev : (Term.length (.arg 0)).eval args s none [] s = some (.int xs.length.toInt32) := hx.length_eval hb
  have hv := Cond.le_ints hev (show (Term.int 384).eval args s none [] s = some (.int 384) from rfl)
  have hd : xs.length.toInt32 ≤ 384 := by
    simpa [Cond.before, Cond.holds, hv] using hle
  have hN : xs.length ≤ 384 := (Int32.ofNat_le_ofNat hsm (by decide)).mp (show Int32.ofNat xs.length ≤ Int32.ofNat 384 from hd)
  exact ⟨b, xs, Cond.one_arg hc (show args[0]? = some (.ref b) from hb), hx, hN, h⟩
theorem lw_comes (l : Launch) (hl : l.stackTraces = false) : Comes l x (Jvm.Cond.code x code maxLocals ret :: tables_1) room_1 (fun tb e args s => Calls_1 tb e args s ∧ rest_1 tb e args s ∧ Pre_1 tb e args s)
    (fun _ _ args s o t => lw_Q args s o t) := by
  intro p e ha hc hk s m args below hf hfit hheap happ hpre
  obtain ⟨b, xs, hP⟩ := lw_pre_spec hpre.2.2 hpre.2.1
  obtain ⟨k, o, h1, h2, h3, hQ⟩ := lw_walk l hl b xs p e ha hc hk s m args below hf ((Spec.applies_iff_loose hf).mp happ).1 hP trivial
  exact ⟨k, o, h1, h2, h3, hQ⟩
theorem lw_frame {s t : State} {o : Outcome} {args : Array Value} (h : Framed s o t [] 600128 7301098) :
    Framed s o t (fieldLocs frame_1_writes args s ++ arrayLocs frame_1_arrays args s ++ staticLocs frame_1_statics s) 600128 7301098 := h
theorem lw_limb (L : Cond) (hL : ∀ (args : Array Value) (s t : State), L.after args s (.returned (some (.int 1))) t = true) :
    ArmFor flags0 classFile x code maxLocals ret World_1 tables_1 room_1 Calls_1 rest_1 Pre_1
      (fun tb e a s o t => postC L tb e a s o t ∧ Framed s o t (fieldLocs frame_1_writes a s ++ arrayLocs frame_1_arrays a s ++ staticLocs frame_1_statics s) 600128 7301098) := by
  intro l hfl _ _ p e ha hc hk s m args below hf hfit hheap happ hpre
  have hl : l.stackTraces = false := by unfold Launch.stackTraces; rw [hfl]; decide
  obtain ⟨k, o, h1, h2, h3, rfl, hF⟩ := lw_comes l hl p e ha hc hk s m args below hf hfit hheap happ hpre
  exact ⟨k, _, h1, h2, h3, hL args s _, lw_frame hF⟩
theorem i_vc : Claimed_1_1 ∧ Claimed_1_2 := ⟨lw_limb limb_1_1 (fun args s t => by simp [limb_1_1, Cond.after, Cond.holds, Cond.value]), lw_limb limb_1_2 (fun args s t => Cond.after_iff.mpr (by
  first | (rw [show limb_1_2 = Cond.eq .result (.int 1) from rfl, Cond.eq_ints (x := 1) (y := 1) rfl rfl]; simp; done) | (simp [limb_1_2, Cond.value, Term.eval]; done)))⟩
