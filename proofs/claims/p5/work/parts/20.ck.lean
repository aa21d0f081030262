/-! ===== the packed words are the code ===== -/
def iv_ik (kf km kw kt : Nat → Nat → Nat) (kq : Nat → Nat → Int32) (kb : Nat → Nat → Bool) (ki : Nat → Bool) (kz : Nat → Nat → Bool) (mi pc x np op : Nat) (i : Instr) (len : Nat) : Bool := match i with
  | .aload_n k => decide (op = 1 ∧ np = pc + 1 ∧ len = 1 ∧ x = k.val)
  | .aload k => decide (op = 1 ∧ np = pc + 2 ∧ len = 2 ∧ x = k)
  | .iload_n k => decide (op = 3 ∧ np = pc + 1 ∧ len = 1 ∧ x = k.val)
  | .iload k => decide (op = 3 ∧ np = pc + 2 ∧ len = 2 ∧ x = k)
  | .istore_n k => decide (op = 13 ∧ np = pc + 1 ∧ len = 1 ∧ x = k.val)
  | .istore k => decide (op = 13 ∧ np = pc + 2 ∧ len = 2 ∧ x = k)
  | .astore_n k => decide (op = 36 ∧ np = pc + 1 ∧ len = 1 ∧ x = k.val)
  | .astore k => decide (op = 36 ∧ np = pc + 2 ∧ len = 2 ∧ x = k)
  | .iinc k n => decide (op = 10 ∧ np = pc + 3 ∧ len = 3 ∧ x % 256 = k ∧ x / 256 = iv_c (iv_bs (Int32.ofInt n)))
  | .iconst n => decide (op = 4 ∧ np = pc + 1 ∧ len = 1 ∧ x = iv_c (iv_bs (Int32.ofInt n)))
  | .bipush n => decide (op = 4 ∧ np = pc + 2 ∧ len = 2 ∧ x = iv_c (iv_bs ((Int8.ofInt n).toInt32)))
  | .sipush n => decide (op = 4 ∧ np = pc + 3 ∧ len = 3 ∧ x = iv_c (iv_bs ((Int16.ofInt n).toInt32)))
  | .ldc_w k => decide (op = 4 ∧ np = pc + 3 ∧ len = 3 ∧ x = iv_c (iv_bs (kq mi k)) ∧ kb mi k = true)
  | .if_icmp .eq off => decide (op = 5 ∧ np = pc + 3 ∧ len = 3 ∧ x / 65536 = 0 ∧ (pc : Int) + off = ((x % 65536 : Nat) : Int))
  | .ifCond .eq off => decide (op = 14 ∧ np = pc + 3 ∧ len = 3 ∧ x / 65536 = 0 ∧ (pc : Int) + off = ((x % 65536 : Nat) : Int))
  | .if_icmp .ne off => decide (op = 5 ∧ np = pc + 3 ∧ len = 3 ∧ x / 65536 = 1 ∧ (pc : Int) + off = ((x % 65536 : Nat) : Int))
  | .ifCond .ne off => decide (op = 14 ∧ np = pc + 3 ∧ len = 3 ∧ x / 65536 = 1 ∧ (pc : Int) + off = ((x % 65536 : Nat) : Int))
  | .if_icmp .lt off => decide (op = 5 ∧ np = pc + 3 ∧ len = 3 ∧ x / 65536 = 2 ∧ (pc : Int) + off = ((x % 65536 : Nat) : Int))
  | .ifCond .lt off => decide (op = 14 ∧ np = pc + 3 ∧ len = 3 ∧ x / 65536 = 2 ∧ (pc : Int) + off = ((x % 65536 : Nat) : Int))
  | .if_icmp .ge off => decide (op = 5 ∧ np = pc + 3 ∧ len = 3 ∧ x / 65536 = 3 ∧ (pc : Int) + off = ((x % 65536 : Nat) : Int))
  | .ifCond .ge off => decide (op = 14 ∧ np = pc + 3 ∧ len = 3 ∧ x / 65536 = 3 ∧ (pc : Int) + off = ((x % 65536 : Nat) : Int))
  | .if_icmp .gt off => decide (op = 5 ∧ np = pc + 3 ∧ len = 3 ∧ x / 65536 = 4 ∧ (pc : Int) + off = ((x % 65536 : Nat) : Int))
  | .ifCond .gt off => decide (op = 14 ∧ np = pc + 3 ∧ len = 3 ∧ x / 65536 = 4 ∧ (pc : Int) + off = ((x % 65536 : Nat) : Int))
  | .if_icmp .le off => decide (op = 5 ∧ np = pc + 3 ∧ len = 3 ∧ x / 65536 = 5 ∧ (pc : Int) + off = ((x % 65536 : Nat) : Int))
  | .ifCond .le off => decide (op = 14 ∧ np = pc + 3 ∧ len = 3 ∧ x / 65536 = 5 ∧ (pc : Int) + off = ((x % 65536 : Nat) : Int))
  | .iadd => decide (op = 6 ∧ np = pc + 1 ∧ len = 1)
  | .imul => decide (op = 15 ∧ np = pc + 1 ∧ len = 1)
  | .isub => decide (op = 22 ∧ np = pc + 1 ∧ len = 1)
  | .goto off => decide (op = 7 ∧ len = 3 ∧ (pc : Int) + off = (x : Int))
  | .iaload => decide (op = 8 ∧ np = pc + 1 ∧ len = 1)
  | .baload => decide (op = 31 ∧ np = pc + 1 ∧ len = 1)
  | .iastore => decide (op = 9 ∧ np = pc + 1 ∧ len = 1)
  | .bastore => decide (op = 32 ∧ np = pc + 1 ∧ len = 1)
  | .lastore => decide (op = 30 ∧ np = pc + 1 ∧ len = 1)
  | .laload => decide (op = 29 ∧ np = pc + 1 ∧ len = 1)
  | .dup => decide (op = 20 ∧ np = pc + 1 ∧ len = 1)
  | .dup2 => decide (op = 21 ∧ np = pc + 1 ∧ len = 1)
  | .arraylength => decide (op = 24 ∧ np = pc + 1 ∧ len = 1)
  | .i2l => decide (op = 27 ∧ np = pc + 1 ∧ len = 1)
  | .lcmp => decide (op = 28 ∧ np = pc + 1 ∧ len = 1)
  | .i2b => decide (op = 33 ∧ np = pc + 1 ∧ len = 1)
  | .lconst n => decide (op = 35 ∧ np = pc + 1 ∧ len = 1 ∧ n.val = x)
  | .ireturn => decide (op = 11 ∧ len = 1)
  | .return_ => decide (op = 16 ∧ len = 1)
  | .iand => decide (op = 17 ∧ np = pc + 1 ∧ len = 1 ∧ x = 0)
  | .ior => decide (op = 17 ∧ np = pc + 1 ∧ len = 1 ∧ x = 1)
  | .ixor => decide (op = 17 ∧ np = pc + 1 ∧ len = 1 ∧ x = 2)
  | .ishl => decide (op = 17 ∧ np = pc + 1 ∧ len = 1 ∧ x = 3)
  | .ishr => decide (op = 17 ∧ np = pc + 1 ∧ len = 1 ∧ x = 4)
  | .iushr => decide (op = 17 ∧ np = pc + 1 ∧ len = 1 ∧ x = 5)
  | .idiv => decide (op = 17 ∧ np = pc + 1 ∧ len = 1 ∧ x = 6)
  | .irem => decide (op = 17 ∧ np = pc + 1 ∧ len = 1 ∧ x = 7)
  | .getfield k => decide (op = 2 ∧ np = pc + 3 ∧ len = 3 ∧ x = kf mi k % 4096 ∧ kf mi k < 65536)
  | .putfield k => decide (op = 18 ∧ np = pc + 3 ∧ len = 3 ∧ x = kf mi k ∧ x < 65536 ∧ (x / 16384 = 0 ∨ (x / 16384 = 1 ∧ ki mi = true)))
  | .new k => decide ((op = 23 ∧ np = pc + 3 ∧ len = 3 ∧ x = kw mi k ∧ x < 64) ∨ (op = 25 ∧ x = kt mi pc ∧ x ≤ 4))
  | .newarray .int => decide (op = 19 ∧ np = pc + 2 ∧ len = 2 ∧ x = 1)
  | .newarray .byte => decide (op = 19 ∧ np = pc + 2 ∧ len = 2 ∧ x = 2)
  | .newarray .long => decide (op = 19 ∧ np = pc + 2 ∧ len = 2 ∧ x = 3)
  | .tableswitch _ _ _ _ => decide (op = 26 ∧ kz mi pc = true)
  | .invokevirtual k => decide (op = 12 ∧ np = pc + 3 ∧ len = 3 ∧ x = km mi (4 * k + 0) ∧ x < 4503599627370496)
  | .invokespecial k => decide (op = 12 ∧ np = pc + 3 ∧ len = 3 ∧ x = km mi (4 * k + 1) ∧ x < 4503599627370496)
  | .invokestatic k => decide (op = 12 ∧ np = pc + 3 ∧ len = 3 ∧ x = km mi (4 * k + 2) ∧ x < 4503599627370496)
  | _ => false
/-- what a link's word says of it: k 0 virtual, 1 special, 2 static -/
def iv_XOK (mi idx x k : Nat) : Prop :=
  (x / 1048576 % 16 = 6 → k = 0 ∧ iv_MOK (x % 4096) ∧ iv_LV (pm_y mi).cls idx (x % 4096) (x / 4096 % 256) (x / 16777216)) ∧
  (x / 1048576 % 16 = 7 → k = 2 ∧ iv_MOK (x % 4096) ∧ (iv_LS (pm_y mi).cls idx (x % 4096) (x / 4096 % 256) ∨ iv_LN (pm_y mi).cls idx (x % 4096) (x / 4096 % 256))) ∧
  (x / 1048576 % 16 = 0 → k = 2 ∧ iv_MOK (x % 4096) ∧ iv_LS (pm_y mi).cls idx (x % 4096) (x / 4096 % 256)) ∧
  (x / 1048576 % 16 = 8 → iv_MOK (x % 4096) ∧ ((k = 0 ∧ iv_LU (pm_y mi).cls idx (x % 4096) (x / 4096 % 256) (x / 16777216)) ∨ (k = 1 ∧ x / 16777216 ≠ 0 ∧ iv_LI (pm_y mi).cls idx (x % 4096) (x / 4096 % 256)))) ∧
  (x / 1048576 % 16 = 1 → k = 1 ∧ iv_OOK (pm_y mi).cls idx) ∧
  (x / 1048576 % 16 = 2 → k = 2 ∧ iv_ACP (pm_y mi).cls idx) ∧
  (x / 1048576 % 16 = 3 → k = 2 ∧ iv_MIN (pm_y mi).cls idx) ∧
  (x / 1048576 % 16 = 4 → k = 2 ∧ iv_MAX (pm_y mi).cls idx) ∧
  (x / 1048576 % 16 = 5 → k = 0 ∧ ∀ ci, pg_v ci (x % 4096) ≤ 3999 → iv_MOK (pg_v ci (x % 4096)) ∧ iv_LU (pm_y mi).cls idx (pg_v ci (x % 4096)) 1 (ci + 1))
section CK
variable {sc : Nat × Nat} {mi d : Nat} {out : Nat × iv_H} {p : Program} {l : Launch} {e : Env} {R : Room} {s : State} {m : MethodId} {args : Array Value} {below : List Frame} {meth : Method} {c : Code} {D : va_G} {cI cB cJ : ClassId} {b : Nat → Nat} {ws0 : va_W} {ih : iv_I} {c0 s0 pc np x op : Nat} {lo st : List Nat} {L : iv_H}
def iv_TH (sc : Nat × Nat) (ih : iv_I) : Prop := ∀ (d' mj : Nat) (as : List Nat) (L : iv_H) (oj : Nat × iv_H), as.length ≤ (pg_i mj).1 → iv_wl as ≤ as.length → ih (d', mj, 0, 0) (pg_c mj) 0 (as ++ List.replicate ((pg_i mj).1 - as.length) 147573952589676412928) [] L = some oj → iv_Tri sc d' mj as L oj
theorem iv_alu6 {a z : Nat} {r : Int32} (h : iv_alu 6 a z = some r) (hz : z < 4294967296) : r = iv_ub a / iv_ub z ∧ ¬ iv_ub z = 0 := by
  have e1 : iv_alu 6 a z = bif Nat.beq z 2147483648 then none else some (iv_ub a / iv_ub z) := rfl
  rw [e1] at h
  cases hb : Nat.beq z 2147483648 with
  | true => rw [hb] at h; cases h
  | false =>
    rw [hb] at h
    refine ⟨(Option.some.inj h).symm, fun g => ?_⟩
    rw [iv_n10] at hb
    have := congrArg iv_bs g
    rw [iv_bs_ub hz] at this
    exact hb this
theorem iv_alu7 {a z : Nat} {r : Int32} (h : iv_alu 7 a z = some r) (hz : z < 4294967296) : r = iv_ub a - iv_ub a / iv_ub z * iv_ub z ∧ ¬ iv_ub z = 0 := by
  have e1 : iv_alu 7 a z = bif Nat.beq z 2147483648 then none else some (iv_ub a - iv_ub a / iv_ub z * iv_ub z) := rfl
  rw [e1] at h
  cases hb : Nat.beq z 2147483648 with
  | true => rw [hb] at h; cases h
  | false =>
    rw [hb] at h
    refine ⟨(Option.some.inj h).symm, fun g => ?_⟩
    rw [iv_n10] at hb
    have := congrArg iv_bs g
    rw [iv_bs_ub hz] at this
    exact hb this
theorem ss_inv {SM : iv_S} {idx k : Nat} (X : iv_Cx sc mi d p l R s m args meth c D cI cB cJ b ws0) (hH : iv_HOK mi ∧ iv_HO2 mi) (hnp : np = pc + 3) (hI : iv_IH ih d mi out p l e R s m args below meth c D cI cB cJ b ws0) (hT : iv_TH sc ih) (hSM : ∀ q ∈ SM, iv_Tri sc 12 q.1 q.2.1 q.2.2.1 q.2.2.2) (hO : iv_XOK mi idx x k)
    (hd : (k = 0 ∧ decode (pm_b mi) pc = .ok (.invokevirtual idx, 3)) ∨ (k = 1 ∧ decode (pm_b mi) pc = .ok (.invokespecial idx, 3)) ∨ (k = 2 ∧ decode (pm_b mi) pc = .ok (.invokestatic idx, 3)))
    (h : iv_oInv SM ih (d, mi, c0, s0) (pg_c mi) pc x np lo st L = some out) : iv_G mi out p l e R s m args below meth c D cI cB cJ b ws0 c0 s0 pc lo st L := by
  obtain ⟨o6, o7, o0, o8, o1, o2, o3, o4, o5⟩ := hO
  have dv : k = 0 → decode (pm_b mi) pc = .ok (.invokevirtual idx, 3) := fun hk => by
    rcases hd with ⟨-, g⟩ | ⟨g, -⟩ | ⟨g, -⟩ <;> first | exact g | omega
  have ds : k = 1 → decode (pm_b mi) pc = .ok (.invokespecial idx, 3) := fun hk => by
    rcases hd with ⟨g, -⟩ | ⟨-, g⟩ | ⟨g, -⟩ <;> first | exact g | omega
  have dt : k = 2 → decode (pm_b mi) pc = .ok (.invokestatic idx, 3) := fun hk => by
    rcases hd with ⟨g, -⟩ | ⟨g, -⟩ | ⟨-, g⟩ <;> first | exact g | omega
  rcases iv_inv_some h with ⟨t, h⟩ | ⟨t, h⟩ | ⟨t, h⟩ | ⟨t, h⟩ | ⟨t, r, st', e0, a1, a2, a3, h⟩ | ⟨t, h⟩ | ⟨t, a3, h⟩ | ⟨t, a3, h⟩ | ⟨t, r, st', q, e0, a1, a2, a3, a4, h⟩
  · obtain ⟨g1, g2, g3⟩ := o6 t
    exact ss_call X hH.1 hH.2 hnp hI hT hSM (cr_V X g2 g3 (dv g1)) h
  · obtain ⟨g1, g2, g3⟩ := o7 t
    rcases g3 with g3 | g3
    · exact ss_call X hH.1 hH.2 hnp hI hT hSM (cr_S X g2 g3 (dt g1)) h
    · exact ss_call X hH.1 hH.2 hnp hI hT hSM (cr_N rfl X g2 g3 (dt g1)) h
  · obtain ⟨g1, g2, g3⟩ := o0 t
    exact ss_call X hH.1 hH.2 hnp hI hT hSM (cr_S X g2 g3 (dt g1)) h
  · obtain ⟨g2, g3⟩ := o8 t
    rcases g3 with ⟨g1, g3⟩ | ⟨g1, g4, g3⟩
    · exact ss_call X hH.1 hH.2 hnp hI hT hSM (cr_U rfl X g2 g3 (dv g1)) h
    · exact ss_call X hH.1 hH.2 hnp hI hT hSM (cr_I rfl g4 X g2 g3 (ds g1)) h
  · obtain ⟨g1, g2⟩ := o1 t
    exact ss_obj X g2 (ds g1) hnp hI e0 a1 a2 a3 h
  · obtain ⟨g1, g2⟩ := o2 t
    exact ss_copy X g2 (dt g1) hnp hI h
  · obtain ⟨g1, g2⟩ := o3 t
    exact ss_min X g2 (dt g1) hnp hI a3 h
  · obtain ⟨g1, g2⟩ := o4 t
    exact ss_max X g2 (dt g1) hnp hI a3 h
  · obtain ⟨g1, g2⟩ := o5 t
    exact ss_call X hH.1 hH.2 hnp hI hT hSM (cr_U rfl X (g2 _ a4).1 (g2 _ a4).2 (dv g1)) h
set_option maxHeartbeats 4000000 in
set_option maxRecDepth 100000 in
theorem ss_all {kf km kw kt : Nat → Nat → Nat} {kq : Nat → Nat → Int32} {kb : Nat → Nat → Bool} {ki : Nat → Bool} {kz : Nat → Nat → Bool} {SM : iv_S} {i : Instr} {len : Nat} (X : iv_Cx sc mi d p l R s m args meth c D cI cB cJ b ws0)
    (hF : ∀ mi k, kf mi k < 65536 → iv_FOK (pm_y mi).cls k (kf mi k % 4096 % 64) (kf mi k % 4096 / 64)) (hFP : ∀ mi k, kf mi k < 65536 → (kf mi k / 16384 = 0 ∨ (kf mi k / 16384 = 1 ∧ ki mi = true)) → iv_FPK mi k (kf mi k)) (hN : ∀ mi k, kw mi k < 64 → iv_NOK mi k (kw mi k)) (hR9 : ∀ mi pc, kt mi pc ≤ 4 → iv_ROK mi pc (kt mi pc)) (hQ : ∀ mi k, kb mi k = true → Cond.constant (pm_y mi).cls k (kq mi k) ∈ iv_T) (hT9 : ∀ mi pc, kz mi pc = true → iv_TOK mi pc)
    (hM9 : ∀ mi idx k, k < 4 → km mi (4 * idx + k) < 4503599627370496 → iv_XOK mi idx (km mi (4 * idx + k)) k) (hA : Cond.arrayClass .int ∈ iv_T ∧ Cond.arrayClass .byte ∈ iv_T ∧ Cond.arrayClass .long ∈ iv_T) (hH : ∀ mi, iv_HOK mi ∧ iv_HO2 mi)
    (hI : iv_IH ih d mi out p l e R s m args below meth c D cI cB cJ b ws0) (hTri : iv_TH sc ih) (hSM : ∀ q ∈ SM, iv_Tri sc 12 q.1 q.2.1 q.2.2.1 q.2.2.2) (hdec : decode (pm_b mi) pc = .ok (i, len)) (hck : iv_ik kf km kw kt kq kb ki kz mi pc x np op i len = true)
    (h : iv_op sc SM ih (d, mi, c0, s0) (pg_c mi) pc x np op lo st L = some out) : iv_G mi out p l e R s m args below meth c D cI cB cJ b ws0 c0 s0 pc lo st L := by
  obtain ⟨hx, hb, hml, hown, hts, -⟩ := id X
  cases i with
  | aload_n k =>
    obtain ⟨rfl, rfl, rfl, hx9⟩ := of_decide_eq_true hck
    exact ss_aload (fun H locs ls rest Q v hl kk => lv_aload_n hx hb hdec hx9.symm hl kk) hI h
  | aload k =>
    obtain ⟨rfl, rfl, rfl, rfl⟩ := of_decide_eq_true hck
    exact ss_aload (fun H locs ls rest Q v hl kk => lv_aload hx hb hdec hl kk) hI h
  | iload_n k =>
    obtain ⟨rfl, rfl, rfl, hx9⟩ := of_decide_eq_true hck
    exact ss_iload (fun H locs ls rest Q v hl kk => lv_iload_n hx hb hdec hx9.symm hl kk) hI h
  | iload k =>
    obtain ⟨rfl, rfl, rfl, rfl⟩ := of_decide_eq_true hck
    exact ss_iload (fun H locs ls rest Q v hl kk => lv_iload hx hb hdec hl kk) hI h
  | istore_n k =>
    obtain ⟨rfl, rfl, rfl, hx9⟩ := of_decide_eq_true hck
    exact ss_istore (fun H locs ls rest Q lv v h1 h2 kk => lv_istore_n hx hb hdec hx9.symm h1 h2 rfl kk) hI h
  | istore k =>
    obtain ⟨rfl, rfl, rfl, rfl⟩ := of_decide_eq_true hck
    exact ss_istore (fun H locs ls rest Q lv v h1 h2 kk => lv_istore hx hb hdec h1 h2 rfl kk) hI h
  | astore_n k =>
    obtain ⟨rfl, rfl, rfl, hx9⟩ := of_decide_eq_true hck
    exact ss_astore (fun H locs ls rest Q lv v h1 h2 kk => lv_astore_n hx hb hdec hx9.symm h1 h2 rfl kk) hI h
  | astore k =>
    obtain ⟨rfl, rfl, rfl, rfl⟩ := of_decide_eq_true hck
    exact ss_astore (fun H locs ls rest Q lv v h1 h2 kk => lv_astore hx hb hdec h1 h2 rfl kk) hI h
  | iinc k n =>
    obtain ⟨rfl, rfl, rfl, hx8, hx9⟩ := of_decide_eq_true hck
    exact ss_iinc hx9 (fun H locs ls rest Q lv k1 v h1 h2 h3 kk => lv_iinc hx hb (by rw [hx8]; exact hdec) h1 h2 rfl h3 rfl kk) hI h
  | iconst n =>
    obtain ⟨rfl, rfl, rfl, hx9⟩ := of_decide_eq_true hck
    exact ss_const hx9 (fun H locs ls rest Q kk => lv_iconst hx hb hdec rfl kk) hI h
  | bipush n =>
    obtain ⟨rfl, rfl, rfl, hx9⟩ := of_decide_eq_true hck
    exact ss_const hx9 (fun H locs ls rest Q kk => lv_bipush hx hb hdec rfl kk) hI h
  | sipush n =>
    obtain ⟨rfl, rfl, rfl, hx9⟩ := of_decide_eq_true hck
    exact ss_const hx9 (fun H locs ls rest Q kk => lv_sipush hx hb hdec rfl kk) hI h
  | ldc_w k =>
    obtain ⟨rfl, rfl, rfl, hx9, hx8⟩ := of_decide_eq_true hck
    exact ss_const hx9 (fun H locs ls rest Q kk => lv_ldcw hx hb hown (hts _ (hQ mi k hx8)) hdec kk) hI h
  | if_icmp cnd off =>
    cases cnd with
    | eq =>
      obtain ⟨rfl, rfl, rfl, hx8, hx9⟩ := of_decide_eq_true hck
      exact ss_icmp (by omega) (fun H locs ls rest Q a z kt kf => lv_icmp_eq hx hb hdec hx9 (fun g => kt (by rw [hx8]; exact g)) (fun g => kf (by rw [hx8]; exact g))) hI h
    | ne =>
      obtain ⟨rfl, rfl, rfl, hx8, hx9⟩ := of_decide_eq_true hck
      exact ss_icmp (by omega) (fun H locs ls rest Q a z kt kf => lv_icmp_ne hx hb hdec hx9 (fun g => kt (by rw [hx8]; exact g)) (fun g => kf (by rw [hx8]; exact fun hn => hn g))) hI h
    | lt =>
      obtain ⟨rfl, rfl, rfl, hx8, hx9⟩ := of_decide_eq_true hck
      exact ss_icmp (by omega) (fun H locs ls rest Q a z kt kf => lv_icmp_lt hx hb hdec hx9 (fun g => kt (by rw [hx8]; exact g)) (fun g => kf (by rw [hx8]; exact g))) hI h
    | ge =>
      obtain ⟨rfl, rfl, rfl, hx8, hx9⟩ := of_decide_eq_true hck
      exact ss_icmp (by omega) (fun H locs ls rest Q a z kt kf => lv_icmp_ge hx hb hdec hx9 (fun g => kt (by rw [hx8]; exact g)) (fun g => kf (by rw [hx8]; exact g))) hI h
    | gt =>
      obtain ⟨rfl, rfl, rfl, hx8, hx9⟩ := of_decide_eq_true hck
      exact ss_icmp (by omega) (fun H locs ls rest Q a z kt kf => lv_icmp_gt hx hb hdec hx9 (fun g => kt (by rw [hx8]; exact g)) (fun g => kf (by rw [hx8]; exact g))) hI h
    | le =>
      obtain ⟨rfl, rfl, rfl, hx8, hx9⟩ := of_decide_eq_true hck
      exact ss_icmp (by omega) (fun H locs ls rest Q a z kt kf => lv_icmp_le hx hb hdec hx9 (fun g => kt (by rw [hx8]; exact g)) (fun g => kf (by rw [hx8]; exact g))) hI h
  | ifCond cnd off =>
    cases cnd with
    | eq =>
      obtain ⟨rfl, rfl, rfl, hx8, hx9⟩ := of_decide_eq_true hck
      exact ss_ifz (by omega) (fun H locs ls rest Q a kt kf => lv_if_eq hx hb hdec hx9 (fun g => kt (by rw [hx8]; exact g)) (fun g => kf (by rw [hx8]; exact g))) hI h
    | ne =>
      obtain ⟨rfl, rfl, rfl, hx8, hx9⟩ := of_decide_eq_true hck
      exact ss_ifz (by omega) (fun H locs ls rest Q a kt kf => lv_if_ne hx hb hdec hx9 (fun g => kt (by rw [hx8]; exact g)) (fun g => kf (by rw [hx8]; exact fun hn => hn g))) hI h
    | lt =>
      obtain ⟨rfl, rfl, rfl, hx8, hx9⟩ := of_decide_eq_true hck
      exact ss_ifz (by omega) (fun H locs ls rest Q a kt kf => lv_if_lt hx hb hdec hx9 (fun g => kt (by rw [hx8]; exact g)) (fun g => kf (by rw [hx8]; exact g))) hI h
    | ge =>
      obtain ⟨rfl, rfl, rfl, hx8, hx9⟩ := of_decide_eq_true hck
      exact ss_ifz (by omega) (fun H locs ls rest Q a kt kf => lv_if_ge hx hb hdec hx9 (fun g => kt (by rw [hx8]; exact g)) (fun g => kf (by rw [hx8]; exact g))) hI h
    | gt =>
      obtain ⟨rfl, rfl, rfl, hx8, hx9⟩ := of_decide_eq_true hck
      exact ss_ifz (by omega) (fun H locs ls rest Q a kt kf => lv_if_gt hx hb hdec hx9 (fun g => kt (by rw [hx8]; exact g)) (fun g => kf (by rw [hx8]; exact g))) hI h
    | le =>
      obtain ⟨rfl, rfl, rfl, hx8, hx9⟩ := of_decide_eq_true hck
      exact ss_ifz (by omega) (fun H locs ls rest Q a kt kf => lv_if_le hx hb hdec hx9 (fun g => kt (by rw [hx8]; exact g)) (fun g => kf (by rw [hx8]; exact g))) hI h
  | iadd  =>
    obtain ⟨rfl, rfl, rfl⟩ := of_decide_eq_true hck
    exact ss_bin (fun h1 h2 h3 h4 => iv_add_ok h1 h2 h3 h4) (fun H locs ls rest Q a z kk => lv_iadd hx hb hdec kk) hI h
  | imul  =>
    obtain ⟨rfl, rfl, rfl⟩ := of_decide_eq_true hck
    exact ss_bin (fun h1 h2 h3 h4 => iv_mul_ok h1 h2 h3 h4) (fun H locs ls rest Q a z kk => lv_imul hx hb hdec kk) hI h
  | isub  =>
    obtain ⟨rfl, rfl, rfl⟩ := of_decide_eq_true hck
    exact ss_bin (fun h1 h2 h3 h4 => iv_sub_ok h1 h2 h3 h4) (fun H locs ls rest Q a z kk => lv_isub hx hb hdec kk) hI h
  | goto off =>
    obtain ⟨rfl, rfl, hx9⟩ := of_decide_eq_true hck
    intro ws H locs ls sv hS hc hs
    exact lv_goto hx hb hdec hx9 (hI _ _ _ _ _ _ h ws H locs ls sv hS hc hs)
  | iaload  =>
    obtain ⟨rfl, rfl, rfl⟩ := of_decide_eq_true hck
    exact ss_ald X (Or.inl ⟨rfl, hdec⟩) rfl hI h
  | baload  =>
    obtain ⟨rfl, rfl, rfl⟩ := of_decide_eq_true hck
    exact ss_ald X (Or.inr ⟨rfl, hdec⟩) rfl hI h
  | iastore  =>
    obtain ⟨rfl, rfl, rfl⟩ := of_decide_eq_true hck
    exact ss_iast X hdec rfl hI h
  | bastore  =>
    obtain ⟨rfl, rfl, rfl⟩ := of_decide_eq_true hck
    exact ss_bast X hdec rfl hI h
  | lastore  =>
    obtain ⟨rfl, rfl, rfl⟩ := of_decide_eq_true hck
    exact ss_last X hdec rfl hI h
  | laload  =>
    obtain ⟨rfl, rfl, rfl⟩ := of_decide_eq_true hck
    exact ss_lald X hdec rfl hI h
  | dup  =>
    obtain ⟨rfl, rfl, rfl⟩ := of_decide_eq_true hck
    exact ss_dup hdec rfl X hI h
  | dup2  =>
    obtain ⟨rfl, rfl, rfl⟩ := of_decide_eq_true hck
    exact ss_dup2 hdec rfl X hI h
  | arraylength  =>
    obtain ⟨rfl, rfl, rfl⟩ := of_decide_eq_true hck
    exact ss_alen hdec rfl X hI h
  | i2l  =>
    obtain ⟨rfl, rfl, rfl⟩ := of_decide_eq_true hck
    exact ss_i2l hdec rfl X hI h
  | lcmp  =>
    obtain ⟨rfl, rfl, rfl⟩ := of_decide_eq_true hck
    exact ss_lcmp hdec rfl X hI h
  | i2b  =>
    obtain ⟨rfl, rfl, rfl⟩ := of_decide_eq_true hck
    exact ss_i2b hdec rfl X hI h
  | lconst n =>
    obtain ⟨rfl, rfl, rfl, hx9⟩ := of_decide_eq_true hck
    exact ss_lconst ⟨n, hdec, hx9⟩ rfl X hI h
  | ireturn  =>
    obtain ⟨rfl, rfl⟩ := of_decide_eq_true hck
    exact ss_retv hdec X h
  | return_  =>
    obtain ⟨rfl, rfl⟩ := of_decide_eq_true hck
    exact ss_retn hdec X h
  | iand  =>
    obtain ⟨rfl, rfl, rfl, rfl⟩ := of_decide_eq_true hck
    exact ss_alu (x := 0) (g2 := fun a z => a &&& z) (P := fun _ => True) (fun a z r hr _ => ⟨(Option.some.inj hr).symm, trivial⟩) (fun _ _ => trivial) (fun _ _ _ => rfl) (fun H locs ls rest Q a z _ kk => lv_iand hx hb hdec kk) hI h
  | ior  =>
    obtain ⟨rfl, rfl, rfl, rfl⟩ := of_decide_eq_true hck
    exact ss_alu (x := 1) (g2 := fun a z => a ||| z) (P := fun _ => True) (fun a z r hr _ => ⟨(Option.some.inj hr).symm, trivial⟩) (fun _ _ => trivial) (fun z => absurd z (by decide)) (fun H locs ls rest Q a z _ kk => lv_ior hx hb hdec kk) hI h
  | ixor  =>
    obtain ⟨rfl, rfl, rfl, rfl⟩ := of_decide_eq_true hck
    exact ss_alu (x := 2) (g2 := fun a z => a ^^^ z) (P := fun _ => True) (fun a z r hr _ => ⟨(Option.some.inj hr).symm, trivial⟩) (fun _ _ => trivial) (fun z => absurd z (by decide)) (fun H locs ls rest Q a z _ kk => lv_ixor hx hb hdec kk) hI h
  | ishl  =>
    obtain ⟨rfl, rfl, rfl, rfl⟩ := of_decide_eq_true hck
    exact ss_alu (x := 3) (g2 := fun a z => a <<< (z &&& 31)) (P := fun _ => True) (fun a z r hr _ => ⟨(Option.some.inj hr).symm, trivial⟩) (fun _ _ => trivial) (fun z => absurd z (by decide)) (fun H locs ls rest Q a z _ kk => lv_ishl hx hb hdec kk) hI h
  | ishr  =>
    obtain ⟨rfl, rfl, rfl, rfl⟩ := of_decide_eq_true hck
    exact ss_alu (x := 4) (g2 := fun a z => a >>> (z &&& 31)) (P := fun _ => True) (fun a z r hr _ => ⟨(Option.some.inj hr).symm, trivial⟩) (fun _ _ => trivial) (fun z => absurd z (by decide)) (fun H locs ls rest Q a z _ kk => lv_ishr hx hb hdec kk) hI h
  | iushr  =>
    obtain ⟨rfl, rfl, rfl, rfl⟩ := of_decide_eq_true hck
    exact ss_alu (x := 5) (g2 := fun a z => (a.toUInt32 >>> (z.toUInt32 &&& Int32.toUInt32 31)).toInt32) (P := fun _ => True) (fun a z r hr _ => ⟨(Option.some.inj hr).symm, trivial⟩) (fun _ _ => trivial) (fun z => absurd z (by decide)) (fun H locs ls rest Q a z _ kk => lv_iushr hx hb hdec rfl kk) hI h
  | idiv  =>
    obtain ⟨rfl, rfl, rfl, rfl⟩ := of_decide_eq_true hck
    exact ss_alu (x := 6) (g2 := fun a z => a / z) (P := fun z => ¬ z = 0) (fun a z r hr hz => iv_alu6 hr hz) (fun z => absurd z (by decide)) (fun z => absurd z (by decide)) (fun H locs ls rest Q a z hz kk => lv_idiv hx hb hdec hz kk) hI h
  | irem  =>
    obtain ⟨rfl, rfl, rfl, rfl⟩ := of_decide_eq_true hck
    exact ss_alu (x := 7) (g2 := fun a z => a - a / z * z) (P := fun z => ¬ z = 0) (fun a z r hr hz => iv_alu7 hr hz) (fun z => absurd z (by decide)) (fun z => absurd z (by decide)) (fun H locs ls rest Q a z hz kk => lv_irem hx hb hdec hz kk) hI h
  | getfield k =>
    obtain ⟨rfl, rfl, rfl, hx9, hx8⟩ := of_decide_eq_true hck
    exact ss_getf X ⟨k, hdec, rfl, by rw [hx9]; exact hF mi k hx8⟩ hI h
  | putfield k =>
    obtain ⟨rfl, rfl, rfl, hx9, hx8, hx7⟩ := of_decide_eq_true hck
    exact ss_putf ⟨k, hdec, rfl, by rw [hx9] at hx8 hx7 ⊢; exact hFP mi k hx8 hx7⟩ X hI h
  | new k =>
    rcases of_decide_eq_true hck with ⟨rfl, rfl, rfl, hx9, hx8⟩ | ⟨rfl, hx9, hx8⟩
    · exact ss_new ⟨k, hdec, rfl, by rw [hx9] at hx8 ⊢; exact hN mi k hx8⟩ X hI h
    · exact ss_thr X hx8 (by rw [hx9] at hx8 ⊢; exact hR9 mi pc hx8) h
  | newarray t =>
    cases t with
    | int =>
      obtain ⟨rfl, rfl, rfl, hx9⟩ := of_decide_eq_true hck
      exact ss_newa_int hx9 hA.1 hdec rfl X hI h
    | byte =>
      obtain ⟨rfl, rfl, rfl, hx9⟩ := of_decide_eq_true hck
      exact ss_newa_byte hx9 hA.2.1 hdec rfl X hI h
    | long =>
      obtain ⟨rfl, rfl, rfl, hx9⟩ := of_decide_eq_true hck
      exact ss_newa_long hx9 hA.2.2 hdec rfl X hI h
    | _ => exact absurd hck Bool.false_ne_true
  | tableswitch _ _ _ _ =>
    obtain ⟨rfl, hx9⟩ := of_decide_eq_true hck
    exact ss_tsw X (hT9 mi pc hx9) hI h
  | invokevirtual k =>
    obtain ⟨rfl, rfl, rfl, hx9, hx8⟩ := of_decide_eq_true hck
    exact ss_inv X (hH mi) rfl hI hTri hSM (by rw [hx9] at hx8 ⊢; exact hM9 mi k 0 (by decide) hx8) (Or.inl ⟨rfl, hdec⟩) h
  | invokespecial k =>
    obtain ⟨rfl, rfl, rfl, hx9, hx8⟩ := of_decide_eq_true hck
    exact ss_inv X (hH mi) rfl hI hTri hSM (by rw [hx9] at hx8 ⊢; exact hM9 mi k 1 (by decide) hx8) (Or.inr (Or.inl ⟨rfl, hdec⟩)) h
  | invokestatic k =>
    obtain ⟨rfl, rfl, rfl, hx9, hx8⟩ := of_decide_eq_true hck
    exact ss_inv X (hH mi) rfl hI hTri hSM (by rw [hx9] at hx8 ⊢; exact hM9 mi k 2 (by decide) hx8) (Or.inr (Or.inr ⟨rfl, hdec⟩)) h
  | _ => exact absurd hck Bool.false_ne_true
end CK
