/-! ===== methods ===== -/
set_option maxHeartbeats 0 in
/-- LentNames$CustomReader.readAll(I)Z -/
theorem c47_62_c4 {sc : Nat × Nat} {d  : Nat} {h : xh} {tB : Nat → Nat} {tN : Nat} (hJ : J h) (hr0 : (cl9 h) + 5 ≤ (h 1 2)) (hT : Tp tB tN h) : X sc 47 (d + 15) (xI fun r h' => J h' ∧ Fr 161 h h' ∧ (2147483648 ≤ r ∧ r ≤ 2147483649) ∧ (r = 2147483649 → h 1 2 + 1 ≤ h' 1 2) ∧ (r = 2147483649 → cl9 h' + h 1 2 ≤ h' 1 2 + cl9 h) ∧ G tB tN (Kd.seq 1) 4 (h 1 2) (rs r (h' 1 2))) 0 0 0 [x_r 62, iv_c 2147483652, 147573952589676412928] [] h := by
  have hF := Fr.refl 161 h
  obtain ⟨r1, q2, t3⟩ : ∃ z, (h 62 1) = z + 11 ∧ tw z := by
    rcases hJ.2.2.2.2.2.2.2 with z | z
    · exact ⟨17, by rw [z], Or.inl rfl⟩
    · exact ⟨31, by rw [z], Or.inr rfl⟩
  have b4 := jB (e := 2) 0 hJ (rg_T11_2_0_1 t3) (by first | decide | omega) (by first | decide | omega)
  have e5 : cl9 h = (h (r1 + 11) 2) := (congrArg (fun z => h z 2) q2).trans rfl
  have b6 := jB (e := 2) 0 hJ rg_1_2_0_1 (by first | decide | omega) (by first | decide | omega)
  refine x_aload (np := 1) (x := 0) (by decide +kernel) rfl (x_nc_le (by decide)) ?_
  refine x_iload (np := 2) (x := 1) (by decide +kernel) rfl (by decide) ?_
  refine x_cI (t := 6) (mj := 48) (n := 2) (rc := 4) (ml := 2) (nr := 0) (np := 5) (as := [x_r 62, iv_c 2147483652]) (rest := []) (lo1 := [x_r 62, iv_c 2147483652]) (by decide +kernel) (by decide) (by decide +kernel) (x_rb_of (by decide +kernel)) rfl rfl (x_wr (by decide) (x_wi (by decide) x_wn)) x_wn (by decide) rfl (c48_62_c4 hJ   (by first | decide | omega) hT) (fun v7 h10 l8 q9 => ?_)
  obtain ⟨j11, f12, b13, c14, c15, c16⟩ := q9
  have f17 := Fr.trans hF f12 (by decide)
  have b18 := jB (e := 2) 0 j11 rg_1_2_0_1 (by first | decide | omega) (by first | decide | omega)
  have q19 : h10 62 1 = h 62 1 := f12 62 1 (by decide +kernel)
  have b20 := jB (e := 2) 0 j11 (rg_T11_2_0_1 t3) (by first | decide | omega) (by first | decide | omega)
  have e21 : cl9 h10 = (h10 (r1 + 11) 2) := (congrArg (fun z => h10 z 2) (q19.trans q2)).trans rfl
  refine x_ifz (k := 1) (tg := 10) (np := 8) (by decide +kernel) (by decide) l8 (fun q22 => ?_) (fun q23 => ?_)
  · have q22 : v7 ≠ 2147483648 := q22
    have b24 := c14 (by first | decide | omega)
    have b25 := c15 (by first | decide | omega)
    refine x_const (np := 11) (x := 9223372039002259456) (a := 2147483648) (by decide +kernel) (by decide) (by decide) ?_
    refine x_istore (np := 12) (x := 2) (lo' := [x_r 62, iv_c 2147483652, iv_c 2147483648]) (by decide +kernel) (by decide) (Nat.le_of_ble_eq_true rfl) rfl ?_
    have p2065 : ∀ (n : Nat) (v2060 : Nat) (h2062 : xh), 4294967296 - v2060 < n → (2147483648 ≤ v2060 ∧ v2060 ≤ 2147484047) → cl9 h2062 + h 1 2 ≤ h2062 1 2 + cl9 h → h 1 2 + 1 ≤ h2062 1 2 → v2060 ≤ h2062 1 2 → J h2062 → Fr 161 h10 h2062 → Res tB tN (Kd.lp 1) 4 (h2062 1 2) (Kd.seq 1) 4 (h 1 2) → X sc 47 (d + 15) (xI fun r h' => J h' ∧ Fr 161 h h' ∧ (2147483648 ≤ r ∧ r ≤ 2147483649) ∧ (r = 2147483649 → h 1 2 + 1 ≤ h' 1 2) ∧ (r = 2147483649 → cl9 h' + h 1 2 ≤ h' 1 2 + cl9 h) ∧ G tB tN (Kd.seq 1) 4 (h 1 2) (rs r (h' 1 2))) 0 0 12 [x_r 62, iv_c 2147483652, iv_c v2060] [] h2062 := by
      intro n
      induction n with
      | zero => intro v2060 h2062 q2070; exact absurd q2070 (Nat.not_lt_zero _)
      | succ n i2071 =>
        intro v2060 h2062 q2070 b2061 b2066 b2067 b2068 j2064 f2063 m2069
        have f2072 := Fr.trans f17 f2063 (by decide)
        have b2073 := jB (e := 2) 0 j2064 rg_1_2_0_1 (by first | decide | omega) (by first | decide | omega)
        have q2074 : h2062 62 1 = h10 62 1 := f2063 62 1 (by decide +kernel)
        have q2075 : h10 62 1 = h 62 1 := f12 62 1 (by decide +kernel)
        have b2076 := jB (e := 2) 0 j2064 (rg_T11_2_0_1 t3) (by first | decide | omega) (by first | decide | omega)
        have e2077 : cl9 h2062 = (h2062 (r1 + 11) 2) := (congrArg (fun z => h2062 z 2) ((q2074.trans q2075).trans q2)).trans rfl
        refine x_iload (np := 13) (x := 2) (by decide +kernel) rfl (by first | decide | omega) ?_
        refine x_const (np := 16) (x := 9223373756989178256) (a := 2147484048) (by decide +kernel) (by decide) (by decide) ?_
        refine x_icmp (k := 3) (tg := 60) (np := 19) (by decide +kernel) (by decide) (by first | decide | omega) (by decide) (fun q2078 => ?_) (fun q2079 => ?_)
        · have q2078 : 2147484048 ≤ v2060 := q2078
          exfalso; omega
        have q2079 : ¬ (2147484048 ≤ v2060) := q2079
        refine x_aload (np := 20) (x := 0) (by decide +kernel) rfl (x_nc_le (by decide)) ?_
        have q2080 : h2062 62 0 = 1 := by have z := jB (e := 0) 0 j2064 rg_62_0_0_1 (by decide) (by decide); omega
        refine x_getR (np := 23) (x := 192) (f := 0) (q := 1) (by decide +kernel) (by decide) (by decide +kernel) q2080 ?_
        refine x_ldcB (i := 31) (idx := 69) (tx := "and") (by rw [tb_y47]; exact List.mem_of_getElem? (i := 33) rfl) (by decide) (by rw [tb_b47]; decide +kernel) ?_
        have m2085 := Tp.fr hT f12 (by decide) (by decide)
        have m2084 := Tp.fr m2085 f2063 (by decide) (by decide)
        refine x_cI (t := 6) (mj := 78) (n := 2) (rc := 8) (ml := 2) (nr := 0) (np := 28) (as := [x_r 1, x_b (31 + 1)]) (rest := []) (lo1 := [x_r 1, x_b (31 + 1)]) (by decide +kernel) (by decide) (by decide +kernel) (x_rb_of (by decide +kernel)) rfl rfl (x_wr (by decide) (x_wB (by decide) x_wn)) x_wn (by decide) rfl (c78_1_S0 j2064  (by decide) m2084) (fun v2081 h2086 l2082 q2083 => ?_)
        obtain ⟨j2087, f2088, b2089, c2090, c2091, c2092⟩ := q2083
        have f2093 := Fr.trans f2072 f2088 (by decide)
        have f2094 := Fr.trans f2063 f2088 (by decide)
        have b2095 := jB (e := 2) 0 j2087 rg_1_2_0_1 (by first | decide | omega) (by first | decide | omega)
        have b2096 : iv_tl 31 = 3 := by decide
        refine x_ifz (k := 0) (tg := 60) (np := 31) (by decide +kernel) (by decide) l2082 (fun q2097 => ?_) (fun q2098 => ?_)
        · have q2097 : v2081 = 2147483648 := q2097
          have b2099 := c2091 (by first | decide | omega)
          refine x_const (np := 61) (x := 9223372043297226753) (a := 2147483649) (by decide +kernel) (by decide) (by decide) ?_
          have q2100 : h2086 62 1 = h2062 62 1 := f2088 62 1 (by decide +kernel)
          have q2101 : h2062 62 1 = h10 62 1 := f2063 62 1 (by decide +kernel)
          have q2102 : h10 62 1 = h 62 1 := f12 62 1 (by decide +kernel)
          have q2103 : h2086 (r1 + 11) 2 = h2062 (r1 + 11) 2 := jK 0 f2088 (rg_T11_2_0_1 t3) (by first | decide | omega) (by first | decide | omega) (by decide)
          have e2104 : cl9 h2086 = (h2062 (r1 + 11) 2) := (congrArg (fun z => h2086 z 2) (((q2100.trans q2101).trans q2102).trans q2)).trans q2103
          obtain ⟨w2105, e2106⟩ := Tk.no c2092 (by first | decide | omega)
          refine x_retI (np := 62) (x := 0) (by decide +kernel) (by decide) (Or.inr ⟨by decide +kernel, by first | decide | omega, by first | decide | omega⟩) ⟨_, rfl, (by decide), ?_⟩
          exact ⟨j2087, f2093, (by first | decide | omega), (fun z => by first | decide | omega), (fun z => by first | decide | omega), (gQ_e (t := 1) m2069 w2105 rfl (by first | decide | omega) (show h2062 1 2 = h2086 1 2 by first | decide | omega))⟩
        have q2098 : ¬ (v2081 = 2147483648) := q2098
        have b2107 := c2090 (by first | decide | omega)
        refine x_aload (np := 32) (x := 0) (by decide +kernel) rfl (x_nc_le (by decide)) ?_
        refine x_iload (np := 33) (x := 1) (by decide +kernel) rfl (by decide) ?_
        have q2108 : h2086 62 1 = h2062 62 1 := f2088 62 1 (by decide +kernel)
        have q2109 : h2062 62 1 = h10 62 1 := f2063 62 1 (by decide +kernel)
        have q2110 : h10 62 1 = h 62 1 := f12 62 1 (by decide +kernel)
        have q2111 : h2086 (r1 + 11) 2 = h2062 (r1 + 11) 2 := jK 0 f2088 (rg_T11_2_0_1 t3) (by first | decide | omega) (by first | decide | omega) (by decide)
        have e2112 : cl9 h2086 = (h2062 (r1 + 11) 2) := (congrArg (fun z => h2086 z 2) (((q2108.trans q2109).trans q2110).trans q2)).trans q2111
        have m2116 := Tp.fr m2084 f2088 (by decide) (by decide)
        refine x_cI (t := 6) (mj := 48) (n := 2) (rc := 4) (ml := 2) (nr := 0) (np := 36) (as := [x_r 62, iv_c 2147483652]) (rest := []) (lo1 := [x_r 62, iv_c 2147483652]) (by decide +kernel) (by decide) (by decide +kernel) (x_rb_of (by decide +kernel)) rfl rfl (x_wr (by decide) (x_wi (by decide) x_wn)) x_wn (by decide) rfl (c48_62_c4 j2087   (by first | decide | omega) m2116) (fun v2113 h2117 l2114 q2115 => ?_)
        obtain ⟨j2118, f2119, b2120, c2121, c2122, c2123⟩ := q2115
        have f2124 := Fr.trans f2093 f2119 (by decide)
        have f2125 := Fr.trans f2094 f2119 (by decide)
        have b2126 := jB (e := 2) 0 j2118 rg_1_2_0_1 (by first | decide | omega) (by first | decide | omega)
        have q2127 : h2086 62 1 = h2062 62 1 := f2088 62 1 (by decide +kernel)
        have q2128 : h2062 62 1 = h10 62 1 := f2063 62 1 (by decide +kernel)
        have q2129 : h10 62 1 = h 62 1 := f12 62 1 (by decide +kernel)
        have q2130 : h2086 (r1 + 11) 2 = h2062 (r1 + 11) 2 := jK 0 f2088 (rg_T11_2_0_1 t3) (by first | decide | omega) (by first | decide | omega) (by decide)
        have q2131 : h2117 62 1 = h2086 62 1 := f2119 62 1 (by decide +kernel)
        have q2132 : h2086 62 1 = h2062 62 1 := f2088 62 1 (by decide +kernel)
        have q2133 : h2062 62 1 = h10 62 1 := f2063 62 1 (by decide +kernel)
        have q2134 : h10 62 1 = h 62 1 := f12 62 1 (by decide +kernel)
        have b2135 := jB (e := 2) 0 j2118 (rg_T11_2_0_1 t3) (by first | decide | omega) (by first | decide | omega)
        have e2136 : cl9 h2117 = (h2117 (r1 + 11) 2) := (congrArg (fun z => h2117 z 2) ((((q2131.trans q2132).trans q2133).trans q2134).trans q2)).trans rfl
        refine x_ifz (k := 0) (tg := 52) (np := 39) (by decide +kernel) (by decide) l2114 (fun q2137 => ?_) (fun q2138 => ?_)
        · have q2137 : v2113 = 2147483648 := q2137
          refine x_const (np := 53) (x := 9223372039002259456) (a := 2147483648) (by decide +kernel) (by decide) (by decide) ?_
          have q2139 : h2117 62 1 = h2086 62 1 := f2119 62 1 (by decide +kernel)
          have q2140 : h2086 62 1 = h2062 62 1 := f2088 62 1 (by decide +kernel)
          have q2141 : h2062 62 1 = h10 62 1 := f2063 62 1 (by decide +kernel)
          have q2142 : h10 62 1 = h 62 1 := f12 62 1 (by decide +kernel)
          obtain ⟨w2143, e2144⟩ := Tk.yes c2092 (by first | decide | omega)
          refine x_retI (np := 54) (x := 0) (by decide +kernel) (by decide) (Or.inr ⟨by decide +kernel, by first | decide | omega, by first | decide | omega⟩) ⟨_, rfl, (by decide), ?_⟩
          exact ⟨j2118, f2124, (by first | decide | omega), (fun z => by first | decide | omega), (fun z => by first | decide | omega), (gQ_f (t := 1) m2069 w2143 rfl e2144 c2123 rfl (by first | decide | omega) (by first | decide | omega))⟩
        have q2138 : ¬ (v2113 = 2147483648) := q2138
        have b2145 := c2121 (by first | decide | omega)
        have b2146 := c2122 (by first | decide | omega)
        refine x_aload (np := 40) (x := 0) (by decide +kernel) rfl (x_nc_le (by decide)) ?_
        have q2147 : h2117 62 1 = h2086 62 1 := f2119 62 1 (by decide +kernel)
        have q2148 : h2086 62 1 = h2062 62 1 := f2088 62 1 (by decide +kernel)
        have q2149 : h2062 62 1 = h10 62 1 := f2063 62 1 (by decide +kernel)
        have q2150 : h10 62 1 = h 62 1 := f12 62 1 (by decide +kernel)
        refine x_getR (np := 43) (x := 193) (f := 1) (q := (r1 + 11)) (by decide +kernel) (by decide) (by decide +kernel) ((((q2147.trans q2148).trans q2149).trans q2150).trans q2) ?_
        refine x_const (np := 46) (x := 9223380646116722644) (a := 2147485652) (by decide +kernel) (by decide) (by decide) ?_
        refine x_nI (t := 6) (mj := 36) (n := 2) (rc := 3) (ml := 2) (nr := 0) (np := 49) (as := [x_r (r1 + 11), iv_c 2147485652]) (rest := []) (lo1 := [x_r (r1 + 11), iv_c 2147485652]) (by decide +kernel) (by decide) (by decide +kernel) (x_rb_of (tr_11_3 t3)) rfl rfl (x_wr (tn_11 t3) (x_wi (by decide) x_wn)) x_wn (by decide) rfl ?_
        refine x_aload (np := 1) (x := 0) (by decide +kernel) rfl (x_nc_le (tn_11 t3)) ?_
        refine x_getC (np := 4) (x := 130) (f := 2) (q := (h2117 (r1 + 11) 2)) (by decide +kernel) (by decide) (tg_11_130_2_0 t3) rfl (fun l2151 => ?_)
        refine x_const (np := 7) (x := 9223373756989178256) (a := 2147484048) (by decide +kernel) (by decide) (by decide) ?_
        refine x_icmp (k := 2) (tg := 12) (np := 10) (by decide +kernel) (by decide) l2151 (by decide) (fun q2152 => ?_) (fun q2153 => ?_)
        · have q2152 : (h2117 (r1 + 11) 2) < 2147484048 := q2152
          refine x_aload (np := 13) (x := 0) (by decide +kernel) rfl (x_nc_le (tn_11 t3)) ?_
          have q2154 : h2117 (r1 + 11) 0 = (r1 + 12) := tf_11_0 j2118 t3
          refine x_getR (np := 16) (x := 128) (f := 0) (q := (r1 + 12)) (by decide +kernel) (by decide) (tg_11_128_0_1 t3) q2154 ?_
          refine x_aload (np := 17) (x := 0) (by decide +kernel) rfl (x_nc_le (tn_11 t3)) ?_
          refine x_getC (np := 20) (x := 130) (f := 2) (q := (h2117 (r1 + 11) 2)) (by decide +kernel) (by decide) (tg_11_130_2_0 t3) rfl (fun l2155 => ?_)
          refine x_iload (np := 21) (x := 1) (by decide +kernel) rfl (by decide) ?_
          obtain ⟨u2156, q2157⟩ : ∃ z, (h2117 (r1 + 11) 2) = 2147483648 + z := ⟨(h2117 (r1 + 11) 2) - 2147483648, by first | decide | omega⟩
          refine x_ast (np := 22) (x := 0) (kd := 1) (n := 400) (i := u2156) (by decide +kernel) (Or.inl rfl) (ta_12_400 t3) (by first | decide | omega) (by first | decide | omega) (by decide) (by decide) (fun z => absurd z (by decide)) ?_
          have j2159 := jU (e := u2156) (v := 2147485652) u2156 j2118 (rg_T12_0_1_400 t3) (by first | decide | omega) (by first | decide | omega) (by first | decide | omega)
          have f2161 := jF (e := u2156) (v := 2147485652) u2156 f2124 (rg_T12_0_1_400 t3) (by first | decide | omega) (by first | decide | omega) (by decide)
          have f2162 := jF (e := u2156) (v := 2147485652) u2156 f2125 (rg_T12_0_1_400 t3) (by first | decide | omega) (by first | decide | omega) (by decide)
          generalize e2160 : x_up h2117 (r1 + 12) u2156 2147485652 = h2158 at j2159 f2161 f2162 ⊢
          refine x_aload (np := 23) (x := 0) (by decide +kernel) rfl (x_nc_le (tn_11 t3)) ?_
          refine x_dup (np := 24) (x := 0) (by decide +kernel) (by have z := x_nc_le (k := (r1 + 11)) (tn_11 t3); unfold x_r; omega) ?_
          have q2163 : h2158 (r1 + 11) 2 = h2117 (r1 + 11) 2 := by rw [← e2160]; exact x_up_k tof_11_12
          refine x_getC (np := 27) (x := 130) (f := 2) (q := (h2117 (r1 + 11) 2)) (by decide +kernel) (by decide) (tg_11_130_2_0 t3) q2163 (fun l2164 => ?_)
          refine x_const (np := 28) (x := 9223372043297226753) (a := 2147483649) (by decide +kernel) (by decide) (by decide) ?_
          refine x_iadd (np := 29) (x := 0) (v := (1 + (h2117 (r1 + 11) 2))) (by decide +kernel) l2151 (by decide) (by first | decide | omega) (by first | decide | omega) ?_
          refine x_putI (np := 32) (x := 130) (f := 2) (by decide +kernel) (tg_11_130_2_0 t3) (by first | decide | omega) (Or.inl (by decide)) ?_
          have j2166 := jU (e := 2) (v := (1 + (h2117 (r1 + 11) 2))) 0 j2159 (rg_T11_2_0_1 t3) (by first | decide | omega) (by first | decide | omega) (by first | decide | omega)
          have f2168 := jF (e := 2) (v := (1 + (h2117 (r1 + 11) 2))) 0 f2161 (rg_T11_2_0_1 t3) (by first | decide | omega) (by first | decide | omega) (by decide)
          have f2169 := jF (e := 2) (v := (1 + (h2117 (r1 + 11) 2))) 0 f2162 (rg_T11_2_0_1 t3) (by first | decide | omega) (by first | decide | omega) (by decide)
          generalize e2167 : x_up h2158 (r1 + 11) 2 (1 + (h2117 (r1 + 11) 2)) = h2165 at j2166 f2168 f2169 ⊢
          refine x_const (np := 33) (x := 9223372043297226753) (a := 2147483649) (by decide +kernel) (by decide) (by decide) ?_
          refine x_retI (np := 34) (x := 0) (by decide +kernel) (by decide) (Or.inr ⟨by decide +kernel, by first | decide | omega, by first | decide | omega⟩) ⟨_, rfl, (by decide), ?_⟩
          refine x_ifz (k := 1) (tg := 54) (np := 52) (by decide +kernel) (by decide) (by decide) (fun q2170 => ?_) (fun q2171 => ?_)
          · have q2170 : 2147483649 ≠ 2147483648 := q2170
            refine x_iinc (np := 57) (i := 2) (j := 2147483649) (v := (1 + v2060)) (lo' := [x_r 62, iv_c 2147483652, iv_c (1 + v2060)]) (by decide +kernel) (by decide) (by decide) rfl (by first | decide | omega) (by first | decide | omega) (by first | decide | omega) rfl ?_
            refine x_goto (np := 60) (x := 12) (by decide +kernel) ?_
            have q2172 : h2165 1 2 = h2158 1 2 := by rw [← e2167]; exact x_up_k (Ne.symm (tne_11_1 t3))
            have q2173 : h2158 1 2 = h2117 1 2 := by rw [← e2160]; exact x_up_k (Ne.symm (tne_12_1 t3))
            have q2174 : h2165 62 1 = h2158 62 1 := by rw [← e2167]; exact x_up_k (Ne.symm (tne_11_62 t3))
            have q2175 : h2158 62 1 = h2117 62 1 := by rw [← e2160]; exact x_up_k (Ne.symm (tne_12_62 t3))
            have q2176 : h2117 62 1 = h2086 62 1 := f2119 62 1 (by decide +kernel)
            have q2177 : h2086 62 1 = h2062 62 1 := f2088 62 1 (by decide +kernel)
            have q2178 : h2062 62 1 = h10 62 1 := f2063 62 1 (by decide +kernel)
            have q2179 : h10 62 1 = h 62 1 := f12 62 1 (by decide +kernel)
            have q2180 : h2165 (r1 + 11) 2 = (1 + (h2117 (r1 + 11) 2)) := by rw [← e2167]; exact x_up_at
            have e2181 : cl9 h2165 = (1 + (h2117 (r1 + 11) 2)) := (congrArg (fun z => h2165 z 2) ((((((q2174.trans q2175).trans q2176).trans q2177).trans q2178).trans q2179).trans q2)).trans q2180
            obtain ⟨w2182, e2183⟩ := Tk.yes c2092 (by first | decide | omega)
            have q2184 : h2165 1 2 = h2158 1 2 := by rw [← e2167]; exact x_up_k (Ne.symm (tne_11_1 t3))
            have q2185 : h2158 1 2 = h2117 1 2 := by rw [← e2160]; exact x_up_k (Ne.symm (tne_12_1 t3))
            exact i2071 (1 + v2060) h2165 (by first | decide | omega) (by first | decide | omega) (by first | decide | omega) (by first | decide | omega) (by first | decide | omega) j2166 f2169 (gQ_st (t := 1) m2069 w2182 rfl e2183 c2123 rfl (by first | decide | omega) (show h2117 1 2 = h2165 1 2 by first | decide | omega))
          have q2171 : ¬ (2147483649 ≠ 2147483648) := q2171
          exfalso; omega
        have q2153 : ¬ ((h2117 (r1 + 11) 2) < 2147484048) := q2153
        refine x_const (np := 11) (x := 9223372039002259456) (a := 2147483648) (by decide +kernel) (by decide) (by decide) ?_
        refine x_retI (np := 12) (x := 0) (by decide +kernel) (by decide) (Or.inr ⟨by decide +kernel, by first | decide | omega, by first | decide | omega⟩) ⟨_, rfl, (by decide), ?_⟩
        refine x_ifz (k := 1) (tg := 54) (np := 52) (by decide +kernel) (by decide) (by decide) (fun q2186 => ?_) (fun q2187 => ?_)
        · have q2186 : 2147483648 ≠ 2147483648 := q2186
          exfalso; omega
        have q2187 : ¬ (2147483648 ≠ 2147483648) := q2187
        refine x_const (np := 53) (x := 9223372039002259456) (a := 2147483648) (by decide +kernel) (by decide) (by decide) ?_
        have q2188 : h2117 62 1 = h2086 62 1 := f2119 62 1 (by decide +kernel)
        have q2189 : h2086 62 1 = h2062 62 1 := f2088 62 1 (by decide +kernel)
        have q2190 : h2062 62 1 = h10 62 1 := f2063 62 1 (by decide +kernel)
        have q2191 : h10 62 1 = h 62 1 := f12 62 1 (by decide +kernel)
        obtain ⟨w2192, e2193⟩ := Tk.yes c2092 (by first | decide | omega)
        refine x_retI (np := 54) (x := 0) (by decide +kernel) (by decide) (Or.inr ⟨by decide +kernel, by first | decide | omega, by first | decide | omega⟩) ⟨_, rfl, (by decide), ?_⟩
        exact ⟨j2118, f2124, (by first | decide | omega), (fun z => by first | decide | omega), (fun z => by first | decide | omega), (gQ_f (t := 1) m2069 w2192 rfl e2193 c2123 rfl (by first | decide | omega) (by first | decide | omega))⟩
    have q2194 : h10 62 1 = h 62 1 := f12 62 1 (by decide +kernel)
    exact p2065 _ 2147483648 h10 (Nat.lt_succ_self _) (by first | decide | omega) (by first | decide | omega) (by first | decide | omega) (by first | decide | omega) j11 (Fr.refl _ _) (gQ_in (t := 1) c16 rfl (by first | decide | omega) rfl)
  have q23 : ¬ (v7 ≠ 2147483648) := q23
  refine x_const (np := 9) (x := 9223372039002259456) (a := 2147483648) (by decide +kernel) (by decide) (by decide) ?_
  have q2195 : h10 62 1 = h 62 1 := f12 62 1 (by decide +kernel)
  refine x_retI (np := 10) (x := 0) (by decide +kernel) (by decide) (Or.inr ⟨by decide +kernel, by first | decide | omega, by first | decide | omega⟩) ⟨_, rfl, (by decide), ?_⟩
  exact ⟨j11, f17, (by first | decide | omega), (fun z => by first | decide | omega), (fun z => by first | decide | omega), (gQ_no (t := 1) c16 rfl (by first | decide | omega) (by first | decide | omega))⟩
set_option maxHeartbeats 0 in
/-- LentNames$CustomReader.readCondition(I)Z -/
theorem c46_62_c4 {sc : Nat × Nat} {d  : Nat} {h : xh} {tB : Nat → Nat} {tN : Nat} (hJ : J h) (hr0 : (cl9 h) + 5 ≤ (h 1 2)) (hT : Tp tB tN h) : X sc 46 (d + 16) (xI fun r h' => J h' ∧ Fr 161 h h' ∧ (2147483648 ≤ r ∧ r ≤ 2147483649) ∧ (r = 2147483649 → h 1 2 + 1 ≤ h' 1 2) ∧ (r = 2147483649 → cl9 h' + h 1 2 ≤ h' 1 2 + cl9 h) ∧ G tB tN (Kd.seq 2) 4 (h 1 2) (rs r (h' 1 2))) 0 0 0 [x_r 62, iv_c 2147483652, 147573952589676412928] [] h := by
  have hF := Fr.refl 161 h
  obtain ⟨r1, q2, t3⟩ : ∃ z, (h 62 1) = z + 11 ∧ tw z := by
    rcases hJ.2.2.2.2.2.2.2 with z | z
    · exact ⟨17, by rw [z], Or.inl rfl⟩
    · exact ⟨31, by rw [z], Or.inr rfl⟩
  have b4 := jB (e := 2) 0 hJ (rg_T11_2_0_1 t3) (by first | decide | omega) (by first | decide | omega)
  have e5 : cl9 h = (h (r1 + 11) 2) := (congrArg (fun z => h z 2) q2).trans rfl
  have b6 := jB (e := 2) 0 hJ rg_1_2_0_1 (by first | decide | omega) (by first | decide | omega)
  refine x_aload (np := 1) (x := 0) (by decide +kernel) rfl (x_nc_le (by decide)) ?_
  refine x_iload (np := 2) (x := 1) (by decide +kernel) rfl (by decide) ?_
  refine x_cI (t := 6) (mj := 47) (n := 2) (rc := 4) (ml := 3) (nr := 0) (np := 5) (as := [x_r 62, iv_c 2147483652]) (rest := []) (lo1 := [x_r 62, iv_c 2147483652, 147573952589676412928]) (by decide +kernel) (by decide) (by decide +kernel) (x_rb_of (by decide +kernel)) rfl rfl (x_wr (by decide) (x_wi (by decide) x_wn)) x_wn (by decide) rfl (c47_62_c4 hJ   (by first | decide | omega) hT) (fun v7 h10 l8 q9 => ?_)
  obtain ⟨j11, f12, b13, c14, c15, c16⟩ := q9
  have f17 := Fr.trans hF f12 (by decide)
  have b18 := jB (e := 2) 0 j11 rg_1_2_0_1 (by first | decide | omega) (by first | decide | omega)
  have q19 : h10 62 1 = h 62 1 := f12 62 1 (by decide +kernel)
  have b20 := jB (e := 2) 0 j11 (rg_T11_2_0_1 t3) (by first | decide | omega) (by first | decide | omega)
  have e21 : cl9 h10 = (h10 (r1 + 11) 2) := (congrArg (fun z => h10 z 2) (q19.trans q2)).trans rfl
  refine x_ifz (k := 1) (tg := 10) (np := 8) (by decide +kernel) (by decide) l8 (fun q22 => ?_) (fun q23 => ?_)
  · have q22 : v7 ≠ 2147483648 := q22
    have b24 := c14 (by first | decide | omega)
    have b25 := c15 (by first | decide | omega)
    refine x_const (np := 11) (x := 9223372039002259456) (a := 2147483648) (by decide +kernel) (by decide) (by decide) ?_
    refine x_istore (np := 12) (x := 2) (lo' := [x_r 62, iv_c 2147483652, iv_c 2147483648]) (by decide +kernel) (by decide) (Nat.le_of_ble_eq_true rfl) rfl ?_
    have p2065 : ∀ (n : Nat) (v2060 : Nat) (h2062 : xh), 4294967296 - v2060 < n → (2147483648 ≤ v2060 ∧ v2060 ≤ 2147484047) → cl9 h2062 + h 1 2 ≤ h2062 1 2 + cl9 h → h 1 2 + 1 ≤ h2062 1 2 → v2060 ≤ h2062 1 2 → J h2062 → Fr 161 h10 h2062 → Res tB tN (Kd.lp 2) 4 (h2062 1 2) (Kd.seq 2) 4 (h 1 2) → X sc 46 (d + 16) (xI fun r h' => J h' ∧ Fr 161 h h' ∧ (2147483648 ≤ r ∧ r ≤ 2147483649) ∧ (r = 2147483649 → h 1 2 + 1 ≤ h' 1 2) ∧ (r = 2147483649 → cl9 h' + h 1 2 ≤ h' 1 2 + cl9 h) ∧ G tB tN (Kd.seq 2) 4 (h 1 2) (rs r (h' 1 2))) 0 0 12 [x_r 62, iv_c 2147483652, iv_c v2060] [] h2062 := by
      intro n
      induction n with
      | zero => intro v2060 h2062 q2070; exact absurd q2070 (Nat.not_lt_zero _)
      | succ n i2071 =>
        intro v2060 h2062 q2070 b2061 b2066 b2067 b2068 j2064 f2063 m2069
        have f2072 := Fr.trans f17 f2063 (by decide)
        have b2073 := jB (e := 2) 0 j2064 rg_1_2_0_1 (by first | decide | omega) (by first | decide | omega)
        have q2074 : h2062 62 1 = h10 62 1 := f2063 62 1 (by decide +kernel)
        have q2075 : h10 62 1 = h 62 1 := f12 62 1 (by decide +kernel)
        have b2076 := jB (e := 2) 0 j2064 (rg_T11_2_0_1 t3) (by first | decide | omega) (by first | decide | omega)
        have e2077 : cl9 h2062 = (h2062 (r1 + 11) 2) := (congrArg (fun z => h2062 z 2) ((q2074.trans q2075).trans q2)).trans rfl
        refine x_iload (np := 13) (x := 2) (by decide +kernel) rfl (by first | decide | omega) ?_
        refine x_const (np := 16) (x := 9223373756989178256) (a := 2147484048) (by decide +kernel) (by decide) (by decide) ?_
        refine x_icmp (k := 3) (tg := 60) (np := 19) (by decide +kernel) (by decide) (by first | decide | omega) (by decide) (fun q2078 => ?_) (fun q2079 => ?_)
        · have q2078 : 2147484048 ≤ v2060 := q2078
          exfalso; omega
        have q2079 : ¬ (2147484048 ≤ v2060) := q2079
        refine x_aload (np := 20) (x := 0) (by decide +kernel) rfl (x_nc_le (by decide)) ?_
        have q2080 : h2062 62 0 = 1 := by have z := jB (e := 0) 0 j2064 rg_62_0_0_1 (by decide) (by decide); omega
        refine x_getR (np := 23) (x := 192) (f := 0) (q := 1) (by decide +kernel) (by decide) (by decide +kernel) q2080 ?_
        refine x_ldcB (i := 15) (idx := 64) (tx := "or") (by rw [tb_y46]; exact List.mem_of_getElem? (i := 34) rfl) (by decide) (by rw [tb_b46]; decide +kernel) ?_
        have m2085 := Tp.fr hT f12 (by decide) (by decide)
        have m2084 := Tp.fr m2085 f2063 (by decide) (by decide)
        refine x_cI (t := 6) (mj := 78) (n := 2) (rc := 8) (ml := 2) (nr := 0) (np := 28) (as := [x_r 1, x_b (15 + 1)]) (rest := []) (lo1 := [x_r 1, x_b (15 + 1)]) (by decide +kernel) (by decide) (by decide +kernel) (x_rb_of (by decide +kernel)) rfl rfl (x_wr (by decide) (x_wB (by decide) x_wn)) x_wn (by decide) rfl (c78_1_S0 j2064  (by decide) m2084) (fun v2081 h2086 l2082 q2083 => ?_)
        obtain ⟨j2087, f2088, b2089, c2090, c2091, c2092⟩ := q2083
        have f2093 := Fr.trans f2072 f2088 (by decide)
        have f2094 := Fr.trans f2063 f2088 (by decide)
        have b2095 := jB (e := 2) 0 j2087 rg_1_2_0_1 (by first | decide | omega) (by first | decide | omega)
        have b2096 : iv_tl 15 = 2 := by decide
        refine x_ifz (k := 0) (tg := 60) (np := 31) (by decide +kernel) (by decide) l2082 (fun q2097 => ?_) (fun q2098 => ?_)
        · have q2097 : v2081 = 2147483648 := q2097
          have b2099 := c2091 (by first | decide | omega)
          refine x_const (np := 61) (x := 9223372043297226753) (a := 2147483649) (by decide +kernel) (by decide) (by decide) ?_
          have q2100 : h2086 62 1 = h2062 62 1 := f2088 62 1 (by decide +kernel)
          have q2101 : h2062 62 1 = h10 62 1 := f2063 62 1 (by decide +kernel)
          have q2102 : h10 62 1 = h 62 1 := f12 62 1 (by decide +kernel)
          have q2103 : h2086 (r1 + 11) 2 = h2062 (r1 + 11) 2 := jK 0 f2088 (rg_T11_2_0_1 t3) (by first | decide | omega) (by first | decide | omega) (by decide)
          have e2104 : cl9 h2086 = (h2062 (r1 + 11) 2) := (congrArg (fun z => h2086 z 2) (((q2100.trans q2101).trans q2102).trans q2)).trans q2103
          obtain ⟨w2105, e2106⟩ := Tk.no c2092 (by first | decide | omega)
          refine x_retI (np := 62) (x := 0) (by decide +kernel) (by decide) (Or.inr ⟨by decide +kernel, by first | decide | omega, by first | decide | omega⟩) ⟨_, rfl, (by decide), ?_⟩
          exact ⟨j2087, f2093, (by first | decide | omega), (fun z => by first | decide | omega), (fun z => by first | decide | omega), (gQ_e (t := 2) m2069 w2105 rfl (by first | decide | omega) (show h2062 1 2 = h2086 1 2 by first | decide | omega))⟩
        have q2098 : ¬ (v2081 = 2147483648) := q2098
        have b2107 := c2090 (by first | decide | omega)
        refine x_aload (np := 32) (x := 0) (by decide +kernel) rfl (x_nc_le (by decide)) ?_
        refine x_iload (np := 33) (x := 1) (by decide +kernel) rfl (by decide) ?_
        have q2108 : h2086 62 1 = h2062 62 1 := f2088 62 1 (by decide +kernel)
        have q2109 : h2062 62 1 = h10 62 1 := f2063 62 1 (by decide +kernel)
        have q2110 : h10 62 1 = h 62 1 := f12 62 1 (by decide +kernel)
        have q2111 : h2086 (r1 + 11) 2 = h2062 (r1 + 11) 2 := jK 0 f2088 (rg_T11_2_0_1 t3) (by first | decide | omega) (by first | decide | omega) (by decide)
        have e2112 : cl9 h2086 = (h2062 (r1 + 11) 2) := (congrArg (fun z => h2086 z 2) (((q2108.trans q2109).trans q2110).trans q2)).trans q2111
        have m2116 := Tp.fr m2084 f2088 (by decide) (by decide)
        refine x_cI (t := 6) (mj := 47) (n := 2) (rc := 4) (ml := 3) (nr := 0) (np := 36) (as := [x_r 62, iv_c 2147483652]) (rest := []) (lo1 := [x_r 62, iv_c 2147483652, 147573952589676412928]) (by decide +kernel) (by decide) (by decide +kernel) (x_rb_of (by decide +kernel)) rfl rfl (x_wr (by decide) (x_wi (by decide) x_wn)) x_wn (by decide) rfl (c47_62_c4 j2087   (by first | decide | omega) m2116) (fun v2113 h2117 l2114 q2115 => ?_)
        obtain ⟨j2118, f2119, b2120, c2121, c2122, c2123⟩ := q2115
        have f2124 := Fr.trans f2093 f2119 (by decide)
        have f2125 := Fr.trans f2094 f2119 (by decide)
        have b2126 := jB (e := 2) 0 j2118 rg_1_2_0_1 (by first | decide | omega) (by first | decide | omega)
        have q2127 : h2086 62 1 = h2062 62 1 := f2088 62 1 (by decide +kernel)
        have q2128 : h2062 62 1 = h10 62 1 := f2063 62 1 (by decide +kernel)
        have q2129 : h10 62 1 = h 62 1 := f12 62 1 (by decide +kernel)
        have q2130 : h2086 (r1 + 11) 2 = h2062 (r1 + 11) 2 := jK 0 f2088 (rg_T11_2_0_1 t3) (by first | decide | omega) (by first | decide | omega) (by decide)
        have q2131 : h2117 62 1 = h2086 62 1 := f2119 62 1 (by decide +kernel)
        have q2132 : h2086 62 1 = h2062 62 1 := f2088 62 1 (by decide +kernel)
        have q2133 : h2062 62 1 = h10 62 1 := f2063 62 1 (by decide +kernel)
        have q2134 : h10 62 1 = h 62 1 := f12 62 1 (by decide +kernel)
        have b2135 := jB (e := 2) 0 j2118 (rg_T11_2_0_1 t3) (by first | decide | omega) (by first | decide | omega)
        have e2136 : cl9 h2117 = (h2117 (r1 + 11) 2) := (congrArg (fun z => h2117 z 2) ((((q2131.trans q2132).trans q2133).trans q2134).trans q2)).trans rfl
        refine x_ifz (k := 0) (tg := 52) (np := 39) (by decide +kernel) (by decide) l2114 (fun q2137 => ?_) (fun q2138 => ?_)
        · have q2137 : v2113 = 2147483648 := q2137
          refine x_const (np := 53) (x := 9223372039002259456) (a := 2147483648) (by decide +kernel) (by decide) (by decide) ?_
          have q2139 : h2117 62 1 = h2086 62 1 := f2119 62 1 (by decide +kernel)
          have q2140 : h2086 62 1 = h2062 62 1 := f2088 62 1 (by decide +kernel)
          have q2141 : h2062 62 1 = h10 62 1 := f2063 62 1 (by decide +kernel)
          have q2142 : h10 62 1 = h 62 1 := f12 62 1 (by decide +kernel)
          obtain ⟨w2143, e2144⟩ := Tk.yes c2092 (by first | decide | omega)
          refine x_retI (np := 54) (x := 0) (by decide +kernel) (by decide) (Or.inr ⟨by decide +kernel, by first | decide | omega, by first | decide | omega⟩) ⟨_, rfl, (by decide), ?_⟩
          exact ⟨j2118, f2124, (by first | decide | omega), (fun z => by first | decide | omega), (fun z => by first | decide | omega), (gQ_f (t := 2) m2069 w2143 rfl e2144 c2123 rfl (by first | decide | omega) (by first | decide | omega))⟩
        have q2138 : ¬ (v2113 = 2147483648) := q2138
        have b2145 := c2121 (by first | decide | omega)
        have b2146 := c2122 (by first | decide | omega)
        refine x_aload (np := 40) (x := 0) (by decide +kernel) rfl (x_nc_le (by decide)) ?_
        have q2147 : h2117 62 1 = h2086 62 1 := f2119 62 1 (by decide +kernel)
        have q2148 : h2086 62 1 = h2062 62 1 := f2088 62 1 (by decide +kernel)
        have q2149 : h2062 62 1 = h10 62 1 := f2063 62 1 (by decide +kernel)
        have q2150 : h10 62 1 = h 62 1 := f12 62 1 (by decide +kernel)
        refine x_getR (np := 43) (x := 193) (f := 1) (q := (r1 + 11)) (by decide +kernel) (by decide) (by decide +kernel) ((((q2147.trans q2148).trans q2149).trans q2150).trans q2) ?_
        refine x_const (np := 46) (x := 9223380650411689941) (a := 2147485653) (by decide +kernel) (by decide) (by decide) ?_
        refine x_nI (t := 6) (mj := 36) (n := 2) (rc := 3) (ml := 2) (nr := 0) (np := 49) (as := [x_r (r1 + 11), iv_c 2147485653]) (rest := []) (lo1 := [x_r (r1 + 11), iv_c 2147485653]) (by decide +kernel) (by decide) (by decide +kernel) (x_rb_of (tr_11_3 t3)) rfl rfl (x_wr (tn_11 t3) (x_wi (by decide) x_wn)) x_wn (by decide) rfl ?_
        refine x_aload (np := 1) (x := 0) (by decide +kernel) rfl (x_nc_le (tn_11 t3)) ?_
        refine x_getC (np := 4) (x := 130) (f := 2) (q := (h2117 (r1 + 11) 2)) (by decide +kernel) (by decide) (tg_11_130_2_0 t3) rfl (fun l2151 => ?_)
        refine x_const (np := 7) (x := 9223373756989178256) (a := 2147484048) (by decide +kernel) (by decide) (by decide) ?_
        refine x_icmp (k := 2) (tg := 12) (np := 10) (by decide +kernel) (by decide) l2151 (by decide) (fun q2152 => ?_) (fun q2153 => ?_)
        · have q2152 : (h2117 (r1 + 11) 2) < 2147484048 := q2152
          refine x_aload (np := 13) (x := 0) (by decide +kernel) rfl (x_nc_le (tn_11 t3)) ?_
          have q2154 : h2117 (r1 + 11) 0 = (r1 + 12) := tf_11_0 j2118 t3
          refine x_getR (np := 16) (x := 128) (f := 0) (q := (r1 + 12)) (by decide +kernel) (by decide) (tg_11_128_0_1 t3) q2154 ?_
          refine x_aload (np := 17) (x := 0) (by decide +kernel) rfl (x_nc_le (tn_11 t3)) ?_
          refine x_getC (np := 20) (x := 130) (f := 2) (q := (h2117 (r1 + 11) 2)) (by decide +kernel) (by decide) (tg_11_130_2_0 t3) rfl (fun l2155 => ?_)
          refine x_iload (np := 21) (x := 1) (by decide +kernel) rfl (by decide) ?_
          obtain ⟨u2156, q2157⟩ : ∃ z, (h2117 (r1 + 11) 2) = 2147483648 + z := ⟨(h2117 (r1 + 11) 2) - 2147483648, by first | decide | omega⟩
          refine x_ast (np := 22) (x := 0) (kd := 1) (n := 400) (i := u2156) (by decide +kernel) (Or.inl rfl) (ta_12_400 t3) (by first | decide | omega) (by first | decide | omega) (by decide) (by decide) (fun z => absurd z (by decide)) ?_
          have j2159 := jU (e := u2156) (v := 2147485653) u2156 j2118 (rg_T12_0_1_400 t3) (by first | decide | omega) (by first | decide | omega) (by first | decide | omega)
          have f2161 := jF (e := u2156) (v := 2147485653) u2156 f2124 (rg_T12_0_1_400 t3) (by first | decide | omega) (by first | decide | omega) (by decide)
          have f2162 := jF (e := u2156) (v := 2147485653) u2156 f2125 (rg_T12_0_1_400 t3) (by first | decide | omega) (by first | decide | omega) (by decide)
          generalize e2160 : x_up h2117 (r1 + 12) u2156 2147485653 = h2158 at j2159 f2161 f2162 ⊢
          refine x_aload (np := 23) (x := 0) (by decide +kernel) rfl (x_nc_le (tn_11 t3)) ?_
          refine x_dup (np := 24) (x := 0) (by decide +kernel) (by have z := x_nc_le (k := (r1 + 11)) (tn_11 t3); unfold x_r; omega) ?_
          have q2163 : h2158 (r1 + 11) 2 = h2117 (r1 + 11) 2 := by rw [← e2160]; exact x_up_k tof_11_12
          refine x_getC (np := 27) (x := 130) (f := 2) (q := (h2117 (r1 + 11) 2)) (by decide +kernel) (by decide) (tg_11_130_2_0 t3) q2163 (fun l2164 => ?_)
          refine x_const (np := 28) (x := 9223372043297226753) (a := 2147483649) (by decide +kernel) (by decide) (by decide) ?_
          refine x_iadd (np := 29) (x := 0) (v := (1 + (h2117 (r1 + 11) 2))) (by decide +kernel) l2151 (by decide) (by first | decide | omega) (by first | decide | omega) ?_
          refine x_putI (np := 32) (x := 130) (f := 2) (by decide +kernel) (tg_11_130_2_0 t3) (by first | decide | omega) (Or.inl (by decide)) ?_
          have j2166 := jU (e := 2) (v := (1 + (h2117 (r1 + 11) 2))) 0 j2159 (rg_T11_2_0_1 t3) (by first | decide | omega) (by first | decide | omega) (by first | decide | omega)
          have f2168 := jF (e := 2) (v := (1 + (h2117 (r1 + 11) 2))) 0 f2161 (rg_T11_2_0_1 t3) (by first | decide | omega) (by first | decide | omega) (by decide)
          have f2169 := jF (e := 2) (v := (1 + (h2117 (r1 + 11) 2))) 0 f2162 (rg_T11_2_0_1 t3) (by first | decide | omega) (by first | decide | omega) (by decide)
          generalize e2167 : x_up h2158 (r1 + 11) 2 (1 + (h2117 (r1 + 11) 2)) = h2165 at j2166 f2168 f2169 ⊢
          refine x_const (np := 33) (x := 9223372043297226753) (a := 2147483649) (by decide +kernel) (by decide) (by decide) ?_
          refine x_retI (np := 34) (x := 0) (by decide +kernel) (by decide) (Or.inr ⟨by decide +kernel, by first | decide | omega, by first | decide | omega⟩) ⟨_, rfl, (by decide), ?_⟩
          refine x_ifz (k := 1) (tg := 54) (np := 52) (by decide +kernel) (by decide) (by decide) (fun q2170 => ?_) (fun q2171 => ?_)
          · have q2170 : 2147483649 ≠ 2147483648 := q2170
            refine x_iinc (np := 57) (i := 2) (j := 2147483649) (v := (1 + v2060)) (lo' := [x_r 62, iv_c 2147483652, iv_c (1 + v2060)]) (by decide +kernel) (by decide) (by decide) rfl (by first | decide | omega) (by first | decide | omega) (by first | decide | omega) rfl ?_
            refine x_goto (np := 60) (x := 12) (by decide +kernel) ?_
            have q2172 : h2165 1 2 = h2158 1 2 := by rw [← e2167]; exact x_up_k (Ne.symm (tne_11_1 t3))
            have q2173 : h2158 1 2 = h2117 1 2 := by rw [← e2160]; exact x_up_k (Ne.symm (tne_12_1 t3))
            have q2174 : h2165 62 1 = h2158 62 1 := by rw [← e2167]; exact x_up_k (Ne.symm (tne_11_62 t3))
            have q2175 : h2158 62 1 = h2117 62 1 := by rw [← e2160]; exact x_up_k (Ne.symm (tne_12_62 t3))
            have q2176 : h2117 62 1 = h2086 62 1 := f2119 62 1 (by decide +kernel)
            have q2177 : h2086 62 1 = h2062 62 1 := f2088 62 1 (by decide +kernel)
            have q2178 : h2062 62 1 = h10 62 1 := f2063 62 1 (by decide +kernel)
            have q2179 : h10 62 1 = h 62 1 := f12 62 1 (by decide +kernel)
            have q2180 : h2165 (r1 + 11) 2 = (1 + (h2117 (r1 + 11) 2)) := by rw [← e2167]; exact x_up_at
            have e2181 : cl9 h2165 = (1 + (h2117 (r1 + 11) 2)) := (congrArg (fun z => h2165 z 2) ((((((q2174.trans q2175).trans q2176).trans q2177).trans q2178).trans q2179).trans q2)).trans q2180
            obtain ⟨w2182, e2183⟩ := Tk.yes c2092 (by first | decide | omega)
            have q2184 : h2165 1 2 = h2158 1 2 := by rw [← e2167]; exact x_up_k (Ne.symm (tne_11_1 t3))
            have q2185 : h2158 1 2 = h2117 1 2 := by rw [← e2160]; exact x_up_k (Ne.symm (tne_12_1 t3))
            exact i2071 (1 + v2060) h2165 (by first | decide | omega) (by first | decide | omega) (by first | decide | omega) (by first | decide | omega) (by first | decide | omega) j2166 f2169 (gQ_st (t := 2) m2069 w2182 rfl e2183 c2123 rfl (by first | decide | omega) (show h2117 1 2 = h2165 1 2 by first | decide | omega))
          have q2171 : ¬ (2147483649 ≠ 2147483648) := q2171
          exfalso; omega
        have q2153 : ¬ ((h2117 (r1 + 11) 2) < 2147484048) := q2153
        refine x_const (np := 11) (x := 9223372039002259456) (a := 2147483648) (by decide +kernel) (by decide) (by decide) ?_
        refine x_retI (np := 12) (x := 0) (by decide +kernel) (by decide) (Or.inr ⟨by decide +kernel, by first | decide | omega, by first | decide | omega⟩) ⟨_, rfl, (by decide), ?_⟩
        refine x_ifz (k := 1) (tg := 54) (np := 52) (by decide +kernel) (by decide) (by decide) (fun q2186 => ?_) (fun q2187 => ?_)
        · have q2186 : 2147483648 ≠ 2147483648 := q2186
          exfalso; omega
        have q2187 : ¬ (2147483648 ≠ 2147483648) := q2187
        refine x_const (np := 53) (x := 9223372039002259456) (a := 2147483648) (by decide +kernel) (by decide) (by decide) ?_
        have q2188 : h2117 62 1 = h2086 62 1 := f2119 62 1 (by decide +kernel)
        have q2189 : h2086 62 1 = h2062 62 1 := f2088 62 1 (by decide +kernel)
        have q2190 : h2062 62 1 = h10 62 1 := f2063 62 1 (by decide +kernel)
        have q2191 : h10 62 1 = h 62 1 := f12 62 1 (by decide +kernel)
        obtain ⟨w2192, e2193⟩ := Tk.yes c2092 (by first | decide | omega)
        refine x_retI (np := 54) (x := 0) (by decide +kernel) (by decide) (Or.inr ⟨by decide +kernel, by first | decide | omega, by first | decide | omega⟩) ⟨_, rfl, (by decide), ?_⟩
        exact ⟨j2118, f2124, (by first | decide | omega), (fun z => by first | decide | omega), (fun z => by first | decide | omega), (gQ_f (t := 2) m2069 w2192 rfl e2193 c2123 rfl (by first | decide | omega) (by first | decide | omega))⟩
    have q2194 : h10 62 1 = h 62 1 := f12 62 1 (by decide +kernel)
    exact p2065 _ 2147483648 h10 (Nat.lt_succ_self _) (by first | decide | omega) (by first | decide | omega) (by first | decide | omega) (by first | decide | omega) j11 (Fr.refl _ _) (gQ_in (t := 2) c16 rfl (by first | decide | omega) rfl)
  have q23 : ¬ (v7 ≠ 2147483648) := q23
  refine x_const (np := 9) (x := 9223372039002259456) (a := 2147483648) (by decide +kernel) (by decide) (by decide) ?_
  have q2195 : h10 62 1 = h 62 1 := f12 62 1 (by decide +kernel)
  refine x_retI (np := 10) (x := 0) (by decide +kernel) (by decide) (Or.inr ⟨by decide +kernel, by first | decide | omega, by first | decide | omega⟩) ⟨_, rfl, (by decide), ?_⟩
  exact ⟨j11, f17, (by first | decide | omega), (fun z => by first | decide | omega), (fun z => by first | decide | omega), (gQ_no (t := 2) c16 rfl (by first | decide | omega) (by first | decide | omega))⟩
set_option maxHeartbeats 0 in
/-- LentNames$CustomReader.readAtom(I)Z -/
theorem c48_62_c3 {sc : Nat × Nat} {d  : Nat} {h : xh} {tB : Nat → Nat} {tN : Nat} (hJ : J h) (hr0 : (cl9 h) + 5 ≤ (h 1 2)) (hT : Tp tB tN h) : X sc 48 (d + 17) (xI fun r h' => J h' ∧ Fr 161 h h' ∧ (2147483648 ≤ r ∧ r ≤ 2147483649) ∧ (r = 2147483649 → h 1 2 + 1 ≤ h' 1 2) ∧ (r = 2147483649 → cl9 h' + h 1 2 ≤ h' 1 2 + cl9 h) ∧ G tB tN Kd.atom 3 (h 1 2) (rs r (h' 1 2))) 0 0 0 [x_r 62, iv_c 2147483651] [] h := by
  have hF := Fr.refl 161 h
  obtain ⟨r1, q2, t3⟩ : ∃ z, (h 62 1) = z + 11 ∧ tw z := by
    rcases hJ.2.2.2.2.2.2.2 with z | z
    · exact ⟨17, by rw [z], Or.inl rfl⟩
    · exact ⟨31, by rw [z], Or.inr rfl⟩
  have b4 := jB (e := 2) 0 hJ (rg_T11_2_0_1 t3) (by first | decide | omega) (by first | decide | omega)
  have e5 : cl9 h = (h (r1 + 11) 2) := (congrArg (fun z => h z 2) q2).trans rfl
  have b6 := jB (e := 2) 0 hJ rg_1_2_0_1 (by first | decide | omega) (by first | decide | omega)
  refine x_aload (np := 1) (x := 0) (by decide +kernel) rfl (x_nc_le (by decide)) ?_
  have q7 : h 62 0 = 1 := by have z := jB (e := 0) 0 hJ rg_62_0_0_1 (by decide) (by decide); omega
  refine x_getR (np := 4) (x := 192) (f := 0) (q := 1) (by decide +kernel) (by decide) (by decide +kernel) q7 ?_
  refine x_ldcB (i := 24) (idx := 71) (tx := "not") (by rw [tb_y48]; exact List.mem_of_getElem? (i := 24) rfl) (by decide) (by rw [tb_b48]; decide +kernel) ?_
  refine x_cP (t := 6) (mj := 77) (n := 2) (rc := 8) (ml := 4) (nr := 0) (np := 9) (as := [x_r 1, x_b (24 + 1)]) (rest := []) (lo1 := [x_r 1, x_b (24 + 1), 147573952589676412928, 147573952589676412928]) (by decide +kernel) (by decide) (by decide +kernel) (x_rb_of (by decide +kernel)) rfl rfl (x_wr (by decide) (x_wB (by decide) x_wn)) x_wn (by decide) rfl (c77_1_S0 hJ  (by decide) hT) (fun v8 l9 q10 => ?_)
  obtain ⟨b13, c11, c12⟩ := q10
  refine x_ifz (k := 0) (tg := 59) (np := 12) (by decide +kernel) (by decide) l9 (fun q14 => ?_) (fun q15 => ?_)
  · have q14 : v8 = 2147483648 := q14
    refine x_aload (np := 60) (x := 0) (by decide +kernel) rfl (x_nc_le (by decide)) ?_
    have q16 : h 62 0 = 1 := by have z := jB (e := 0) 0 hJ rg_62_0_0_1 (by decide) (by decide); omega
    refine x_getR (np := 63) (x := 192) (f := 0) (q := 1) (by decide +kernel) (by decide) (by decide +kernel) q16 ?_
    refine x_const (np := 65) (x := 9223372210800951336) (a := 2147483688) (by decide +kernel) (by decide) (by decide) ?_
    refine x_cP (t := 6) (mj := 75) (n := 2) (rc := 8) (ml := 2) (nr := 0) (np := 68) (as := [x_r 1, iv_c 2147483688]) (rest := []) (lo1 := [x_r 1, iv_c 2147483688]) (by decide +kernel) (by decide) (by decide +kernel) (x_rb_of (by decide +kernel)) rfl rfl (x_wr (by decide) (x_wi (by decide) x_wn)) x_wn (by decide) rfl (c75_1 hJ  (by first | decide | omega) hT) (fun v17 l18 q19 => ?_)
    obtain ⟨b22, c20, c21⟩ := q19
    have b23 := jB (e := 1) 0 hJ rg_1_1_0_1 (by first | decide | omega) (by first | decide | omega)
    refine x_ifz (k := 0) (tg := 117) (np := 71) (by decide +kernel) (by decide) l18 (fun q24 => ?_) (fun q25 => ?_)
    · have q24 : v17 = 2147483648 := q24
      refine x_aload (np := 118) (x := 0) (by decide +kernel) rfl (x_nc_le (by decide)) ?_
      have q26 : h 62 0 = 1 := by have z := jB (e := 0) 0 hJ rg_62_0_0_1 (by decide) (by decide); omega
      refine x_getR (np := 121) (x := 192) (f := 0) (q := 1) (by decide +kernel) (by decide) (by decide +kernel) q26 ?_
      refine x_ldcB (i := 25) (idx := 79) (tx := "own") (by rw [tb_y48]; exact List.mem_of_getElem? (i := 25) rfl) (by decide) (by rw [tb_b48]; decide +kernel) ?_
      refine x_cI (t := 6) (mj := 78) (n := 2) (rc := 8) (ml := 2) (nr := 0) (np := 126) (as := [x_r 1, x_b (25 + 1)]) (rest := []) (lo1 := [x_r 1, x_b (25 + 1)]) (by decide +kernel) (by decide) (by decide +kernel) (x_rb_of (by decide +kernel)) rfl rfl (x_wr (by decide) (x_wB (by decide) x_wn)) x_wn (by decide) rfl (c78_1_S0 hJ  (by decide) hT) (fun v27 h30 l28 q29 => ?_)
      obtain ⟨j31, f32, b33, c34, c35, c36⟩ := q29
      have f37 := Fr.trans hF f32 (by decide)
      have b38 := jB (e := 2) 0 j31 rg_1_2_0_1 (by first | decide | omega) (by first | decide | omega)
      have b39 : iv_tl 25 = 3 := by decide
      refine x_ifz (k := 0) (tg := 140) (np := 129) (by decide +kernel) (by decide) l28 (fun q40 => ?_) (fun q41 => ?_)
      · have q40 : v27 = 2147483648 := q40
        have b42 := c35 (by first | decide | omega)
        refine x_aload (np := 141) (x := 0) (by decide +kernel) rfl (x_nc_le (by decide)) ?_
        have q43 : h30 62 0 = 1 := by have z := jB (e := 0) 0 j31 rg_62_0_0_1 (by decide) (by decide); omega
        refine x_getR (np := 144) (x := 192) (f := 0) (q := 1) (by decide +kernel) (by decide) (by decide +kernel) q43 ?_
        refine x_ldcB (i := 26) (idx := 81) (tx := "mine") (by rw [tb_y48]; exact List.mem_of_getElem? (i := 26) rfl) (by decide) (by rw [tb_b48]; decide +kernel) ?_
        have m47 := Tp.fr hT f32 (by decide) (by decide)
        refine x_cI (t := 6) (mj := 78) (n := 2) (rc := 8) (ml := 2) (nr := 0) (np := 149) (as := [x_r 1, x_b (26 + 1)]) (rest := []) (lo1 := [x_r 1, x_b (26 + 1)]) (by decide +kernel) (by decide) (by decide +kernel) (x_rb_of (by decide +kernel)) rfl rfl (x_wr (by decide) (x_wB (by decide) x_wn)) x_wn (by decide) rfl (c78_1_S0 j31  (by decide) m47) (fun v44 h48 l45 q46 => ?_)
        obtain ⟨j49, f50, b51, c52, c53, c54⟩ := q46
        have f55 := Fr.trans f37 f50 (by decide)
        have b56 := jB (e := 2) 0 j49 rg_1_2_0_1 (by first | decide | omega) (by first | decide | omega)
        have b57 : iv_tl 26 = 4 := by decide
        refine x_ifz (k := 0) (tg := 163) (np := 152) (by decide +kernel) (by decide) l45 (fun q58 => ?_) (fun q59 => ?_)
        · have q58 : v44 = 2147483648 := q58
          have b60 := c53 (by first | decide | omega)
          refine x_aload (np := 164) (x := 0) (by decide +kernel) rfl (x_nc_le (by decide)) ?_
          have q61 : h48 62 1 = h30 62 1 := f50 62 1 (by decide +kernel)
          have q62 : h30 62 1 = h 62 1 := f32 62 1 (by decide +kernel)
          have q63 : h48 (r1 + 11) 2 = h30 (r1 + 11) 2 := jK 0 f50 (rg_T11_2_0_1 t3) (by first | decide | omega) (by first | decide | omega) (by decide)
          have q64 : h30 (r1 + 11) 2 = h (r1 + 11) 2 := jK 0 f32 (rg_T11_2_0_1 t3) (by first | decide | omega) (by first | decide | omega) (by decide)
          have e65 : cl9 h48 = (h (r1 + 11) 2) := (congrArg (fun z => h48 z 2) ((q61.trans q62).trans q2)).trans (q63.trans q64)
          have m69 := Tp.fr m47 f50 (by decide) (by decide)
          refine x_cI (t := 6) (mj := 49) (n := 1) (rc := 4) (ml := 2) (nr := 0) (np := 167) (as := [x_r 62]) (rest := []) (lo1 := [x_r 62, 147573952589676412928]) (by decide +kernel) (by decide) (by decide +kernel) (x_rb_of (by decide +kernel)) rfl rfl (x_wr (by decide) x_wn) x_wn (by decide) rfl (c49_62 j49  (by first | decide | omega) m69) (fun v66 h70 l67 q68 => ?_)
          obtain ⟨j71, f72, b73, c74, c75, c76⟩ := q68
          have f77 := Fr.trans f55 f72 (by decide)
          have b78 := jB (e := 2) 0 j71 rg_1_2_0_1 (by first | decide | omega) (by first | decide | omega)
          have q79 : h48 62 1 = h30 62 1 := f50 62 1 (by decide +kernel)
          have q80 : h30 62 1 = h 62 1 := f32 62 1 (by decide +kernel)
          have q81 : h48 (r1 + 11) 2 = h30 (r1 + 11) 2 := jK 0 f50 (rg_T11_2_0_1 t3) (by first | decide | omega) (by first | decide | omega) (by decide)
          have q82 : h30 (r1 + 11) 2 = h (r1 + 11) 2 := jK 0 f32 (rg_T11_2_0_1 t3) (by first | decide | omega) (by first | decide | omega) (by decide)
          have q83 : h70 62 1 = h48 62 1 := f72 62 1 (by decide +kernel)
          have q84 : h48 62 1 = h30 62 1 := f50 62 1 (by decide +kernel)
          have q85 : h30 62 1 = h 62 1 := f32 62 1 (by decide +kernel)
          have b86 := jB (e := 2) 0 j71 (rg_T11_2_0_1 t3) (by first | decide | omega) (by first | decide | omega)
          have e87 : cl9 h70 = (h70 (r1 + 11) 2) := (congrArg (fun z => h70 z 2) (((q83.trans q84).trans q85).trans q2)).trans rfl
          refine x_ifz (k := 1) (tg := 172) (np := 170) (by decide +kernel) (by decide) l67 (fun q88 => ?_) (fun q89 => ?_)
          · have q88 : v66 ≠ 2147483648 := q88
            have b90 := c74 (by first | decide | omega)
            have b91 := c75 (by first | decide | omega)
            refine x_aload (np := 173) (x := 0) (by decide +kernel) rfl (x_nc_le (by decide)) ?_
            have q92 : h70 62 0 = 1 := by have z := jB (e := 0) 0 j71 rg_62_0_0_1 (by decide) (by decide); omega
            refine x_getR (np := 176) (x := 192) (f := 0) (q := 1) (by decide +kernel) (by decide) (by decide +kernel) q92 ?_
            refine x_const (np := 178) (x := 9223372296700297276) (a := 2147483708) (by decide +kernel) (by decide) (by decide) ?_
            have m96 := Tp.fr m69 f72 (by decide) (by decide)
            refine x_cI (t := 6) (mj := 76) (n := 2) (rc := 8) (ml := 2) (nr := 0) (np := 181) (as := [x_r 1, iv_c 2147483708]) (rest := []) (lo1 := [x_r 1, iv_c 2147483708]) (by decide +kernel) (by decide) (by decide +kernel) (x_rb_of (by decide +kernel)) rfl rfl (x_wr (by decide) (x_wi (by decide) x_wn)) x_wn (by decide) rfl (c76_1 j71  (by first | decide | omega) m96) (fun v93 h97 l94 q95 => ?_)
            obtain ⟨j98, f99, b100, c101, c102, c103⟩ := q95
            have f104 := Fr.trans f77 f99 (by decide)
            have b105 := jB (e := 2) 0 j98 rg_1_2_0_1 (by first | decide | omega) (by first | decide | omega)
            refine x_ifz (k := 0) (tg := 210) (np := 184) (by decide +kernel) (by decide) l94 (fun q106 => ?_) (fun q107 => ?_)
            · have q106 : v93 = 2147483648 := q106
              have b108 := c102 (by first | decide | omega)
              refine x_aload (np := 211) (x := 0) (by decide +kernel) rfl (x_nc_le (by decide)) ?_
              have q109 : h97 62 0 = 1 := by have z := jB (e := 0) 0 j98 rg_62_0_0_1 (by decide) (by decide); omega
              refine x_getR (np := 214) (x := 192) (f := 0) (q := 1) (by decide +kernel) (by decide) (by decide +kernel) q109 ?_
              refine x_const (np := 216) (x := 9223372305290231870) (a := 2147483710) (by decide +kernel) (by decide) (by decide) ?_
              have m113 := Tp.fr m96 f99 (by decide) (by decide)
              refine x_cI (t := 6) (mj := 76) (n := 2) (rc := 8) (ml := 2) (nr := 0) (np := 219) (as := [x_r 1, iv_c 2147483710]) (rest := []) (lo1 := [x_r 1, iv_c 2147483710]) (by decide +kernel) (by decide) (by decide +kernel) (x_rb_of (by decide +kernel)) rfl rfl (x_wr (by decide) (x_wi (by decide) x_wn)) x_wn (by decide) rfl (c76_1 j98  (by first | decide | omega) m113) (fun v110 h114 l111 q112 => ?_)
              obtain ⟨j115, f116, b117, c118, c119, c120⟩ := q112
              have f121 := Fr.trans f104 f116 (by decide)
              have b122 := jB (e := 2) 0 j115 rg_1_2_0_1 (by first | decide | omega) (by first | decide | omega)
              refine x_ifz (k := 0) (tg := 246) (np := 222) (by decide +kernel) (by decide) l111 (fun q123 => ?_) (fun q124 => ?_)
              · have q123 : v110 = 2147483648 := q123
                have b125 := c119 (by first | decide | omega)
                refine x_const (np := 247) (x := 9223372039002259456) (a := 2147483648) (by decide +kernel) (by decide) (by decide) ?_
                have q126 : h114 62 1 = h97 62 1 := f116 62 1 (by decide +kernel)
                have q127 : h97 62 1 = h70 62 1 := f99 62 1 (by decide +kernel)
                have q128 : h70 62 1 = h48 62 1 := f72 62 1 (by decide +kernel)
                have q129 : h48 62 1 = h30 62 1 := f50 62 1 (by decide +kernel)
                have q130 : h30 62 1 = h 62 1 := f32 62 1 (by decide +kernel)
                have q131 : h114 (r1 + 11) 2 = h97 (r1 + 11) 2 := jK 0 f116 (rg_T11_2_0_1 t3) (by first | decide | omega) (by first | decide | omega) (by decide)
                have q132 : h97 (r1 + 11) 2 = h70 (r1 + 11) 2 := jK 0 f99 (rg_T11_2_0_1 t3) (by first | decide | omega) (by first | decide | omega) (by decide)
                have e133 : cl9 h114 = (h70 (r1 + 11) 2) := (congrArg (fun z => h114 z 2) (((((q126.trans q127).trans q128).trans q129).trans q130).trans q2)).trans (q131.trans q132)
                obtain ⟨w134, e135⟩ := Tk.no c36 (by first | decide | omega)
                obtain ⟨w136, e137⟩ := Tk.no c54 (by first | decide | omega)
                have w138 : An tB tN (h 1 2) := gA_an (Is.no c12 (by first | decide | omega)) rfl (Is.no c21 (by first | decide | omega)) rfl w134 rfl w136 (show h30 1 2 = h 1 2 by first | decide | omega)
                obtain ⟨w139, e140⟩ := Tk.no c103 (by first | decide | omega)
                obtain ⟨w141, e142⟩ := Tk.no c120 (by first | decide | omega)
                refine x_retI (np := 248) (x := 0) (by decide +kernel) (by decide) (Or.inr ⟨by decide +kernel, by first | decide | omega, by first | decide | omega⟩) ⟨_, rfl, (by decide), ?_⟩
                exact ⟨j115, f121, (by first | decide | omega), (fun z => by first | decide | omega), (fun z => by first | decide | omega), (gA_c1 w138 (c76 3) (show h48 1 2 = h 1 2 by first | decide | omega) (by first | decide | omega) w139 rfl w141 (show h97 1 2 = h70 1 2 by first | decide | omega) (by first | decide | omega))⟩
              have q124 : ¬ (v110 = 2147483648) := q124
              have b143 := c118 (by first | decide | omega)
              refine x_aload (np := 223) (x := 0) (by decide +kernel) rfl (x_nc_le (by decide)) ?_
              have q144 : h114 62 1 = h97 62 1 := f116 62 1 (by decide +kernel)
              have q145 : h97 62 1 = h70 62 1 := f99 62 1 (by decide +kernel)
              have q146 : h70 62 1 = h48 62 1 := f72 62 1 (by decide +kernel)
              have q147 : h48 62 1 = h30 62 1 := f50 62 1 (by decide +kernel)
              have q148 : h30 62 1 = h 62 1 := f32 62 1 (by decide +kernel)
              have q149 : h114 (r1 + 11) 2 = h97 (r1 + 11) 2 := jK 0 f116 (rg_T11_2_0_1 t3) (by first | decide | omega) (by first | decide | omega) (by decide)
              have q150 : h97 (r1 + 11) 2 = h70 (r1 + 11) 2 := jK 0 f99 (rg_T11_2_0_1 t3) (by first | decide | omega) (by first | decide | omega) (by decide)
              have e151 : cl9 h114 = (h70 (r1 + 11) 2) := (congrArg (fun z => h114 z 2) (((((q144.trans q145).trans q146).trans q147).trans q148).trans q2)).trans (q149.trans q150)
              have m155 := Tp.fr m113 f116 (by decide) (by decide)
              refine x_cI (t := 6) (mj := 49) (n := 1) (rc := 4) (ml := 2) (nr := 0) (np := 226) (as := [x_r 62]) (rest := []) (lo1 := [x_r 62, 147573952589676412928]) (by decide +kernel) (by decide) (by decide +kernel) (x_rb_of (by decide +kernel)) rfl rfl (x_wr (by decide) x_wn) x_wn (by decide) rfl (c49_62 j115  (by first | decide | omega) m155) (fun v152 h156 l153 q154 => ?_)
              obtain ⟨j157, f158, b159, c160, c161, c162⟩ := q154
              have f163 := Fr.trans f121 f158 (by decide)
              have b164 := jB (e := 2) 0 j157 rg_1_2_0_1 (by first | decide | omega) (by first | decide | omega)
              have q165 : h114 62 1 = h97 62 1 := f116 62 1 (by decide +kernel)
              have q166 : h97 62 1 = h70 62 1 := f99 62 1 (by decide +kernel)
              have q167 : h70 62 1 = h48 62 1 := f72 62 1 (by decide +kernel)
              have q168 : h48 62 1 = h30 62 1 := f50 62 1 (by decide +kernel)
              have q169 : h30 62 1 = h 62 1 := f32 62 1 (by decide +kernel)
              have q170 : h114 (r1 + 11) 2 = h97 (r1 + 11) 2 := jK 0 f116 (rg_T11_2_0_1 t3) (by first | decide | omega) (by first | decide | omega) (by decide)
              have q171 : h97 (r1 + 11) 2 = h70 (r1 + 11) 2 := jK 0 f99 (rg_T11_2_0_1 t3) (by first | decide | omega) (by first | decide | omega) (by decide)
              have q172 : h156 62 1 = h114 62 1 := f158 62 1 (by decide +kernel)
              have q173 : h114 62 1 = h97 62 1 := f116 62 1 (by decide +kernel)
              have q174 : h97 62 1 = h70 62 1 := f99 62 1 (by decide +kernel)
              have q175 : h70 62 1 = h48 62 1 := f72 62 1 (by decide +kernel)
              have q176 : h48 62 1 = h30 62 1 := f50 62 1 (by decide +kernel)
              have q177 : h30 62 1 = h 62 1 := f32 62 1 (by decide +kernel)
              have b178 := jB (e := 2) 0 j157 (rg_T11_2_0_1 t3) (by first | decide | omega) (by first | decide | omega)
              have e179 : cl9 h156 = (h156 (r1 + 11) 2) := (congrArg (fun z => h156 z 2) ((((((q172.trans q173).trans q174).trans q175).trans q176).trans q177).trans q2)).trans rfl
              refine x_ifz (k := 0) (tg := 246) (np := 229) (by decide +kernel) (by decide) l153 (fun q180 => ?_) (fun q181 => ?_)
              · have q180 : v152 = 2147483648 := q180
                refine x_const (np := 247) (x := 9223372039002259456) (a := 2147483648) (by decide +kernel) (by decide) (by decide) ?_
                have q182 : h156 62 1 = h114 62 1 := f158 62 1 (by decide +kernel)
                have q183 : h114 62 1 = h97 62 1 := f116 62 1 (by decide +kernel)
                have q184 : h97 62 1 = h70 62 1 := f99 62 1 (by decide +kernel)
                have q185 : h70 62 1 = h48 62 1 := f72 62 1 (by decide +kernel)
                have q186 : h48 62 1 = h30 62 1 := f50 62 1 (by decide +kernel)
                have q187 : h30 62 1 = h 62 1 := f32 62 1 (by decide +kernel)
                obtain ⟨w188, e189⟩ := Tk.no c36 (by first | decide | omega)
                obtain ⟨w190, e191⟩ := Tk.no c54 (by first | decide | omega)
                have w192 : An tB tN (h 1 2) := gA_an (Is.no c12 (by first | decide | omega)) rfl (Is.no c21 (by first | decide | omega)) rfl w188 rfl w190 (show h30 1 2 = h 1 2 by first | decide | omega)
                obtain ⟨w193, e194⟩ := Tk.no c103 (by first | decide | omega)
                obtain ⟨w195, e196⟩ := Tk.yes c120 (by first | decide | omega)
                refine x_retI (np := 248) (x := 0) (by decide +kernel) (by decide) (Or.inr ⟨by decide +kernel, by first | decide | omega, by first | decide | omega⟩) ⟨_, rfl, (by decide), ?_⟩
                exact ⟨j157, f163, (by first | decide | omega), (fun z => by first | decide | omega), (fun z => by first | decide | omega), (gA_c2 w192 (c76 3) (show h48 1 2 = h 1 2 by first | decide | omega) (by first | decide | omega) (Or.inr w195) (show h97 1 2 = h70 1 2 by first | decide | omega) e196 (c162 3) rfl (by first | decide | omega) (fun z => absurd z (by first | decide | omega)))⟩
              have q181 : ¬ (v152 = 2147483648) := q181
              have b197 := c160 (by first | decide | omega)
              have b198 := c161 (by first | decide | omega)
              refine x_aload (np := 230) (x := 0) (by decide +kernel) rfl (x_nc_le (by decide)) ?_
              have q199 : h156 62 1 = h114 62 1 := f158 62 1 (by decide +kernel)
              have q200 : h114 62 1 = h97 62 1 := f116 62 1 (by decide +kernel)
              have q201 : h97 62 1 = h70 62 1 := f99 62 1 (by decide +kernel)
              have q202 : h70 62 1 = h48 62 1 := f72 62 1 (by decide +kernel)
              have q203 : h48 62 1 = h30 62 1 := f50 62 1 (by decide +kernel)
              have q204 : h30 62 1 = h 62 1 := f32 62 1 (by decide +kernel)
              refine x_getR (np := 233) (x := 193) (f := 1) (q := (r1 + 11)) (by decide +kernel) (by decide) (by decide +kernel) ((((((q199.trans q200).trans q201).trans q202).trans q203).trans q204).trans q2) ?_
              refine x_const (np := 236) (x := 9223380637526788050) (a := 2147485650) (by decide +kernel) (by decide) (by decide) ?_
              refine x_nI (t := 6) (mj := 36) (n := 2) (rc := 3) (ml := 2) (nr := 0) (np := 239) (as := [x_r (r1 + 11), iv_c 2147485650]) (rest := []) (lo1 := [x_r (r1 + 11), iv_c 2147485650]) (by decide +kernel) (by decide) (by decide +kernel) (x_rb_of (tr_11_3 t3)) rfl rfl (x_wr (tn_11 t3) (x_wi (by decide) x_wn)) x_wn (by decide) rfl ?_
              refine x_aload (np := 1) (x := 0) (by decide +kernel) rfl (x_nc_le (tn_11 t3)) ?_
              refine x_getC (np := 4) (x := 130) (f := 2) (q := (h156 (r1 + 11) 2)) (by decide +kernel) (by decide) (tg_11_130_2_0 t3) rfl (fun l205 => ?_)
              refine x_const (np := 7) (x := 9223373756989178256) (a := 2147484048) (by decide +kernel) (by decide) (by decide) ?_
              refine x_icmp (k := 2) (tg := 12) (np := 10) (by decide +kernel) (by decide) l205 (by decide) (fun q206 => ?_) (fun q207 => ?_)
              · have q206 : (h156 (r1 + 11) 2) < 2147484048 := q206
                refine x_aload (np := 13) (x := 0) (by decide +kernel) rfl (x_nc_le (tn_11 t3)) ?_
                have q208 : h156 (r1 + 11) 0 = (r1 + 12) := tf_11_0 j157 t3
                refine x_getR (np := 16) (x := 128) (f := 0) (q := (r1 + 12)) (by decide +kernel) (by decide) (tg_11_128_0_1 t3) q208 ?_
                refine x_aload (np := 17) (x := 0) (by decide +kernel) rfl (x_nc_le (tn_11 t3)) ?_
                refine x_getC (np := 20) (x := 130) (f := 2) (q := (h156 (r1 + 11) 2)) (by decide +kernel) (by decide) (tg_11_130_2_0 t3) rfl (fun l209 => ?_)
                refine x_iload (np := 21) (x := 1) (by decide +kernel) rfl (by decide) ?_
                obtain ⟨u210, q211⟩ : ∃ z, (h156 (r1 + 11) 2) = 2147483648 + z := ⟨(h156 (r1 + 11) 2) - 2147483648, by first | decide | omega⟩
                refine x_ast (np := 22) (x := 0) (kd := 1) (n := 400) (i := u210) (by decide +kernel) (Or.inl rfl) (ta_12_400 t3) (by first | decide | omega) (by first | decide | omega) (by decide) (by decide) (fun z => absurd z (by decide)) ?_
                have j213 := jU (e := u210) (v := 2147485650) u210 j157 (rg_T12_0_1_400 t3) (by first | decide | omega) (by first | decide | omega) (by first | decide | omega)
                have f215 := jF (e := u210) (v := 2147485650) u210 f163 (rg_T12_0_1_400 t3) (by first | decide | omega) (by first | decide | omega) (by decide)
                generalize e214 : x_up h156 (r1 + 12) u210 2147485650 = h212 at j213 f215 ⊢
                refine x_aload (np := 23) (x := 0) (by decide +kernel) rfl (x_nc_le (tn_11 t3)) ?_
                refine x_dup (np := 24) (x := 0) (by decide +kernel) (by have z := x_nc_le (k := (r1 + 11)) (tn_11 t3); unfold x_r; omega) ?_
                have q216 : h212 (r1 + 11) 2 = h156 (r1 + 11) 2 := by rw [← e214]; exact x_up_k tof_11_12
                refine x_getC (np := 27) (x := 130) (f := 2) (q := (h156 (r1 + 11) 2)) (by decide +kernel) (by decide) (tg_11_130_2_0 t3) q216 (fun l217 => ?_)
                refine x_const (np := 28) (x := 9223372043297226753) (a := 2147483649) (by decide +kernel) (by decide) (by decide) ?_
                refine x_iadd (np := 29) (x := 0) (v := (1 + (h156 (r1 + 11) 2))) (by decide +kernel) l205 (by decide) (by first | decide | omega) (by first | decide | omega) ?_
                refine x_putI (np := 32) (x := 130) (f := 2) (by decide +kernel) (tg_11_130_2_0 t3) (by first | decide | omega) (Or.inl (by decide)) ?_
                have j219 := jU (e := 2) (v := (1 + (h156 (r1 + 11) 2))) 0 j213 (rg_T11_2_0_1 t3) (by first | decide | omega) (by first | decide | omega) (by first | decide | omega)
                have f221 := jF (e := 2) (v := (1 + (h156 (r1 + 11) 2))) 0 f215 (rg_T11_2_0_1 t3) (by first | decide | omega) (by first | decide | omega) (by decide)
                generalize e220 : x_up h212 (r1 + 11) 2 (1 + (h156 (r1 + 11) 2)) = h218 at j219 f221 ⊢
                refine x_const (np := 33) (x := 9223372043297226753) (a := 2147483649) (by decide +kernel) (by decide) (by decide) ?_
                refine x_retI (np := 34) (x := 0) (by decide +kernel) (by decide) (Or.inr ⟨by decide +kernel, by first | decide | omega, by first | decide | omega⟩) ⟨_, rfl, (by decide), ?_⟩
                refine x_ifz (k := 0) (tg := 246) (np := 242) (by decide +kernel) (by decide) (by decide) (fun q222 => ?_) (fun q223 => ?_)
                · have q222 : 2147483649 = 2147483648 := q222
                  exfalso; omega
                have q223 : ¬ (2147483649 = 2147483648) := q223
                refine x_const (np := 243) (x := 9223372043297226753) (a := 2147483649) (by decide +kernel) (by decide) (by decide) ?_
                refine x_goto (np := 246) (x := 247) (by decide +kernel) ?_
                have q224 : h218 1 2 = h212 1 2 := by rw [← e220]; exact x_up_k (Ne.symm (tne_11_1 t3))
                have q225 : h212 1 2 = h156 1 2 := by rw [← e214]; exact x_up_k (Ne.symm (tne_12_1 t3))
                have q226 : h218 62 1 = h212 62 1 := by rw [← e220]; exact x_up_k (Ne.symm (tne_11_62 t3))
                have q227 : h212 62 1 = h156 62 1 := by rw [← e214]; exact x_up_k (Ne.symm (tne_12_62 t3))
                have q228 : h156 62 1 = h114 62 1 := f158 62 1 (by decide +kernel)
                have q229 : h114 62 1 = h97 62 1 := f116 62 1 (by decide +kernel)
                have q230 : h97 62 1 = h70 62 1 := f99 62 1 (by decide +kernel)
                have q231 : h70 62 1 = h48 62 1 := f72 62 1 (by decide +kernel)
                have q232 : h48 62 1 = h30 62 1 := f50 62 1 (by decide +kernel)
                have q233 : h30 62 1 = h 62 1 := f32 62 1 (by decide +kernel)
                have q234 : h218 (r1 + 11) 2 = (1 + (h156 (r1 + 11) 2)) := by rw [← e220]; exact x_up_at
                have e235 : cl9 h218 = (1 + (h156 (r1 + 11) 2)) := (congrArg (fun z => h218 z 2) ((((((((q226.trans q227).trans q228).trans q229).trans q230).trans q231).trans q232).trans q233).trans q2)).trans q234
                have q236 : h218 1 2 = h212 1 2 := by rw [← e220]; exact x_up_k (Ne.symm (tne_11_1 t3))
                have q237 : h212 1 2 = h156 1 2 := by rw [← e214]; exact x_up_k (Ne.symm (tne_12_1 t3))
                obtain ⟨w238, e239⟩ := Tk.no c36 (by first | decide | omega)
                obtain ⟨w240, e241⟩ := Tk.no c54 (by first | decide | omega)
                have w242 : An tB tN (h 1 2) := gA_an (Is.no c12 (by first | decide | omega)) rfl (Is.no c21 (by first | decide | omega)) rfl w238 rfl w240 (show h30 1 2 = h 1 2 by first | decide | omega)
                obtain ⟨w243, e244⟩ := Tk.no c103 (by first | decide | omega)
                obtain ⟨w245, e246⟩ := Tk.yes c120 (by first | decide | omega)
                have q247 : h218 1 2 = h212 1 2 := by rw [← e220]; exact x_up_k (Ne.symm (tne_11_1 t3))
                have q248 : h212 1 2 = h156 1 2 := by rw [← e214]; exact x_up_k (Ne.symm (tne_12_1 t3))
                refine x_retI (np := 248) (x := 0) (by decide +kernel) (by decide) (Or.inr ⟨by decide +kernel, by first | decide | omega, by first | decide | omega⟩) ⟨_, rfl, (by decide), ?_⟩
                exact ⟨j219, f221, (by first | decide | omega), (fun z => by first | decide | omega), (fun z => by first | decide | omega), (gA_c2 w242 (c76 3) (show h48 1 2 = h 1 2 by first | decide | omega) (by first | decide | omega) (Or.inr w245) (show h97 1 2 = h70 1 2 by first | decide | omega) e246 (c162 3) rfl (by first | decide | omega) (fun z => (show h156 1 2 = h218 1 2 by first | decide | omega)))⟩
              have q207 : ¬ ((h156 (r1 + 11) 2) < 2147484048) := q207
              refine x_const (np := 11) (x := 9223372039002259456) (a := 2147483648) (by decide +kernel) (by decide) (by decide) ?_
              refine x_retI (np := 12) (x := 0) (by decide +kernel) (by decide) (Or.inr ⟨by decide +kernel, by first | decide | omega, by first | decide | omega⟩) ⟨_, rfl, (by decide), ?_⟩
              refine x_ifz (k := 0) (tg := 246) (np := 242) (by decide +kernel) (by decide) (by decide) (fun q249 => ?_) (fun q250 => ?_)
              · have q249 : 2147483648 = 2147483648 := q249
                refine x_const (np := 247) (x := 9223372039002259456) (a := 2147483648) (by decide +kernel) (by decide) (by decide) ?_
                have q251 : h156 62 1 = h114 62 1 := f158 62 1 (by decide +kernel)
                have q252 : h114 62 1 = h97 62 1 := f116 62 1 (by decide +kernel)
                have q253 : h97 62 1 = h70 62 1 := f99 62 1 (by decide +kernel)
                have q254 : h70 62 1 = h48 62 1 := f72 62 1 (by decide +kernel)
                have q255 : h48 62 1 = h30 62 1 := f50 62 1 (by decide +kernel)
                have q256 : h30 62 1 = h 62 1 := f32 62 1 (by decide +kernel)
                obtain ⟨w257, e258⟩ := Tk.no c36 (by first | decide | omega)
                obtain ⟨w259, e260⟩ := Tk.no c54 (by first | decide | omega)
                have w261 : An tB tN (h 1 2) := gA_an (Is.no c12 (by first | decide | omega)) rfl (Is.no c21 (by first | decide | omega)) rfl w257 rfl w259 (show h30 1 2 = h 1 2 by first | decide | omega)
                obtain ⟨w262, e263⟩ := Tk.no c103 (by first | decide | omega)
                obtain ⟨w264, e265⟩ := Tk.yes c120 (by first | decide | omega)
                refine x_retI (np := 248) (x := 0) (by decide +kernel) (by decide) (Or.inr ⟨by decide +kernel, by first | decide | omega, by first | decide | omega⟩) ⟨_, rfl, (by decide), ?_⟩
                exact ⟨j157, f163, (by first | decide | omega), (fun z => by first | decide | omega), (fun z => by first | decide | omega), (gA_c2 w261 (c76 3) (show h48 1 2 = h 1 2 by first | decide | omega) (by first | decide | omega) (Or.inr w264) (show h97 1 2 = h70 1 2 by first | decide | omega) e265 (c162 3) rfl (by first | decide | omega) (fun z => rfl))⟩
              have q250 : ¬ (2147483648 = 2147483648) := q250
              exfalso; omega
            have q107 : ¬ (v93 = 2147483648) := q107
            have b266 := c101 (by first | decide | omega)
            refine x_aload (np := 185) (x := 0) (by decide +kernel) rfl (x_nc_le (by decide)) ?_
            have q267 : h97 62 1 = h70 62 1 := f99 62 1 (by decide +kernel)
            have q268 : h70 62 1 = h48 62 1 := f72 62 1 (by decide +kernel)
            have q269 : h48 62 1 = h30 62 1 := f50 62 1 (by decide +kernel)
            have q270 : h30 62 1 = h 62 1 := f32 62 1 (by decide +kernel)
            have q271 : h97 (r1 + 11) 2 = h70 (r1 + 11) 2 := jK 0 f99 (rg_T11_2_0_1 t3) (by first | decide | omega) (by first | decide | omega) (by decide)
            have e272 : cl9 h97 = (h70 (r1 + 11) 2) := (congrArg (fun z => h97 z 2) ((((q267.trans q268).trans q269).trans q270).trans q2)).trans q271
            have m276 := Tp.fr m96 f99 (by decide) (by decide)
            refine x_cI (t := 6) (mj := 49) (n := 1) (rc := 4) (ml := 2) (nr := 0) (np := 188) (as := [x_r 62]) (rest := []) (lo1 := [x_r 62, 147573952589676412928]) (by decide +kernel) (by decide) (by decide +kernel) (x_rb_of (by decide +kernel)) rfl rfl (x_wr (by decide) x_wn) x_wn (by decide) rfl (c49_62 j98  (by first | decide | omega) m276) (fun v273 h277 l274 q275 => ?_)
            obtain ⟨j278, f279, b280, c281, c282, c283⟩ := q275
            have f284 := Fr.trans f104 f279 (by decide)
            have b285 := jB (e := 2) 0 j278 rg_1_2_0_1 (by first | decide | omega) (by first | decide | omega)
            have q286 : h97 62 1 = h70 62 1 := f99 62 1 (by decide +kernel)
            have q287 : h70 62 1 = h48 62 1 := f72 62 1 (by decide +kernel)
            have q288 : h48 62 1 = h30 62 1 := f50 62 1 (by decide +kernel)
            have q289 : h30 62 1 = h 62 1 := f32 62 1 (by decide +kernel)
            have q290 : h97 (r1 + 11) 2 = h70 (r1 + 11) 2 := jK 0 f99 (rg_T11_2_0_1 t3) (by first | decide | omega) (by first | decide | omega) (by decide)
            have q291 : h277 62 1 = h97 62 1 := f279 62 1 (by decide +kernel)
            have q292 : h97 62 1 = h70 62 1 := f99 62 1 (by decide +kernel)
            have q293 : h70 62 1 = h48 62 1 := f72 62 1 (by decide +kernel)
            have q294 : h48 62 1 = h30 62 1 := f50 62 1 (by decide +kernel)
            have q295 : h30 62 1 = h 62 1 := f32 62 1 (by decide +kernel)
            have b296 := jB (e := 2) 0 j278 (rg_T11_2_0_1 t3) (by first | decide | omega) (by first | decide | omega)
            have e297 : cl9 h277 = (h277 (r1 + 11) 2) := (congrArg (fun z => h277 z 2) (((((q291.trans q292).trans q293).trans q294).trans q295).trans q2)).trans rfl
            refine x_ifz (k := 0) (tg := 208) (np := 191) (by decide +kernel) (by decide) l274 (fun q298 => ?_) (fun q299 => ?_)
            · have q298 : v273 = 2147483648 := q298
              refine x_const (np := 209) (x := 9223372039002259456) (a := 2147483648) (by decide +kernel) (by decide) (by decide) ?_
              have q300 : h277 62 1 = h97 62 1 := f279 62 1 (by decide +kernel)
              have q301 : h97 62 1 = h70 62 1 := f99 62 1 (by decide +kernel)
              have q302 : h70 62 1 = h48 62 1 := f72 62 1 (by decide +kernel)
              have q303 : h48 62 1 = h30 62 1 := f50 62 1 (by decide +kernel)
              have q304 : h30 62 1 = h 62 1 := f32 62 1 (by decide +kernel)
              obtain ⟨w305, e306⟩ := Tk.no c36 (by first | decide | omega)
              obtain ⟨w307, e308⟩ := Tk.no c54 (by first | decide | omega)
              have w309 : An tB tN (h 1 2) := gA_an (Is.no c12 (by first | decide | omega)) rfl (Is.no c21 (by first | decide | omega)) rfl w305 rfl w307 (show h30 1 2 = h 1 2 by first | decide | omega)
              obtain ⟨w310, e311⟩ := Tk.yes c103 (by first | decide | omega)
              refine x_retI (np := 210) (x := 0) (by decide +kernel) (by decide) (Or.inr ⟨by decide +kernel, by first | decide | omega, by first | decide | omega⟩) ⟨_, rfl, (by decide), ?_⟩
              exact ⟨j278, f284, (by first | decide | omega), (fun z => by first | decide | omega), (fun z => by first | decide | omega), (gA_c2 w309 (c76 3) (show h48 1 2 = h 1 2 by first | decide | omega) (by first | decide | omega) (Or.inl w310) rfl e311 (c283 3) rfl (by first | decide | omega) (fun z => absurd z (by first | decide | omega)))⟩
            have q299 : ¬ (v273 = 2147483648) := q299
            have b312 := c281 (by first | decide | omega)
            have b313 := c282 (by first | decide | omega)
            refine x_aload (np := 192) (x := 0) (by decide +kernel) rfl (x_nc_le (by decide)) ?_
            have q314 : h277 62 1 = h97 62 1 := f279 62 1 (by decide +kernel)
            have q315 : h97 62 1 = h70 62 1 := f99 62 1 (by decide +kernel)
            have q316 : h70 62 1 = h48 62 1 := f72 62 1 (by decide +kernel)
            have q317 : h48 62 1 = h30 62 1 := f50 62 1 (by decide +kernel)
            have q318 : h30 62 1 = h 62 1 := f32 62 1 (by decide +kernel)
            refine x_getR (np := 195) (x := 193) (f := 1) (q := (r1 + 11)) (by decide +kernel) (by decide) (by decide +kernel) (((((q314.trans q315).trans q316).trans q317).trans q318).trans q2) ?_
            refine x_const (np := 198) (x := 9223380633231820753) (a := 2147485649) (by decide +kernel) (by decide) (by decide) ?_
            refine x_nI (t := 6) (mj := 36) (n := 2) (rc := 3) (ml := 2) (nr := 0) (np := 201) (as := [x_r (r1 + 11), iv_c 2147485649]) (rest := []) (lo1 := [x_r (r1 + 11), iv_c 2147485649]) (by decide +kernel) (by decide) (by decide +kernel) (x_rb_of (tr_11_3 t3)) rfl rfl (x_wr (tn_11 t3) (x_wi (by decide) x_wn)) x_wn (by decide) rfl ?_
            refine x_aload (np := 1) (x := 0) (by decide +kernel) rfl (x_nc_le (tn_11 t3)) ?_
            refine x_getC (np := 4) (x := 130) (f := 2) (q := (h277 (r1 + 11) 2)) (by decide +kernel) (by decide) (tg_11_130_2_0 t3) rfl (fun l319 => ?_)
            refine x_const (np := 7) (x := 9223373756989178256) (a := 2147484048) (by decide +kernel) (by decide) (by decide) ?_
            refine x_icmp (k := 2) (tg := 12) (np := 10) (by decide +kernel) (by decide) l319 (by decide) (fun q320 => ?_) (fun q321 => ?_)
            · have q320 : (h277 (r1 + 11) 2) < 2147484048 := q320
              refine x_aload (np := 13) (x := 0) (by decide +kernel) rfl (x_nc_le (tn_11 t3)) ?_
              have q322 : h277 (r1 + 11) 0 = (r1 + 12) := tf_11_0 j278 t3
              refine x_getR (np := 16) (x := 128) (f := 0) (q := (r1 + 12)) (by decide +kernel) (by decide) (tg_11_128_0_1 t3) q322 ?_
              refine x_aload (np := 17) (x := 0) (by decide +kernel) rfl (x_nc_le (tn_11 t3)) ?_
              refine x_getC (np := 20) (x := 130) (f := 2) (q := (h277 (r1 + 11) 2)) (by decide +kernel) (by decide) (tg_11_130_2_0 t3) rfl (fun l323 => ?_)
              refine x_iload (np := 21) (x := 1) (by decide +kernel) rfl (by decide) ?_
              obtain ⟨u324, q325⟩ : ∃ z, (h277 (r1 + 11) 2) = 2147483648 + z := ⟨(h277 (r1 + 11) 2) - 2147483648, by first | decide | omega⟩
              refine x_ast (np := 22) (x := 0) (kd := 1) (n := 400) (i := u324) (by decide +kernel) (Or.inl rfl) (ta_12_400 t3) (by first | decide | omega) (by first | decide | omega) (by decide) (by decide) (fun z => absurd z (by decide)) ?_
              have j327 := jU (e := u324) (v := 2147485649) u324 j278 (rg_T12_0_1_400 t3) (by first | decide | omega) (by first | decide | omega) (by first | decide | omega)
              have f329 := jF (e := u324) (v := 2147485649) u324 f284 (rg_T12_0_1_400 t3) (by first | decide | omega) (by first | decide | omega) (by decide)
              generalize e328 : x_up h277 (r1 + 12) u324 2147485649 = h326 at j327 f329 ⊢
              refine x_aload (np := 23) (x := 0) (by decide +kernel) rfl (x_nc_le (tn_11 t3)) ?_
              refine x_dup (np := 24) (x := 0) (by decide +kernel) (by have z := x_nc_le (k := (r1 + 11)) (tn_11 t3); unfold x_r; omega) ?_
              have q330 : h326 (r1 + 11) 2 = h277 (r1 + 11) 2 := by rw [← e328]; exact x_up_k tof_11_12
              refine x_getC (np := 27) (x := 130) (f := 2) (q := (h277 (r1 + 11) 2)) (by decide +kernel) (by decide) (tg_11_130_2_0 t3) q330 (fun l331 => ?_)
              refine x_const (np := 28) (x := 9223372043297226753) (a := 2147483649) (by decide +kernel) (by decide) (by decide) ?_
              refine x_iadd (np := 29) (x := 0) (v := (1 + (h277 (r1 + 11) 2))) (by decide +kernel) l319 (by decide) (by first | decide | omega) (by first | decide | omega) ?_
              refine x_putI (np := 32) (x := 130) (f := 2) (by decide +kernel) (tg_11_130_2_0 t3) (by first | decide | omega) (Or.inl (by decide)) ?_
              have j333 := jU (e := 2) (v := (1 + (h277 (r1 + 11) 2))) 0 j327 (rg_T11_2_0_1 t3) (by first | decide | omega) (by first | decide | omega) (by first | decide | omega)
              have f335 := jF (e := 2) (v := (1 + (h277 (r1 + 11) 2))) 0 f329 (rg_T11_2_0_1 t3) (by first | decide | omega) (by first | decide | omega) (by decide)
              generalize e334 : x_up h326 (r1 + 11) 2 (1 + (h277 (r1 + 11) 2)) = h332 at j333 f335 ⊢
              refine x_const (np := 33) (x := 9223372043297226753) (a := 2147483649) (by decide +kernel) (by decide) (by decide) ?_
              refine x_retI (np := 34) (x := 0) (by decide +kernel) (by decide) (Or.inr ⟨by decide +kernel, by first | decide | omega, by first | decide | omega⟩) ⟨_, rfl, (by decide), ?_⟩
              refine x_ifz (k := 0) (tg := 208) (np := 204) (by decide +kernel) (by decide) (by decide) (fun q336 => ?_) (fun q337 => ?_)
              · have q336 : 2147483649 = 2147483648 := q336
                exfalso; omega
              have q337 : ¬ (2147483649 = 2147483648) := q337
              refine x_const (np := 205) (x := 9223372043297226753) (a := 2147483649) (by decide +kernel) (by decide) (by decide) ?_
              refine x_goto (np := 208) (x := 209) (by decide +kernel) ?_
              have q338 : h332 1 2 = h326 1 2 := by rw [← e334]; exact x_up_k (Ne.symm (tne_11_1 t3))
              have q339 : h326 1 2 = h277 1 2 := by rw [← e328]; exact x_up_k (Ne.symm (tne_12_1 t3))
              have q340 : h332 62 1 = h326 62 1 := by rw [← e334]; exact x_up_k (Ne.symm (tne_11_62 t3))
              have q341 : h326 62 1 = h277 62 1 := by rw [← e328]; exact x_up_k (Ne.symm (tne_12_62 t3))
              have q342 : h277 62 1 = h97 62 1 := f279 62 1 (by decide +kernel)
              have q343 : h97 62 1 = h70 62 1 := f99 62 1 (by decide +kernel)
              have q344 : h70 62 1 = h48 62 1 := f72 62 1 (by decide +kernel)
              have q345 : h48 62 1 = h30 62 1 := f50 62 1 (by decide +kernel)
              have q346 : h30 62 1 = h 62 1 := f32 62 1 (by decide +kernel)
              have q347 : h332 (r1 + 11) 2 = (1 + (h277 (r1 + 11) 2)) := by rw [← e334]; exact x_up_at
              have e348 : cl9 h332 = (1 + (h277 (r1 + 11) 2)) := (congrArg (fun z => h332 z 2) (((((((q340.trans q341).trans q342).trans q343).trans q344).trans q345).trans q346).trans q2)).trans q347
              have q349 : h332 1 2 = h326 1 2 := by rw [← e334]; exact x_up_k (Ne.symm (tne_11_1 t3))
              have q350 : h326 1 2 = h277 1 2 := by rw [← e328]; exact x_up_k (Ne.symm (tne_12_1 t3))
              obtain ⟨w351, e352⟩ := Tk.no c36 (by first | decide | omega)
              obtain ⟨w353, e354⟩ := Tk.no c54 (by first | decide | omega)
              have w355 : An tB tN (h 1 2) := gA_an (Is.no c12 (by first | decide | omega)) rfl (Is.no c21 (by first | decide | omega)) rfl w351 rfl w353 (show h30 1 2 = h 1 2 by first | decide | omega)
              obtain ⟨w356, e357⟩ := Tk.yes c103 (by first | decide | omega)
              have q358 : h332 1 2 = h326 1 2 := by rw [← e334]; exact x_up_k (Ne.symm (tne_11_1 t3))
              have q359 : h326 1 2 = h277 1 2 := by rw [← e328]; exact x_up_k (Ne.symm (tne_12_1 t3))
              refine x_retI (np := 210) (x := 0) (by decide +kernel) (by decide) (Or.inr ⟨by decide +kernel, by first | decide | omega, by first | decide | omega⟩) ⟨_, rfl, (by decide), ?_⟩
              exact ⟨j333, f335, (by first | decide | omega), (fun z => by first | decide | omega), (fun z => by first | decide | omega), (gA_c2 w355 (c76 3) (show h48 1 2 = h 1 2 by first | decide | omega) (by first | decide | omega) (Or.inl w356) rfl e357 (c283 3) rfl (by first | decide | omega) (fun z => (show h277 1 2 = h332 1 2 by first | decide | omega)))⟩
            have q321 : ¬ ((h277 (r1 + 11) 2) < 2147484048) := q321
            refine x_const (np := 11) (x := 9223372039002259456) (a := 2147483648) (by decide +kernel) (by decide) (by decide) ?_
            refine x_retI (np := 12) (x := 0) (by decide +kernel) (by decide) (Or.inr ⟨by decide +kernel, by first | decide | omega, by first | decide | omega⟩) ⟨_, rfl, (by decide), ?_⟩
            refine x_ifz (k := 0) (tg := 208) (np := 204) (by decide +kernel) (by decide) (by decide) (fun q360 => ?_) (fun q361 => ?_)
            · have q360 : 2147483648 = 2147483648 := q360
              refine x_const (np := 209) (x := 9223372039002259456) (a := 2147483648) (by decide +kernel) (by decide) (by decide) ?_
              have q362 : h277 62 1 = h97 62 1 := f279 62 1 (by decide +kernel)
              have q363 : h97 62 1 = h70 62 1 := f99 62 1 (by decide +kernel)
              have q364 : h70 62 1 = h48 62 1 := f72 62 1 (by decide +kernel)
              have q365 : h48 62 1 = h30 62 1 := f50 62 1 (by decide +kernel)
              have q366 : h30 62 1 = h 62 1 := f32 62 1 (by decide +kernel)
              obtain ⟨w367, e368⟩ := Tk.no c36 (by first | decide | omega)
              obtain ⟨w369, e370⟩ := Tk.no c54 (by first | decide | omega)
              have w371 : An tB tN (h 1 2) := gA_an (Is.no c12 (by first | decide | omega)) rfl (Is.no c21 (by first | decide | omega)) rfl w367 rfl w369 (show h30 1 2 = h 1 2 by first | decide | omega)
              obtain ⟨w372, e373⟩ := Tk.yes c103 (by first | decide | omega)
              refine x_retI (np := 210) (x := 0) (by decide +kernel) (by decide) (Or.inr ⟨by decide +kernel, by first | decide | omega, by first | decide | omega⟩) ⟨_, rfl, (by decide), ?_⟩
              exact ⟨j278, f284, (by first | decide | omega), (fun z => by first | decide | omega), (fun z => by first | decide | omega), (gA_c2 w371 (c76 3) (show h48 1 2 = h 1 2 by first | decide | omega) (by first | decide | omega) (Or.inl w372) rfl e373 (c283 3) rfl (by first | decide | omega) (fun z => rfl))⟩
            have q361 : ¬ (2147483648 = 2147483648) := q361
            exfalso; omega
          have q89 : ¬ (v66 ≠ 2147483648) := q89
          refine x_const (np := 171) (x := 9223372039002259456) (a := 2147483648) (by decide +kernel) (by decide) (by decide) ?_
          have q374 : h70 62 1 = h48 62 1 := f72 62 1 (by decide +kernel)
          have q375 : h48 62 1 = h30 62 1 := f50 62 1 (by decide +kernel)
          have q376 : h30 62 1 = h 62 1 := f32 62 1 (by decide +kernel)
          obtain ⟨w377, e378⟩ := Tk.no c36 (by first | decide | omega)
          obtain ⟨w379, e380⟩ := Tk.no c54 (by first | decide | omega)
          have w381 : An tB tN (h 1 2) := gA_an (Is.no c12 (by first | decide | omega)) rfl (Is.no c21 (by first | decide | omega)) rfl w377 rfl w379 (show h30 1 2 = h 1 2 by first | decide | omega)
          refine x_retI (np := 172) (x := 0) (by decide +kernel) (by decide) (Or.inr ⟨by decide +kernel, by first | decide | omega, by first | decide | omega⟩) ⟨_, rfl, (by decide), ?_⟩
          exact ⟨j71, f77, (by first | decide | omega), (fun z => by first | decide | omega), (fun z => by first | decide | omega), (gA_c0 w381 (c76 3) (show h48 1 2 = h 1 2 by first | decide | omega) (by first | decide | omega) (by first | decide | omega))⟩
        have q59 : ¬ (v44 = 2147483648) := q59
        have b382 := c52 (by first | decide | omega)
        refine x_aload (np := 153) (x := 0) (by decide +kernel) rfl (x_nc_le (by decide)) ?_
        have q383 : h48 62 1 = h30 62 1 := f50 62 1 (by decide +kernel)
        have q384 : h30 62 1 = h 62 1 := f32 62 1 (by decide +kernel)
        refine x_getR (np := 156) (x := 193) (f := 1) (q := (r1 + 11)) (by decide +kernel) (by decide) (by decide +kernel) ((q383.trans q384).trans q2) ?_
        refine x_const (np := 159) (x := 9223376364034327535) (a := 2147484655) (by decide +kernel) (by decide) (by decide) ?_
        refine x_nI (t := 6) (mj := 36) (n := 2) (rc := 3) (ml := 2) (nr := 0) (np := 162) (as := [x_r (r1 + 11), iv_c 2147484655]) (rest := []) (lo1 := [x_r (r1 + 11), iv_c 2147484655]) (by decide +kernel) (by decide) (by decide +kernel) (x_rb_of (tr_11_3 t3)) rfl rfl (x_wr (tn_11 t3) (x_wi (by decide) x_wn)) x_wn (by decide) rfl ?_
        refine x_aload (np := 1) (x := 0) (by decide +kernel) rfl (x_nc_le (tn_11 t3)) ?_
        have q385 : h48 (r1 + 11) 2 = h30 (r1 + 11) 2 := jK 0 f50 (rg_T11_2_0_1 t3) (by first | decide | omega) (by first | decide | omega) (by decide)
        have q386 : h30 (r1 + 11) 2 = h (r1 + 11) 2 := jK 0 f32 (rg_T11_2_0_1 t3) (by first | decide | omega) (by first | decide | omega) (by decide)
        refine x_getC (np := 4) (x := 130) (f := 2) (q := (h (r1 + 11) 2)) (by decide +kernel) (by decide) (tg_11_130_2_0 t3) (q385.trans q386) (fun l387 => ?_)
        refine x_const (np := 7) (x := 9223373756989178256) (a := 2147484048) (by decide +kernel) (by decide) (by decide) ?_
        refine x_icmp (k := 2) (tg := 12) (np := 10) (by decide +kernel) (by decide) l387 (by decide) (fun q388 => ?_) (fun q389 => ?_)
        · have q388 : (h (r1 + 11) 2) < 2147484048 := q388
          refine x_aload (np := 13) (x := 0) (by decide +kernel) rfl (x_nc_le (tn_11 t3)) ?_
          have q390 : h48 (r1 + 11) 0 = (r1 + 12) := tf_11_0 j49 t3
          refine x_getR (np := 16) (x := 128) (f := 0) (q := (r1 + 12)) (by decide +kernel) (by decide) (tg_11_128_0_1 t3) q390 ?_
          refine x_aload (np := 17) (x := 0) (by decide +kernel) rfl (x_nc_le (tn_11 t3)) ?_
          have q391 : h48 (r1 + 11) 2 = h30 (r1 + 11) 2 := jK 0 f50 (rg_T11_2_0_1 t3) (by first | decide | omega) (by first | decide | omega) (by decide)
          have q392 : h30 (r1 + 11) 2 = h (r1 + 11) 2 := jK 0 f32 (rg_T11_2_0_1 t3) (by first | decide | omega) (by first | decide | omega) (by decide)
          refine x_getC (np := 20) (x := 130) (f := 2) (q := (h (r1 + 11) 2)) (by decide +kernel) (by decide) (tg_11_130_2_0 t3) (q391.trans q392) (fun l393 => ?_)
          refine x_iload (np := 21) (x := 1) (by decide +kernel) rfl (by decide) ?_
          obtain ⟨u394, q395⟩ : ∃ z, (h (r1 + 11) 2) = 2147483648 + z := ⟨(h (r1 + 11) 2) - 2147483648, by first | decide | omega⟩
          refine x_ast (np := 22) (x := 0) (kd := 1) (n := 400) (i := u394) (by decide +kernel) (Or.inl rfl) (ta_12_400 t3) (by first | decide | omega) (by first | decide | omega) (by decide) (by decide) (fun z => absurd z (by decide)) ?_
          have j397 := jU (e := u394) (v := 2147484655) u394 j49 (rg_T12_0_1_400 t3) (by first | decide | omega) (by first | decide | omega) (by first | decide | omega)
          have f399 := jF (e := u394) (v := 2147484655) u394 f55 (rg_T12_0_1_400 t3) (by first | decide | omega) (by first | decide | omega) (by decide)
          generalize e398 : x_up h48 (r1 + 12) u394 2147484655 = h396 at j397 f399 ⊢
          refine x_aload (np := 23) (x := 0) (by decide +kernel) rfl (x_nc_le (tn_11 t3)) ?_
          refine x_dup (np := 24) (x := 0) (by decide +kernel) (by have z := x_nc_le (k := (r1 + 11)) (tn_11 t3); unfold x_r; omega) ?_
          have q400 : h396 (r1 + 11) 2 = h48 (r1 + 11) 2 := by rw [← e398]; exact x_up_k tof_11_12
          have q401 : h48 (r1 + 11) 2 = h30 (r1 + 11) 2 := jK 0 f50 (rg_T11_2_0_1 t3) (by first | decide | omega) (by first | decide | omega) (by decide)
          have q402 : h30 (r1 + 11) 2 = h (r1 + 11) 2 := jK 0 f32 (rg_T11_2_0_1 t3) (by first | decide | omega) (by first | decide | omega) (by decide)
          refine x_getC (np := 27) (x := 130) (f := 2) (q := (h (r1 + 11) 2)) (by decide +kernel) (by decide) (tg_11_130_2_0 t3) ((q400.trans q401).trans q402) (fun l403 => ?_)
          refine x_const (np := 28) (x := 9223372043297226753) (a := 2147483649) (by decide +kernel) (by decide) (by decide) ?_
          refine x_iadd (np := 29) (x := 0) (v := (1 + (h (r1 + 11) 2))) (by decide +kernel) l387 (by decide) (by first | decide | omega) (by first | decide | omega) ?_
          refine x_putI (np := 32) (x := 130) (f := 2) (by decide +kernel) (tg_11_130_2_0 t3) (by first | decide | omega) (Or.inl (by decide)) ?_
          have j405 := jU (e := 2) (v := (1 + (h (r1 + 11) 2))) 0 j397 (rg_T11_2_0_1 t3) (by first | decide | omega) (by first | decide | omega) (by first | decide | omega)
          have f407 := jF (e := 2) (v := (1 + (h (r1 + 11) 2))) 0 f399 (rg_T11_2_0_1 t3) (by first | decide | omega) (by first | decide | omega) (by decide)
          generalize e406 : x_up h396 (r1 + 11) 2 (1 + (h (r1 + 11) 2)) = h404 at j405 f407 ⊢
          refine x_const (np := 33) (x := 9223372043297226753) (a := 2147483649) (by decide +kernel) (by decide) (by decide) ?_
          refine x_retI (np := 34) (x := 0) (by decide +kernel) (by decide) (Or.inr ⟨by decide +kernel, by first | decide | omega, by first | decide | omega⟩) ⟨_, rfl, (by decide), ?_⟩
          have q408 : h404 1 2 = h396 1 2 := by rw [← e406]; exact x_up_k (Ne.symm (tne_11_1 t3))
          have q409 : h396 1 2 = h48 1 2 := by rw [← e398]; exact x_up_k (Ne.symm (tne_12_1 t3))
          have q410 : h404 62 1 = h396 62 1 := by rw [← e406]; exact x_up_k (Ne.symm (tne_11_62 t3))
          have q411 : h396 62 1 = h48 62 1 := by rw [← e398]; exact x_up_k (Ne.symm (tne_12_62 t3))
          have q412 : h48 62 1 = h30 62 1 := f50 62 1 (by decide +kernel)
          have q413 : h30 62 1 = h 62 1 := f32 62 1 (by decide +kernel)
          have q414 : h404 (r1 + 11) 2 = (1 + (h (r1 + 11) 2)) := by rw [← e406]; exact x_up_at
          have e415 : cl9 h404 = (1 + (h (r1 + 11) 2)) := (congrArg (fun z => h404 z 2) ((((q410.trans q411).trans q412).trans q413).trans q2)).trans q414
          have q416 : h404 1 2 = h396 1 2 := by rw [← e406]; exact x_up_k (Ne.symm (tne_11_1 t3))
          have q417 : h396 1 2 = h48 1 2 := by rw [← e398]; exact x_up_k (Ne.symm (tne_12_1 t3))
          obtain ⟨w418, e419⟩ := Tk.no c36 (by first | decide | omega)
          obtain ⟨w420, e421⟩ := Tk.yes c54 (by first | decide | omega)
          have q422 : h404 1 2 = h396 1 2 := by rw [← e406]; exact x_up_k (Ne.symm (tne_11_1 t3))
          have q423 : h396 1 2 = h48 1 2 := by rw [← e398]; exact x_up_k (Ne.symm (tne_12_1 t3))
          refine x_retI (np := 163) (x := 0) (by decide +kernel) (by decide) (Or.inr ⟨by decide +kernel, by first | decide | omega, by first | decide | omega⟩) ⟨_, rfl, (by decide), ?_⟩
          exact ⟨j405, f407, (by first | decide | omega), (fun z => by first | decide | omega), (fun z => by first | decide | omega), (gA_mine w420 (show h30 1 2 = h 1 2 by first | decide | omega) e421 (by first | decide | omega) (show h48 1 2 = h404 1 2 by first | decide | omega))⟩
        have q389 : ¬ ((h (r1 + 11) 2) < 2147484048) := q389
        exfalso; omega
      have q41 : ¬ (v27 = 2147483648) := q41
      have b424 := c34 (by first | decide | omega)
      refine x_aload (np := 130) (x := 0) (by decide +kernel) rfl (x_nc_le (by decide)) ?_
      have q425 : h30 62 1 = h 62 1 := f32 62 1 (by decide +kernel)
      refine x_getR (np := 133) (x := 193) (f := 1) (q := (r1 + 11)) (by decide +kernel) (by decide) (by decide +kernel) (q425.trans q2) ?_
      refine x_const (np := 136) (x := 9223376359739360238) (a := 2147484654) (by decide +kernel) (by decide) (by decide) ?_
      refine x_nI (t := 6) (mj := 36) (n := 2) (rc := 3) (ml := 2) (nr := 0) (np := 139) (as := [x_r (r1 + 11), iv_c 2147484654]) (rest := []) (lo1 := [x_r (r1 + 11), iv_c 2147484654]) (by decide +kernel) (by decide) (by decide +kernel) (x_rb_of (tr_11_3 t3)) rfl rfl (x_wr (tn_11 t3) (x_wi (by decide) x_wn)) x_wn (by decide) rfl ?_
      refine x_aload (np := 1) (x := 0) (by decide +kernel) rfl (x_nc_le (tn_11 t3)) ?_
      have q426 : h30 (r1 + 11) 2 = h (r1 + 11) 2 := jK 0 f32 (rg_T11_2_0_1 t3) (by first | decide | omega) (by first | decide | omega) (by decide)
      refine x_getC (np := 4) (x := 130) (f := 2) (q := (h (r1 + 11) 2)) (by decide +kernel) (by decide) (tg_11_130_2_0 t3) q426 (fun l427 => ?_)
      refine x_const (np := 7) (x := 9223373756989178256) (a := 2147484048) (by decide +kernel) (by decide) (by decide) ?_
      refine x_icmp (k := 2) (tg := 12) (np := 10) (by decide +kernel) (by decide) l427 (by decide) (fun q428 => ?_) (fun q429 => ?_)
      · have q428 : (h (r1 + 11) 2) < 2147484048 := q428
        refine x_aload (np := 13) (x := 0) (by decide +kernel) rfl (x_nc_le (tn_11 t3)) ?_
        have q430 : h30 (r1 + 11) 0 = (r1 + 12) := tf_11_0 j31 t3
        refine x_getR (np := 16) (x := 128) (f := 0) (q := (r1 + 12)) (by decide +kernel) (by decide) (tg_11_128_0_1 t3) q430 ?_
        refine x_aload (np := 17) (x := 0) (by decide +kernel) rfl (x_nc_le (tn_11 t3)) ?_
        have q431 : h30 (r1 + 11) 2 = h (r1 + 11) 2 := jK 0 f32 (rg_T11_2_0_1 t3) (by first | decide | omega) (by first | decide | omega) (by decide)
        refine x_getC (np := 20) (x := 130) (f := 2) (q := (h (r1 + 11) 2)) (by decide +kernel) (by decide) (tg_11_130_2_0 t3) q431 (fun l432 => ?_)
        refine x_iload (np := 21) (x := 1) (by decide +kernel) rfl (by decide) ?_
        obtain ⟨u433, q434⟩ : ∃ z, (h (r1 + 11) 2) = 2147483648 + z := ⟨(h (r1 + 11) 2) - 2147483648, by first | decide | omega⟩
        refine x_ast (np := 22) (x := 0) (kd := 1) (n := 400) (i := u433) (by decide +kernel) (Or.inl rfl) (ta_12_400 t3) (by first | decide | omega) (by first | decide | omega) (by decide) (by decide) (fun z => absurd z (by decide)) ?_
        have j436 := jU (e := u433) (v := 2147484654) u433 j31 (rg_T12_0_1_400 t3) (by first | decide | omega) (by first | decide | omega) (by first | decide | omega)
        have f438 := jF (e := u433) (v := 2147484654) u433 f37 (rg_T12_0_1_400 t3) (by first | decide | omega) (by first | decide | omega) (by decide)
        generalize e437 : x_up h30 (r1 + 12) u433 2147484654 = h435 at j436 f438 ⊢
        refine x_aload (np := 23) (x := 0) (by decide +kernel) rfl (x_nc_le (tn_11 t3)) ?_
        refine x_dup (np := 24) (x := 0) (by decide +kernel) (by have z := x_nc_le (k := (r1 + 11)) (tn_11 t3); unfold x_r; omega) ?_
        have q439 : h435 (r1 + 11) 2 = h30 (r1 + 11) 2 := by rw [← e437]; exact x_up_k tof_11_12
        have q440 : h30 (r1 + 11) 2 = h (r1 + 11) 2 := jK 0 f32 (rg_T11_2_0_1 t3) (by first | decide | omega) (by first | decide | omega) (by decide)
        refine x_getC (np := 27) (x := 130) (f := 2) (q := (h (r1 + 11) 2)) (by decide +kernel) (by decide) (tg_11_130_2_0 t3) (q439.trans q440) (fun l441 => ?_)
        refine x_const (np := 28) (x := 9223372043297226753) (a := 2147483649) (by decide +kernel) (by decide) (by decide) ?_
        refine x_iadd (np := 29) (x := 0) (v := (1 + (h (r1 + 11) 2))) (by decide +kernel) l427 (by decide) (by first | decide | omega) (by first | decide | omega) ?_
        refine x_putI (np := 32) (x := 130) (f := 2) (by decide +kernel) (tg_11_130_2_0 t3) (by first | decide | omega) (Or.inl (by decide)) ?_
        have j443 := jU (e := 2) (v := (1 + (h (r1 + 11) 2))) 0 j436 (rg_T11_2_0_1 t3) (by first | decide | omega) (by first | decide | omega) (by first | decide | omega)
        have f445 := jF (e := 2) (v := (1 + (h (r1 + 11) 2))) 0 f438 (rg_T11_2_0_1 t3) (by first | decide | omega) (by first | decide | omega) (by decide)
        generalize e444 : x_up h435 (r1 + 11) 2 (1 + (h (r1 + 11) 2)) = h442 at j443 f445 ⊢
        refine x_const (np := 33) (x := 9223372043297226753) (a := 2147483649) (by decide +kernel) (by decide) (by decide) ?_
        refine x_retI (np := 34) (x := 0) (by decide +kernel) (by decide) (Or.inr ⟨by decide +kernel, by first | decide | omega, by first | decide | omega⟩) ⟨_, rfl, (by decide), ?_⟩
        have q446 : h442 1 2 = h435 1 2 := by rw [← e444]; exact x_up_k (Ne.symm (tne_11_1 t3))
        have q447 : h435 1 2 = h30 1 2 := by rw [← e437]; exact x_up_k (Ne.symm (tne_12_1 t3))
        have q448 : h442 62 1 = h435 62 1 := by rw [← e444]; exact x_up_k (Ne.symm (tne_11_62 t3))
        have q449 : h435 62 1 = h30 62 1 := by rw [← e437]; exact x_up_k (Ne.symm (tne_12_62 t3))
        have q450 : h30 62 1 = h 62 1 := f32 62 1 (by decide +kernel)
        have q451 : h442 (r1 + 11) 2 = (1 + (h (r1 + 11) 2)) := by rw [← e444]; exact x_up_at
        have e452 : cl9 h442 = (1 + (h (r1 + 11) 2)) := (congrArg (fun z => h442 z 2) (((q448.trans q449).trans q450).trans q2)).trans q451
        have q453 : h442 1 2 = h435 1 2 := by rw [← e444]; exact x_up_k (Ne.symm (tne_11_1 t3))
        have q454 : h435 1 2 = h30 1 2 := by rw [← e437]; exact x_up_k (Ne.symm (tne_12_1 t3))
        obtain ⟨w455, e456⟩ := Tk.yes c36 (by first | decide | omega)
        have q457 : h442 1 2 = h435 1 2 := by rw [← e444]; exact x_up_k (Ne.symm (tne_11_1 t3))
        have q458 : h435 1 2 = h30 1 2 := by rw [← e437]; exact x_up_k (Ne.symm (tne_12_1 t3))
        refine x_retI (np := 140) (x := 0) (by decide +kernel) (by decide) (Or.inr ⟨by decide +kernel, by first | decide | omega, by first | decide | omega⟩) ⟨_, rfl, (by decide), ?_⟩
        exact ⟨j443, f445, (by first | decide | omega), (fun z => by first | decide | omega), (fun z => by first | decide | omega), (gA_own w455 rfl e456 (by first | decide | omega) (show h30 1 2 = h442 1 2 by first | decide | omega))⟩
      have q429 : ¬ ((h (r1 + 11) 2) < 2147484048) := q429
      exfalso; omega
    have q25 : ¬ (v17 = 2147483648) := q25
    have b459 := c20 (by first | decide | omega)
    refine x_iload (np := 72) (x := 1) (by decide +kernel) rfl (by decide) ?_
    refine x_const (np := 74) (x := 9223372064772063238) (a := 2147483654) (by decide +kernel) (by decide) (by decide) ?_
    refine x_icmp (k := 3) (tg := 115) (np := 77) (by decide +kernel) (by decide) (by decide) (by decide) (fun q460 => ?_) (fun q461 => ?_)
    · have q460 : 2147483654 ≤ 2147483651 := q460
      exfalso; omega
    have q461 : ¬ (2147483654 ≤ 2147483651) := q461
    refine x_aload (np := 78) (x := 0) (by decide +kernel) rfl (x_nc_le (by decide)) ?_
    have q462 : h 62 0 = 1 := by have z := jB (e := 0) 0 hJ rg_62_0_0_1 (by decide) (by decide); omega
    refine x_getR (np := 81) (x := 192) (f := 0) (q := 1) (by decide +kernel) (by decide) (by decide +kernel) q462 ?_
    refine x_const (np := 83) (x := 9223372210800951336) (a := 2147483688) (by decide +kernel) (by decide) (by decide) ?_
    refine x_cI (t := 6) (mj := 76) (n := 2) (rc := 8) (ml := 2) (nr := 0) (np := 86) (as := [x_r 1, iv_c 2147483688]) (rest := []) (lo1 := [x_r 1, iv_c 2147483688]) (by decide +kernel) (by decide) (by decide +kernel) (x_rb_of (by decide +kernel)) rfl rfl (x_wr (by decide) (x_wi (by decide) x_wn)) x_wn (by decide) rfl (c76_1 hJ  (by first | decide | omega) hT) (fun v463 h466 l464 q465 => ?_)
    obtain ⟨j467, f468, b469, c470, c471, c472⟩ := q465
    have f473 := Fr.trans hF f468 (by decide)
    have b474 := jB (e := 2) 0 j467 rg_1_2_0_1 (by first | decide | omega) (by first | decide | omega)
    refine x_ifz (k := 0) (tg := 115) (np := 89) (by decide +kernel) (by decide) l464 (fun q475 => ?_) (fun q476 => ?_)
    · have q475 : v463 = 2147483648 := q475
      have b477 := c471 (by first | decide | omega)
      refine x_const (np := 116) (x := 9223372039002259456) (a := 2147483648) (by decide +kernel) (by decide) (by decide) ?_
      have q478 : h466 62 1 = h 62 1 := f468 62 1 (by decide +kernel)
      have q479 : h466 (r1 + 11) 2 = h (r1 + 11) 2 := jK 0 f468 (rg_T11_2_0_1 t3) (by first | decide | omega) (by first | decide | omega) (by decide)
      have e480 : cl9 h466 = (h (r1 + 11) 2) := (congrArg (fun z => h466 z 2) (q478.trans q2)).trans q479
      obtain ⟨w481, e482⟩ := Tk.no c472 (by first | decide | omega)
      refine x_retI (np := 117) (x := 0) (by decide +kernel) (by decide) (Or.inr ⟨by decide +kernel, by first | decide | omega, by first | decide | omega⟩) ⟨_, rfl, (by decide), ?_⟩
      exact ⟨j467, f473, (by first | decide | omega), (fun z => by first | decide | omega), (fun z => by first | decide | omega), (absurd (Is.yes c21 (by first | decide | omega)) w481)⟩
    have q476 : ¬ (v463 = 2147483648) := q476
    have b483 := c470 (by first | decide | omega)
    refine x_aload (np := 90) (x := 0) (by decide +kernel) rfl (x_nc_le (by decide)) ?_
    refine x_iload (np := 91) (x := 1) (by decide +kernel) rfl (by decide) ?_
    refine x_const (np := 92) (x := 9223372043297226753) (a := 2147483649) (by decide +kernel) (by decide) (by decide) ?_
    refine x_iadd (np := 93) (x := 0) (v := 2147483652) (by decide +kernel) (by decide) (by decide) (by first | decide | omega) (by first | decide | omega) ?_
    have q484 : h466 62 1 = h 62 1 := f468 62 1 (by decide +kernel)
    have q485 : h466 (r1 + 11) 2 = h (r1 + 11) 2 := jK 0 f468 (rg_T11_2_0_1 t3) (by first | decide | omega) (by first | decide | omega) (by decide)
    have e486 : cl9 h466 = (h (r1 + 11) 2) := (congrArg (fun z => h466 z 2) (q484.trans q2)).trans q485
    have m490 := Tp.fr hT f468 (by decide) (by decide)
    refine x_cI (t := 6) (mj := 46) (n := 2) (rc := 4) (ml := 3) (nr := 0) (np := 96) (as := [x_r 62, iv_c 2147483652]) (rest := []) (lo1 := [x_r 62, iv_c 2147483652, 147573952589676412928]) (by decide +kernel) (by decide) (by decide +kernel) (x_rb_of (by decide +kernel)) rfl rfl (x_wr (by decide) (x_wi (by decide) x_wn)) x_wn (by decide) rfl (c46_62_c4 j467   (by first | decide | omega) m490) (fun v487 h491 l488 q489 => ?_)
    obtain ⟨j492, f493, b494, c495, c496, c497⟩ := q489
    have f498 := Fr.trans f473 f493 (by decide)
    have b499 := jB (e := 2) 0 j492 rg_1_2_0_1 (by first | decide | omega) (by first | decide | omega)
    have q500 : h466 62 1 = h 62 1 := f468 62 1 (by decide +kernel)
    have q501 : h466 (r1 + 11) 2 = h (r1 + 11) 2 := jK 0 f468 (rg_T11_2_0_1 t3) (by first | decide | omega) (by first | decide | omega) (by decide)
    have q502 : h491 62 1 = h466 62 1 := f493 62 1 (by decide +kernel)
    have q503 : h466 62 1 = h 62 1 := f468 62 1 (by decide +kernel)
    have b504 := jB (e := 2) 0 j492 (rg_T11_2_0_1 t3) (by first | decide | omega) (by first | decide | omega)
    have e505 : cl9 h491 = (h491 (r1 + 11) 2) := (congrArg (fun z => h491 z 2) ((q502.trans q503).trans q2)).trans rfl
    refine x_ifz (k := 0) (tg := 115) (np := 99) (by decide +kernel) (by decide) l488 (fun q506 => ?_) (fun q507 => ?_)
    · have q506 : v487 = 2147483648 := q506
      refine x_const (np := 116) (x := 9223372039002259456) (a := 2147483648) (by decide +kernel) (by decide) (by decide) ?_
      have q508 : h491 62 1 = h466 62 1 := f493 62 1 (by decide +kernel)
      have q509 : h466 62 1 = h 62 1 := f468 62 1 (by decide +kernel)
      obtain ⟨w510, e511⟩ := Tk.yes c472 (by first | decide | omega)
      refine x_retI (np := 117) (x := 0) (by decide +kernel) (by decide) (Or.inr ⟨by decide +kernel, by first | decide | omega, by first | decide | omega⟩) ⟨_, rfl, (by decide), ?_⟩
      exact ⟨j492, f498, (by first | decide | omega), (fun z => by first | decide | omega), (fun z => by first | decide | omega), (gA_par0 w510 rfl e511 (by decide) c497 rfl (by first | decide | omega) (by first | decide | omega))⟩
    have q507 : ¬ (v487 = 2147483648) := q507
    have b512 := c495 (by first | decide | omega)
    have b513 := c496 (by first | decide | omega)
    refine x_aload (np := 100) (x := 0) (by decide +kernel) rfl (x_nc_le (by decide)) ?_
    have q514 : h491 62 0 = 1 := by have z := jB (e := 0) 0 j492 rg_62_0_0_1 (by decide) (by decide); omega
    refine x_getR (np := 103) (x := 192) (f := 0) (q := 1) (by decide +kernel) (by decide) (by decide +kernel) q514 ?_
    refine x_const (np := 105) (x := 9223372215095918633) (a := 2147483689) (by decide +kernel) (by decide) (by decide) ?_
    have m518 := Tp.fr m490 f493 (by decide) (by decide)
    refine x_cI (t := 6) (mj := 76) (n := 2) (rc := 8) (ml := 2) (nr := 0) (np := 108) (as := [x_r 1, iv_c 2147483689]) (rest := []) (lo1 := [x_r 1, iv_c 2147483689]) (by decide +kernel) (by decide) (by decide +kernel) (x_rb_of (by decide +kernel)) rfl rfl (x_wr (by decide) (x_wi (by decide) x_wn)) x_wn (by decide) rfl (c76_1 j492  (by first | decide | omega) m518) (fun v515 h519 l516 q517 => ?_)
    obtain ⟨j520, f521, b522, c523, c524, c525⟩ := q517
    have f526 := Fr.trans f498 f521 (by decide)
    have b527 := jB (e := 2) 0 j520 rg_1_2_0_1 (by first | decide | omega) (by first | decide | omega)
    refine x_ifz (k := 0) (tg := 115) (np := 111) (by decide +kernel) (by decide) l516 (fun q528 => ?_) (fun q529 => ?_)
    · have q528 : v515 = 2147483648 := q528
      have b530 := c524 (by first | decide | omega)
      refine x_const (np := 116) (x := 9223372039002259456) (a := 2147483648) (by decide +kernel) (by decide) (by decide) ?_
      have q531 : h519 62 1 = h491 62 1 := f521 62 1 (by decide +kernel)
      have q532 : h491 62 1 = h466 62 1 := f493 62 1 (by decide +kernel)
      have q533 : h466 62 1 = h 62 1 := f468 62 1 (by decide +kernel)
      have q534 : h519 (r1 + 11) 2 = h491 (r1 + 11) 2 := jK 0 f521 (rg_T11_2_0_1 t3) (by first | decide | omega) (by first | decide | omega) (by decide)
      have e535 : cl9 h519 = (h491 (r1 + 11) 2) := (congrArg (fun z => h519 z 2) (((q531.trans q532).trans q533).trans q2)).trans q534
      obtain ⟨w536, e537⟩ := Tk.yes c472 (by first | decide | omega)
      refine x_retI (np := 117) (x := 0) (by decide +kernel) (by decide) (Or.inr ⟨by decide +kernel, by first | decide | omega, by first | decide | omega⟩) ⟨_, rfl, (by decide), ?_⟩
      exact ⟨j520, f526, (by first | decide | omega), (fun z => by first | decide | omega), (fun z => by first | decide | omega), (gA_parT w536 rfl e537 (by decide) c497 rfl (by first | decide | omega) c525 rfl (by first | decide | omega) (fun z => absurd z (by first | decide | omega)))⟩
    have q529 : ¬ (v515 = 2147483648) := q529
    have b538 := c523 (by first | decide | omega)
    refine x_const (np := 112) (x := 9223372043297226753) (a := 2147483649) (by decide +kernel) (by decide) (by decide) ?_
    refine x_goto (np := 115) (x := 116) (by decide +kernel) ?_
    have q539 : h519 62 1 = h491 62 1 := f521 62 1 (by decide +kernel)
    have q540 : h491 62 1 = h466 62 1 := f493 62 1 (by decide +kernel)
    have q541 : h466 62 1 = h 62 1 := f468 62 1 (by decide +kernel)
    have q542 : h519 (r1 + 11) 2 = h491 (r1 + 11) 2 := jK 0 f521 (rg_T11_2_0_1 t3) (by first | decide | omega) (by first | decide | omega) (by decide)
    have e543 : cl9 h519 = (h491 (r1 + 11) 2) := (congrArg (fun z => h519 z 2) (((q539.trans q540).trans q541).trans q2)).trans q542
    obtain ⟨w544, e545⟩ := Tk.yes c472 (by first | decide | omega)
    refine x_retI (np := 117) (x := 0) (by decide +kernel) (by decide) (Or.inr ⟨by decide +kernel, by first | decide | omega, by first | decide | omega⟩) ⟨_, rfl, (by decide), ?_⟩
    exact ⟨j520, f526, (by first | decide | omega), (fun z => by first | decide | omega), (fun z => by first | decide | omega), (gA_parT w544 rfl e545 (by decide) c497 rfl (by first | decide | omega) c525 rfl (by first | decide | omega) (fun z => rfl))⟩
  have q15 : ¬ (v8 = 2147483648) := q15
  have b546 := c11 (by first | decide | omega)
  refine x_iload (np := 13) (x := 1) (by decide +kernel) rfl (by decide) ?_
  refine x_const (np := 15) (x := 9223372064772063238) (a := 2147483654) (by decide +kernel) (by decide) (by decide) ?_
  refine x_icmp (k := 3) (tg := 57) (np := 18) (by decide +kernel) (by decide) (by decide) (by decide) (fun q547 => ?_) (fun q548 => ?_)
  · have q547 : 2147483654 ≤ 2147483651 := q547
    exfalso; omega
  have q548 : ¬ (2147483654 ≤ 2147483651) := q548
  refine x_aload (np := 19) (x := 0) (by decide +kernel) rfl (x_nc_le (by decide)) ?_
  have q549 : h 62 0 = 1 := by have z := jB (e := 0) 0 hJ rg_62_0_0_1 (by decide) (by decide); omega
  refine x_getR (np := 22) (x := 192) (f := 0) (q := 1) (by decide +kernel) (by decide) (by decide +kernel) q549 ?_
  refine x_ldcB (i := 24) (idx := 71) (tx := "not") (by rw [tb_y48]; exact List.mem_of_getElem? (i := 24) rfl) (by decide) (by rw [tb_b48]; decide +kernel) ?_
  refine x_cI (t := 6) (mj := 78) (n := 2) (rc := 8) (ml := 2) (nr := 0) (np := 27) (as := [x_r 1, x_b (24 + 1)]) (rest := []) (lo1 := [x_r 1, x_b (24 + 1)]) (by decide +kernel) (by decide) (by decide +kernel) (x_rb_of (by decide +kernel)) rfl rfl (x_wr (by decide) (x_wB (by decide) x_wn)) x_wn (by decide) rfl (c78_1_S0 hJ  (by decide) hT) (fun v550 h553 l551 q552 => ?_)
  obtain ⟨j554, f555, b556, c557, c558, c559⟩ := q552
  have f560 := Fr.trans hF f555 (by decide)
  have b561 := jB (e := 2) 0 j554 rg_1_2_0_1 (by first | decide | omega) (by first | decide | omega)
  have b562 : iv_tl 24 = 3 := by decide
  refine x_ifz (k := 0) (tg := 57) (np := 30) (by decide +kernel) (by decide) l551 (fun q563 => ?_) (fun q564 => ?_)
  · have q563 : v550 = 2147483648 := q563
    have b565 := c558 (by first | decide | omega)
    refine x_const (np := 58) (x := 9223372039002259456) (a := 2147483648) (by decide +kernel) (by decide) (by decide) ?_
    have q566 : h553 62 1 = h 62 1 := f555 62 1 (by decide +kernel)
    have q567 : h553 (r1 + 11) 2 = h (r1 + 11) 2 := jK 0 f555 (rg_T11_2_0_1 t3) (by first | decide | omega) (by first | decide | omega) (by decide)
    have e568 : cl9 h553 = (h (r1 + 11) 2) := (congrArg (fun z => h553 z 2) (q566.trans q2)).trans q567
    obtain ⟨w569, e570⟩ := Tk.no c559 (by first | decide | omega)
    refine x_retI (np := 59) (x := 0) (by decide +kernel) (by decide) (Or.inr ⟨by decide +kernel, by first | decide | omega, by first | decide | omega⟩) ⟨_, rfl, (by decide), ?_⟩
    exact ⟨j554, f560, (by first | decide | omega), (fun z => by first | decide | omega), (fun z => by first | decide | omega), (absurd (Is.yes c12 (by first | decide | omega)) w569)⟩
  have q564 : ¬ (v550 = 2147483648) := q564
  have b571 := c557 (by first | decide | omega)
  refine x_aload (np := 31) (x := 0) (by decide +kernel) rfl (x_nc_le (by decide)) ?_
  refine x_iload (np := 32) (x := 1) (by decide +kernel) rfl (by decide) ?_
  refine x_const (np := 33) (x := 9223372043297226753) (a := 2147483649) (by decide +kernel) (by decide) (by decide) ?_
  refine x_iadd (np := 34) (x := 0) (v := 2147483652) (by decide +kernel) (by decide) (by decide) (by first | decide | omega) (by first | decide | omega) ?_
  have q572 : h553 62 1 = h 62 1 := f555 62 1 (by decide +kernel)
  have q573 : h553 (r1 + 11) 2 = h (r1 + 11) 2 := jK 0 f555 (rg_T11_2_0_1 t3) (by first | decide | omega) (by first | decide | omega) (by decide)
  have e574 : cl9 h553 = (h (r1 + 11) 2) := (congrArg (fun z => h553 z 2) (q572.trans q2)).trans q573
  have m578 := Tp.fr hT f555 (by decide) (by decide)
  refine x_cI (t := 6) (mj := 48) (n := 2) (rc := 4) (ml := 2) (nr := 0) (np := 37) (as := [x_r 62, iv_c 2147483652]) (rest := []) (lo1 := [x_r 62, iv_c 2147483652]) (by decide +kernel) (by decide) (by decide +kernel) (x_rb_of (by decide +kernel)) rfl rfl (x_wr (by decide) (x_wi (by decide) x_wn)) x_wn (by decide) rfl (c48_62_c4 j554   (by first | decide | omega) m578) (fun v575 h579 l576 q577 => ?_)
  obtain ⟨j580, f581, b582, c583, c584, c585⟩ := q577
  have f586 := Fr.trans f560 f581 (by decide)
  have b587 := jB (e := 2) 0 j580 rg_1_2_0_1 (by first | decide | omega) (by first | decide | omega)
  have q588 : h553 62 1 = h 62 1 := f555 62 1 (by decide +kernel)
  have q589 : h553 (r1 + 11) 2 = h (r1 + 11) 2 := jK 0 f555 (rg_T11_2_0_1 t3) (by first | decide | omega) (by first | decide | omega) (by decide)
  have q590 : h579 62 1 = h553 62 1 := f581 62 1 (by decide +kernel)
  have q591 : h553 62 1 = h 62 1 := f555 62 1 (by decide +kernel)
  have b592 := jB (e := 2) 0 j580 (rg_T11_2_0_1 t3) (by first | decide | omega) (by first | decide | omega)
  have e593 : cl9 h579 = (h579 (r1 + 11) 2) := (congrArg (fun z => h579 z 2) ((q590.trans q591).trans q2)).trans rfl
  refine x_ifz (k := 0) (tg := 57) (np := 40) (by decide +kernel) (by decide) l576 (fun q594 => ?_) (fun q595 => ?_)
  · have q594 : v575 = 2147483648 := q594
    refine x_const (np := 58) (x := 9223372039002259456) (a := 2147483648) (by decide +kernel) (by decide) (by decide) ?_
    have q596 : h579 62 1 = h553 62 1 := f581 62 1 (by decide +kernel)
    have q597 : h553 62 1 = h 62 1 := f555 62 1 (by decide +kernel)
    obtain ⟨w598, e599⟩ := Tk.yes c559 (by first | decide | omega)
    refine x_retI (np := 59) (x := 0) (by decide +kernel) (by decide) (Or.inr ⟨by decide +kernel, by first | decide | omega, by first | decide | omega⟩) ⟨_, rfl, (by decide), ?_⟩
    exact ⟨j580, f586, (by first | decide | omega), (fun z => by first | decide | omega), (fun z => by first | decide | omega), (gA_not w598 rfl e599 (by decide) c585 rfl (by first | decide | omega) (fun z => absurd z (by first | decide | omega)))⟩
  have q595 : ¬ (v575 = 2147483648) := q595
  have b600 := c583 (by first | decide | omega)
  have b601 := c584 (by first | decide | omega)
  refine x_aload (np := 41) (x := 0) (by decide +kernel) rfl (x_nc_le (by decide)) ?_
  have q602 : h579 62 1 = h553 62 1 := f581 62 1 (by decide +kernel)
  have q603 : h553 62 1 = h 62 1 := f555 62 1 (by decide +kernel)
  refine x_getR (np := 44) (x := 193) (f := 1) (q := (r1 + 11)) (by decide +kernel) (by decide) (by decide +kernel) ((q602.trans q603).trans q2) ?_
  refine x_const (np := 47) (x := 9223380641821755347) (a := 2147485651) (by decide +kernel) (by decide) (by decide) ?_
  refine x_nI (t := 6) (mj := 36) (n := 2) (rc := 3) (ml := 2) (nr := 0) (np := 50) (as := [x_r (r1 + 11), iv_c 2147485651]) (rest := []) (lo1 := [x_r (r1 + 11), iv_c 2147485651]) (by decide +kernel) (by decide) (by decide +kernel) (x_rb_of (tr_11_3 t3)) rfl rfl (x_wr (tn_11 t3) (x_wi (by decide) x_wn)) x_wn (by decide) rfl ?_
  refine x_aload (np := 1) (x := 0) (by decide +kernel) rfl (x_nc_le (tn_11 t3)) ?_
  refine x_getC (np := 4) (x := 130) (f := 2) (q := (h579 (r1 + 11) 2)) (by decide +kernel) (by decide) (tg_11_130_2_0 t3) rfl (fun l604 => ?_)
  refine x_const (np := 7) (x := 9223373756989178256) (a := 2147484048) (by decide +kernel) (by decide) (by decide) ?_
  refine x_icmp (k := 2) (tg := 12) (np := 10) (by decide +kernel) (by decide) l604 (by decide) (fun q605 => ?_) (fun q606 => ?_)
  · have q605 : (h579 (r1 + 11) 2) < 2147484048 := q605
    refine x_aload (np := 13) (x := 0) (by decide +kernel) rfl (x_nc_le (tn_11 t3)) ?_
    have q607 : h579 (r1 + 11) 0 = (r1 + 12) := tf_11_0 j580 t3
    refine x_getR (np := 16) (x := 128) (f := 0) (q := (r1 + 12)) (by decide +kernel) (by decide) (tg_11_128_0_1 t3) q607 ?_
    refine x_aload (np := 17) (x := 0) (by decide +kernel) rfl (x_nc_le (tn_11 t3)) ?_
    refine x_getC (np := 20) (x := 130) (f := 2) (q := (h579 (r1 + 11) 2)) (by decide +kernel) (by decide) (tg_11_130_2_0 t3) rfl (fun l608 => ?_)
    refine x_iload (np := 21) (x := 1) (by decide +kernel) rfl (by decide) ?_
    obtain ⟨u609, q610⟩ : ∃ z, (h579 (r1 + 11) 2) = 2147483648 + z := ⟨(h579 (r1 + 11) 2) - 2147483648, by first | decide | omega⟩
    refine x_ast (np := 22) (x := 0) (kd := 1) (n := 400) (i := u609) (by decide +kernel) (Or.inl rfl) (ta_12_400 t3) (by first | decide | omega) (by first | decide | omega) (by decide) (by decide) (fun z => absurd z (by decide)) ?_
    have j612 := jU (e := u609) (v := 2147485651) u609 j580 (rg_T12_0_1_400 t3) (by first | decide | omega) (by first | decide | omega) (by first | decide | omega)
    have f614 := jF (e := u609) (v := 2147485651) u609 f586 (rg_T12_0_1_400 t3) (by first | decide | omega) (by first | decide | omega) (by decide)
    generalize e613 : x_up h579 (r1 + 12) u609 2147485651 = h611 at j612 f614 ⊢
    refine x_aload (np := 23) (x := 0) (by decide +kernel) rfl (x_nc_le (tn_11 t3)) ?_
    refine x_dup (np := 24) (x := 0) (by decide +kernel) (by have z := x_nc_le (k := (r1 + 11)) (tn_11 t3); unfold x_r; omega) ?_
    have q615 : h611 (r1 + 11) 2 = h579 (r1 + 11) 2 := by rw [← e613]; exact x_up_k tof_11_12
    refine x_getC (np := 27) (x := 130) (f := 2) (q := (h579 (r1 + 11) 2)) (by decide +kernel) (by decide) (tg_11_130_2_0 t3) q615 (fun l616 => ?_)
    refine x_const (np := 28) (x := 9223372043297226753) (a := 2147483649) (by decide +kernel) (by decide) (by decide) ?_
    refine x_iadd (np := 29) (x := 0) (v := (1 + (h579 (r1 + 11) 2))) (by decide +kernel) l604 (by decide) (by first | decide | omega) (by first | decide | omega) ?_
    refine x_putI (np := 32) (x := 130) (f := 2) (by decide +kernel) (tg_11_130_2_0 t3) (by first | decide | omega) (Or.inl (by decide)) ?_
    have j618 := jU (e := 2) (v := (1 + (h579 (r1 + 11) 2))) 0 j612 (rg_T11_2_0_1 t3) (by first | decide | omega) (by first | decide | omega) (by first | decide | omega)
    have f620 := jF (e := 2) (v := (1 + (h579 (r1 + 11) 2))) 0 f614 (rg_T11_2_0_1 t3) (by first | decide | omega) (by first | decide | omega) (by decide)
    generalize e619 : x_up h611 (r1 + 11) 2 (1 + (h579 (r1 + 11) 2)) = h617 at j618 f620 ⊢
    refine x_const (np := 33) (x := 9223372043297226753) (a := 2147483649) (by decide +kernel) (by decide) (by decide) ?_
    refine x_retI (np := 34) (x := 0) (by decide +kernel) (by decide) (Or.inr ⟨by decide +kernel, by first | decide | omega, by first | decide | omega⟩) ⟨_, rfl, (by decide), ?_⟩
    refine x_ifz (k := 0) (tg := 57) (np := 53) (by decide +kernel) (by decide) (by decide) (fun q621 => ?_) (fun q622 => ?_)
    · have q621 : 2147483649 = 2147483648 := q621
      exfalso; omega
    have q622 : ¬ (2147483649 = 2147483648) := q622
    refine x_const (np := 54) (x := 9223372043297226753) (a := 2147483649) (by decide +kernel) (by decide) (by decide) ?_
    refine x_goto (np := 57) (x := 58) (by decide +kernel) ?_
    have q623 : h617 1 2 = h611 1 2 := by rw [← e619]; exact x_up_k (Ne.symm (tne_11_1 t3))
    have q624 : h611 1 2 = h579 1 2 := by rw [← e613]; exact x_up_k (Ne.symm (tne_12_1 t3))
    have q625 : h617 62 1 = h611 62 1 := by rw [← e619]; exact x_up_k (Ne.symm (tne_11_62 t3))
    have q626 : h611 62 1 = h579 62 1 := by rw [← e613]; exact x_up_k (Ne.symm (tne_12_62 t3))
    have q627 : h579 62 1 = h553 62 1 := f581 62 1 (by decide +kernel)
    have q628 : h553 62 1 = h 62 1 := f555 62 1 (by decide +kernel)
    have q629 : h617 (r1 + 11) 2 = (1 + (h579 (r1 + 11) 2)) := by rw [← e619]; exact x_up_at
    have e630 : cl9 h617 = (1 + (h579 (r1 + 11) 2)) := (congrArg (fun z => h617 z 2) ((((q625.trans q626).trans q627).trans q628).trans q2)).trans q629
    have q631 : h617 1 2 = h611 1 2 := by rw [← e619]; exact x_up_k (Ne.symm (tne_11_1 t3))
    have q632 : h611 1 2 = h579 1 2 := by rw [← e613]; exact x_up_k (Ne.symm (tne_12_1 t3))
    obtain ⟨w633, e634⟩ := Tk.yes c559 (by first | decide | omega)
    have q635 : h617 1 2 = h611 1 2 := by rw [← e619]; exact x_up_k (Ne.symm (tne_11_1 t3))
    have q636 : h611 1 2 = h579 1 2 := by rw [← e613]; exact x_up_k (Ne.symm (tne_12_1 t3))
    refine x_retI (np := 59) (x := 0) (by decide +kernel) (by decide) (Or.inr ⟨by decide +kernel, by first | decide | omega, by first | decide | omega⟩) ⟨_, rfl, (by decide), ?_⟩
    exact ⟨j618, f620, (by first | decide | omega), (fun z => by first | decide | omega), (fun z => by first | decide | omega), (gA_not w633 rfl e634 (by decide) c585 rfl (by first | decide | omega) (fun z => (show h579 1 2 = h617 1 2 by first | decide | omega)))⟩
  have q606 : ¬ ((h579 (r1 + 11) 2) < 2147484048) := q606
  refine x_const (np := 11) (x := 9223372039002259456) (a := 2147483648) (by decide +kernel) (by decide) (by decide) ?_
  refine x_retI (np := 12) (x := 0) (by decide +kernel) (by decide) (Or.inr ⟨by decide +kernel, by first | decide | omega, by first | decide | omega⟩) ⟨_, rfl, (by decide), ?_⟩
  refine x_ifz (k := 0) (tg := 57) (np := 53) (by decide +kernel) (by decide) (by decide) (fun q637 => ?_) (fun q638 => ?_)
  · have q637 : 2147483648 = 2147483648 := q637
    refine x_const (np := 58) (x := 9223372039002259456) (a := 2147483648) (by decide +kernel) (by decide) (by decide) ?_
    have q639 : h579 62 1 = h553 62 1 := f581 62 1 (by decide +kernel)
    have q640 : h553 62 1 = h 62 1 := f555 62 1 (by decide +kernel)
    obtain ⟨w641, e642⟩ := Tk.yes c559 (by first | decide | omega)
    refine x_retI (np := 59) (x := 0) (by decide +kernel) (by decide) (Or.inr ⟨by decide +kernel, by first | decide | omega, by first | decide | omega⟩) ⟨_, rfl, (by decide), ?_⟩
    exact ⟨j580, f586, (by first | decide | omega), (fun z => by first | decide | omega), (fun z => by first | decide | omega), (gA_not w641 rfl e642 (by decide) c585 rfl (by first | decide | omega) (fun z => rfl))⟩
  have q638 : ¬ (2147483648 = 2147483648) := q638
  exfalso; omega
set_option maxHeartbeats 0 in
/-- LentNames$CustomReader.readAll(I)Z -/
theorem c47_62_c3 {sc : Nat × Nat} {d  : Nat} {h : xh} {tB : Nat → Nat} {tN : Nat} (hJ : J h) (hr0 : (cl9 h) + 5 ≤ (h 1 2)) (hT : Tp tB tN h) : X sc 47 (d + 18) (xI fun r h' => J h' ∧ Fr 161 h h' ∧ (2147483648 ≤ r ∧ r ≤ 2147483649) ∧ (r = 2147483649 → h 1 2 + 1 ≤ h' 1 2) ∧ (r = 2147483649 → cl9 h' + h 1 2 ≤ h' 1 2 + cl9 h) ∧ G tB tN (Kd.seq 1) 3 (h 1 2) (rs r (h' 1 2))) 0 0 0 [x_r 62, iv_c 2147483651, 147573952589676412928] [] h := by
  have hF := Fr.refl 161 h
  obtain ⟨r1, q2, t3⟩ : ∃ z, (h 62 1) = z + 11 ∧ tw z := by
    rcases hJ.2.2.2.2.2.2.2 with z | z
    · exact ⟨17, by rw [z], Or.inl rfl⟩
    · exact ⟨31, by rw [z], Or.inr rfl⟩
  have b4 := jB (e := 2) 0 hJ (rg_T11_2_0_1 t3) (by first | decide | omega) (by first | decide | omega)
  have e5 : cl9 h = (h (r1 + 11) 2) := (congrArg (fun z => h z 2) q2).trans rfl
  have b6 := jB (e := 2) 0 hJ rg_1_2_0_1 (by first | decide | omega) (by first | decide | omega)
  refine x_aload (np := 1) (x := 0) (by decide +kernel) rfl (x_nc_le (by decide)) ?_
  refine x_iload (np := 2) (x := 1) (by decide +kernel) rfl (by decide) ?_
  refine x_cI (t := 6) (mj := 48) (n := 2) (rc := 4) (ml := 2) (nr := 0) (np := 5) (as := [x_r 62, iv_c 2147483651]) (rest := []) (lo1 := [x_r 62, iv_c 2147483651]) (by decide +kernel) (by decide) (by decide +kernel) (x_rb_of (by decide +kernel)) rfl rfl (x_wr (by decide) (x_wi (by decide) x_wn)) x_wn (by decide) rfl (c48_62_c3 hJ   (by first | decide | omega) hT) (fun v7 h10 l8 q9 => ?_)
  obtain ⟨j11, f12, b13, c14, c15, c16⟩ := q9
  have f17 := Fr.trans hF f12 (by decide)
  have b18 := jB (e := 2) 0 j11 rg_1_2_0_1 (by first | decide | omega) (by first | decide | omega)
  have q19 : h10 62 1 = h 62 1 := f12 62 1 (by decide +kernel)
  have b20 := jB (e := 2) 0 j11 (rg_T11_2_0_1 t3) (by first | decide | omega) (by first | decide | omega)
  have e21 : cl9 h10 = (h10 (r1 + 11) 2) := (congrArg (fun z => h10 z 2) (q19.trans q2)).trans rfl
  refine x_ifz (k := 1) (tg := 10) (np := 8) (by decide +kernel) (by decide) l8 (fun q22 => ?_) (fun q23 => ?_)
  · have q22 : v7 ≠ 2147483648 := q22
    have b24 := c14 (by first | decide | omega)
    have b25 := c15 (by first | decide | omega)
    refine x_const (np := 11) (x := 9223372039002259456) (a := 2147483648) (by decide +kernel) (by decide) (by decide) ?_
    refine x_istore (np := 12) (x := 2) (lo' := [x_r 62, iv_c 2147483651, iv_c 2147483648]) (by decide +kernel) (by decide) (Nat.le_of_ble_eq_true rfl) rfl ?_
    have p2065 : ∀ (n : Nat) (v2060 : Nat) (h2062 : xh), 4294967296 - v2060 < n → (2147483648 ≤ v2060 ∧ v2060 ≤ 2147484047) → cl9 h2062 + h 1 2 ≤ h2062 1 2 + cl9 h → h 1 2 + 1 ≤ h2062 1 2 → v2060 ≤ h2062 1 2 → J h2062 → Fr 161 h10 h2062 → Res tB tN (Kd.lp 1) 3 (h2062 1 2) (Kd.seq 1) 3 (h 1 2) → X sc 47 (d + 18) (xI fun r h' => J h' ∧ Fr 161 h h' ∧ (2147483648 ≤ r ∧ r ≤ 2147483649) ∧ (r = 2147483649 → h 1 2 + 1 ≤ h' 1 2) ∧ (r = 2147483649 → cl9 h' + h 1 2 ≤ h' 1 2 + cl9 h) ∧ G tB tN (Kd.seq 1) 3 (h 1 2) (rs r (h' 1 2))) 0 0 12 [x_r 62, iv_c 2147483651, iv_c v2060] [] h2062 := by
      intro n
      induction n with
      | zero => intro v2060 h2062 q2070; exact absurd q2070 (Nat.not_lt_zero _)
      | succ n i2071 =>
        intro v2060 h2062 q2070 b2061 b2066 b2067 b2068 j2064 f2063 m2069
        have f2072 := Fr.trans f17 f2063 (by decide)
        have b2073 := jB (e := 2) 0 j2064 rg_1_2_0_1 (by first | decide | omega) (by first | decide | omega)
        have q2074 : h2062 62 1 = h10 62 1 := f2063 62 1 (by decide +kernel)
        have q2075 : h10 62 1 = h 62 1 := f12 62 1 (by decide +kernel)
        have b2076 := jB (e := 2) 0 j2064 (rg_T11_2_0_1 t3) (by first | decide | omega) (by first | decide | omega)
        have e2077 : cl9 h2062 = (h2062 (r1 + 11) 2) := (congrArg (fun z => h2062 z 2) ((q2074.trans q2075).trans q2)).trans rfl
        refine x_iload (np := 13) (x := 2) (by decide +kernel) rfl (by first | decide | omega) ?_
        refine x_const (np := 16) (x := 9223373756989178256) (a := 2147484048) (by decide +kernel) (by decide) (by decide) ?_
        refine x_icmp (k := 3) (tg := 60) (np := 19) (by decide +kernel) (by decide) (by first | decide | omega) (by decide) (fun q2078 => ?_) (fun q2079 => ?_)
        · have q2078 : 2147484048 ≤ v2060 := q2078
          exfalso; omega
        have q2079 : ¬ (2147484048 ≤ v2060) := q2079
        refine x_aload (np := 20) (x := 0) (by decide +kernel) rfl (x_nc_le (by decide)) ?_
        have q2080 : h2062 62 0 = 1 := by have z := jB (e := 0) 0 j2064 rg_62_0_0_1 (by decide) (by decide); omega
        refine x_getR (np := 23) (x := 192) (f := 0) (q := 1) (by decide +kernel) (by decide) (by decide +kernel) q2080 ?_
        refine x_ldcB (i := 31) (idx := 69) (tx := "and") (by rw [tb_y47]; exact List.mem_of_getElem? (i := 33) rfl) (by decide) (by rw [tb_b47]; decide +kernel) ?_
        have m2085 := Tp.fr hT f12 (by decide) (by decide)
        have m2084 := Tp.fr m2085 f2063 (by decide) (by decide)
        refine x_cI (t := 6) (mj := 78) (n := 2) (rc := 8) (ml := 2) (nr := 0) (np := 28) (as := [x_r 1, x_b (31 + 1)]) (rest := []) (lo1 := [x_r 1, x_b (31 + 1)]) (by decide +kernel) (by decide) (by decide +kernel) (x_rb_of (by decide +kernel)) rfl rfl (x_wr (by decide) (x_wB (by decide) x_wn)) x_wn (by decide) rfl (c78_1_S0 j2064  (by decide) m2084) (fun v2081 h2086 l2082 q2083 => ?_)
        obtain ⟨j2087, f2088, b2089, c2090, c2091, c2092⟩ := q2083
        have f2093 := Fr.trans f2072 f2088 (by decide)
        have f2094 := Fr.trans f2063 f2088 (by decide)
        have b2095 := jB (e := 2) 0 j2087 rg_1_2_0_1 (by first | decide | omega) (by first | decide | omega)
        have b2096 : iv_tl 31 = 3 := by decide
        refine x_ifz (k := 0) (tg := 60) (np := 31) (by decide +kernel) (by decide) l2082 (fun q2097 => ?_) (fun q2098 => ?_)
        · have q2097 : v2081 = 2147483648 := q2097
          have b2099 := c2091 (by first | decide | omega)
          refine x_const (np := 61) (x := 9223372043297226753) (a := 2147483649) (by decide +kernel) (by decide) (by decide) ?_
          have q2100 : h2086 62 1 = h2062 62 1 := f2088 62 1 (by decide +kernel)
          have q2101 : h2062 62 1 = h10 62 1 := f2063 62 1 (by decide +kernel)
          have q2102 : h10 62 1 = h 62 1 := f12 62 1 (by decide +kernel)
          have q2103 : h2086 (r1 + 11) 2 = h2062 (r1 + 11) 2 := jK 0 f2088 (rg_T11_2_0_1 t3) (by first | decide | omega) (by first | decide | omega) (by decide)
          have e2104 : cl9 h2086 = (h2062 (r1 + 11) 2) := (congrArg (fun z => h2086 z 2) (((q2100.trans q2101).trans q2102).trans q2)).trans q2103
          obtain ⟨w2105, e2106⟩ := Tk.no c2092 (by first | decide | omega)
          refine x_retI (np := 62) (x := 0) (by decide +kernel) (by decide) (Or.inr ⟨by decide +kernel, by first | decide | omega, by first | decide | omega⟩) ⟨_, rfl, (by decide), ?_⟩
          exact ⟨j2087, f2093, (by first | decide | omega), (fun z => by first | decide | omega), (fun z => by first | decide | omega), (gQ_e (t := 1) m2069 w2105 rfl (by first | decide | omega) (show h2062 1 2 = h2086 1 2 by first | decide | omega))⟩
        have q2098 : ¬ (v2081 = 2147483648) := q2098
        have b2107 := c2090 (by first | decide | omega)
        refine x_aload (np := 32) (x := 0) (by decide +kernel) rfl (x_nc_le (by decide)) ?_
        refine x_iload (np := 33) (x := 1) (by decide +kernel) rfl (by decide) ?_
        have q2108 : h2086 62 1 = h2062 62 1 := f2088 62 1 (by decide +kernel)
        have q2109 : h2062 62 1 = h10 62 1 := f2063 62 1 (by decide +kernel)
        have q2110 : h10 62 1 = h 62 1 := f12 62 1 (by decide +kernel)
        have q2111 : h2086 (r1 + 11) 2 = h2062 (r1 + 11) 2 := jK 0 f2088 (rg_T11_2_0_1 t3) (by first | decide | omega) (by first | decide | omega) (by decide)
        have e2112 : cl9 h2086 = (h2062 (r1 + 11) 2) := (congrArg (fun z => h2086 z 2) (((q2108.trans q2109).trans q2110).trans q2)).trans q2111
        have m2116 := Tp.fr m2084 f2088 (by decide) (by decide)
        refine x_cI (t := 6) (mj := 48) (n := 2) (rc := 4) (ml := 2) (nr := 0) (np := 36) (as := [x_r 62, iv_c 2147483651]) (rest := []) (lo1 := [x_r 62, iv_c 2147483651]) (by decide +kernel) (by decide) (by decide +kernel) (x_rb_of (by decide +kernel)) rfl rfl (x_wr (by decide) (x_wi (by decide) x_wn)) x_wn (by decide) rfl (c48_62_c3 j2087   (by first | decide | omega) m2116) (fun v2113 h2117 l2114 q2115 => ?_)
        obtain ⟨j2118, f2119, b2120, c2121, c2122, c2123⟩ := q2115
        have f2124 := Fr.trans f2093 f2119 (by decide)
        have f2125 := Fr.trans f2094 f2119 (by decide)
        have b2126 := jB (e := 2) 0 j2118 rg_1_2_0_1 (by first | decide | omega) (by first | decide | omega)
        have q2127 : h2086 62 1 = h2062 62 1 := f2088 62 1 (by decide +kernel)
        have q2128 : h2062 62 1 = h10 62 1 := f2063 62 1 (by decide +kernel)
        have q2129 : h10 62 1 = h 62 1 := f12 62 1 (by decide +kernel)
        have q2130 : h2086 (r1 + 11) 2 = h2062 (r1 + 11) 2 := jK 0 f2088 (rg_T11_2_0_1 t3) (by first | decide | omega) (by first | decide | omega) (by decide)
        have q2131 : h2117 62 1 = h2086 62 1 := f2119 62 1 (by decide +kernel)
        have q2132 : h2086 62 1 = h2062 62 1 := f2088 62 1 (by decide +kernel)
        have q2133 : h2062 62 1 = h10 62 1 := f2063 62 1 (by decide +kernel)
        have q2134 : h10 62 1 = h 62 1 := f12 62 1 (by decide +kernel)
        have b2135 := jB (e := 2) 0 j2118 (rg_T11_2_0_1 t3) (by first | decide | omega) (by first | decide | omega)
        have e2136 : cl9 h2117 = (h2117 (r1 + 11) 2) := (congrArg (fun z => h2117 z 2) ((((q2131.trans q2132).trans q2133).trans q2134).trans q2)).trans rfl
        refine x_ifz (k := 0) (tg := 52) (np := 39) (by decide +kernel) (by decide) l2114 (fun q2137 => ?_) (fun q2138 => ?_)
        · have q2137 : v2113 = 2147483648 := q2137
          refine x_const (np := 53) (x := 9223372039002259456) (a := 2147483648) (by decide +kernel) (by decide) (by decide) ?_
          have q2139 : h2117 62 1 = h2086 62 1 := f2119 62 1 (by decide +kernel)
          have q2140 : h2086 62 1 = h2062 62 1 := f2088 62 1 (by decide +kernel)
          have q2141 : h2062 62 1 = h10 62 1 := f2063 62 1 (by decide +kernel)
          have q2142 : h10 62 1 = h 62 1 := f12 62 1 (by decide +kernel)
          obtain ⟨w2143, e2144⟩ := Tk.yes c2092 (by first | decide | omega)
          refine x_retI (np := 54) (x := 0) (by decide +kernel) (by decide) (Or.inr ⟨by decide +kernel, by first | decide | omega, by first | decide | omega⟩) ⟨_, rfl, (by decide), ?_⟩
          exact ⟨j2118, f2124, (by first | decide | omega), (fun z => by first | decide | omega), (fun z => by first | decide | omega), (gQ_f (t := 1) m2069 w2143 rfl e2144 c2123 rfl (by first | decide | omega) (by first | decide | omega))⟩
        have q2138 : ¬ (v2113 = 2147483648) := q2138
        have b2145 := c2121 (by first | decide | omega)
        have b2146 := c2122 (by first | decide | omega)
        refine x_aload (np := 40) (x := 0) (by decide +kernel) rfl (x_nc_le (by decide)) ?_
        have q2147 : h2117 62 1 = h2086 62 1 := f2119 62 1 (by decide +kernel)
        have q2148 : h2086 62 1 = h2062 62 1 := f2088 62 1 (by decide +kernel)
        have q2149 : h2062 62 1 = h10 62 1 := f2063 62 1 (by decide +kernel)
        have q2150 : h10 62 1 = h 62 1 := f12 62 1 (by decide +kernel)
        refine x_getR (np := 43) (x := 193) (f := 1) (q := (r1 + 11)) (by decide +kernel) (by decide) (by decide +kernel) ((((q2147.trans q2148).trans q2149).trans q2150).trans q2) ?_
        refine x_const (np := 46) (x := 9223380646116722644) (a := 2147485652) (by decide +kernel) (by decide) (by decide) ?_
        refine x_nI (t := 6) (mj := 36) (n := 2) (rc := 3) (ml := 2) (nr := 0) (np := 49) (as := [x_r (r1 + 11), iv_c 2147485652]) (rest := []) (lo1 := [x_r (r1 + 11), iv_c 2147485652]) (by decide +kernel) (by decide) (by decide +kernel) (x_rb_of (tr_11_3 t3)) rfl rfl (x_wr (tn_11 t3) (x_wi (by decide) x_wn)) x_wn (by decide) rfl ?_
        refine x_aload (np := 1) (x := 0) (by decide +kernel) rfl (x_nc_le (tn_11 t3)) ?_
        refine x_getC (np := 4) (x := 130) (f := 2) (q := (h2117 (r1 + 11) 2)) (by decide +kernel) (by decide) (tg_11_130_2_0 t3) rfl (fun l2151 => ?_)
        refine x_const (np := 7) (x := 9223373756989178256) (a := 2147484048) (by decide +kernel) (by decide) (by decide) ?_
        refine x_icmp (k := 2) (tg := 12) (np := 10) (by decide +kernel) (by decide) l2151 (by decide) (fun q2152 => ?_) (fun q2153 => ?_)
        · have q2152 : (h2117 (r1 + 11) 2) < 2147484048 := q2152
          refine x_aload (np := 13) (x := 0) (by decide +kernel) rfl (x_nc_le (tn_11 t3)) ?_
          have q2154 : h2117 (r1 + 11) 0 = (r1 + 12) := tf_11_0 j2118 t3
          refine x_getR (np := 16) (x := 128) (f := 0) (q := (r1 + 12)) (by decide +kernel) (by decide) (tg_11_128_0_1 t3) q2154 ?_
          refine x_aload (np := 17) (x := 0) (by decide +kernel) rfl (x_nc_le (tn_11 t3)) ?_
          refine x_getC (np := 20) (x := 130) (f := 2) (q := (h2117 (r1 + 11) 2)) (by decide +kernel) (by decide) (tg_11_130_2_0 t3) rfl (fun l2155 => ?_)
          refine x_iload (np := 21) (x := 1) (by decide +kernel) rfl (by decide) ?_
          obtain ⟨u2156, q2157⟩ : ∃ z, (h2117 (r1 + 11) 2) = 2147483648 + z := ⟨(h2117 (r1 + 11) 2) - 2147483648, by first | decide | omega⟩
          refine x_ast (np := 22) (x := 0) (kd := 1) (n := 400) (i := u2156) (by decide +kernel) (Or.inl rfl) (ta_12_400 t3) (by first | decide | omega) (by first | decide | omega) (by decide) (by decide) (fun z => absurd z (by decide)) ?_
          have j2159 := jU (e := u2156) (v := 2147485652) u2156 j2118 (rg_T12_0_1_400 t3) (by first | decide | omega) (by first | decide | omega) (by first | decide | omega)
          have f2161 := jF (e := u2156) (v := 2147485652) u2156 f2124 (rg_T12_0_1_400 t3) (by first | decide | omega) (by first | decide | omega) (by decide)
          have f2162 := jF (e := u2156) (v := 2147485652) u2156 f2125 (rg_T12_0_1_400 t3) (by first | decide | omega) (by first | decide | omega) (by decide)
          generalize e2160 : x_up h2117 (r1 + 12) u2156 2147485652 = h2158 at j2159 f2161 f2162 ⊢
          refine x_aload (np := 23) (x := 0) (by decide +kernel) rfl (x_nc_le (tn_11 t3)) ?_
          refine x_dup (np := 24) (x := 0) (by decide +kernel) (by have z := x_nc_le (k := (r1 + 11)) (tn_11 t3); unfold x_r; omega) ?_
          have q2163 : h2158 (r1 + 11) 2 = h2117 (r1 + 11) 2 := by rw [← e2160]; exact x_up_k tof_11_12
          refine x_getC (np := 27) (x := 130) (f := 2) (q := (h2117 (r1 + 11) 2)) (by decide +kernel) (by decide) (tg_11_130_2_0 t3) q2163 (fun l2164 => ?_)
          refine x_const (np := 28) (x := 9223372043297226753) (a := 2147483649) (by decide +kernel) (by decide) (by decide) ?_
          refine x_iadd (np := 29) (x := 0) (v := (1 + (h2117 (r1 + 11) 2))) (by decide +kernel) l2151 (by decide) (by first | decide | omega) (by first | decide | omega) ?_
          refine x_putI (np := 32) (x := 130) (f := 2) (by decide +kernel) (tg_11_130_2_0 t3) (by first | decide | omega) (Or.inl (by decide)) ?_
          have j2166 := jU (e := 2) (v := (1 + (h2117 (r1 + 11) 2))) 0 j2159 (rg_T11_2_0_1 t3) (by first | decide | omega) (by first | decide | omega) (by first | decide | omega)
          have f2168 := jF (e := 2) (v := (1 + (h2117 (r1 + 11) 2))) 0 f2161 (rg_T11_2_0_1 t3) (by first | decide | omega) (by first | decide | omega) (by decide)
          have f2169 := jF (e := 2) (v := (1 + (h2117 (r1 + 11) 2))) 0 f2162 (rg_T11_2_0_1 t3) (by first | decide | omega) (by first | decide | omega) (by decide)
          generalize e2167 : x_up h2158 (r1 + 11) 2 (1 + (h2117 (r1 + 11) 2)) = h2165 at j2166 f2168 f2169 ⊢
          refine x_const (np := 33) (x := 9223372043297226753) (a := 2147483649) (by decide +kernel) (by decide) (by decide) ?_
          refine x_retI (np := 34) (x := 0) (by decide +kernel) (by decide) (Or.inr ⟨by decide +kernel, by first | decide | omega, by first | decide | omega⟩) ⟨_, rfl, (by decide), ?_⟩
          refine x_ifz (k := 1) (tg := 54) (np := 52) (by decide +kernel) (by decide) (by decide) (fun q2170 => ?_) (fun q2171 => ?_)
          · have q2170 : 2147483649 ≠ 2147483648 := q2170
            refine x_iinc (np := 57) (i := 2) (j := 2147483649) (v := (1 + v2060)) (lo' := [x_r 62, iv_c 2147483651, iv_c (1 + v2060)]) (by decide +kernel) (by decide) (by decide) rfl (by first | decide | omega) (by first | decide | omega) (by first | decide | omega) rfl ?_
            refine x_goto (np := 60) (x := 12) (by decide +kernel) ?_
            have q2172 : h2165 1 2 = h2158 1 2 := by rw [← e2167]; exact x_up_k (Ne.symm (tne_11_1 t3))
            have q2173 : h2158 1 2 = h2117 1 2 := by rw [← e2160]; exact x_up_k (Ne.symm (tne_12_1 t3))
            have q2174 : h2165 62 1 = h2158 62 1 := by rw [← e2167]; exact x_up_k (Ne.symm (tne_11_62 t3))
            have q2175 : h2158 62 1 = h2117 62 1 := by rw [← e2160]; exact x_up_k (Ne.symm (tne_12_62 t3))
            have q2176 : h2117 62 1 = h2086 62 1 := f2119 62 1 (by decide +kernel)
            have q2177 : h2086 62 1 = h2062 62 1 := f2088 62 1 (by decide +kernel)
            have q2178 : h2062 62 1 = h10 62 1 := f2063 62 1 (by decide +kernel)
            have q2179 : h10 62 1 = h 62 1 := f12 62 1 (by decide +kernel)
            have q2180 : h2165 (r1 + 11) 2 = (1 + (h2117 (r1 + 11) 2)) := by rw [← e2167]; exact x_up_at
            have e2181 : cl9 h2165 = (1 + (h2117 (r1 + 11) 2)) := (congrArg (fun z => h2165 z 2) ((((((q2174.trans q2175).trans q2176).trans q2177).trans q2178).trans q2179).trans q2)).trans q2180
            obtain ⟨w2182, e2183⟩ := Tk.yes c2092 (by first | decide | omega)
            have q2184 : h2165 1 2 = h2158 1 2 := by rw [← e2167]; exact x_up_k (Ne.symm (tne_11_1 t3))
            have q2185 : h2158 1 2 = h2117 1 2 := by rw [← e2160]; exact x_up_k (Ne.symm (tne_12_1 t3))
            exact i2071 (1 + v2060) h2165 (by first | decide | omega) (by first | decide | omega) (by first | decide | omega) (by first | decide | omega) (by first | decide | omega) j2166 f2169 (gQ_st (t := 1) m2069 w2182 rfl e2183 c2123 rfl (by first | decide | omega) (show h2117 1 2 = h2165 1 2 by first | decide | omega))
          have q2171 : ¬ (2147483649 ≠ 2147483648) := q2171
          exfalso; omega
        have q2153 : ¬ ((h2117 (r1 + 11) 2) < 2147484048) := q2153
        refine x_const (np := 11) (x := 9223372039002259456) (a := 2147483648) (by decide +kernel) (by decide) (by decide) ?_
        refine x_retI (np := 12) (x := 0) (by decide +kernel) (by decide) (Or.inr ⟨by decide +kernel, by first | decide | omega, by first | decide | omega⟩) ⟨_, rfl, (by decide), ?_⟩
        refine x_ifz (k := 1) (tg := 54) (np := 52) (by decide +kernel) (by decide) (by decide) (fun q2186 => ?_) (fun q2187 => ?_)
        · have q2186 : 2147483648 ≠ 2147483648 := q2186
          exfalso; omega
        have q2187 : ¬ (2147483648 ≠ 2147483648) := q2187
        refine x_const (np := 53) (x := 9223372039002259456) (a := 2147483648) (by decide +kernel) (by decide) (by decide) ?_
        have q2188 : h2117 62 1 = h2086 62 1 := f2119 62 1 (by decide +kernel)
        have q2189 : h2086 62 1 = h2062 62 1 := f2088 62 1 (by decide +kernel)
        have q2190 : h2062 62 1 = h10 62 1 := f2063 62 1 (by decide +kernel)
        have q2191 : h10 62 1 = h 62 1 := f12 62 1 (by decide +kernel)
        obtain ⟨w2192, e2193⟩ := Tk.yes c2092 (by first | decide | omega)
        refine x_retI (np := 54) (x := 0) (by decide +kernel) (by decide) (Or.inr ⟨by decide +kernel, by first | decide | omega, by first | decide | omega⟩) ⟨_, rfl, (by decide), ?_⟩
        exact ⟨j2118, f2124, (by first | decide | omega), (fun z => by first | decide | omega), (fun z => by first | decide | omega), (gQ_f (t := 1) m2069 w2192 rfl e2193 c2123 rfl (by first | decide | omega) (by first | decide | omega))⟩
    have q2194 : h10 62 1 = h 62 1 := f12 62 1 (by decide +kernel)
    exact p2065 _ 2147483648 h10 (Nat.lt_succ_self _) (by first | decide | omega) (by first | decide | omega) (by first | decide | omega) (by first | decide | omega) j11 (Fr.refl _ _) (gQ_in (t := 1) c16 rfl (by first | decide | omega) rfl)
  have q23 : ¬ (v7 ≠ 2147483648) := q23
  refine x_const (np := 9) (x := 9223372039002259456) (a := 2147483648) (by decide +kernel) (by decide) (by decide) ?_
  have q2195 : h10 62 1 = h 62 1 := f12 62 1 (by decide +kernel)
  refine x_retI (np := 10) (x := 0) (by decide +kernel) (by decide) (Or.inr ⟨by decide +kernel, by first | decide | omega, by first | decide | omega⟩) ⟨_, rfl, (by decide), ?_⟩
  exact ⟨j11, f17, (by first | decide | omega), (fun z => by first | decide | omega), (fun z => by first | decide | omega), (gQ_no (t := 1) c16 rfl (by first | decide | omega) (by first | decide | omega))⟩
set_option maxHeartbeats 0 in
/-- LentNames$CustomReader.readCondition(I)Z -/
theorem c46_62_c3 {sc : Nat × Nat} {d  : Nat} {h : xh} {tB : Nat → Nat} {tN : Nat} (hJ : J h) (hr0 : (cl9 h) + 5 ≤ (h 1 2)) (hT : Tp tB tN h) : X sc 46 (d + 19) (xI fun r h' => J h' ∧ Fr 161 h h' ∧ (2147483648 ≤ r ∧ r ≤ 2147483649) ∧ (r = 2147483649 → h 1 2 + 1 ≤ h' 1 2) ∧ (r = 2147483649 → cl9 h' + h 1 2 ≤ h' 1 2 + cl9 h) ∧ G tB tN (Kd.seq 2) 3 (h 1 2) (rs r (h' 1 2))) 0 0 0 [x_r 62, iv_c 2147483651, 147573952589676412928] [] h := by
  have hF := Fr.refl 161 h
  obtain ⟨r1, q2, t3⟩ : ∃ z, (h 62 1) = z + 11 ∧ tw z := by
    rcases hJ.2.2.2.2.2.2.2 with z | z
    · exact ⟨17, by rw [z], Or.inl rfl⟩
    · exact ⟨31, by rw [z], Or.inr rfl⟩
  have b4 := jB (e := 2) 0 hJ (rg_T11_2_0_1 t3) (by first | decide | omega) (by first | decide | omega)
  have e5 : cl9 h = (h (r1 + 11) 2) := (congrArg (fun z => h z 2) q2).trans rfl
  have b6 := jB (e := 2) 0 hJ rg_1_2_0_1 (by first | decide | omega) (by first | decide | omega)
  refine x_aload (np := 1) (x := 0) (by decide +kernel) rfl (x_nc_le (by decide)) ?_
  refine x_iload (np := 2) (x := 1) (by decide +kernel) rfl (by decide) ?_
  refine x_cI (t := 6) (mj := 47) (n := 2) (rc := 4) (ml := 3) (nr := 0) (np := 5) (as := [x_r 62, iv_c 2147483651]) (rest := []) (lo1 := [x_r 62, iv_c 2147483651, 147573952589676412928]) (by decide +kernel) (by decide) (by decide +kernel) (x_rb_of (by decide +kernel)) rfl rfl (x_wr (by decide) (x_wi (by decide) x_wn)) x_wn (by decide) rfl (c47_62_c3 hJ   (by first | decide | omega) hT) (fun v7 h10 l8 q9 => ?_)
  obtain ⟨j11, f12, b13, c14, c15, c16⟩ := q9
  have f17 := Fr.trans hF f12 (by decide)
  have b18 := jB (e := 2) 0 j11 rg_1_2_0_1 (by first | decide | omega) (by first | decide | omega)
  have q19 : h10 62 1 = h 62 1 := f12 62 1 (by decide +kernel)
  have b20 := jB (e := 2) 0 j11 (rg_T11_2_0_1 t3) (by first | decide | omega) (by first | decide | omega)
  have e21 : cl9 h10 = (h10 (r1 + 11) 2) := (congrArg (fun z => h10 z 2) (q19.trans q2)).trans rfl
  refine x_ifz (k := 1) (tg := 10) (np := 8) (by decide +kernel) (by decide) l8 (fun q22 => ?_) (fun q23 => ?_)
  · have q22 : v7 ≠ 2147483648 := q22
    have b24 := c14 (by first | decide | omega)
    have b25 := c15 (by first | decide | omega)
    refine x_const (np := 11) (x := 9223372039002259456) (a := 2147483648) (by decide +kernel) (by decide) (by decide) ?_
    refine x_istore (np := 12) (x := 2) (lo' := [x_r 62, iv_c 2147483651, iv_c 2147483648]) (by decide +kernel) (by decide) (Nat.le_of_ble_eq_true rfl) rfl ?_
    have p2065 : ∀ (n : Nat) (v2060 : Nat) (h2062 : xh), 4294967296 - v2060 < n → (2147483648 ≤ v2060 ∧ v2060 ≤ 2147484047) → cl9 h2062 + h 1 2 ≤ h2062 1 2 + cl9 h → h 1 2 + 1 ≤ h2062 1 2 → v2060 ≤ h2062 1 2 → J h2062 → Fr 161 h10 h2062 → Res tB tN (Kd.lp 2) 3 (h2062 1 2) (Kd.seq 2) 3 (h 1 2) → X sc 46 (d + 19) (xI fun r h' => J h' ∧ Fr 161 h h' ∧ (2147483648 ≤ r ∧ r ≤ 2147483649) ∧ (r = 2147483649 → h 1 2 + 1 ≤ h' 1 2) ∧ (r = 2147483649 → cl9 h' + h 1 2 ≤ h' 1 2 + cl9 h) ∧ G tB tN (Kd.seq 2) 3 (h 1 2) (rs r (h' 1 2))) 0 0 12 [x_r 62, iv_c 2147483651, iv_c v2060] [] h2062 := by
      intro n
      induction n with
      | zero => intro v2060 h2062 q2070; exact absurd q2070 (Nat.not_lt_zero _)
      | succ n i2071 =>
        intro v2060 h2062 q2070 b2061 b2066 b2067 b2068 j2064 f2063 m2069
        have f2072 := Fr.trans f17 f2063 (by decide)
        have b2073 := jB (e := 2) 0 j2064 rg_1_2_0_1 (by first | decide | omega) (by first | decide | omega)
        have q2074 : h2062 62 1 = h10 62 1 := f2063 62 1 (by decide +kernel)
        have q2075 : h10 62 1 = h 62 1 := f12 62 1 (by decide +kernel)
        have b2076 := jB (e := 2) 0 j2064 (rg_T11_2_0_1 t3) (by first | decide | omega) (by first | decide | omega)
        have e2077 : cl9 h2062 = (h2062 (r1 + 11) 2) := (congrArg (fun z => h2062 z 2) ((q2074.trans q2075).trans q2)).trans rfl
        refine x_iload (np := 13) (x := 2) (by decide +kernel) rfl (by first | decide | omega) ?_
        refine x_const (np := 16) (x := 9223373756989178256) (a := 2147484048) (by decide +kernel) (by decide) (by decide) ?_
        refine x_icmp (k := 3) (tg := 60) (np := 19) (by decide +kernel) (by decide) (by first | decide | omega) (by decide) (fun q2078 => ?_) (fun q2079 => ?_)
        · have q2078 : 2147484048 ≤ v2060 := q2078
          exfalso; omega
        have q2079 : ¬ (2147484048 ≤ v2060) := q2079
        refine x_aload (np := 20) (x := 0) (by decide +kernel) rfl (x_nc_le (by decide)) ?_
        have q2080 : h2062 62 0 = 1 := by have z := jB (e := 0) 0 j2064 rg_62_0_0_1 (by decide) (by decide); omega
        refine x_getR (np := 23) (x := 192) (f := 0) (q := 1) (by decide +kernel) (by decide) (by decide +kernel) q2080 ?_
        refine x_ldcB (i := 15) (idx := 64) (tx := "or") (by rw [tb_y46]; exact List.mem_of_getElem? (i := 34) rfl) (by decide) (by rw [tb_b46]; decide +kernel) ?_
        have m2085 := Tp.fr hT f12 (by decide) (by decide)
        have m2084 := Tp.fr m2085 f2063 (by decide) (by decide)
        refine x_cI (t := 6) (mj := 78) (n := 2) (rc := 8) (ml := 2) (nr := 0) (np := 28) (as := [x_r 1, x_b (15 + 1)]) (rest := []) (lo1 := [x_r 1, x_b (15 + 1)]) (by decide +kernel) (by decide) (by decide +kernel) (x_rb_of (by decide +kernel)) rfl rfl (x_wr (by decide) (x_wB (by decide) x_wn)) x_wn (by decide) rfl (c78_1_S0 j2064  (by decide) m2084) (fun v2081 h2086 l2082 q2083 => ?_)
        obtain ⟨j2087, f2088, b2089, c2090, c2091, c2092⟩ := q2083
        have f2093 := Fr.trans f2072 f2088 (by decide)
        have f2094 := Fr.trans f2063 f2088 (by decide)
        have b2095 := jB (e := 2) 0 j2087 rg_1_2_0_1 (by first | decide | omega) (by first | decide | omega)
        have b2096 : iv_tl 15 = 2 := by decide
        refine x_ifz (k := 0) (tg := 60) (np := 31) (by decide +kernel) (by decide) l2082 (fun q2097 => ?_) (fun q2098 => ?_)
        · have q2097 : v2081 = 2147483648 := q2097
          have b2099 := c2091 (by first | decide | omega)
          refine x_const (np := 61) (x := 9223372043297226753) (a := 2147483649) (by decide +kernel) (by decide) (by decide) ?_
          have q2100 : h2086 62 1 = h2062 62 1 := f2088 62 1 (by decide +kernel)
          have q2101 : h2062 62 1 = h10 62 1 := f2063 62 1 (by decide +kernel)
          have q2102 : h10 62 1 = h 62 1 := f12 62 1 (by decide +kernel)
          have q2103 : h2086 (r1 + 11) 2 = h2062 (r1 + 11) 2 := jK 0 f2088 (rg_T11_2_0_1 t3) (by first | decide | omega) (by first | decide | omega) (by decide)
          have e2104 : cl9 h2086 = (h2062 (r1 + 11) 2) := (congrArg (fun z => h2086 z 2) (((q2100.trans q2101).trans q2102).trans q2)).trans q2103
          obtain ⟨w2105, e2106⟩ := Tk.no c2092 (by first | decide | omega)
          refine x_retI (np := 62) (x := 0) (by decide +kernel) (by decide) (Or.inr ⟨by decide +kernel, by first | decide | omega, by first | decide | omega⟩) ⟨_, rfl, (by decide), ?_⟩
          exact ⟨j2087, f2093, (by first | decide | omega), (fun z => by first | decide | omega), (fun z => by first | decide | omega), (gQ_e (t := 2) m2069 w2105 rfl (by first | decide | omega) (show h2062 1 2 = h2086 1 2 by first | decide | omega))⟩
        have q2098 : ¬ (v2081 = 2147483648) := q2098
        have b2107 := c2090 (by first | decide | omega)
        refine x_aload (np := 32) (x := 0) (by decide +kernel) rfl (x_nc_le (by decide)) ?_
        refine x_iload (np := 33) (x := 1) (by decide +kernel) rfl (by decide) ?_
        have q2108 : h2086 62 1 = h2062 62 1 := f2088 62 1 (by decide +kernel)
        have q2109 : h2062 62 1 = h10 62 1 := f2063 62 1 (by decide +kernel)
        have q2110 : h10 62 1 = h 62 1 := f12 62 1 (by decide +kernel)
        have q2111 : h2086 (r1 + 11) 2 = h2062 (r1 + 11) 2 := jK 0 f2088 (rg_T11_2_0_1 t3) (by first | decide | omega) (by first | decide | omega) (by decide)
        have e2112 : cl9 h2086 = (h2062 (r1 + 11) 2) := (congrArg (fun z => h2086 z 2) (((q2108.trans q2109).trans q2110).trans q2)).trans q2111
        have m2116 := Tp.fr m2084 f2088 (by decide) (by decide)
        refine x_cI (t := 6) (mj := 47) (n := 2) (rc := 4) (ml := 3) (nr := 0) (np := 36) (as := [x_r 62, iv_c 2147483651]) (rest := []) (lo1 := [x_r 62, iv_c 2147483651, 147573952589676412928]) (by decide +kernel) (by decide) (by decide +kernel) (x_rb_of (by decide +kernel)) rfl rfl (x_wr (by decide) (x_wi (by decide) x_wn)) x_wn (by decide) rfl (c47_62_c3 j2087   (by first | decide | omega) m2116) (fun v2113 h2117 l2114 q2115 => ?_)
        obtain ⟨j2118, f2119, b2120, c2121, c2122, c2123⟩ := q2115
        have f2124 := Fr.trans f2093 f2119 (by decide)
        have f2125 := Fr.trans f2094 f2119 (by decide)
        have b2126 := jB (e := 2) 0 j2118 rg_1_2_0_1 (by first | decide | omega) (by first | decide | omega)
        have q2127 : h2086 62 1 = h2062 62 1 := f2088 62 1 (by decide +kernel)
        have q2128 : h2062 62 1 = h10 62 1 := f2063 62 1 (by decide +kernel)
        have q2129 : h10 62 1 = h 62 1 := f12 62 1 (by decide +kernel)
        have q2130 : h2086 (r1 + 11) 2 = h2062 (r1 + 11) 2 := jK 0 f2088 (rg_T11_2_0_1 t3) (by first | decide | omega) (by first | decide | omega) (by decide)
        have q2131 : h2117 62 1 = h2086 62 1 := f2119 62 1 (by decide +kernel)
        have q2132 : h2086 62 1 = h2062 62 1 := f2088 62 1 (by decide +kernel)
        have q2133 : h2062 62 1 = h10 62 1 := f2063 62 1 (by decide +kernel)
        have q2134 : h10 62 1 = h 62 1 := f12 62 1 (by decide +kernel)
        have b2135 := jB (e := 2) 0 j2118 (rg_T11_2_0_1 t3) (by first | decide | omega) (by first | decide | omega)
        have e2136 : cl9 h2117 = (h2117 (r1 + 11) 2) := (congrArg (fun z => h2117 z 2) ((((q2131.trans q2132).trans q2133).trans q2134).trans q2)).trans rfl
        refine x_ifz (k := 0) (tg := 52) (np := 39) (by decide +kernel) (by decide) l2114 (fun q2137 => ?_) (fun q2138 => ?_)
        · have q2137 : v2113 = 2147483648 := q2137
          refine x_const (np := 53) (x := 9223372039002259456) (a := 2147483648) (by decide +kernel) (by decide) (by decide) ?_
          have q2139 : h2117 62 1 = h2086 62 1 := f2119 62 1 (by decide +kernel)
          have q2140 : h2086 62 1 = h2062 62 1 := f2088 62 1 (by decide +kernel)
          have q2141 : h2062 62 1 = h10 62 1 := f2063 62 1 (by decide +kernel)
          have q2142 : h10 62 1 = h 62 1 := f12 62 1 (by decide +kernel)
          obtain ⟨w2143, e2144⟩ := Tk.yes c2092 (by first | decide | omega)
          refine x_retI (np := 54) (x := 0) (by decide +kernel) (by decide) (Or.inr ⟨by decide +kernel, by first | decide | omega, by first | decide | omega⟩) ⟨_, rfl, (by decide), ?_⟩
          exact ⟨j2118, f2124, (by first | decide | omega), (fun z => by first | decide | omega), (fun z => by first | decide | omega), (gQ_f (t := 2) m2069 w2143 rfl e2144 c2123 rfl (by first | decide | omega) (by first | decide | omega))⟩
        have q2138 : ¬ (v2113 = 2147483648) := q2138
        have b2145 := c2121 (by first | decide | omega)
        have b2146 := c2122 (by first | decide | omega)
        refine x_aload (np := 40) (x := 0) (by decide +kernel) rfl (x_nc_le (by decide)) ?_
        have q2147 : h2117 62 1 = h2086 62 1 := f2119 62 1 (by decide +kernel)
        have q2148 : h2086 62 1 = h2062 62 1 := f2088 62 1 (by decide +kernel)
        have q2149 : h2062 62 1 = h10 62 1 := f2063 62 1 (by decide +kernel)
        have q2150 : h10 62 1 = h 62 1 := f12 62 1 (by decide +kernel)
        refine x_getR (np := 43) (x := 193) (f := 1) (q := (r1 + 11)) (by decide +kernel) (by decide) (by decide +kernel) ((((q2147.trans q2148).trans q2149).trans q2150).trans q2) ?_
        refine x_const (np := 46) (x := 9223380650411689941) (a := 2147485653) (by decide +kernel) (by decide) (by decide) ?_
        refine x_nI (t := 6) (mj := 36) (n := 2) (rc := 3) (ml := 2) (nr := 0) (np := 49) (as := [x_r (r1 + 11), iv_c 2147485653]) (rest := []) (lo1 := [x_r (r1 + 11), iv_c 2147485653]) (by decide +kernel) (by decide) (by decide +kernel) (x_rb_of (tr_11_3 t3)) rfl rfl (x_wr (tn_11 t3) (x_wi (by decide) x_wn)) x_wn (by decide) rfl ?_
        refine x_aload (np := 1) (x := 0) (by decide +kernel) rfl (x_nc_le (tn_11 t3)) ?_
        refine x_getC (np := 4) (x := 130) (f := 2) (q := (h2117 (r1 + 11) 2)) (by decide +kernel) (by decide) (tg_11_130_2_0 t3) rfl (fun l2151 => ?_)
        refine x_const (np := 7) (x := 9223373756989178256) (a := 2147484048) (by decide +kernel) (by decide) (by decide) ?_
        refine x_icmp (k := 2) (tg := 12) (np := 10) (by decide +kernel) (by decide) l2151 (by decide) (fun q2152 => ?_) (fun q2153 => ?_)
        · have q2152 : (h2117 (r1 + 11) 2) < 2147484048 := q2152
          refine x_aload (np := 13) (x := 0) (by decide +kernel) rfl (x_nc_le (tn_11 t3)) ?_
          have q2154 : h2117 (r1 + 11) 0 = (r1 + 12) := tf_11_0 j2118 t3
          refine x_getR (np := 16) (x := 128) (f := 0) (q := (r1 + 12)) (by decide +kernel) (by decide) (tg_11_128_0_1 t3) q2154 ?_
          refine x_aload (np := 17) (x := 0) (by decide +kernel) rfl (x_nc_le (tn_11 t3)) ?_
          refine x_getC (np := 20) (x := 130) (f := 2) (q := (h2117 (r1 + 11) 2)) (by decide +kernel) (by decide) (tg_11_130_2_0 t3) rfl (fun l2155 => ?_)
          refine x_iload (np := 21) (x := 1) (by decide +kernel) rfl (by decide) ?_
          obtain ⟨u2156, q2157⟩ : ∃ z, (h2117 (r1 + 11) 2) = 2147483648 + z := ⟨(h2117 (r1 + 11) 2) - 2147483648, by first | decide | omega⟩
          refine x_ast (np := 22) (x := 0) (kd := 1) (n := 400) (i := u2156) (by decide +kernel) (Or.inl rfl) (ta_12_400 t3) (by first | decide | omega) (by first | decide | omega) (by decide) (by decide) (fun z => absurd z (by decide)) ?_
          have j2159 := jU (e := u2156) (v := 2147485653) u2156 j2118 (rg_T12_0_1_400 t3) (by first | decide | omega) (by first | decide | omega) (by first | decide | omega)
          have f2161 := jF (e := u2156) (v := 2147485653) u2156 f2124 (rg_T12_0_1_400 t3) (by first | decide | omega) (by first | decide | omega) (by decide)
          have f2162 := jF (e := u2156) (v := 2147485653) u2156 f2125 (rg_T12_0_1_400 t3) (by first | decide | omega) (by first | decide | omega) (by decide)
          generalize e2160 : x_up h2117 (r1 + 12) u2156 2147485653 = h2158 at j2159 f2161 f2162 ⊢
          refine x_aload (np := 23) (x := 0) (by decide +kernel) rfl (x_nc_le (tn_11 t3)) ?_
          refine x_dup (np := 24) (x := 0) (by decide +kernel) (by have z := x_nc_le (k := (r1 + 11)) (tn_11 t3); unfold x_r; omega) ?_
          have q2163 : h2158 (r1 + 11) 2 = h2117 (r1 + 11) 2 := by rw [← e2160]; exact x_up_k tof_11_12
          refine x_getC (np := 27) (x := 130) (f := 2) (q := (h2117 (r1 + 11) 2)) (by decide +kernel) (by decide) (tg_11_130_2_0 t3) q2163 (fun l2164 => ?_)
          refine x_const (np := 28) (x := 9223372043297226753) (a := 2147483649) (by decide +kernel) (by decide) (by decide) ?_
          refine x_iadd (np := 29) (x := 0) (v := (1 + (h2117 (r1 + 11) 2))) (by decide +kernel) l2151 (by decide) (by first | decide | omega) (by first | decide | omega) ?_
          refine x_putI (np := 32) (x := 130) (f := 2) (by decide +kernel) (tg_11_130_2_0 t3) (by first | decide | omega) (Or.inl (by decide)) ?_
          have j2166 := jU (e := 2) (v := (1 + (h2117 (r1 + 11) 2))) 0 j2159 (rg_T11_2_0_1 t3) (by first | decide | omega) (by first | decide | omega) (by first | decide | omega)
          have f2168 := jF (e := 2) (v := (1 + (h2117 (r1 + 11) 2))) 0 f2161 (rg_T11_2_0_1 t3) (by first | decide | omega) (by first | decide | omega) (by decide)
          have f2169 := jF (e := 2) (v := (1 + (h2117 (r1 + 11) 2))) 0 f2162 (rg_T11_2_0_1 t3) (by first | decide | omega) (by first | decide | omega) (by decide)
          generalize e2167 : x_up h2158 (r1 + 11) 2 (1 + (h2117 (r1 + 11) 2)) = h2165 at j2166 f2168 f2169 ⊢
          refine x_const (np := 33) (x := 9223372043297226753) (a := 2147483649) (by decide +kernel) (by decide) (by decide) ?_
          refine x_retI (np := 34) (x := 0) (by decide +kernel) (by decide) (Or.inr ⟨by decide +kernel, by first | decide | omega, by first | decide | omega⟩) ⟨_, rfl, (by decide), ?_⟩
          refine x_ifz (k := 1) (tg := 54) (np := 52) (by decide +kernel) (by decide) (by decide) (fun q2170 => ?_) (fun q2171 => ?_)
          · have q2170 : 2147483649 ≠ 2147483648 := q2170
            refine x_iinc (np := 57) (i := 2) (j := 2147483649) (v := (1 + v2060)) (lo' := [x_r 62, iv_c 2147483651, iv_c (1 + v2060)]) (by decide +kernel) (by decide) (by decide) rfl (by first | decide | omega) (by first | decide | omega) (by first | decide | omega) rfl ?_
            refine x_goto (np := 60) (x := 12) (by decide +kernel) ?_
            have q2172 : h2165 1 2 = h2158 1 2 := by rw [← e2167]; exact x_up_k (Ne.symm (tne_11_1 t3))
            have q2173 : h2158 1 2 = h2117 1 2 := by rw [← e2160]; exact x_up_k (Ne.symm (tne_12_1 t3))
            have q2174 : h2165 62 1 = h2158 62 1 := by rw [← e2167]; exact x_up_k (Ne.symm (tne_11_62 t3))
            have q2175 : h2158 62 1 = h2117 62 1 := by rw [← e2160]; exact x_up_k (Ne.symm (tne_12_62 t3))
            have q2176 : h2117 62 1 = h2086 62 1 := f2119 62 1 (by decide +kernel)
            have q2177 : h2086 62 1 = h2062 62 1 := f2088 62 1 (by decide +kernel)
            have q2178 : h2062 62 1 = h10 62 1 := f2063 62 1 (by decide +kernel)
            have q2179 : h10 62 1 = h 62 1 := f12 62 1 (by decide +kernel)
            have q2180 : h2165 (r1 + 11) 2 = (1 + (h2117 (r1 + 11) 2)) := by rw [← e2167]; exact x_up_at
            have e2181 : cl9 h2165 = (1 + (h2117 (r1 + 11) 2)) := (congrArg (fun z => h2165 z 2) ((((((q2174.trans q2175).trans q2176).trans q2177).trans q2178).trans q2179).trans q2)).trans q2180
            obtain ⟨w2182, e2183⟩ := Tk.yes c2092 (by first | decide | omega)
            have q2184 : h2165 1 2 = h2158 1 2 := by rw [← e2167]; exact x_up_k (Ne.symm (tne_11_1 t3))
            have q2185 : h2158 1 2 = h2117 1 2 := by rw [← e2160]; exact x_up_k (Ne.symm (tne_12_1 t3))
            exact i2071 (1 + v2060) h2165 (by first | decide | omega) (by first | decide | omega) (by first | decide | omega) (by first | decide | omega) (by first | decide | omega) j2166 f2169 (gQ_st (t := 2) m2069 w2182 rfl e2183 c2123 rfl (by first | decide | omega) (show h2117 1 2 = h2165 1 2 by first | decide | omega))
          have q2171 : ¬ (2147483649 ≠ 2147483648) := q2171
          exfalso; omega
        have q2153 : ¬ ((h2117 (r1 + 11) 2) < 2147484048) := q2153
        refine x_const (np := 11) (x := 9223372039002259456) (a := 2147483648) (by decide +kernel) (by decide) (by decide) ?_
        refine x_retI (np := 12) (x := 0) (by decide +kernel) (by decide) (Or.inr ⟨by decide +kernel, by first | decide | omega, by first | decide | omega⟩) ⟨_, rfl, (by decide), ?_⟩
        refine x_ifz (k := 1) (tg := 54) (np := 52) (by decide +kernel) (by decide) (by decide) (fun q2186 => ?_) (fun q2187 => ?_)
        · have q2186 : 2147483648 ≠ 2147483648 := q2186
          exfalso; omega
        have q2187 : ¬ (2147483648 ≠ 2147483648) := q2187
        refine x_const (np := 53) (x := 9223372039002259456) (a := 2147483648) (by decide +kernel) (by decide) (by decide) ?_
        have q2188 : h2117 62 1 = h2086 62 1 := f2119 62 1 (by decide +kernel)
        have q2189 : h2086 62 1 = h2062 62 1 := f2088 62 1 (by decide +kernel)
        have q2190 : h2062 62 1 = h10 62 1 := f2063 62 1 (by decide +kernel)
        have q2191 : h10 62 1 = h 62 1 := f12 62 1 (by decide +kernel)
        obtain ⟨w2192, e2193⟩ := Tk.yes c2092 (by first | decide | omega)
        refine x_retI (np := 54) (x := 0) (by decide +kernel) (by decide) (Or.inr ⟨by decide +kernel, by first | decide | omega, by first | decide | omega⟩) ⟨_, rfl, (by decide), ?_⟩
        exact ⟨j2118, f2124, (by first | decide | omega), (fun z => by first | decide | omega), (fun z => by first | decide | omega), (gQ_f (t := 2) m2069 w2192 rfl e2193 c2123 rfl (by first | decide | omega) (by first | decide | omega))⟩
    have q2194 : h10 62 1 = h 62 1 := f12 62 1 (by decide +kernel)
    exact p2065 _ 2147483648 h10 (Nat.lt_succ_self _) (by first | decide | omega) (by first | decide | omega) (by first | decide | omega) (by first | decide | omega) j11 (Fr.refl _ _) (gQ_in (t := 2) c16 rfl (by first | decide | omega) rfl)
  have q23 : ¬ (v7 ≠ 2147483648) := q23
  refine x_const (np := 9) (x := 9223372039002259456) (a := 2147483648) (by decide +kernel) (by decide) (by decide) ?_
  have q2195 : h10 62 1 = h 62 1 := f12 62 1 (by decide +kernel)
  refine x_retI (np := 10) (x := 0) (by decide +kernel) (by decide) (Or.inr ⟨by decide +kernel, by first | decide | omega, by first | decide | omega⟩) ⟨_, rfl, (by decide), ?_⟩
  exact ⟨j11, f17, (by first | decide | omega), (fun z => by first | decide | omega), (fun z => by first | decide | omega), (gQ_no (t := 2) c16 rfl (by first | decide | omega) (by first | decide | omega))⟩
set_option maxHeartbeats 0 in
/-- LentNames$CustomReader.readAtom(I)Z -/
theorem c48_62_c2 {sc : Nat × Nat} {d  : Nat} {h : xh} {tB : Nat → Nat} {tN : Nat} (hJ : J h) (hr0 : (cl9 h) + 5 ≤ (h 1 2)) (hT : Tp tB tN h) : X sc 48 (d + 20) (xI fun r h' => J h' ∧ Fr 161 h h' ∧ (2147483648 ≤ r ∧ r ≤ 2147483649) ∧ (r = 2147483649 → h 1 2 + 1 ≤ h' 1 2) ∧ (r = 2147483649 → cl9 h' + h 1 2 ≤ h' 1 2 + cl9 h) ∧ G tB tN Kd.atom 2 (h 1 2) (rs r (h' 1 2))) 0 0 0 [x_r 62, iv_c 2147483650] [] h := by
  have hF := Fr.refl 161 h
  obtain ⟨r1, q2, t3⟩ : ∃ z, (h 62 1) = z + 11 ∧ tw z := by
    rcases hJ.2.2.2.2.2.2.2 with z | z
    · exact ⟨17, by rw [z], Or.inl rfl⟩
    · exact ⟨31, by rw [z], Or.inr rfl⟩
  have b4 := jB (e := 2) 0 hJ (rg_T11_2_0_1 t3) (by first | decide | omega) (by first | decide | omega)
  have e5 : cl9 h = (h (r1 + 11) 2) := (congrArg (fun z => h z 2) q2).trans rfl
  have b6 := jB (e := 2) 0 hJ rg_1_2_0_1 (by first | decide | omega) (by first | decide | omega)
  refine x_aload (np := 1) (x := 0) (by decide +kernel) rfl (x_nc_le (by decide)) ?_
  have q7 : h 62 0 = 1 := by have z := jB (e := 0) 0 hJ rg_62_0_0_1 (by decide) (by decide); omega
  refine x_getR (np := 4) (x := 192) (f := 0) (q := 1) (by decide +kernel) (by decide) (by decide +kernel) q7 ?_
  refine x_ldcB (i := 24) (idx := 71) (tx := "not") (by rw [tb_y48]; exact List.mem_of_getElem? (i := 24) rfl) (by decide) (by rw [tb_b48]; decide +kernel) ?_
  refine x_cP (t := 6) (mj := 77) (n := 2) (rc := 8) (ml := 4) (nr := 0) (np := 9) (as := [x_r 1, x_b (24 + 1)]) (rest := []) (lo1 := [x_r 1, x_b (24 + 1), 147573952589676412928, 147573952589676412928]) (by decide +kernel) (by decide) (by decide +kernel) (x_rb_of (by decide +kernel)) rfl rfl (x_wr (by decide) (x_wB (by decide) x_wn)) x_wn (by decide) rfl (c77_1_S0 hJ  (by decide) hT) (fun v8 l9 q10 => ?_)
  obtain ⟨b13, c11, c12⟩ := q10
  refine x_ifz (k := 0) (tg := 59) (np := 12) (by decide +kernel) (by decide) l9 (fun q14 => ?_) (fun q15 => ?_)
  · have q14 : v8 = 2147483648 := q14
    refine x_aload (np := 60) (x := 0) (by decide +kernel) rfl (x_nc_le (by decide)) ?_
    have q16 : h 62 0 = 1 := by have z := jB (e := 0) 0 hJ rg_62_0_0_1 (by decide) (by decide); omega
    refine x_getR (np := 63) (x := 192) (f := 0) (q := 1) (by decide +kernel) (by decide) (by decide +kernel) q16 ?_
    refine x_const (np := 65) (x := 9223372210800951336) (a := 2147483688) (by decide +kernel) (by decide) (by decide) ?_
    refine x_cP (t := 6) (mj := 75) (n := 2) (rc := 8) (ml := 2) (nr := 0) (np := 68) (as := [x_r 1, iv_c 2147483688]) (rest := []) (lo1 := [x_r 1, iv_c 2147483688]) (by decide +kernel) (by decide) (by decide +kernel) (x_rb_of (by decide +kernel)) rfl rfl (x_wr (by decide) (x_wi (by decide) x_wn)) x_wn (by decide) rfl (c75_1 hJ  (by first | decide | omega) hT) (fun v17 l18 q19 => ?_)
    obtain ⟨b22, c20, c21⟩ := q19
    have b23 := jB (e := 1) 0 hJ rg_1_1_0_1 (by first | decide | omega) (by first | decide | omega)
    refine x_ifz (k := 0) (tg := 117) (np := 71) (by decide +kernel) (by decide) l18 (fun q24 => ?_) (fun q25 => ?_)
    · have q24 : v17 = 2147483648 := q24
      refine x_aload (np := 118) (x := 0) (by decide +kernel) rfl (x_nc_le (by decide)) ?_
      have q26 : h 62 0 = 1 := by have z := jB (e := 0) 0 hJ rg_62_0_0_1 (by decide) (by decide); omega
      refine x_getR (np := 121) (x := 192) (f := 0) (q := 1) (by decide +kernel) (by decide) (by decide +kernel) q26 ?_
      refine x_ldcB (i := 25) (idx := 79) (tx := "own") (by rw [tb_y48]; exact List.mem_of_getElem? (i := 25) rfl) (by decide) (by rw [tb_b48]; decide +kernel) ?_
      refine x_cI (t := 6) (mj := 78) (n := 2) (rc := 8) (ml := 2) (nr := 0) (np := 126) (as := [x_r 1, x_b (25 + 1)]) (rest := []) (lo1 := [x_r 1, x_b (25 + 1)]) (by decide +kernel) (by decide) (by decide +kernel) (x_rb_of (by decide +kernel)) rfl rfl (x_wr (by decide) (x_wB (by decide) x_wn)) x_wn (by decide) rfl (c78_1_S0 hJ  (by decide) hT) (fun v27 h30 l28 q29 => ?_)
      obtain ⟨j31, f32, b33, c34, c35, c36⟩ := q29
      have f37 := Fr.trans hF f32 (by decide)
      have b38 := jB (e := 2) 0 j31 rg_1_2_0_1 (by first | decide | omega) (by first | decide | omega)
      have b39 : iv_tl 25 = 3 := by decide
      refine x_ifz (k := 0) (tg := 140) (np := 129) (by decide +kernel) (by decide) l28 (fun q40 => ?_) (fun q41 => ?_)
      · have q40 : v27 = 2147483648 := q40
        have b42 := c35 (by first | decide | omega)
        refine x_aload (np := 141) (x := 0) (by decide +kernel) rfl (x_nc_le (by decide)) ?_
        have q43 : h30 62 0 = 1 := by have z := jB (e := 0) 0 j31 rg_62_0_0_1 (by decide) (by decide); omega
        refine x_getR (np := 144) (x := 192) (f := 0) (q := 1) (by decide +kernel) (by decide) (by decide +kernel) q43 ?_
        refine x_ldcB (i := 26) (idx := 81) (tx := "mine") (by rw [tb_y48]; exact List.mem_of_getElem? (i := 26) rfl) (by decide) (by rw [tb_b48]; decide +kernel) ?_
        have m47 := Tp.fr hT f32 (by decide) (by decide)
        refine x_cI (t := 6) (mj := 78) (n := 2) (rc := 8) (ml := 2) (nr := 0) (np := 149) (as := [x_r 1, x_b (26 + 1)]) (rest := []) (lo1 := [x_r 1, x_b (26 + 1)]) (by decide +kernel) (by decide) (by decide +kernel) (x_rb_of (by decide +kernel)) rfl rfl (x_wr (by decide) (x_wB (by decide) x_wn)) x_wn (by decide) rfl (c78_1_S0 j31  (by decide) m47) (fun v44 h48 l45 q46 => ?_)
        obtain ⟨j49, f50, b51, c52, c53, c54⟩ := q46
        have f55 := Fr.trans f37 f50 (by decide)
        have b56 := jB (e := 2) 0 j49 rg_1_2_0_1 (by first | decide | omega) (by first | decide | omega)
        have b57 : iv_tl 26 = 4 := by decide
        refine x_ifz (k := 0) (tg := 163) (np := 152) (by decide +kernel) (by decide) l45 (fun q58 => ?_) (fun q59 => ?_)
        · have q58 : v44 = 2147483648 := q58
          have b60 := c53 (by first | decide | omega)
          refine x_aload (np := 164) (x := 0) (by decide +kernel) rfl (x_nc_le (by decide)) ?_
          have q61 : h48 62 1 = h30 62 1 := f50 62 1 (by decide +kernel)
          have q62 : h30 62 1 = h 62 1 := f32 62 1 (by decide +kernel)
          have q63 : h48 (r1 + 11) 2 = h30 (r1 + 11) 2 := jK 0 f50 (rg_T11_2_0_1 t3) (by first | decide | omega) (by first | decide | omega) (by decide)
          have q64 : h30 (r1 + 11) 2 = h (r1 + 11) 2 := jK 0 f32 (rg_T11_2_0_1 t3) (by first | decide | omega) (by first | decide | omega) (by decide)
          have e65 : cl9 h48 = (h (r1 + 11) 2) := (congrArg (fun z => h48 z 2) ((q61.trans q62).trans q2)).trans (q63.trans q64)
          have m69 := Tp.fr m47 f50 (by decide) (by decide)
          refine x_cI (t := 6) (mj := 49) (n := 1) (rc := 4) (ml := 2) (nr := 0) (np := 167) (as := [x_r 62]) (rest := []) (lo1 := [x_r 62, 147573952589676412928]) (by decide +kernel) (by decide) (by decide +kernel) (x_rb_of (by decide +kernel)) rfl rfl (x_wr (by decide) x_wn) x_wn (by decide) rfl (c49_62 j49  (by first | decide | omega) m69) (fun v66 h70 l67 q68 => ?_)
          obtain ⟨j71, f72, b73, c74, c75, c76⟩ := q68
          have f77 := Fr.trans f55 f72 (by decide)
          have b78 := jB (e := 2) 0 j71 rg_1_2_0_1 (by first | decide | omega) (by first | decide | omega)
          have q79 : h48 62 1 = h30 62 1 := f50 62 1 (by decide +kernel)
          have q80 : h30 62 1 = h 62 1 := f32 62 1 (by decide +kernel)
          have q81 : h48 (r1 + 11) 2 = h30 (r1 + 11) 2 := jK 0 f50 (rg_T11_2_0_1 t3) (by first | decide | omega) (by first | decide | omega) (by decide)
          have q82 : h30 (r1 + 11) 2 = h (r1 + 11) 2 := jK 0 f32 (rg_T11_2_0_1 t3) (by first | decide | omega) (by first | decide | omega) (by decide)
          have q83 : h70 62 1 = h48 62 1 := f72 62 1 (by decide +kernel)
          have q84 : h48 62 1 = h30 62 1 := f50 62 1 (by decide +kernel)
          have q85 : h30 62 1 = h 62 1 := f32 62 1 (by decide +kernel)
          have b86 := jB (e := 2) 0 j71 (rg_T11_2_0_1 t3) (by first | decide | omega) (by first | decide | omega)
          have e87 : cl9 h70 = (h70 (r1 + 11) 2) := (congrArg (fun z => h70 z 2) (((q83.trans q84).trans q85).trans q2)).trans rfl
          refine x_ifz (k := 1) (tg := 172) (np := 170) (by decide +kernel) (by decide) l67 (fun q88 => ?_) (fun q89 => ?_)
          · have q88 : v66 ≠ 2147483648 := q88
            have b90 := c74 (by first | decide | omega)
            have b91 := c75 (by first | decide | omega)
            refine x_aload (np := 173) (x := 0) (by decide +kernel) rfl (x_nc_le (by decide)) ?_
            have q92 : h70 62 0 = 1 := by have z := jB (e := 0) 0 j71 rg_62_0_0_1 (by decide) (by decide); omega
            refine x_getR (np := 176) (x := 192) (f := 0) (q := 1) (by decide +kernel) (by decide) (by decide +kernel) q92 ?_
            refine x_const (np := 178) (x := 9223372296700297276) (a := 2147483708) (by decide +kernel) (by decide) (by decide) ?_
            have m96 := Tp.fr m69 f72 (by decide) (by decide)
            refine x_cI (t := 6) (mj := 76) (n := 2) (rc := 8) (ml := 2) (nr := 0) (np := 181) (as := [x_r 1, iv_c 2147483708]) (rest := []) (lo1 := [x_r 1, iv_c 2147483708]) (by decide +kernel) (by decide) (by decide +kernel) (x_rb_of (by decide +kernel)) rfl rfl (x_wr (by decide) (x_wi (by decide) x_wn)) x_wn (by decide) rfl (c76_1 j71  (by first | decide | omega) m96) (fun v93 h97 l94 q95 => ?_)
            obtain ⟨j98, f99, b100, c101, c102, c103⟩ := q95
            have f104 := Fr.trans f77 f99 (by decide)
            have b105 := jB (e := 2) 0 j98 rg_1_2_0_1 (by first | decide | omega) (by first | decide | omega)
            refine x_ifz (k := 0) (tg := 210) (np := 184) (by decide +kernel) (by decide) l94 (fun q106 => ?_) (fun q107 => ?_)
            · have q106 : v93 = 2147483648 := q106
              have b108 := c102 (by first | decide | omega)
              refine x_aload (np := 211) (x := 0) (by decide +kernel) rfl (x_nc_le (by decide)) ?_
              have q109 : h97 62 0 = 1 := by have z := jB (e := 0) 0 j98 rg_62_0_0_1 (by decide) (by decide); omega
              refine x_getR (np := 214) (x := 192) (f := 0) (q := 1) (by decide +kernel) (by decide) (by decide +kernel) q109 ?_
              refine x_const (np := 216) (x := 9223372305290231870) (a := 2147483710) (by decide +kernel) (by decide) (by decide) ?_
              have m113 := Tp.fr m96 f99 (by decide) (by decide)
              refine x_cI (t := 6) (mj := 76) (n := 2) (rc := 8) (ml := 2) (nr := 0) (np := 219) (as := [x_r 1, iv_c 2147483710]) (rest := []) (lo1 := [x_r 1, iv_c 2147483710]) (by decide +kernel) (by decide) (by decide +kernel) (x_rb_of (by decide +kernel)) rfl rfl (x_wr (by decide) (x_wi (by decide) x_wn)) x_wn (by decide) rfl (c76_1 j98  (by first | decide | omega) m113) (fun v110 h114 l111 q112 => ?_)
              obtain ⟨j115, f116, b117, c118, c119, c120⟩ := q112
              have f121 := Fr.trans f104 f116 (by decide)
              have b122 := jB (e := 2) 0 j115 rg_1_2_0_1 (by first | decide | omega) (by first | decide | omega)
              refine x_ifz (k := 0) (tg := 246) (np := 222) (by decide +kernel) (by decide) l111 (fun q123 => ?_) (fun q124 => ?_)
              · have q123 : v110 = 2147483648 := q123
                have b125 := c119 (by first | decide | omega)
                refine x_const (np := 247) (x := 9223372039002259456) (a := 2147483648) (by decide +kernel) (by decide) (by decide) ?_
                have q126 : h114 62 1 = h97 62 1 := f116 62 1 (by decide +kernel)
                have q127 : h97 62 1 = h70 62 1 := f99 62 1 (by decide +kernel)
                have q128 : h70 62 1 = h48 62 1 := f72 62 1 (by decide +kernel)
                have q129 : h48 62 1 = h30 62 1 := f50 62 1 (by decide +kernel)
                have q130 : h30 62 1 = h 62 1 := f32 62 1 (by decide +kernel)
                have q131 : h114 (r1 + 11) 2 = h97 (r1 + 11) 2 := jK 0 f116 (rg_T11_2_0_1 t3) (by first | decide | omega) (by first | decide | omega) (by decide)
                have q132 : h97 (r1 + 11) 2 = h70 (r1 + 11) 2 := jK 0 f99 (rg_T11_2_0_1 t3) (by first | decide | omega) (by first | decide | omega) (by decide)
                have e133 : cl9 h114 = (h70 (r1 + 11) 2) := (congrArg (fun z => h114 z 2) (((((q126.trans q127).trans q128).trans q129).trans q130).trans q2)).trans (q131.trans q132)
                obtain ⟨w134, e135⟩ := Tk.no c36 (by first | decide | omega)
                obtain ⟨w136, e137⟩ := Tk.no c54 (by first | decide | omega)
                have w138 : An tB tN (h 1 2) := gA_an (Is.no c12 (by first | decide | omega)) rfl (Is.no c21 (by first | decide | omega)) rfl w134 rfl w136 (show h30 1 2 = h 1 2 by first | decide | omega)
                obtain ⟨w139, e140⟩ := Tk.no c103 (by first | decide | omega)
                obtain ⟨w141, e142⟩ := Tk.no c120 (by first | decide | omega)
                refine x_retI (np := 248) (x := 0) (by decide +kernel) (by decide) (Or.inr ⟨by decide +kernel, by first | decide | omega, by first | decide | omega⟩) ⟨_, rfl, (by decide), ?_⟩
                exact ⟨j115, f121, (by first | decide | omega), (fun z => by first | decide | omega), (fun z => by first | decide | omega), (gA_c1 w138 (c76 2) (show h48 1 2 = h 1 2 by first | decide | omega) (by first | decide | omega) w139 rfl w141 (show h97 1 2 = h70 1 2 by first | decide | omega) (by first | decide | omega))⟩
              have q124 : ¬ (v110 = 2147483648) := q124
              have b143 := c118 (by first | decide | omega)
              refine x_aload (np := 223) (x := 0) (by decide +kernel) rfl (x_nc_le (by decide)) ?_
              have q144 : h114 62 1 = h97 62 1 := f116 62 1 (by decide +kernel)
              have q145 : h97 62 1 = h70 62 1 := f99 62 1 (by decide +kernel)
              have q146 : h70 62 1 = h48 62 1 := f72 62 1 (by decide +kernel)
              have q147 : h48 62 1 = h30 62 1 := f50 62 1 (by decide +kernel)
              have q148 : h30 62 1 = h 62 1 := f32 62 1 (by decide +kernel)
              have q149 : h114 (r1 + 11) 2 = h97 (r1 + 11) 2 := jK 0 f116 (rg_T11_2_0_1 t3) (by first | decide | omega) (by first | decide | omega) (by decide)
              have q150 : h97 (r1 + 11) 2 = h70 (r1 + 11) 2 := jK 0 f99 (rg_T11_2_0_1 t3) (by first | decide | omega) (by first | decide | omega) (by decide)
              have e151 : cl9 h114 = (h70 (r1 + 11) 2) := (congrArg (fun z => h114 z 2) (((((q144.trans q145).trans q146).trans q147).trans q148).trans q2)).trans (q149.trans q150)
              have m155 := Tp.fr m113 f116 (by decide) (by decide)
              refine x_cI (t := 6) (mj := 49) (n := 1) (rc := 4) (ml := 2) (nr := 0) (np := 226) (as := [x_r 62]) (rest := []) (lo1 := [x_r 62, 147573952589676412928]) (by decide +kernel) (by decide) (by decide +kernel) (x_rb_of (by decide +kernel)) rfl rfl (x_wr (by decide) x_wn) x_wn (by decide) rfl (c49_62 j115  (by first | decide | omega) m155) (fun v152 h156 l153 q154 => ?_)
              obtain ⟨j157, f158, b159, c160, c161, c162⟩ := q154
              have f163 := Fr.trans f121 f158 (by decide)
              have b164 := jB (e := 2) 0 j157 rg_1_2_0_1 (by first | decide | omega) (by first | decide | omega)
              have q165 : h114 62 1 = h97 62 1 := f116 62 1 (by decide +kernel)
              have q166 : h97 62 1 = h70 62 1 := f99 62 1 (by decide +kernel)
              have q167 : h70 62 1 = h48 62 1 := f72 62 1 (by decide +kernel)
              have q168 : h48 62 1 = h30 62 1 := f50 62 1 (by decide +kernel)
              have q169 : h30 62 1 = h 62 1 := f32 62 1 (by decide +kernel)
              have q170 : h114 (r1 + 11) 2 = h97 (r1 + 11) 2 := jK 0 f116 (rg_T11_2_0_1 t3) (by first | decide | omega) (by first | decide | omega) (by decide)
              have q171 : h97 (r1 + 11) 2 = h70 (r1 + 11) 2 := jK 0 f99 (rg_T11_2_0_1 t3) (by first | decide | omega) (by first | decide | omega) (by decide)
              have q172 : h156 62 1 = h114 62 1 := f158 62 1 (by decide +kernel)
              have q173 : h114 62 1 = h97 62 1 := f116 62 1 (by decide +kernel)
              have q174 : h97 62 1 = h70 62 1 := f99 62 1 (by decide +kernel)
              have q175 : h70 62 1 = h48 62 1 := f72 62 1 (by decide +kernel)
              have q176 : h48 62 1 = h30 62 1 := f50 62 1 (by decide +kernel)
              have q177 : h30 62 1 = h 62 1 := f32 62 1 (by decide +kernel)
              have b178 := jB (e := 2) 0 j157 (rg_T11_2_0_1 t3) (by first | decide | omega) (by first | decide | omega)
              have e179 : cl9 h156 = (h156 (r1 + 11) 2) := (congrArg (fun z => h156 z 2) ((((((q172.trans q173).trans q174).trans q175).trans q176).trans q177).trans q2)).trans rfl
              refine x_ifz (k := 0) (tg := 246) (np := 229) (by decide +kernel) (by decide) l153 (fun q180 => ?_) (fun q181 => ?_)
              · have q180 : v152 = 2147483648 := q180
                refine x_const (np := 247) (x := 9223372039002259456) (a := 2147483648) (by decide +kernel) (by decide) (by decide) ?_
                have q182 : h156 62 1 = h114 62 1 := f158 62 1 (by decide +kernel)
                have q183 : h114 62 1 = h97 62 1 := f116 62 1 (by decide +kernel)
                have q184 : h97 62 1 = h70 62 1 := f99 62 1 (by decide +kernel)
                have q185 : h70 62 1 = h48 62 1 := f72 62 1 (by decide +kernel)
                have q186 : h48 62 1 = h30 62 1 := f50 62 1 (by decide +kernel)
                have q187 : h30 62 1 = h 62 1 := f32 62 1 (by decide +kernel)
                obtain ⟨w188, e189⟩ := Tk.no c36 (by first | decide | omega)
                obtain ⟨w190, e191⟩ := Tk.no c54 (by first | decide | omega)
                have w192 : An tB tN (h 1 2) := gA_an (Is.no c12 (by first | decide | omega)) rfl (Is.no c21 (by first | decide | omega)) rfl w188 rfl w190 (show h30 1 2 = h 1 2 by first | decide | omega)
                obtain ⟨w193, e194⟩ := Tk.no c103 (by first | decide | omega)
                obtain ⟨w195, e196⟩ := Tk.yes c120 (by first | decide | omega)
                refine x_retI (np := 248) (x := 0) (by decide +kernel) (by decide) (Or.inr ⟨by decide +kernel, by first | decide | omega, by first | decide | omega⟩) ⟨_, rfl, (by decide), ?_⟩
                exact ⟨j157, f163, (by first | decide | omega), (fun z => by first | decide | omega), (fun z => by first | decide | omega), (gA_c2 w192 (c76 2) (show h48 1 2 = h 1 2 by first | decide | omega) (by first | decide | omega) (Or.inr w195) (show h97 1 2 = h70 1 2 by first | decide | omega) e196 (c162 2) rfl (by first | decide | omega) (fun z => absurd z (by first | decide | omega)))⟩
              have q181 : ¬ (v152 = 2147483648) := q181
              have b197 := c160 (by first | decide | omega)
              have b198 := c161 (by first | decide | omega)
              refine x_aload (np := 230) (x := 0) (by decide +kernel) rfl (x_nc_le (by decide)) ?_
              have q199 : h156 62 1 = h114 62 1 := f158 62 1 (by decide +kernel)
              have q200 : h114 62 1 = h97 62 1 := f116 62 1 (by decide +kernel)
              have q201 : h97 62 1 = h70 62 1 := f99 62 1 (by decide +kernel)
              have q202 : h70 62 1 = h48 62 1 := f72 62 1 (by decide +kernel)
              have q203 : h48 62 1 = h30 62 1 := f50 62 1 (by decide +kernel)
              have q204 : h30 62 1 = h 62 1 := f32 62 1 (by decide +kernel)
              refine x_getR (np := 233) (x := 193) (f := 1) (q := (r1 + 11)) (by decide +kernel) (by decide) (by decide +kernel) ((((((q199.trans q200).trans q201).trans q202).trans q203).trans q204).trans q2) ?_
              refine x_const (np := 236) (x := 9223380637526788050) (a := 2147485650) (by decide +kernel) (by decide) (by decide) ?_
              refine x_nI (t := 6) (mj := 36) (n := 2) (rc := 3) (ml := 2) (nr := 0) (np := 239) (as := [x_r (r1 + 11), iv_c 2147485650]) (rest := []) (lo1 := [x_r (r1 + 11), iv_c 2147485650]) (by decide +kernel) (by decide) (by decide +kernel) (x_rb_of (tr_11_3 t3)) rfl rfl (x_wr (tn_11 t3) (x_wi (by decide) x_wn)) x_wn (by decide) rfl ?_
              refine x_aload (np := 1) (x := 0) (by decide +kernel) rfl (x_nc_le (tn_11 t3)) ?_
              refine x_getC (np := 4) (x := 130) (f := 2) (q := (h156 (r1 + 11) 2)) (by decide +kernel) (by decide) (tg_11_130_2_0 t3) rfl (fun l205 => ?_)
              refine x_const (np := 7) (x := 9223373756989178256) (a := 2147484048) (by decide +kernel) (by decide) (by decide) ?_
              refine x_icmp (k := 2) (tg := 12) (np := 10) (by decide +kernel) (by decide) l205 (by decide) (fun q206 => ?_) (fun q207 => ?_)
              · have q206 : (h156 (r1 + 11) 2) < 2147484048 := q206
                refine x_aload (np := 13) (x := 0) (by decide +kernel) rfl (x_nc_le (tn_11 t3)) ?_
                have q208 : h156 (r1 + 11) 0 = (r1 + 12) := tf_11_0 j157 t3
                refine x_getR (np := 16) (x := 128) (f := 0) (q := (r1 + 12)) (by decide +kernel) (by decide) (tg_11_128_0_1 t3) q208 ?_
                refine x_aload (np := 17) (x := 0) (by decide +kernel) rfl (x_nc_le (tn_11 t3)) ?_
                refine x_getC (np := 20) (x := 130) (f := 2) (q := (h156 (r1 + 11) 2)) (by decide +kernel) (by decide) (tg_11_130_2_0 t3) rfl (fun l209 => ?_)
                refine x_iload (np := 21) (x := 1) (by decide +kernel) rfl (by decide) ?_
                obtain ⟨u210, q211⟩ : ∃ z, (h156 (r1 + 11) 2) = 2147483648 + z := ⟨(h156 (r1 + 11) 2) - 2147483648, by first | decide | omega⟩
                refine x_ast (np := 22) (x := 0) (kd := 1) (n := 400) (i := u210) (by decide +kernel) (Or.inl rfl) (ta_12_400 t3) (by first | decide | omega) (by first | decide | omega) (by decide) (by decide) (fun z => absurd z (by decide)) ?_
                have j213 := jU (e := u210) (v := 2147485650) u210 j157 (rg_T12_0_1_400 t3) (by first | decide | omega) (by first | decide | omega) (by first | decide | omega)
                have f215 := jF (e := u210) (v := 2147485650) u210 f163 (rg_T12_0_1_400 t3) (by first | decide | omega) (by first | decide | omega) (by decide)
                generalize e214 : x_up h156 (r1 + 12) u210 2147485650 = h212 at j213 f215 ⊢
                refine x_aload (np := 23) (x := 0) (by decide +kernel) rfl (x_nc_le (tn_11 t3)) ?_
                refine x_dup (np := 24) (x := 0) (by decide +kernel) (by have z := x_nc_le (k := (r1 + 11)) (tn_11 t3); unfold x_r; omega) ?_
                have q216 : h212 (r1 + 11) 2 = h156 (r1 + 11) 2 := by rw [← e214]; exact x_up_k tof_11_12
                refine x_getC (np := 27) (x := 130) (f := 2) (q := (h156 (r1 + 11) 2)) (by decide +kernel) (by decide) (tg_11_130_2_0 t3) q216 (fun l217 => ?_)
                refine x_const (np := 28) (x := 9223372043297226753) (a := 2147483649) (by decide +kernel) (by decide) (by decide) ?_
                refine x_iadd (np := 29) (x := 0) (v := (1 + (h156 (r1 + 11) 2))) (by decide +kernel) l205 (by decide) (by first | decide | omega) (by first | decide | omega) ?_
                refine x_putI (np := 32) (x := 130) (f := 2) (by decide +kernel) (tg_11_130_2_0 t3) (by first | decide | omega) (Or.inl (by decide)) ?_
                have j219 := jU (e := 2) (v := (1 + (h156 (r1 + 11) 2))) 0 j213 (rg_T11_2_0_1 t3) (by first | decide | omega) (by first | decide | omega) (by first | decide | omega)
                have f221 := jF (e := 2) (v := (1 + (h156 (r1 + 11) 2))) 0 f215 (rg_T11_2_0_1 t3) (by first | decide | omega) (by first | decide | omega) (by decide)
                generalize e220 : x_up h212 (r1 + 11) 2 (1 + (h156 (r1 + 11) 2)) = h218 at j219 f221 ⊢
                refine x_const (np := 33) (x := 9223372043297226753) (a := 2147483649) (by decide +kernel) (by decide) (by decide) ?_
                refine x_retI (np := 34) (x := 0) (by decide +kernel) (by decide) (Or.inr ⟨by decide +kernel, by first | decide | omega, by first | decide | omega⟩) ⟨_, rfl, (by decide), ?_⟩
                refine x_ifz (k := 0) (tg := 246) (np := 242) (by decide +kernel) (by decide) (by decide) (fun q222 => ?_) (fun q223 => ?_)
                · have q222 : 2147483649 = 2147483648 := q222
                  exfalso; omega
                have q223 : ¬ (2147483649 = 2147483648) := q223
                refine x_const (np := 243) (x := 9223372043297226753) (a := 2147483649) (by decide +kernel) (by decide) (by decide) ?_
                refine x_goto (np := 246) (x := 247) (by decide +kernel) ?_
                have q224 : h218 1 2 = h212 1 2 := by rw [← e220]; exact x_up_k (Ne.symm (tne_11_1 t3))
                have q225 : h212 1 2 = h156 1 2 := by rw [← e214]; exact x_up_k (Ne.symm (tne_12_1 t3))
                have q226 : h218 62 1 = h212 62 1 := by rw [← e220]; exact x_up_k (Ne.symm (tne_11_62 t3))
                have q227 : h212 62 1 = h156 62 1 := by rw [← e214]; exact x_up_k (Ne.symm (tne_12_62 t3))
                have q228 : h156 62 1 = h114 62 1 := f158 62 1 (by decide +kernel)
                have q229 : h114 62 1 = h97 62 1 := f116 62 1 (by decide +kernel)
                have q230 : h97 62 1 = h70 62 1 := f99 62 1 (by decide +kernel)
                have q231 : h70 62 1 = h48 62 1 := f72 62 1 (by decide +kernel)
                have q232 : h48 62 1 = h30 62 1 := f50 62 1 (by decide +kernel)
                have q233 : h30 62 1 = h 62 1 := f32 62 1 (by decide +kernel)
                have q234 : h218 (r1 + 11) 2 = (1 + (h156 (r1 + 11) 2)) := by rw [← e220]; exact x_up_at
                have e235 : cl9 h218 = (1 + (h156 (r1 + 11) 2)) := (congrArg (fun z => h218 z 2) ((((((((q226.trans q227).trans q228).trans q229).trans q230).trans q231).trans q232).trans q233).trans q2)).trans q234
                have q236 : h218 1 2 = h212 1 2 := by rw [← e220]; exact x_up_k (Ne.symm (tne_11_1 t3))
                have q237 : h212 1 2 = h156 1 2 := by rw [← e214]; exact x_up_k (Ne.symm (tne_12_1 t3))
                obtain ⟨w238, e239⟩ := Tk.no c36 (by first | decide | omega)
                obtain ⟨w240, e241⟩ := Tk.no c54 (by first | decide | omega)
                have w242 : An tB tN (h 1 2) := gA_an (Is.no c12 (by first | decide | omega)) rfl (Is.no c21 (by first | decide | omega)) rfl w238 rfl w240 (show h30 1 2 = h 1 2 by first | decide | omega)
                obtain ⟨w243, e244⟩ := Tk.no c103 (by first | decide | omega)
                obtain ⟨w245, e246⟩ := Tk.yes c120 (by first | decide | omega)
                have q247 : h218 1 2 = h212 1 2 := by rw [← e220]; exact x_up_k (Ne.symm (tne_11_1 t3))
                have q248 : h212 1 2 = h156 1 2 := by rw [← e214]; exact x_up_k (Ne.symm (tne_12_1 t3))
                refine x_retI (np := 248) (x := 0) (by decide +kernel) (by decide) (Or.inr ⟨by decide +kernel, by first | decide | omega, by first | decide | omega⟩) ⟨_, rfl, (by decide), ?_⟩
                exact ⟨j219, f221, (by first | decide | omega), (fun z => by first | decide | omega), (fun z => by first | decide | omega), (gA_c2 w242 (c76 2) (show h48 1 2 = h 1 2 by first | decide | omega) (by first | decide | omega) (Or.inr w245) (show h97 1 2 = h70 1 2 by first | decide | omega) e246 (c162 2) rfl (by first | decide | omega) (fun z => (show h156 1 2 = h218 1 2 by first | decide | omega)))⟩
              have q207 : ¬ ((h156 (r1 + 11) 2) < 2147484048) := q207
              refine x_const (np := 11) (x := 9223372039002259456) (a := 2147483648) (by decide +kernel) (by decide) (by decide) ?_
              refine x_retI (np := 12) (x := 0) (by decide +kernel) (by decide) (Or.inr ⟨by decide +kernel, by first | decide | omega, by first | decide | omega⟩) ⟨_, rfl, (by decide), ?_⟩
              refine x_ifz (k := 0) (tg := 246) (np := 242) (by decide +kernel) (by decide) (by decide) (fun q249 => ?_) (fun q250 => ?_)
              · have q249 : 2147483648 = 2147483648 := q249
                refine x_const (np := 247) (x := 9223372039002259456) (a := 2147483648) (by decide +kernel) (by decide) (by decide) ?_
                have q251 : h156 62 1 = h114 62 1 := f158 62 1 (by decide +kernel)
                have q252 : h114 62 1 = h97 62 1 := f116 62 1 (by decide +kernel)
                have q253 : h97 62 1 = h70 62 1 := f99 62 1 (by decide +kernel)
                have q254 : h70 62 1 = h48 62 1 := f72 62 1 (by decide +kernel)
                have q255 : h48 62 1 = h30 62 1 := f50 62 1 (by decide +kernel)
                have q256 : h30 62 1 = h 62 1 := f32 62 1 (by decide +kernel)
                obtain ⟨w257, e258⟩ := Tk.no c36 (by first | decide | omega)
                obtain ⟨w259, e260⟩ := Tk.no c54 (by first | decide | omega)
                have w261 : An tB tN (h 1 2) := gA_an (Is.no c12 (by first | decide | omega)) rfl (Is.no c21 (by first | decide | omega)) rfl w257 rfl w259 (show h30 1 2 = h 1 2 by first | decide | omega)
                obtain ⟨w262, e263⟩ := Tk.no c103 (by first | decide | omega)
                obtain ⟨w264, e265⟩ := Tk.yes c120 (by first | decide | omega)
                refine x_retI (np := 248) (x := 0) (by decide +kernel) (by decide) (Or.inr ⟨by decide +kernel, by first | decide | omega, by first | decide | omega⟩) ⟨_, rfl, (by decide), ?_⟩
                exact ⟨j157, f163, (by first | decide | omega), (fun z => by first | decide | omega), (fun z => by first | decide | omega), (gA_c2 w261 (c76 2) (show h48 1 2 = h 1 2 by first | decide | omega) (by first | decide | omega) (Or.inr w264) (show h97 1 2 = h70 1 2 by first | decide | omega) e265 (c162 2) rfl (by first | decide | omega) (fun z => rfl))⟩
              have q250 : ¬ (2147483648 = 2147483648) := q250
              exfalso; omega
            have q107 : ¬ (v93 = 2147483648) := q107
            have b266 := c101 (by first | decide | omega)
            refine x_aload (np := 185) (x := 0) (by decide +kernel) rfl (x_nc_le (by decide)) ?_
            have q267 : h97 62 1 = h70 62 1 := f99 62 1 (by decide +kernel)
            have q268 : h70 62 1 = h48 62 1 := f72 62 1 (by decide +kernel)
            have q269 : h48 62 1 = h30 62 1 := f50 62 1 (by decide +kernel)
            have q270 : h30 62 1 = h 62 1 := f32 62 1 (by decide +kernel)
            have q271 : h97 (r1 + 11) 2 = h70 (r1 + 11) 2 := jK 0 f99 (rg_T11_2_0_1 t3) (by first | decide | omega) (by first | decide | omega) (by decide)
            have e272 : cl9 h97 = (h70 (r1 + 11) 2) := (congrArg (fun z => h97 z 2) ((((q267.trans q268).trans q269).trans q270).trans q2)).trans q271
            have m276 := Tp.fr m96 f99 (by decide) (by decide)
            refine x_cI (t := 6) (mj := 49) (n := 1) (rc := 4) (ml := 2) (nr := 0) (np := 188) (as := [x_r 62]) (rest := []) (lo1 := [x_r 62, 147573952589676412928]) (by decide +kernel) (by decide) (by decide +kernel) (x_rb_of (by decide +kernel)) rfl rfl (x_wr (by decide) x_wn) x_wn (by decide) rfl (c49_62 j98  (by first | decide | omega) m276) (fun v273 h277 l274 q275 => ?_)
            obtain ⟨j278, f279, b280, c281, c282, c283⟩ := q275
            have f284 := Fr.trans f104 f279 (by decide)
            have b285 := jB (e := 2) 0 j278 rg_1_2_0_1 (by first | decide | omega) (by first | decide | omega)
            have q286 : h97 62 1 = h70 62 1 := f99 62 1 (by decide +kernel)
            have q287 : h70 62 1 = h48 62 1 := f72 62 1 (by decide +kernel)
            have q288 : h48 62 1 = h30 62 1 := f50 62 1 (by decide +kernel)
            have q289 : h30 62 1 = h 62 1 := f32 62 1 (by decide +kernel)
            have q290 : h97 (r1 + 11) 2 = h70 (r1 + 11) 2 := jK 0 f99 (rg_T11_2_0_1 t3) (by first | decide | omega) (by first | decide | omega) (by decide)
            have q291 : h277 62 1 = h97 62 1 := f279 62 1 (by decide +kernel)
            have q292 : h97 62 1 = h70 62 1 := f99 62 1 (by decide +kernel)
            have q293 : h70 62 1 = h48 62 1 := f72 62 1 (by decide +kernel)
            have q294 : h48 62 1 = h30 62 1 := f50 62 1 (by decide +kernel)
            have q295 : h30 62 1 = h 62 1 := f32 62 1 (by decide +kernel)
            have b296 := jB (e := 2) 0 j278 (rg_T11_2_0_1 t3) (by first | decide | omega) (by first | decide | omega)
            have e297 : cl9 h277 = (h277 (r1 + 11) 2) := (congrArg (fun z => h277 z 2) (((((q291.trans q292).trans q293).trans q294).trans q295).trans q2)).trans rfl
            refine x_ifz (k := 0) (tg := 208) (np := 191) (by decide +kernel) (by decide) l274 (fun q298 => ?_) (fun q299 => ?_)
            · have q298 : v273 = 2147483648 := q298
              refine x_const (np := 209) (x := 9223372039002259456) (a := 2147483648) (by decide +kernel) (by decide) (by decide) ?_
              have q300 : h277 62 1 = h97 62 1 := f279 62 1 (by decide +kernel)
              have q301 : h97 62 1 = h70 62 1 := f99 62 1 (by decide +kernel)
              have q302 : h70 62 1 = h48 62 1 := f72 62 1 (by decide +kernel)
              have q303 : h48 62 1 = h30 62 1 := f50 62 1 (by decide +kernel)
              have q304 : h30 62 1 = h 62 1 := f32 62 1 (by decide +kernel)
              obtain ⟨w305, e306⟩ := Tk.no c36 (by first | decide | omega)
              obtain ⟨w307, e308⟩ := Tk.no c54 (by first | decide | omega)
              have w309 : An tB tN (h 1 2) := gA_an (Is.no c12 (by first | decide | omega)) rfl (Is.no c21 (by first | decide | omega)) rfl w305 rfl w307 (show h30 1 2 = h 1 2 by first | decide | omega)
              obtain ⟨w310, e311⟩ := Tk.yes c103 (by first | decide | omega)
              refine x_retI (np := 210) (x := 0) (by decide +kernel) (by decide) (Or.inr ⟨by decide +kernel, by first | decide | omega, by first | decide | omega⟩) ⟨_, rfl, (by decide), ?_⟩
              exact ⟨j278, f284, (by first | decide | omega), (fun z => by first | decide | omega), (fun z => by first | decide | omega), (gA_c2 w309 (c76 2) (show h48 1 2 = h 1 2 by first | decide | omega) (by first | decide | omega) (Or.inl w310) rfl e311 (c283 2) rfl (by first | decide | omega) (fun z => absurd z (by first | decide | omega)))⟩
            have q299 : ¬ (v273 = 2147483648) := q299
            have b312 := c281 (by first | decide | omega)
            have b313 := c282 (by first | decide | omega)
            refine x_aload (np := 192) (x := 0) (by decide +kernel) rfl (x_nc_le (by decide)) ?_
            have q314 : h277 62 1 = h97 62 1 := f279 62 1 (by decide +kernel)
            have q315 : h97 62 1 = h70 62 1 := f99 62 1 (by decide +kernel)
            have q316 : h70 62 1 = h48 62 1 := f72 62 1 (by decide +kernel)
            have q317 : h48 62 1 = h30 62 1 := f50 62 1 (by decide +kernel)
            have q318 : h30 62 1 = h 62 1 := f32 62 1 (by decide +kernel)
            refine x_getR (np := 195) (x := 193) (f := 1) (q := (r1 + 11)) (by decide +kernel) (by decide) (by decide +kernel) (((((q314.trans q315).trans q316).trans q317).trans q318).trans q2) ?_
            refine x_const (np := 198) (x := 9223380633231820753) (a := 2147485649) (by decide +kernel) (by decide) (by decide) ?_
            refine x_nI (t := 6) (mj := 36) (n := 2) (rc := 3) (ml := 2) (nr := 0) (np := 201) (as := [x_r (r1 + 11), iv_c 2147485649]) (rest := []) (lo1 := [x_r (r1 + 11), iv_c 2147485649]) (by decide +kernel) (by decide) (by decide +kernel) (x_rb_of (tr_11_3 t3)) rfl rfl (x_wr (tn_11 t3) (x_wi (by decide) x_wn)) x_wn (by decide) rfl ?_
            refine x_aload (np := 1) (x := 0) (by decide +kernel) rfl (x_nc_le (tn_11 t3)) ?_
            refine x_getC (np := 4) (x := 130) (f := 2) (q := (h277 (r1 + 11) 2)) (by decide +kernel) (by decide) (tg_11_130_2_0 t3) rfl (fun l319 => ?_)
            refine x_const (np := 7) (x := 9223373756989178256) (a := 2147484048) (by decide +kernel) (by decide) (by decide) ?_
            refine x_icmp (k := 2) (tg := 12) (np := 10) (by decide +kernel) (by decide) l319 (by decide) (fun q320 => ?_) (fun q321 => ?_)
            · have q320 : (h277 (r1 + 11) 2) < 2147484048 := q320
              refine x_aload (np := 13) (x := 0) (by decide +kernel) rfl (x_nc_le (tn_11 t3)) ?_
              have q322 : h277 (r1 + 11) 0 = (r1 + 12) := tf_11_0 j278 t3
              refine x_getR (np := 16) (x := 128) (f := 0) (q := (r1 + 12)) (by decide +kernel) (by decide) (tg_11_128_0_1 t3) q322 ?_
              refine x_aload (np := 17) (x := 0) (by decide +kernel) rfl (x_nc_le (tn_11 t3)) ?_
              refine x_getC (np := 20) (x := 130) (f := 2) (q := (h277 (r1 + 11) 2)) (by decide +kernel) (by decide) (tg_11_130_2_0 t3) rfl (fun l323 => ?_)
              refine x_iload (np := 21) (x := 1) (by decide +kernel) rfl (by decide) ?_
              obtain ⟨u324, q325⟩ : ∃ z, (h277 (r1 + 11) 2) = 2147483648 + z := ⟨(h277 (r1 + 11) 2) - 2147483648, by first | decide | omega⟩
              refine x_ast (np := 22) (x := 0) (kd := 1) (n := 400) (i := u324) (by decide +kernel) (Or.inl rfl) (ta_12_400 t3) (by first | decide | omega) (by first | decide | omega) (by decide) (by decide) (fun z => absurd z (by decide)) ?_
              have j327 := jU (e := u324) (v := 2147485649) u324 j278 (rg_T12_0_1_400 t3) (by first | decide | omega) (by first | decide | omega) (by first | decide | omega)
              have f329 := jF (e := u324) (v := 2147485649) u324 f284 (rg_T12_0_1_400 t3) (by first | decide | omega) (by first | decide | omega) (by decide)
              generalize e328 : x_up h277 (r1 + 12) u324 2147485649 = h326 at j327 f329 ⊢
              refine x_aload (np := 23) (x := 0) (by decide +kernel) rfl (x_nc_le (tn_11 t3)) ?_
              refine x_dup (np := 24) (x := 0) (by decide +kernel) (by have z := x_nc_le (k := (r1 + 11)) (tn_11 t3); unfold x_r; omega) ?_
              have q330 : h326 (r1 + 11) 2 = h277 (r1 + 11) 2 := by rw [← e328]; exact x_up_k tof_11_12
              refine x_getC (np := 27) (x := 130) (f := 2) (q := (h277 (r1 + 11) 2)) (by decide +kernel) (by decide) (tg_11_130_2_0 t3) q330 (fun l331 => ?_)
              refine x_const (np := 28) (x := 9223372043297226753) (a := 2147483649) (by decide +kernel) (by decide) (by decide) ?_
              refine x_iadd (np := 29) (x := 0) (v := (1 + (h277 (r1 + 11) 2))) (by decide +kernel) l319 (by decide) (by first | decide | omega) (by first | decide | omega) ?_
              refine x_putI (np := 32) (x := 130) (f := 2) (by decide +kernel) (tg_11_130_2_0 t3) (by first | decide | omega) (Or.inl (by decide)) ?_
              have j333 := jU (e := 2) (v := (1 + (h277 (r1 + 11) 2))) 0 j327 (rg_T11_2_0_1 t3) (by first | decide | omega) (by first | decide | omega) (by first | decide | omega)
              have f335 := jF (e := 2) (v := (1 + (h277 (r1 + 11) 2))) 0 f329 (rg_T11_2_0_1 t3) (by first | decide | omega) (by first | decide | omega) (by decide)
              generalize e334 : x_up h326 (r1 + 11) 2 (1 + (h277 (r1 + 11) 2)) = h332 at j333 f335 ⊢
              refine x_const (np := 33) (x := 9223372043297226753) (a := 2147483649) (by decide +kernel) (by decide) (by decide) ?_
              refine x_retI (np := 34) (x := 0) (by decide +kernel) (by decide) (Or.inr ⟨by decide +kernel, by first | decide | omega, by first | decide | omega⟩) ⟨_, rfl, (by decide), ?_⟩
              refine x_ifz (k := 0) (tg := 208) (np := 204) (by decide +kernel) (by decide) (by decide) (fun q336 => ?_) (fun q337 => ?_)
              · have q336 : 2147483649 = 2147483648 := q336
                exfalso; omega
              have q337 : ¬ (2147483649 = 2147483648) := q337
              refine x_const (np := 205) (x := 9223372043297226753) (a := 2147483649) (by decide +kernel) (by decide) (by decide) ?_
              refine x_goto (np := 208) (x := 209) (by decide +kernel) ?_
              have q338 : h332 1 2 = h326 1 2 := by rw [← e334]; exact x_up_k (Ne.symm (tne_11_1 t3))
              have q339 : h326 1 2 = h277 1 2 := by rw [← e328]; exact x_up_k (Ne.symm (tne_12_1 t3))
              have q340 : h332 62 1 = h326 62 1 := by rw [← e334]; exact x_up_k (Ne.symm (tne_11_62 t3))
              have q341 : h326 62 1 = h277 62 1 := by rw [← e328]; exact x_up_k (Ne.symm (tne_12_62 t3))
              have q342 : h277 62 1 = h97 62 1 := f279 62 1 (by decide +kernel)
              have q343 : h97 62 1 = h70 62 1 := f99 62 1 (by decide +kernel)
              have q344 : h70 62 1 = h48 62 1 := f72 62 1 (by decide +kernel)
              have q345 : h48 62 1 = h30 62 1 := f50 62 1 (by decide +kernel)
              have q346 : h30 62 1 = h 62 1 := f32 62 1 (by decide +kernel)
              have q347 : h332 (r1 + 11) 2 = (1 + (h277 (r1 + 11) 2)) := by rw [← e334]; exact x_up_at
              have e348 : cl9 h332 = (1 + (h277 (r1 + 11) 2)) := (congrArg (fun z => h332 z 2) (((((((q340.trans q341).trans q342).trans q343).trans q344).trans q345).trans q346).trans q2)).trans q347
              have q349 : h332 1 2 = h326 1 2 := by rw [← e334]; exact x_up_k (Ne.symm (tne_11_1 t3))
              have q350 : h326 1 2 = h277 1 2 := by rw [← e328]; exact x_up_k (Ne.symm (tne_12_1 t3))
              obtain ⟨w351, e352⟩ := Tk.no c36 (by first | decide | omega)
              obtain ⟨w353, e354⟩ := Tk.no c54 (by first | decide | omega)
              have w355 : An tB tN (h 1 2) := gA_an (Is.no c12 (by first | decide | omega)) rfl (Is.no c21 (by first | decide | omega)) rfl w351 rfl w353 (show h30 1 2 = h 1 2 by first | decide | omega)
              obtain ⟨w356, e357⟩ := Tk.yes c103 (by first | decide | omega)
              have q358 : h332 1 2 = h326 1 2 := by rw [← e334]; exact x_up_k (Ne.symm (tne_11_1 t3))
              have q359 : h326 1 2 = h277 1 2 := by rw [← e328]; exact x_up_k (Ne.symm (tne_12_1 t3))
              refine x_retI (np := 210) (x := 0) (by decide +kernel) (by decide) (Or.inr ⟨by decide +kernel, by first | decide | omega, by first | decide | omega⟩) ⟨_, rfl, (by decide), ?_⟩
              exact ⟨j333, f335, (by first | decide | omega), (fun z => by first | decide | omega), (fun z => by first | decide | omega), (gA_c2 w355 (c76 2) (show h48 1 2 = h 1 2 by first | decide | omega) (by first | decide | omega) (Or.inl w356) rfl e357 (c283 2) rfl (by first | decide | omega) (fun z => (show h277 1 2 = h332 1 2 by first | decide | omega)))⟩
            have q321 : ¬ ((h277 (r1 + 11) 2) < 2147484048) := q321
            refine x_const (np := 11) (x := 9223372039002259456) (a := 2147483648) (by decide +kernel) (by decide) (by decide) ?_
            refine x_retI (np := 12) (x := 0) (by decide +kernel) (by decide) (Or.inr ⟨by decide +kernel, by first | decide | omega, by first | decide | omega⟩) ⟨_, rfl, (by decide), ?_⟩
            refine x_ifz (k := 0) (tg := 208) (np := 204) (by decide +kernel) (by decide) (by decide) (fun q360 => ?_) (fun q361 => ?_)
            · have q360 : 2147483648 = 2147483648 := q360
              refine x_const (np := 209) (x := 9223372039002259456) (a := 2147483648) (by decide +kernel) (by decide) (by decide) ?_
              have q362 : h277 62 1 = h97 62 1 := f279 62 1 (by decide +kernel)
              have q363 : h97 62 1 = h70 62 1 := f99 62 1 (by decide +kernel)
              have q364 : h70 62 1 = h48 62 1 := f72 62 1 (by decide +kernel)
              have q365 : h48 62 1 = h30 62 1 := f50 62 1 (by decide +kernel)
              have q366 : h30 62 1 = h 62 1 := f32 62 1 (by decide +kernel)
              obtain ⟨w367, e368⟩ := Tk.no c36 (by first | decide | omega)
              obtain ⟨w369, e370⟩ := Tk.no c54 (by first | decide | omega)
              have w371 : An tB tN (h 1 2) := gA_an (Is.no c12 (by first | decide | omega)) rfl (Is.no c21 (by first | decide | omega)) rfl w367 rfl w369 (show h30 1 2 = h 1 2 by first | decide | omega)
              obtain ⟨w372, e373⟩ := Tk.yes c103 (by first | decide | omega)
              refine x_retI (np := 210) (x := 0) (by decide +kernel) (by decide) (Or.inr ⟨by decide +kernel, by first | decide | omega, by first | decide | omega⟩) ⟨_, rfl, (by decide), ?_⟩
              exact ⟨j278, f284, (by first | decide | omega), (fun z => by first | decide | omega), (fun z => by first | decide | omega), (gA_c2 w371 (c76 2) (show h48 1 2 = h 1 2 by first | decide | omega) (by first | decide | omega) (Or.inl w372) rfl e373 (c283 2) rfl (by first | decide | omega) (fun z => rfl))⟩
            have q361 : ¬ (2147483648 = 2147483648) := q361
            exfalso; omega
          have q89 : ¬ (v66 ≠ 2147483648) := q89
          refine x_const (np := 171) (x := 9223372039002259456) (a := 2147483648) (by decide +kernel) (by decide) (by decide) ?_
          have q374 : h70 62 1 = h48 62 1 := f72 62 1 (by decide +kernel)
          have q375 : h48 62 1 = h30 62 1 := f50 62 1 (by decide +kernel)
          have q376 : h30 62 1 = h 62 1 := f32 62 1 (by decide +kernel)
          obtain ⟨w377, e378⟩ := Tk.no c36 (by first | decide | omega)
          obtain ⟨w379, e380⟩ := Tk.no c54 (by first | decide | omega)
          have w381 : An tB tN (h 1 2) := gA_an (Is.no c12 (by first | decide | omega)) rfl (Is.no c21 (by first | decide | omega)) rfl w377 rfl w379 (show h30 1 2 = h 1 2 by first | decide | omega)
          refine x_retI (np := 172) (x := 0) (by decide +kernel) (by decide) (Or.inr ⟨by decide +kernel, by first | decide | omega, by first | decide | omega⟩) ⟨_, rfl, (by decide), ?_⟩
          exact ⟨j71, f77, (by first | decide | omega), (fun z => by first | decide | omega), (fun z => by first | decide | omega), (gA_c0 w381 (c76 2) (show h48 1 2 = h 1 2 by first | decide | omega) (by first | decide | omega) (by first | decide | omega))⟩
        have q59 : ¬ (v44 = 2147483648) := q59
        have b382 := c52 (by first | decide | omega)
        refine x_aload (np := 153) (x := 0) (by decide +kernel) rfl (x_nc_le (by decide)) ?_
        have q383 : h48 62 1 = h30 62 1 := f50 62 1 (by decide +kernel)
        have q384 : h30 62 1 = h 62 1 := f32 62 1 (by decide +kernel)
        refine x_getR (np := 156) (x := 193) (f := 1) (q := (r1 + 11)) (by decide +kernel) (by decide) (by decide +kernel) ((q383.trans q384).trans q2) ?_
        refine x_const (np := 159) (x := 9223376364034327535) (a := 2147484655) (by decide +kernel) (by decide) (by decide) ?_
        refine x_nI (t := 6) (mj := 36) (n := 2) (rc := 3) (ml := 2) (nr := 0) (np := 162) (as := [x_r (r1 + 11), iv_c 2147484655]) (rest := []) (lo1 := [x_r (r1 + 11), iv_c 2147484655]) (by decide +kernel) (by decide) (by decide +kernel) (x_rb_of (tr_11_3 t3)) rfl rfl (x_wr (tn_11 t3) (x_wi (by decide) x_wn)) x_wn (by decide) rfl ?_
        refine x_aload (np := 1) (x := 0) (by decide +kernel) rfl (x_nc_le (tn_11 t3)) ?_
        have q385 : h48 (r1 + 11) 2 = h30 (r1 + 11) 2 := jK 0 f50 (rg_T11_2_0_1 t3) (by first | decide | omega) (by first | decide | omega) (by decide)
        have q386 : h30 (r1 + 11) 2 = h (r1 + 11) 2 := jK 0 f32 (rg_T11_2_0_1 t3) (by first | decide | omega) (by first | decide | omega) (by decide)
        refine x_getC (np := 4) (x := 130) (f := 2) (q := (h (r1 + 11) 2)) (by decide +kernel) (by decide) (tg_11_130_2_0 t3) (q385.trans q386) (fun l387 => ?_)
        refine x_const (np := 7) (x := 9223373756989178256) (a := 2147484048) (by decide +kernel) (by decide) (by decide) ?_
        refine x_icmp (k := 2) (tg := 12) (np := 10) (by decide +kernel) (by decide) l387 (by decide) (fun q388 => ?_) (fun q389 => ?_)
        · have q388 : (h (r1 + 11) 2) < 2147484048 := q388
          refine x_aload (np := 13) (x := 0) (by decide +kernel) rfl (x_nc_le (tn_11 t3)) ?_
          have q390 : h48 (r1 + 11) 0 = (r1 + 12) := tf_11_0 j49 t3
          refine x_getR (np := 16) (x := 128) (f := 0) (q := (r1 + 12)) (by decide +kernel) (by decide) (tg_11_128_0_1 t3) q390 ?_
          refine x_aload (np := 17) (x := 0) (by decide +kernel) rfl (x_nc_le (tn_11 t3)) ?_
          have q391 : h48 (r1 + 11) 2 = h30 (r1 + 11) 2 := jK 0 f50 (rg_T11_2_0_1 t3) (by first | decide | omega) (by first | decide | omega) (by decide)
          have q392 : h30 (r1 + 11) 2 = h (r1 + 11) 2 := jK 0 f32 (rg_T11_2_0_1 t3) (by first | decide | omega) (by first | decide | omega) (by decide)
          refine x_getC (np := 20) (x := 130) (f := 2) (q := (h (r1 + 11) 2)) (by decide +kernel) (by decide) (tg_11_130_2_0 t3) (q391.trans q392) (fun l393 => ?_)
          refine x_iload (np := 21) (x := 1) (by decide +kernel) rfl (by decide) ?_
          obtain ⟨u394, q395⟩ : ∃ z, (h (r1 + 11) 2) = 2147483648 + z := ⟨(h (r1 + 11) 2) - 2147483648, by first | decide | omega⟩
          refine x_ast (np := 22) (x := 0) (kd := 1) (n := 400) (i := u394) (by decide +kernel) (Or.inl rfl) (ta_12_400 t3) (by first | decide | omega) (by first | decide | omega) (by decide) (by decide) (fun z => absurd z (by decide)) ?_
          have j397 := jU (e := u394) (v := 2147484655) u394 j49 (rg_T12_0_1_400 t3) (by first | decide | omega) (by first | decide | omega) (by first | decide | omega)
          have f399 := jF (e := u394) (v := 2147484655) u394 f55 (rg_T12_0_1_400 t3) (by first | decide | omega) (by first | decide | omega) (by decide)
          generalize e398 : x_up h48 (r1 + 12) u394 2147484655 = h396 at j397 f399 ⊢
          refine x_aload (np := 23) (x := 0) (by decide +kernel) rfl (x_nc_le (tn_11 t3)) ?_
          refine x_dup (np := 24) (x := 0) (by decide +kernel) (by have z := x_nc_le (k := (r1 + 11)) (tn_11 t3); unfold x_r; omega) ?_
          have q400 : h396 (r1 + 11) 2 = h48 (r1 + 11) 2 := by rw [← e398]; exact x_up_k tof_11_12
          have q401 : h48 (r1 + 11) 2 = h30 (r1 + 11) 2 := jK 0 f50 (rg_T11_2_0_1 t3) (by first | decide | omega) (by first | decide | omega) (by decide)
          have q402 : h30 (r1 + 11) 2 = h (r1 + 11) 2 := jK 0 f32 (rg_T11_2_0_1 t3) (by first | decide | omega) (by first | decide | omega) (by decide)
          refine x_getC (np := 27) (x := 130) (f := 2) (q := (h (r1 + 11) 2)) (by decide +kernel) (by decide) (tg_11_130_2_0 t3) ((q400.trans q401).trans q402) (fun l403 => ?_)
          refine x_const (np := 28) (x := 9223372043297226753) (a := 2147483649) (by decide +kernel) (by decide) (by decide) ?_
          refine x_iadd (np := 29) (x := 0) (v := (1 + (h (r1 + 11) 2))) (by decide +kernel) l387 (by decide) (by first | decide | omega) (by first | decide | omega) ?_
          refine x_putI (np := 32) (x := 130) (f := 2) (by decide +kernel) (tg_11_130_2_0 t3) (by first | decide | omega) (Or.inl (by decide)) ?_
          have j405 := jU (e := 2) (v := (1 + (h (r1 + 11) 2))) 0 j397 (rg_T11_2_0_1 t3) (by first | decide | omega) (by first | decide | omega) (by first | decide | omega)
          have f407 := jF (e := 2) (v := (1 + (h (r1 + 11) 2))) 0 f399 (rg_T11_2_0_1 t3) (by first | decide | omega) (by first | decide | omega) (by decide)
          generalize e406 : x_up h396 (r1 + 11) 2 (1 + (h (r1 + 11) 2)) = h404 at j405 f407 ⊢
          refine x_const (np := 33) (x := 9223372043297226753) (a := 2147483649) (by decide +kernel) (by decide) (by decide) ?_
          refine x_retI (np := 34) (x := 0) (by decide +kernel) (by decide) (Or.inr ⟨by decide +kernel, by first | decide | omega, by first | decide | omega⟩) ⟨_, rfl, (by decide), ?_⟩
          have q408 : h404 1 2 = h396 1 2 := by rw [← e406]; exact x_up_k (Ne.symm (tne_11_1 t3))
          have q409 : h396 1 2 = h48 1 2 := by rw [← e398]; exact x_up_k (Ne.symm (tne_12_1 t3))
          have q410 : h404 62 1 = h396 62 1 := by rw [← e406]; exact x_up_k (Ne.symm (tne_11_62 t3))
          have q411 : h396 62 1 = h48 62 1 := by rw [← e398]; exact x_up_k (Ne.symm (tne_12_62 t3))
          have q412 : h48 62 1 = h30 62 1 := f50 62 1 (by decide +kernel)
          have q413 : h30 62 1 = h 62 1 := f32 62 1 (by decide +kernel)
          have q414 : h404 (r1 + 11) 2 = (1 + (h (r1 + 11) 2)) := by rw [← e406]; exact x_up_at
          have e415 : cl9 h404 = (1 + (h (r1 + 11) 2)) := (congrArg (fun z => h404 z 2) ((((q410.trans q411).trans q412).trans q413).trans q2)).trans q414
          have q416 : h404 1 2 = h396 1 2 := by rw [← e406]; exact x_up_k (Ne.symm (tne_11_1 t3))
          have q417 : h396 1 2 = h48 1 2 := by rw [← e398]; exact x_up_k (Ne.symm (tne_12_1 t3))
          obtain ⟨w418, e419⟩ := Tk.no c36 (by first | decide | omega)
          obtain ⟨w420, e421⟩ := Tk.yes c54 (by first | decide | omega)
          have q422 : h404 1 2 = h396 1 2 := by rw [← e406]; exact x_up_k (Ne.symm (tne_11_1 t3))
          have q423 : h396 1 2 = h48 1 2 := by rw [← e398]; exact x_up_k (Ne.symm (tne_12_1 t3))
          refine x_retI (np := 163) (x := 0) (by decide +kernel) (by decide) (Or.inr ⟨by decide +kernel, by first | decide | omega, by first | decide | omega⟩) ⟨_, rfl, (by decide), ?_⟩
          exact ⟨j405, f407, (by first | decide | omega), (fun z => by first | decide | omega), (fun z => by first | decide | omega), (gA_mine w420 (show h30 1 2 = h 1 2 by first | decide | omega) e421 (by first | decide | omega) (show h48 1 2 = h404 1 2 by first | decide | omega))⟩
        have q389 : ¬ ((h (r1 + 11) 2) < 2147484048) := q389
        exfalso; omega
      have q41 : ¬ (v27 = 2147483648) := q41
      have b424 := c34 (by first | decide | omega)
      refine x_aload (np := 130) (x := 0) (by decide +kernel) rfl (x_nc_le (by decide)) ?_
      have q425 : h30 62 1 = h 62 1 := f32 62 1 (by decide +kernel)
      refine x_getR (np := 133) (x := 193) (f := 1) (q := (r1 + 11)) (by decide +kernel) (by decide) (by decide +kernel) (q425.trans q2) ?_
      refine x_const (np := 136) (x := 9223376359739360238) (a := 2147484654) (by decide +kernel) (by decide) (by decide) ?_
      refine x_nI (t := 6) (mj := 36) (n := 2) (rc := 3) (ml := 2) (nr := 0) (np := 139) (as := [x_r (r1 + 11), iv_c 2147484654]) (rest := []) (lo1 := [x_r (r1 + 11), iv_c 2147484654]) (by decide +kernel) (by decide) (by decide +kernel) (x_rb_of (tr_11_3 t3)) rfl rfl (x_wr (tn_11 t3) (x_wi (by decide) x_wn)) x_wn (by decide) rfl ?_
      refine x_aload (np := 1) (x := 0) (by decide +kernel) rfl (x_nc_le (tn_11 t3)) ?_
      have q426 : h30 (r1 + 11) 2 = h (r1 + 11) 2 := jK 0 f32 (rg_T11_2_0_1 t3) (by first | decide | omega) (by first | decide | omega) (by decide)
      refine x_getC (np := 4) (x := 130) (f := 2) (q := (h (r1 + 11) 2)) (by decide +kernel) (by decide) (tg_11_130_2_0 t3) q426 (fun l427 => ?_)
      refine x_const (np := 7) (x := 9223373756989178256) (a := 2147484048) (by decide +kernel) (by decide) (by decide) ?_
      refine x_icmp (k := 2) (tg := 12) (np := 10) (by decide +kernel) (by decide) l427 (by decide) (fun q428 => ?_) (fun q429 => ?_)
      · have q428 : (h (r1 + 11) 2) < 2147484048 := q428
        refine x_aload (np := 13) (x := 0) (by decide +kernel) rfl (x_nc_le (tn_11 t3)) ?_
        have q430 : h30 (r1 + 11) 0 = (r1 + 12) := tf_11_0 j31 t3
        refine x_getR (np := 16) (x := 128) (f := 0) (q := (r1 + 12)) (by decide +kernel) (by decide) (tg_11_128_0_1 t3) q430 ?_
        refine x_aload (np := 17) (x := 0) (by decide +kernel) rfl (x_nc_le (tn_11 t3)) ?_
        have q431 : h30 (r1 + 11) 2 = h (r1 + 11) 2 := jK 0 f32 (rg_T11_2_0_1 t3) (by first | decide | omega) (by first | decide | omega) (by decide)
        refine x_getC (np := 20) (x := 130) (f := 2) (q := (h (r1 + 11) 2)) (by decide +kernel) (by decide) (tg_11_130_2_0 t3) q431 (fun l432 => ?_)
        refine x_iload (np := 21) (x := 1) (by decide +kernel) rfl (by decide) ?_
        obtain ⟨u433, q434⟩ : ∃ z, (h (r1 + 11) 2) = 2147483648 + z := ⟨(h (r1 + 11) 2) - 2147483648, by first | decide | omega⟩
        refine x_ast (np := 22) (x := 0) (kd := 1) (n := 400) (i := u433) (by decide +kernel) (Or.inl rfl) (ta_12_400 t3) (by first | decide | omega) (by first | decide | omega) (by decide) (by decide) (fun z => absurd z (by decide)) ?_
        have j436 := jU (e := u433) (v := 2147484654) u433 j31 (rg_T12_0_1_400 t3) (by first | decide | omega) (by first | decide | omega) (by first | decide | omega)
        have f438 := jF (e := u433) (v := 2147484654) u433 f37 (rg_T12_0_1_400 t3) (by first | decide | omega) (by first | decide | omega) (by decide)
        generalize e437 : x_up h30 (r1 + 12) u433 2147484654 = h435 at j436 f438 ⊢
        refine x_aload (np := 23) (x := 0) (by decide +kernel) rfl (x_nc_le (tn_11 t3)) ?_
        refine x_dup (np := 24) (x := 0) (by decide +kernel) (by have z := x_nc_le (k := (r1 + 11)) (tn_11 t3); unfold x_r; omega) ?_
        have q439 : h435 (r1 + 11) 2 = h30 (r1 + 11) 2 := by rw [← e437]; exact x_up_k tof_11_12
        have q440 : h30 (r1 + 11) 2 = h (r1 + 11) 2 := jK 0 f32 (rg_T11_2_0_1 t3) (by first | decide | omega) (by first | decide | omega) (by decide)
        refine x_getC (np := 27) (x := 130) (f := 2) (q := (h (r1 + 11) 2)) (by decide +kernel) (by decide) (tg_11_130_2_0 t3) (q439.trans q440) (fun l441 => ?_)
        refine x_const (np := 28) (x := 9223372043297226753) (a := 2147483649) (by decide +kernel) (by decide) (by decide) ?_
        refine x_iadd (np := 29) (x := 0) (v := (1 + (h (r1 + 11) 2))) (by decide +kernel) l427 (by decide) (by first | decide | omega) (by first | decide | omega) ?_
        refine x_putI (np := 32) (x := 130) (f := 2) (by decide +kernel) (tg_11_130_2_0 t3) (by first | decide | omega) (Or.inl (by decide)) ?_
        have j443 := jU (e := 2) (v := (1 + (h (r1 + 11) 2))) 0 j436 (rg_T11_2_0_1 t3) (by first | decide | omega) (by first | decide | omega) (by first | decide | omega)
        have f445 := jF (e := 2) (v := (1 + (h (r1 + 11) 2))) 0 f438 (rg_T11_2_0_1 t3) (by first | decide | omega) (by first | decide | omega) (by decide)
        generalize e444 : x_up h435 (r1 + 11) 2 (1 + (h (r1 + 11) 2)) = h442 at j443 f445 ⊢
        refine x_const (np := 33) (x := 9223372043297226753) (a := 2147483649) (by decide +kernel) (by decide) (by decide) ?_
        refine x_retI (np := 34) (x := 0) (by decide +kernel) (by decide) (Or.inr ⟨by decide +kernel, by first | decide | omega, by first | decide | omega⟩) ⟨_, rfl, (by decide), ?_⟩
        have q446 : h442 1 2 = h435 1 2 := by rw [← e444]; exact x_up_k (Ne.symm (tne_11_1 t3))
        have q447 : h435 1 2 = h30 1 2 := by rw [← e437]; exact x_up_k (Ne.symm (tne_12_1 t3))
        have q448 : h442 62 1 = h435 62 1 := by rw [← e444]; exact x_up_k (Ne.symm (tne_11_62 t3))
        have q449 : h435 62 1 = h30 62 1 := by rw [← e437]; exact x_up_k (Ne.symm (tne_12_62 t3))
        have q450 : h30 62 1 = h 62 1 := f32 62 1 (by decide +kernel)
        have q451 : h442 (r1 + 11) 2 = (1 + (h (r1 + 11) 2)) := by rw [← e444]; exact x_up_at
        have e452 : cl9 h442 = (1 + (h (r1 + 11) 2)) := (congrArg (fun z => h442 z 2) (((q448.trans q449).trans q450).trans q2)).trans q451
        have q453 : h442 1 2 = h435 1 2 := by rw [← e444]; exact x_up_k (Ne.symm (tne_11_1 t3))
        have q454 : h435 1 2 = h30 1 2 := by rw [← e437]; exact x_up_k (Ne.symm (tne_12_1 t3))
        obtain ⟨w455, e456⟩ := Tk.yes c36 (by first | decide | omega)
        have q457 : h442 1 2 = h435 1 2 := by rw [← e444]; exact x_up_k (Ne.symm (tne_11_1 t3))
        have q458 : h435 1 2 = h30 1 2 := by rw [← e437]; exact x_up_k (Ne.symm (tne_12_1 t3))
        refine x_retI (np := 140) (x := 0) (by decide +kernel) (by decide) (Or.inr ⟨by decide +kernel, by first | decide | omega, by first | decide | omega⟩) ⟨_, rfl, (by decide), ?_⟩
        exact ⟨j443, f445, (by first | decide | omega), (fun z => by first | decide | omega), (fun z => by first | decide | omega), (gA_own w455 rfl e456 (by first | decide | omega) (show h30 1 2 = h442 1 2 by first | decide | omega))⟩
      have q429 : ¬ ((h (r1 + 11) 2) < 2147484048) := q429
      exfalso; omega
    have q25 : ¬ (v17 = 2147483648) := q25
    have b459 := c20 (by first | decide | omega)
    refine x_iload (np := 72) (x := 1) (by decide +kernel) rfl (by decide) ?_
    refine x_const (np := 74) (x := 9223372064772063238) (a := 2147483654) (by decide +kernel) (by decide) (by decide) ?_
    refine x_icmp (k := 3) (tg := 115) (np := 77) (by decide +kernel) (by decide) (by decide) (by decide) (fun q460 => ?_) (fun q461 => ?_)
    · have q460 : 2147483654 ≤ 2147483650 := q460
      exfalso; omega
    have q461 : ¬ (2147483654 ≤ 2147483650) := q461
    refine x_aload (np := 78) (x := 0) (by decide +kernel) rfl (x_nc_le (by decide)) ?_
    have q462 : h 62 0 = 1 := by have z := jB (e := 0) 0 hJ rg_62_0_0_1 (by decide) (by decide); omega
    refine x_getR (np := 81) (x := 192) (f := 0) (q := 1) (by decide +kernel) (by decide) (by decide +kernel) q462 ?_
    refine x_const (np := 83) (x := 9223372210800951336) (a := 2147483688) (by decide +kernel) (by decide) (by decide) ?_
    refine x_cI (t := 6) (mj := 76) (n := 2) (rc := 8) (ml := 2) (nr := 0) (np := 86) (as := [x_r 1, iv_c 2147483688]) (rest := []) (lo1 := [x_r 1, iv_c 2147483688]) (by decide +kernel) (by decide) (by decide +kernel) (x_rb_of (by decide +kernel)) rfl rfl (x_wr (by decide) (x_wi (by decide) x_wn)) x_wn (by decide) rfl (c76_1 hJ  (by first | decide | omega) hT) (fun v463 h466 l464 q465 => ?_)
    obtain ⟨j467, f468, b469, c470, c471, c472⟩ := q465
    have f473 := Fr.trans hF f468 (by decide)
    have b474 := jB (e := 2) 0 j467 rg_1_2_0_1 (by first | decide | omega) (by first | decide | omega)
    refine x_ifz (k := 0) (tg := 115) (np := 89) (by decide +kernel) (by decide) l464 (fun q475 => ?_) (fun q476 => ?_)
    · have q475 : v463 = 2147483648 := q475
      have b477 := c471 (by first | decide | omega)
      refine x_const (np := 116) (x := 9223372039002259456) (a := 2147483648) (by decide +kernel) (by decide) (by decide) ?_
      have q478 : h466 62 1 = h 62 1 := f468 62 1 (by decide +kernel)
      have q479 : h466 (r1 + 11) 2 = h (r1 + 11) 2 := jK 0 f468 (rg_T11_2_0_1 t3) (by first | decide | omega) (by first | decide | omega) (by decide)
      have e480 : cl9 h466 = (h (r1 + 11) 2) := (congrArg (fun z => h466 z 2) (q478.trans q2)).trans q479
      obtain ⟨w481, e482⟩ := Tk.no c472 (by first | decide | omega)
      refine x_retI (np := 117) (x := 0) (by decide +kernel) (by decide) (Or.inr ⟨by decide +kernel, by first | decide | omega, by first | decide | omega⟩) ⟨_, rfl, (by decide), ?_⟩
      exact ⟨j467, f473, (by first | decide | omega), (fun z => by first | decide | omega), (fun z => by first | decide | omega), (absurd (Is.yes c21 (by first | decide | omega)) w481)⟩
    have q476 : ¬ (v463 = 2147483648) := q476
    have b483 := c470 (by first | decide | omega)
    refine x_aload (np := 90) (x := 0) (by decide +kernel) rfl (x_nc_le (by decide)) ?_
    refine x_iload (np := 91) (x := 1) (by decide +kernel) rfl (by decide) ?_
    refine x_const (np := 92) (x := 9223372043297226753) (a := 2147483649) (by decide +kernel) (by decide) (by decide) ?_
    refine x_iadd (np := 93) (x := 0) (v := 2147483651) (by decide +kernel) (by decide) (by decide) (by first | decide | omega) (by first | decide | omega) ?_
    have q484 : h466 62 1 = h 62 1 := f468 62 1 (by decide +kernel)
    have q485 : h466 (r1 + 11) 2 = h (r1 + 11) 2 := jK 0 f468 (rg_T11_2_0_1 t3) (by first | decide | omega) (by first | decide | omega) (by decide)
    have e486 : cl9 h466 = (h (r1 + 11) 2) := (congrArg (fun z => h466 z 2) (q484.trans q2)).trans q485
    have m490 := Tp.fr hT f468 (by decide) (by decide)
    refine x_cI (t := 6) (mj := 46) (n := 2) (rc := 4) (ml := 3) (nr := 0) (np := 96) (as := [x_r 62, iv_c 2147483651]) (rest := []) (lo1 := [x_r 62, iv_c 2147483651, 147573952589676412928]) (by decide +kernel) (by decide) (by decide +kernel) (x_rb_of (by decide +kernel)) rfl rfl (x_wr (by decide) (x_wi (by decide) x_wn)) x_wn (by decide) rfl (c46_62_c3 j467   (by first | decide | omega) m490) (fun v487 h491 l488 q489 => ?_)
    obtain ⟨j492, f493, b494, c495, c496, c497⟩ := q489
    have f498 := Fr.trans f473 f493 (by decide)
    have b499 := jB (e := 2) 0 j492 rg_1_2_0_1 (by first | decide | omega) (by first | decide | omega)
    have q500 : h466 62 1 = h 62 1 := f468 62 1 (by decide +kernel)
    have q501 : h466 (r1 + 11) 2 = h (r1 + 11) 2 := jK 0 f468 (rg_T11_2_0_1 t3) (by first | decide | omega) (by first | decide | omega) (by decide)
    have q502 : h491 62 1 = h466 62 1 := f493 62 1 (by decide +kernel)
    have q503 : h466 62 1 = h 62 1 := f468 62 1 (by decide +kernel)
    have b504 := jB (e := 2) 0 j492 (rg_T11_2_0_1 t3) (by first | decide | omega) (by first | decide | omega)
    have e505 : cl9 h491 = (h491 (r1 + 11) 2) := (congrArg (fun z => h491 z 2) ((q502.trans q503).trans q2)).trans rfl
    refine x_ifz (k := 0) (tg := 115) (np := 99) (by decide +kernel) (by decide) l488 (fun q506 => ?_) (fun q507 => ?_)
    · have q506 : v487 = 2147483648 := q506
      refine x_const (np := 116) (x := 9223372039002259456) (a := 2147483648) (by decide +kernel) (by decide) (by decide) ?_
      have q508 : h491 62 1 = h466 62 1 := f493 62 1 (by decide +kernel)
      have q509 : h466 62 1 = h 62 1 := f468 62 1 (by decide +kernel)
      obtain ⟨w510, e511⟩ := Tk.yes c472 (by first | decide | omega)
      refine x_retI (np := 117) (x := 0) (by decide +kernel) (by decide) (Or.inr ⟨by decide +kernel, by first | decide | omega, by first | decide | omega⟩) ⟨_, rfl, (by decide), ?_⟩
      exact ⟨j492, f498, (by first | decide | omega), (fun z => by first | decide | omega), (fun z => by first | decide | omega), (gA_par0 w510 rfl e511 (by decide) c497 rfl (by first | decide | omega) (by first | decide | omega))⟩
    have q507 : ¬ (v487 = 2147483648) := q507
    have b512 := c495 (by first | decide | omega)
    have b513 := c496 (by first | decide | omega)
    refine x_aload (np := 100) (x := 0) (by decide +kernel) rfl (x_nc_le (by decide)) ?_
    have q514 : h491 62 0 = 1 := by have z := jB (e := 0) 0 j492 rg_62_0_0_1 (by decide) (by decide); omega
    refine x_getR (np := 103) (x := 192) (f := 0) (q := 1) (by decide +kernel) (by decide) (by decide +kernel) q514 ?_
    refine x_const (np := 105) (x := 9223372215095918633) (a := 2147483689) (by decide +kernel) (by decide) (by decide) ?_
    have m518 := Tp.fr m490 f493 (by decide) (by decide)
    refine x_cI (t := 6) (mj := 76) (n := 2) (rc := 8) (ml := 2) (nr := 0) (np := 108) (as := [x_r 1, iv_c 2147483689]) (rest := []) (lo1 := [x_r 1, iv_c 2147483689]) (by decide +kernel) (by decide) (by decide +kernel) (x_rb_of (by decide +kernel)) rfl rfl (x_wr (by decide) (x_wi (by decide) x_wn)) x_wn (by decide) rfl (c76_1 j492  (by first | decide | omega) m518) (fun v515 h519 l516 q517 => ?_)
    obtain ⟨j520, f521, b522, c523, c524, c525⟩ := q517
    have f526 := Fr.trans f498 f521 (by decide)
    have b527 := jB (e := 2) 0 j520 rg_1_2_0_1 (by first | decide | omega) (by first | decide | omega)
    refine x_ifz (k := 0) (tg := 115) (np := 111) (by decide +kernel) (by decide) l516 (fun q528 => ?_) (fun q529 => ?_)
    · have q528 : v515 = 2147483648 := q528
      have b530 := c524 (by first | decide | omega)
      refine x_const (np := 116) (x := 9223372039002259456) (a := 2147483648) (by decide +kernel) (by decide) (by decide) ?_
      have q531 : h519 62 1 = h491 62 1 := f521 62 1 (by decide +kernel)
      have q532 : h491 62 1 = h466 62 1 := f493 62 1 (by decide +kernel)
      have q533 : h466 62 1 = h 62 1 := f468 62 1 (by decide +kernel)
      have q534 : h519 (r1 + 11) 2 = h491 (r1 + 11) 2 := jK 0 f521 (rg_T11_2_0_1 t3) (by first | decide | omega) (by first | decide | omega) (by decide)
      have e535 : cl9 h519 = (h491 (r1 + 11) 2) := (congrArg (fun z => h519 z 2) (((q531.trans q532).trans q533).trans q2)).trans q534
      obtain ⟨w536, e537⟩ := Tk.yes c472 (by first | decide | omega)
      refine x_retI (np := 117) (x := 0) (by decide +kernel) (by decide) (Or.inr ⟨by decide +kernel, by first | decide | omega, by first | decide | omega⟩) ⟨_, rfl, (by decide), ?_⟩
      exact ⟨j520, f526, (by first | decide | omega), (fun z => by first | decide | omega), (fun z => by first | decide | omega), (gA_parT w536 rfl e537 (by decide) c497 rfl (by first | decide | omega) c525 rfl (by first | decide | omega) (fun z => absurd z (by first | decide | omega)))⟩
    have q529 : ¬ (v515 = 2147483648) := q529
    have b538 := c523 (by first | decide | omega)
    refine x_const (np := 112) (x := 9223372043297226753) (a := 2147483649) (by decide +kernel) (by decide) (by decide) ?_
    refine x_goto (np := 115) (x := 116) (by decide +kernel) ?_
    have q539 : h519 62 1 = h491 62 1 := f521 62 1 (by decide +kernel)
    have q540 : h491 62 1 = h466 62 1 := f493 62 1 (by decide +kernel)
    have q541 : h466 62 1 = h 62 1 := f468 62 1 (by decide +kernel)
    have q542 : h519 (r1 + 11) 2 = h491 (r1 + 11) 2 := jK 0 f521 (rg_T11_2_0_1 t3) (by first | decide | omega) (by first | decide | omega) (by decide)
    have e543 : cl9 h519 = (h491 (r1 + 11) 2) := (congrArg (fun z => h519 z 2) (((q539.trans q540).trans q541).trans q2)).trans q542
    obtain ⟨w544, e545⟩ := Tk.yes c472 (by first | decide | omega)
    refine x_retI (np := 117) (x := 0) (by decide +kernel) (by decide) (Or.inr ⟨by decide +kernel, by first | decide | omega, by first | decide | omega⟩) ⟨_, rfl, (by decide), ?_⟩
    exact ⟨j520, f526, (by first | decide | omega), (fun z => by first | decide | omega), (fun z => by first | decide | omega), (gA_parT w544 rfl e545 (by decide) c497 rfl (by first | decide | omega) c525 rfl (by first | decide | omega) (fun z => rfl))⟩
  have q15 : ¬ (v8 = 2147483648) := q15
  have b546 := c11 (by first | decide | omega)
  refine x_iload (np := 13) (x := 1) (by decide +kernel) rfl (by decide) ?_
  refine x_const (np := 15) (x := 9223372064772063238) (a := 2147483654) (by decide +kernel) (by decide) (by decide) ?_
  refine x_icmp (k := 3) (tg := 57) (np := 18) (by decide +kernel) (by decide) (by decide) (by decide) (fun q547 => ?_) (fun q548 => ?_)
  · have q547 : 2147483654 ≤ 2147483650 := q547
    exfalso; omega
  have q548 : ¬ (2147483654 ≤ 2147483650) := q548
  refine x_aload (np := 19) (x := 0) (by decide +kernel) rfl (x_nc_le (by decide)) ?_
  have q549 : h 62 0 = 1 := by have z := jB (e := 0) 0 hJ rg_62_0_0_1 (by decide) (by decide); omega
  refine x_getR (np := 22) (x := 192) (f := 0) (q := 1) (by decide +kernel) (by decide) (by decide +kernel) q549 ?_
  refine x_ldcB (i := 24) (idx := 71) (tx := "not") (by rw [tb_y48]; exact List.mem_of_getElem? (i := 24) rfl) (by decide) (by rw [tb_b48]; decide +kernel) ?_
  refine x_cI (t := 6) (mj := 78) (n := 2) (rc := 8) (ml := 2) (nr := 0) (np := 27) (as := [x_r 1, x_b (24 + 1)]) (rest := []) (lo1 := [x_r 1, x_b (24 + 1)]) (by decide +kernel) (by decide) (by decide +kernel) (x_rb_of (by decide +kernel)) rfl rfl (x_wr (by decide) (x_wB (by decide) x_wn)) x_wn (by decide) rfl (c78_1_S0 hJ  (by decide) hT) (fun v550 h553 l551 q552 => ?_)
  obtain ⟨j554, f555, b556, c557, c558, c559⟩ := q552
  have f560 := Fr.trans hF f555 (by decide)
  have b561 := jB (e := 2) 0 j554 rg_1_2_0_1 (by first | decide | omega) (by first | decide | omega)
  have b562 : iv_tl 24 = 3 := by decide
  refine x_ifz (k := 0) (tg := 57) (np := 30) (by decide +kernel) (by decide) l551 (fun q563 => ?_) (fun q564 => ?_)
  · have q563 : v550 = 2147483648 := q563
    have b565 := c558 (by first | decide | omega)
    refine x_const (np := 58) (x := 9223372039002259456) (a := 2147483648) (by decide +kernel) (by decide) (by decide) ?_
    have q566 : h553 62 1 = h 62 1 := f555 62 1 (by decide +kernel)
    have q567 : h553 (r1 + 11) 2 = h (r1 + 11) 2 := jK 0 f555 (rg_T11_2_0_1 t3) (by first | decide | omega) (by first | decide | omega) (by decide)
    have e568 : cl9 h553 = (h (r1 + 11) 2) := (congrArg (fun z => h553 z 2) (q566.trans q2)).trans q567
    obtain ⟨w569, e570⟩ := Tk.no c559 (by first | decide | omega)
    refine x_retI (np := 59) (x := 0) (by decide +kernel) (by decide) (Or.inr ⟨by decide +kernel, by first | decide | omega, by first | decide | omega⟩) ⟨_, rfl, (by decide), ?_⟩
    exact ⟨j554, f560, (by first | decide | omega), (fun z => by first | decide | omega), (fun z => by first | decide | omega), (absurd (Is.yes c12 (by first | decide | omega)) w569)⟩
  have q564 : ¬ (v550 = 2147483648) := q564
  have b571 := c557 (by first | decide | omega)
  refine x_aload (np := 31) (x := 0) (by decide +kernel) rfl (x_nc_le (by decide)) ?_
  refine x_iload (np := 32) (x := 1) (by decide +kernel) rfl (by decide) ?_
  refine x_const (np := 33) (x := 9223372043297226753) (a := 2147483649) (by decide +kernel) (by decide) (by decide) ?_
  refine x_iadd (np := 34) (x := 0) (v := 2147483651) (by decide +kernel) (by decide) (by decide) (by first | decide | omega) (by first | decide | omega) ?_
  have q572 : h553 62 1 = h 62 1 := f555 62 1 (by decide +kernel)
  have q573 : h553 (r1 + 11) 2 = h (r1 + 11) 2 := jK 0 f555 (rg_T11_2_0_1 t3) (by first | decide | omega) (by first | decide | omega) (by decide)
  have e574 : cl9 h553 = (h (r1 + 11) 2) := (congrArg (fun z => h553 z 2) (q572.trans q2)).trans q573
  have m578 := Tp.fr hT f555 (by decide) (by decide)
  refine x_cI (t := 6) (mj := 48) (n := 2) (rc := 4) (ml := 2) (nr := 0) (np := 37) (as := [x_r 62, iv_c 2147483651]) (rest := []) (lo1 := [x_r 62, iv_c 2147483651]) (by decide +kernel) (by decide) (by decide +kernel) (x_rb_of (by decide +kernel)) rfl rfl (x_wr (by decide) (x_wi (by decide) x_wn)) x_wn (by decide) rfl (c48_62_c3 j554   (by first | decide | omega) m578) (fun v575 h579 l576 q577 => ?_)
  obtain ⟨j580, f581, b582, c583, c584, c585⟩ := q577
  have f586 := Fr.trans f560 f581 (by decide)
  have b587 := jB (e := 2) 0 j580 rg_1_2_0_1 (by first | decide | omega) (by first | decide | omega)
  have q588 : h553 62 1 = h 62 1 := f555 62 1 (by decide +kernel)
  have q589 : h553 (r1 + 11) 2 = h (r1 + 11) 2 := jK 0 f555 (rg_T11_2_0_1 t3) (by first | decide | omega) (by first | decide | omega) (by decide)
  have q590 : h579 62 1 = h553 62 1 := f581 62 1 (by decide +kernel)
  have q591 : h553 62 1 = h 62 1 := f555 62 1 (by decide +kernel)
  have b592 := jB (e := 2) 0 j580 (rg_T11_2_0_1 t3) (by first | decide | omega) (by first | decide | omega)
  have e593 : cl9 h579 = (h579 (r1 + 11) 2) := (congrArg (fun z => h579 z 2) ((q590.trans q591).trans q2)).trans rfl
  refine x_ifz (k := 0) (tg := 57) (np := 40) (by decide +kernel) (by decide) l576 (fun q594 => ?_) (fun q595 => ?_)
  · have q594 : v575 = 2147483648 := q594
    refine x_const (np := 58) (x := 9223372039002259456) (a := 2147483648) (by decide +kernel) (by decide) (by decide) ?_
    have q596 : h579 62 1 = h553 62 1 := f581 62 1 (by decide +kernel)
    have q597 : h553 62 1 = h 62 1 := f555 62 1 (by decide +kernel)
    obtain ⟨w598, e599⟩ := Tk.yes c559 (by first | decide | omega)
    refine x_retI (np := 59) (x := 0) (by decide +kernel) (by decide) (Or.inr ⟨by decide +kernel, by first | decide | omega, by first | decide | omega⟩) ⟨_, rfl, (by decide), ?_⟩
    exact ⟨j580, f586, (by first | decide | omega), (fun z => by first | decide | omega), (fun z => by first | decide | omega), (gA_not w598 rfl e599 (by decide) c585 rfl (by first | decide | omega) (fun z => absurd z (by first | decide | omega)))⟩
  have q595 : ¬ (v575 = 2147483648) := q595
  have b600 := c583 (by first | decide | omega)
  have b601 := c584 (by first | decide | omega)
  refine x_aload (np := 41) (x := 0) (by decide +kernel) rfl (x_nc_le (by decide)) ?_
  have q602 : h579 62 1 = h553 62 1 := f581 62 1 (by decide +kernel)
  have q603 : h553 62 1 = h 62 1 := f555 62 1 (by decide +kernel)
  refine x_getR (np := 44) (x := 193) (f := 1) (q := (r1 + 11)) (by decide +kernel) (by decide) (by decide +kernel) ((q602.trans q603).trans q2) ?_
  refine x_const (np := 47) (x := 9223380641821755347) (a := 2147485651) (by decide +kernel) (by decide) (by decide) ?_
  refine x_nI (t := 6) (mj := 36) (n := 2) (rc := 3) (ml := 2) (nr := 0) (np := 50) (as := [x_r (r1 + 11), iv_c 2147485651]) (rest := []) (lo1 := [x_r (r1 + 11), iv_c 2147485651]) (by decide +kernel) (by decide) (by decide +kernel) (x_rb_of (tr_11_3 t3)) rfl rfl (x_wr (tn_11 t3) (x_wi (by decide) x_wn)) x_wn (by decide) rfl ?_
  refine x_aload (np := 1) (x := 0) (by decide +kernel) rfl (x_nc_le (tn_11 t3)) ?_
  refine x_getC (np := 4) (x := 130) (f := 2) (q := (h579 (r1 + 11) 2)) (by decide +kernel) (by decide) (tg_11_130_2_0 t3) rfl (fun l604 => ?_)
  refine x_const (np := 7) (x := 9223373756989178256) (a := 2147484048) (by decide +kernel) (by decide) (by decide) ?_
  refine x_icmp (k := 2) (tg := 12) (np := 10) (by decide +kernel) (by decide) l604 (by decide) (fun q605 => ?_) (fun q606 => ?_)
  · have q605 : (h579 (r1 + 11) 2) < 2147484048 := q605
    refine x_aload (np := 13) (x := 0) (by decide +kernel) rfl (x_nc_le (tn_11 t3)) ?_
    have q607 : h579 (r1 + 11) 0 = (r1 + 12) := tf_11_0 j580 t3
    refine x_getR (np := 16) (x := 128) (f := 0) (q := (r1 + 12)) (by decide +kernel) (by decide) (tg_11_128_0_1 t3) q607 ?_
    refine x_aload (np := 17) (x := 0) (by decide +kernel) rfl (x_nc_le (tn_11 t3)) ?_
    refine x_getC (np := 20) (x := 130) (f := 2) (q := (h579 (r1 + 11) 2)) (by decide +kernel) (by decide) (tg_11_130_2_0 t3) rfl (fun l608 => ?_)
    refine x_iload (np := 21) (x := 1) (by decide +kernel) rfl (by decide) ?_
    obtain ⟨u609, q610⟩ : ∃ z, (h579 (r1 + 11) 2) = 2147483648 + z := ⟨(h579 (r1 + 11) 2) - 2147483648, by first | decide | omega⟩
    refine x_ast (np := 22) (x := 0) (kd := 1) (n := 400) (i := u609) (by decide +kernel) (Or.inl rfl) (ta_12_400 t3) (by first | decide | omega) (by first | decide | omega) (by decide) (by decide) (fun z => absurd z (by decide)) ?_
    have j612 := jU (e := u609) (v := 2147485651) u609 j580 (rg_T12_0_1_400 t3) (by first | decide | omega) (by first | decide | omega) (by first | decide | omega)
    have f614 := jF (e := u609) (v := 2147485651) u609 f586 (rg_T12_0_1_400 t3) (by first | decide | omega) (by first | decide | omega) (by decide)
    generalize e613 : x_up h579 (r1 + 12) u609 2147485651 = h611 at j612 f614 ⊢
    refine x_aload (np := 23) (x := 0) (by decide +kernel) rfl (x_nc_le (tn_11 t3)) ?_
    refine x_dup (np := 24) (x := 0) (by decide +kernel) (by have z := x_nc_le (k := (r1 + 11)) (tn_11 t3); unfold x_r; omega) ?_
    have q615 : h611 (r1 + 11) 2 = h579 (r1 + 11) 2 := by rw [← e613]; exact x_up_k tof_11_12
    refine x_getC (np := 27) (x := 130) (f := 2) (q := (h579 (r1 + 11) 2)) (by decide +kernel) (by decide) (tg_11_130_2_0 t3) q615 (fun l616 => ?_)
    refine x_const (np := 28) (x := 9223372043297226753) (a := 2147483649) (by decide +kernel) (by decide) (by decide) ?_
    refine x_iadd (np := 29) (x := 0) (v := (1 + (h579 (r1 + 11) 2))) (by decide +kernel) l604 (by decide) (by first | decide | omega) (by first | decide | omega) ?_
    refine x_putI (np := 32) (x := 130) (f := 2) (by decide +kernel) (tg_11_130_2_0 t3) (by first | decide | omega) (Or.inl (by decide)) ?_
    have j618 := jU (e := 2) (v := (1 + (h579 (r1 + 11) 2))) 0 j612 (rg_T11_2_0_1 t3) (by first | decide | omega) (by first | decide | omega) (by first | decide | omega)
    have f620 := jF (e := 2) (v := (1 + (h579 (r1 + 11) 2))) 0 f614 (rg_T11_2_0_1 t3) (by first | decide | omega) (by first | decide | omega) (by decide)
    generalize e619 : x_up h611 (r1 + 11) 2 (1 + (h579 (r1 + 11) 2)) = h617 at j618 f620 ⊢
    refine x_const (np := 33) (x := 9223372043297226753) (a := 2147483649) (by decide +kernel) (by decide) (by decide) ?_
    refine x_retI (np := 34) (x := 0) (by decide +kernel) (by decide) (Or.inr ⟨by decide +kernel, by first | decide | omega, by first | decide | omega⟩) ⟨_, rfl, (by decide), ?_⟩
    refine x_ifz (k := 0) (tg := 57) (np := 53) (by decide +kernel) (by decide) (by decide) (fun q621 => ?_) (fun q622 => ?_)
    · have q621 : 2147483649 = 2147483648 := q621
      exfalso; omega
    have q622 : ¬ (2147483649 = 2147483648) := q622
    refine x_const (np := 54) (x := 9223372043297226753) (a := 2147483649) (by decide +kernel) (by decide) (by decide) ?_
    refine x_goto (np := 57) (x := 58) (by decide +kernel) ?_
    have q623 : h617 1 2 = h611 1 2 := by rw [← e619]; exact x_up_k (Ne.symm (tne_11_1 t3))
    have q624 : h611 1 2 = h579 1 2 := by rw [← e613]; exact x_up_k (Ne.symm (tne_12_1 t3))
    have q625 : h617 62 1 = h611 62 1 := by rw [← e619]; exact x_up_k (Ne.symm (tne_11_62 t3))
    have q626 : h611 62 1 = h579 62 1 := by rw [← e613]; exact x_up_k (Ne.symm (tne_12_62 t3))
    have q627 : h579 62 1 = h553 62 1 := f581 62 1 (by decide +kernel)
    have q628 : h553 62 1 = h 62 1 := f555 62 1 (by decide +kernel)
    have q629 : h617 (r1 + 11) 2 = (1 + (h579 (r1 + 11) 2)) := by rw [← e619]; exact x_up_at
    have e630 : cl9 h617 = (1 + (h579 (r1 + 11) 2)) := (congrArg (fun z => h617 z 2) ((((q625.trans q626).trans q627).trans q628).trans q2)).trans q629
    have q631 : h617 1 2 = h611 1 2 := by rw [← e619]; exact x_up_k (Ne.symm (tne_11_1 t3))
    have q632 : h611 1 2 = h579 1 2 := by rw [← e613]; exact x_up_k (Ne.symm (tne_12_1 t3))
    obtain ⟨w633, e634⟩ := Tk.yes c559 (by first | decide | omega)
    have q635 : h617 1 2 = h611 1 2 := by rw [← e619]; exact x_up_k (Ne.symm (tne_11_1 t3))
    have q636 : h611 1 2 = h579 1 2 := by rw [← e613]; exact x_up_k (Ne.symm (tne_12_1 t3))
    refine x_retI (np := 59) (x := 0) (by decide +kernel) (by decide) (Or.inr ⟨by decide +kernel, by first | decide | omega, by first | decide | omega⟩) ⟨_, rfl, (by decide), ?_⟩
    exact ⟨j618, f620, (by first | decide | omega), (fun z => by first | decide | omega), (fun z => by first | decide | omega), (gA_not w633 rfl e634 (by decide) c585 rfl (by first | decide | omega) (fun z => (show h579 1 2 = h617 1 2 by first | decide | omega)))⟩
  have q606 : ¬ ((h579 (r1 + 11) 2) < 2147484048) := q606
  refine x_const (np := 11) (x := 9223372039002259456) (a := 2147483648) (by decide +kernel) (by decide) (by decide) ?_
  refine x_retI (np := 12) (x := 0) (by decide +kernel) (by decide) (Or.inr ⟨by decide +kernel, by first | decide | omega, by first | decide | omega⟩) ⟨_, rfl, (by decide), ?_⟩
  refine x_ifz (k := 0) (tg := 57) (np := 53) (by decide +kernel) (by decide) (by decide) (fun q637 => ?_) (fun q638 => ?_)
  · have q637 : 2147483648 = 2147483648 := q637
    refine x_const (np := 58) (x := 9223372039002259456) (a := 2147483648) (by decide +kernel) (by decide) (by decide) ?_
    have q639 : h579 62 1 = h553 62 1 := f581 62 1 (by decide +kernel)
    have q640 : h553 62 1 = h 62 1 := f555 62 1 (by decide +kernel)
    obtain ⟨w641, e642⟩ := Tk.yes c559 (by first | decide | omega)
    refine x_retI (np := 59) (x := 0) (by decide +kernel) (by decide) (Or.inr ⟨by decide +kernel, by first | decide | omega, by first | decide | omega⟩) ⟨_, rfl, (by decide), ?_⟩
    exact ⟨j580, f586, (by first | decide | omega), (fun z => by first | decide | omega), (fun z => by first | decide | omega), (gA_not w641 rfl e642 (by decide) c585 rfl (by first | decide | omega) (fun z => rfl))⟩
  have q638 : ¬ (2147483648 = 2147483648) := q638
  exfalso; omega
