/-! ===== methods ===== -/
set_option maxHeartbeats 0 in
/-- LentNames$CustomReader.readAll(I)Z -/
theorem c47_62_c0 {sc : Nat × Nat} {d  : Nat} {h : xh} {tB : Nat → Nat} {tN : Nat} (hJ : J h) (hr0 : (cl9 h) + 5 ≤ (h 1 2)) (hT : Tp tB tN h) : X sc 47 (d + 27) (xI fun r h' => J h' ∧ Fr 161 h h' ∧ (2147483648 ≤ r ∧ r ≤ 2147483649) ∧ (r = 2147483649 → h 1 2 + 1 ≤ h' 1 2) ∧ (r = 2147483649 → cl9 h' + h 1 2 ≤ h' 1 2 + cl9 h) ∧ G tB tN (Kd.seq 1) 0 (h 1 2) (rs r (h' 1 2)) ∧ (r = 2147483648 → GF tB tN (Kd.seq 1) 0 (h 1 2) (h' 1 2))) 0 0 0 [x_r 62, iv_c 2147483648, 147573952589676412928] [] h := by
  have hF := Fr.refl 161 h
  obtain ⟨r1, q2, t3⟩ : ∃ z, (h 62 1) = z + 11 ∧ tw z := by
    rcases hJ.2.2.2.2.2.2.2 with z | z
    · exact ⟨17, by rw [z], Or.inl rfl⟩
    · exact ⟨31, by rw [z], Or.inr rfl⟩
  have b4 := jB (e := 2) 0 hJ (rg_T11_2_0_1 t3) (by first | decide | omega) (by first | decide | omega)
  have e5 : cl9 h = (h (r1 + 11) 2) := (congrArg (fun z => h z 2) q2).trans rfl
  have b6 := jB (e := 2) 0 hJ rg_1_2_0_1 (by first | decide | omega) (by first | decide | omega)
  refine x_aload (np := 1) (x := 0) (by decide +kernel) rfl (x_nc_le (by decide)) ?_
  refine x_iload (np := 2) (x := 1) (by decide +kernel) rfl (by decide) ?_
  refine x_cI (t := 6) (mj := 48) (n := 2) (rc := 4) (ml := 2) (nr := 0) (np := 5) (as := [x_r 62, iv_c 2147483648]) (rest := []) (lo1 := [x_r 62, iv_c 2147483648]) (by decide +kernel) (by decide) (by decide +kernel) (x_rb_of (by decide +kernel)) rfl rfl (x_wr (by decide) (x_wi (by decide) x_wn)) x_wn (by decide) rfl (c48_62_c0 hJ   (by first | decide | omega) hT) (fun v7 h10 l8 q9 => ?_)
  obtain ⟨j11, f12, b13, c14, c15, c16, c17⟩ := q9
  have f18 := Fr.trans hF f12 (by decide)
  have b19 := jB (e := 2) 0 j11 rg_1_2_0_1 (by first | decide | omega) (by first | decide | omega)
  have q20 : h10 62 1 = h 62 1 := f12 62 1 (by decide +kernel)
  have b21 := jB (e := 2) 0 j11 (rg_T11_2_0_1 t3) (by first | decide | omega) (by first | decide | omega)
  have e22 : cl9 h10 = (h10 (r1 + 11) 2) := (congrArg (fun z => h10 z 2) (q20.trans q2)).trans rfl
  refine x_ifz (k := 1) (tg := 10) (np := 8) (by decide +kernel) (by decide) l8 (fun q23 => ?_) (fun q24 => ?_)
  · have q23 : v7 ≠ 2147483648 := q23
    have b25 := c14 (by first | decide | omega)
    have b26 := c15 (by first | decide | omega)
    refine x_const (np := 11) (x := 9223372039002259456) (a := 2147483648) (by decide +kernel) (by decide) (by decide) ?_
    refine x_istore (np := 12) (x := 2) (lo' := [x_r 62, iv_c 2147483648, iv_c 2147483648]) (by decide +kernel) (by decide) (Nat.le_of_ble_eq_true rfl) rfl ?_
    have p2088 : ∀ (n : Nat) (v2083 : Nat) (h2085 : xh), 4294967296 - v2083 < n → (2147483648 ≤ v2083 ∧ v2083 ≤ 2147484047) → cl9 h2085 + h 1 2 ≤ h2085 1 2 + cl9 h → h 1 2 + 1 ≤ h2085 1 2 → v2083 ≤ h2085 1 2 → J h2085 → Fr 161 h10 h2085 → Res tB tN (Kd.lp 1) 0 (h2085 1 2) (Kd.seq 1) 0 (h 1 2) → ResF tB tN (Kd.lp 1) 0 (h2085 1 2) (Kd.seq 1) 0 (h 1 2) → X sc 47 (d + 27) (xI fun r h' => J h' ∧ Fr 161 h h' ∧ (2147483648 ≤ r ∧ r ≤ 2147483649) ∧ (r = 2147483649 → h 1 2 + 1 ≤ h' 1 2) ∧ (r = 2147483649 → cl9 h' + h 1 2 ≤ h' 1 2 + cl9 h) ∧ G tB tN (Kd.seq 1) 0 (h 1 2) (rs r (h' 1 2)) ∧ (r = 2147483648 → GF tB tN (Kd.seq 1) 0 (h 1 2) (h' 1 2))) 0 0 12 [x_r 62, iv_c 2147483648, iv_c v2083] [] h2085 := by
      intro n
      induction n with
      | zero => intro v2083 h2085 q2094; exact absurd q2094 (Nat.not_lt_zero _)
      | succ n i2095 =>
        intro v2083 h2085 q2094 b2084 b2089 b2090 b2091 j2087 f2086 m2092 m2093
        have f2096 := Fr.trans f18 f2086 (by decide)
        have b2097 := jB (e := 2) 0 j2087 rg_1_2_0_1 (by first | decide | omega) (by first | decide | omega)
        have q2098 : h2085 62 1 = h10 62 1 := f2086 62 1 (by decide +kernel)
        have q2099 : h10 62 1 = h 62 1 := f12 62 1 (by decide +kernel)
        have b2100 := jB (e := 2) 0 j2087 (rg_T11_2_0_1 t3) (by first | decide | omega) (by first | decide | omega)
        have e2101 : cl9 h2085 = (h2085 (r1 + 11) 2) := (congrArg (fun z => h2085 z 2) ((q2098.trans q2099).trans q2)).trans rfl
        refine x_iload (np := 13) (x := 2) (by decide +kernel) rfl (by first | decide | omega) ?_
        refine x_const (np := 16) (x := 9223373756989178256) (a := 2147484048) (by decide +kernel) (by decide) (by decide) ?_
        refine x_icmp (k := 3) (tg := 60) (np := 19) (by decide +kernel) (by decide) (by first | decide | omega) (by decide) (fun q2102 => ?_) (fun q2103 => ?_)
        · have q2102 : 2147484048 ≤ v2083 := q2102
          exfalso; omega
        have q2103 : ¬ (2147484048 ≤ v2083) := q2103
        refine x_aload (np := 20) (x := 0) (by decide +kernel) rfl (x_nc_le (by decide)) ?_
        have q2104 : h2085 62 0 = 1 := by have z := jB (e := 0) 0 j2087 rg_62_0_0_1 (by decide) (by decide); omega
        refine x_getR (np := 23) (x := 192) (f := 0) (q := 1) (by decide +kernel) (by decide) (by decide +kernel) q2104 ?_
        refine x_ldcB (i := 31) (idx := 69) (tx := "and") (by rw [tb_y47]; exact List.mem_of_getElem? (i := 33) rfl) (by decide) (by rw [tb_b47]; decide +kernel) ?_
        have m2109 := Tp.fr hT f12 (by decide) (by decide)
        have m2108 := Tp.fr m2109 f2086 (by decide) (by decide)
        refine x_cI (t := 6) (mj := 78) (n := 2) (rc := 8) (ml := 2) (nr := 0) (np := 28) (as := [x_r 1, x_b (31 + 1)]) (rest := []) (lo1 := [x_r 1, x_b (31 + 1)]) (by decide +kernel) (by decide) (by decide +kernel) (x_rb_of (by decide +kernel)) rfl rfl (x_wr (by decide) (x_wB (by decide) x_wn)) x_wn (by decide) rfl (c78_1_S0 j2087  (by decide) m2108) (fun v2105 h2110 l2106 q2107 => ?_)
        obtain ⟨j2111, f2112, b2113, c2114, c2115, c2116⟩ := q2107
        have f2117 := Fr.trans f2096 f2112 (by decide)
        have f2118 := Fr.trans f2086 f2112 (by decide)
        have b2119 := jB (e := 2) 0 j2111 rg_1_2_0_1 (by first | decide | omega) (by first | decide | omega)
        have b2120 : iv_tl 31 = 3 := by decide
        refine x_ifz (k := 0) (tg := 60) (np := 31) (by decide +kernel) (by decide) l2106 (fun q2121 => ?_) (fun q2122 => ?_)
        · have q2121 : v2105 = 2147483648 := q2121
          have b2123 := c2115 (by first | decide | omega)
          refine x_const (np := 61) (x := 9223372043297226753) (a := 2147483649) (by decide +kernel) (by decide) (by decide) ?_
          have q2124 : h2110 62 1 = h2085 62 1 := f2112 62 1 (by decide +kernel)
          have q2125 : h2085 62 1 = h10 62 1 := f2086 62 1 (by decide +kernel)
          have q2126 : h10 62 1 = h 62 1 := f12 62 1 (by decide +kernel)
          have q2127 : h2110 (r1 + 11) 2 = h2085 (r1 + 11) 2 := jK 0 f2112 (rg_T11_2_0_1 t3) (by first | decide | omega) (by first | decide | omega) (by decide)
          have e2128 : cl9 h2110 = (h2085 (r1 + 11) 2) := (congrArg (fun z => h2110 z 2) (((q2124.trans q2125).trans q2126).trans q2)).trans q2127
          obtain ⟨w2129, e2130⟩ := Tk.no c2116 (by first | decide | omega)
          refine x_retI (np := 62) (x := 0) (by decide +kernel) (by decide) (Or.inr ⟨by decide +kernel, by first | decide | omega, by first | decide | omega⟩) ⟨_, rfl, (by decide), ?_⟩
          exact ⟨j2111, f2117, (by first | decide | omega), (fun z => by first | decide | omega), (fun z => by first | decide | omega), (gQ_e (t := 1) m2092 w2129 rfl (by first | decide | omega) (show h2085 1 2 = h2110 1 2 by first | decide | omega)), (fun z => absurd z (by first | decide | omega))⟩
        have q2122 : ¬ (v2105 = 2147483648) := q2122
        have b2131 := c2114 (by first | decide | omega)
        refine x_aload (np := 32) (x := 0) (by decide +kernel) rfl (x_nc_le (by decide)) ?_
        refine x_iload (np := 33) (x := 1) (by decide +kernel) rfl (by decide) ?_
        have q2132 : h2110 62 1 = h2085 62 1 := f2112 62 1 (by decide +kernel)
        have q2133 : h2085 62 1 = h10 62 1 := f2086 62 1 (by decide +kernel)
        have q2134 : h10 62 1 = h 62 1 := f12 62 1 (by decide +kernel)
        have q2135 : h2110 (r1 + 11) 2 = h2085 (r1 + 11) 2 := jK 0 f2112 (rg_T11_2_0_1 t3) (by first | decide | omega) (by first | decide | omega) (by decide)
        have e2136 : cl9 h2110 = (h2085 (r1 + 11) 2) := (congrArg (fun z => h2110 z 2) (((q2132.trans q2133).trans q2134).trans q2)).trans q2135
        have m2140 := Tp.fr m2108 f2112 (by decide) (by decide)
        refine x_cI (t := 6) (mj := 48) (n := 2) (rc := 4) (ml := 2) (nr := 0) (np := 36) (as := [x_r 62, iv_c 2147483648]) (rest := []) (lo1 := [x_r 62, iv_c 2147483648]) (by decide +kernel) (by decide) (by decide +kernel) (x_rb_of (by decide +kernel)) rfl rfl (x_wr (by decide) (x_wi (by decide) x_wn)) x_wn (by decide) rfl (c48_62_c0 j2111   (by first | decide | omega) m2140) (fun v2137 h2141 l2138 q2139 => ?_)
        obtain ⟨j2142, f2143, b2144, c2145, c2146, c2147, c2148⟩ := q2139
        have f2149 := Fr.trans f2117 f2143 (by decide)
        have f2150 := Fr.trans f2118 f2143 (by decide)
        have b2151 := jB (e := 2) 0 j2142 rg_1_2_0_1 (by first | decide | omega) (by first | decide | omega)
        have q2152 : h2110 62 1 = h2085 62 1 := f2112 62 1 (by decide +kernel)
        have q2153 : h2085 62 1 = h10 62 1 := f2086 62 1 (by decide +kernel)
        have q2154 : h10 62 1 = h 62 1 := f12 62 1 (by decide +kernel)
        have q2155 : h2110 (r1 + 11) 2 = h2085 (r1 + 11) 2 := jK 0 f2112 (rg_T11_2_0_1 t3) (by first | decide | omega) (by first | decide | omega) (by decide)
        have q2156 : h2141 62 1 = h2110 62 1 := f2143 62 1 (by decide +kernel)
        have q2157 : h2110 62 1 = h2085 62 1 := f2112 62 1 (by decide +kernel)
        have q2158 : h2085 62 1 = h10 62 1 := f2086 62 1 (by decide +kernel)
        have q2159 : h10 62 1 = h 62 1 := f12 62 1 (by decide +kernel)
        have b2160 := jB (e := 2) 0 j2142 (rg_T11_2_0_1 t3) (by first | decide | omega) (by first | decide | omega)
        have e2161 : cl9 h2141 = (h2141 (r1 + 11) 2) := (congrArg (fun z => h2141 z 2) ((((q2156.trans q2157).trans q2158).trans q2159).trans q2)).trans rfl
        refine x_ifz (k := 0) (tg := 52) (np := 39) (by decide +kernel) (by decide) l2138 (fun q2162 => ?_) (fun q2163 => ?_)
        · have q2162 : v2137 = 2147483648 := q2162
          refine x_const (np := 53) (x := 9223372039002259456) (a := 2147483648) (by decide +kernel) (by decide) (by decide) ?_
          have q2164 : h2141 62 1 = h2110 62 1 := f2143 62 1 (by decide +kernel)
          have q2165 : h2110 62 1 = h2085 62 1 := f2112 62 1 (by decide +kernel)
          have q2166 : h2085 62 1 = h10 62 1 := f2086 62 1 (by decide +kernel)
          have q2167 : h10 62 1 = h 62 1 := f12 62 1 (by decide +kernel)
          obtain ⟨w2168, e2169⟩ := Tk.yes c2116 (by first | decide | omega)
          obtain ⟨w2170, e2171⟩ := Tk.yes c2116 (by first | decide | omega)
          refine x_retI (np := 54) (x := 0) (by decide +kernel) (by decide) (Or.inr ⟨by decide +kernel, by first | decide | omega, by first | decide | omega⟩) ⟨_, rfl, (by decide), ?_⟩
          exact ⟨j2142, f2149, (by first | decide | omega), (fun z => by first | decide | omega), (fun z => by first | decide | omega), (gQ_f (t := 1) m2092 w2168 rfl e2169 c2147 rfl (by first | decide | omega) (by first | decide | omega)), (fun _ => fQ_f (t := 1) m2093 w2170 rfl e2171 (c2148 (by first | decide | omega)) rfl rfl)⟩
        have q2163 : ¬ (v2137 = 2147483648) := q2163
        have b2172 := c2145 (by first | decide | omega)
        have b2173 := c2146 (by first | decide | omega)
        refine x_aload (np := 40) (x := 0) (by decide +kernel) rfl (x_nc_le (by decide)) ?_
        have q2174 : h2141 62 1 = h2110 62 1 := f2143 62 1 (by decide +kernel)
        have q2175 : h2110 62 1 = h2085 62 1 := f2112 62 1 (by decide +kernel)
        have q2176 : h2085 62 1 = h10 62 1 := f2086 62 1 (by decide +kernel)
        have q2177 : h10 62 1 = h 62 1 := f12 62 1 (by decide +kernel)
        refine x_getR (np := 43) (x := 193) (f := 1) (q := (r1 + 11)) (by decide +kernel) (by decide) (by decide +kernel) ((((q2174.trans q2175).trans q2176).trans q2177).trans q2) ?_
        refine x_const (np := 46) (x := 9223380646116722644) (a := 2147485652) (by decide +kernel) (by decide) (by decide) ?_
        refine x_nI (t := 6) (mj := 36) (n := 2) (rc := 3) (ml := 2) (nr := 0) (np := 49) (as := [x_r (r1 + 11), iv_c 2147485652]) (rest := []) (lo1 := [x_r (r1 + 11), iv_c 2147485652]) (by decide +kernel) (by decide) (by decide +kernel) (x_rb_of (tr_11_3 t3)) rfl rfl (x_wr (tn_11 t3) (x_wi (by decide) x_wn)) x_wn (by decide) rfl ?_
        refine x_aload (np := 1) (x := 0) (by decide +kernel) rfl (x_nc_le (tn_11 t3)) ?_
        refine x_getC (np := 4) (x := 130) (f := 2) (q := (h2141 (r1 + 11) 2)) (by decide +kernel) (by decide) (tg_11_130_2_0 t3) rfl (fun l2178 => ?_)
        refine x_const (np := 7) (x := 9223373756989178256) (a := 2147484048) (by decide +kernel) (by decide) (by decide) ?_
        refine x_icmp (k := 2) (tg := 12) (np := 10) (by decide +kernel) (by decide) l2178 (by decide) (fun q2179 => ?_) (fun q2180 => ?_)
        · have q2179 : (h2141 (r1 + 11) 2) < 2147484048 := q2179
          refine x_aload (np := 13) (x := 0) (by decide +kernel) rfl (x_nc_le (tn_11 t3)) ?_
          have q2181 : h2141 (r1 + 11) 0 = (r1 + 12) := tf_11_0 j2142 t3
          refine x_getR (np := 16) (x := 128) (f := 0) (q := (r1 + 12)) (by decide +kernel) (by decide) (tg_11_128_0_1 t3) q2181 ?_
          refine x_aload (np := 17) (x := 0) (by decide +kernel) rfl (x_nc_le (tn_11 t3)) ?_
          refine x_getC (np := 20) (x := 130) (f := 2) (q := (h2141 (r1 + 11) 2)) (by decide +kernel) (by decide) (tg_11_130_2_0 t3) rfl (fun l2182 => ?_)
          refine x_iload (np := 21) (x := 1) (by decide +kernel) rfl (by decide) ?_
          obtain ⟨u2183, q2184⟩ : ∃ z, (h2141 (r1 + 11) 2) = 2147483648 + z := ⟨(h2141 (r1 + 11) 2) - 2147483648, by first | decide | omega⟩
          refine x_ast (np := 22) (x := 0) (kd := 1) (n := 400) (i := u2183) (by decide +kernel) (Or.inl rfl) (ta_12_400 t3) (by first | decide | omega) (by first | decide | omega) (by decide) (by decide) (fun z => absurd z (by decide)) ?_
          have j2186 := jU (e := u2183) (v := 2147485652) u2183 j2142 (rg_T12_0_1_400 t3) (by first | decide | omega) (by first | decide | omega) (by first | decide | omega)
          have f2188 := jF (e := u2183) (v := 2147485652) u2183 f2149 (rg_T12_0_1_400 t3) (by first | decide | omega) (by first | decide | omega) (by decide)
          have f2189 := jF (e := u2183) (v := 2147485652) u2183 f2150 (rg_T12_0_1_400 t3) (by first | decide | omega) (by first | decide | omega) (by decide)
          generalize e2187 : x_up h2141 (r1 + 12) u2183 2147485652 = h2185 at j2186 f2188 f2189 ⊢
          refine x_aload (np := 23) (x := 0) (by decide +kernel) rfl (x_nc_le (tn_11 t3)) ?_
          refine x_dup (np := 24) (x := 0) (by decide +kernel) (by have z := x_nc_le (k := (r1 + 11)) (tn_11 t3); unfold x_r; omega) ?_
          have q2190 : h2185 (r1 + 11) 2 = h2141 (r1 + 11) 2 := by rw [← e2187]; exact x_up_k tof_11_12
          refine x_getC (np := 27) (x := 130) (f := 2) (q := (h2141 (r1 + 11) 2)) (by decide +kernel) (by decide) (tg_11_130_2_0 t3) q2190 (fun l2191 => ?_)
          refine x_const (np := 28) (x := 9223372043297226753) (a := 2147483649) (by decide +kernel) (by decide) (by decide) ?_
          refine x_iadd (np := 29) (x := 0) (v := (1 + (h2141 (r1 + 11) 2))) (by decide +kernel) l2178 (by decide) (by first | decide | omega) (by first | decide | omega) ?_
          refine x_putI (np := 32) (x := 130) (f := 2) (by decide +kernel) (tg_11_130_2_0 t3) (by first | decide | omega) (Or.inl (by decide)) ?_
          have j2193 := jU (e := 2) (v := (1 + (h2141 (r1 + 11) 2))) 0 j2186 (rg_T11_2_0_1 t3) (by first | decide | omega) (by first | decide | omega) (by first | decide | omega)
          have f2195 := jF (e := 2) (v := (1 + (h2141 (r1 + 11) 2))) 0 f2188 (rg_T11_2_0_1 t3) (by first | decide | omega) (by first | decide | omega) (by decide)
          have f2196 := jF (e := 2) (v := (1 + (h2141 (r1 + 11) 2))) 0 f2189 (rg_T11_2_0_1 t3) (by first | decide | omega) (by first | decide | omega) (by decide)
          generalize e2194 : x_up h2185 (r1 + 11) 2 (1 + (h2141 (r1 + 11) 2)) = h2192 at j2193 f2195 f2196 ⊢
          refine x_const (np := 33) (x := 9223372043297226753) (a := 2147483649) (by decide +kernel) (by decide) (by decide) ?_
          refine x_retI (np := 34) (x := 0) (by decide +kernel) (by decide) (Or.inr ⟨by decide +kernel, by first | decide | omega, by first | decide | omega⟩) ⟨_, rfl, (by decide), ?_⟩
          refine x_ifz (k := 1) (tg := 54) (np := 52) (by decide +kernel) (by decide) (by decide) (fun q2197 => ?_) (fun q2198 => ?_)
          · have q2197 : 2147483649 ≠ 2147483648 := q2197
            refine x_iinc (np := 57) (i := 2) (j := 2147483649) (v := (1 + v2083)) (lo' := [x_r 62, iv_c 2147483648, iv_c (1 + v2083)]) (by decide +kernel) (by decide) (by decide) rfl (by first | decide | omega) (by first | decide | omega) (by first | decide | omega) rfl ?_
            refine x_goto (np := 60) (x := 12) (by decide +kernel) ?_
            have q2199 : h2192 1 2 = h2185 1 2 := by rw [← e2194]; exact x_up_k (Ne.symm (tne_11_1 t3))
            have q2200 : h2185 1 2 = h2141 1 2 := by rw [← e2187]; exact x_up_k (Ne.symm (tne_12_1 t3))
            have q2201 : h2192 62 1 = h2185 62 1 := by rw [← e2194]; exact x_up_k (Ne.symm (tne_11_62 t3))
            have q2202 : h2185 62 1 = h2141 62 1 := by rw [← e2187]; exact x_up_k (Ne.symm (tne_12_62 t3))
            have q2203 : h2141 62 1 = h2110 62 1 := f2143 62 1 (by decide +kernel)
            have q2204 : h2110 62 1 = h2085 62 1 := f2112 62 1 (by decide +kernel)
            have q2205 : h2085 62 1 = h10 62 1 := f2086 62 1 (by decide +kernel)
            have q2206 : h10 62 1 = h 62 1 := f12 62 1 (by decide +kernel)
            have q2207 : h2192 (r1 + 11) 2 = (1 + (h2141 (r1 + 11) 2)) := by rw [← e2194]; exact x_up_at
            have e2208 : cl9 h2192 = (1 + (h2141 (r1 + 11) 2)) := (congrArg (fun z => h2192 z 2) ((((((q2201.trans q2202).trans q2203).trans q2204).trans q2205).trans q2206).trans q2)).trans q2207
            obtain ⟨w2209, e2210⟩ := Tk.yes c2116 (by first | decide | omega)
            have q2211 : h2192 1 2 = h2185 1 2 := by rw [← e2194]; exact x_up_k (Ne.symm (tne_11_1 t3))
            have q2212 : h2185 1 2 = h2141 1 2 := by rw [← e2187]; exact x_up_k (Ne.symm (tne_12_1 t3))
            obtain ⟨w2213, e2214⟩ := Tk.yes c2116 (by first | decide | omega)
            have q2215 : h2192 1 2 = h2185 1 2 := by rw [← e2194]; exact x_up_k (Ne.symm (tne_11_1 t3))
            have q2216 : h2185 1 2 = h2141 1 2 := by rw [← e2187]; exact x_up_k (Ne.symm (tne_12_1 t3))
            exact i2095 (1 + v2083) h2192 (by first | decide | omega) (by first | decide | omega) (by first | decide | omega) (by first | decide | omega) (by first | decide | omega) j2193 f2196 (gQ_st (t := 1) m2092 w2209 rfl e2210 c2147 rfl (by first | decide | omega) (show h2141 1 2 = h2192 1 2 by first | decide | omega)) (fQ_st (t := 1) m2093 w2213 rfl e2214 c2147 rfl (by first | decide | omega) (show h2141 1 2 = h2192 1 2 by first | decide | omega))
          have q2198 : ¬ (2147483649 ≠ 2147483648) := q2198
          exfalso; omega
        have q2180 : ¬ ((h2141 (r1 + 11) 2) < 2147484048) := q2180
        refine x_const (np := 11) (x := 9223372039002259456) (a := 2147483648) (by decide +kernel) (by decide) (by decide) ?_
        refine x_retI (np := 12) (x := 0) (by decide +kernel) (by decide) (Or.inr ⟨by decide +kernel, by first | decide | omega, by first | decide | omega⟩) ⟨_, rfl, (by decide), ?_⟩
        refine x_ifz (k := 1) (tg := 54) (np := 52) (by decide +kernel) (by decide) (by decide) (fun q2217 => ?_) (fun q2218 => ?_)
        · have q2217 : 2147483648 ≠ 2147483648 := q2217
          exfalso; omega
        have q2218 : ¬ (2147483648 ≠ 2147483648) := q2218
        refine x_const (np := 53) (x := 9223372039002259456) (a := 2147483648) (by decide +kernel) (by decide) (by decide) ?_
        have q2219 : h2141 62 1 = h2110 62 1 := f2143 62 1 (by decide +kernel)
        have q2220 : h2110 62 1 = h2085 62 1 := f2112 62 1 (by decide +kernel)
        have q2221 : h2085 62 1 = h10 62 1 := f2086 62 1 (by decide +kernel)
        have q2222 : h10 62 1 = h 62 1 := f12 62 1 (by decide +kernel)
        obtain ⟨w2223, e2224⟩ := Tk.yes c2116 (by first | decide | omega)
        obtain ⟨w2225, e2226⟩ := Tk.yes c2116 (by first | decide | omega)
        refine x_retI (np := 54) (x := 0) (by decide +kernel) (by decide) (Or.inr ⟨by decide +kernel, by first | decide | omega, by first | decide | omega⟩) ⟨_, rfl, (by decide), ?_⟩
        exact ⟨j2142, f2149, (by first | decide | omega), (fun z => by first | decide | omega), (fun z => by first | decide | omega), (gQ_f (t := 1) m2092 w2223 rfl e2224 c2147 rfl (by first | decide | omega) (by first | decide | omega)), (fun _ => fQ_f (t := 1) m2093 w2225 rfl e2226 (c2148 (by first | decide | omega)) rfl rfl)⟩
    have q2227 : h10 62 1 = h 62 1 := f12 62 1 (by decide +kernel)
    exact p2088 _ 2147483648 h10 (Nat.lt_succ_self _) (by first | decide | omega) (by first | decide | omega) (by first | decide | omega) (by first | decide | omega) j11 (Fr.refl _ _) (gQ_in (t := 1) c16 rfl (by first | decide | omega) rfl) (fQ_in (t := 1) c16 rfl (by first | decide | omega) rfl)
  have q24 : ¬ (v7 ≠ 2147483648) := q24
  refine x_const (np := 9) (x := 9223372039002259456) (a := 2147483648) (by decide +kernel) (by decide) (by decide) ?_
  have q2228 : h10 62 1 = h 62 1 := f12 62 1 (by decide +kernel)
  refine x_retI (np := 10) (x := 0) (by decide +kernel) (by decide) (Or.inr ⟨by decide +kernel, by first | decide | omega, by first | decide | omega⟩) ⟨_, rfl, (by decide), ?_⟩
  exact ⟨j11, f18, (by first | decide | omega), (fun z => by first | decide | omega), (fun z => by first | decide | omega), (gQ_no (t := 1) c16 rfl (by first | decide | omega) (by first | decide | omega)), (fun _ => fQ_no (t := 1) (c17 (by first | decide | omega)) rfl rfl)⟩
set_option maxHeartbeats 0 in
/-- LentNames$CustomReader.readCondition(I)Z -/
theorem c46_62_c0 {sc : Nat × Nat} {d  : Nat} {h : xh} {tB : Nat → Nat} {tN : Nat} (hJ : J h) (hr0 : (cl9 h) + 5 ≤ (h 1 2)) (hT : Tp tB tN h) : X sc 46 (d + 28) (xI fun r h' => J h' ∧ Fr 161 h h' ∧ (2147483648 ≤ r ∧ r ≤ 2147483649) ∧ (r = 2147483649 → h 1 2 + 1 ≤ h' 1 2) ∧ (r = 2147483649 → cl9 h' + h 1 2 ≤ h' 1 2 + cl9 h) ∧ G tB tN (Kd.seq 2) 0 (h 1 2) (rs r (h' 1 2)) ∧ (r = 2147483648 → GF tB tN (Kd.seq 2) 0 (h 1 2) (h' 1 2))) 0 0 0 [x_r 62, iv_c 2147483648, 147573952589676412928] [] h := by
  have hF := Fr.refl 161 h
  obtain ⟨r1, q2, t3⟩ : ∃ z, (h 62 1) = z + 11 ∧ tw z := by
    rcases hJ.2.2.2.2.2.2.2 with z | z
    · exact ⟨17, by rw [z], Or.inl rfl⟩
    · exact ⟨31, by rw [z], Or.inr rfl⟩
  have b4 := jB (e := 2) 0 hJ (rg_T11_2_0_1 t3) (by first | decide | omega) (by first | decide | omega)
  have e5 : cl9 h = (h (r1 + 11) 2) := (congrArg (fun z => h z 2) q2).trans rfl
  have b6 := jB (e := 2) 0 hJ rg_1_2_0_1 (by first | decide | omega) (by first | decide | omega)
  refine x_aload (np := 1) (x := 0) (by decide +kernel) rfl (x_nc_le (by decide)) ?_
  refine x_iload (np := 2) (x := 1) (by decide +kernel) rfl (by decide) ?_
  refine x_cI (t := 6) (mj := 47) (n := 2) (rc := 4) (ml := 3) (nr := 0) (np := 5) (as := [x_r 62, iv_c 2147483648]) (rest := []) (lo1 := [x_r 62, iv_c 2147483648, 147573952589676412928]) (by decide +kernel) (by decide) (by decide +kernel) (x_rb_of (by decide +kernel)) rfl rfl (x_wr (by decide) (x_wi (by decide) x_wn)) x_wn (by decide) rfl (c47_62_c0 hJ   (by first | decide | omega) hT) (fun v7 h10 l8 q9 => ?_)
  obtain ⟨j11, f12, b13, c14, c15, c16, c17⟩ := q9
  have f18 := Fr.trans hF f12 (by decide)
  have b19 := jB (e := 2) 0 j11 rg_1_2_0_1 (by first | decide | omega) (by first | decide | omega)
  have q20 : h10 62 1 = h 62 1 := f12 62 1 (by decide +kernel)
  have b21 := jB (e := 2) 0 j11 (rg_T11_2_0_1 t3) (by first | decide | omega) (by first | decide | omega)
  have e22 : cl9 h10 = (h10 (r1 + 11) 2) := (congrArg (fun z => h10 z 2) (q20.trans q2)).trans rfl
  refine x_ifz (k := 1) (tg := 10) (np := 8) (by decide +kernel) (by decide) l8 (fun q23 => ?_) (fun q24 => ?_)
  · have q23 : v7 ≠ 2147483648 := q23
    have b25 := c14 (by first | decide | omega)
    have b26 := c15 (by first | decide | omega)
    refine x_const (np := 11) (x := 9223372039002259456) (a := 2147483648) (by decide +kernel) (by decide) (by decide) ?_
    refine x_istore (np := 12) (x := 2) (lo' := [x_r 62, iv_c 2147483648, iv_c 2147483648]) (by decide +kernel) (by decide) (Nat.le_of_ble_eq_true rfl) rfl ?_
    have p2088 : ∀ (n : Nat) (v2083 : Nat) (h2085 : xh), 4294967296 - v2083 < n → (2147483648 ≤ v2083 ∧ v2083 ≤ 2147484047) → cl9 h2085 + h 1 2 ≤ h2085 1 2 + cl9 h → h 1 2 + 1 ≤ h2085 1 2 → v2083 ≤ h2085 1 2 → J h2085 → Fr 161 h10 h2085 → Res tB tN (Kd.lp 2) 0 (h2085 1 2) (Kd.seq 2) 0 (h 1 2) → ResF tB tN (Kd.lp 2) 0 (h2085 1 2) (Kd.seq 2) 0 (h 1 2) → X sc 46 (d + 28) (xI fun r h' => J h' ∧ Fr 161 h h' ∧ (2147483648 ≤ r ∧ r ≤ 2147483649) ∧ (r = 2147483649 → h 1 2 + 1 ≤ h' 1 2) ∧ (r = 2147483649 → cl9 h' + h 1 2 ≤ h' 1 2 + cl9 h) ∧ G tB tN (Kd.seq 2) 0 (h 1 2) (rs r (h' 1 2)) ∧ (r = 2147483648 → GF tB tN (Kd.seq 2) 0 (h 1 2) (h' 1 2))) 0 0 12 [x_r 62, iv_c 2147483648, iv_c v2083] [] h2085 := by
      intro n
      induction n with
      | zero => intro v2083 h2085 q2094; exact absurd q2094 (Nat.not_lt_zero _)
      | succ n i2095 =>
        intro v2083 h2085 q2094 b2084 b2089 b2090 b2091 j2087 f2086 m2092 m2093
        have f2096 := Fr.trans f18 f2086 (by decide)
        have b2097 := jB (e := 2) 0 j2087 rg_1_2_0_1 (by first | decide | omega) (by first | decide | omega)
        have q2098 : h2085 62 1 = h10 62 1 := f2086 62 1 (by decide +kernel)
        have q2099 : h10 62 1 = h 62 1 := f12 62 1 (by decide +kernel)
        have b2100 := jB (e := 2) 0 j2087 (rg_T11_2_0_1 t3) (by first | decide | omega) (by first | decide | omega)
        have e2101 : cl9 h2085 = (h2085 (r1 + 11) 2) := (congrArg (fun z => h2085 z 2) ((q2098.trans q2099).trans q2)).trans rfl
        refine x_iload (np := 13) (x := 2) (by decide +kernel) rfl (by first | decide | omega) ?_
        refine x_const (np := 16) (x := 9223373756989178256) (a := 2147484048) (by decide +kernel) (by decide) (by decide) ?_
        refine x_icmp (k := 3) (tg := 60) (np := 19) (by decide +kernel) (by decide) (by first | decide | omega) (by decide) (fun q2102 => ?_) (fun q2103 => ?_)
        · have q2102 : 2147484048 ≤ v2083 := q2102
          exfalso; omega
        have q2103 : ¬ (2147484048 ≤ v2083) := q2103
        refine x_aload (np := 20) (x := 0) (by decide +kernel) rfl (x_nc_le (by decide)) ?_
        have q2104 : h2085 62 0 = 1 := by have z := jB (e := 0) 0 j2087 rg_62_0_0_1 (by decide) (by decide); omega
        refine x_getR (np := 23) (x := 192) (f := 0) (q := 1) (by decide +kernel) (by decide) (by decide +kernel) q2104 ?_
        refine x_ldcB (i := 15) (idx := 64) (tx := "or") (by rw [tb_y46]; exact List.mem_of_getElem? (i := 34) rfl) (by decide) (by rw [tb_b46]; decide +kernel) ?_
        have m2109 := Tp.fr hT f12 (by decide) (by decide)
        have m2108 := Tp.fr m2109 f2086 (by decide) (by decide)
        refine x_cI (t := 6) (mj := 78) (n := 2) (rc := 8) (ml := 2) (nr := 0) (np := 28) (as := [x_r 1, x_b (15 + 1)]) (rest := []) (lo1 := [x_r 1, x_b (15 + 1)]) (by decide +kernel) (by decide) (by decide +kernel) (x_rb_of (by decide +kernel)) rfl rfl (x_wr (by decide) (x_wB (by decide) x_wn)) x_wn (by decide) rfl (c78_1_S0 j2087  (by decide) m2108) (fun v2105 h2110 l2106 q2107 => ?_)
        obtain ⟨j2111, f2112, b2113, c2114, c2115, c2116⟩ := q2107
        have f2117 := Fr.trans f2096 f2112 (by decide)
        have f2118 := Fr.trans f2086 f2112 (by decide)
        have b2119 := jB (e := 2) 0 j2111 rg_1_2_0_1 (by first | decide | omega) (by first | decide | omega)
        have b2120 : iv_tl 15 = 2 := by decide
        refine x_ifz (k := 0) (tg := 60) (np := 31) (by decide +kernel) (by decide) l2106 (fun q2121 => ?_) (fun q2122 => ?_)
        · have q2121 : v2105 = 2147483648 := q2121
          have b2123 := c2115 (by first | decide | omega)
          refine x_const (np := 61) (x := 9223372043297226753) (a := 2147483649) (by decide +kernel) (by decide) (by decide) ?_
          have q2124 : h2110 62 1 = h2085 62 1 := f2112 62 1 (by decide +kernel)
          have q2125 : h2085 62 1 = h10 62 1 := f2086 62 1 (by decide +kernel)
          have q2126 : h10 62 1 = h 62 1 := f12 62 1 (by decide +kernel)
          have q2127 : h2110 (r1 + 11) 2 = h2085 (r1 + 11) 2 := jK 0 f2112 (rg_T11_2_0_1 t3) (by first | decide | omega) (by first | decide | omega) (by decide)
          have e2128 : cl9 h2110 = (h2085 (r1 + 11) 2) := (congrArg (fun z => h2110 z 2) (((q2124.trans q2125).trans q2126).trans q2)).trans q2127
          obtain ⟨w2129, e2130⟩ := Tk.no c2116 (by first | decide | omega)
          refine x_retI (np := 62) (x := 0) (by decide +kernel) (by decide) (Or.inr ⟨by decide +kernel, by first | decide | omega, by first | decide | omega⟩) ⟨_, rfl, (by decide), ?_⟩
          exact ⟨j2111, f2117, (by first | decide | omega), (fun z => by first | decide | omega), (fun z => by first | decide | omega), (gQ_e (t := 2) m2092 w2129 rfl (by first | decide | omega) (show h2085 1 2 = h2110 1 2 by first | decide | omega)), (fun z => absurd z (by first | decide | omega))⟩
        have q2122 : ¬ (v2105 = 2147483648) := q2122
        have b2131 := c2114 (by first | decide | omega)
        refine x_aload (np := 32) (x := 0) (by decide +kernel) rfl (x_nc_le (by decide)) ?_
        refine x_iload (np := 33) (x := 1) (by decide +kernel) rfl (by decide) ?_
        have q2132 : h2110 62 1 = h2085 62 1 := f2112 62 1 (by decide +kernel)
        have q2133 : h2085 62 1 = h10 62 1 := f2086 62 1 (by decide +kernel)
        have q2134 : h10 62 1 = h 62 1 := f12 62 1 (by decide +kernel)
        have q2135 : h2110 (r1 + 11) 2 = h2085 (r1 + 11) 2 := jK 0 f2112 (rg_T11_2_0_1 t3) (by first | decide | omega) (by first | decide | omega) (by decide)
        have e2136 : cl9 h2110 = (h2085 (r1 + 11) 2) := (congrArg (fun z => h2110 z 2) (((q2132.trans q2133).trans q2134).trans q2)).trans q2135
        have m2140 := Tp.fr m2108 f2112 (by decide) (by decide)
        refine x_cI (t := 6) (mj := 47) (n := 2) (rc := 4) (ml := 3) (nr := 0) (np := 36) (as := [x_r 62, iv_c 2147483648]) (rest := []) (lo1 := [x_r 62, iv_c 2147483648, 147573952589676412928]) (by decide +kernel) (by decide) (by decide +kernel) (x_rb_of (by decide +kernel)) rfl rfl (x_wr (by decide) (x_wi (by decide) x_wn)) x_wn (by decide) rfl (c47_62_c0 j2111   (by first | decide | omega) m2140) (fun v2137 h2141 l2138 q2139 => ?_)
        obtain ⟨j2142, f2143, b2144, c2145, c2146, c2147, c2148⟩ := q2139
        have f2149 := Fr.trans f2117 f2143 (by decide)
        have f2150 := Fr.trans f2118 f2143 (by decide)
        have b2151 := jB (e := 2) 0 j2142 rg_1_2_0_1 (by first | decide | omega) (by first | decide | omega)
        have q2152 : h2110 62 1 = h2085 62 1 := f2112 62 1 (by decide +kernel)
        have q2153 : h2085 62 1 = h10 62 1 := f2086 62 1 (by decide +kernel)
        have q2154 : h10 62 1 = h 62 1 := f12 62 1 (by decide +kernel)
        have q2155 : h2110 (r1 + 11) 2 = h2085 (r1 + 11) 2 := jK 0 f2112 (rg_T11_2_0_1 t3) (by first | decide | omega) (by first | decide | omega) (by decide)
        have q2156 : h2141 62 1 = h2110 62 1 := f2143 62 1 (by decide +kernel)
        have q2157 : h2110 62 1 = h2085 62 1 := f2112 62 1 (by decide +kernel)
        have q2158 : h2085 62 1 = h10 62 1 := f2086 62 1 (by decide +kernel)
        have q2159 : h10 62 1 = h 62 1 := f12 62 1 (by decide +kernel)
        have b2160 := jB (e := 2) 0 j2142 (rg_T11_2_0_1 t3) (by first | decide | omega) (by first | decide | omega)
        have e2161 : cl9 h2141 = (h2141 (r1 + 11) 2) := (congrArg (fun z => h2141 z 2) ((((q2156.trans q2157).trans q2158).trans q2159).trans q2)).trans rfl
        refine x_ifz (k := 0) (tg := 52) (np := 39) (by decide +kernel) (by decide) l2138 (fun q2162 => ?_) (fun q2163 => ?_)
        · have q2162 : v2137 = 2147483648 := q2162
          refine x_const (np := 53) (x := 9223372039002259456) (a := 2147483648) (by decide +kernel) (by decide) (by decide) ?_
          have q2164 : h2141 62 1 = h2110 62 1 := f2143 62 1 (by decide +kernel)
          have q2165 : h2110 62 1 = h2085 62 1 := f2112 62 1 (by decide +kernel)
          have q2166 : h2085 62 1 = h10 62 1 := f2086 62 1 (by decide +kernel)
          have q2167 : h10 62 1 = h 62 1 := f12 62 1 (by decide +kernel)
          obtain ⟨w2168, e2169⟩ := Tk.yes c2116 (by first | decide | omega)
          obtain ⟨w2170, e2171⟩ := Tk.yes c2116 (by first | decide | omega)
          refine x_retI (np := 54) (x := 0) (by decide +kernel) (by decide) (Or.inr ⟨by decide +kernel, by first | decide | omega, by first | decide | omega⟩) ⟨_, rfl, (by decide), ?_⟩
          exact ⟨j2142, f2149, (by first | decide | omega), (fun z => by first | decide | omega), (fun z => by first | decide | omega), (gQ_f (t := 2) m2092 w2168 rfl e2169 c2147 rfl (by first | decide | omega) (by first | decide | omega)), (fun _ => fQ_f (t := 2) m2093 w2170 rfl e2171 (c2148 (by first | decide | omega)) rfl rfl)⟩
        have q2163 : ¬ (v2137 = 2147483648) := q2163
        have b2172 := c2145 (by first | decide | omega)
        have b2173 := c2146 (by first | decide | omega)
        refine x_aload (np := 40) (x := 0) (by decide +kernel) rfl (x_nc_le (by decide)) ?_
        have q2174 : h2141 62 1 = h2110 62 1 := f2143 62 1 (by decide +kernel)
        have q2175 : h2110 62 1 = h2085 62 1 := f2112 62 1 (by decide +kernel)
        have q2176 : h2085 62 1 = h10 62 1 := f2086 62 1 (by decide +kernel)
        have q2177 : h10 62 1 = h 62 1 := f12 62 1 (by decide +kernel)
        refine x_getR (np := 43) (x := 193) (f := 1) (q := (r1 + 11)) (by decide +kernel) (by decide) (by decide +kernel) ((((q2174.trans q2175).trans q2176).trans q2177).trans q2) ?_
        refine x_const (np := 46) (x := 9223380650411689941) (a := 2147485653) (by decide +kernel) (by decide) (by decide) ?_
        refine x_nI (t := 6) (mj := 36) (n := 2) (rc := 3) (ml := 2) (nr := 0) (np := 49) (as := [x_r (r1 + 11), iv_c 2147485653]) (rest := []) (lo1 := [x_r (r1 + 11), iv_c 2147485653]) (by decide +kernel) (by decide) (by decide +kernel) (x_rb_of (tr_11_3 t3)) rfl rfl (x_wr (tn_11 t3) (x_wi (by decide) x_wn)) x_wn (by decide) rfl ?_
        refine x_aload (np := 1) (x := 0) (by decide +kernel) rfl (x_nc_le (tn_11 t3)) ?_
        refine x_getC (np := 4) (x := 130) (f := 2) (q := (h2141 (r1 + 11) 2)) (by decide +kernel) (by decide) (tg_11_130_2_0 t3) rfl (fun l2178 => ?_)
        refine x_const (np := 7) (x := 9223373756989178256) (a := 2147484048) (by decide +kernel) (by decide) (by decide) ?_
        refine x_icmp (k := 2) (tg := 12) (np := 10) (by decide +kernel) (by decide) l2178 (by decide) (fun q2179 => ?_) (fun q2180 => ?_)
        · have q2179 : (h2141 (r1 + 11) 2) < 2147484048 := q2179
          refine x_aload (np := 13) (x := 0) (by decide +kernel) rfl (x_nc_le (tn_11 t3)) ?_
          have q2181 : h2141 (r1 + 11) 0 = (r1 + 12) := tf_11_0 j2142 t3
          refine x_getR (np := 16) (x := 128) (f := 0) (q := (r1 + 12)) (by decide +kernel) (by decide) (tg_11_128_0_1 t3) q2181 ?_
          refine x_aload (np := 17) (x := 0) (by decide +kernel) rfl (x_nc_le (tn_11 t3)) ?_
          refine x_getC (np := 20) (x := 130) (f := 2) (q := (h2141 (r1 + 11) 2)) (by decide +kernel) (by decide) (tg_11_130_2_0 t3) rfl (fun l2182 => ?_)
          refine x_iload (np := 21) (x := 1) (by decide +kernel) rfl (by decide) ?_
          obtain ⟨u2183, q2184⟩ : ∃ z, (h2141 (r1 + 11) 2) = 2147483648 + z := ⟨(h2141 (r1 + 11) 2) - 2147483648, by first | decide | omega⟩
          refine x_ast (np := 22) (x := 0) (kd := 1) (n := 400) (i := u2183) (by decide +kernel) (Or.inl rfl) (ta_12_400 t3) (by first | decide | omega) (by first | decide | omega) (by decide) (by decide) (fun z => absurd z (by decide)) ?_
          have j2186 := jU (e := u2183) (v := 2147485653) u2183 j2142 (rg_T12_0_1_400 t3) (by first | decide | omega) (by first | decide | omega) (by first | decide | omega)
          have f2188 := jF (e := u2183) (v := 2147485653) u2183 f2149 (rg_T12_0_1_400 t3) (by first | decide | omega) (by first | decide | omega) (by decide)
          have f2189 := jF (e := u2183) (v := 2147485653) u2183 f2150 (rg_T12_0_1_400 t3) (by first | decide | omega) (by first | decide | omega) (by decide)
          generalize e2187 : x_up h2141 (r1 + 12) u2183 2147485653 = h2185 at j2186 f2188 f2189 ⊢
          refine x_aload (np := 23) (x := 0) (by decide +kernel) rfl (x_nc_le (tn_11 t3)) ?_
          refine x_dup (np := 24) (x := 0) (by decide +kernel) (by have z := x_nc_le (k := (r1 + 11)) (tn_11 t3); unfold x_r; omega) ?_
          have q2190 : h2185 (r1 + 11) 2 = h2141 (r1 + 11) 2 := by rw [← e2187]; exact x_up_k tof_11_12
          refine x_getC (np := 27) (x := 130) (f := 2) (q := (h2141 (r1 + 11) 2)) (by decide +kernel) (by decide) (tg_11_130_2_0 t3) q2190 (fun l2191 => ?_)
          refine x_const (np := 28) (x := 9223372043297226753) (a := 2147483649) (by decide +kernel) (by decide) (by decide) ?_
          refine x_iadd (np := 29) (x := 0) (v := (1 + (h2141 (r1 + 11) 2))) (by decide +kernel) l2178 (by decide) (by first | decide | omega) (by first | decide | omega) ?_
          refine x_putI (np := 32) (x := 130) (f := 2) (by decide +kernel) (tg_11_130_2_0 t3) (by first | decide | omega) (Or.inl (by decide)) ?_
          have j2193 := jU (e := 2) (v := (1 + (h2141 (r1 + 11) 2))) 0 j2186 (rg_T11_2_0_1 t3) (by first | decide | omega) (by first | decide | omega) (by first | decide | omega)
          have f2195 := jF (e := 2) (v := (1 + (h2141 (r1 + 11) 2))) 0 f2188 (rg_T11_2_0_1 t3) (by first | decide | omega) (by first | decide | omega) (by decide)
          have f2196 := jF (e := 2) (v := (1 + (h2141 (r1 + 11) 2))) 0 f2189 (rg_T11_2_0_1 t3) (by first | decide | omega) (by first | decide | omega) (by decide)
          generalize e2194 : x_up h2185 (r1 + 11) 2 (1 + (h2141 (r1 + 11) 2)) = h2192 at j2193 f2195 f2196 ⊢
          refine x_const (np := 33) (x := 9223372043297226753) (a := 2147483649) (by decide +kernel) (by decide) (by decide) ?_
          refine x_retI (np := 34) (x := 0) (by decide +kernel) (by decide) (Or.inr ⟨by decide +kernel, by first | decide | omega, by first | decide | omega⟩) ⟨_, rfl, (by decide), ?_⟩
          refine x_ifz (k := 1) (tg := 54) (np := 52) (by decide +kernel) (by decide) (by decide) (fun q2197 => ?_) (fun q2198 => ?_)
          · have q2197 : 2147483649 ≠ 2147483648 := q2197
            refine x_iinc (np := 57) (i := 2) (j := 2147483649) (v := (1 + v2083)) (lo' := [x_r 62, iv_c 2147483648, iv_c (1 + v2083)]) (by decide +kernel) (by decide) (by decide) rfl (by first | decide | omega) (by first | decide | omega) (by first | decide | omega) rfl ?_
            refine x_goto (np := 60) (x := 12) (by decide +kernel) ?_
            have q2199 : h2192 1 2 = h2185 1 2 := by rw [← e2194]; exact x_up_k (Ne.symm (tne_11_1 t3))
            have q2200 : h2185 1 2 = h2141 1 2 := by rw [← e2187]; exact x_up_k (Ne.symm (tne_12_1 t3))
            have q2201 : h2192 62 1 = h2185 62 1 := by rw [← e2194]; exact x_up_k (Ne.symm (tne_11_62 t3))
            have q2202 : h2185 62 1 = h2141 62 1 := by rw [← e2187]; exact x_up_k (Ne.symm (tne_12_62 t3))
            have q2203 : h2141 62 1 = h2110 62 1 := f2143 62 1 (by decide +kernel)
            have q2204 : h2110 62 1 = h2085 62 1 := f2112 62 1 (by decide +kernel)
            have q2205 : h2085 62 1 = h10 62 1 := f2086 62 1 (by decide +kernel)
            have q2206 : h10 62 1 = h 62 1 := f12 62 1 (by decide +kernel)
            have q2207 : h2192 (r1 + 11) 2 = (1 + (h2141 (r1 + 11) 2)) := by rw [← e2194]; exact x_up_at
            have e2208 : cl9 h2192 = (1 + (h2141 (r1 + 11) 2)) := (congrArg (fun z => h2192 z 2) ((((((q2201.trans q2202).trans q2203).trans q2204).trans q2205).trans q2206).trans q2)).trans q2207
            obtain ⟨w2209, e2210⟩ := Tk.yes c2116 (by first | decide | omega)
            have q2211 : h2192 1 2 = h2185 1 2 := by rw [← e2194]; exact x_up_k (Ne.symm (tne_11_1 t3))
            have q2212 : h2185 1 2 = h2141 1 2 := by rw [← e2187]; exact x_up_k (Ne.symm (tne_12_1 t3))
            obtain ⟨w2213, e2214⟩ := Tk.yes c2116 (by first | decide | omega)
            have q2215 : h2192 1 2 = h2185 1 2 := by rw [← e2194]; exact x_up_k (Ne.symm (tne_11_1 t3))
            have q2216 : h2185 1 2 = h2141 1 2 := by rw [← e2187]; exact x_up_k (Ne.symm (tne_12_1 t3))
            exact i2095 (1 + v2083) h2192 (by first | decide | omega) (by first | decide | omega) (by first | decide | omega) (by first | decide | omega) (by first | decide | omega) j2193 f2196 (gQ_st (t := 2) m2092 w2209 rfl e2210 c2147 rfl (by first | decide | omega) (show h2141 1 2 = h2192 1 2 by first | decide | omega)) (fQ_st (t := 2) m2093 w2213 rfl e2214 c2147 rfl (by first | decide | omega) (show h2141 1 2 = h2192 1 2 by first | decide | omega))
          have q2198 : ¬ (2147483649 ≠ 2147483648) := q2198
          exfalso; omega
        have q2180 : ¬ ((h2141 (r1 + 11) 2) < 2147484048) := q2180
        refine x_const (np := 11) (x := 9223372039002259456) (a := 2147483648) (by decide +kernel) (by decide) (by decide) ?_
        refine x_retI (np := 12) (x := 0) (by decide +kernel) (by decide) (Or.inr ⟨by decide +kernel, by first | decide | omega, by first | decide | omega⟩) ⟨_, rfl, (by decide), ?_⟩
        refine x_ifz (k := 1) (tg := 54) (np := 52) (by decide +kernel) (by decide) (by decide) (fun q2217 => ?_) (fun q2218 => ?_)
        · have q2217 : 2147483648 ≠ 2147483648 := q2217
          exfalso; omega
        have q2218 : ¬ (2147483648 ≠ 2147483648) := q2218
        refine x_const (np := 53) (x := 9223372039002259456) (a := 2147483648) (by decide +kernel) (by decide) (by decide) ?_
        have q2219 : h2141 62 1 = h2110 62 1 := f2143 62 1 (by decide +kernel)
        have q2220 : h2110 62 1 = h2085 62 1 := f2112 62 1 (by decide +kernel)
        have q2221 : h2085 62 1 = h10 62 1 := f2086 62 1 (by decide +kernel)
        have q2222 : h10 62 1 = h 62 1 := f12 62 1 (by decide +kernel)
        obtain ⟨w2223, e2224⟩ := Tk.yes c2116 (by first | decide | omega)
        obtain ⟨w2225, e2226⟩ := Tk.yes c2116 (by first | decide | omega)
        refine x_retI (np := 54) (x := 0) (by decide +kernel) (by decide) (Or.inr ⟨by decide +kernel, by first | decide | omega, by first | decide | omega⟩) ⟨_, rfl, (by decide), ?_⟩
        exact ⟨j2142, f2149, (by first | decide | omega), (fun z => by first | decide | omega), (fun z => by first | decide | omega), (gQ_f (t := 2) m2092 w2223 rfl e2224 c2147 rfl (by first | decide | omega) (by first | decide | omega)), (fun _ => fQ_f (t := 2) m2093 w2225 rfl e2226 (c2148 (by first | decide | omega)) rfl rfl)⟩
    have q2227 : h10 62 1 = h 62 1 := f12 62 1 (by decide +kernel)
    exact p2088 _ 2147483648 h10 (Nat.lt_succ_self _) (by first | decide | omega) (by first | decide | omega) (by first | decide | omega) (by first | decide | omega) j11 (Fr.refl _ _) (gQ_in (t := 2) c16 rfl (by first | decide | omega) rfl) (fQ_in (t := 2) c16 rfl (by first | decide | omega) rfl)
  have q24 : ¬ (v7 ≠ 2147483648) := q24
  refine x_const (np := 9) (x := 9223372039002259456) (a := 2147483648) (by decide +kernel) (by decide) (by decide) ?_
  have q2228 : h10 62 1 = h 62 1 := f12 62 1 (by decide +kernel)
  refine x_retI (np := 10) (x := 0) (by decide +kernel) (by decide) (Or.inr ⟨by decide +kernel, by first | decide | omega, by first | decide | omega⟩) ⟨_, rfl, (by decide), ?_⟩
  exact ⟨j11, f18, (by first | decide | omega), (fun z => by first | decide | omega), (fun z => by first | decide | omega), (gQ_no (t := 2) c16 rfl (by first | decide | omega) (by first | decide | omega)), (fun _ => fQ_no (t := 2) (c17 (by first | decide | omega)) rfl rfl)⟩
set_option maxHeartbeats 0 in
/-- LentNames$CustomReader.readLine()Z -/
theorem c45_62 {sc : Nat × Nat} {d  : Nat} {h : xh} {tB : Nat → Nat} {tN : Nat} (hJ : J h) (hr0 : (cl9 h) ≤ (h 1 2)) (hT : Tp tB tN h) : X sc 45 (d + 29) (xI fun r h' => J h' ∧ Fr 161 h h' ∧ (2147483648 ≤ r ∧ r ≤ 2147483649) ∧ (r = 2147483649 → h 1 2 + 1 ≤ h' 1 2) ∧ (r = 2147483649 → cl9 h' ≤ h' 1 2) ∧ G tB tN Kd.line 0 (h 1 2) (rs r (h' 1 2)) ∧ (r = 2147483648 → GF tB tN Kd.line 0 (h 1 2) (h' 1 2))) 0 0 0 [x_r 62, 147573952589676412928] [] h := by
  have hF := Fr.refl 161 h
  obtain ⟨r1, q2, t3⟩ : ∃ z, (h 62 1) = z + 11 ∧ tw z := by
    rcases hJ.2.2.2.2.2.2.2 with z | z
    · exact ⟨17, by rw [z], Or.inl rfl⟩
    · exact ⟨31, by rw [z], Or.inr rfl⟩
  have b4 := jB (e := 2) 0 hJ (rg_T11_2_0_1 t3) (by first | decide | omega) (by first | decide | omega)
  have e5 : cl9 h = (h (r1 + 11) 2) := (congrArg (fun z => h z 2) q2).trans rfl
  have b6 := jB (e := 2) 0 hJ rg_1_2_0_1 (by first | decide | omega) (by first | decide | omega)
  refine x_const (np := 3) (x := 9223380654706657238) (a := 2147485654) (by decide +kernel) (by decide) (by decide) ?_
  refine x_istore (np := 4) (x := 1) (lo' := [x_r 62, iv_c 2147485654]) (by decide +kernel) (by decide) (Nat.le_of_ble_eq_true rfl) rfl ?_
  refine x_aload (np := 5) (x := 0) (by decide +kernel) rfl (x_nc_le (by decide)) ?_
  have q7 : h 62 0 = 1 := by have z := jB (e := 0) 0 hJ rg_62_0_0_1 (by decide) (by decide); omega
  refine x_getR (np := 8) (x := 192) (f := 0) (q := 1) (by decide +kernel) (by decide) (by decide +kernel) q7 ?_
  refine x_ldcB (i := 21) (idx := 44) (tx := "refuse") (by rw [tb_y45]; exact List.mem_of_getElem? (i := 21) rfl) (by decide) (by rw [tb_b45]; decide +kernel) ?_
  refine x_cI (t := 6) (mj := 78) (n := 2) (rc := 8) (ml := 2) (nr := 0) (np := 13) (as := [x_r 1, x_b (21 + 1)]) (rest := []) (lo1 := [x_r 1, x_b (21 + 1)]) (by decide +kernel) (by decide) (by decide +kernel) (x_rb_of (by decide +kernel)) rfl rfl (x_wr (by decide) (x_wB (by decide) x_wn)) x_wn (by decide) rfl (c78_1_S0 hJ  (by decide) hT) (fun v8 h11 l9 q10 => ?_)
  obtain ⟨j12, f13, b14, c15, c16, c17⟩ := q10
  have f18 := Fr.trans hF f13 (by decide)
  have b19 := jB (e := 2) 0 j12 rg_1_2_0_1 (by first | decide | omega) (by first | decide | omega)
  have b20 : iv_tl 21 = 6 := by decide
  refine x_ifz (k := 0) (tg := 23) (np := 16) (by decide +kernel) (by decide) l9 (fun q21 => ?_) (fun q22 => ?_)
  · have q21 : v8 = 2147483648 := q21
    have b23 := c16 (by first | decide | omega)
    refine x_aload (np := 24) (x := 0) (by decide +kernel) rfl (x_nc_le (by decide)) ?_
    have q24 : h11 62 0 = 1 := by have z := jB (e := 0) 0 j12 rg_62_0_0_1 (by decide) (by decide); omega
    refine x_getR (np := 27) (x := 192) (f := 0) (q := 1) (by decide +kernel) (by decide) (by decide +kernel) q24 ?_
    refine x_ldcB (i := 22) (idx := 50) (tx := "grant") (by rw [tb_y45]; exact List.mem_of_getElem? (i := 22) rfl) (by decide) (by rw [tb_b45]; decide +kernel) ?_
    have m28 := Tp.fr hT f13 (by decide) (by decide)
    refine x_cI (t := 6) (mj := 78) (n := 2) (rc := 8) (ml := 2) (nr := 0) (np := 32) (as := [x_r 1, x_b (22 + 1)]) (rest := []) (lo1 := [x_r 1, x_b (22 + 1)]) (by decide +kernel) (by decide) (by decide +kernel) (x_rb_of (by decide +kernel)) rfl rfl (x_wr (by decide) (x_wB (by decide) x_wn)) x_wn (by decide) rfl (c78_1_S0 j12  (by decide) m28) (fun v25 h29 l26 q27 => ?_)
    obtain ⟨j30, f31, b32, c33, c34, c35⟩ := q27
    have f36 := Fr.trans f18 f31 (by decide)
    have b37 := jB (e := 2) 0 j30 rg_1_2_0_1 (by first | decide | omega) (by first | decide | omega)
    have b38 : iv_tl 22 = 5 := by decide
    refine x_ifz (k := 1) (tg := 37) (np := 35) (by decide +kernel) (by decide) l26 (fun q39 => ?_) (fun q40 => ?_)
    · have q39 : v25 ≠ 2147483648 := q39
      have b41 := c33 (by first | decide | omega)
      refine x_aload (np := 38) (x := 0) (by decide +kernel) rfl (x_nc_le (by decide)) ?_
      have q42 : h29 62 0 = 1 := by have z := jB (e := 0) 0 j30 rg_62_0_0_1 (by decide) (by decide); omega
      refine x_getR (np := 41) (x := 192) (f := 0) (q := 1) (by decide +kernel) (by decide) (by decide +kernel) q42 ?_
      refine x_ldcB (i := 23) (idx := 52) (tx := "if") (by rw [tb_y45]; exact List.mem_of_getElem? (i := 23) rfl) (by decide) (by rw [tb_b45]; decide +kernel) ?_
      have m46 := Tp.fr m28 f31 (by decide) (by decide)
      refine x_cI (t := 6) (mj := 78) (n := 2) (rc := 8) (ml := 2) (nr := 0) (np := 46) (as := [x_r 1, x_b (23 + 1)]) (rest := []) (lo1 := [x_r 1, x_b (23 + 1)]) (by decide +kernel) (by decide) (by decide +kernel) (x_rb_of (by decide +kernel)) rfl rfl (x_wr (by decide) (x_wB (by decide) x_wn)) x_wn (by decide) rfl (c78_1_S0 j30  (by decide) m46) (fun v43 h47 l44 q45 => ?_)
      obtain ⟨j48, f49, b50, c51, c52, c53⟩ := q45
      have f54 := Fr.trans f36 f49 (by decide)
      have b55 := jB (e := 2) 0 j48 rg_1_2_0_1 (by first | decide | omega) (by first | decide | omega)
      have b56 : iv_tl 23 = 2 := by decide
      refine x_ifz (k := 1) (tg := 77) (np := 49) (by decide +kernel) (by decide) l44 (fun q57 => ?_) (fun q58 => ?_)
      · have q57 : v43 ≠ 2147483648 := q57
        have b59 := c51 (by first | decide | omega)
        refine x_aload (np := 78) (x := 0) (by decide +kernel) rfl (x_nc_le (by decide)) ?_
        refine x_const (np := 79) (x := 9223372039002259456) (a := 2147483648) (by decide +kernel) (by decide) (by decide) ?_
        have q60 : h47 62 1 = h29 62 1 := f49 62 1 (by decide +kernel)
        have q61 : h29 62 1 = h11 62 1 := f31 62 1 (by decide +kernel)
        have q62 : h11 62 1 = h 62 1 := f13 62 1 (by decide +kernel)
        have q63 : h47 (r1 + 11) 2 = h29 (r1 + 11) 2 := jK 0 f49 (rg_T11_2_0_1 t3) (by first | decide | omega) (by first | decide | omega) (by decide)
        have q64 : h29 (r1 + 11) 2 = h11 (r1 + 11) 2 := jK 0 f31 (rg_T11_2_0_1 t3) (by first | decide | omega) (by first | decide | omega) (by decide)
        have q65 : h11 (r1 + 11) 2 = h (r1 + 11) 2 := jK 0 f13 (rg_T11_2_0_1 t3) (by first | decide | omega) (by first | decide | omega) (by decide)
        have e66 : cl9 h47 = (h (r1 + 11) 2) := (congrArg (fun z => h47 z 2) (((q60.trans q61).trans q62).trans q2)).trans ((q63.trans q64).trans q65)
        have m70 := Tp.fr m46 f49 (by decide) (by decide)
        refine x_cI (t := 6) (mj := 46) (n := 2) (rc := 4) (ml := 3) (nr := 0) (np := 82) (as := [x_r 62, iv_c 2147483648]) (rest := []) (lo1 := [x_r 62, iv_c 2147483648, 147573952589676412928]) (by decide +kernel) (by decide) (by decide +kernel) (x_rb_of (by decide +kernel)) rfl rfl (x_wr (by decide) (x_wi (by decide) x_wn)) x_wn (by decide) rfl (c46_62_c0 j48   (by first | decide | omega) m70) (fun v67 h71 l68 q69 => ?_)
        obtain ⟨j72, f73, b74, c75, c76, c77, c78⟩ := q69
        have f79 := Fr.trans f54 f73 (by decide)
        have b80 := jB (e := 2) 0 j72 rg_1_2_0_1 (by first | decide | omega) (by first | decide | omega)
        have q81 : h47 62 1 = h29 62 1 := f49 62 1 (by decide +kernel)
        have q82 : h29 62 1 = h11 62 1 := f31 62 1 (by decide +kernel)
        have q83 : h11 62 1 = h 62 1 := f13 62 1 (by decide +kernel)
        have q84 : h47 (r1 + 11) 2 = h29 (r1 + 11) 2 := jK 0 f49 (rg_T11_2_0_1 t3) (by first | decide | omega) (by first | decide | omega) (by decide)
        have q85 : h29 (r1 + 11) 2 = h11 (r1 + 11) 2 := jK 0 f31 (rg_T11_2_0_1 t3) (by first | decide | omega) (by first | decide | omega) (by decide)
        have q86 : h11 (r1 + 11) 2 = h (r1 + 11) 2 := jK 0 f13 (rg_T11_2_0_1 t3) (by first | decide | omega) (by first | decide | omega) (by decide)
        have q87 : h71 62 1 = h47 62 1 := f73 62 1 (by decide +kernel)
        have q88 : h47 62 1 = h29 62 1 := f49 62 1 (by decide +kernel)
        have q89 : h29 62 1 = h11 62 1 := f31 62 1 (by decide +kernel)
        have q90 : h11 62 1 = h 62 1 := f13 62 1 (by decide +kernel)
        have b91 := jB (e := 2) 0 j72 (rg_T11_2_0_1 t3) (by first | decide | omega) (by first | decide | omega)
        have e92 : cl9 h71 = (h71 (r1 + 11) 2) := (congrArg (fun z => h71 z 2) ((((q87.trans q88).trans q89).trans q90).trans q2)).trans rfl
        refine x_ifz (k := 0) (tg := 100) (np := 85) (by decide +kernel) (by decide) l68 (fun q93 => ?_) (fun q94 => ?_)
        · have q93 : v67 = 2147483648 := q93
          refine x_const (np := 101) (x := 9223372039002259456) (a := 2147483648) (by decide +kernel) (by decide) (by decide) ?_
          have q95 : h71 62 1 = h47 62 1 := f73 62 1 (by decide +kernel)
          have q96 : h47 62 1 = h29 62 1 := f49 62 1 (by decide +kernel)
          have q97 : h29 62 1 = h11 62 1 := f31 62 1 (by decide +kernel)
          have q98 : h11 62 1 = h 62 1 := f13 62 1 (by decide +kernel)
          obtain ⟨w99, e100⟩ := Tk.no c17 (by first | decide | omega)
          obtain ⟨w101, e102⟩ := Tk.yes c35 (by first | decide | omega)
          obtain ⟨w103, e104⟩ := Tk.yes c53 (by first | decide | omega)
          obtain ⟨w105, e106⟩ := Tk.no c17 (by first | decide | omega)
          obtain ⟨w107, e108⟩ := Tk.yes c35 (by first | decide | omega)
          obtain ⟨w109, e110⟩ := Tk.yes c53 (by first | decide | omega)
          refine x_retI (np := 102) (x := 0) (by decide +kernel) (by decide) (Or.inr ⟨by decide +kernel, by first | decide | omega, by first | decide | omega⟩) ⟨_, rfl, (by decide), ?_⟩
          exact ⟨j72, f79, (by first | decide | omega), (fun z => by first | decide | omega), (fun z => by first | decide | omega), (gL_if (i := 22) (by decide) w101 (show h11 1 2 = h 1 2 by first | decide | omega) e102 w103 rfl e104 c77 rfl (by first | decide | omega) (fun z => absurd z (by first | decide | omega))), (fun _ => fL_if (i := 22) (by decide) w107 (show h11 1 2 = h 1 2 by first | decide | omega) e108 w109 rfl e110 (c78 (by first | decide | omega)) rfl rfl)⟩
        have q94 : ¬ (v67 = 2147483648) := q94
        have b111 := c75 (by first | decide | omega)
        have b112 := c76 (by first | decide | omega)
        refine x_aload (np := 86) (x := 0) (by decide +kernel) rfl (x_nc_le (by decide)) ?_
        have q113 : h71 62 1 = h47 62 1 := f73 62 1 (by decide +kernel)
        have q114 : h47 62 1 = h29 62 1 := f49 62 1 (by decide +kernel)
        have q115 : h29 62 1 = h11 62 1 := f31 62 1 (by decide +kernel)
        have q116 : h11 62 1 = h 62 1 := f13 62 1 (by decide +kernel)
        refine x_getR (np := 89) (x := 193) (f := 1) (q := (r1 + 11)) (by decide +kernel) (by decide) (by decide +kernel) ((((q113.trans q114).trans q115).trans q116).trans q2) ?_
        refine x_iload (np := 90) (x := 1) (by decide +kernel) rfl (by decide) ?_
        refine x_nI (t := 6) (mj := 36) (n := 2) (rc := 3) (ml := 2) (nr := 0) (np := 93) (as := [x_r (r1 + 11), iv_c 2147485654]) (rest := []) (lo1 := [x_r (r1 + 11), iv_c 2147485654]) (by decide +kernel) (by decide) (by decide +kernel) (x_rb_of (tr_11_3 t3)) rfl rfl (x_wr (tn_11 t3) (x_wi (by decide) x_wn)) x_wn (by decide) rfl ?_
        refine x_aload (np := 1) (x := 0) (by decide +kernel) rfl (x_nc_le (tn_11 t3)) ?_
        refine x_getC (np := 4) (x := 130) (f := 2) (q := (h71 (r1 + 11) 2)) (by decide +kernel) (by decide) (tg_11_130_2_0 t3) rfl (fun l117 => ?_)
        refine x_const (np := 7) (x := 9223373756989178256) (a := 2147484048) (by decide +kernel) (by decide) (by decide) ?_
        refine x_icmp (k := 2) (tg := 12) (np := 10) (by decide +kernel) (by decide) l117 (by decide) (fun q118 => ?_) (fun q119 => ?_)
        · have q118 : (h71 (r1 + 11) 2) < 2147484048 := q118
          refine x_aload (np := 13) (x := 0) (by decide +kernel) rfl (x_nc_le (tn_11 t3)) ?_
          have q120 : h71 (r1 + 11) 0 = (r1 + 12) := tf_11_0 j72 t3
          refine x_getR (np := 16) (x := 128) (f := 0) (q := (r1 + 12)) (by decide +kernel) (by decide) (tg_11_128_0_1 t3) q120 ?_
          refine x_aload (np := 17) (x := 0) (by decide +kernel) rfl (x_nc_le (tn_11 t3)) ?_
          refine x_getC (np := 20) (x := 130) (f := 2) (q := (h71 (r1 + 11) 2)) (by decide +kernel) (by decide) (tg_11_130_2_0 t3) rfl (fun l121 => ?_)
          refine x_iload (np := 21) (x := 1) (by decide +kernel) rfl (by decide) ?_
          obtain ⟨u122, q123⟩ : ∃ z, (h71 (r1 + 11) 2) = 2147483648 + z := ⟨(h71 (r1 + 11) 2) - 2147483648, by first | decide | omega⟩
          refine x_ast (np := 22) (x := 0) (kd := 1) (n := 400) (i := u122) (by decide +kernel) (Or.inl rfl) (ta_12_400 t3) (by first | decide | omega) (by first | decide | omega) (by decide) (by decide) (fun z => absurd z (by decide)) ?_
          have j125 := jU (e := u122) (v := 2147485654) u122 j72 (rg_T12_0_1_400 t3) (by first | decide | omega) (by first | decide | omega) (by first | decide | omega)
          have f127 := jF (e := u122) (v := 2147485654) u122 f79 (rg_T12_0_1_400 t3) (by first | decide | omega) (by first | decide | omega) (by decide)
          generalize e126 : x_up h71 (r1 + 12) u122 2147485654 = h124 at j125 f127 ⊢
          refine x_aload (np := 23) (x := 0) (by decide +kernel) rfl (x_nc_le (tn_11 t3)) ?_
          refine x_dup (np := 24) (x := 0) (by decide +kernel) (by have z := x_nc_le (k := (r1 + 11)) (tn_11 t3); unfold x_r; omega) ?_
          have q128 : h124 (r1 + 11) 2 = h71 (r1 + 11) 2 := by rw [← e126]; exact x_up_k tof_11_12
          refine x_getC (np := 27) (x := 130) (f := 2) (q := (h71 (r1 + 11) 2)) (by decide +kernel) (by decide) (tg_11_130_2_0 t3) q128 (fun l129 => ?_)
          refine x_const (np := 28) (x := 9223372043297226753) (a := 2147483649) (by decide +kernel) (by decide) (by decide) ?_
          refine x_iadd (np := 29) (x := 0) (v := (1 + (h71 (r1 + 11) 2))) (by decide +kernel) l117 (by decide) (by first | decide | omega) (by first | decide | omega) ?_
          refine x_putI (np := 32) (x := 130) (f := 2) (by decide +kernel) (tg_11_130_2_0 t3) (by first | decide | omega) (Or.inl (by decide)) ?_
          have j131 := jU (e := 2) (v := (1 + (h71 (r1 + 11) 2))) 0 j125 (rg_T11_2_0_1 t3) (by first | decide | omega) (by first | decide | omega) (by first | decide | omega)
          have f133 := jF (e := 2) (v := (1 + (h71 (r1 + 11) 2))) 0 f127 (rg_T11_2_0_1 t3) (by first | decide | omega) (by first | decide | omega) (by decide)
          generalize e132 : x_up h124 (r1 + 11) 2 (1 + (h71 (r1 + 11) 2)) = h130 at j131 f133 ⊢
          refine x_const (np := 33) (x := 9223372043297226753) (a := 2147483649) (by decide +kernel) (by decide) (by decide) ?_
          refine x_retI (np := 34) (x := 0) (by decide +kernel) (by decide) (Or.inr ⟨by decide +kernel, by first | decide | omega, by first | decide | omega⟩) ⟨_, rfl, (by decide), ?_⟩
          refine x_ifz (k := 0) (tg := 100) (np := 96) (by decide +kernel) (by decide) (by decide) (fun q134 => ?_) (fun q135 => ?_)
          · have q134 : 2147483649 = 2147483648 := q134
            exfalso; omega
          have q135 : ¬ (2147483649 = 2147483648) := q135
          refine x_const (np := 97) (x := 9223372043297226753) (a := 2147483649) (by decide +kernel) (by decide) (by decide) ?_
          refine x_goto (np := 100) (x := 101) (by decide +kernel) ?_
          have q136 : h130 1 2 = h124 1 2 := by rw [← e132]; exact x_up_k (Ne.symm (tne_11_1 t3))
          have q137 : h124 1 2 = h71 1 2 := by rw [← e126]; exact x_up_k (Ne.symm (tne_12_1 t3))
          have q138 : h130 62 1 = h124 62 1 := by rw [← e132]; exact x_up_k (Ne.symm (tne_11_62 t3))
          have q139 : h124 62 1 = h71 62 1 := by rw [← e126]; exact x_up_k (Ne.symm (tne_12_62 t3))
          have q140 : h71 62 1 = h47 62 1 := f73 62 1 (by decide +kernel)
          have q141 : h47 62 1 = h29 62 1 := f49 62 1 (by decide +kernel)
          have q142 : h29 62 1 = h11 62 1 := f31 62 1 (by decide +kernel)
          have q143 : h11 62 1 = h 62 1 := f13 62 1 (by decide +kernel)
          have q144 : h130 (r1 + 11) 2 = (1 + (h71 (r1 + 11) 2)) := by rw [← e132]; exact x_up_at
          have e145 : cl9 h130 = (1 + (h71 (r1 + 11) 2)) := (congrArg (fun z => h130 z 2) ((((((q138.trans q139).trans q140).trans q141).trans q142).trans q143).trans q2)).trans q144
          have q146 : h130 1 2 = h124 1 2 := by rw [← e132]; exact x_up_k (Ne.symm (tne_11_1 t3))
          have q147 : h124 1 2 = h71 1 2 := by rw [← e126]; exact x_up_k (Ne.symm (tne_12_1 t3))
          obtain ⟨w148, e149⟩ := Tk.no c17 (by first | decide | omega)
          obtain ⟨w150, e151⟩ := Tk.yes c35 (by first | decide | omega)
          obtain ⟨w152, e153⟩ := Tk.yes c53 (by first | decide | omega)
          have q154 : h130 1 2 = h124 1 2 := by rw [← e132]; exact x_up_k (Ne.symm (tne_11_1 t3))
          have q155 : h124 1 2 = h71 1 2 := by rw [← e126]; exact x_up_k (Ne.symm (tne_12_1 t3))
          refine x_retI (np := 102) (x := 0) (by decide +kernel) (by decide) (Or.inr ⟨by decide +kernel, by first | decide | omega, by first | decide | omega⟩) ⟨_, rfl, (by decide), ?_⟩
          exact ⟨j131, f133, (by first | decide | omega), (fun z => by first | decide | omega), (fun z => by first | decide | omega), (gL_if (i := 22) (by decide) w150 (show h11 1 2 = h 1 2 by first | decide | omega) e151 w152 rfl e153 c77 rfl (by first | decide | omega) (fun z => (show h71 1 2 = h130 1 2 by first | decide | omega))), (fun z => absurd z (by first | decide | omega))⟩
        have q119 : ¬ ((h71 (r1 + 11) 2) < 2147484048) := q119
        refine x_const (np := 11) (x := 9223372039002259456) (a := 2147483648) (by decide +kernel) (by decide) (by decide) ?_
        refine x_retI (np := 12) (x := 0) (by decide +kernel) (by decide) (Or.inr ⟨by decide +kernel, by first | decide | omega, by first | decide | omega⟩) ⟨_, rfl, (by decide), ?_⟩
        refine x_ifz (k := 0) (tg := 100) (np := 96) (by decide +kernel) (by decide) (by decide) (fun q156 => ?_) (fun q157 => ?_)
        · have q156 : 2147483648 = 2147483648 := q156
          refine x_const (np := 101) (x := 9223372039002259456) (a := 2147483648) (by decide +kernel) (by decide) (by decide) ?_
          have q158 : h71 62 1 = h47 62 1 := f73 62 1 (by decide +kernel)
          have q159 : h47 62 1 = h29 62 1 := f49 62 1 (by decide +kernel)
          have q160 : h29 62 1 = h11 62 1 := f31 62 1 (by decide +kernel)
          have q161 : h11 62 1 = h 62 1 := f13 62 1 (by decide +kernel)
          obtain ⟨w162, e163⟩ := Tk.no c17 (by first | decide | omega)
          obtain ⟨w164, e165⟩ := Tk.yes c35 (by first | decide | omega)
          obtain ⟨w166, e167⟩ := Tk.yes c53 (by first | decide | omega)
          obtain ⟨w168, e169⟩ := Tk.no c17 (by first | decide | omega)
          obtain ⟨w170, e171⟩ := Tk.yes c35 (by first | decide | omega)
          obtain ⟨w172, e173⟩ := Tk.yes c53 (by first | decide | omega)
          refine x_retI (np := 102) (x := 0) (by decide +kernel) (by decide) (Or.inr ⟨by decide +kernel, by first | decide | omega, by first | decide | omega⟩) ⟨_, rfl, (by decide), ?_⟩
          exact ⟨j72, f79, (by first | decide | omega), (fun z => by first | decide | omega), (fun z => by first | decide | omega), (gL_if (i := 22) (by decide) w164 (show h11 1 2 = h 1 2 by first | decide | omega) e165 w166 rfl e167 c77 rfl (by first | decide | omega) (fun z => rfl)), (fun _ => fL_if (i := 22) (by decide) w170 (show h11 1 2 = h 1 2 by first | decide | omega) e171 w172 rfl e173 (c78 (by first | decide | omega)) rfl rfl)⟩
        have q157 : ¬ (2147483648 = 2147483648) := q157
        exfalso; omega
      have q58 : ¬ (v43 ≠ 2147483648) := q58
      have b174 := c52 (by first | decide | omega)
      refine x_aload (np := 50) (x := 0) (by decide +kernel) rfl (x_nc_le (by decide)) ?_
      have q175 : h47 62 1 = h29 62 1 := f49 62 1 (by decide +kernel)
      have q176 : h29 62 1 = h11 62 1 := f31 62 1 (by decide +kernel)
      have q177 : h11 62 1 = h 62 1 := f13 62 1 (by decide +kernel)
      refine x_getR (np := 53) (x := 193) (f := 1) (q := (r1 + 11)) (by decide +kernel) (by decide) (by decide +kernel) (((q175.trans q176).trans q177).trans q2) ?_
      refine x_const (np := 54) (x := 9223372043297226753) (a := 2147483649) (by decide +kernel) (by decide) (by decide) ?_
      refine x_nI (t := 6) (mj := 36) (n := 2) (rc := 3) (ml := 2) (nr := 0) (np := 57) (as := [x_r (r1 + 11), iv_c 2147483649]) (rest := []) (lo1 := [x_r (r1 + 11), iv_c 2147483649]) (by decide +kernel) (by decide) (by decide +kernel) (x_rb_of (tr_11_3 t3)) rfl rfl (x_wr (tn_11 t3) (x_wi (by decide) x_wn)) x_wn (by decide) rfl ?_
      refine x_aload (np := 1) (x := 0) (by decide +kernel) rfl (x_nc_le (tn_11 t3)) ?_
      have q178 : h47 (r1 + 11) 2 = h29 (r1 + 11) 2 := jK 0 f49 (rg_T11_2_0_1 t3) (by first | decide | omega) (by first | decide | omega) (by decide)
      have q179 : h29 (r1 + 11) 2 = h11 (r1 + 11) 2 := jK 0 f31 (rg_T11_2_0_1 t3) (by first | decide | omega) (by first | decide | omega) (by decide)
      have q180 : h11 (r1 + 11) 2 = h (r1 + 11) 2 := jK 0 f13 (rg_T11_2_0_1 t3) (by first | decide | omega) (by first | decide | omega) (by decide)
      refine x_getC (np := 4) (x := 130) (f := 2) (q := (h (r1 + 11) 2)) (by decide +kernel) (by decide) (tg_11_130_2_0 t3) ((q178.trans q179).trans q180) (fun l181 => ?_)
      refine x_const (np := 7) (x := 9223373756989178256) (a := 2147484048) (by decide +kernel) (by decide) (by decide) ?_
      refine x_icmp (k := 2) (tg := 12) (np := 10) (by decide +kernel) (by decide) l181 (by decide) (fun q182 => ?_) (fun q183 => ?_)
      · have q182 : (h (r1 + 11) 2) < 2147484048 := q182
        refine x_aload (np := 13) (x := 0) (by decide +kernel) rfl (x_nc_le (tn_11 t3)) ?_
        have q184 : h47 (r1 + 11) 0 = (r1 + 12) := tf_11_0 j48 t3
        refine x_getR (np := 16) (x := 128) (f := 0) (q := (r1 + 12)) (by decide +kernel) (by decide) (tg_11_128_0_1 t3) q184 ?_
        refine x_aload (np := 17) (x := 0) (by decide +kernel) rfl (x_nc_le (tn_11 t3)) ?_
        have q185 : h47 (r1 + 11) 2 = h29 (r1 + 11) 2 := jK 0 f49 (rg_T11_2_0_1 t3) (by first | decide | omega) (by first | decide | omega) (by decide)
        have q186 : h29 (r1 + 11) 2 = h11 (r1 + 11) 2 := jK 0 f31 (rg_T11_2_0_1 t3) (by first | decide | omega) (by first | decide | omega) (by decide)
        have q187 : h11 (r1 + 11) 2 = h (r1 + 11) 2 := jK 0 f13 (rg_T11_2_0_1 t3) (by first | decide | omega) (by first | decide | omega) (by decide)
        refine x_getC (np := 20) (x := 130) (f := 2) (q := (h (r1 + 11) 2)) (by decide +kernel) (by decide) (tg_11_130_2_0 t3) ((q185.trans q186).trans q187) (fun l188 => ?_)
        refine x_iload (np := 21) (x := 1) (by decide +kernel) rfl (by decide) ?_
        obtain ⟨u189, q190⟩ : ∃ z, (h (r1 + 11) 2) = 2147483648 + z := ⟨(h (r1 + 11) 2) - 2147483648, by first | decide | omega⟩
        refine x_ast (np := 22) (x := 0) (kd := 1) (n := 400) (i := u189) (by decide +kernel) (Or.inl rfl) (ta_12_400 t3) (by first | decide | omega) (by first | decide | omega) (by decide) (by decide) (fun z => absurd z (by decide)) ?_
        have j192 := jU (e := u189) (v := 2147483649) u189 j48 (rg_T12_0_1_400 t3) (by first | decide | omega) (by first | decide | omega) (by first | decide | omega)
        have f194 := jF (e := u189) (v := 2147483649) u189 f54 (rg_T12_0_1_400 t3) (by first | decide | omega) (by first | decide | omega) (by decide)
        generalize e193 : x_up h47 (r1 + 12) u189 2147483649 = h191 at j192 f194 ⊢
        refine x_aload (np := 23) (x := 0) (by decide +kernel) rfl (x_nc_le (tn_11 t3)) ?_
        refine x_dup (np := 24) (x := 0) (by decide +kernel) (by have z := x_nc_le (k := (r1 + 11)) (tn_11 t3); unfold x_r; omega) ?_
        have q195 : h191 (r1 + 11) 2 = h47 (r1 + 11) 2 := by rw [← e193]; exact x_up_k tof_11_12
        have q196 : h47 (r1 + 11) 2 = h29 (r1 + 11) 2 := jK 0 f49 (rg_T11_2_0_1 t3) (by first | decide | omega) (by first | decide | omega) (by decide)
        have q197 : h29 (r1 + 11) 2 = h11 (r1 + 11) 2 := jK 0 f31 (rg_T11_2_0_1 t3) (by first | decide | omega) (by first | decide | omega) (by decide)
        have q198 : h11 (r1 + 11) 2 = h (r1 + 11) 2 := jK 0 f13 (rg_T11_2_0_1 t3) (by first | decide | omega) (by first | decide | omega) (by decide)
        refine x_getC (np := 27) (x := 130) (f := 2) (q := (h (r1 + 11) 2)) (by decide +kernel) (by decide) (tg_11_130_2_0 t3) (((q195.trans q196).trans q197).trans q198) (fun l199 => ?_)
        refine x_const (np := 28) (x := 9223372043297226753) (a := 2147483649) (by decide +kernel) (by decide) (by decide) ?_
        refine x_iadd (np := 29) (x := 0) (v := (1 + (h (r1 + 11) 2))) (by decide +kernel) l181 (by decide) (by first | decide | omega) (by first | decide | omega) ?_
        refine x_putI (np := 32) (x := 130) (f := 2) (by decide +kernel) (tg_11_130_2_0 t3) (by first | decide | omega) (Or.inl (by decide)) ?_
        have j201 := jU (e := 2) (v := (1 + (h (r1 + 11) 2))) 0 j192 (rg_T11_2_0_1 t3) (by first | decide | omega) (by first | decide | omega) (by first | decide | omega)
        have f203 := jF (e := 2) (v := (1 + (h (r1 + 11) 2))) 0 f194 (rg_T11_2_0_1 t3) (by first | decide | omega) (by first | decide | omega) (by decide)
        generalize e202 : x_up h191 (r1 + 11) 2 (1 + (h (r1 + 11) 2)) = h200 at j201 f203 ⊢
        refine x_const (np := 33) (x := 9223372043297226753) (a := 2147483649) (by decide +kernel) (by decide) (by decide) ?_
        refine x_retI (np := 34) (x := 0) (by decide +kernel) (by decide) (Or.inr ⟨by decide +kernel, by first | decide | omega, by first | decide | omega⟩) ⟨_, rfl, (by decide), ?_⟩
        refine x_ifz (k := 0) (tg := 75) (np := 60) (by decide +kernel) (by decide) (by decide) (fun q204 => ?_) (fun q205 => ?_)
        · have q204 : 2147483649 = 2147483648 := q204
          exfalso; omega
        have q205 : ¬ (2147483649 = 2147483648) := q205
        refine x_aload (np := 61) (x := 0) (by decide +kernel) rfl (x_nc_le (by decide)) ?_
        have q206 : h200 62 1 = h191 62 1 := by rw [← e202]; exact x_up_k (Ne.symm (tne_11_62 t3))
        have q207 : h191 62 1 = h47 62 1 := by rw [← e193]; exact x_up_k (Ne.symm (tne_12_62 t3))
        have q208 : h47 62 1 = h29 62 1 := f49 62 1 (by decide +kernel)
        have q209 : h29 62 1 = h11 62 1 := f31 62 1 (by decide +kernel)
        have q210 : h11 62 1 = h 62 1 := f13 62 1 (by decide +kernel)
        refine x_getR (np := 64) (x := 193) (f := 1) (q := (r1 + 11)) (by decide +kernel) (by decide) (by decide +kernel) (((((q206.trans q207).trans q208).trans q209).trans q210).trans q2) ?_
        refine x_iload (np := 65) (x := 1) (by decide +kernel) rfl (by decide) ?_
        refine x_nI (t := 6) (mj := 36) (n := 2) (rc := 3) (ml := 2) (nr := 0) (np := 68) (as := [x_r (r1 + 11), iv_c 2147485654]) (rest := []) (lo1 := [x_r (r1 + 11), iv_c 2147485654]) (by decide +kernel) (by decide) (by decide +kernel) (x_rb_of (tr_11_3 t3)) rfl rfl (x_wr (tn_11 t3) (x_wi (by decide) x_wn)) x_wn (by decide) rfl ?_
        refine x_aload (np := 1) (x := 0) (by decide +kernel) rfl (x_nc_le (tn_11 t3)) ?_
        have q211 : h200 (r1 + 11) 2 = (1 + (h (r1 + 11) 2)) := by rw [← e202]; exact x_up_at
        refine x_getC (np := 4) (x := 130) (f := 2) (q := (1 + (h (r1 + 11) 2))) (by decide +kernel) (by decide) (tg_11_130_2_0 t3) q211 (fun l212 => ?_)
        refine x_const (np := 7) (x := 9223373756989178256) (a := 2147484048) (by decide +kernel) (by decide) (by decide) ?_
        refine x_icmp (k := 2) (tg := 12) (np := 10) (by decide +kernel) (by decide) (by first | decide | omega) (by decide) (fun q213 => ?_) (fun q214 => ?_)
        · have q213 : (1 + (h (r1 + 11) 2)) < 2147484048 := q213
          refine x_aload (np := 13) (x := 0) (by decide +kernel) rfl (x_nc_le (tn_11 t3)) ?_
          have q215 : h200 (r1 + 11) 0 = (r1 + 12) := tf_11_0 j201 t3
          refine x_getR (np := 16) (x := 128) (f := 0) (q := (r1 + 12)) (by decide +kernel) (by decide) (tg_11_128_0_1 t3) q215 ?_
          refine x_aload (np := 17) (x := 0) (by decide +kernel) rfl (x_nc_le (tn_11 t3)) ?_
          have q216 : h200 (r1 + 11) 2 = (1 + (h (r1 + 11) 2)) := by rw [← e202]; exact x_up_at
          refine x_getC (np := 20) (x := 130) (f := 2) (q := (1 + (h (r1 + 11) 2))) (by decide +kernel) (by decide) (tg_11_130_2_0 t3) q216 (fun l217 => ?_)
          refine x_iload (np := 21) (x := 1) (by decide +kernel) rfl (by decide) ?_
          refine x_ast (np := 22) (x := 0) (kd := 1) (n := 400) (i := (1 + u189)) (by decide +kernel) (Or.inl rfl) (ta_12_400 t3) (by first | decide | omega) (by first | decide | omega) (by decide) (by decide) (fun z => absurd z (by decide)) ?_
          have j219 := jU (e := (1 + u189)) (v := 2147485654) (1 + u189) j201 (rg_T12_0_1_400 t3) (by first | decide | omega) (by first | decide | omega) (by first | decide | omega)
          have f221 := jF (e := (1 + u189)) (v := 2147485654) (1 + u189) f203 (rg_T12_0_1_400 t3) (by first | decide | omega) (by first | decide | omega) (by decide)
          generalize e220 : x_up h200 (r1 + 12) (1 + u189) 2147485654 = h218 at j219 f221 ⊢
          refine x_aload (np := 23) (x := 0) (by decide +kernel) rfl (x_nc_le (tn_11 t3)) ?_
          refine x_dup (np := 24) (x := 0) (by decide +kernel) (by have z := x_nc_le (k := (r1 + 11)) (tn_11 t3); unfold x_r; omega) ?_
          have q222 : h218 (r1 + 11) 2 = h200 (r1 + 11) 2 := by rw [← e220]; exact x_up_k tof_11_12
          have q223 : h200 (r1 + 11) 2 = (1 + (h (r1 + 11) 2)) := by rw [← e202]; exact x_up_at
          refine x_getC (np := 27) (x := 130) (f := 2) (q := (1 + (h (r1 + 11) 2))) (by decide +kernel) (by decide) (tg_11_130_2_0 t3) (q222.trans q223) (fun l224 => ?_)
          refine x_const (np := 28) (x := 9223372043297226753) (a := 2147483649) (by decide +kernel) (by decide) (by decide) ?_
          refine x_iadd (np := 29) (x := 0) (v := (2 + (h (r1 + 11) 2))) (by decide +kernel) (by first | decide | omega) (by decide) (by first | decide | omega) (by first | decide | omega) ?_
          refine x_putI (np := 32) (x := 130) (f := 2) (by decide +kernel) (tg_11_130_2_0 t3) (by first | decide | omega) (Or.inl (by decide)) ?_
          have j226 := jU (e := 2) (v := (2 + (h (r1 + 11) 2))) 0 j219 (rg_T11_2_0_1 t3) (by first | decide | omega) (by first | decide | omega) (by first | decide | omega)
          have f228 := jF (e := 2) (v := (2 + (h (r1 + 11) 2))) 0 f221 (rg_T11_2_0_1 t3) (by first | decide | omega) (by first | decide | omega) (by decide)
          generalize e227 : x_up h218 (r1 + 11) 2 (2 + (h (r1 + 11) 2)) = h225 at j226 f228 ⊢
          refine x_const (np := 33) (x := 9223372043297226753) (a := 2147483649) (by decide +kernel) (by decide) (by decide) ?_
          refine x_retI (np := 34) (x := 0) (by decide +kernel) (by decide) (Or.inr ⟨by decide +kernel, by first | decide | omega, by first | decide | omega⟩) ⟨_, rfl, (by decide), ?_⟩
          refine x_ifz (k := 0) (tg := 75) (np := 71) (by decide +kernel) (by decide) (by decide) (fun q229 => ?_) (fun q230 => ?_)
          · have q229 : 2147483649 = 2147483648 := q229
            exfalso; omega
          have q230 : ¬ (2147483649 = 2147483648) := q230
          refine x_const (np := 72) (x := 9223372043297226753) (a := 2147483649) (by decide +kernel) (by decide) (by decide) ?_
          refine x_goto (np := 75) (x := 76) (by decide +kernel) ?_
          have q231 : h225 1 2 = h218 1 2 := by rw [← e227]; exact x_up_k (Ne.symm (tne_11_1 t3))
          have q232 : h218 1 2 = h200 1 2 := by rw [← e220]; exact x_up_k (Ne.symm (tne_12_1 t3))
          have q233 : h200 1 2 = h191 1 2 := by rw [← e202]; exact x_up_k (Ne.symm (tne_11_1 t3))
          have q234 : h191 1 2 = h47 1 2 := by rw [← e193]; exact x_up_k (Ne.symm (tne_12_1 t3))
          have q235 : h225 62 1 = h218 62 1 := by rw [← e227]; exact x_up_k (Ne.symm (tne_11_62 t3))
          have q236 : h218 62 1 = h200 62 1 := by rw [← e220]; exact x_up_k (Ne.symm (tne_12_62 t3))
          have q237 : h200 62 1 = h191 62 1 := by rw [← e202]; exact x_up_k (Ne.symm (tne_11_62 t3))
          have q238 : h191 62 1 = h47 62 1 := by rw [← e193]; exact x_up_k (Ne.symm (tne_12_62 t3))
          have q239 : h47 62 1 = h29 62 1 := f49 62 1 (by decide +kernel)
          have q240 : h29 62 1 = h11 62 1 := f31 62 1 (by decide +kernel)
          have q241 : h11 62 1 = h 62 1 := f13 62 1 (by decide +kernel)
          have q242 : h225 (r1 + 11) 2 = (2 + (h (r1 + 11) 2)) := by rw [← e227]; exact x_up_at
          have e243 : cl9 h225 = (2 + (h (r1 + 11) 2)) := (congrArg (fun z => h225 z 2) (((((((q235.trans q236).trans q237).trans q238).trans q239).trans q240).trans q241).trans q2)).trans q242
          have q244 : h225 1 2 = h218 1 2 := by rw [← e227]; exact x_up_k (Ne.symm (tne_11_1 t3))
          have q245 : h218 1 2 = h200 1 2 := by rw [← e220]; exact x_up_k (Ne.symm (tne_12_1 t3))
          have q246 : h200 1 2 = h191 1 2 := by rw [← e202]; exact x_up_k (Ne.symm (tne_11_1 t3))
          have q247 : h191 1 2 = h47 1 2 := by rw [← e193]; exact x_up_k (Ne.symm (tne_12_1 t3))
          obtain ⟨w248, e249⟩ := Tk.no c17 (by first | decide | omega)
          obtain ⟨w250, e251⟩ := Tk.yes c35 (by first | decide | omega)
          obtain ⟨w252, e253⟩ := Tk.no c53 (by first | decide | omega)
          have q254 : h225 1 2 = h218 1 2 := by rw [← e227]; exact x_up_k (Ne.symm (tne_11_1 t3))
          have q255 : h218 1 2 = h200 1 2 := by rw [← e220]; exact x_up_k (Ne.symm (tne_12_1 t3))
          have q256 : h200 1 2 = h191 1 2 := by rw [← e202]; exact x_up_k (Ne.symm (tne_11_1 t3))
          have q257 : h191 1 2 = h47 1 2 := by rw [← e193]; exact x_up_k (Ne.symm (tne_12_1 t3))
          refine x_retI (np := 77) (x := 0) (by decide +kernel) (by decide) (Or.inr ⟨by decide +kernel, by first | decide | omega, by first | decide | omega⟩) ⟨_, rfl, (by decide), ?_⟩
          exact ⟨j226, f228, (by first | decide | omega), (fun z => by first | decide | omega), (fun z => by first | decide | omega), (gL_end (i := 22) (by decide) w250 (show h11 1 2 = h 1 2 by first | decide | omega) e251 w252 rfl (by first | decide | omega) (show h29 1 2 = h225 1 2 by first | decide | omega)), (fun z => absurd z (by first | decide | omega))⟩
        have q214 : ¬ ((1 + (h (r1 + 11) 2)) < 2147484048) := q214
        exfalso; omega
      have q183 : ¬ ((h (r1 + 11) 2) < 2147484048) := q183
      exfalso; omega
    have q40 : ¬ (v25 ≠ 2147483648) := q40
    have b258 := c34 (by first | decide | omega)
    refine x_const (np := 36) (x := 9223372039002259456) (a := 2147483648) (by decide +kernel) (by decide) (by decide) ?_
    have q259 : h29 62 1 = h11 62 1 := f31 62 1 (by decide +kernel)
    have q260 : h11 62 1 = h 62 1 := f13 62 1 (by decide +kernel)
    have q261 : h29 (r1 + 11) 2 = h11 (r1 + 11) 2 := jK 0 f31 (rg_T11_2_0_1 t3) (by first | decide | omega) (by first | decide | omega) (by decide)
    have q262 : h11 (r1 + 11) 2 = h (r1 + 11) 2 := jK 0 f13 (rg_T11_2_0_1 t3) (by first | decide | omega) (by first | decide | omega) (by decide)
    have e263 : cl9 h29 = (h (r1 + 11) 2) := (congrArg (fun z => h29 z 2) ((q259.trans q260).trans q2)).trans (q261.trans q262)
    obtain ⟨w264, e265⟩ := Tk.no c17 (by first | decide | omega)
    obtain ⟨w266, e267⟩ := Tk.no c35 (by first | decide | omega)
    obtain ⟨w268, e269⟩ := Tk.no c17 (by first | decide | omega)
    obtain ⟨w270, e271⟩ := Tk.no c35 (by first | decide | omega)
    refine x_retI (np := 37) (x := 0) (by decide +kernel) (by decide) (Or.inr ⟨by decide +kernel, by first | decide | omega, by first | decide | omega⟩) ⟨_, rfl, (by decide), ?_⟩
    exact ⟨j30, f36, (by first | decide | omega), (fun z => by first | decide | omega), (fun z => by first | decide | omega), (gL_no w264 rfl w266 (show h11 1 2 = h 1 2 by first | decide | omega) (by first | decide | omega)), (fun _ => fL_no w268 rfl w270 (show h11 1 2 = h 1 2 by first | decide | omega) (show h29 1 2 = h 1 2 by first | decide | omega))⟩
  have q22 : ¬ (v8 = 2147483648) := q22
  have b272 := c15 (by first | decide | omega)
  refine x_const (np := 19) (x := 9223380659001624535) (a := 2147485655) (by decide +kernel) (by decide) (by decide) ?_
  refine x_istore (np := 20) (x := 1) (lo' := [x_r 62, iv_c 2147485655]) (by decide +kernel) (by decide) (Nat.le_of_ble_eq_true rfl) rfl ?_
  refine x_goto (np := 23) (x := 37) (by decide +kernel) ?_
  refine x_aload (np := 38) (x := 0) (by decide +kernel) rfl (x_nc_le (by decide)) ?_
  have q273 : h11 62 0 = 1 := by have z := jB (e := 0) 0 j12 rg_62_0_0_1 (by decide) (by decide); omega
  refine x_getR (np := 41) (x := 192) (f := 0) (q := 1) (by decide +kernel) (by decide) (by decide +kernel) q273 ?_
  refine x_ldcB (i := 23) (idx := 52) (tx := "if") (by rw [tb_y45]; exact List.mem_of_getElem? (i := 23) rfl) (by decide) (by rw [tb_b45]; decide +kernel) ?_
  have m277 := Tp.fr hT f13 (by decide) (by decide)
  refine x_cI (t := 6) (mj := 78) (n := 2) (rc := 8) (ml := 2) (nr := 0) (np := 46) (as := [x_r 1, x_b (23 + 1)]) (rest := []) (lo1 := [x_r 1, x_b (23 + 1)]) (by decide +kernel) (by decide) (by decide +kernel) (x_rb_of (by decide +kernel)) rfl rfl (x_wr (by decide) (x_wB (by decide) x_wn)) x_wn (by decide) rfl (c78_1_S0 j12  (by decide) m277) (fun v274 h278 l275 q276 => ?_)
  obtain ⟨j279, f280, b281, c282, c283, c284⟩ := q276
  have f285 := Fr.trans f18 f280 (by decide)
  have b286 := jB (e := 2) 0 j279 rg_1_2_0_1 (by first | decide | omega) (by first | decide | omega)
  have b287 : iv_tl 23 = 2 := by decide
  refine x_ifz (k := 1) (tg := 77) (np := 49) (by decide +kernel) (by decide) l275 (fun q288 => ?_) (fun q289 => ?_)
  · have q288 : v274 ≠ 2147483648 := q288
    have b290 := c282 (by first | decide | omega)
    refine x_aload (np := 78) (x := 0) (by decide +kernel) rfl (x_nc_le (by decide)) ?_
    refine x_const (np := 79) (x := 9223372039002259456) (a := 2147483648) (by decide +kernel) (by decide) (by decide) ?_
    have q291 : h278 62 1 = h11 62 1 := f280 62 1 (by decide +kernel)
    have q292 : h11 62 1 = h 62 1 := f13 62 1 (by decide +kernel)
    have q293 : h278 (r1 + 11) 2 = h11 (r1 + 11) 2 := jK 0 f280 (rg_T11_2_0_1 t3) (by first | decide | omega) (by first | decide | omega) (by decide)
    have q294 : h11 (r1 + 11) 2 = h (r1 + 11) 2 := jK 0 f13 (rg_T11_2_0_1 t3) (by first | decide | omega) (by first | decide | omega) (by decide)
    have e295 : cl9 h278 = (h (r1 + 11) 2) := (congrArg (fun z => h278 z 2) ((q291.trans q292).trans q2)).trans (q293.trans q294)
    have m299 := Tp.fr m277 f280 (by decide) (by decide)
    refine x_cI (t := 6) (mj := 46) (n := 2) (rc := 4) (ml := 3) (nr := 0) (np := 82) (as := [x_r 62, iv_c 2147483648]) (rest := []) (lo1 := [x_r 62, iv_c 2147483648, 147573952589676412928]) (by decide +kernel) (by decide) (by decide +kernel) (x_rb_of (by decide +kernel)) rfl rfl (x_wr (by decide) (x_wi (by decide) x_wn)) x_wn (by decide) rfl (c46_62_c0 j279   (by first | decide | omega) m299) (fun v296 h300 l297 q298 => ?_)
    obtain ⟨j301, f302, b303, c304, c305, c306, c307⟩ := q298
    have f308 := Fr.trans f285 f302 (by decide)
    have b309 := jB (e := 2) 0 j301 rg_1_2_0_1 (by first | decide | omega) (by first | decide | omega)
    have q310 : h278 62 1 = h11 62 1 := f280 62 1 (by decide +kernel)
    have q311 : h11 62 1 = h 62 1 := f13 62 1 (by decide +kernel)
    have q312 : h278 (r1 + 11) 2 = h11 (r1 + 11) 2 := jK 0 f280 (rg_T11_2_0_1 t3) (by first | decide | omega) (by first | decide | omega) (by decide)
    have q313 : h11 (r1 + 11) 2 = h (r1 + 11) 2 := jK 0 f13 (rg_T11_2_0_1 t3) (by first | decide | omega) (by first | decide | omega) (by decide)
    have q314 : h300 62 1 = h278 62 1 := f302 62 1 (by decide +kernel)
    have q315 : h278 62 1 = h11 62 1 := f280 62 1 (by decide +kernel)
    have q316 : h11 62 1 = h 62 1 := f13 62 1 (by decide +kernel)
    have b317 := jB (e := 2) 0 j301 (rg_T11_2_0_1 t3) (by first | decide | omega) (by first | decide | omega)
    have e318 : cl9 h300 = (h300 (r1 + 11) 2) := (congrArg (fun z => h300 z 2) (((q314.trans q315).trans q316).trans q2)).trans rfl
    refine x_ifz (k := 0) (tg := 100) (np := 85) (by decide +kernel) (by decide) l297 (fun q319 => ?_) (fun q320 => ?_)
    · have q319 : v296 = 2147483648 := q319
      refine x_const (np := 101) (x := 9223372039002259456) (a := 2147483648) (by decide +kernel) (by decide) (by decide) ?_
      have q321 : h300 62 1 = h278 62 1 := f302 62 1 (by decide +kernel)
      have q322 : h278 62 1 = h11 62 1 := f280 62 1 (by decide +kernel)
      have q323 : h11 62 1 = h 62 1 := f13 62 1 (by decide +kernel)
      obtain ⟨w324, e325⟩ := Tk.yes c17 (by first | decide | omega)
      obtain ⟨w326, e327⟩ := Tk.yes c284 (by first | decide | omega)
      obtain ⟨w328, e329⟩ := Tk.yes c17 (by first | decide | omega)
      obtain ⟨w330, e331⟩ := Tk.yes c284 (by first | decide | omega)
      refine x_retI (np := 102) (x := 0) (by decide +kernel) (by decide) (Or.inr ⟨by decide +kernel, by first | decide | omega, by first | decide | omega⟩) ⟨_, rfl, (by decide), ?_⟩
      exact ⟨j301, f308, (by first | decide | omega), (fun z => by first | decide | omega), (fun z => by first | decide | omega), (gL_if (i := 21) (by decide) w324 rfl e325 w326 rfl e327 c306 rfl (by first | decide | omega) (fun z => absurd z (by first | decide | omega))), (fun _ => fL_if (i := 21) (by decide) w328 rfl e329 w330 rfl e331 (c307 (by first | decide | omega)) rfl rfl)⟩
    have q320 : ¬ (v296 = 2147483648) := q320
    have b332 := c304 (by first | decide | omega)
    have b333 := c305 (by first | decide | omega)
    refine x_aload (np := 86) (x := 0) (by decide +kernel) rfl (x_nc_le (by decide)) ?_
    have q334 : h300 62 1 = h278 62 1 := f302 62 1 (by decide +kernel)
    have q335 : h278 62 1 = h11 62 1 := f280 62 1 (by decide +kernel)
    have q336 : h11 62 1 = h 62 1 := f13 62 1 (by decide +kernel)
    refine x_getR (np := 89) (x := 193) (f := 1) (q := (r1 + 11)) (by decide +kernel) (by decide) (by decide +kernel) (((q334.trans q335).trans q336).trans q2) ?_
    refine x_iload (np := 90) (x := 1) (by decide +kernel) rfl (by decide) ?_
    refine x_nI (t := 6) (mj := 36) (n := 2) (rc := 3) (ml := 2) (nr := 0) (np := 93) (as := [x_r (r1 + 11), iv_c 2147485655]) (rest := []) (lo1 := [x_r (r1 + 11), iv_c 2147485655]) (by decide +kernel) (by decide) (by decide +kernel) (x_rb_of (tr_11_3 t3)) rfl rfl (x_wr (tn_11 t3) (x_wi (by decide) x_wn)) x_wn (by decide) rfl ?_
    refine x_aload (np := 1) (x := 0) (by decide +kernel) rfl (x_nc_le (tn_11 t3)) ?_
    refine x_getC (np := 4) (x := 130) (f := 2) (q := (h300 (r1 + 11) 2)) (by decide +kernel) (by decide) (tg_11_130_2_0 t3) rfl (fun l337 => ?_)
    refine x_const (np := 7) (x := 9223373756989178256) (a := 2147484048) (by decide +kernel) (by decide) (by decide) ?_
    refine x_icmp (k := 2) (tg := 12) (np := 10) (by decide +kernel) (by decide) l337 (by decide) (fun q338 => ?_) (fun q339 => ?_)
    · have q338 : (h300 (r1 + 11) 2) < 2147484048 := q338
      refine x_aload (np := 13) (x := 0) (by decide +kernel) rfl (x_nc_le (tn_11 t3)) ?_
      have q340 : h300 (r1 + 11) 0 = (r1 + 12) := tf_11_0 j301 t3
      refine x_getR (np := 16) (x := 128) (f := 0) (q := (r1 + 12)) (by decide +kernel) (by decide) (tg_11_128_0_1 t3) q340 ?_
      refine x_aload (np := 17) (x := 0) (by decide +kernel) rfl (x_nc_le (tn_11 t3)) ?_
      refine x_getC (np := 20) (x := 130) (f := 2) (q := (h300 (r1 + 11) 2)) (by decide +kernel) (by decide) (tg_11_130_2_0 t3) rfl (fun l341 => ?_)
      refine x_iload (np := 21) (x := 1) (by decide +kernel) rfl (by decide) ?_
      obtain ⟨u342, q343⟩ : ∃ z, (h300 (r1 + 11) 2) = 2147483648 + z := ⟨(h300 (r1 + 11) 2) - 2147483648, by first | decide | omega⟩
      refine x_ast (np := 22) (x := 0) (kd := 1) (n := 400) (i := u342) (by decide +kernel) (Or.inl rfl) (ta_12_400 t3) (by first | decide | omega) (by first | decide | omega) (by decide) (by decide) (fun z => absurd z (by decide)) ?_
      have j345 := jU (e := u342) (v := 2147485655) u342 j301 (rg_T12_0_1_400 t3) (by first | decide | omega) (by first | decide | omega) (by first | decide | omega)
      have f347 := jF (e := u342) (v := 2147485655) u342 f308 (rg_T12_0_1_400 t3) (by first | decide | omega) (by first | decide | omega) (by decide)
      generalize e346 : x_up h300 (r1 + 12) u342 2147485655 = h344 at j345 f347 ⊢
      refine x_aload (np := 23) (x := 0) (by decide +kernel) rfl (x_nc_le (tn_11 t3)) ?_
      refine x_dup (np := 24) (x := 0) (by decide +kernel) (by have z := x_nc_le (k := (r1 + 11)) (tn_11 t3); unfold x_r; omega) ?_
      have q348 : h344 (r1 + 11) 2 = h300 (r1 + 11) 2 := by rw [← e346]; exact x_up_k tof_11_12
      refine x_getC (np := 27) (x := 130) (f := 2) (q := (h300 (r1 + 11) 2)) (by decide +kernel) (by decide) (tg_11_130_2_0 t3) q348 (fun l349 => ?_)
      refine x_const (np := 28) (x := 9223372043297226753) (a := 2147483649) (by decide +kernel) (by decide) (by decide) ?_
      refine x_iadd (np := 29) (x := 0) (v := (1 + (h300 (r1 + 11) 2))) (by decide +kernel) l337 (by decide) (by first | decide | omega) (by first | decide | omega) ?_
      refine x_putI (np := 32) (x := 130) (f := 2) (by decide +kernel) (tg_11_130_2_0 t3) (by first | decide | omega) (Or.inl (by decide)) ?_
      have j351 := jU (e := 2) (v := (1 + (h300 (r1 + 11) 2))) 0 j345 (rg_T11_2_0_1 t3) (by first | decide | omega) (by first | decide | omega) (by first | decide | omega)
      have f353 := jF (e := 2) (v := (1 + (h300 (r1 + 11) 2))) 0 f347 (rg_T11_2_0_1 t3) (by first | decide | omega) (by first | decide | omega) (by decide)
      generalize e352 : x_up h344 (r1 + 11) 2 (1 + (h300 (r1 + 11) 2)) = h350 at j351 f353 ⊢
      refine x_const (np := 33) (x := 9223372043297226753) (a := 2147483649) (by decide +kernel) (by decide) (by decide) ?_
      refine x_retI (np := 34) (x := 0) (by decide +kernel) (by decide) (Or.inr ⟨by decide +kernel, by first | decide | omega, by first | decide | omega⟩) ⟨_, rfl, (by decide), ?_⟩
      refine x_ifz (k := 0) (tg := 100) (np := 96) (by decide +kernel) (by decide) (by decide) (fun q354 => ?_) (fun q355 => ?_)
      · have q354 : 2147483649 = 2147483648 := q354
        exfalso; omega
      have q355 : ¬ (2147483649 = 2147483648) := q355
      refine x_const (np := 97) (x := 9223372043297226753) (a := 2147483649) (by decide +kernel) (by decide) (by decide) ?_
      refine x_goto (np := 100) (x := 101) (by decide +kernel) ?_
      have q356 : h350 1 2 = h344 1 2 := by rw [← e352]; exact x_up_k (Ne.symm (tne_11_1 t3))
      have q357 : h344 1 2 = h300 1 2 := by rw [← e346]; exact x_up_k (Ne.symm (tne_12_1 t3))
      have q358 : h350 62 1 = h344 62 1 := by rw [← e352]; exact x_up_k (Ne.symm (tne_11_62 t3))
      have q359 : h344 62 1 = h300 62 1 := by rw [← e346]; exact x_up_k (Ne.symm (tne_12_62 t3))
      have q360 : h300 62 1 = h278 62 1 := f302 62 1 (by decide +kernel)
      have q361 : h278 62 1 = h11 62 1 := f280 62 1 (by decide +kernel)
      have q362 : h11 62 1 = h 62 1 := f13 62 1 (by decide +kernel)
      have q363 : h350 (r1 + 11) 2 = (1 + (h300 (r1 + 11) 2)) := by rw [← e352]; exact x_up_at
      have e364 : cl9 h350 = (1 + (h300 (r1 + 11) 2)) := (congrArg (fun z => h350 z 2) (((((q358.trans q359).trans q360).trans q361).trans q362).trans q2)).trans q363
      have q365 : h350 1 2 = h344 1 2 := by rw [← e352]; exact x_up_k (Ne.symm (tne_11_1 t3))
      have q366 : h344 1 2 = h300 1 2 := by rw [← e346]; exact x_up_k (Ne.symm (tne_12_1 t3))
      obtain ⟨w367, e368⟩ := Tk.yes c17 (by first | decide | omega)
      obtain ⟨w369, e370⟩ := Tk.yes c284 (by first | decide | omega)
      have q371 : h350 1 2 = h344 1 2 := by rw [← e352]; exact x_up_k (Ne.symm (tne_11_1 t3))
      have q372 : h344 1 2 = h300 1 2 := by rw [← e346]; exact x_up_k (Ne.symm (tne_12_1 t3))
      refine x_retI (np := 102) (x := 0) (by decide +kernel) (by decide) (Or.inr ⟨by decide +kernel, by first | decide | omega, by first | decide | omega⟩) ⟨_, rfl, (by decide), ?_⟩
      exact ⟨j351, f353, (by first | decide | omega), (fun z => by first | decide | omega), (fun z => by first | decide | omega), (gL_if (i := 21) (by decide) w367 rfl e368 w369 rfl e370 c306 rfl (by first | decide | omega) (fun z => (show h300 1 2 = h350 1 2 by first | decide | omega))), (fun z => absurd z (by first | decide | omega))⟩
    have q339 : ¬ ((h300 (r1 + 11) 2) < 2147484048) := q339
    refine x_const (np := 11) (x := 9223372039002259456) (a := 2147483648) (by decide +kernel) (by decide) (by decide) ?_
    refine x_retI (np := 12) (x := 0) (by decide +kernel) (by decide) (Or.inr ⟨by decide +kernel, by first | decide | omega, by first | decide | omega⟩) ⟨_, rfl, (by decide), ?_⟩
    refine x_ifz (k := 0) (tg := 100) (np := 96) (by decide +kernel) (by decide) (by decide) (fun q373 => ?_) (fun q374 => ?_)
    · have q373 : 2147483648 = 2147483648 := q373
      refine x_const (np := 101) (x := 9223372039002259456) (a := 2147483648) (by decide +kernel) (by decide) (by decide) ?_
      have q375 : h300 62 1 = h278 62 1 := f302 62 1 (by decide +kernel)
      have q376 : h278 62 1 = h11 62 1 := f280 62 1 (by decide +kernel)
      have q377 : h11 62 1 = h 62 1 := f13 62 1 (by decide +kernel)
      obtain ⟨w378, e379⟩ := Tk.yes c17 (by first | decide | omega)
      obtain ⟨w380, e381⟩ := Tk.yes c284 (by first | decide | omega)
      obtain ⟨w382, e383⟩ := Tk.yes c17 (by first | decide | omega)
      obtain ⟨w384, e385⟩ := Tk.yes c284 (by first | decide | omega)
      refine x_retI (np := 102) (x := 0) (by decide +kernel) (by decide) (Or.inr ⟨by decide +kernel, by first | decide | omega, by first | decide | omega⟩) ⟨_, rfl, (by decide), ?_⟩
      exact ⟨j301, f308, (by first | decide | omega), (fun z => by first | decide | omega), (fun z => by first | decide | omega), (gL_if (i := 21) (by decide) w378 rfl e379 w380 rfl e381 c306 rfl (by first | decide | omega) (fun z => rfl)), (fun _ => fL_if (i := 21) (by decide) w382 rfl e383 w384 rfl e385 (c307 (by first | decide | omega)) rfl rfl)⟩
    have q374 : ¬ (2147483648 = 2147483648) := q374
    exfalso; omega
  have q289 : ¬ (v274 ≠ 2147483648) := q289
  have b386 := c283 (by first | decide | omega)
  refine x_aload (np := 50) (x := 0) (by decide +kernel) rfl (x_nc_le (by decide)) ?_
  have q387 : h278 62 1 = h11 62 1 := f280 62 1 (by decide +kernel)
  have q388 : h11 62 1 = h 62 1 := f13 62 1 (by decide +kernel)
  refine x_getR (np := 53) (x := 193) (f := 1) (q := (r1 + 11)) (by decide +kernel) (by decide) (by decide +kernel) ((q387.trans q388).trans q2) ?_
  refine x_const (np := 54) (x := 9223372043297226753) (a := 2147483649) (by decide +kernel) (by decide) (by decide) ?_
  refine x_nI (t := 6) (mj := 36) (n := 2) (rc := 3) (ml := 2) (nr := 0) (np := 57) (as := [x_r (r1 + 11), iv_c 2147483649]) (rest := []) (lo1 := [x_r (r1 + 11), iv_c 2147483649]) (by decide +kernel) (by decide) (by decide +kernel) (x_rb_of (tr_11_3 t3)) rfl rfl (x_wr (tn_11 t3) (x_wi (by decide) x_wn)) x_wn (by decide) rfl ?_
  refine x_aload (np := 1) (x := 0) (by decide +kernel) rfl (x_nc_le (tn_11 t3)) ?_
  have q389 : h278 (r1 + 11) 2 = h11 (r1 + 11) 2 := jK 0 f280 (rg_T11_2_0_1 t3) (by first | decide | omega) (by first | decide | omega) (by decide)
  have q390 : h11 (r1 + 11) 2 = h (r1 + 11) 2 := jK 0 f13 (rg_T11_2_0_1 t3) (by first | decide | omega) (by first | decide | omega) (by decide)
  refine x_getC (np := 4) (x := 130) (f := 2) (q := (h (r1 + 11) 2)) (by decide +kernel) (by decide) (tg_11_130_2_0 t3) (q389.trans q390) (fun l391 => ?_)
  refine x_const (np := 7) (x := 9223373756989178256) (a := 2147484048) (by decide +kernel) (by decide) (by decide) ?_
  refine x_icmp (k := 2) (tg := 12) (np := 10) (by decide +kernel) (by decide) l391 (by decide) (fun q392 => ?_) (fun q393 => ?_)
  · have q392 : (h (r1 + 11) 2) < 2147484048 := q392
    refine x_aload (np := 13) (x := 0) (by decide +kernel) rfl (x_nc_le (tn_11 t3)) ?_
    have q394 : h278 (r1 + 11) 0 = (r1 + 12) := tf_11_0 j279 t3
    refine x_getR (np := 16) (x := 128) (f := 0) (q := (r1 + 12)) (by decide +kernel) (by decide) (tg_11_128_0_1 t3) q394 ?_
    refine x_aload (np := 17) (x := 0) (by decide +kernel) rfl (x_nc_le (tn_11 t3)) ?_
    have q395 : h278 (r1 + 11) 2 = h11 (r1 + 11) 2 := jK 0 f280 (rg_T11_2_0_1 t3) (by first | decide | omega) (by first | decide | omega) (by decide)
    have q396 : h11 (r1 + 11) 2 = h (r1 + 11) 2 := jK 0 f13 (rg_T11_2_0_1 t3) (by first | decide | omega) (by first | decide | omega) (by decide)
    refine x_getC (np := 20) (x := 130) (f := 2) (q := (h (r1 + 11) 2)) (by decide +kernel) (by decide) (tg_11_130_2_0 t3) (q395.trans q396) (fun l397 => ?_)
    refine x_iload (np := 21) (x := 1) (by decide +kernel) rfl (by decide) ?_
    obtain ⟨u398, q399⟩ : ∃ z, (h (r1 + 11) 2) = 2147483648 + z := ⟨(h (r1 + 11) 2) - 2147483648, by first | decide | omega⟩
    refine x_ast (np := 22) (x := 0) (kd := 1) (n := 400) (i := u398) (by decide +kernel) (Or.inl rfl) (ta_12_400 t3) (by first | decide | omega) (by first | decide | omega) (by decide) (by decide) (fun z => absurd z (by decide)) ?_
    have j401 := jU (e := u398) (v := 2147483649) u398 j279 (rg_T12_0_1_400 t3) (by first | decide | omega) (by first | decide | omega) (by first | decide | omega)
    have f403 := jF (e := u398) (v := 2147483649) u398 f285 (rg_T12_0_1_400 t3) (by first | decide | omega) (by first | decide | omega) (by decide)
    generalize e402 : x_up h278 (r1 + 12) u398 2147483649 = h400 at j401 f403 ⊢
    refine x_aload (np := 23) (x := 0) (by decide +kernel) rfl (x_nc_le (tn_11 t3)) ?_
    refine x_dup (np := 24) (x := 0) (by decide +kernel) (by have z := x_nc_le (k := (r1 + 11)) (tn_11 t3); unfold x_r; omega) ?_
    have q404 : h400 (r1 + 11) 2 = h278 (r1 + 11) 2 := by rw [← e402]; exact x_up_k tof_11_12
    have q405 : h278 (r1 + 11) 2 = h11 (r1 + 11) 2 := jK 0 f280 (rg_T11_2_0_1 t3) (by first | decide | omega) (by first | decide | omega) (by decide)
    have q406 : h11 (r1 + 11) 2 = h (r1 + 11) 2 := jK 0 f13 (rg_T11_2_0_1 t3) (by first | decide | omega) (by first | decide | omega) (by decide)
    refine x_getC (np := 27) (x := 130) (f := 2) (q := (h (r1 + 11) 2)) (by decide +kernel) (by decide) (tg_11_130_2_0 t3) ((q404.trans q405).trans q406) (fun l407 => ?_)
    refine x_const (np := 28) (x := 9223372043297226753) (a := 2147483649) (by decide +kernel) (by decide) (by decide) ?_
    refine x_iadd (np := 29) (x := 0) (v := (1 + (h (r1 + 11) 2))) (by decide +kernel) l391 (by decide) (by first | decide | omega) (by first | decide | omega) ?_
    refine x_putI (np := 32) (x := 130) (f := 2) (by decide +kernel) (tg_11_130_2_0 t3) (by first | decide | omega) (Or.inl (by decide)) ?_
    have j409 := jU (e := 2) (v := (1 + (h (r1 + 11) 2))) 0 j401 (rg_T11_2_0_1 t3) (by first | decide | omega) (by first | decide | omega) (by first | decide | omega)
    have f411 := jF (e := 2) (v := (1 + (h (r1 + 11) 2))) 0 f403 (rg_T11_2_0_1 t3) (by first | decide | omega) (by first | decide | omega) (by decide)
    generalize e410 : x_up h400 (r1 + 11) 2 (1 + (h (r1 + 11) 2)) = h408 at j409 f411 ⊢
    refine x_const (np := 33) (x := 9223372043297226753) (a := 2147483649) (by decide +kernel) (by decide) (by decide) ?_
    refine x_retI (np := 34) (x := 0) (by decide +kernel) (by decide) (Or.inr ⟨by decide +kernel, by first | decide | omega, by first | decide | omega⟩) ⟨_, rfl, (by decide), ?_⟩
    refine x_ifz (k := 0) (tg := 75) (np := 60) (by decide +kernel) (by decide) (by decide) (fun q412 => ?_) (fun q413 => ?_)
    · have q412 : 2147483649 = 2147483648 := q412
      exfalso; omega
    have q413 : ¬ (2147483649 = 2147483648) := q413
    refine x_aload (np := 61) (x := 0) (by decide +kernel) rfl (x_nc_le (by decide)) ?_
    have q414 : h408 62 1 = h400 62 1 := by rw [← e410]; exact x_up_k (Ne.symm (tne_11_62 t3))
    have q415 : h400 62 1 = h278 62 1 := by rw [← e402]; exact x_up_k (Ne.symm (tne_12_62 t3))
    have q416 : h278 62 1 = h11 62 1 := f280 62 1 (by decide +kernel)
    have q417 : h11 62 1 = h 62 1 := f13 62 1 (by decide +kernel)
    refine x_getR (np := 64) (x := 193) (f := 1) (q := (r1 + 11)) (by decide +kernel) (by decide) (by decide +kernel) ((((q414.trans q415).trans q416).trans q417).trans q2) ?_
    refine x_iload (np := 65) (x := 1) (by decide +kernel) rfl (by decide) ?_
    refine x_nI (t := 6) (mj := 36) (n := 2) (rc := 3) (ml := 2) (nr := 0) (np := 68) (as := [x_r (r1 + 11), iv_c 2147485655]) (rest := []) (lo1 := [x_r (r1 + 11), iv_c 2147485655]) (by decide +kernel) (by decide) (by decide +kernel) (x_rb_of (tr_11_3 t3)) rfl rfl (x_wr (tn_11 t3) (x_wi (by decide) x_wn)) x_wn (by decide) rfl ?_
    refine x_aload (np := 1) (x := 0) (by decide +kernel) rfl (x_nc_le (tn_11 t3)) ?_
    have q418 : h408 (r1 + 11) 2 = (1 + (h (r1 + 11) 2)) := by rw [← e410]; exact x_up_at
    refine x_getC (np := 4) (x := 130) (f := 2) (q := (1 + (h (r1 + 11) 2))) (by decide +kernel) (by decide) (tg_11_130_2_0 t3) q418 (fun l419 => ?_)
    refine x_const (np := 7) (x := 9223373756989178256) (a := 2147484048) (by decide +kernel) (by decide) (by decide) ?_
    refine x_icmp (k := 2) (tg := 12) (np := 10) (by decide +kernel) (by decide) (by first | decide | omega) (by decide) (fun q420 => ?_) (fun q421 => ?_)
    · have q420 : (1 + (h (r1 + 11) 2)) < 2147484048 := q420
      refine x_aload (np := 13) (x := 0) (by decide +kernel) rfl (x_nc_le (tn_11 t3)) ?_
      have q422 : h408 (r1 + 11) 0 = (r1 + 12) := tf_11_0 j409 t3
      refine x_getR (np := 16) (x := 128) (f := 0) (q := (r1 + 12)) (by decide +kernel) (by decide) (tg_11_128_0_1 t3) q422 ?_
      refine x_aload (np := 17) (x := 0) (by decide +kernel) rfl (x_nc_le (tn_11 t3)) ?_
      have q423 : h408 (r1 + 11) 2 = (1 + (h (r1 + 11) 2)) := by rw [← e410]; exact x_up_at
      refine x_getC (np := 20) (x := 130) (f := 2) (q := (1 + (h (r1 + 11) 2))) (by decide +kernel) (by decide) (tg_11_130_2_0 t3) q423 (fun l424 => ?_)
      refine x_iload (np := 21) (x := 1) (by decide +kernel) rfl (by decide) ?_
      refine x_ast (np := 22) (x := 0) (kd := 1) (n := 400) (i := (1 + u398)) (by decide +kernel) (Or.inl rfl) (ta_12_400 t3) (by first | decide | omega) (by first | decide | omega) (by decide) (by decide) (fun z => absurd z (by decide)) ?_
      have j426 := jU (e := (1 + u398)) (v := 2147485655) (1 + u398) j409 (rg_T12_0_1_400 t3) (by first | decide | omega) (by first | decide | omega) (by first | decide | omega)
      have f428 := jF (e := (1 + u398)) (v := 2147485655) (1 + u398) f411 (rg_T12_0_1_400 t3) (by first | decide | omega) (by first | decide | omega) (by decide)
      generalize e427 : x_up h408 (r1 + 12) (1 + u398) 2147485655 = h425 at j426 f428 ⊢
      refine x_aload (np := 23) (x := 0) (by decide +kernel) rfl (x_nc_le (tn_11 t3)) ?_
      refine x_dup (np := 24) (x := 0) (by decide +kernel) (by have z := x_nc_le (k := (r1 + 11)) (tn_11 t3); unfold x_r; omega) ?_
      have q429 : h425 (r1 + 11) 2 = h408 (r1 + 11) 2 := by rw [← e427]; exact x_up_k tof_11_12
      have q430 : h408 (r1 + 11) 2 = (1 + (h (r1 + 11) 2)) := by rw [← e410]; exact x_up_at
      refine x_getC (np := 27) (x := 130) (f := 2) (q := (1 + (h (r1 + 11) 2))) (by decide +kernel) (by decide) (tg_11_130_2_0 t3) (q429.trans q430) (fun l431 => ?_)
      refine x_const (np := 28) (x := 9223372043297226753) (a := 2147483649) (by decide +kernel) (by decide) (by decide) ?_
      refine x_iadd (np := 29) (x := 0) (v := (2 + (h (r1 + 11) 2))) (by decide +kernel) (by first | decide | omega) (by decide) (by first | decide | omega) (by first | decide | omega) ?_
      refine x_putI (np := 32) (x := 130) (f := 2) (by decide +kernel) (tg_11_130_2_0 t3) (by first | decide | omega) (Or.inl (by decide)) ?_
      have j433 := jU (e := 2) (v := (2 + (h (r1 + 11) 2))) 0 j426 (rg_T11_2_0_1 t3) (by first | decide | omega) (by first | decide | omega) (by first | decide | omega)
      have f435 := jF (e := 2) (v := (2 + (h (r1 + 11) 2))) 0 f428 (rg_T11_2_0_1 t3) (by first | decide | omega) (by first | decide | omega) (by decide)
      generalize e434 : x_up h425 (r1 + 11) 2 (2 + (h (r1 + 11) 2)) = h432 at j433 f435 ⊢
      refine x_const (np := 33) (x := 9223372043297226753) (a := 2147483649) (by decide +kernel) (by decide) (by decide) ?_
      refine x_retI (np := 34) (x := 0) (by decide +kernel) (by decide) (Or.inr ⟨by decide +kernel, by first | decide | omega, by first | decide | omega⟩) ⟨_, rfl, (by decide), ?_⟩
      refine x_ifz (k := 0) (tg := 75) (np := 71) (by decide +kernel) (by decide) (by decide) (fun q436 => ?_) (fun q437 => ?_)
      · have q436 : 2147483649 = 2147483648 := q436
        exfalso; omega
      have q437 : ¬ (2147483649 = 2147483648) := q437
      refine x_const (np := 72) (x := 9223372043297226753) (a := 2147483649) (by decide +kernel) (by decide) (by decide) ?_
      refine x_goto (np := 75) (x := 76) (by decide +kernel) ?_
      have q438 : h432 1 2 = h425 1 2 := by rw [← e434]; exact x_up_k (Ne.symm (tne_11_1 t3))
      have q439 : h425 1 2 = h408 1 2 := by rw [← e427]; exact x_up_k (Ne.symm (tne_12_1 t3))
      have q440 : h408 1 2 = h400 1 2 := by rw [← e410]; exact x_up_k (Ne.symm (tne_11_1 t3))
      have q441 : h400 1 2 = h278 1 2 := by rw [← e402]; exact x_up_k (Ne.symm (tne_12_1 t3))
      have q442 : h432 62 1 = h425 62 1 := by rw [← e434]; exact x_up_k (Ne.symm (tne_11_62 t3))
      have q443 : h425 62 1 = h408 62 1 := by rw [← e427]; exact x_up_k (Ne.symm (tne_12_62 t3))
      have q444 : h408 62 1 = h400 62 1 := by rw [← e410]; exact x_up_k (Ne.symm (tne_11_62 t3))
      have q445 : h400 62 1 = h278 62 1 := by rw [← e402]; exact x_up_k (Ne.symm (tne_12_62 t3))
      have q446 : h278 62 1 = h11 62 1 := f280 62 1 (by decide +kernel)
      have q447 : h11 62 1 = h 62 1 := f13 62 1 (by decide +kernel)
      have q448 : h432 (r1 + 11) 2 = (2 + (h (r1 + 11) 2)) := by rw [← e434]; exact x_up_at
      have e449 : cl9 h432 = (2 + (h (r1 + 11) 2)) := (congrArg (fun z => h432 z 2) ((((((q442.trans q443).trans q444).trans q445).trans q446).trans q447).trans q2)).trans q448
      have q450 : h432 1 2 = h425 1 2 := by rw [← e434]; exact x_up_k (Ne.symm (tne_11_1 t3))
      have q451 : h425 1 2 = h408 1 2 := by rw [← e427]; exact x_up_k (Ne.symm (tne_12_1 t3))
      have q452 : h408 1 2 = h400 1 2 := by rw [← e410]; exact x_up_k (Ne.symm (tne_11_1 t3))
      have q453 : h400 1 2 = h278 1 2 := by rw [← e402]; exact x_up_k (Ne.symm (tne_12_1 t3))
      obtain ⟨w454, e455⟩ := Tk.yes c17 (by first | decide | omega)
      obtain ⟨w456, e457⟩ := Tk.no c284 (by first | decide | omega)
      have q458 : h432 1 2 = h425 1 2 := by rw [← e434]; exact x_up_k (Ne.symm (tne_11_1 t3))
      have q459 : h425 1 2 = h408 1 2 := by rw [← e427]; exact x_up_k (Ne.symm (tne_12_1 t3))
      have q460 : h408 1 2 = h400 1 2 := by rw [← e410]; exact x_up_k (Ne.symm (tne_11_1 t3))
      have q461 : h400 1 2 = h278 1 2 := by rw [← e402]; exact x_up_k (Ne.symm (tne_12_1 t3))
      refine x_retI (np := 77) (x := 0) (by decide +kernel) (by decide) (Or.inr ⟨by decide +kernel, by first | decide | omega, by first | decide | omega⟩) ⟨_, rfl, (by decide), ?_⟩
      exact ⟨j433, f435, (by first | decide | omega), (fun z => by first | decide | omega), (fun z => by first | decide | omega), (gL_end (i := 21) (by decide) w454 rfl e455 w456 rfl (by first | decide | omega) (show h11 1 2 = h432 1 2 by first | decide | omega)), (fun z => absurd z (by first | decide | omega))⟩
    have q421 : ¬ ((1 + (h (r1 + 11) 2)) < 2147484048) := q421
    exfalso; omega
  have q393 : ¬ ((h (r1 + 11) 2) < 2147484048) := q393
  exfalso; omega
set_option maxHeartbeats 0 in
/-- LentNames$CustomReader.reads(LLentNames$Custom;)Z -/
theorem c44_62_T11 {sc : Nat × Nat} {d ra1 : Nat} {h : xh} {tB : Nat → Nat} {tN : Nat} (hJ : J h) (ta1 : tw ra1) (hT : Tp tB tN h) : X sc 44 (d + 30) (xI fun r h' => J h' ∧ Fr 16545 h h' ∧ (2147483648 ≤ r ∧ r ≤ 2147483649) ∧ Cu tB tN (rs r (ln9 h')) ∧ h' 62 1 = ra1 + 11 ∧ (r = 2147483648 → CuF tB tN (h' 1 2))) 0 0 0 [x_r 62, x_r (ra1 + 11), 147573952589676412928] [] h := by
  have hF := Fr.refl 16545 h
  refine x_aload (np := 1) (x := 0) (by decide +kernel) rfl (x_nc_le (by decide)) ?_
  refine x_aload (np := 2) (x := 1) (by decide +kernel) rfl (x_nc_le (tn_11 ta1)) ?_
  refine x_putR (np := 5) (x := 8385) (f := 1) (by decide +kernel) (by decide +kernel) (tn_11 ta1) (by decide) ?_
  have j2 := J_upC hJ ta1
  have f4 := Fr.up (k := 62) (i := 1) (v := (ra1 + 11)) hF (by decide +kernel)
  generalize e3 : x_up h 62 1 (ra1 + 11) = h1 at j2 f4 ⊢
  refine x_aload (np := 6) (x := 0) (by decide +kernel) rfl (x_nc_le (by decide)) ?_
  have q5 : h1 62 1 = (ra1 + 11) := by rw [← e3]; exact x_up_at
  refine x_getR (np := 9) (x := 193) (f := 1) (q := (ra1 + 11)) (by decide +kernel) (by decide) (by decide +kernel) q5 ?_
  refine x_nV (t := 6) (mj := 35) (n := 1) (rc := 3) (ml := 1) (nr := 0) (np := 12) (as := [x_r (ra1 + 11)]) (rest := []) (lo1 := [x_r (ra1 + 11)]) (by decide +kernel) (by decide) (by decide +kernel) (x_rb_of (tr_11_3 ta1)) rfl rfl (x_wr (tn_11 ta1) x_wn) x_wn (by decide) rfl ?_
  refine x_aload (np := 1) (x := 0) (by decide +kernel) rfl (x_nc_le (tn_11 ta1)) ?_
  refine x_const (np := 2) (x := 9223372039002259456) (a := 2147483648) (by decide +kernel) (by decide) (by decide) ?_
  refine x_putI (np := 5) (x := 130) (f := 2) (by decide +kernel) (tg_11_130_2_0 ta1) (by decide) (Or.inl (by decide)) ?_
  have j7 := jU (e := 2) (v := 2147483648) 0 j2 (rg_T11_2_0_1 ta1) (by first | decide | omega) (by first | decide | omega) (by first | decide | omega)
  have f9 := jF (e := 2) (v := 2147483648) 0 f4 (rg_T11_2_0_1 ta1) (by first | decide | omega) (by first | decide | omega) (by decide)
  generalize e8 : x_up h1 (ra1 + 11) 2 2147483648 = h6 at j7 f9 ⊢
  refine x_aload (np := 6) (x := 0) (by decide +kernel) rfl (x_nc_le (tn_11 ta1)) ?_
  refine x_const (np := 7) (x := 9223372039002259456) (a := 2147483648) (by decide +kernel) (by decide) (by decide) ?_
  refine x_putI (np := 10) (x := 131) (f := 3) (by decide +kernel) (tg_11_131_3_0 ta1) (by decide) (Or.inl (by decide)) ?_
  have j11 := jU (e := 3) (v := 2147483648) 0 j7 (rg_T11_3_0_1 ta1) (by first | decide | omega) (by first | decide | omega) (by first | decide | omega)
  have f13 := jF (e := 3) (v := 2147483648) 0 f9 (rg_T11_3_0_1 ta1) (by first | decide | omega) (by first | decide | omega) (by decide)
  generalize e12 : x_up h6 (ra1 + 11) 3 2147483648 = h10 at j11 f13 ⊢
  refine x_retV (np := 11) (x := 0) (by decide +kernel) (by decide +kernel) ⟨rfl, ?_⟩
  refine x_aload (np := 13) (x := 0) (by decide +kernel) rfl (x_nc_le (by decide)) ?_
  have q14 : h10 62 0 = 1 := by have z := jB (e := 0) 0 j11 rg_62_0_0_1 (by decide) (by decide); omega
  refine x_getR (np := 16) (x := 192) (f := 0) (q := 1) (by decide +kernel) (by decide) (by decide +kernel) q14 ?_
  refine x_nV (t := 6) (mj := 73) (n := 1) (rc := 8) (ml := 1) (nr := 0) (np := 19) (as := [x_r 1]) (rest := []) (lo1 := [x_r 1]) (by decide +kernel) (by decide) (by decide +kernel) (x_rb_of (by decide +kernel)) rfl rfl (x_wr (by decide) x_wn) x_wn (by decide) rfl ?_
  refine x_aload (np := 1) (x := 0) (by decide +kernel) rfl (x_nc_le (by decide)) ?_
  refine x_const (np := 2) (x := 9223372039002259456) (a := 2147483648) (by decide +kernel) (by decide) (by decide) ?_
  have m20 : Tp tB tN h1 := by rw [← e3]; exact Tp.oth hT (by decide) (by decide)
  have m19 : Tp tB tN h6 := by rw [← e8]; exact Tp.oth m20 (tne_11_2 ta1) (fun z => absurd z.1 (tne_11_1 ta1))
  have m18 : Tp tB tN h10 := by rw [← e12]; exact Tp.oth m19 (tne_11_2 ta1) (fun z => absurd z.1 (tne_11_1 ta1))
  refine x_cV (t := 6) (mj := 80) (n := 2) (rc := 8) (ml := 2) (nr := 0) (np := 5) (as := [x_r 1, iv_c 2147483648]) (rest := []) (lo1 := [x_r 1, iv_c 2147483648]) (by decide +kernel) (by decide) (by decide +kernel) (x_rb_of (by decide +kernel)) rfl rfl (x_wr (by decide) (x_wi (by decide) x_wn)) x_wn (by decide) rfl (c80_1 j11  (by first | decide | omega) m18) (fun h21 q17 => ?_)
  obtain ⟨j22, f23, c26, c27⟩ := q17
  have f28 := Fr.trans f13 f23 (by decide)
  have b29 := jB (e := 2) 0 j22 rg_1_2_0_1 (by first | decide | omega) (by first | decide | omega)
  refine x_retV (np := 6) (x := 0) (by decide +kernel) (by decide +kernel) ⟨rfl, ?_⟩
  refine x_aload (np := 20) (x := 0) (by decide +kernel) rfl (x_nc_le (by decide)) ?_
  have q30 : h21 62 0 = 1 := by have z := jB (e := 0) 0 j22 rg_62_0_0_1 (by decide) (by decide); omega
  refine x_getR (np := 23) (x := 192) (f := 0) (q := 1) (by decide +kernel) (by decide) (by decide +kernel) q30 ?_
  refine x_nI (t := 6) (mj := 74) (n := 1) (rc := 8) (ml := 1) (nr := 0) (np := 26) (as := [x_r 1]) (rest := []) (lo1 := [x_r 1]) (by decide +kernel) (by decide) (by decide +kernel) (x_rb_of (by decide +kernel)) rfl rfl (x_wr (by decide) x_wn) x_wn (by decide) rfl ?_
  refine x_aload (np := 1) (x := 0) (by decide +kernel) rfl (x_nc_le (by decide)) ?_
  refine x_getC (np := 4) (x := 450) (f := 2) (q := (h21 1 2)) (by decide +kernel) (by decide) (by decide +kernel) rfl (fun l31 => ?_)
  refine x_aload (np := 5) (x := 0) (by decide +kernel) rfl (x_nc_le (by decide)) ?_
  have q32 : h21 1 1 = h10 1 1 := jK 0 f23 rg_1_1_0_1 (by first | decide | omega) (by first | decide | omega) (by decide)
  have q33 : h10 1 1 = h6 1 1 := by rw [← e12]; exact x_up_k (Ne.symm (tne_11_1 ta1))
  have q34 : h6 1 1 = h1 1 1 := by rw [← e8]; exact x_up_k (Ne.symm (tne_11_1 ta1))
  have q35 : h1 1 1 = h 1 1 := by rw [← e3]; exact x_up_k (by decide)
  have b36 := jB (e := 1) 0 hJ rg_1_1_0_1 (by first | decide | omega) (by first | decide | omega)
  refine x_getC (np := 8) (x := 449) (f := 1) (q := (h 1 1)) (by decide +kernel) (by decide) (by decide +kernel) (((q32.trans q33).trans q34).trans q35) (fun l37 => ?_)
  refine x_icmp (k := 2) (tg := 15) (np := 11) (by decide +kernel) (by decide) l31 l37 (fun q38 => ?_) (fun q39 => ?_)
  · have q38 : (h21 1 2) < (h 1 1) := q38
    refine x_const (np := 16) (x := 9223372039002259456) (a := 2147483648) (by decide +kernel) (by decide) (by decide) ?_
    refine x_retI (np := 17) (x := 0) (by decide +kernel) (by decide) (Or.inr ⟨by decide +kernel, by first | decide | omega, by first | decide | omega⟩) ⟨_, rfl, (by decide), ?_⟩
    refine x_ifz (k := 0) (tg := 31) (np := 29) (by decide +kernel) (by decide) (by decide) (fun q40 => ?_) (fun q41 => ?_)
    · have q40 : 2147483648 = 2147483648 := q40
      refine x_const (np := 32) (x := 9223372043297226753) (a := 2147483649) (by decide +kernel) (by decide) (by decide) ?_
      refine x_istore (np := 33) (x := 2) (lo' := [x_r 62, x_r (ra1 + 11), iv_c 2147483649]) (by decide +kernel) (by decide) (Nat.le_of_ble_eq_true rfl) rfl ?_
      have p924 : ∀ (n : Nat) (v919 : Nat) (h921 : xh), 4294967296 - v919 < n → (2147483649 ≤ v919 ∧ v919 ≤ 2147483659) → cl9 h921 ≤ h921 1 2 → J h921 → Fr 161 h21 h921 → Lq tB tN (v919 - 1) (h921 1 2) → LqF tB tN (v919 - 1) (h921 1 2) → X sc 44 (d + 30) (xI fun r h' => J h' ∧ Fr 16545 h h' ∧ (2147483648 ≤ r ∧ r ≤ 2147483649) ∧ Cu tB tN (rs r (ln9 h')) ∧ h' 62 1 = ra1 + 11 ∧ (r = 2147483648 → CuF tB tN (h' 1 2))) 0 0 33 [x_r 62, x_r (ra1 + 11), iv_c v919] [] h921 := by
        intro n
        induction n with
        | zero => intro v919 h921 q928; exact absurd q928 (Nat.not_lt_zero _)
        | succ n i929 =>
          intro v919 h921 q928 b920 b925 j923 f922 m926 m927
          have f930 := Fr.trans f28 f922 (by decide)
          have b931 := jB (e := 2) 0 j923 rg_1_2_0_1 (by first | decide | omega) (by first | decide | omega)
          have q932 : h921 62 1 = h21 62 1 := f922 62 1 (by decide +kernel)
          have q933 : h21 62 1 = h10 62 1 := f23 62 1 (by decide +kernel)
          have q934 : h10 62 1 = h6 62 1 := by rw [← e12]; exact x_up_k (Ne.symm (tne_11_62 ta1))
          have q935 : h6 62 1 = h1 62 1 := by rw [← e8]; exact x_up_k (Ne.symm (tne_11_62 ta1))
          have q936 : h1 62 1 = (ra1 + 11) := by rw [← e3]; exact x_up_at
          have b937 := jB (e := 2) 0 j923 (rg_T11_2_0_1 ta1) (by first | decide | omega) (by first | decide | omega)
          have e938 : cl9 h921 = (h921 (ra1 + 11) 2) := (congrArg (fun z => h921 z 2) ((((q932.trans q933).trans q934).trans q935).trans q936)).trans rfl
          refine x_iload (np := 34) (x := 2) (by decide +kernel) rfl (by first | decide | omega) ?_
          refine x_const (np := 36) (x := 9223372081951932426) (a := 2147483658) (by decide +kernel) (by decide) (by decide) ?_
          refine x_icmp (k := 4) (tg := 88) (np := 39) (by decide +kernel) (by decide) (by first | decide | omega) (by decide) (fun q939 => ?_) (fun q940 => ?_)
          · have q939 : 2147483658 < v919 := q939
            refine x_const (np := 89) (x := 9223372039002259456) (a := 2147483648) (by decide +kernel) (by decide) (by decide) ?_
            have q941 : h921 62 1 = h21 62 1 := f922 62 1 (by decide +kernel)
            have q942 : h21 62 1 = h10 62 1 := f23 62 1 (by decide +kernel)
            have q943 : h10 62 1 = h6 62 1 := by rw [← e12]; exact x_up_k (Ne.symm (tne_11_62 ta1))
            have q944 : h6 62 1 = h1 62 1 := by rw [← e8]; exact x_up_k (Ne.symm (tne_11_62 ta1))
            have q945 : h1 62 1 = (ra1 + 11) := by rw [← e3]; exact x_up_at
            refine x_retI (np := 90) (x := 0) (by decide +kernel) (by decide) (Or.inr ⟨by decide +kernel, by first | decide | omega, by first | decide | omega⟩) ⟨_, rfl, (by decide), ?_⟩
            exact ⟨j923, f930, (by first | decide | omega), (Cu.n0 (by first | decide | omega) (Lq.full m926 (by first | decide | omega))), ((((q941.trans q942).trans q943).trans q944).trans q945), (fun _ => LqF.full m927 (by first | decide | omega) rfl)⟩
          have q940 : ¬ (2147483658 < v919) := q940
          refine x_aload (np := 40) (x := 0) (by decide +kernel) rfl (x_nc_le (by decide)) ?_
          have q946 : h921 62 1 = h21 62 1 := f922 62 1 (by decide +kernel)
          have q947 : h21 62 1 = h10 62 1 := f23 62 1 (by decide +kernel)
          have q948 : h10 62 1 = h6 62 1 := by rw [← e12]; exact x_up_k (Ne.symm (tne_11_62 ta1))
          have q949 : h6 62 1 = h1 62 1 := by rw [← e8]; exact x_up_k (Ne.symm (tne_11_62 ta1))
          have q950 : h1 62 1 = (ra1 + 11) := by rw [← e3]; exact x_up_at
          have m955 := Tp.fr m18 f23 (by decide) (by decide)
          have m954 := Tp.fr m955 f922 (by decide) (by decide)
          refine x_cI (t := 6) (mj := 45) (n := 1) (rc := 4) (ml := 2) (nr := 0) (np := 43) (as := [x_r 62]) (rest := []) (lo1 := [x_r 62, 147573952589676412928]) (by decide +kernel) (by decide) (by decide +kernel) (x_rb_of (by decide +kernel)) rfl rfl (x_wr (by decide) x_wn) x_wn (by decide) rfl (c45_62 j923  (by first | decide | omega) m954) (fun v951 h956 l952 q953 => ?_)
          obtain ⟨j957, f958, b959, c960, c961, c962, c963⟩ := q953
          have f964 := Fr.trans f930 f958 (by decide)
          have f965 := Fr.trans f922 f958 (by decide)
          have b966 := jB (e := 2) 0 j957 rg_1_2_0_1 (by first | decide | omega) (by first | decide | omega)
          have q967 : h956 62 1 = h921 62 1 := f958 62 1 (by decide +kernel)
          have q968 : h921 62 1 = h21 62 1 := f922 62 1 (by decide +kernel)
          have q969 : h21 62 1 = h10 62 1 := f23 62 1 (by decide +kernel)
          have q970 : h10 62 1 = h6 62 1 := by rw [← e12]; exact x_up_k (Ne.symm (tne_11_62 ta1))
          have q971 : h6 62 1 = h1 62 1 := by rw [← e8]; exact x_up_k (Ne.symm (tne_11_62 ta1))
          have q972 : h1 62 1 = (ra1 + 11) := by rw [← e3]; exact x_up_at
          have b973 := jB (e := 2) 0 j957 (rg_T11_2_0_1 ta1) (by first | decide | omega) (by first | decide | omega)
          have e974 : cl9 h956 = (h956 (ra1 + 11) 2) := (congrArg (fun z => h956 z 2) (((((q967.trans q968).trans q969).trans q970).trans q971).trans q972)).trans rfl
          refine x_ifz (k := 1) (tg := 48) (np := 46) (by decide +kernel) (by decide) l952 (fun q975 => ?_) (fun q976 => ?_)
          · have q975 : v951 ≠ 2147483648 := q975
            have b977 := c960 (by first | decide | omega)
            have b978 := c961 (by first | decide | omega)
            refine x_aload (np := 49) (x := 0) (by decide +kernel) rfl (x_nc_le (by decide)) ?_
            have q979 : h956 62 1 = h921 62 1 := f958 62 1 (by decide +kernel)
            have q980 : h921 62 1 = h21 62 1 := f922 62 1 (by decide +kernel)
            have q981 : h21 62 1 = h10 62 1 := f23 62 1 (by decide +kernel)
            have q982 : h10 62 1 = h6 62 1 := by rw [← e12]; exact x_up_k (Ne.symm (tne_11_62 ta1))
            have q983 : h6 62 1 = h1 62 1 := by rw [← e8]; exact x_up_k (Ne.symm (tne_11_62 ta1))
            have q984 : h1 62 1 = (ra1 + 11) := by rw [← e3]; exact x_up_at
            refine x_getR (np := 52) (x := 193) (f := 1) (q := (ra1 + 11)) (by decide +kernel) (by decide) (by decide +kernel) (((((q979.trans q980).trans q981).trans q982).trans q983).trans q984) ?_
            refine x_iload (np := 53) (x := 2) (by decide +kernel) rfl (by first | decide | omega) ?_
            refine x_putI (np := 56) (x := 131) (f := 3) (by decide +kernel) (tg_11_131_3_0 ta1) (by first | decide | omega) (Or.inl (by decide)) ?_
            have j986 := jU (e := 3) (v := v919) 0 j957 (rg_T11_3_0_1 ta1) (by first | decide | omega) (by first | decide | omega) (by first | decide | omega)
            have f988 := jF (e := 3) (v := v919) 0 f964 (rg_T11_3_0_1 ta1) (by first | decide | omega) (by first | decide | omega) (by decide)
            have f989 := jF (e := 3) (v := v919) 0 f965 (rg_T11_3_0_1 ta1) (by first | decide | omega) (by first | decide | omega) (by decide)
            generalize e987 : x_up h956 (ra1 + 11) 3 v919 = h985 at j986 f988 f989 ⊢
            refine x_aload (np := 57) (x := 0) (by decide +kernel) rfl (x_nc_le (by decide)) ?_
            have q990 : h985 62 0 = 1 := by have z := jB (e := 0) 0 j986 rg_62_0_0_1 (by decide) (by decide); omega
            refine x_getR (np := 60) (x := 192) (f := 0) (q := 1) (by decide +kernel) (by decide) (by decide +kernel) q990 ?_
            refine x_nI (t := 6) (mj := 74) (n := 1) (rc := 8) (ml := 1) (nr := 0) (np := 63) (as := [x_r 1]) (rest := []) (lo1 := [x_r 1]) (by decide +kernel) (by decide) (by decide +kernel) (x_rb_of (by decide +kernel)) rfl rfl (x_wr (by decide) x_wn) x_wn (by decide) rfl ?_
            refine x_aload (np := 1) (x := 0) (by decide +kernel) rfl (x_nc_le (by decide)) ?_
            have q991 : h985 1 2 = h956 1 2 := by rw [← e987]; exact x_up_k (Ne.symm (tne_11_1 ta1))
            refine x_getC (np := 4) (x := 450) (f := 2) (q := (h956 1 2)) (by decide +kernel) (by decide) (by decide +kernel) q991 (fun l992 => ?_)
            refine x_aload (np := 5) (x := 0) (by decide +kernel) rfl (x_nc_le (by decide)) ?_
            have q993 : h985 1 1 = h956 1 1 := by rw [← e987]; exact x_up_k (Ne.symm (tne_11_1 ta1))
            have q994 : h956 1 1 = h921 1 1 := jK 0 f958 rg_1_1_0_1 (by first | decide | omega) (by first | decide | omega) (by decide)
            have q995 : h921 1 1 = h21 1 1 := jK 0 f922 rg_1_1_0_1 (by first | decide | omega) (by first | decide | omega) (by decide)
            have q996 : h21 1 1 = h10 1 1 := jK 0 f23 rg_1_1_0_1 (by first | decide | omega) (by first | decide | omega) (by decide)
            have q997 : h10 1 1 = h6 1 1 := by rw [← e12]; exact x_up_k (Ne.symm (tne_11_1 ta1))
            have q998 : h6 1 1 = h1 1 1 := by rw [← e8]; exact x_up_k (Ne.symm (tne_11_1 ta1))
            have q999 : h1 1 1 = h 1 1 := by rw [← e3]; exact x_up_k (by decide)
            refine x_getC (np := 8) (x := 449) (f := 1) (q := (h 1 1)) (by decide +kernel) (by decide) (by decide +kernel) ((((((q993.trans q994).trans q995).trans q996).trans q997).trans q998).trans q999) (fun l1000 => ?_)
            refine x_icmp (k := 2) (tg := 15) (np := 11) (by decide +kernel) (by decide) l992 l37 (fun q1001 => ?_) (fun q1002 => ?_)
            · have q1001 : (h956 1 2) < (h 1 1) := q1001
              refine x_const (np := 16) (x := 9223372039002259456) (a := 2147483648) (by decide +kernel) (by decide) (by decide) ?_
              refine x_retI (np := 17) (x := 0) (by decide +kernel) (by decide) (Or.inr ⟨by decide +kernel, by first | decide | omega, by first | decide | omega⟩) ⟨_, rfl, (by decide), ?_⟩
              refine x_ifz (k := 0) (tg := 68) (np := 66) (by decide +kernel) (by decide) (by decide) (fun q1003 => ?_) (fun q1004 => ?_)
              · have q1003 : 2147483648 = 2147483648 := q1003
                refine x_aload (np := 69) (x := 0) (by decide +kernel) rfl (x_nc_le (by decide)) ?_
                have q1005 : h985 62 0 = 1 := by have z := jB (e := 0) 0 j986 rg_62_0_0_1 (by decide) (by decide); omega
                refine x_getR (np := 72) (x := 192) (f := 0) (q := 1) (by decide +kernel) (by decide) (by decide +kernel) q1005 ?_
                refine x_const (np := 74) (x := 9223372292405329979) (a := 2147483707) (by decide +kernel) (by decide) (by decide) ?_
                have m1010 := Tp.fr m954 f958 (by decide) (by decide)
                have m1009 : Tp tB tN h985 := by rw [← e987]; exact Tp.oth m1010 (tne_11_2 ta1) (fun z => absurd z.1 (tne_11_1 ta1))
                refine x_cI (t := 6) (mj := 76) (n := 2) (rc := 8) (ml := 2) (nr := 0) (np := 77) (as := [x_r 1, iv_c 2147483707]) (rest := []) (lo1 := [x_r 1, iv_c 2147483707]) (by decide +kernel) (by decide) (by decide +kernel) (x_rb_of (by decide +kernel)) rfl rfl (x_wr (by decide) (x_wi (by decide) x_wn)) x_wn (by decide) rfl (c76_1 j986  (by first | decide | omega) m1009) (fun v1006 h1011 l1007 q1008 => ?_)
                obtain ⟨j1012, f1013, b1014, c1015, c1016, c1017⟩ := q1008
                have f1018 := Fr.trans f988 f1013 (by decide)
                have f1019 := Fr.trans f989 f1013 (by decide)
                have q1020 : h985 1 2 = h956 1 2 := by rw [← e987]; exact x_up_k (Ne.symm (tne_11_1 ta1))
                have b1021 := jB (e := 2) 0 j1012 rg_1_2_0_1 (by first | decide | omega) (by first | decide | omega)
                have q1022 : h985 1 2 = h956 1 2 := by rw [← e987]; exact x_up_k (Ne.symm (tne_11_1 ta1))
                refine x_ifz (k := 1) (tg := 82) (np := 80) (by decide +kernel) (by decide) l1007 (fun q1023 => ?_) (fun q1024 => ?_)
                · have q1023 : v1006 ≠ 2147483648 := q1023
                  have b1025 := c1015 (by first | decide | omega)
                  refine x_iinc (np := 85) (i := 2) (j := 2147483649) (v := (1 + v919)) (lo' := [x_r 62, x_r (ra1 + 11), iv_c (1 + v919)]) (by decide +kernel) (by decide) (by decide) rfl (by first | decide | omega) (by first | decide | omega) (by first | decide | omega) rfl ?_
                  refine x_goto (np := 88) (x := 33) (by decide +kernel) ?_
                  have q1026 : h1011 62 1 = h985 62 1 := f1013 62 1 (by decide +kernel)
                  have q1027 : h985 62 1 = h956 62 1 := by rw [← e987]; exact x_up_k (Ne.symm (tne_11_62 ta1))
                  have q1028 : h956 62 1 = h921 62 1 := f958 62 1 (by decide +kernel)
                  have q1029 : h921 62 1 = h21 62 1 := f922 62 1 (by decide +kernel)
                  have q1030 : h21 62 1 = h10 62 1 := f23 62 1 (by decide +kernel)
                  have q1031 : h10 62 1 = h6 62 1 := by rw [← e12]; exact x_up_k (Ne.symm (tne_11_62 ta1))
                  have q1032 : h6 62 1 = h1 62 1 := by rw [← e8]; exact x_up_k (Ne.symm (tne_11_62 ta1))
                  have q1033 : h1 62 1 = (ra1 + 11) := by rw [← e3]; exact x_up_at
                  have q1034 : h1011 (ra1 + 11) 2 = h985 (ra1 + 11) 2 := jK 0 f1013 (rg_T11_2_0_1 ta1) (by first | decide | omega) (by first | decide | omega) (by decide)
                  have q1035 : h985 (ra1 + 11) 2 = h956 (ra1 + 11) 2 := by rw [← e987]; exact x_up_i (by first | decide | omega)
                  have e1036 : cl9 h1011 = (h956 (ra1 + 11) 2) := (congrArg (fun z => h1011 z 2) (((((((q1026.trans q1027).trans q1028).trans q1029).trans q1030).trans q1031).trans q1032).trans q1033)).trans (q1034.trans q1035)
                  obtain ⟨w1037, e1038⟩ := Tk.yes c1017 (by first | decide | omega)
                  have q1039 : h985 1 2 = h956 1 2 := by rw [← e987]; exact x_up_k (Ne.symm (tne_11_1 ta1))
                  obtain ⟨w1040, e1041⟩ := Tk.yes c1017 (by first | decide | omega)
                  have q1042 : h985 1 2 = h956 1 2 := by rw [← e987]; exact x_up_k (Ne.symm (tne_11_1 ta1))
                  exact i929 (1 + v919) h1011 (by first | decide | omega) (by first | decide | omega) (by first | decide | omega) j1012 f1019 (Lq.go m926 (by first | decide | omega) c962 rfl (by first | decide | omega) w1037 (show h985 1 2 = h956 1 2 by first | decide | omega) e1038 (by first | decide | omega) rfl) (LqF.go m927 (by first | decide | omega) c962 rfl (by first | decide | omega) w1040 (show h985 1 2 = h956 1 2 by first | decide | omega) e1041 (by first | decide | omega) rfl)
                have q1024 : ¬ (v1006 ≠ 2147483648) := q1024
                have b1043 := c1016 (by first | decide | omega)
                refine x_const (np := 81) (x := 9223372039002259456) (a := 2147483648) (by decide +kernel) (by decide) (by decide) ?_
                have q1044 : h1011 62 1 = h985 62 1 := f1013 62 1 (by decide +kernel)
                have q1045 : h985 62 1 = h956 62 1 := by rw [← e987]; exact x_up_k (Ne.symm (tne_11_62 ta1))
                have q1046 : h956 62 1 = h921 62 1 := f958 62 1 (by decide +kernel)
                have q1047 : h921 62 1 = h21 62 1 := f922 62 1 (by decide +kernel)
                have q1048 : h21 62 1 = h10 62 1 := f23 62 1 (by decide +kernel)
                have q1049 : h10 62 1 = h6 62 1 := by rw [← e12]; exact x_up_k (Ne.symm (tne_11_62 ta1))
                have q1050 : h6 62 1 = h1 62 1 := by rw [← e8]; exact x_up_k (Ne.symm (tne_11_62 ta1))
                have q1051 : h1 62 1 = (ra1 + 11) := by rw [← e3]; exact x_up_at
                have q1052 : h956 1 1 = h921 1 1 := jK 0 f958 rg_1_1_0_1 (by first | decide | omega) (by first | decide | omega) (by decide)
                have q1053 : h921 1 1 = h21 1 1 := jK 0 f922 rg_1_1_0_1 (by first | decide | omega) (by first | decide | omega) (by decide)
                have q1054 : h21 1 1 = h10 1 1 := jK 0 f23 rg_1_1_0_1 (by first | decide | omega) (by first | decide | omega) (by decide)
                have q1055 : h10 1 1 = h6 1 1 := by rw [← e12]; exact x_up_k (Ne.symm (tne_11_1 ta1))
                have q1056 : h6 1 1 = h1 1 1 := by rw [← e8]; exact x_up_k (Ne.symm (tne_11_1 ta1))
                have q1057 : h1 1 1 = h 1 1 := by rw [← e3]; exact x_up_k (by decide)
                have z1058 := m1010.1
                obtain ⟨w1059, e1060⟩ := Tk.no c1017 (by first | decide | omega)
                have q1061 : h985 1 2 = h956 1 2 := by rw [← e987]; exact x_up_k (Ne.symm (tne_11_1 ta1))
                have q1062 : h956 1 1 = h921 1 1 := jK 0 f958 rg_1_1_0_1 (by first | decide | omega) (by first | decide | omega) (by decide)
                have q1063 : h921 1 1 = h21 1 1 := jK 0 f922 rg_1_1_0_1 (by first | decide | omega) (by first | decide | omega) (by decide)
                have q1064 : h21 1 1 = h10 1 1 := jK 0 f23 rg_1_1_0_1 (by first | decide | omega) (by first | decide | omega) (by decide)
                have q1065 : h10 1 1 = h6 1 1 := by rw [← e12]; exact x_up_k (Ne.symm (tne_11_1 ta1))
                have q1066 : h6 1 1 = h1 1 1 := by rw [← e8]; exact x_up_k (Ne.symm (tne_11_1 ta1))
                have q1067 : h1 1 1 = h 1 1 := by rw [← e3]; exact x_up_k (by decide)
                have z1068 := m1010.1
                obtain ⟨w1069, e1070⟩ := Tk.no c1017 (by first | decide | omega)
                have q1071 : h985 1 2 = h956 1 2 := by rw [← e987]; exact x_up_k (Ne.symm (tne_11_1 ta1))
                have q1072 : h985 1 2 = h956 1 2 := by rw [← e987]; exact x_up_k (Ne.symm (tne_11_1 ta1))
                refine x_retI (np := 82) (x := 0) (by decide +kernel) (by decide) (Or.inr ⟨by decide +kernel, by first | decide | omega, by first | decide | omega⟩) ⟨_, rfl, (by decide), ?_⟩
                exact ⟨j1012, f1018, (by first | decide | omega), (Cu.n0 (by first | decide | omega) (Lq.bad m926 (by first | decide | omega) c962 rfl (by first | decide | omega) (by first | decide | omega) w1059 (show h985 1 2 = h956 1 2 by first | decide | omega))), (((((((q1044.trans q1045).trans q1046).trans q1047).trans q1048).trans q1049).trans q1050).trans q1051), (fun _ => LqF.bad m927 (by first | decide | omega) c962 rfl (by first | decide | omega) (by first | decide | omega) w1069 (show h985 1 2 = h956 1 2 by first | decide | omega) (show h1011 1 2 = h985 1 2 by first | decide | omega))⟩
              have q1004 : ¬ (2147483648 = 2147483648) := q1004
              exfalso; omega
            have q1002 : ¬ ((h956 1 2) < (h 1 1)) := q1002
            refine x_const (np := 12) (x := 9223372043297226753) (a := 2147483649) (by decide +kernel) (by decide) (by decide) ?_
            refine x_goto (np := 15) (x := 16) (by decide +kernel) ?_
            refine x_retI (np := 17) (x := 0) (by decide +kernel) (by decide) (Or.inr ⟨by decide +kernel, by first | decide | omega, by first | decide | omega⟩) ⟨_, rfl, (by decide), ?_⟩
            refine x_ifz (k := 0) (tg := 68) (np := 66) (by decide +kernel) (by decide) (by decide) (fun q1073 => ?_) (fun q1074 => ?_)
            · have q1073 : 2147483649 = 2147483648 := q1073
              exfalso; omega
            have q1074 : ¬ (2147483649 = 2147483648) := q1074
            refine x_const (np := 67) (x := 9223372043297226753) (a := 2147483649) (by decide +kernel) (by decide) (by decide) ?_
            have q1075 : h985 62 1 = h956 62 1 := by rw [← e987]; exact x_up_k (Ne.symm (tne_11_62 ta1))
            have q1076 : h956 62 1 = h921 62 1 := f958 62 1 (by decide +kernel)
            have q1077 : h921 62 1 = h21 62 1 := f922 62 1 (by decide +kernel)
            have q1078 : h21 62 1 = h10 62 1 := f23 62 1 (by decide +kernel)
            have q1079 : h10 62 1 = h6 62 1 := by rw [← e12]; exact x_up_k (Ne.symm (tne_11_62 ta1))
            have q1080 : h6 62 1 = h1 62 1 := by rw [← e8]; exact x_up_k (Ne.symm (tne_11_62 ta1))
            have q1081 : h1 62 1 = (ra1 + 11) := by rw [← e3]; exact x_up_at
            have q1082 : h956 1 1 = h921 1 1 := jK 0 f958 rg_1_1_0_1 (by first | decide | omega) (by first | decide | omega) (by decide)
            have q1083 : h921 1 1 = h21 1 1 := jK 0 f922 rg_1_1_0_1 (by first | decide | omega) (by first | decide | omega) (by decide)
            have q1084 : h21 1 1 = h10 1 1 := jK 0 f23 rg_1_1_0_1 (by first | decide | omega) (by first | decide | omega) (by decide)
            have q1085 : h10 1 1 = h6 1 1 := by rw [← e12]; exact x_up_k (Ne.symm (tne_11_1 ta1))
            have q1086 : h6 1 1 = h1 1 1 := by rw [← e8]; exact x_up_k (Ne.symm (tne_11_1 ta1))
            have q1087 : h1 1 1 = h 1 1 := by rw [← e3]; exact x_up_k (by decide)
            have m1089 := Tp.fr m954 f958 (by decide) (by decide)
            have z1088 := m1089.1
            have q1090 : h985 62 1 = h956 62 1 := by rw [← e987]; exact x_up_k (Ne.symm (tne_11_62 ta1))
            have q1091 : h956 62 1 = h921 62 1 := f958 62 1 (by decide +kernel)
            have q1092 : h921 62 1 = h21 62 1 := f922 62 1 (by decide +kernel)
            have q1093 : h21 62 1 = h10 62 1 := f23 62 1 (by decide +kernel)
            have q1094 : h10 62 1 = h6 62 1 := by rw [← e12]; exact x_up_k (Ne.symm (tne_11_62 ta1))
            have q1095 : h6 62 1 = h1 62 1 := by rw [← e8]; exact x_up_k (Ne.symm (tne_11_62 ta1))
            have q1096 : h1 62 1 = (ra1 + 11) := by rw [← e3]; exact x_up_at
            have q1097 : h985 (ra1 + 11) 3 = v919 := by rw [← e987]; exact x_up_at
            have e1098 : ln9 h985 = v919 := (congrArg (fun z => h985 z 3) ((((((q1090.trans q1091).trans q1092).trans q1093).trans q1094).trans q1095).trans q1096)).trans q1097
            refine x_retI (np := 68) (x := 0) (by decide +kernel) (by decide) (Or.inr ⟨by decide +kernel, by first | decide | omega, by first | decide | omega⟩) ⟨_, rfl, (by decide), ?_⟩
            exact ⟨j986, f988, (by first | decide | omega), (Cu.s1 (by first | decide | omega) (Lq.fin (c' := v919) m926 (by first | decide | omega) c962 rfl (by first | decide | omega) (by first | decide | omega) (by first | decide | omega)) (by first | decide | omega)), ((((((q1075.trans q1076).trans q1077).trans q1078).trans q1079).trans q1080).trans q1081), (fun z => absurd z (by first | decide | omega))⟩
          have q976 : ¬ (v951 ≠ 2147483648) := q976
          refine x_const (np := 47) (x := 9223372039002259456) (a := 2147483648) (by decide +kernel) (by decide) (by decide) ?_
          have q1099 : h956 62 1 = h921 62 1 := f958 62 1 (by decide +kernel)
          have q1100 : h921 62 1 = h21 62 1 := f922 62 1 (by decide +kernel)
          have q1101 : h21 62 1 = h10 62 1 := f23 62 1 (by decide +kernel)
          have q1102 : h10 62 1 = h6 62 1 := by rw [← e12]; exact x_up_k (Ne.symm (tne_11_62 ta1))
          have q1103 : h6 62 1 = h1 62 1 := by rw [← e8]; exact x_up_k (Ne.symm (tne_11_62 ta1))
          have q1104 : h1 62 1 = (ra1 + 11) := by rw [← e3]; exact x_up_at
          refine x_retI (np := 48) (x := 0) (by decide +kernel) (by decide) (Or.inr ⟨by decide +kernel, by first | decide | omega, by first | decide | omega⟩) ⟨_, rfl, (by decide), ?_⟩
          exact ⟨j957, f964, (by first | decide | omega), (Cu.n0 (by first | decide | omega) (Lq.no m926 (by first | decide | omega) c962 rfl (by first | decide | omega))), (((((q1099.trans q1100).trans q1101).trans q1102).trans q1103).trans q1104), (fun _ => LqF.no m927 (by first | decide | omega) (c963 (by first | decide | omega)) rfl rfl)⟩
      have q1105 : h21 62 1 = h10 62 1 := f23 62 1 (by decide +kernel)
      have q1106 : h10 62 1 = h6 62 1 := by rw [← e12]; exact x_up_k (Ne.symm (tne_11_62 ta1))
      have q1107 : h6 62 1 = h1 62 1 := by rw [← e8]; exact x_up_k (Ne.symm (tne_11_62 ta1))
      have q1108 : h1 62 1 = (ra1 + 11) := by rw [← e3]; exact x_up_at
      have q1109 : h21 (ra1 + 11) 2 = h10 (ra1 + 11) 2 := jK 0 f23 (rg_T11_2_0_1 ta1) (by first | decide | omega) (by first | decide | omega) (by decide)
      have q1110 : h10 (ra1 + 11) 2 = h6 (ra1 + 11) 2 := by rw [← e12]; exact x_up_i (by first | decide | omega)
      have q1111 : h6 (ra1 + 11) 2 = 2147483648 := by rw [← e8]; exact x_up_at
      have e1112 : cl9 h21 = 2147483648 := (congrArg (fun z => h21 z 2) (((q1105.trans q1106).trans q1107).trans q1108)).trans ((q1109.trans q1110).trans q1111)
      have q1113 : h21 1 1 = h10 1 1 := jK 0 f23 rg_1_1_0_1 (by first | decide | omega) (by first | decide | omega) (by decide)
      have q1114 : h10 1 1 = h6 1 1 := by rw [← e12]; exact x_up_k (Ne.symm (tne_11_1 ta1))
      have q1115 : h6 1 1 = h1 1 1 := by rw [← e8]; exact x_up_k (Ne.symm (tne_11_1 ta1))
      have q1116 : h1 1 1 = h 1 1 := by rw [← e3]; exact x_up_k (by decide)
      have m1118 := Tp.fr m18 f23 (by decide) (by decide)
      have z1117 := m1118.1
      have q1119 : h21 1 1 = h10 1 1 := jK 0 f23 rg_1_1_0_1 (by first | decide | omega) (by first | decide | omega) (by decide)
      have q1120 : h10 1 1 = h6 1 1 := by rw [← e12]; exact x_up_k (Ne.symm (tne_11_1 ta1))
      have q1121 : h6 1 1 = h1 1 1 := by rw [← e8]; exact x_up_k (Ne.symm (tne_11_1 ta1))
      have q1122 : h1 1 1 = h 1 1 := by rw [← e3]; exact x_up_k (by decide)
      have z1123 := m1118.1
      exact p924 _ 2147483649 h21 (Nat.lt_succ_self _) (by first | decide | omega) (by first | decide | omega) j22 (Fr.refl _ _) (Lq.zero ((show h21 1 2 = h21 1 2 by first | decide | omega).trans c27) (by first | decide | omega) (by first | decide | omega)) (LqF.zero ((show h21 1 2 = h21 1 2 by first | decide | omega).trans c27) (by first | decide | omega) (by first | decide | omega))
    have q41 : ¬ (2147483648 = 2147483648) := q41
    exfalso; omega
  have q39 : ¬ ((h21 1 2) < (h 1 1)) := q39
  refine x_const (np := 12) (x := 9223372043297226753) (a := 2147483649) (by decide +kernel) (by decide) (by decide) ?_
  refine x_goto (np := 15) (x := 16) (by decide +kernel) ?_
  refine x_retI (np := 17) (x := 0) (by decide +kernel) (by decide) (Or.inr ⟨by decide +kernel, by first | decide | omega, by first | decide | omega⟩) ⟨_, rfl, (by decide), ?_⟩
  refine x_ifz (k := 0) (tg := 31) (np := 29) (by decide +kernel) (by decide) (by decide) (fun q1124 => ?_) (fun q1125 => ?_)
  · have q1124 : 2147483649 = 2147483648 := q1124
    exfalso; omega
  have q1125 : ¬ (2147483649 = 2147483648) := q1125
  refine x_const (np := 30) (x := 9223372043297226753) (a := 2147483649) (by decide +kernel) (by decide) (by decide) ?_
  have q1126 : h21 62 1 = h10 62 1 := f23 62 1 (by decide +kernel)
  have q1127 : h10 62 1 = h6 62 1 := by rw [← e12]; exact x_up_k (Ne.symm (tne_11_62 ta1))
  have q1128 : h6 62 1 = h1 62 1 := by rw [← e8]; exact x_up_k (Ne.symm (tne_11_62 ta1))
  have q1129 : h1 62 1 = (ra1 + 11) := by rw [← e3]; exact x_up_at
  have q1130 : h21 1 1 = h10 1 1 := jK 0 f23 rg_1_1_0_1 (by first | decide | omega) (by first | decide | omega) (by decide)
  have q1131 : h10 1 1 = h6 1 1 := by rw [← e12]; exact x_up_k (Ne.symm (tne_11_1 ta1))
  have q1132 : h6 1 1 = h1 1 1 := by rw [← e8]; exact x_up_k (Ne.symm (tne_11_1 ta1))
  have q1133 : h1 1 1 = h 1 1 := by rw [← e3]; exact x_up_k (by decide)
  have m1135 := Tp.fr m18 f23 (by decide) (by decide)
  have z1134 := m1135.1
  have q1136 : h21 62 1 = h10 62 1 := f23 62 1 (by decide +kernel)
  have q1137 : h10 62 1 = h6 62 1 := by rw [← e12]; exact x_up_k (Ne.symm (tne_11_62 ta1))
  have q1138 : h6 62 1 = h1 62 1 := by rw [← e8]; exact x_up_k (Ne.symm (tne_11_62 ta1))
  have q1139 : h1 62 1 = (ra1 + 11) := by rw [← e3]; exact x_up_at
  have q1140 : h21 (ra1 + 11) 3 = h10 (ra1 + 11) 3 := jK 0 f23 (rg_T11_3_0_1 ta1) (by first | decide | omega) (by first | decide | omega) (by decide)
  have q1141 : h10 (ra1 + 11) 3 = 2147483648 := by rw [← e12]; exact x_up_at
  have e1142 : ln9 h21 = 2147483648 := (congrArg (fun z => h21 z 3) (((q1136.trans q1137).trans q1138).trans q1139)).trans (q1140.trans q1141)
  refine x_retI (np := 31) (x := 0) (by decide +kernel) (by decide) (Or.inr ⟨by decide +kernel, by first | decide | omega, by first | decide | omega⟩) ⟨_, rfl, (by decide), ?_⟩
  exact ⟨j22, f28, (by first | decide | omega), (Cu.nil c27 (by first | decide | omega) (rs1' (by first | decide | omega) (by first | decide | omega))), (((q1126.trans q1127).trans q1128).trans q1129), (fun z => absurd z (by first | decide | omega))⟩
set_option maxHeartbeats 0 in
/-- LentNames.custom()I -/
theorem c108_0 {sc : Nat × Nat} {d  : Nat} {h : xh} {tB : Nat → Nat} {tN : Nat} (hJ : J h) (hT : Tp tB tN h) (hp0 : h 0 8 ≠ h 0 9) : X sc 108 (d + 31) (xT (fun r h' => J h' ∧ Fr 1548112372031163 h h' ∧ (0 ≤ r ∧ r ≤ 4294967295) ∧ (h' 1 1 = 2147483648) ∧ Cu tB tN (some r) ∧ (∀ i, tv h' i = tv h i) ∧ h' 0 8 = h 0 9 ∧ h' 0 9 = h 0 8 ∧ h' 0 11 = 2147483647) (fun E h' => J h' ∧ Fr 1548112372031163 h h' ∧ (E = 0) ∧ (h' 1 1 = 2147483648) ∧ Cu tB tN none ∧ (∀ i, tv h' i = tv h i) ∧ h' 0 8 = h 0 8 ∧ h' 0 9 = h 0 9 ∧ CuF tB tN (h' 0 11))) 0 0 0 [x_r 0, 147573952589676412928] [] h := by
  have hF := Fr.refl 1548112372031163 h
  refine x_aload (np := 1) (x := 0) (by decide +kernel) rfl (x_nc_le (by decide)) ?_
  have t1 : tw (h 0 9) := hJ.2.2.1
  refine x_getR (np := 4) (x := 649) (f := 9) (q := (h 0 9)) (by decide +kernel) (by decide) (by decide +kernel) rfl ?_
  refine x_aload (np := 5) (x := 0) (by decide +kernel) rfl (x_nc_le (by decide)) ?_
  have t2 : tw (h 0 8) := hJ.2.1
  refine x_getR (np := 8) (x := 648) (f := 8) (q := (h 0 8)) (by decide +kernel) (by decide) (by decide +kernel) rfl ?_
  refine x_cV (t := 6) (mj := 84) (n := 2) (rc := 9) (ml := 2) (nr := 0) (np := 11) (as := [x_r (h 0 9), x_r (h 0 8)]) (rest := []) (lo1 := [x_r (h 0 9), x_r (h 0 8)]) (by decide +kernel) (by decide) (by decide +kernel) (x_rb_of (tr_0_9 t1)) rfl rfl (x_wr (tn_0 t1) (x_wr (tn_0 t2) x_wn)) x_wn (by decide) rfl (c84_T0_T0 hJ t1 t2) (fun h6 q5 => ?_)
  obtain ⟨j7, f8, c11, c12, c13, c14, c15, c16, c17⟩ := q5
  have f18 := Fr.trans hF f8 (by decide)
  have b19 := jB (e := 7) 0 hJ (rg_T0_7_0_1 t2) (by first | decide | omega) (by first | decide | omega)
  have b20 := jB (e := 7) 0 j7 (rg_T0_7_0_1 t1) (by first | decide | omega) (by first | decide | omega)
  have b21 := jB (e := 2) 0 hJ (rg_T1_2_0_1 t2) (by first | decide | omega) (by first | decide | omega)
  have b22 := jB (e := 2) 0 j7 (rg_T1_2_0_1 t1) (by first | decide | omega) (by first | decide | omega)
  have b23 := jB (e := 2) 0 hJ (rg_T3_2_0_1 t2) (by first | decide | omega) (by first | decide | omega)
  have b24 := jB (e := 2) 0 j7 (rg_T3_2_0_1 t1) (by first | decide | omega) (by first | decide | omega)
  have b25 := jB (e := 2) 0 hJ (rg_T5_2_0_1 t2) (by first | decide | omega) (by first | decide | omega)
  have b26 := jB (e := 2) 0 j7 (rg_T5_2_0_1 t1) (by first | decide | omega) (by first | decide | omega)
  have b27 := jB (e := 2) 0 hJ (rg_T7_2_0_1 t2) (by first | decide | omega) (by first | decide | omega)
  have b28 := jB (e := 2) 0 j7 (rg_T7_2_0_1 t1) (by first | decide | omega) (by first | decide | omega)
  refine x_aload (np := 12) (x := 0) (by decide +kernel) rfl (x_nc_le (by decide)) ?_
  have q29 : h6 0 4 = 62 := by have z := jB (e := 4) 0 j7 rg_0_4_0_1 (by decide) (by decide); omega
  refine x_getR (np := 15) (x := 644) (f := 4) (q := 62) (by decide +kernel) (by decide) (by decide +kernel) q29 ?_
  refine x_aload (np := 16) (x := 0) (by decide +kernel) rfl (x_nc_le (by decide)) ?_
  have q30 : h6 0 9 = h 0 9 := f8 0 9 (by decide +kernel)
  refine x_getR (np := 19) (x := 649) (f := 9) (q := (h 0 9)) (by decide +kernel) (by decide) (by decide +kernel) q30 ?_
  have q31 : h6 (h 0 9) 6 = ((h 0 9) + 11) := tf_0_6 j7 t1
  refine x_getR (np := 22) (x := 518) (f := 6) (q := ((h 0 9) + 11)) (by decide +kernel) (by decide) (tg_0_518_6_1 t1) q31 ?_
  have m35 := Tp.fr hT f8 (by decide) (by decide)
  refine x_cI (t := 6) (mj := 44) (n := 2) (rc := 4) (ml := 3) (nr := 0) (np := 25) (as := [x_r 62, x_r ((h 0 9) + 11)]) (rest := []) (lo1 := [x_r 62, x_r ((h 0 9) + 11), 147573952589676412928]) (by decide +kernel) (by decide) (by decide +kernel) (x_rb_of (by decide +kernel)) rfl rfl (x_wr (by decide) (x_wr (tn_11 t1) x_wn)) x_wn (by decide) rfl (c44_62_T11 j7  t1 m35) (fun v32 h36 l33 q34 => ?_)
  obtain ⟨j37, f38, b39, c40, c41, c42⟩ := q34
  have f43 := Fr.trans f18 f38 (by decide)
  refine x_istore (np := 26) (x := 1) (lo' := [x_r 0, iv_c v32]) (by decide +kernel) l33 (Nat.le_of_ble_eq_true rfl) rfl ?_
  refine x_aload (np := 27) (x := 0) (by decide +kernel) rfl (x_nc_le (by decide)) ?_
  refine x_iload (np := 28) (x := 1) (by decide +kernel) rfl l33 ?_
  refine x_nV (t := 6) (mj := 141) (n := 2) (rc := 11) (ml := 2) (nr := 0) (np := 31) (as := [x_r 0, iv_c v32]) (rest := []) (lo1 := [x_r 0, iv_c v32]) (by decide +kernel) (by decide) (by decide +kernel) (x_rb_of (by decide +kernel)) rfl rfl (x_wr (by decide) (x_wi l33 x_wn)) x_wn (by decide) rfl ?_
  refine x_aload (np := 1) (x := 0) (by decide +kernel) rfl (x_nc_le (by decide)) ?_
  refine x_iload (np := 2) (x := 1) (by decide +kernel) rfl l33 ?_
  refine x_ifz (k := 0) (tg := 9) (np := 5) (by decide +kernel) (by decide) l33 (fun q44 => ?_) (fun q45 => ?_)
  · have q44 : v32 = 2147483648 := q44
    refine x_aload (np := 10) (x := 0) (by decide +kernel) rfl (x_nc_le (by decide)) ?_
    have q46 : h36 0 0 = 1 := by have z := jB (e := 0) 0 j37 rg_0_0_0_1 (by decide) (by decide); omega
    refine x_getR (np := 13) (x := 640) (f := 0) (q := 1) (by decide +kernel) (by decide) (by decide +kernel) q46 ?_
    have b47 := jB (e := 2) 0 j37 rg_1_2_0_1 (by first | decide | omega) (by first | decide | omega)
    refine x_getC (np := 16) (x := 450) (f := 2) (q := (h36 1 2)) (by decide +kernel) (by decide) (by decide +kernel) rfl (fun l48 => ?_)
    refine x_putI (np := 19) (x := 651) (f := 11) (by decide +kernel) (by decide +kernel) l48 (Or.inl (by decide)) ?_
    have j50 := jU (e := 11) (v := (h36 1 2)) 0 j37 rg_0_11_0_1 (by first | decide | omega) (by first | decide | omega) (by first | decide | omega)
    have f52 := jF (e := 11) (v := (h36 1 2)) 0 f43 rg_0_11_0_1 (by first | decide | omega) (by first | decide | omega) (by decide)
    generalize e51 : x_up h36 0 11 (h36 1 2) = h49 at j50 f52 ⊢
    refine x_aload (np := 20) (x := 0) (by decide +kernel) rfl (x_nc_le (by decide)) ?_
    have q53 : h49 0 0 = 1 := by have z := jB (e := 0) 0 j50 rg_0_0_0_1 (by decide) (by decide); omega
    refine x_getR (np := 23) (x := 640) (f := 0) (q := 1) (by decide +kernel) (by decide) (by decide +kernel) q53 ?_
    refine x_const (np := 24) (x := 9223372039002259456) (a := 2147483648) (by decide +kernel) (by decide) (by decide) ?_
    refine x_putI (np := 27) (x := 449) (f := 1) (by decide +kernel) (by decide +kernel) (by decide) (Or.inl (by decide)) ?_
    have j55 := jU (e := 1) (v := 2147483648) 0 j50 rg_1_1_0_1 (by first | decide | omega) (by first | decide | omega) (by first | decide | omega)
    have f57 := jF (e := 1) (v := 2147483648) 0 f52 rg_1_1_0_1 (by first | decide | omega) (by first | decide | omega) (by decide)
    generalize e56 : x_up h49 1 1 2147483648 = h54 at j55 f57 ⊢
    refine x_retV (np := 28) (x := 0) (by decide +kernel) (by decide +kernel) ⟨rfl, ?_⟩
    refine x_iload (np := 32) (x := 1) (by decide +kernel) rfl l33 ?_
    refine x_ifz (k := 1) (tg := 45) (np := 35) (by decide +kernel) (by decide) l33 (fun q58 => ?_) (fun q59 => ?_)
    · have q58 : v32 ≠ 2147483648 := q58
      exfalso; omega
    have q59 : ¬ (v32 ≠ 2147483648) := q59
    have q60 : h54 1 1 = 2147483648 := by rw [← e56]; exact x_up_at
    have q61 : h54 0 8 = h49 0 8 := by rw [← e56]; exact x_up_k (by decide)
    have q62 : h49 0 8 = h36 0 8 := by rw [← e51]; exact x_up_i (by first | decide | omega)
    have q63 : h36 0 8 = h6 0 8 := f38 0 8 (by decide +kernel)
    have q64 : h6 0 8 = h 0 8 := f8 0 8 (by decide +kernel)
    have q65 : h54 0 9 = h49 0 9 := by rw [← e56]; exact x_up_k (by decide)
    have q66 : h49 0 9 = h36 0 9 := by rw [← e51]; exact x_up_i (by first | decide | omega)
    have q67 : h36 0 9 = h6 0 9 := f38 0 9 (by decide +kernel)
    have q68 : h6 0 9 = h 0 9 := f8 0 9 (by decide +kernel)
    have m69 : Ot (h 0 9) h h6 := Ot.trans Ot.refl (c17)
    have m70 : Ot (h 0 9) h h36 := Ot.fr m69 f38 (by decide)
    have m71 : Ot (h 0 9) h h49 := by rw [← e51]; exact Ot.oth m70 (by decide)
    have m72 : Ot (h 0 9) h h54 := by rw [← e56]; exact Ot.oth m71 (by decide)
    have m73 : ∀ i, tv h54 i = tv h i := fun i => (congrArg (fun z => svq h54 z i) (((q61.trans q62).trans q63).trans q64)).trans (m72 _ t2 hp0 i)
    have q74 : h54 0 11 = h49 0 11 := by rw [← e56]; exact x_up_k (by decide)
    have q75 : h49 0 11 = (h36 1 2) := by rw [← e51]; exact x_up_at
    refine x_thr (np := 38) (x := 0) (by decide +kernel) (by decide +kernel) (Nat.le_trans x_wn (by decide)) (Or.inr ⟨_, rfl, ?_⟩)
    exact ⟨j55, f57, by decide, (by first | decide | omega), (Cu.of0 c40 (by first | decide | omega)), m73, (((q61.trans q62).trans q63).trans q64), (((q65.trans q66).trans q67).trans q68), (CuF.cast (c42 (by first | decide | omega)) (by first | decide | omega))⟩
  have q45 : ¬ (v32 = 2147483648) := q45
  refine x_const (np := 6) (x := 9223372034707292159) (a := 2147483647) (by decide +kernel) (by decide) (by decide) ?_
  refine x_goto (np := 9) (x := 16) (by decide +kernel) ?_
  refine x_putI (np := 19) (x := 651) (f := 11) (by decide +kernel) (by decide +kernel) (by decide) (Or.inl (by decide)) ?_
  have j77 := jU (e := 11) (v := 2147483647) 0 j37 rg_0_11_0_1 (by first | decide | omega) (by first | decide | omega) (by first | decide | omega)
  have f79 := jF (e := 11) (v := 2147483647) 0 f43 rg_0_11_0_1 (by first | decide | omega) (by first | decide | omega) (by decide)
  generalize e78 : x_up h36 0 11 2147483647 = h76 at j77 f79 ⊢
  refine x_aload (np := 20) (x := 0) (by decide +kernel) rfl (x_nc_le (by decide)) ?_
  have q80 : h76 0 0 = 1 := by have z := jB (e := 0) 0 j77 rg_0_0_0_1 (by decide) (by decide); omega
  refine x_getR (np := 23) (x := 640) (f := 0) (q := 1) (by decide +kernel) (by decide) (by decide +kernel) q80 ?_
  refine x_const (np := 24) (x := 9223372039002259456) (a := 2147483648) (by decide +kernel) (by decide) (by decide) ?_
  refine x_putI (np := 27) (x := 449) (f := 1) (by decide +kernel) (by decide +kernel) (by decide) (Or.inl (by decide)) ?_
  have j82 := jU (e := 1) (v := 2147483648) 0 j77 rg_1_1_0_1 (by first | decide | omega) (by first | decide | omega) (by first | decide | omega)
  have f84 := jF (e := 1) (v := 2147483648) 0 f79 rg_1_1_0_1 (by first | decide | omega) (by first | decide | omega) (by decide)
  generalize e83 : x_up h76 1 1 2147483648 = h81 at j82 f84 ⊢
  refine x_retV (np := 28) (x := 0) (by decide +kernel) (by decide +kernel) ⟨rfl, ?_⟩
  refine x_iload (np := 32) (x := 1) (by decide +kernel) rfl l33 ?_
  refine x_ifz (k := 1) (tg := 45) (np := 35) (by decide +kernel) (by decide) l33 (fun q85 => ?_) (fun q86 => ?_)
  · have q85 : v32 ≠ 2147483648 := q85
    refine x_aload (np := 46) (x := 0) (by decide +kernel) rfl (x_nc_le (by decide)) ?_
    refine x_nV (t := 6) (mj := 142) (n := 1) (rc := 11) (ml := 2) (nr := 0) (np := 49) (as := [x_r 0]) (rest := []) (lo1 := [x_r 0, 147573952589676412928]) (by decide +kernel) (by decide) (by decide +kernel) (x_rb_of (by decide +kernel)) rfl rfl (x_wr (by decide) x_wn) x_wn (by decide) rfl ?_
    refine x_aload (np := 1) (x := 0) (by decide +kernel) rfl (x_nc_le (by decide)) ?_
    have q87 : h81 0 8 = h76 0 8 := by rw [← e83]; exact x_up_k (by decide)
    have q88 : h76 0 8 = h36 0 8 := by rw [← e78]; exact x_up_i (by first | decide | omega)
    have q89 : h36 0 8 = h6 0 8 := f38 0 8 (by decide +kernel)
    have q90 : h6 0 8 = h 0 8 := f8 0 8 (by decide +kernel)
    refine x_getR (np := 4) (x := 648) (f := 8) (q := (h 0 8)) (by decide +kernel) (by decide) (by decide +kernel) (((q87.trans q88).trans q89).trans q90) ?_
    refine x_astore (np := 5) (x := 1) (lo' := [x_r 0, x_r (h 0 8)]) (by decide +kernel) (x_nc_le (tn_0 t2)) (Nat.le_of_ble_eq_true rfl) rfl ?_
    refine x_aload (np := 6) (x := 0) (by decide +kernel) rfl (x_nc_le (by decide)) ?_
    refine x_aload (np := 7) (x := 0) (by decide +kernel) rfl (x_nc_le (by decide)) ?_
    have q91 : h81 0 9 = h76 0 9 := by rw [← e83]; exact x_up_k (by decide)
    have q92 : h76 0 9 = h36 0 9 := by rw [← e78]; exact x_up_i (by first | decide | omega)
    have q93 : h36 0 9 = h6 0 9 := f38 0 9 (by decide +kernel)
    have q94 : h6 0 9 = h 0 9 := f8 0 9 (by decide +kernel)
    refine x_getR (np := 10) (x := 649) (f := 9) (q := (h 0 9)) (by decide +kernel) (by decide) (by decide +kernel) (((q91.trans q92).trans q93).trans q94) ?_
    refine x_putR (np := 13) (x := 8840) (f := 8) (by decide +kernel) (by decide +kernel) (tn_0 t1) (by decide) ?_
    have j96 := J_upW (k := 0) (i := 8) j82 t1 (by decide)
    have f98 := Fr.up (k := 0) (i := 8) (v := (h 0 9)) f84 (by decide +kernel)
    generalize e97 : x_up h81 0 8 (h 0 9) = h95 at j96 f98 ⊢
    refine x_aload (np := 14) (x := 0) (by decide +kernel) rfl (x_nc_le (by decide)) ?_
    refine x_aload (np := 15) (x := 1) (by decide +kernel) rfl (x_nc_le (tn_0 t2)) ?_
    refine x_putR (np := 18) (x := 8841) (f := 9) (by decide +kernel) (by decide +kernel) (tn_0 t2) (by decide) ?_
    have j100 := J_upW (k := 0) (i := 9) j96 t2 (by decide)
    have f102 := Fr.up (k := 0) (i := 9) (v := (h 0 8)) f98 (by decide +kernel)
    generalize e101 : x_up h95 0 9 (h 0 8) = h99 at j100 f102 ⊢
    refine x_retV (np := 19) (x := 0) (by decide +kernel) (by decide +kernel) ⟨rfl, ?_⟩
    refine x_aload (np := 50) (x := 0) (by decide +kernel) rfl (x_nc_le (by decide)) ?_
    refine x_nV (t := 6) (mj := 143) (n := 1) (rc := 11) (ml := 1) (nr := 0) (np := 53) (as := [x_r 0]) (rest := []) (lo1 := [x_r 0]) (by decide +kernel) (by decide) (by decide +kernel) (x_rb_of (by decide +kernel)) rfl rfl (x_wr (by decide) x_wn) x_wn (by decide) rfl ?_
    refine x_aload (np := 1) (x := 0) (by decide +kernel) rfl (x_nc_le (by decide)) ?_
    have q103 : h99 0 1 = 45 := by have z := jB (e := 1) 0 j100 rg_0_1_0_1 (by decide) (by decide); omega
    refine x_getR (np := 4) (x := 641) (f := 1) (q := 45) (by decide +kernel) (by decide) (by decide +kernel) q103 ?_
    refine x_aload (np := 5) (x := 0) (by decide +kernel) rfl (x_nc_le (by decide)) ?_
    have q104 : h99 0 8 = h95 0 8 := by rw [← e101]; exact x_up_i (by first | decide | omega)
    have q105 : h95 0 8 = (h 0 9) := by rw [← e97]; exact x_up_at
    refine x_getR (np := 8) (x := 648) (f := 8) (q := (h 0 9)) (by decide +kernel) (by decide) (by decide +kernel) (q104.trans q105) ?_
    refine x_cV (t := 6) (mj := 4) (n := 2) (rc := 2) (ml := 3) (nr := 0) (np := 11) (as := [x_r 45, x_r (h 0 9)]) (rest := []) (lo1 := [x_r 45, x_r (h 0 9), 147573952589676412928]) (by decide +kernel) (by decide) (by decide +kernel) (x_rb_of (by decide +kernel)) rfl rfl (x_wr (by decide) (x_wr (tn_0 t1) x_wn)) x_wn (by decide) rfl (c4_45_T0 j100  t1) (fun h109 q108 => ?_)
    obtain ⟨j110, f111⟩ := q108
    have f114 := Fr.trans f102 f111 (by decide)
    refine x_aload (np := 12) (x := 0) (by decide +kernel) rfl (x_nc_le (by decide)) ?_
    have q115 : h109 0 5 = 63 := by have z := jB (e := 5) 0 j110 rg_0_5_0_1 (by decide) (by decide); omega
    refine x_getR (np := 15) (x := 645) (f := 5) (q := 63) (by decide +kernel) (by decide) (by decide +kernel) q115 ?_
    refine x_nV (t := 8) (mj := 270) (n := 1) (rc := 5) (ml := 1) (nr := 0) (np := 18) (as := [x_r 63]) (rest := []) (lo1 := [x_r 63]) (by decide +kernel) (by decide) (by decide +kernel) (x_rb_of (by decide +kernel)) rfl rfl (x_wr (by decide) x_wn) x_wn (by decide) rfl ?_
    refine x_aload (np := 1) (x := 0) (by decide +kernel) rfl (x_nc_le (by decide)) ?_
    refine x_const (np := 2) (x := 9223372039002259456) (a := 2147483648) (by decide +kernel) (by decide) (by decide) ?_
    refine x_putI (np := 5) (x := 4878) (f := 14) (by decide +kernel) (by decide +kernel) (by decide) (Or.inr ⟨by decide, by first | decide | omega, by first | decide | omega⟩) ?_
    have j117 := jU (e := 14) (v := 2147483648) 0 j110 rg_63_14_0_1 (by first | decide | omega) (by first | decide | omega) (by first | decide | omega)
    have f119 := jF (e := 14) (v := 2147483648) 0 f114 rg_63_14_0_1 (by first | decide | omega) (by first | decide | omega) (by decide)
    generalize e118 : x_up h109 63 14 2147483648 = h116 at j117 f119 ⊢
    refine x_retV (np := 6) (x := 0) (by decide +kernel) (by decide +kernel) ⟨rfl, ?_⟩
    refine x_aload (np := 19) (x := 0) (by decide +kernel) rfl (x_nc_le (by decide)) ?_
    have q120 : h116 0 6 = 69 := by have z := jB (e := 6) 0 j117 rg_0_6_0_1 (by decide) (by decide); omega
    refine x_getR (np := 22) (x := 646) (f := 6) (q := 69) (by decide +kernel) (by decide) (by decide +kernel) q120 ?_
    refine x_nV (t := 8) (mj := 270) (n := 1) (rc := 6) (ml := 1) (nr := 0) (np := 25) (as := [x_r 69]) (rest := []) (lo1 := [x_r 69]) (by decide +kernel) (by decide) (by decide +kernel) (x_rb_of (by decide +kernel)) rfl rfl (x_wr (by decide) x_wn) x_wn (by decide) rfl ?_
    refine x_aload (np := 1) (x := 0) (by decide +kernel) rfl (x_nc_le (by decide)) ?_
    refine x_const (np := 2) (x := 9223372039002259456) (a := 2147483648) (by decide +kernel) (by decide) (by decide) ?_
    refine x_putI (np := 5) (x := 4878) (f := 14) (by decide +kernel) (by decide +kernel) (by decide) (Or.inr ⟨by decide, by first | decide | omega, by first | decide | omega⟩) ?_
    have j122 := jU (e := 14) (v := 2147483648) 0 j117 rg_69_14_0_1 (by first | decide | omega) (by first | decide | omega) (by first | decide | omega)
    have f124 := jF (e := 14) (v := 2147483648) 0 f119 rg_69_14_0_1 (by first | decide | omega) (by first | decide | omega) (by decide)
    generalize e123 : x_up h116 69 14 2147483648 = h121 at j122 f124 ⊢
    refine x_retV (np := 6) (x := 0) (by decide +kernel) (by decide +kernel) ⟨rfl, ?_⟩
    refine x_retV (np := 26) (x := 0) (by decide +kernel) (by decide +kernel) ⟨rfl, ?_⟩
    refine x_aload (np := 54) (x := 0) (by decide +kernel) rfl (x_nc_le (by decide)) ?_
    have q125 : h121 0 8 = h116 0 8 := by rw [← e123]; exact x_up_k (by decide)
    have q126 : h116 0 8 = h109 0 8 := by rw [← e118]; exact x_up_k (by decide)
    have q127 : h109 0 8 = h99 0 8 := f111 0 8 (by decide +kernel)
    have q128 : h99 0 8 = h95 0 8 := by rw [← e101]; exact x_up_i (by first | decide | omega)
    have q129 : h95 0 8 = (h 0 9) := by rw [← e97]; exact x_up_at
    refine x_getR (np := 57) (x := 648) (f := 8) (q := (h 0 9)) (by decide +kernel) (by decide) (by decide +kernel) ((((q125.trans q126).trans q127).trans q128).trans q129) ?_
    have q130 : h121 (h 0 9) 6 = ((h 0 9) + 11) := tf_0_6 j122 t1
    refine x_getR (np := 60) (x := 518) (f := 6) (q := ((h 0 9) + 11)) (by decide +kernel) (by decide) (tg_0_518_6_1 t1) q130 ?_
    have q131 : h121 ((h 0 9) + 11) 3 = h116 ((h 0 9) + 11) 3 := by rw [← e123]; exact x_up_k (tne_11_69 t1)
    have q132 : h116 ((h 0 9) + 11) 3 = h109 ((h 0 9) + 11) 3 := by rw [← e118]; exact x_up_k (tne_11_63 t1)
    have q133 : h109 ((h 0 9) + 11) 3 = h99 ((h 0 9) + 11) 3 := jK 0 f111 (rg_T11_3_0_1 t1) (by first | decide | omega) (by first | decide | omega) (by decide)
    have q134 : h99 ((h 0 9) + 11) 3 = h95 ((h 0 9) + 11) 3 := by rw [← e101]; exact x_up_k (tne_11_0 t1)
    have q135 : h95 ((h 0 9) + 11) 3 = h81 ((h 0 9) + 11) 3 := by rw [← e97]; exact x_up_k (tne_11_0 t1)
    have q136 : h81 ((h 0 9) + 11) 3 = h76 ((h 0 9) + 11) 3 := by rw [← e83]; exact x_up_k (tne_11_1 t1)
    have q137 : h76 ((h 0 9) + 11) 3 = h36 ((h 0 9) + 11) 3 := by rw [← e78]; exact x_up_k (tne_11_0 t1)
    refine x_getC (np := 63) (x := 131) (f := 3) (q := (h36 ((h 0 9) + 11) 3)) (by decide +kernel) (by decide) (tg_11_131_3_0 t1) ((((((q131.trans q132).trans q133).trans q134).trans q135).trans q136).trans q137) (fun l138 => ?_)
    have q139 : h121 1 1 = h116 1 1 := by rw [← e123]; exact x_up_k (by decide)
    have q140 : h116 1 1 = h109 1 1 := by rw [← e118]; exact x_up_k (by decide)
    have q141 : h109 1 1 = h99 1 1 := jK 0 f111 rg_1_1_0_1 (by first | decide | omega) (by first | decide | omega) (by decide)
    have q142 : h99 1 1 = h95 1 1 := by rw [← e101]; exact x_up_k (by decide)
    have q143 : h95 1 1 = h81 1 1 := by rw [← e97]; exact x_up_k (by decide)
    have q144 : h81 1 1 = 2147483648 := by rw [← e83]; exact x_up_at
    have e145 : ln9 h36 = (h36 ((h 0 9) + 11) 3) := (congrArg (fun z => h36 z 3) c41).trans rfl
    have e146 : tv h 0 = (h (h 0 8) 7) := (congrArg (fun z => svq h z 0) rfl).trans rfl
    have q147 : h121 0 8 = h116 0 8 := by rw [← e123]; exact x_up_k (by decide)
    have q148 : h116 0 8 = h109 0 8 := by rw [← e118]; exact x_up_k (by decide)
    have q149 : h109 0 8 = h99 0 8 := f111 0 8 (by decide +kernel)
    have q150 : h99 0 8 = h95 0 8 := by rw [← e101]; exact x_up_i (by first | decide | omega)
    have q151 : h95 0 8 = (h 0 9) := by rw [← e97]; exact x_up_at
    have q152 : h121 (h 0 9) 7 = h116 (h 0 9) 7 := by rw [← e123]; exact x_up_k (tne_0_69 t1)
    have q153 : h116 (h 0 9) 7 = h109 (h 0 9) 7 := by rw [← e118]; exact x_up_k (tne_0_63 t1)
    have q154 : h109 (h 0 9) 7 = h99 (h 0 9) 7 := jK 0 f111 (rg_T0_7_0_1 t1) (by first | decide | omega) (by first | decide | omega) (by decide)
    have q155 : h99 (h 0 9) 7 = h95 (h 0 9) 7 := by rw [← e101]; exact x_up_k (tne_0_0 t1)
    have q156 : h95 (h 0 9) 7 = h81 (h 0 9) 7 := by rw [← e97]; exact x_up_k (tne_0_0 t1)
    have q157 : h81 (h 0 9) 7 = h76 (h 0 9) 7 := by rw [← e83]; exact x_up_k (tne_0_1 t1)
    have q158 : h76 (h 0 9) 7 = h36 (h 0 9) 7 := by rw [← e78]; exact x_up_k (tne_0_0 t1)
    have q159 : h36 (h 0 9) 7 = h6 (h 0 9) 7 := jK 0 f38 (rg_T0_7_0_1 t1) (by first | decide | omega) (by first | decide | omega) (by decide)
    have e160 : tv h121 0 = (h6 (h 0 9) 7) := (congrArg (fun z => svq h121 z 0) ((((q147.trans q148).trans q149).trans q150).trans q151)).trans (((((((q152.trans q153).trans q154).trans q155).trans q156).trans q157).trans q158).trans q159)
    have e161 : tv h 1 = (h (h 0 8) 8) := (congrArg (fun z => svq h z 1) rfl).trans rfl
    have q162 : h121 0 8 = h116 0 8 := by rw [← e123]; exact x_up_k (by decide)
    have q163 : h116 0 8 = h109 0 8 := by rw [← e118]; exact x_up_k (by decide)
    have q164 : h109 0 8 = h99 0 8 := f111 0 8 (by decide +kernel)
    have q165 : h99 0 8 = h95 0 8 := by rw [← e101]; exact x_up_i (by first | decide | omega)
    have q166 : h95 0 8 = (h 0 9) := by rw [← e97]; exact x_up_at
    have q167 : h121 (h 0 9) 8 = h116 (h 0 9) 8 := by rw [← e123]; exact x_up_k (tne_0_69 t1)
    have q168 : h116 (h 0 9) 8 = h109 (h 0 9) 8 := by rw [← e118]; exact x_up_k (tne_0_63 t1)
    have q169 : h109 (h 0 9) 8 = h99 (h 0 9) 8 := jK 0 f111 (rg_T0_8_0_1 t1) (by first | decide | omega) (by first | decide | omega) (by decide)
    have q170 : h99 (h 0 9) 8 = h95 (h 0 9) 8 := by rw [← e101]; exact x_up_k (tne_0_0 t1)
    have q171 : h95 (h 0 9) 8 = h81 (h 0 9) 8 := by rw [← e97]; exact x_up_k (tne_0_0 t1)
    have q172 : h81 (h 0 9) 8 = h76 (h 0 9) 8 := by rw [← e83]; exact x_up_k (tne_0_1 t1)
    have q173 : h76 (h 0 9) 8 = h36 (h 0 9) 8 := by rw [← e78]; exact x_up_k (tne_0_0 t1)
    have q174 : h36 (h 0 9) 8 = h6 (h 0 9) 8 := jK 0 f38 (rg_T0_8_0_1 t1) (by first | decide | omega) (by first | decide | omega) (by decide)
    have e175 : tv h121 1 = (h6 (h 0 9) 8) := (congrArg (fun z => svq h121 z 1) ((((q162.trans q163).trans q164).trans q165).trans q166)).trans (((((((q167.trans q168).trans q169).trans q170).trans q171).trans q172).trans q173).trans q174)
    have e176 : tv h 2 = (h ((h 0 8) + 1) 2) := (congrArg (fun z => svq h z 2) rfl).trans rfl
    have q177 : h121 0 8 = h116 0 8 := by rw [← e123]; exact x_up_k (by decide)
    have q178 : h116 0 8 = h109 0 8 := by rw [← e118]; exact x_up_k (by decide)
    have q179 : h109 0 8 = h99 0 8 := f111 0 8 (by decide +kernel)
    have q180 : h99 0 8 = h95 0 8 := by rw [← e101]; exact x_up_i (by first | decide | omega)
    have q181 : h95 0 8 = (h 0 9) := by rw [← e97]; exact x_up_at
    have q182 : h121 ((h 0 9) + 1) 2 = h116 ((h 0 9) + 1) 2 := by rw [← e123]; exact x_up_k (tne_1_69 t1)
    have q183 : h116 ((h 0 9) + 1) 2 = h109 ((h 0 9) + 1) 2 := by rw [← e118]; exact x_up_k (tne_1_63 t1)
    have q184 : h109 ((h 0 9) + 1) 2 = h99 ((h 0 9) + 1) 2 := jK 0 f111 (rg_T1_2_0_1 t1) (by first | decide | omega) (by first | decide | omega) (by decide)
    have q185 : h99 ((h 0 9) + 1) 2 = h95 ((h 0 9) + 1) 2 := by rw [← e101]; exact x_up_k (tne_1_0 t1)
    have q186 : h95 ((h 0 9) + 1) 2 = h81 ((h 0 9) + 1) 2 := by rw [← e97]; exact x_up_k (tne_1_0 t1)
    have q187 : h81 ((h 0 9) + 1) 2 = h76 ((h 0 9) + 1) 2 := by rw [← e83]; exact x_up_k (tne_1_1 t1)
    have q188 : h76 ((h 0 9) + 1) 2 = h36 ((h 0 9) + 1) 2 := by rw [← e78]; exact x_up_k (tne_1_0 t1)
    have q189 : h36 ((h 0 9) + 1) 2 = h6 ((h 0 9) + 1) 2 := jK 0 f38 (rg_T1_2_0_1 t1) (by first | decide | omega) (by first | decide | omega) (by decide)
    have e190 : tv h121 2 = (h6 ((h 0 9) + 1) 2) := (congrArg (fun z => svq h121 z 2) ((((q177.trans q178).trans q179).trans q180).trans q181)).trans (((((((q182.trans q183).trans q184).trans q185).trans q186).trans q187).trans q188).trans q189)
    have e191 : tv h 3 = (h ((h 0 8) + 3) 2) := (congrArg (fun z => svq h z 3) rfl).trans rfl
    have q192 : h121 0 8 = h116 0 8 := by rw [← e123]; exact x_up_k (by decide)
    have q193 : h116 0 8 = h109 0 8 := by rw [← e118]; exact x_up_k (by decide)
    have q194 : h109 0 8 = h99 0 8 := f111 0 8 (by decide +kernel)
    have q195 : h99 0 8 = h95 0 8 := by rw [← e101]; exact x_up_i (by first | decide | omega)
    have q196 : h95 0 8 = (h 0 9) := by rw [← e97]; exact x_up_at
    have q197 : h121 ((h 0 9) + 3) 2 = h116 ((h 0 9) + 3) 2 := by rw [← e123]; exact x_up_k (tne_3_69 t1)
    have q198 : h116 ((h 0 9) + 3) 2 = h109 ((h 0 9) + 3) 2 := by rw [← e118]; exact x_up_k (tne_3_63 t1)
    have q199 : h109 ((h 0 9) + 3) 2 = h99 ((h 0 9) + 3) 2 := jK 0 f111 (rg_T3_2_0_1 t1) (by first | decide | omega) (by first | decide | omega) (by decide)
    have q200 : h99 ((h 0 9) + 3) 2 = h95 ((h 0 9) + 3) 2 := by rw [← e101]; exact x_up_k (tne_3_0 t1)
    have q201 : h95 ((h 0 9) + 3) 2 = h81 ((h 0 9) + 3) 2 := by rw [← e97]; exact x_up_k (tne_3_0 t1)
    have q202 : h81 ((h 0 9) + 3) 2 = h76 ((h 0 9) + 3) 2 := by rw [← e83]; exact x_up_k (tne_3_1 t1)
    have q203 : h76 ((h 0 9) + 3) 2 = h36 ((h 0 9) + 3) 2 := by rw [← e78]; exact x_up_k (tne_3_0 t1)
    have q204 : h36 ((h 0 9) + 3) 2 = h6 ((h 0 9) + 3) 2 := jK 0 f38 (rg_T3_2_0_1 t1) (by first | decide | omega) (by first | decide | omega) (by decide)
    have e205 : tv h121 3 = (h6 ((h 0 9) + 3) 2) := (congrArg (fun z => svq h121 z 3) ((((q192.trans q193).trans q194).trans q195).trans q196)).trans (((((((q197.trans q198).trans q199).trans q200).trans q201).trans q202).trans q203).trans q204)
    have e206 : tv h 4 = (h ((h 0 8) + 5) 2) := (congrArg (fun z => svq h z 4) rfl).trans rfl
    have q207 : h121 0 8 = h116 0 8 := by rw [← e123]; exact x_up_k (by decide)
    have q208 : h116 0 8 = h109 0 8 := by rw [← e118]; exact x_up_k (by decide)
    have q209 : h109 0 8 = h99 0 8 := f111 0 8 (by decide +kernel)
    have q210 : h99 0 8 = h95 0 8 := by rw [← e101]; exact x_up_i (by first | decide | omega)
    have q211 : h95 0 8 = (h 0 9) := by rw [← e97]; exact x_up_at
    have q212 : h121 ((h 0 9) + 5) 2 = h116 ((h 0 9) + 5) 2 := by rw [← e123]; exact x_up_k (tne_5_69 t1)
    have q213 : h116 ((h 0 9) + 5) 2 = h109 ((h 0 9) + 5) 2 := by rw [← e118]; exact x_up_k (tne_5_63 t1)
    have q214 : h109 ((h 0 9) + 5) 2 = h99 ((h 0 9) + 5) 2 := jK 0 f111 (rg_T5_2_0_1 t1) (by first | decide | omega) (by first | decide | omega) (by decide)
    have q215 : h99 ((h 0 9) + 5) 2 = h95 ((h 0 9) + 5) 2 := by rw [← e101]; exact x_up_k (tne_5_0 t1)
    have q216 : h95 ((h 0 9) + 5) 2 = h81 ((h 0 9) + 5) 2 := by rw [← e97]; exact x_up_k (tne_5_0 t1)
    have q217 : h81 ((h 0 9) + 5) 2 = h76 ((h 0 9) + 5) 2 := by rw [← e83]; exact x_up_k (tne_5_1 t1)
    have q218 : h76 ((h 0 9) + 5) 2 = h36 ((h 0 9) + 5) 2 := by rw [← e78]; exact x_up_k (tne_5_0 t1)
    have q219 : h36 ((h 0 9) + 5) 2 = h6 ((h 0 9) + 5) 2 := jK 0 f38 (rg_T5_2_0_1 t1) (by first | decide | omega) (by first | decide | omega) (by decide)
    have e220 : tv h121 4 = (h6 ((h 0 9) + 5) 2) := (congrArg (fun z => svq h121 z 4) ((((q207.trans q208).trans q209).trans q210).trans q211)).trans (((((((q212.trans q213).trans q214).trans q215).trans q216).trans q217).trans q218).trans q219)
    have e221 : tv h 5 = (h ((h 0 8) + 7) 2) := (congrArg (fun z => svq h z 5) rfl).trans rfl
    have q222 : h121 0 8 = h116 0 8 := by rw [← e123]; exact x_up_k (by decide)
    have q223 : h116 0 8 = h109 0 8 := by rw [← e118]; exact x_up_k (by decide)
    have q224 : h109 0 8 = h99 0 8 := f111 0 8 (by decide +kernel)
    have q225 : h99 0 8 = h95 0 8 := by rw [← e101]; exact x_up_i (by first | decide | omega)
    have q226 : h95 0 8 = (h 0 9) := by rw [← e97]; exact x_up_at
    have q227 : h121 ((h 0 9) + 7) 2 = h116 ((h 0 9) + 7) 2 := by rw [← e123]; exact x_up_k (tne_7_69 t1)
    have q228 : h116 ((h 0 9) + 7) 2 = h109 ((h 0 9) + 7) 2 := by rw [← e118]; exact x_up_k (tne_7_63 t1)
    have q229 : h109 ((h 0 9) + 7) 2 = h99 ((h 0 9) + 7) 2 := jK 0 f111 (rg_T7_2_0_1 t1) (by first | decide | omega) (by first | decide | omega) (by decide)
    have q230 : h99 ((h 0 9) + 7) 2 = h95 ((h 0 9) + 7) 2 := by rw [← e101]; exact x_up_k (tne_7_0 t1)
    have q231 : h95 ((h 0 9) + 7) 2 = h81 ((h 0 9) + 7) 2 := by rw [← e97]; exact x_up_k (tne_7_0 t1)
    have q232 : h81 ((h 0 9) + 7) 2 = h76 ((h 0 9) + 7) 2 := by rw [← e83]; exact x_up_k (tne_7_1 t1)
    have q233 : h76 ((h 0 9) + 7) 2 = h36 ((h 0 9) + 7) 2 := by rw [← e78]; exact x_up_k (tne_7_0 t1)
    have q234 : h36 ((h 0 9) + 7) 2 = h6 ((h 0 9) + 7) 2 := jK 0 f38 (rg_T7_2_0_1 t1) (by first | decide | omega) (by first | decide | omega) (by decide)
    have e235 : tv h121 5 = (h6 ((h 0 9) + 7) 2) := (congrArg (fun z => svq h121 z 5) ((((q222.trans q223).trans q224).trans q225).trans q226)).trans (((((((q227.trans q228).trans q229).trans q230).trans q231).trans q232).trans q233).trans q234)
    have q236 : h121 0 8 = h116 0 8 := by rw [← e123]; exact x_up_k (by decide)
    have q237 : h116 0 8 = h109 0 8 := by rw [← e118]; exact x_up_k (by decide)
    have q238 : h109 0 8 = h99 0 8 := f111 0 8 (by decide +kernel)
    have q239 : h99 0 8 = h95 0 8 := by rw [← e101]; exact x_up_i (by first | decide | omega)
    have q240 : h95 0 8 = (h 0 9) := by rw [← e97]; exact x_up_at
    have q241 : h121 0 9 = h116 0 9 := by rw [← e123]; exact x_up_k (by decide)
    have q242 : h116 0 9 = h109 0 9 := by rw [← e118]; exact x_up_k (by decide)
    have q243 : h109 0 9 = h99 0 9 := f111 0 9 (by decide +kernel)
    have q244 : h99 0 9 = (h 0 8) := by rw [← e101]; exact x_up_at
    have m245 : ∀ i, tv h121 i = tv h i := fun i => match i with | 0 => by omega | 1 => by omega | 2 => by omega | 3 => by omega | 4 => by omega | _ + 5 => (show tv h121 5 = tv h 5 by first | decide | omega)
    have q246 : h121 0 11 = h116 0 11 := by rw [← e123]; exact x_up_k (by decide)
    have q247 : h116 0 11 = h109 0 11 := by rw [← e118]; exact x_up_k (by decide)
    have q248 : h109 0 11 = h99 0 11 := jK 0 f111 rg_0_11_0_1 (by first | decide | omega) (by first | decide | omega) (by decide)
    have q249 : h99 0 11 = h95 0 11 := by rw [← e101]; exact x_up_i (by first | decide | omega)
    have q250 : h95 0 11 = h81 0 11 := by rw [← e97]; exact x_up_i (by first | decide | omega)
    have q251 : h81 0 11 = h76 0 11 := by rw [← e83]; exact x_up_k (by decide)
    have q252 : h76 0 11 = 2147483647 := by rw [← e78]; exact x_up_at
    refine x_retI (np := 64) (x := 0) (by decide +kernel) l138 (Or.inl (by decide +kernel)) (Or.inl ⟨_, rfl, l138, ?_⟩)
    exact ⟨j122, f124, (by first | decide | omega), (by first | decide | omega), (Cu.of1 c40 (by first | decide | omega) (by first | decide | omega)), m245, ((((q236.trans q237).trans q238).trans q239).trans q240), (((q241.trans q242).trans q243).trans q244), (by first | decide | omega)⟩
  have q86 : ¬ (v32 ≠ 2147483648) := q86
  exfalso; omega
set_option maxHeartbeats 0 in
/-- LentNamesLaw.custom(LLentNames;[J)I -/
theorem c296_0_97 {sc : Nat × Nat} {d  : Nat} {h : xh} {tB : Nat → Nat} {tN : Nat} (hJ : J h) (hT : Tp tB tN h) (hp0 : h 0 8 ≠ h 0 9) : X sc 296 (d + 32) (xI fun r h' => J h' ∧ Fr 1618481116208827 h h' ∧ (2147483648 ≤ r ∧ r ≤ 2147483649) ∧ (h' 1 1 = 2147483648) ∧ ((r = 2147483648 ∧ Cu tB tN (some (h' 97 0))) ∨ (r = 2147483649 ∧ Cu tB tN none)) ∧ (∀ i, tv h' i = tv h i) ∧ ((h' 0 8 = h 0 9 ∧ h' 0 9 = h 0 8) ∨ (h' 0 8 = h 0 8 ∧ h' 0 9 = h 0 9)) ∧ Gc tB tN h' r) 0 0 0 [x_r 0, x_r 97, 147573952589676412928] [] h := by
  have hF := Fr.refl 1618481116208827 h
  refine x_aload (np := 1) (x := 1) (by decide +kernel) rfl (x_nc_le (by decide)) ?_
  refine x_const (np := 2) (x := 9223372039002259456) (a := 2147483648) (by decide +kernel) (by decide) (by decide) ?_
  refine x_aload (np := 3) (x := 0) (by decide +kernel) rfl (x_nc_le (by decide)) ?_
  refine x_cT (t := 6) (mj := 108) (n := 1) (rc := 11) (ml := 2) (cc := 1) (ss := 6) (nr := 2) (np := 6) (as := [x_r 0]) (rest := [iv_c 2147483648, x_r 97]) (lo1 := [x_r 0, 147573952589676412928]) (by decide +kernel) (by decide) (by decide +kernel) (x_rb_of (by decide +kernel)) rfl rfl (x_wr (by decide) x_wn) (x_wi (by decide) (x_wr (by decide) x_wn)) (by decide) rfl (c108_0 hJ  hT hp0) (fun v11 h14 l12 q13 => ?_) (fun E16 h17 q15 => ?_)
  · obtain ⟨j18, f19, b20, c21, c1, c2, c3, c4, c5⟩ := q13
    have f22 := Fr.trans hF f19 (by decide)
    have b23 := jB (e := 1) 0 j18 rg_1_1_0_1 (by first | decide | omega) (by first | decide | omega)
    refine x_i2l (np := 7) (x := 0) (by decide +kernel) l12 ?_
    refine x_last (np := 8) (x := 0) (n := 1) (i := 0) (by decide +kernel) (by decide) (by decide +kernel) (by decide +kernel) (by first | decide | omega) (by first | decide | omega) (by decide) l12 ?_
    have j25 := jU (e := 0) (v := v11) 0 j18 rg_97_0_1_1 (by first | decide | omega) (by first | decide | omega) (by first | decide | omega)
    have f27 := jF (e := 0) (v := v11) 0 f22 rg_97_0_1_1 (by first | decide | omega) (by first | decide | omega) (by decide)
    generalize e26 : x_up h14 97 0 v11 = h24 at j25 f27 ⊢
    refine x_goto (np := 11) (x := 14) (by decide +kernel) ?_
    refine x_const (np := 15) (x := 9223372039002259456) (a := 2147483648) (by decide +kernel) (by decide) (by decide) ?_
    have q28 : h24 1 1 = h14 1 1 := by rw [← e26]; exact x_up_k (by decide)
    have q29 : h24 97 0 = v11 := by rw [← e26]; exact x_up_at
    have t31 : tw (h14 0 8) := j18.2.1
    have q32 : h24 0 8 = h14 0 8 := by rw [← e26]; exact x_up_k (by decide)
    have q33 : h24 0 9 = h14 0 9 := by rw [← e26]; exact x_up_k (by decide)
    have t34 : tw (h14 0 9) := j18.2.2.1
    have m30 : ∀ i, tv h24 i = tv h i := fun i => by rw [← e26]; exact (tv_up (by decide) t31 i).trans (c2 i)
    have q35 : h24 0 11 = h14 0 11 := by rw [← e26]; exact x_up_k (by decide)
    refine x_retI (np := 16) (x := 0) (by decide +kernel) (by decide) (Or.inl (by decide +kernel)) ⟨_, rfl, (by decide), ?_⟩
    exact ⟨j25, f27, (by first | decide | omega), (by first | decide | omega), (Or.inl ⟨by first | decide | omega, Cu.cs c1 (by first | decide | omega)⟩), m30, (Or.inl ⟨(Eq.trans q32 c3), (Eq.trans q33 c4)⟩), ⟨(fun z => absurd z (by first | decide | omega)), fun _ => by first | decide | omega⟩⟩
  obtain ⟨j36, f37, e38, c39, c6, c7, c8, c9, c10⟩ := q15
  have f40 := Fr.trans hF f37 (by decide)
  have b41 := jB (e := 1) 0 j36 rg_1_1_0_1 (by first | decide | omega) (by first | decide | omega)
  rcases e38 with rfl
  · refine ⟨11, fun _ _ => rfl, ?_⟩
    refine x_astE (np := 12) (x := 2) (lo' := [x_r 0, x_r 97, 55340232221128654850]) (by decide +kernel) (Nat.le_of_ble_eq_true rfl) rfl ?_
    refine x_const (np := 13) (x := 9223372043297226753) (a := 2147483649) (by decide +kernel) (by decide) (by decide) ?_
    have q42 : h17 97 0 = h 97 0 := jK 0 f37 rg_97_0_1_1 (by first | decide | omega) (by first | decide | omega) (by decide)
    refine x_retI (np := 14) (x := 0) (by decide +kernel) (by decide) (Or.inl (by decide +kernel)) ⟨_, rfl, (by decide), ?_⟩
    exact ⟨j36, f40, (by first | decide | omega), (by first | decide | omega), (Or.inr ⟨by first | decide | omega, c6⟩), c7, (Or.inr ⟨c8, c9⟩), ⟨fun _ => CuF.cast c10 (by first | decide | omega), fun z => absurd (by first | decide | omega) z⟩⟩
set_option maxHeartbeats 0 in
/-- LentNames.purse(II)I -/
theorem c130_0 {sc : Nat × Nat} {d a1 a2 : Nat} {h : xh} (hJ : J h) (ba1 : 0 ≤ a1 ∧ a1 ≤ 4294967295) (ba2 : 0 ≤ a2 ∧ a2 ≤ 4294967295) : X sc 130 (d + 1) (xT (fun r h' => J h' ∧ Fr 1125899906842624 h h' ∧ (0 ≤ r ∧ r ≤ 4294967295)) (fun E h' => J h' ∧ Fr 1125899906842624 h h' ∧ (E = 0 ∨ E = 2))) 0 0 0 [x_r 0, iv_c a1, iv_c a2, 147573952589676412928] [] h := by
  have la1 : a1 < 4294967296 := by first | decide | omega
  have la2 : a2 < 4294967296 := by first | decide | omega
  have hF := Fr.refl 1125899906842624 h
  refine x_aload (np := 1) (x := 0) (by decide +kernel) rfl (x_nc_le (by decide)) ?_
  refine x_iload (np := 2) (x := 1) (by decide +kernel) rfl la1 ?_
  refine x_nU (t := 6) (mj := 145) (n := 2) (rc := 11) (ml := 2) (cc := 1) (ss := 6) (nr := 0) (np := 5) (as := [x_r 0, iv_c a1]) (rest := []) (lo1 := [x_r 0, iv_c a1]) (by decide +kernel) (by decide) (by decide +kernel) (by decide +kernel) (x_rb_of (by decide +kernel)) rfl rfl (x_wr (by decide) (x_wi la1 x_wn)) x_wn (by decide) rfl ?_
  refine x_iload (np := 1) (x := 1) (by decide +kernel) rfl la1 ?_
  refine x_ifz (k := 2) (tg := 15) (np := 4) (by decide +kernel) (by decide) la1 (fun q1 => ?_) (fun q2 => ?_)
  · have q1 : a1 < 2147483648 := q1
    refine x_thr (np := 18) (x := 2) (by decide +kernel) (by decide +kernel) (Nat.le_trans x_wn (by decide)) (Or.inr ⟨_, rfl, ?_⟩)
    refine Or.inr ⟨_, rfl, ?_⟩
    exact ⟨hJ, hF, by decide⟩
  have q2 : ¬ (a1 < 2147483648) := q2
  refine x_iload (np := 5) (x := 1) (by decide +kernel) rfl la1 ?_
  refine x_aload (np := 6) (x := 0) (by decide +kernel) rfl (x_nc_le (by decide)) ?_
  have t3 : tw (h 0 8) := hJ.2.1
  refine x_getR (np := 9) (x := 648) (f := 8) (q := (h 0 8)) (by decide +kernel) (by decide) (by decide +kernel) rfl ?_
  have b4 := jB (e := 7) 0 hJ (rg_T0_7_0_1 t3) (by first | decide | omega) (by first | decide | omega)
  refine x_getC (np := 12) (x := 519) (f := 7) (q := (h (h 0 8) 7)) (by decide +kernel) (by decide) (tg_0_519_7_0 t3) rfl (fun l5 => ?_)
  refine x_icmp (k := 2) (tg := 26) (np := 15) (by decide +kernel) (by decide) la1 l5 (fun q6 => ?_) (fun q7 => ?_)
  · have q6 : a1 < (h (h 0 8) 7) := q6
    refine x_retV (np := 27) (x := 0) (by decide +kernel) (by decide +kernel) (Or.inl ⟨rfl, ?_⟩)
    refine x_iload (np := 6) (x := 2) (by decide +kernel) rfl la2 ?_
    refine x_ifz (k := 2) (tg := 16) (np := 9) (by decide +kernel) (by decide) la2 (fun q8 => ?_) (fun q9 => ?_)
    · have q8 : a2 < 2147483648 := q8
      refine x_thr (np := 19) (x := 0) (by decide +kernel) (by decide +kernel) (Nat.le_trans x_wn (by decide)) (Or.inr ⟨_, rfl, ?_⟩)
      exact ⟨hJ, hF, by decide⟩
    have q9 : ¬ (a2 < 2147483648) := q9
    refine x_iload (np := 10) (x := 2) (by decide +kernel) rfl la2 ?_
    refine x_const (np := 13) (x := 9223414984380262159) (a := 2147493647) (by decide +kernel) (by decide) (by decide) ?_
    refine x_icmp (k := 5) (tg := 27) (np := 16) (by decide +kernel) (by decide) la2 (by decide) (fun q10 => ?_) (fun q11 => ?_)
    · have q10 : a2 ≤ 2147493647 := q10
      refine x_aload (np := 28) (x := 0) (by decide +kernel) rfl (x_nc_le (by decide)) ?_
      refine x_getR (np := 31) (x := 648) (f := 8) (q := (h 0 8)) (by decide +kernel) (by decide) (by decide +kernel) rfl ?_
      have q12 : h (h 0 8) 5 = ((h 0 8) + 10) := tf_0_5 hJ t3
      refine x_getR (np := 34) (x := 517) (f := 5) (q := ((h 0 8) + 10)) (by decide +kernel) (by decide) (tg_0_517_5_1 t3) q12 ?_
      refine x_iload (np := 35) (x := 1) (by decide +kernel) rfl la1 ?_
      obtain ⟨u13, q14⟩ : ∃ z, a1 = 2147483648 + z := ⟨a1 - 2147483648, by first | decide | omega⟩
      refine x_aldC (np := 36) (x := 0) (n := 6) (i := u13) (q := (h ((h 0 8) + 10) u13)) (by decide +kernel) (ta_10_6 t3) (by first | decide | omega) (by first | decide | omega) (by decide) rfl (fun l15 => ?_)
      refine x_istore (np := 37) (x := 3) (lo' := [x_r 0, iv_c a1, iv_c a2, iv_c (h ((h 0 8) + 10) u13)]) (by decide +kernel) l15 (Nat.le_of_ble_eq_true rfl) rfl ?_
      refine x_aload (np := 38) (x := 0) (by decide +kernel) rfl (x_nc_le (by decide)) ?_
      refine x_getR (np := 41) (x := 648) (f := 8) (q := (h 0 8)) (by decide +kernel) (by decide) (by decide +kernel) rfl ?_
      have q16 : h (h 0 8) 5 = ((h 0 8) + 10) := tf_0_5 hJ t3
      refine x_getR (np := 44) (x := 517) (f := 5) (q := ((h 0 8) + 10)) (by decide +kernel) (by decide) (tg_0_517_5_1 t3) q16 ?_
      refine x_iload (np := 45) (x := 1) (by decide +kernel) rfl la1 ?_
      refine x_iload (np := 46) (x := 2) (by decide +kernel) rfl la2 ?_
      refine x_ast (np := 47) (x := 0) (kd := 1) (n := 6) (i := u13) (by decide +kernel) (Or.inl rfl) (ta_10_6 t3) (by first | decide | omega) (by first | decide | omega) (by decide) la2 (fun z => absurd z (by decide)) ?_
      have j18 := jU (e := u13) (v := a2) u13 hJ (rg_T10_0_1_6 t3) (by first | decide | omega) (by first | decide | omega) (by first | decide | omega)
      have f20 := jF (e := u13) (v := a2) u13 hF (rg_T10_0_1_6 t3) (by first | decide | omega) (by first | decide | omega) (by decide)
      generalize e19 : x_up h ((h 0 8) + 10) u13 a2 = h17 at j18 f20 ⊢
      refine x_iload (np := 48) (x := 3) (by decide +kernel) rfl l15 ?_
      refine x_retI (np := 49) (x := 0) (by decide +kernel) l15 (Or.inl (by decide +kernel)) (Or.inl ⟨_, rfl, l15, ?_⟩)
      exact ⟨j18, f20, (by first | decide | omega)⟩
    have q11 : ¬ (a2 ≤ 2147493647) := q11
    refine x_thr (np := 19) (x := 0) (by decide +kernel) (by decide +kernel) (Nat.le_trans x_wn (by decide)) (Or.inr ⟨_, rfl, ?_⟩)
    exact ⟨hJ, hF, by decide⟩
  have q7 : ¬ (a1 < (h (h 0 8) 7)) := q7
  refine x_thr (np := 18) (x := 2) (by decide +kernel) (by decide +kernel) (Nat.le_trans x_wn (by decide)) (Or.inr ⟨_, rfl, ?_⟩)
  refine Or.inr ⟨_, rfl, ?_⟩
  exact ⟨hJ, hF, by decide⟩
set_option maxHeartbeats 0 in
/-- LentNamesLaw.purse(LLentNames;II[J)I -/
theorem c297_0_97 {sc : Nat × Nat} {d a1 a2 : Nat} {h : xh} (hJ : J h) (ba1 : 0 ≤ a1 ∧ a1 ≤ 4294967295) (ba2 : 0 ≤ a2 ∧ a2 ≤ 4294967295) : X sc 297 (d + 2) (xI fun r h' => J h' ∧ Fr 1196268651020288 h h' ∧ (2147483648 ≤ r ∧ r ≤ 2147483650)) 0 0 0 [x_r 0, iv_c a1, iv_c a2, x_r 97, 147573952589676412928] [] h := by
  have la1 : a1 < 4294967296 := by first | decide | omega
  have la2 : a2 < 4294967296 := by first | decide | omega
  have hF := Fr.refl 1196268651020288 h
  refine x_aload (np := 1) (x := 3) (by decide +kernel) rfl (x_nc_le (by decide)) ?_
  refine x_const (np := 2) (x := 9223372039002259456) (a := 2147483648) (by decide +kernel) (by decide) (by decide) ?_
  refine x_aload (np := 3) (x := 0) (by decide +kernel) rfl (x_nc_le (by decide)) ?_
  refine x_iload (np := 4) (x := 1) (by decide +kernel) rfl la1 ?_
  refine x_iload (np := 5) (x := 2) (by decide +kernel) rfl la2 ?_
  refine x_cT (t := 6) (mj := 130) (n := 3) (rc := 11) (ml := 4) (cc := 2) (ss := 12) (nr := 2) (np := 8) (as := [x_r 0, iv_c a1, iv_c a2]) (rest := [iv_c 2147483648, x_r 97]) (lo1 := [x_r 0, iv_c a1, iv_c a2, 147573952589676412928]) (by decide +kernel) (by decide) (by decide +kernel) (x_rb_of (by decide +kernel)) rfl rfl (x_wr (by decide) (x_wi la1 (x_wi la2 x_wn))) (x_wi (by decide) (x_wr (by decide) x_wn)) (by decide) rfl (c130_0 hJ  (by first | decide | omega) (by first | decide | omega)) (fun v1 h4 l2 q3 => ?_) (fun E6 h7 q5 => ?_)
  · obtain ⟨j8, f9, b10⟩ := q3
    have f11 := Fr.trans hF f9 (by decide)
    refine x_i2l (np := 9) (x := 0) (by decide +kernel) l2 ?_
    refine x_last (np := 10) (x := 0) (n := 1) (i := 0) (by decide +kernel) (by decide) (by decide +kernel) (by decide +kernel) (by first | decide | omega) (by first | decide | omega) (by decide) l2 ?_
    have j13 := jU (e := 0) (v := v1) 0 j8 rg_97_0_1_1 (by first | decide | omega) (by first | decide | omega) (by first | decide | omega)
    have f15 := jF (e := 0) (v := v1) 0 f11 rg_97_0_1_1 (by first | decide | omega) (by first | decide | omega) (by decide)
    generalize e14 : x_up h4 97 0 v1 = h12 at j13 f15 ⊢
    refine x_goto (np := 13) (x := 21) (by decide +kernel) ?_
    refine x_const (np := 22) (x := 9223372039002259456) (a := 2147483648) (by decide +kernel) (by decide) (by decide) ?_
    refine x_retI (np := 23) (x := 0) (by decide +kernel) (by decide) (Or.inl (by decide +kernel)) ⟨_, rfl, (by decide), ?_⟩
    exact ⟨j13, f15, (by first | decide | omega)⟩
  obtain ⟨j16, f17, e18⟩ := q5
  have f19 := Fr.trans hF f17 (by decide)
  rcases e18 with rfl | rfl
  · refine ⟨17, fun _ _ => rfl, ?_⟩
    refine x_astE (np := 19) (x := 4) (lo' := [x_r 0, iv_c a1, iv_c a2, x_r 97, 55340232221128654850]) (by decide +kernel) (Nat.le_of_ble_eq_true rfl) rfl ?_
    refine x_const (np := 20) (x := 9223372047592194050) (a := 2147483650) (by decide +kernel) (by decide) (by decide) ?_
    refine x_retI (np := 21) (x := 0) (by decide +kernel) (by decide) (Or.inl (by decide +kernel)) ⟨_, rfl, (by decide), ?_⟩
    exact ⟨j16, f19, (by first | decide | omega)⟩
  · refine ⟨13, fun _ _ => rfl, ?_⟩
    refine x_astE (np := 15) (x := 4) (lo' := [x_r 0, iv_c a1, iv_c a2, x_r 97, 55340232221128654850]) (by decide +kernel) (Nat.le_of_ble_eq_true rfl) rfl ?_
    refine x_const (np := 16) (x := 9223372043297226753) (a := 2147483649) (by decide +kernel) (by decide) (by decide) ?_
    refine x_retI (np := 17) (x := 0) (by decide +kernel) (by decide) (Or.inl (by decide +kernel)) ⟨_, rfl, (by decide), ?_⟩
    exact ⟨j16, f19, (by first | decide | omega)⟩
set_option maxHeartbeats 0 in
/-- LentNames.left(I)I -/
theorem c131_0 {sc : Nat × Nat} {d a1 : Nat} {h : xh} (hJ : J h) (ba1 : 0 ≤ a1 ∧ a1 ≤ 4294967295) : X sc 131 (d + 4) (xT (fun r h' => J h' ∧ Fr 8193 h h' ∧ (0 ≤ r ∧ r ≤ 4294967295)) (fun E h' => J h' ∧ Fr 8193 h h' ∧ (E = 2))) 0 0 0 [x_r 0, iv_c a1] [] h := by
  have la1 : a1 < 4294967296 := by first | decide | omega
  have hF := Fr.refl 8193 h
  refine x_aload (np := 1) (x := 0) (by decide +kernel) rfl (x_nc_le (by decide)) ?_
  refine x_iload (np := 2) (x := 1) (by decide +kernel) rfl la1 ?_
  refine x_nU (t := 6) (mj := 145) (n := 2) (rc := 11) (ml := 2) (cc := 1) (ss := 6) (nr := 0) (np := 5) (as := [x_r 0, iv_c a1]) (rest := []) (lo1 := [x_r 0, iv_c a1]) (by decide +kernel) (by decide) (by decide +kernel) (by decide +kernel) (x_rb_of (by decide +kernel)) rfl rfl (x_wr (by decide) (x_wi la1 x_wn)) x_wn (by decide) rfl ?_
  refine x_iload (np := 1) (x := 1) (by decide +kernel) rfl la1 ?_
  refine x_ifz (k := 2) (tg := 15) (np := 4) (by decide +kernel) (by decide) la1 (fun q1 => ?_) (fun q2 => ?_)
  · have q1 : a1 < 2147483648 := q1
    refine x_thr (np := 18) (x := 2) (by decide +kernel) (by decide +kernel) (Nat.le_trans x_wn (by decide)) (Or.inr ⟨_, rfl, ?_⟩)
    refine Or.inr ⟨_, rfl, ?_⟩
    exact ⟨hJ, hF, by decide⟩
  have q2 : ¬ (a1 < 2147483648) := q2
  refine x_iload (np := 5) (x := 1) (by decide +kernel) rfl la1 ?_
  refine x_aload (np := 6) (x := 0) (by decide +kernel) rfl (x_nc_le (by decide)) ?_
  have t3 : tw (h 0 8) := hJ.2.1
  refine x_getR (np := 9) (x := 648) (f := 8) (q := (h 0 8)) (by decide +kernel) (by decide) (by decide +kernel) rfl ?_
  have b4 := jB (e := 7) 0 hJ (rg_T0_7_0_1 t3) (by first | decide | omega) (by first | decide | omega)
  refine x_getC (np := 12) (x := 519) (f := 7) (q := (h (h 0 8) 7)) (by decide +kernel) (by decide) (tg_0_519_7_0 t3) rfl (fun l5 => ?_)
  refine x_icmp (k := 2) (tg := 26) (np := 15) (by decide +kernel) (by decide) la1 l5 (fun q6 => ?_) (fun q7 => ?_)
  · have q6 : a1 < (h (h 0 8) 7) := q6
    refine x_retV (np := 27) (x := 0) (by decide +kernel) (by decide +kernel) (Or.inl ⟨rfl, ?_⟩)
    refine x_aload (np := 6) (x := 0) (by decide +kernel) rfl (x_nc_le (by decide)) ?_
    have q8 : h 0 2 = 59 := by have z := jB (e := 2) 0 hJ rg_0_2_0_1 (by decide) (by decide); omega
    refine x_getR (np := 9) (x := 642) (f := 2) (q := 59) (by decide +kernel) (by decide) (by decide +kernel) q8 ?_
    refine x_aload (np := 10) (x := 0) (by decide +kernel) rfl (x_nc_le (by decide)) ?_
    refine x_getR (np := 13) (x := 648) (f := 8) (q := (h 0 8)) (by decide +kernel) (by decide) (by decide +kernel) rfl ?_
    refine x_aload (np := 14) (x := 0) (by decide +kernel) rfl (x_nc_le (by decide)) ?_
    have q9 : h 0 1 = 45 := by have z := jB (e := 1) 0 hJ rg_0_1_0_1 (by decide) (by decide); omega
    refine x_getR (np := 17) (x := 641) (f := 1) (q := 45) (by decide +kernel) (by decide) (by decide +kernel) q9 ?_
    refine x_cV (t := 6) (mj := 1) (n := 3) (rc := 1) (ml := 5) (nr := 0) (np := 20) (as := [x_r 59, x_r (h 0 8), x_r 45]) (rest := []) (lo1 := [x_r 59, x_r (h 0 8), x_r 45, 147573952589676412928, 147573952589676412928]) (by decide +kernel) (by decide) (by decide +kernel) (x_rb_of (by decide +kernel)) rfl rfl (x_wr (by decide) (x_wr (tn_0 t3) (x_wr (by decide) x_wn))) x_wn (by decide) rfl (c1_59_T0_45 hJ  t3 ) (fun h13 q12 => ?_)
    obtain ⟨j14, f15⟩ := q12
    have f18 := Fr.trans hF f15 (by decide)
    refine x_aload (np := 21) (x := 0) (by decide +kernel) rfl (x_nc_le (by decide)) ?_
    have q19 : h13 0 2 = 59 := by have z := jB (e := 2) 0 j14 rg_0_2_0_1 (by decide) (by decide); omega
    refine x_getR (np := 24) (x := 642) (f := 2) (q := 59) (by decide +kernel) (by decide) (by decide +kernel) q19 ?_
    have q20 : h13 59 0 = 60 := by have z := jB (e := 0) 0 j14 rg_59_0_0_1 (by decide) (by decide); omega
    refine x_getR (np := 27) (x := 0) (f := 0) (q := 60) (by decide +kernel) (by decide) (by decide +kernel) q20 ?_
    refine x_iload (np := 28) (x := 1) (by decide +kernel) rfl la1 ?_
    obtain ⟨u21, q22⟩ : ∃ z, a1 = 2147483648 + z := ⟨a1 - 2147483648, by first | decide | omega⟩
    refine x_aldC (np := 29) (x := 0) (n := 6) (i := u21) (q := (h13 60 u21)) (by decide +kernel) (by decide +kernel) (by first | decide | omega) (by first | decide | omega) (by decide) rfl (fun l23 => ?_)
    refine x_retI (np := 30) (x := 0) (by decide +kernel) l23 (Or.inl (by decide +kernel)) (Or.inl ⟨_, rfl, l23, ?_⟩)
    exact ⟨j14, f18, (by first | decide | omega)⟩
  have q7 : ¬ (a1 < (h (h 0 8) 7)) := q7
  refine x_thr (np := 18) (x := 2) (by decide +kernel) (by decide +kernel) (Nat.le_trans x_wn (by decide)) (Or.inr ⟨_, rfl, ?_⟩)
  refine Or.inr ⟨_, rfl, ?_⟩
  exact ⟨hJ, hF, by decide⟩
set_option maxHeartbeats 0 in
/-- LentNamesLaw.left(LLentNames;I[J)I -/
theorem c298_0_97 {sc : Nat × Nat} {d a1 : Nat} {h : xh} (hJ : J h) (ba1 : 0 ≤ a1 ∧ a1 ≤ 4294967295) : X sc 298 (d + 5) (xI fun r h' => J h' ∧ Fr 70368744185857 h h' ∧ (2147483648 ≤ r ∧ r ≤ 2147483649)) 0 0 0 [x_r 0, iv_c a1, x_r 97, 147573952589676412928] [] h := by
  have la1 : a1 < 4294967296 := by first | decide | omega
  have hF := Fr.refl 70368744185857 h
  refine x_aload (np := 1) (x := 2) (by decide +kernel) rfl (x_nc_le (by decide)) ?_
  refine x_const (np := 2) (x := 9223372039002259456) (a := 2147483648) (by decide +kernel) (by decide) (by decide) ?_
  refine x_aload (np := 3) (x := 0) (by decide +kernel) rfl (x_nc_le (by decide)) ?_
  refine x_iload (np := 4) (x := 1) (by decide +kernel) rfl la1 ?_
  refine x_cT (t := 6) (mj := 131) (n := 2) (rc := 11) (ml := 2) (cc := 1) (ss := 6) (nr := 2) (np := 7) (as := [x_r 0, iv_c a1]) (rest := [iv_c 2147483648, x_r 97]) (lo1 := [x_r 0, iv_c a1]) (by decide +kernel) (by decide) (by decide +kernel) (x_rb_of (by decide +kernel)) rfl rfl (x_wr (by decide) (x_wi la1 x_wn)) (x_wi (by decide) (x_wr (by decide) x_wn)) (by decide) rfl (c131_0 hJ  (by first | decide | omega)) (fun v1 h4 l2 q3 => ?_) (fun E6 h7 q5 => ?_)
  · obtain ⟨j8, f9, b10⟩ := q3
    have f11 := Fr.trans hF f9 (by decide)
    refine x_i2l (np := 8) (x := 0) (by decide +kernel) l2 ?_
    refine x_last (np := 9) (x := 0) (n := 1) (i := 0) (by decide +kernel) (by decide) (by decide +kernel) (by decide +kernel) (by first | decide | omega) (by first | decide | omega) (by decide) l2 ?_
    have j13 := jU (e := 0) (v := v1) 0 j8 rg_97_0_1_1 (by first | decide | omega) (by first | decide | omega) (by first | decide | omega)
    have f15 := jF (e := 0) (v := v1) 0 f11 rg_97_0_1_1 (by first | decide | omega) (by first | decide | omega) (by decide)
    generalize e14 : x_up h4 97 0 v1 = h12 at j13 f15 ⊢
    refine x_goto (np := 12) (x := 15) (by decide +kernel) ?_
    refine x_const (np := 16) (x := 9223372039002259456) (a := 2147483648) (by decide +kernel) (by decide) (by decide) ?_
    refine x_retI (np := 17) (x := 0) (by decide +kernel) (by decide) (Or.inl (by decide +kernel)) ⟨_, rfl, (by decide), ?_⟩
    exact ⟨j13, f15, (by first | decide | omega)⟩
  obtain ⟨j16, f17, e18⟩ := q5
  have f19 := Fr.trans hF f17 (by decide)
  rcases e18 with rfl
  · refine ⟨12, fun _ _ => rfl, ?_⟩
    refine x_astE (np := 13) (x := 3) (lo' := [x_r 0, iv_c a1, x_r 97, 55340232221128654850]) (by decide +kernel) (Nat.le_of_ble_eq_true rfl) rfl ?_
    refine x_const (np := 14) (x := 9223372043297226753) (a := 2147483649) (by decide +kernel) (by decide) (by decide) ?_
    refine x_retI (np := 15) (x := 0) (by decide +kernel) (by decide) (Or.inl (by decide +kernel)) ⟨_, rfl, (by decide), ?_⟩
    exact ⟨j16, f19, (by first | decide | omega)⟩
set_option maxHeartbeats 0 in
/-- LentNames.meets(I)I -/
theorem c133_0 {sc : Nat × Nat} {d a1 : Nat} {h : xh} (hJ : J h) (ba1 : 0 ≤ a1 ∧ a1 ≤ 4294967295) : X sc 133 (d + 4) (xT (fun r h' => J h' ∧ Fr 8193 h h' ∧ (2147483647 ≤ r ∧ r ≤ 2147483653)) (fun E h' => J h' ∧ Fr 8193 h h' ∧ (E = 2))) 0 0 0 [x_r 0, iv_c a1, 147573952589676412928, 147573952589676412928, 147573952589676412928, 147573952589676412928, 147573952589676412928] [] h := by
  have la1 : a1 < 4294967296 := by first | decide | omega
  have hF := Fr.refl 8193 h
  refine x_aload (np := 1) (x := 0) (by decide +kernel) rfl (x_nc_le (by decide)) ?_
  have t1 : tw (h 0 8) := hJ.2.1
  refine x_getR (np := 4) (x := 648) (f := 8) (q := (h 0 8)) (by decide +kernel) (by decide) (by decide +kernel) rfl ?_
  have q2 : h (h 0 8) 2 = ((h 0 8) + 5) := tf_0_2 hJ t1
  refine x_getR (np := 7) (x := 514) (f := 2) (q := ((h 0 8) + 5)) (by decide +kernel) (by decide) (tg_0_514_2_1 t1) q2 ?_
  refine x_iload (np := 8) (x := 1) (by decide +kernel) rfl la1 ?_
  refine x_nU (t := 0) (mj := 147) (n := 2) (rc := 0) (ml := 2) (cc := 1) (ss := 6) (nr := 0) (np := 11) (as := [x_r ((h 0 8) + 5), iv_c a1]) (rest := []) (lo1 := [x_r ((h 0 8) + 5), iv_c a1]) (by decide +kernel) (by decide) (by decide +kernel) (by decide +kernel) (Or.inl rfl) rfl rfl (x_wr (tn_5 t1) (x_wi la1 x_wn)) x_wn (by decide) rfl ?_
  refine x_iload (np := 1) (x := 1) (by decide +kernel) rfl la1 ?_
  refine x_ifz (k := 2) (tg := 12) (np := 4) (by decide +kernel) (by decide) la1 (fun q3 => ?_) (fun q4 => ?_)
  · have q3 : a1 < 2147483648 := q3
    refine x_thr (np := 15) (x := 2) (by decide +kernel) (by decide +kernel) (Nat.le_trans x_wn (by decide)) (Or.inr ⟨_, rfl, ?_⟩)
    refine Or.inr ⟨_, rfl, ?_⟩
    exact ⟨hJ, hF, by decide⟩
  have q4 : ¬ (a1 < 2147483648) := q4
  refine x_iload (np := 5) (x := 1) (by decide +kernel) rfl la1 ?_
  refine x_aload (np := 6) (x := 0) (by decide +kernel) rfl (x_nc_le (tn_5 t1)) ?_
  have b5 := jB (e := 2) 0 hJ (rg_T5_2_0_1 t1) (by first | decide | omega) (by first | decide | omega)
  refine x_getC (np := 9) (x := 386) (f := 2) (q := (h ((h 0 8) + 5) 2)) (by decide +kernel) (by decide) (tg_5_386_2_0 t1) rfl (fun l6 => ?_)
  refine x_icmp (k := 2) (tg := 23) (np := 12) (by decide +kernel) (by decide) la1 l6 (fun q7 => ?_) (fun q8 => ?_)
  · have q7 : a1 < (h ((h 0 8) + 5) 2) := q7
    refine x_retV (np := 24) (x := 0) (by decide +kernel) (by decide +kernel) (Or.inl ⟨rfl, ?_⟩)
    refine x_aload (np := 12) (x := 0) (by decide +kernel) rfl (x_nc_le (by decide)) ?_
    have q9 : h 0 2 = 59 := by have z := jB (e := 2) 0 hJ rg_0_2_0_1 (by decide) (by decide); omega
    refine x_getR (np := 15) (x := 642) (f := 2) (q := 59) (by decide +kernel) (by decide) (by decide +kernel) q9 ?_
    refine x_aload (np := 16) (x := 0) (by decide +kernel) rfl (x_nc_le (by decide)) ?_
    refine x_getR (np := 19) (x := 648) (f := 8) (q := (h 0 8)) (by decide +kernel) (by decide) (by decide +kernel) rfl ?_
    refine x_aload (np := 20) (x := 0) (by decide +kernel) rfl (x_nc_le (by decide)) ?_
    have q10 : h 0 1 = 45 := by have z := jB (e := 1) 0 hJ rg_0_1_0_1 (by decide) (by decide); omega
    refine x_getR (np := 23) (x := 641) (f := 1) (q := 45) (by decide +kernel) (by decide) (by decide +kernel) q10 ?_
    refine x_cV (t := 6) (mj := 1) (n := 3) (rc := 1) (ml := 5) (nr := 0) (np := 26) (as := [x_r 59, x_r (h 0 8), x_r 45]) (rest := []) (lo1 := [x_r 59, x_r (h 0 8), x_r 45, 147573952589676412928, 147573952589676412928]) (by decide +kernel) (by decide) (by decide +kernel) (x_rb_of (by decide +kernel)) rfl rfl (x_wr (by decide) (x_wr (tn_0 t1) (x_wr (by decide) x_wn))) x_wn (by decide) rfl (c1_59_T0_45 hJ  t1 ) (fun h14 q13 => ?_)
    obtain ⟨j15, f16⟩ := q13
    have f19 := Fr.trans hF f16 (by decide)
    refine x_aload (np := 27) (x := 0) (by decide +kernel) rfl (x_nc_le (by decide)) ?_
    have q20 : h14 0 2 = 59 := by have z := jB (e := 2) 0 j15 rg_0_2_0_1 (by decide) (by decide); omega
    refine x_getR (np := 30) (x := 642) (f := 2) (q := 59) (by decide +kernel) (by decide) (by decide +kernel) q20 ?_
    refine x_getC (np := 33) (x := 1) (f := 1) (q := (h14 59 1)) (by decide +kernel) (by decide) (by decide +kernel) rfl (fun l21 => ?_)
    refine x_iload (np := 34) (x := 1) (by decide +kernel) rfl la1 ?_
    refine x_cP (t := 0) (mj := 148) (n := 2) (rc := 0) (ml := 2) (nr := 0) (np := 37) (as := [iv_c (h14 59 1), iv_c a1]) (rest := []) (lo1 := [iv_c (h14 59 1), iv_c a1]) (by decide +kernel) (by decide) (by decide +kernel) (Or.inl rfl) rfl rfl (x_wi l21 (x_wi la1 x_wn)) x_wn (by decide) rfl (c148 j15 (by first | decide | omega) (by first | decide | omega)) (fun v22 l23 q24 => ?_)
    refine x_ifz (k := 0) (tg := 56) (np := 40) (by decide +kernel) (by decide) l23 (fun q25 => ?_) (fun q26 => ?_)
    · have q25 : v22 = 2147483648 := q25
      refine x_const (np := 57) (x := 9223372034707292159) (a := 2147483647) (by decide +kernel) (by decide) (by decide) ?_
      refine x_retI (np := 58) (x := 0) (by decide +kernel) (by decide) (Or.inl (by decide +kernel)) (Or.inl ⟨_, rfl, (by decide), ?_⟩)
      exact ⟨j15, f19, (by first | decide | omega)⟩
    have q26 : ¬ (v22 = 2147483648) := q26
    refine x_aload (np := 41) (x := 0) (by decide +kernel) rfl (x_nc_le (by decide)) ?_
    have q27 : h14 0 8 = h 0 8 := f16 0 8 (by decide +kernel)
    refine x_getR (np := 44) (x := 648) (f := 8) (q := (h 0 8)) (by decide +kernel) (by decide) (by decide +kernel) q27 ?_
    have q28 : h14 (h 0 8) 2 = ((h 0 8) + 5) := tf_0_2 j15 t1
    refine x_getR (np := 47) (x := 514) (f := 2) (q := ((h 0 8) + 5)) (by decide +kernel) (by decide) (tg_0_514_2_1 t1) q28 ?_
    refine x_iload (np := 48) (x := 1) (by decide +kernel) rfl la1 ?_
    refine x_const (np := 49) (x := 9223372039002259456) (a := 2147483648) (by decide +kernel) (by decide) (by decide) ?_
    refine x_nI (t := 6) (mj := 68) (n := 3) (rc := 7) (ml := 4) (nr := 0) (np := 52) (as := [x_r ((h 0 8) + 5), iv_c a1, iv_c 2147483648]) (rest := []) (lo1 := [x_r ((h 0 8) + 5), iv_c a1, iv_c 2147483648, 147573952589676412928]) (by decide +kernel) (by decide) (by decide +kernel) (x_rb_of (tr_5_7 t1)) rfl rfl (x_wr (tn_5 t1) (x_wi la1 (x_wi (by decide) x_wn))) x_wn (by decide) rfl ?_
    refine x_iload (np := 1) (x := 1) (by decide +kernel) rfl la1 ?_
    refine x_ifz (k := 2) (tg := 28) (np := 4) (by decide +kernel) (by decide) la1 (fun q30 => ?_) (fun q31 => ?_)
    · have q30 : a1 < 2147483648 := q30
      exfalso; omega
    have q31 : ¬ (a1 < 2147483648) := q31
    refine x_iload (np := 5) (x := 1) (by decide +kernel) rfl la1 ?_
    refine x_aload (np := 6) (x := 0) (by decide +kernel) rfl (x_nc_le (tn_5 t1)) ?_
    have q32 : h14 ((h 0 8) + 5) 2 = h ((h 0 8) + 5) 2 := jK 0 f16 (rg_T5_2_0_1 t1) (by first | decide | omega) (by first | decide | omega) (by decide)
    refine x_getC (np := 9) (x := 386) (f := 2) (q := (h ((h 0 8) + 5) 2)) (by decide +kernel) (by decide) (tg_5_386_2_0 t1) q32 (fun l33 => ?_)
    refine x_icmp (k := 3) (tg := 28) (np := 12) (by decide +kernel) (by decide) la1 l6 (fun q34 => ?_) (fun q35 => ?_)
    · have q34 : (h ((h 0 8) + 5) 2) ≤ a1 := q34
      exfalso; omega
    have q35 : ¬ ((h ((h 0 8) + 5) 2) ≤ a1) := q35
    refine x_iload (np := 13) (x := 2) (by decide +kernel) rfl (by decide) ?_
    refine x_ifz (k := 2) (tg := 28) (np := 16) (by decide +kernel) (by decide) (by decide) (fun q36 => ?_) (fun q37 => ?_)
    · have q36 : 2147483648 < 2147483648 := q36
      exfalso; omega
    have q37 : ¬ (2147483648 < 2147483648) := q37
    refine x_iload (np := 17) (x := 2) (by decide +kernel) rfl (by decide) ?_
    refine x_aload (np := 18) (x := 0) (by decide +kernel) rfl (x_nc_le (tn_5 t1)) ?_
    have q38 : h14 ((h 0 8) + 5) 0 = h ((h 0 8) + 5) 0 := jK 0 f16 (rg_T5_0_0_1 t1) (by first | decide | omega) (by first | decide | omega) (by decide)
    have b39 := jB (e := 0) 0 hJ (rg_T5_0_0_1 t1) (by first | decide | omega) (by first | decide | omega)
    have q40 : (h ((h 0 8) + 5) 0) = 2147483652 := by first | decide | omega
    refine x_getC (np := 21) (x := 384) (f := 0) (q := 2147483652) (by decide +kernel) (by decide) (tg_5_384_0_0 t1) (q38.trans q40) (fun l41 => ?_)
    refine x_icmp (k := 3) (tg := 28) (np := 24) (by decide +kernel) (by decide) (by decide) (by decide) (fun q42 => ?_) (fun q43 => ?_)
    · have q42 : 2147483652 ≤ 2147483648 := q42
      exfalso; omega
    have q43 : ¬ (2147483652 ≤ 2147483648) := q43
    refine x_const (np := 25) (x := 9223372043297226753) (a := 2147483649) (by decide +kernel) (by decide) (by decide) ?_
    refine x_goto (np := 28) (x := 29) (by decide +kernel) ?_
    refine x_istore (np := 30) (x := 3) (lo' := [x_r ((h 0 8) + 5), iv_c a1, iv_c 2147483648, iv_c 2147483649]) (by decide +kernel) (by decide) (Nat.le_of_ble_eq_true rfl) rfl ?_
    refine x_iload (np := 31) (x := 3) (by decide +kernel) rfl (by decide) ?_
    refine x_ifz (k := 0) (tg := 50) (np := 34) (by decide +kernel) (by decide) (by decide) (fun q44 => ?_) (fun q45 => ?_)
    · have q44 : 2147483649 = 2147483648 := q44
      exfalso; omega
    have q45 : ¬ (2147483649 = 2147483648) := q45
    refine x_aload (np := 35) (x := 0) (by decide +kernel) rfl (x_nc_le (tn_5 t1)) ?_
    have q46 : h14 ((h 0 8) + 5) 1 = ((h 0 8) + 6) := tf_5_1 j15 t1
    refine x_getR (np := 38) (x := 385) (f := 1) (q := ((h 0 8) + 6)) (by decide +kernel) (by decide) (tg_5_385_1_1 t1) q46 ?_
    refine x_iload (np := 39) (x := 1) (by decide +kernel) rfl la1 ?_
    refine x_aload (np := 40) (x := 0) (by decide +kernel) rfl (x_nc_le (tn_5 t1)) ?_
    have q47 : h14 ((h 0 8) + 5) 0 = h ((h 0 8) + 5) 0 := jK 0 f16 (rg_T5_0_0_1 t1) (by first | decide | omega) (by first | decide | omega) (by decide)
    refine x_getC (np := 43) (x := 384) (f := 0) (q := 2147483652) (by decide +kernel) (by decide) (tg_5_384_0_0 t1) (q47.trans q40) (fun l48 => ?_)
    obtain ⟨u49, q50⟩ : ∃ z, a1 = 2147483648 + z := ⟨a1 - 2147483648, by first | decide | omega⟩
    refine x_imul (np := 44) (x := 0) (i := u49) (j := 4) (v := (2147483648 + 4 * u49)) (by decide +kernel) (by first | decide | omega) (by first | decide | omega) (by first | decide | omega) (by first | decide | omega) la1 (by decide) ?_
    refine x_iload (np := 45) (x := 2) (by decide +kernel) rfl (by decide) ?_
    refine x_iadd (np := 46) (x := 0) (v := (2147483648 + 4 * u49)) (by decide +kernel) (by first | decide | omega) (by decide) (by first | decide | omega) (by first | decide | omega) ?_
    have q52 : h14 ((h 0 8) + 6) (4 * u49) = h ((h 0 8) + 6) (4 * u49) := jK (4 * u49) f16 (rg_T6_0_1_40 t1) (by first | decide | omega) (by first | decide | omega) (by decide)
    refine x_aldC (np := 47) (x := 0) (n := 40) (i := (4 * u49)) (q := ((h ((h 0 8) + 6) (4 * u49)))) (by decide +kernel) (ta_6_40 t1) (by first | decide | omega) (by first | decide | omega) (by decide) q52 (fun l53 => ?_)
    refine x_goto (np := 50) (x := 51) (by decide +kernel) ?_
    refine x_retI (np := 52) (x := 0) (by decide +kernel) l53 (Or.inl (by decide +kernel)) ⟨_, rfl, l53, ?_⟩
    refine x_const (np := 53) (x := 9223372043297226753) (a := 2147483649) (by decide +kernel) (by decide) (by decide) ?_
    refine x_icmp (k := 1) (tg := 58) (np := 56) (by decide +kernel) (by decide) l53 (by decide) (fun q54 => ?_) (fun q55 => ?_)
    · have q54 : ((h ((h 0 8) + 6) (4 * u49))) ≠ 2147483649 := q54
      refine x_aload (np := 59) (x := 0) (by decide +kernel) rfl (x_nc_le (by decide)) ?_
      have q56 : h14 0 8 = h 0 8 := f16 0 8 (by decide +kernel)
      refine x_getR (np := 62) (x := 648) (f := 8) (q := (h 0 8)) (by decide +kernel) (by decide) (by decide +kernel) q56 ?_
      have q57 : h14 (h 0 8) 2 = ((h 0 8) + 5) := tf_0_2 j15 t1
      refine x_getR (np := 65) (x := 514) (f := 2) (q := ((h 0 8) + 5)) (by decide +kernel) (by decide) (tg_0_514_2_1 t1) q57 ?_
      refine x_iload (np := 66) (x := 1) (by decide +kernel) rfl la1 ?_
      refine x_const (np := 67) (x := 9223372043297226753) (a := 2147483649) (by decide +kernel) (by decide) (by decide) ?_
      refine x_nI (t := 6) (mj := 68) (n := 3) (rc := 7) (ml := 4) (nr := 0) (np := 70) (as := [x_r ((h 0 8) + 5), iv_c a1, iv_c 2147483649]) (rest := []) (lo1 := [x_r ((h 0 8) + 5), iv_c a1, iv_c 2147483649, 147573952589676412928]) (by decide +kernel) (by decide) (by decide +kernel) (x_rb_of (tr_5_7 t1)) rfl rfl (x_wr (tn_5 t1) (x_wi la1 (x_wi (by decide) x_wn))) x_wn (by decide) rfl ?_
      refine x_iload (np := 1) (x := 1) (by decide +kernel) rfl la1 ?_
      refine x_ifz (k := 2) (tg := 28) (np := 4) (by decide +kernel) (by decide) la1 (fun q59 => ?_) (fun q60 => ?_)
      · have q59 : a1 < 2147483648 := q59
        exfalso; omega
      have q60 : ¬ (a1 < 2147483648) := q60
      refine x_iload (np := 5) (x := 1) (by decide +kernel) rfl la1 ?_
      refine x_aload (np := 6) (x := 0) (by decide +kernel) rfl (x_nc_le (tn_5 t1)) ?_
      have q61 : h14 ((h 0 8) + 5) 2 = h ((h 0 8) + 5) 2 := jK 0 f16 (rg_T5_2_0_1 t1) (by first | decide | omega) (by first | decide | omega) (by decide)
      refine x_getC (np := 9) (x := 386) (f := 2) (q := (h ((h 0 8) + 5) 2)) (by decide +kernel) (by decide) (tg_5_386_2_0 t1) q61 (fun l62 => ?_)
      refine x_icmp (k := 3) (tg := 28) (np := 12) (by decide +kernel) (by decide) la1 l6 (fun q63 => ?_) (fun q64 => ?_)
      · have q63 : (h ((h 0 8) + 5) 2) ≤ a1 := q63
        exfalso; omega
      have q64 : ¬ ((h ((h 0 8) + 5) 2) ≤ a1) := q64
      refine x_iload (np := 13) (x := 2) (by decide +kernel) rfl (by decide) ?_
      refine x_ifz (k := 2) (tg := 28) (np := 16) (by decide +kernel) (by decide) (by decide) (fun q65 => ?_) (fun q66 => ?_)
      · have q65 : 2147483649 < 2147483648 := q65
        exfalso; omega
      have q66 : ¬ (2147483649 < 2147483648) := q66
      refine x_iload (np := 17) (x := 2) (by decide +kernel) rfl (by decide) ?_
      refine x_aload (np := 18) (x := 0) (by decide +kernel) rfl (x_nc_le (tn_5 t1)) ?_
      have q67 : h14 ((h 0 8) + 5) 0 = h ((h 0 8) + 5) 0 := jK 0 f16 (rg_T5_0_0_1 t1) (by first | decide | omega) (by first | decide | omega) (by decide)
      refine x_getC (np := 21) (x := 384) (f := 0) (q := 2147483652) (by decide +kernel) (by decide) (tg_5_384_0_0 t1) (q67.trans q40) (fun l68 => ?_)
      refine x_icmp (k := 3) (tg := 28) (np := 24) (by decide +kernel) (by decide) (by decide) (by decide) (fun q69 => ?_) (fun q70 => ?_)
      · have q69 : 2147483652 ≤ 2147483649 := q69
        exfalso; omega
      have q70 : ¬ (2147483652 ≤ 2147483649) := q70
      refine x_const (np := 25) (x := 9223372043297226753) (a := 2147483649) (by decide +kernel) (by decide) (by decide) ?_
      refine x_goto (np := 28) (x := 29) (by decide +kernel) ?_
      refine x_istore (np := 30) (x := 3) (lo' := [x_r ((h 0 8) + 5), iv_c a1, iv_c 2147483649, iv_c 2147483649]) (by decide +kernel) (by decide) (Nat.le_of_ble_eq_true rfl) rfl ?_
      refine x_iload (np := 31) (x := 3) (by decide +kernel) rfl (by decide) ?_
      refine x_ifz (k := 0) (tg := 50) (np := 34) (by decide +kernel) (by decide) (by decide) (fun q71 => ?_) (fun q72 => ?_)
      · have q71 : 2147483649 = 2147483648 := q71
        exfalso; omega
      have q72 : ¬ (2147483649 = 2147483648) := q72
      refine x_aload (np := 35) (x := 0) (by decide +kernel) rfl (x_nc_le (tn_5 t1)) ?_
      have q73 : h14 ((h 0 8) + 5) 1 = ((h 0 8) + 6) := tf_5_1 j15 t1
      refine x_getR (np := 38) (x := 385) (f := 1) (q := ((h 0 8) + 6)) (by decide +kernel) (by decide) (tg_5_385_1_1 t1) q73 ?_
      refine x_iload (np := 39) (x := 1) (by decide +kernel) rfl la1 ?_
      refine x_aload (np := 40) (x := 0) (by decide +kernel) rfl (x_nc_le (tn_5 t1)) ?_
      have q74 : h14 ((h 0 8) + 5) 0 = h ((h 0 8) + 5) 0 := jK 0 f16 (rg_T5_0_0_1 t1) (by first | decide | omega) (by first | decide | omega) (by decide)
      refine x_getC (np := 43) (x := 384) (f := 0) (q := 2147483652) (by decide +kernel) (by decide) (tg_5_384_0_0 t1) (q74.trans q40) (fun l75 => ?_)
      refine x_imul (np := 44) (x := 0) (i := u49) (j := 4) (v := (2147483648 + 4 * u49)) (by decide +kernel) (by first | decide | omega) (by first | decide | omega) (by first | decide | omega) (by first | decide | omega) la1 (by decide) ?_
      refine x_iload (np := 45) (x := 2) (by decide +kernel) rfl (by decide) ?_
      refine x_iadd (np := 46) (x := 0) (v := (2147483649 + 4 * u49)) (by decide +kernel) (by first | decide | omega) (by decide) (by first | decide | omega) (by first | decide | omega) ?_
      have q77 : h14 ((h 0 8) + 6) (1 + 4 * u49) = h ((h 0 8) + 6) (1 + 4 * u49) := jK (1 + 4 * u49) f16 (rg_T6_0_1_40 t1) (by first | decide | omega) (by first | decide | omega) (by decide)
      refine x_aldC (np := 47) (x := 0) (n := 40) (i := (1 + 4 * u49)) (q := ((h ((h 0 8) + 6) (1 + 4 * u49)))) (by decide +kernel) (ta_6_40 t1) (by first | decide | omega) (by first | decide | omega) (by decide) q77 (fun l78 => ?_)
      refine x_goto (np := 50) (x := 51) (by decide +kernel) ?_
      refine x_retI (np := 52) (x := 0) (by decide +kernel) l78 (Or.inl (by decide +kernel)) ⟨_, rfl, l78, ?_⟩
      refine x_istore (np := 71) (x := 2) (lo' := [x_r 0, iv_c a1, iv_c ((h ((h 0 8) + 6) (1 + 4 * u49))), 147573952589676412928, 147573952589676412928, 147573952589676412928, 147573952589676412928]) (by decide +kernel) l78 (Nat.le_of_ble_eq_true rfl) rfl ?_
      refine x_aload (np := 72) (x := 0) (by decide +kernel) rfl (x_nc_le (by decide)) ?_
      have q79 : h14 0 8 = h 0 8 := f16 0 8 (by decide +kernel)
      refine x_getR (np := 75) (x := 648) (f := 8) (q := (h 0 8)) (by decide +kernel) (by decide) (by decide +kernel) q79 ?_
      have q80 : h14 (h 0 8) 2 = ((h 0 8) + 5) := tf_0_2 j15 t1
      refine x_getR (np := 78) (x := 514) (f := 2) (q := ((h 0 8) + 5)) (by decide +kernel) (by decide) (tg_0_514_2_1 t1) q80 ?_
      refine x_iload (np := 79) (x := 1) (by decide +kernel) rfl la1 ?_
      refine x_const (np := 80) (x := 9223372047592194050) (a := 2147483650) (by decide +kernel) (by decide) (by decide) ?_
      refine x_nI (t := 6) (mj := 68) (n := 3) (rc := 7) (ml := 4) (nr := 0) (np := 83) (as := [x_r ((h 0 8) + 5), iv_c a1, iv_c 2147483650]) (rest := []) (lo1 := [x_r ((h 0 8) + 5), iv_c a1, iv_c 2147483650, 147573952589676412928]) (by decide +kernel) (by decide) (by decide +kernel) (x_rb_of (tr_5_7 t1)) rfl rfl (x_wr (tn_5 t1) (x_wi la1 (x_wi (by decide) x_wn))) x_wn (by decide) rfl ?_
      refine x_iload (np := 1) (x := 1) (by decide +kernel) rfl la1 ?_
      refine x_ifz (k := 2) (tg := 28) (np := 4) (by decide +kernel) (by decide) la1 (fun q82 => ?_) (fun q83 => ?_)
      · have q82 : a1 < 2147483648 := q82
        exfalso; omega
      have q83 : ¬ (a1 < 2147483648) := q83
      refine x_iload (np := 5) (x := 1) (by decide +kernel) rfl la1 ?_
      refine x_aload (np := 6) (x := 0) (by decide +kernel) rfl (x_nc_le (tn_5 t1)) ?_
      have q84 : h14 ((h 0 8) + 5) 2 = h ((h 0 8) + 5) 2 := jK 0 f16 (rg_T5_2_0_1 t1) (by first | decide | omega) (by first | decide | omega) (by decide)
      refine x_getC (np := 9) (x := 386) (f := 2) (q := (h ((h 0 8) + 5) 2)) (by decide +kernel) (by decide) (tg_5_386_2_0 t1) q84 (fun l85 => ?_)
      refine x_icmp (k := 3) (tg := 28) (np := 12) (by decide +kernel) (by decide) la1 l6 (fun q86 => ?_) (fun q87 => ?_)
      · have q86 : (h ((h 0 8) + 5) 2) ≤ a1 := q86
        exfalso; omega
      have q87 : ¬ ((h ((h 0 8) + 5) 2) ≤ a1) := q87
      refine x_iload (np := 13) (x := 2) (by decide +kernel) rfl (by decide) ?_
      refine x_ifz (k := 2) (tg := 28) (np := 16) (by decide +kernel) (by decide) (by decide) (fun q88 => ?_) (fun q89 => ?_)
      · have q88 : 2147483650 < 2147483648 := q88
        exfalso; omega
      have q89 : ¬ (2147483650 < 2147483648) := q89
      refine x_iload (np := 17) (x := 2) (by decide +kernel) rfl (by decide) ?_
      refine x_aload (np := 18) (x := 0) (by decide +kernel) rfl (x_nc_le (tn_5 t1)) ?_
      have q90 : h14 ((h 0 8) + 5) 0 = h ((h 0 8) + 5) 0 := jK 0 f16 (rg_T5_0_0_1 t1) (by first | decide | omega) (by first | decide | omega) (by decide)
      refine x_getC (np := 21) (x := 384) (f := 0) (q := 2147483652) (by decide +kernel) (by decide) (tg_5_384_0_0 t1) (q90.trans q40) (fun l91 => ?_)
      refine x_icmp (k := 3) (tg := 28) (np := 24) (by decide +kernel) (by decide) (by decide) (by decide) (fun q92 => ?_) (fun q93 => ?_)
      · have q92 : 2147483652 ≤ 2147483650 := q92
        exfalso; omega
      have q93 : ¬ (2147483652 ≤ 2147483650) := q93
      refine x_const (np := 25) (x := 9223372043297226753) (a := 2147483649) (by decide +kernel) (by decide) (by decide) ?_
      refine x_goto (np := 28) (x := 29) (by decide +kernel) ?_
      refine x_istore (np := 30) (x := 3) (lo' := [x_r ((h 0 8) + 5), iv_c a1, iv_c 2147483650, iv_c 2147483649]) (by decide +kernel) (by decide) (Nat.le_of_ble_eq_true rfl) rfl ?_
      refine x_iload (np := 31) (x := 3) (by decide +kernel) rfl (by decide) ?_
      refine x_ifz (k := 0) (tg := 50) (np := 34) (by decide +kernel) (by decide) (by decide) (fun q94 => ?_) (fun q95 => ?_)
      · have q94 : 2147483649 = 2147483648 := q94
        exfalso; omega
      have q95 : ¬ (2147483649 = 2147483648) := q95
      refine x_aload (np := 35) (x := 0) (by decide +kernel) rfl (x_nc_le (tn_5 t1)) ?_
      have q96 : h14 ((h 0 8) + 5) 1 = ((h 0 8) + 6) := tf_5_1 j15 t1
      refine x_getR (np := 38) (x := 385) (f := 1) (q := ((h 0 8) + 6)) (by decide +kernel) (by decide) (tg_5_385_1_1 t1) q96 ?_
      refine x_iload (np := 39) (x := 1) (by decide +kernel) rfl la1 ?_
      refine x_aload (np := 40) (x := 0) (by decide +kernel) rfl (x_nc_le (tn_5 t1)) ?_
      have q97 : h14 ((h 0 8) + 5) 0 = h ((h 0 8) + 5) 0 := jK 0 f16 (rg_T5_0_0_1 t1) (by first | decide | omega) (by first | decide | omega) (by decide)
      refine x_getC (np := 43) (x := 384) (f := 0) (q := 2147483652) (by decide +kernel) (by decide) (tg_5_384_0_0 t1) (q97.trans q40) (fun l98 => ?_)
      refine x_imul (np := 44) (x := 0) (i := u49) (j := 4) (v := (2147483648 + 4 * u49)) (by decide +kernel) (by first | decide | omega) (by first | decide | omega) (by first | decide | omega) (by first | decide | omega) la1 (by decide) ?_
      refine x_iload (np := 45) (x := 2) (by decide +kernel) rfl (by decide) ?_
      refine x_iadd (np := 46) (x := 0) (v := (2147483650 + 4 * u49)) (by decide +kernel) (by first | decide | omega) (by decide) (by first | decide | omega) (by first | decide | omega) ?_
      have q100 : h14 ((h 0 8) + 6) (2 + 4 * u49) = h ((h 0 8) + 6) (2 + 4 * u49) := jK (2 + 4 * u49) f16 (rg_T6_0_1_40 t1) (by first | decide | omega) (by first | decide | omega) (by decide)
      refine x_aldC (np := 47) (x := 0) (n := 40) (i := (2 + 4 * u49)) (q := ((h ((h 0 8) + 6) (2 + 4 * u49)))) (by decide +kernel) (ta_6_40 t1) (by first | decide | omega) (by first | decide | omega) (by decide) q100 (fun l101 => ?_)
      refine x_goto (np := 50) (x := 51) (by decide +kernel) ?_
      refine x_retI (np := 52) (x := 0) (by decide +kernel) l101 (Or.inl (by decide +kernel)) ⟨_, rfl, l101, ?_⟩
      refine x_istore (np := 84) (x := 3) (lo' := [x_r 0, iv_c a1, iv_c ((h ((h 0 8) + 6) (1 + 4 * u49))), iv_c ((h ((h 0 8) + 6) (2 + 4 * u49))), 147573952589676412928, 147573952589676412928, 147573952589676412928]) (by decide +kernel) l101 (Nat.le_of_ble_eq_true rfl) rfl ?_
      refine x_aload (np := 85) (x := 0) (by decide +kernel) rfl (x_nc_le (by decide)) ?_
      have q102 : h14 0 8 = h 0 8 := f16 0 8 (by decide +kernel)
      refine x_getR (np := 88) (x := 648) (f := 8) (q := (h 0 8)) (by decide +kernel) (by decide) (by decide +kernel) q102 ?_
      have q103 : h14 (h 0 8) 2 = ((h 0 8) + 5) := tf_0_2 j15 t1
      refine x_getR (np := 91) (x := 514) (f := 2) (q := ((h 0 8) + 5)) (by decide +kernel) (by decide) (tg_0_514_2_1 t1) q103 ?_
      refine x_iload (np := 92) (x := 1) (by decide +kernel) rfl la1 ?_
      refine x_const (np := 93) (x := 9223372051887161347) (a := 2147483651) (by decide +kernel) (by decide) (by decide) ?_
      refine x_nI (t := 6) (mj := 68) (n := 3) (rc := 7) (ml := 4) (nr := 0) (np := 96) (as := [x_r ((h 0 8) + 5), iv_c a1, iv_c 2147483651]) (rest := []) (lo1 := [x_r ((h 0 8) + 5), iv_c a1, iv_c 2147483651, 147573952589676412928]) (by decide +kernel) (by decide) (by decide +kernel) (x_rb_of (tr_5_7 t1)) rfl rfl (x_wr (tn_5 t1) (x_wi la1 (x_wi (by decide) x_wn))) x_wn (by decide) rfl ?_
      refine x_iload (np := 1) (x := 1) (by decide +kernel) rfl la1 ?_
      refine x_ifz (k := 2) (tg := 28) (np := 4) (by decide +kernel) (by decide) la1 (fun q105 => ?_) (fun q106 => ?_)
      · have q105 : a1 < 2147483648 := q105
        exfalso; omega
      have q106 : ¬ (a1 < 2147483648) := q106
      refine x_iload (np := 5) (x := 1) (by decide +kernel) rfl la1 ?_
      refine x_aload (np := 6) (x := 0) (by decide +kernel) rfl (x_nc_le (tn_5 t1)) ?_
      have q107 : h14 ((h 0 8) + 5) 2 = h ((h 0 8) + 5) 2 := jK 0 f16 (rg_T5_2_0_1 t1) (by first | decide | omega) (by first | decide | omega) (by decide)
      refine x_getC (np := 9) (x := 386) (f := 2) (q := (h ((h 0 8) + 5) 2)) (by decide +kernel) (by decide) (tg_5_386_2_0 t1) q107 (fun l108 => ?_)
      refine x_icmp (k := 3) (tg := 28) (np := 12) (by decide +kernel) (by decide) la1 l6 (fun q109 => ?_) (fun q110 => ?_)
      · have q109 : (h ((h 0 8) + 5) 2) ≤ a1 := q109
        exfalso; omega
      have q110 : ¬ ((h ((h 0 8) + 5) 2) ≤ a1) := q110
      refine x_iload (np := 13) (x := 2) (by decide +kernel) rfl (by decide) ?_
      refine x_ifz (k := 2) (tg := 28) (np := 16) (by decide +kernel) (by decide) (by decide) (fun q111 => ?_) (fun q112 => ?_)
      · have q111 : 2147483651 < 2147483648 := q111
        exfalso; omega
      have q112 : ¬ (2147483651 < 2147483648) := q112
      refine x_iload (np := 17) (x := 2) (by decide +kernel) rfl (by decide) ?_
      refine x_aload (np := 18) (x := 0) (by decide +kernel) rfl (x_nc_le (tn_5 t1)) ?_
      have q113 : h14 ((h 0 8) + 5) 0 = h ((h 0 8) + 5) 0 := jK 0 f16 (rg_T5_0_0_1 t1) (by first | decide | omega) (by first | decide | omega) (by decide)
      refine x_getC (np := 21) (x := 384) (f := 0) (q := 2147483652) (by decide +kernel) (by decide) (tg_5_384_0_0 t1) (q113.trans q40) (fun l114 => ?_)
      refine x_icmp (k := 3) (tg := 28) (np := 24) (by decide +kernel) (by decide) (by decide) (by decide) (fun q115 => ?_) (fun q116 => ?_)
      · have q115 : 2147483652 ≤ 2147483651 := q115
        exfalso; omega
      have q116 : ¬ (2147483652 ≤ 2147483651) := q116
      refine x_const (np := 25) (x := 9223372043297226753) (a := 2147483649) (by decide +kernel) (by decide) (by decide) ?_
      refine x_goto (np := 28) (x := 29) (by decide +kernel) ?_
      refine x_istore (np := 30) (x := 3) (lo' := [x_r ((h 0 8) + 5), iv_c a1, iv_c 2147483651, iv_c 2147483649]) (by decide +kernel) (by decide) (Nat.le_of_ble_eq_true rfl) rfl ?_
      refine x_iload (np := 31) (x := 3) (by decide +kernel) rfl (by decide) ?_
      refine x_ifz (k := 0) (tg := 50) (np := 34) (by decide +kernel) (by decide) (by decide) (fun q117 => ?_) (fun q118 => ?_)
      · have q117 : 2147483649 = 2147483648 := q117
        exfalso; omega
      have q118 : ¬ (2147483649 = 2147483648) := q118
      refine x_aload (np := 35) (x := 0) (by decide +kernel) rfl (x_nc_le (tn_5 t1)) ?_
      have q119 : h14 ((h 0 8) + 5) 1 = ((h 0 8) + 6) := tf_5_1 j15 t1
      refine x_getR (np := 38) (x := 385) (f := 1) (q := ((h 0 8) + 6)) (by decide +kernel) (by decide) (tg_5_385_1_1 t1) q119 ?_
      refine x_iload (np := 39) (x := 1) (by decide +kernel) rfl la1 ?_
      refine x_aload (np := 40) (x := 0) (by decide +kernel) rfl (x_nc_le (tn_5 t1)) ?_
      have q120 : h14 ((h 0 8) + 5) 0 = h ((h 0 8) + 5) 0 := jK 0 f16 (rg_T5_0_0_1 t1) (by first | decide | omega) (by first | decide | omega) (by decide)
      refine x_getC (np := 43) (x := 384) (f := 0) (q := 2147483652) (by decide +kernel) (by decide) (tg_5_384_0_0 t1) (q120.trans q40) (fun l121 => ?_)
      refine x_imul (np := 44) (x := 0) (i := u49) (j := 4) (v := (2147483648 + 4 * u49)) (by decide +kernel) (by first | decide | omega) (by first | decide | omega) (by first | decide | omega) (by first | decide | omega) la1 (by decide) ?_
      refine x_iload (np := 45) (x := 2) (by decide +kernel) rfl (by decide) ?_
      refine x_iadd (np := 46) (x := 0) (v := (2147483651 + 4 * u49)) (by decide +kernel) (by first | decide | omega) (by decide) (by first | decide | omega) (by first | decide | omega) ?_
      have q123 : h14 ((h 0 8) + 6) (3 + 4 * u49) = h ((h 0 8) + 6) (3 + 4 * u49) := jK (3 + 4 * u49) f16 (rg_T6_0_1_40 t1) (by first | decide | omega) (by first | decide | omega) (by decide)
      refine x_aldC (np := 47) (x := 0) (n := 40) (i := (3 + 4 * u49)) (q := ((h ((h 0 8) + 6) (3 + 4 * u49)))) (by decide +kernel) (ta_6_40 t1) (by first | decide | omega) (by first | decide | omega) (by decide) q123 (fun l124 => ?_)
      refine x_goto (np := 50) (x := 51) (by decide +kernel) ?_
      refine x_retI (np := 52) (x := 0) (by decide +kernel) l124 (Or.inl (by decide +kernel)) ⟨_, rfl, l124, ?_⟩
      refine x_istore (np := 98) (x := 4) (lo' := [x_r 0, iv_c a1, iv_c ((h ((h 0 8) + 6) (1 + 4 * u49))), iv_c ((h ((h 0 8) + 6) (2 + 4 * u49))), iv_c ((h ((h 0 8) + 6) (3 + 4 * u49))), 147573952589676412928, 147573952589676412928]) (by decide +kernel) l124 (Nat.le_of_ble_eq_true rfl) rfl ?_
      refine x_const (np := 99) (x := 9223372039002259456) (a := 2147483648) (by decide +kernel) (by decide) (by decide) ?_
      refine x_istore (np := 101) (x := 5) (lo' := [x_r 0, iv_c a1, iv_c ((h ((h 0 8) + 6) (1 + 4 * u49))), iv_c ((h ((h 0 8) + 6) (2 + 4 * u49))), iv_c ((h ((h 0 8) + 6) (3 + 4 * u49))), iv_c 2147483648, 147573952589676412928]) (by decide +kernel) (by decide) (Nat.le_of_ble_eq_true rfl) rfl ?_
      have p350 : ∀ (n : Nat) (v347 : Nat) (w349 : Nat), 4294967296 - v347 < n → (2147483648 ≤ v347 ∧ v347 ≤ 2147483654) → X sc 133 (d + 4) (xT (fun r h' => J h' ∧ Fr 8193 h h' ∧ (2147483647 ≤ r ∧ r ≤ 2147483653)) (fun E h' => J h' ∧ Fr 8193 h h' ∧ (E = 2))) 1 6 101 [x_r 0, iv_c a1, iv_c ((h ((h 0 8) + 6) (1 + 4 * u49))), iv_c ((h ((h 0 8) + 6) (2 + 4 * u49))), iv_c ((h ((h 0 8) + 6) (3 + 4 * u49))), iv_c v347, w349] [] h14 := by
        intro n
        induction n with
        | zero => intro v347 w349 q351; exact absurd q351 (Nat.not_lt_zero _)
        | succ n i352 =>
          intro v347 w349 q351 b348
          refine x_iload (np := 103) (x := 5) (by decide +kernel) rfl (by first | decide | omega) ?_
          refine x_aload (np := 104) (x := 0) (by decide +kernel) rfl (x_nc_le (by decide)) ?_
          have q353 : h14 0 8 = h 0 8 := f16 0 8 (by decide +kernel)
          refine x_getR (np := 107) (x := 648) (f := 8) (q := (h 0 8)) (by decide +kernel) (by decide) (by decide +kernel) q353 ?_
          have q354 : h14 (h 0 8) 7 = h (h 0 8) 7 := jK 0 f16 (rg_T0_7_0_1 t1) (by first | decide | omega) (by first | decide | omega) (by decide)
          have b355 := jB (e := 7) 0 hJ (rg_T0_7_0_1 t1) (by first | decide | omega) (by first | decide | omega)
          refine x_getC (np := 110) (x := 519) (f := 7) (q := (h (h 0 8) 7)) (by decide +kernel) (by decide) (tg_0_519_7_0 t1) q354 (fun l356 => ?_)
          refine x_icmp (k := 3) (tg := 180) (np := 113) (by decide +kernel) (by decide) (by first | decide | omega) l356 (fun q357 => ?_) (fun q358 => ?_)
          · have q357 : (h (h 0 8) 7) ≤ v347 := q357
            refine x_const (np := 181) (x := 9223372034707292159) (a := 2147483647) (by decide +kernel) (by decide) (by decide) ?_
            refine x_retI (np := 182) (x := 0) (by decide +kernel) (by decide) (Or.inl (by decide +kernel)) (Or.inl ⟨_, rfl, (by decide), ?_⟩)
            exact ⟨j15, f19, (by first | decide | omega)⟩
          have q358 : ¬ ((h (h 0 8) 7) ≤ v347) := q358
          refine x_aload (np := 114) (x := 0) (by decide +kernel) rfl (x_nc_le (by decide)) ?_
          have q359 : h14 0 1 = 45 := by have z := jB (e := 1) 0 j15 rg_0_1_0_1 (by decide) (by decide); omega
          refine x_getR (np := 117) (x := 641) (f := 1) (q := 45) (by decide +kernel) (by decide) (by decide +kernel) q359 ?_
          have q360 : h14 45 0 = 46 := by have z := jB (e := 0) 0 j15 rg_45_0_0_1 (by decide) (by decide); omega
          refine x_getR (np := 120) (x := 64) (f := 0) (q := 46) (by decide +kernel) (by decide) (by decide +kernel) q360 ?_
          refine x_iload (np := 122) (x := 5) (by decide +kernel) rfl (by first | decide | omega) ?_
          obtain ⟨u361, q362⟩ : ∃ z, v347 = 2147483648 + z := ⟨v347 - 2147483648, by first | decide | omega⟩
          have q363 : h14 46 u361 = h 46 u361 := jK u361 f16 rg_46_0_1_6 (by first | decide | omega) (by first | decide | omega) (by decide)
          refine x_aldC (np := 123) (x := 0) (n := 6) (i := u361) (q := (h 46 u361)) (by decide +kernel) (by decide +kernel) (by first | decide | omega) (by first | decide | omega) (by decide) q363 (fun l364 => ?_)
          refine x_iload (np := 124) (x := 3) (by decide +kernel) rfl l101 ?_
          refine x_cP (t := 0) (mj := 148) (n := 2) (rc := 0) (ml := 2) (nr := 0) (np := 127) (as := [iv_c (h 46 u361), iv_c ((h ((h 0 8) + 6) (2 + 4 * u49)))]) (rest := []) (lo1 := [iv_c (h 46 u361), iv_c ((h ((h 0 8) + 6) (2 + 4 * u49)))]) (by decide +kernel) (by decide) (by decide +kernel) (Or.inl rfl) rfl rfl (x_wi l364 (x_wi l101 x_wn)) x_wn (by decide) rfl (c148 j15 (by first | decide | omega) (by first | decide | omega)) (fun v365 l366 q367 => ?_)
          refine x_ifz (k := 0) (tg := 148) (np := 130) (by decide +kernel) (by decide) l366 (fun q368 => ?_) (fun q369 => ?_)
          · have q368 : v365 = 2147483648 := q368
            refine x_const (np := 149) (x := 9223372039002259456) (a := 2147483648) (by decide +kernel) (by decide) (by decide) ?_
            refine x_istore (np := 151) (x := 6) (lo' := [x_r 0, iv_c a1, iv_c ((h ((h 0 8) + 6) (1 + 4 * u49))), iv_c ((h ((h 0 8) + 6) (2 + 4 * u49))), iv_c ((h ((h 0 8) + 6) (3 + 4 * u49))), iv_c v347, iv_c 2147483648]) (by decide +kernel) (by decide) (Nat.le_of_ble_eq_true rfl) rfl ?_
            refine x_iload (np := 153) (x := 6) (by decide +kernel) rfl (by decide) ?_
            refine x_ifz (k := 0) (tg := 174) (np := 156) (by decide +kernel) (by decide) (by decide) (fun q370 => ?_) (fun q371 => ?_)
            · have q370 : 2147483648 = 2147483648 := q370
              refine x_iinc (np := 177) (i := 5) (j := 2147483649) (v := (1 + v347)) (lo' := [x_r 0, iv_c a1, iv_c ((h ((h 0 8) + 6) (1 + 4 * u49))), iv_c ((h ((h 0 8) + 6) (2 + 4 * u49))), iv_c ((h ((h 0 8) + 6) (3 + 4 * u49))), iv_c (1 + v347), iv_c 2147483648]) (by decide +kernel) (by decide) (by decide) rfl (by first | decide | omega) (by first | decide | omega) (by first | decide | omega) rfl ?_
              refine x_goto (np := 180) (x := 101) (by decide +kernel) ?_
              exact i352 (1 + v347) (iv_c 2147483648) (by first | decide | omega) (by first | decide | omega)
            have q371 : ¬ (2147483648 = 2147483648) := q371
            exfalso; omega
          have q369 : ¬ (v365 = 2147483648) := q369
          refine x_aload (np := 131) (x := 0) (by decide +kernel) rfl (x_nc_le (by decide)) ?_
          have q372 : h14 0 1 = 45 := by have z := jB (e := 1) 0 j15 rg_0_1_0_1 (by decide) (by decide); omega
          refine x_getR (np := 134) (x := 641) (f := 1) (q := 45) (by decide +kernel) (by decide) (by decide +kernel) q372 ?_
          refine x_iload (np := 135) (x := 2) (by decide +kernel) rfl l78 ?_
          refine x_iload (np := 136) (x := 3) (by decide +kernel) rfl l101 ?_
          refine x_cP (t := 6) (mj := 5) (n := 3) (rc := 2) (ml := 3) (nr := 0) (np := 139) (as := [x_r 45, iv_c ((h ((h 0 8) + 6) (1 + 4 * u49))), iv_c ((h ((h 0 8) + 6) (2 + 4 * u49)))]) (rest := []) (lo1 := [x_r 45, iv_c ((h ((h 0 8) + 6) (1 + 4 * u49))), iv_c ((h ((h 0 8) + 6) (2 + 4 * u49)))]) (by decide +kernel) (by decide) (by decide +kernel) (x_rb_of (by decide +kernel)) rfl rfl (x_wr (by decide) (x_wi l78 (x_wi l101 x_wn))) x_wn (by decide) rfl (c5_45 j15  (by first | decide | omega) (by first | decide | omega)) (fun v373 l374 q375 => ?_)
          refine x_iload (np := 141) (x := 5) (by decide +kernel) rfl (by first | decide | omega) ?_
          refine x_icmp (k := 0) (tg := 148) (np := 144) (by decide +kernel) (by decide) l374 (by first | decide | omega) (fun q376 => ?_) (fun q377 => ?_)
          · have q376 : v373 = v347 := q376
            refine x_const (np := 149) (x := 9223372039002259456) (a := 2147483648) (by decide +kernel) (by decide) (by decide) ?_
            refine x_istore (np := 151) (x := 6) (lo' := [x_r 0, iv_c a1, iv_c ((h ((h 0 8) + 6) (1 + 4 * u49))), iv_c ((h ((h 0 8) + 6) (2 + 4 * u49))), iv_c ((h ((h 0 8) + 6) (3 + 4 * u49))), iv_c v347, iv_c 2147483648]) (by decide +kernel) (by decide) (Nat.le_of_ble_eq_true rfl) rfl ?_
            refine x_iload (np := 153) (x := 6) (by decide +kernel) rfl (by decide) ?_
            refine x_ifz (k := 0) (tg := 174) (np := 156) (by decide +kernel) (by decide) (by decide) (fun q378 => ?_) (fun q379 => ?_)
            · have q378 : 2147483648 = 2147483648 := q378
              refine x_iinc (np := 177) (i := 5) (j := 2147483649) (v := (1 + v347)) (lo' := [x_r 0, iv_c a1, iv_c ((h ((h 0 8) + 6) (1 + 4 * u49))), iv_c ((h ((h 0 8) + 6) (2 + 4 * u49))), iv_c ((h ((h 0 8) + 6) (3 + 4 * u49))), iv_c (1 + v347), iv_c 2147483648]) (by decide +kernel) (by decide) (by decide) rfl (by first | decide | omega) (by first | decide | omega) (by first | decide | omega) rfl ?_
              refine x_goto (np := 180) (x := 101) (by decide +kernel) ?_
              exact i352 (1 + v347) (iv_c 2147483648) (by first | decide | omega) (by first | decide | omega)
            have q379 : ¬ (2147483648 = 2147483648) := q379
            exfalso; omega
          have q377 : ¬ (v373 = v347) := q377
          refine x_const (np := 145) (x := 9223372043297226753) (a := 2147483649) (by decide +kernel) (by decide) (by decide) ?_
          refine x_goto (np := 148) (x := 149) (by decide +kernel) ?_
          refine x_istore (np := 151) (x := 6) (lo' := [x_r 0, iv_c a1, iv_c ((h ((h 0 8) + 6) (1 + 4 * u49))), iv_c ((h ((h 0 8) + 6) (2 + 4 * u49))), iv_c ((h ((h 0 8) + 6) (3 + 4 * u49))), iv_c v347, iv_c 2147483649]) (by decide +kernel) (by decide) (Nat.le_of_ble_eq_true rfl) rfl ?_
          refine x_iload (np := 153) (x := 6) (by decide +kernel) rfl (by decide) ?_
          refine x_ifz (k := 0) (tg := 174) (np := 156) (by decide +kernel) (by decide) (by decide) (fun q380 => ?_) (fun q381 => ?_)
          · have q380 : 2147483649 = 2147483648 := q380
            exfalso; omega
          have q381 : ¬ (2147483649 = 2147483648) := q381
          refine x_aload (np := 157) (x := 0) (by decide +kernel) rfl (x_nc_le (by decide)) ?_
          have q382 : h14 0 2 = 59 := by have z := jB (e := 2) 0 j15 rg_0_2_0_1 (by decide) (by decide); omega
          refine x_getR (np := 160) (x := 642) (f := 2) (q := 59) (by decide +kernel) (by decide) (by decide +kernel) q382 ?_
          have q383 : h14 59 0 = 60 := by have z := jB (e := 0) 0 j15 rg_59_0_0_1 (by decide) (by decide); omega
          refine x_getR (np := 163) (x := 0) (f := 0) (q := 60) (by decide +kernel) (by decide) (by decide +kernel) q383 ?_
          refine x_iload (np := 165) (x := 5) (by decide +kernel) rfl (by first | decide | omega) ?_
          refine x_aldC (np := 166) (x := 0) (n := 6) (i := u361) (q := (h14 60 u361)) (by decide +kernel) (by decide +kernel) (by first | decide | omega) (by first | decide | omega) (by decide) rfl (fun l384 => ?_)
          refine x_iload (np := 168) (x := 4) (by decide +kernel) rfl l124 ?_
          refine x_icmp (k := 2) (tg := 174) (np := 171) (by decide +kernel) (by decide) l384 l124 (fun q385 => ?_) (fun q386 => ?_)
          · have q385 : (h14 60 u361) < ((h ((h 0 8) + 6) (3 + 4 * u49))) := q385
            refine x_iinc (np := 177) (i := 5) (j := 2147483649) (v := (1 + v347)) (lo' := [x_r 0, iv_c a1, iv_c ((h ((h 0 8) + 6) (1 + 4 * u49))), iv_c ((h ((h 0 8) + 6) (2 + 4 * u49))), iv_c ((h ((h 0 8) + 6) (3 + 4 * u49))), iv_c (1 + v347), iv_c 2147483649]) (by decide +kernel) (by decide) (by decide) rfl (by first | decide | omega) (by first | decide | omega) (by first | decide | omega) rfl ?_
            refine x_goto (np := 180) (x := 101) (by decide +kernel) ?_
            exact i352 (1 + v347) (iv_c 2147483649) (by first | decide | omega) (by first | decide | omega)
          have q386 : ¬ ((h14 60 u361) < ((h ((h 0 8) + 6) (3 + 4 * u49)))) := q386
          refine x_iload (np := 173) (x := 5) (by decide +kernel) rfl (by first | decide | omega) ?_
          refine x_retI (np := 174) (x := 0) (by decide +kernel) (by first | decide | omega) (Or.inl (by decide +kernel)) (Or.inl ⟨_, rfl, (by first | decide | omega), ?_⟩)
          exact ⟨j15, f19, (by first | decide | omega)⟩
      exact p350 _ 2147483648 147573952589676412928 (Nat.lt_succ_self _) (by first | decide | omega)
    have q55 : ¬ (((h ((h 0 8) + 6) (4 * u49))) ≠ 2147483649) := q55
    refine x_const (np := 57) (x := 9223372034707292159) (a := 2147483647) (by decide +kernel) (by decide) (by decide) ?_
    refine x_retI (np := 58) (x := 0) (by decide +kernel) (by decide) (Or.inl (by decide +kernel)) (Or.inl ⟨_, rfl, (by decide), ?_⟩)
    exact ⟨j15, f19, (by first | decide | omega)⟩
  have q8 : ¬ (a1 < (h ((h 0 8) + 5) 2)) := q8
  refine x_thr (np := 15) (x := 2) (by decide +kernel) (by decide +kernel) (Nat.le_trans x_wn (by decide)) (Or.inr ⟨_, rfl, ?_⟩)
  refine Or.inr ⟨_, rfl, ?_⟩
  exact ⟨hJ, hF, by decide⟩
