/-! ===== methods ===== -/
set_option maxHeartbeats 0 in
/-- LentNames$CustomReader.readAll(I)Z -/
theorem c47_62_c6 {sc : Nat × Nat} {d  : Nat} {h : xh} {tB : Nat → Nat} {tN : Nat} (hJ : J h) (hr0 : (cl9 h) + 5 ≤ (h 1 2)) (hT : Tp tB tN h) : X sc 47 (d + 9) (xI fun r h' => J h' ∧ Fr 161 h h' ∧ (2147483648 ≤ r ∧ r ≤ 2147483649) ∧ (r = 2147483649 → h 1 2 + 1 ≤ h' 1 2) ∧ (r = 2147483649 → cl9 h' + h 1 2 ≤ h' 1 2 + cl9 h) ∧ G tB tN (Kd.seq 1) 6 (h 1 2) (rs r (h' 1 2)) ∧ (r = 2147483648 → GF tB tN (Kd.seq 1) 6 (h 1 2) (h' 1 2))) 0 0 0 [x_r 62, iv_c 2147483654, 147573952589676412928] [] h := by
  have hF := Fr.refl 161 h
  obtain ⟨r1, q2, t3⟩ : ∃ z, (h 62 1) = z + 11 ∧ tw z := by
    rcases hJ.2.2.2.2.2.2.2 with z | z
    · exact ⟨17, by rw [z], Or.inl rfl⟩
    · exact ⟨31, by rw [z], Or.inr rfl⟩
  have b4 := jB (e := 2) 0 hJ (rg_T11_2_0_1 t3) (by first | decide | omega) (by first | decide | omega)
  have e5 : cl9 h = (h (r1 + 11) 2) := (congrArg (fun z => h z 2) q2).trans rfl
  have b6 := jB (e := 2) 0 hJ rg_1_2_0_1 (by first | decide | omega) (by first | decide | omega)
  refine x_aload (np := 1) (x := 0) (by decide +kernel) rfl (x_nc_le (by decide)) ?_
  refine x_iload (np := 2) (x := 1) (by decide +kernel) rfl (by decide) ?_
  refine x_cI (t := 6) (mj := 48) (n := 2) (rc := 4) (ml := 2) (nr := 0) (np := 5) (as := [x_r 62, iv_c 2147483654]) (rest := []) (lo1 := [x_r 62, iv_c 2147483654]) (by decide +kernel) (by decide) (by decide +kernel) (x_rb_of (by decide +kernel)) rfl rfl (x_wr (by decide) (x_wi (by decide) x_wn)) x_wn (by decide) rfl (c48_62_c6 hJ   (by first | decide | omega) hT) (fun v7 h10 l8 q9 => ?_)
  obtain ⟨j11, f12, b13, c14, c15, c16, c17⟩ := q9
  have f18 := Fr.trans hF f12 (by decide)
  have b19 := jB (e := 2) 0 j11 rg_1_2_0_1 (by first | decide | omega) (by first | decide | omega)
  have q20 : h10 62 1 = h 62 1 := f12 62 1 (by decide +kernel)
  have b21 := jB (e := 2) 0 j11 (rg_T11_2_0_1 t3) (by first | decide | omega) (by first | decide | omega)
  have e22 : cl9 h10 = (h10 (r1 + 11) 2) := (congrArg (fun z => h10 z 2) (q20.trans q2)).trans rfl
  refine x_ifz (k := 1) (tg := 10) (np := 8) (by decide +kernel) (by decide) l8 (fun q23 => ?_) (fun q24 => ?_)
  · have q23 : v7 ≠ 2147483648 := q23
    have b25 := c14 (by first | decide | omega)
    have b26 := c15 (by first | decide | omega)
    refine x_const (np := 11) (x := 9223372039002259456) (a := 2147483648) (by decide +kernel) (by decide) (by decide) ?_
    refine x_istore (np := 12) (x := 2) (lo' := [x_r 62, iv_c 2147483654, iv_c 2147483648]) (by decide +kernel) (by decide) (Nat.le_of_ble_eq_true rfl) rfl ?_
    have p2088 : ∀ (n : Nat) (v2083 : Nat) (h2085 : xh), 4294967296 - v2083 < n → (2147483648 ≤ v2083 ∧ v2083 ≤ 2147484047) → cl9 h2085 + h 1 2 ≤ h2085 1 2 + cl9 h → h 1 2 + 1 ≤ h2085 1 2 → v2083 ≤ h2085 1 2 → J h2085 → Fr 161 h10 h2085 → Res tB tN (Kd.lp 1) 6 (h2085 1 2) (Kd.seq 1) 6 (h 1 2) → ResF tB tN (Kd.lp 1) 6 (h2085 1 2) (Kd.seq 1) 6 (h 1 2) → X sc 47 (d + 9) (xI fun r h' => J h' ∧ Fr 161 h h' ∧ (2147483648 ≤ r ∧ r ≤ 2147483649) ∧ (r = 2147483649 → h 1 2 + 1 ≤ h' 1 2) ∧ (r = 2147483649 → cl9 h' + h 1 2 ≤ h' 1 2 + cl9 h) ∧ G tB tN (Kd.seq 1) 6 (h 1 2) (rs r (h' 1 2)) ∧ (r = 2147483648 → GF tB tN (Kd.seq 1) 6 (h 1 2) (h' 1 2))) 0 0 12 [x_r 62, iv_c 2147483654, iv_c v2083] [] h2085 := by
      intro n
      induction n with
      | zero => intro v2083 h2085 q2094; exact absurd q2094 (Nat.not_lt_zero _)
      | succ n i2095 =>
        intro v2083 h2085 q2094 b2084 b2089 b2090 b2091 j2087 f2086 m2092 m2093
        have f2096 := Fr.trans f18 f2086 (by decide)
        have b2097 := jB (e := 2) 0 j2087 rg_1_2_0_1 (by first | decide | omega) (by first | decide | omega)
        have q2098 : h2085 62 1 = h10 62 1 := f2086 62 1 (by decide +kernel)
        have q2099 : h10 62 1 = h 62 1 := f12 62 1 (by decide +kernel)
        have b2100 := jB (e := 2) 0 j2087 (rg_T11_2_0_1 t3) (by first | decide | omega) (by first | decide | omega)
        have e2101 : cl9 h2085 = (h2085 (r1 + 11) 2) := (congrArg (fun z => h2085 z 2) ((q2098.trans q2099).trans q2)).trans rfl
        refine x_iload (np := 13) (x := 2) (by decide +kernel) rfl (by first | decide | omega) ?_
        refine x_const (np := 16) (x := 9223373756989178256) (a := 2147484048) (by decide +kernel) (by decide) (by decide) ?_
        refine x_icmp (k := 3) (tg := 60) (np := 19) (by decide +kernel) (by decide) (by first | decide | omega) (by decide) (fun q2102 => ?_) (fun q2103 => ?_)
        · have q2102 : 2147484048 ≤ v2083 := q2102
          exfalso; omega
        have q2103 : ¬ (2147484048 ≤ v2083) := q2103
        refine x_aload (np := 20) (x := 0) (by decide +kernel) rfl (x_nc_le (by decide)) ?_
        have q2104 : h2085 62 0 = 1 := by have z := jB (e := 0) 0 j2087 rg_62_0_0_1 (by decide) (by decide); omega
        refine x_getR (np := 23) (x := 192) (f := 0) (q := 1) (by decide +kernel) (by decide) (by decide +kernel) q2104 ?_
        refine x_ldcB (i := 31) (idx := 69) (tx := "and") (by rw [tb_y47]; exact List.mem_of_getElem? (i := 33) rfl) (by decide) (by rw [tb_b47]; decide +kernel) ?_
        have m2109 := Tp.fr hT f12 (by decide) (by decide)
        have m2108 := Tp.fr m2109 f2086 (by decide) (by decide)
        refine x_cI (t := 6) (mj := 78) (n := 2) (rc := 8) (ml := 2) (nr := 0) (np := 28) (as := [x_r 1, x_b (31 + 1)]) (rest := []) (lo1 := [x_r 1, x_b (31 + 1)]) (by decide +kernel) (by decide) (by decide +kernel) (x_rb_of (by decide +kernel)) rfl rfl (x_wr (by decide) (x_wB (by decide) x_wn)) x_wn (by decide) rfl (c78_1_S0 j2087  (by decide) m2108) (fun v2105 h2110 l2106 q2107 => ?_)
        obtain ⟨j2111, f2112, b2113, c2114, c2115, c2116⟩ := q2107
        have f2117 := Fr.trans f2096 f2112 (by decide)
        have f2118 := Fr.trans f2086 f2112 (by decide)
        have b2119 := jB (e := 2) 0 j2111 rg_1_2_0_1 (by first | decide | omega) (by first | decide | omega)
        have b2120 : iv_tl 31 = 3 := by decide
        refine x_ifz (k := 0) (tg := 60) (np := 31) (by decide +kernel) (by decide) l2106 (fun q2121 => ?_) (fun q2122 => ?_)
        · have q2121 : v2105 = 2147483648 := q2121
          have b2123 := c2115 (by first | decide | omega)
          refine x_const (np := 61) (x := 9223372043297226753) (a := 2147483649) (by decide +kernel) (by decide) (by decide) ?_
          have q2124 : h2110 62 1 = h2085 62 1 := f2112 62 1 (by decide +kernel)
          have q2125 : h2085 62 1 = h10 62 1 := f2086 62 1 (by decide +kernel)
          have q2126 : h10 62 1 = h 62 1 := f12 62 1 (by decide +kernel)
          have q2127 : h2110 (r1 + 11) 2 = h2085 (r1 + 11) 2 := jK 0 f2112 (rg_T11_2_0_1 t3) (by first | decide | omega) (by first | decide | omega) (by decide)
          have e2128 : cl9 h2110 = (h2085 (r1 + 11) 2) := (congrArg (fun z => h2110 z 2) (((q2124.trans q2125).trans q2126).trans q2)).trans q2127
          obtain ⟨w2129, e2130⟩ := Tk.no c2116 (by first | decide | omega)
          refine x_retI (np := 62) (x := 0) (by decide +kernel) (by decide) (Or.inr ⟨by decide +kernel, by first | decide | omega, by first | decide | omega⟩) ⟨_, rfl, (by decide), ?_⟩
          exact ⟨j2111, f2117, (by first | decide | omega), (fun z => by first | decide | omega), (fun z => by first | decide | omega), (gQ_e (t := 1) m2092 w2129 rfl (by first | decide | omega) (show h2085 1 2 = h2110 1 2 by first | decide | omega)), (fun z => absurd z (by first | decide | omega))⟩
        have q2122 : ¬ (v2105 = 2147483648) := q2122
        have b2131 := c2114 (by first | decide | omega)
        refine x_aload (np := 32) (x := 0) (by decide +kernel) rfl (x_nc_le (by decide)) ?_
        refine x_iload (np := 33) (x := 1) (by decide +kernel) rfl (by decide) ?_
        have q2132 : h2110 62 1 = h2085 62 1 := f2112 62 1 (by decide +kernel)
        have q2133 : h2085 62 1 = h10 62 1 := f2086 62 1 (by decide +kernel)
        have q2134 : h10 62 1 = h 62 1 := f12 62 1 (by decide +kernel)
        have q2135 : h2110 (r1 + 11) 2 = h2085 (r1 + 11) 2 := jK 0 f2112 (rg_T11_2_0_1 t3) (by first | decide | omega) (by first | decide | omega) (by decide)
        have e2136 : cl9 h2110 = (h2085 (r1 + 11) 2) := (congrArg (fun z => h2110 z 2) (((q2132.trans q2133).trans q2134).trans q2)).trans q2135
        have m2140 := Tp.fr m2108 f2112 (by decide) (by decide)
        refine x_cI (t := 6) (mj := 48) (n := 2) (rc := 4) (ml := 2) (nr := 0) (np := 36) (as := [x_r 62, iv_c 2147483654]) (rest := []) (lo1 := [x_r 62, iv_c 2147483654]) (by decide +kernel) (by decide) (by decide +kernel) (x_rb_of (by decide +kernel)) rfl rfl (x_wr (by decide) (x_wi (by decide) x_wn)) x_wn (by decide) rfl (c48_62_c6 j2111   (by first | decide | omega) m2140) (fun v2137 h2141 l2138 q2139 => ?_)
        obtain ⟨j2142, f2143, b2144, c2145, c2146, c2147, c2148⟩ := q2139
        have f2149 := Fr.trans f2117 f2143 (by decide)
        have f2150 := Fr.trans f2118 f2143 (by decide)
        have b2151 := jB (e := 2) 0 j2142 rg_1_2_0_1 (by first | decide | omega) (by first | decide | omega)
        have q2152 : h2110 62 1 = h2085 62 1 := f2112 62 1 (by decide +kernel)
        have q2153 : h2085 62 1 = h10 62 1 := f2086 62 1 (by decide +kernel)
        have q2154 : h10 62 1 = h 62 1 := f12 62 1 (by decide +kernel)
        have q2155 : h2110 (r1 + 11) 2 = h2085 (r1 + 11) 2 := jK 0 f2112 (rg_T11_2_0_1 t3) (by first | decide | omega) (by first | decide | omega) (by decide)
        have q2156 : h2141 62 1 = h2110 62 1 := f2143 62 1 (by decide +kernel)
        have q2157 : h2110 62 1 = h2085 62 1 := f2112 62 1 (by decide +kernel)
        have q2158 : h2085 62 1 = h10 62 1 := f2086 62 1 (by decide +kernel)
        have q2159 : h10 62 1 = h 62 1 := f12 62 1 (by decide +kernel)
        have b2160 := jB (e := 2) 0 j2142 (rg_T11_2_0_1 t3) (by first | decide | omega) (by first | decide | omega)
        have e2161 : cl9 h2141 = (h2141 (r1 + 11) 2) := (congrArg (fun z => h2141 z 2) ((((q2156.trans q2157).trans q2158).trans q2159).trans q2)).trans rfl
        refine x_ifz (k := 0) (tg := 52) (np := 39) (by decide +kernel) (by decide) l2138 (fun q2162 => ?_) (fun q2163 => ?_)
        · have q2162 : v2137 = 2147483648 := q2162
          refine x_const (np := 53) (x := 9223372039002259456) (a := 2147483648) (by decide +kernel) (by decide) (by decide) ?_
          have q2164 : h2141 62 1 = h2110 62 1 := f2143 62 1 (by decide +kernel)
          have q2165 : h2110 62 1 = h2085 62 1 := f2112 62 1 (by decide +kernel)
          have q2166 : h2085 62 1 = h10 62 1 := f2086 62 1 (by decide +kernel)
          have q2167 : h10 62 1 = h 62 1 := f12 62 1 (by decide +kernel)
          obtain ⟨w2168, e2169⟩ := Tk.yes c2116 (by first | decide | omega)
          obtain ⟨w2170, e2171⟩ := Tk.yes c2116 (by first | decide | omega)
          refine x_retI (np := 54) (x := 0) (by decide +kernel) (by decide) (Or.inr ⟨by decide +kernel, by first | decide | omega, by first | decide | omega⟩) ⟨_, rfl, (by decide), ?_⟩
          exact ⟨j2142, f2149, (by first | decide | omega), (fun z => by first | decide | omega), (fun z => by first | decide | omega), (gQ_f (t := 1) m2092 w2168 rfl e2169 c2147 rfl (by first | decide | omega) (by first | decide | omega)), (fun _ => fQ_f (t := 1) m2093 w2170 rfl e2171 (c2148 (by first | decide | omega)) rfl rfl)⟩
        have q2163 : ¬ (v2137 = 2147483648) := q2163
        have b2172 := c2145 (by first | decide | omega)
        have b2173 := c2146 (by first | decide | omega)
        refine x_aload (np := 40) (x := 0) (by decide +kernel) rfl (x_nc_le (by decide)) ?_
        have q2174 : h2141 62 1 = h2110 62 1 := f2143 62 1 (by decide +kernel)
        have q2175 : h2110 62 1 = h2085 62 1 := f2112 62 1 (by decide +kernel)
        have q2176 : h2085 62 1 = h10 62 1 := f2086 62 1 (by decide +kernel)
        have q2177 : h10 62 1 = h 62 1 := f12 62 1 (by decide +kernel)
        refine x_getR (np := 43) (x := 193) (f := 1) (q := (r1 + 11)) (by decide +kernel) (by decide) (by decide +kernel) ((((q2174.trans q2175).trans q2176).trans q2177).trans q2) ?_
        refine x_const (np := 46) (x := 9223380646116722644) (a := 2147485652) (by decide +kernel) (by decide) (by decide) ?_
        refine x_nI (t := 6) (mj := 36) (n := 2) (rc := 3) (ml := 2) (nr := 0) (np := 49) (as := [x_r (r1 + 11), iv_c 2147485652]) (rest := []) (lo1 := [x_r (r1 + 11), iv_c 2147485652]) (by decide +kernel) (by decide) (by decide +kernel) (x_rb_of (tr_11_3 t3)) rfl rfl (x_wr (tn_11 t3) (x_wi (by decide) x_wn)) x_wn (by decide) rfl ?_
        refine x_aload (np := 1) (x := 0) (by decide +kernel) rfl (x_nc_le (tn_11 t3)) ?_
        refine x_getC (np := 4) (x := 130) (f := 2) (q := (h2141 (r1 + 11) 2)) (by decide +kernel) (by decide) (tg_11_130_2_0 t3) rfl (fun l2178 => ?_)
        refine x_const (np := 7) (x := 9223373756989178256) (a := 2147484048) (by decide +kernel) (by decide) (by decide) ?_
        refine x_icmp (k := 2) (tg := 12) (np := 10) (by decide +kernel) (by decide) l2178 (by decide) (fun q2179 => ?_) (fun q2180 => ?_)
        · have q2179 : (h2141 (r1 + 11) 2) < 2147484048 := q2179
          refine x_aload (np := 13) (x := 0) (by decide +kernel) rfl (x_nc_le (tn_11 t3)) ?_
          have q2181 : h2141 (r1 + 11) 0 = (r1 + 12) := tf_11_0 j2142 t3
          refine x_getR (np := 16) (x := 128) (f := 0) (q := (r1 + 12)) (by decide +kernel) (by decide) (tg_11_128_0_1 t3) q2181 ?_
          refine x_aload (np := 17) (x := 0) (by decide +kernel) rfl (x_nc_le (tn_11 t3)) ?_
          refine x_getC (np := 20) (x := 130) (f := 2) (q := (h2141 (r1 + 11) 2)) (by decide +kernel) (by decide) (tg_11_130_2_0 t3) rfl (fun l2182 => ?_)
          refine x_iload (np := 21) (x := 1) (by decide +kernel) rfl (by decide) ?_
          obtain ⟨u2183, q2184⟩ : ∃ z, (h2141 (r1 + 11) 2) = 2147483648 + z := ⟨(h2141 (r1 + 11) 2) - 2147483648, by first | decide | omega⟩
          refine x_ast (np := 22) (x := 0) (kd := 1) (n := 400) (i := u2183) (by decide +kernel) (Or.inl rfl) (ta_12_400 t3) (by first | decide | omega) (by first | decide | omega) (by decide) (by decide) (fun z => absurd z (by decide)) ?_
          have j2186 := jU (e := u2183) (v := 2147485652) u2183 j2142 (rg_T12_0_1_400 t3) (by first | decide | omega) (by first | decide | omega) (by first | decide | omega)
          have f2188 := jF (e := u2183) (v := 2147485652) u2183 f2149 (rg_T12_0_1_400 t3) (by first | decide | omega) (by first | decide | omega) (by decide)
          have f2189 := jF (e := u2183) (v := 2147485652) u2183 f2150 (rg_T12_0_1_400 t3) (by first | decide | omega) (by first | decide | omega) (by decide)
          generalize e2187 : x_up h2141 (r1 + 12) u2183 2147485652 = h2185 at j2186 f2188 f2189 ⊢
          refine x_aload (np := 23) (x := 0) (by decide +kernel) rfl (x_nc_le (tn_11 t3)) ?_
          refine x_dup (np := 24) (x := 0) (by decide +kernel) (by have z := x_nc_le (k := (r1 + 11)) (tn_11 t3); unfold x_r; omega) ?_
          have q2190 : h2185 (r1 + 11) 2 = h2141 (r1 + 11) 2 := by rw [← e2187]; exact x_up_k tof_11_12
          refine x_getC (np := 27) (x := 130) (f := 2) (q := (h2141 (r1 + 11) 2)) (by decide +kernel) (by decide) (tg_11_130_2_0 t3) q2190 (fun l2191 => ?_)
          refine x_const (np := 28) (x := 9223372043297226753) (a := 2147483649) (by decide +kernel) (by decide) (by decide) ?_
          refine x_iadd (np := 29) (x := 0) (v := (1 + (h2141 (r1 + 11) 2))) (by decide +kernel) l2178 (by decide) (by first | decide | omega) (by first | decide | omega) ?_
          refine x_putI (np := 32) (x := 130) (f := 2) (by decide +kernel) (tg_11_130_2_0 t3) (by first | decide | omega) (Or.inl (by decide)) ?_
          have j2193 := jU (e := 2) (v := (1 + (h2141 (r1 + 11) 2))) 0 j2186 (rg_T11_2_0_1 t3) (by first | decide | omega) (by first | decide | omega) (by first | decide | omega)
          have f2195 := jF (e := 2) (v := (1 + (h2141 (r1 + 11) 2))) 0 f2188 (rg_T11_2_0_1 t3) (by first | decide | omega) (by first | decide | omega) (by decide)
          have f2196 := jF (e := 2) (v := (1 + (h2141 (r1 + 11) 2))) 0 f2189 (rg_T11_2_0_1 t3) (by first | decide | omega) (by first | decide | omega) (by decide)
          generalize e2194 : x_up h2185 (r1 + 11) 2 (1 + (h2141 (r1 + 11) 2)) = h2192 at j2193 f2195 f2196 ⊢
          refine x_const (np := 33) (x := 9223372043297226753) (a := 2147483649) (by decide +kernel) (by decide) (by decide) ?_
          refine x_retI (np := 34) (x := 0) (by decide +kernel) (by decide) (Or.inr ⟨by decide +kernel, by first | decide | omega, by first | decide | omega⟩) ⟨_, rfl, (by decide), ?_⟩
          refine x_ifz (k := 1) (tg := 54) (np := 52) (by decide +kernel) (by decide) (by decide) (fun q2197 => ?_) (fun q2198 => ?_)
          · have q2197 : 2147483649 ≠ 2147483648 := q2197
            refine x_iinc (np := 57) (i := 2) (j := 2147483649) (v := (1 + v2083)) (lo' := [x_r 62, iv_c 2147483654, iv_c (1 + v2083)]) (by decide +kernel) (by decide) (by decide) rfl (by first | decide | omega) (by first | decide | omega) (by first | decide | omega) rfl ?_
            refine x_goto (np := 60) (x := 12) (by decide +kernel) ?_
            have q2199 : h2192 1 2 = h2185 1 2 := by rw [← e2194]; exact x_up_k (Ne.symm (tne_11_1 t3))
            have q2200 : h2185 1 2 = h2141 1 2 := by rw [← e2187]; exact x_up_k (Ne.symm (tne_12_1 t3))
            have q2201 : h2192 62 1 = h2185 62 1 := by rw [← e2194]; exact x_up_k (Ne.symm (tne_11_62 t3))
            have q2202 : h2185 62 1 = h2141 62 1 := by rw [← e2187]; exact x_up_k (Ne.symm (tne_12_62 t3))
            have q2203 : h2141 62 1 = h2110 62 1 := f2143 62 1 (by decide +kernel)
            have q2204 : h2110 62 1 = h2085 62 1 := f2112 62 1 (by decide +kernel)
            have q2205 : h2085 62 1 = h10 62 1 := f2086 62 1 (by decide +kernel)
            have q2206 : h10 62 1 = h 62 1 := f12 62 1 (by decide +kernel)
            have q2207 : h2192 (r1 + 11) 2 = (1 + (h2141 (r1 + 11) 2)) := by rw [← e2194]; exact x_up_at
            have e2208 : cl9 h2192 = (1 + (h2141 (r1 + 11) 2)) := (congrArg (fun z => h2192 z 2) ((((((q2201.trans q2202).trans q2203).trans q2204).trans q2205).trans q2206).trans q2)).trans q2207
            obtain ⟨w2209, e2210⟩ := Tk.yes c2116 (by first | decide | omega)
            have q2211 : h2192 1 2 = h2185 1 2 := by rw [← e2194]; exact x_up_k (Ne.symm (tne_11_1 t3))
            have q2212 : h2185 1 2 = h2141 1 2 := by rw [← e2187]; exact x_up_k (Ne.symm (tne_12_1 t3))
            obtain ⟨w2213, e2214⟩ := Tk.yes c2116 (by first | decide | omega)
            have q2215 : h2192 1 2 = h2185 1 2 := by rw [← e2194]; exact x_up_k (Ne.symm (tne_11_1 t3))
            have q2216 : h2185 1 2 = h2141 1 2 := by rw [← e2187]; exact x_up_k (Ne.symm (tne_12_1 t3))
            exact i2095 (1 + v2083) h2192 (by first | decide | omega) (by first | decide | omega) (by first | decide | omega) (by first | decide | omega) (by first | decide | omega) j2193 f2196 (gQ_st (t := 1) m2092 w2209 rfl e2210 c2147 rfl (by first | decide | omega) (show h2141 1 2 = h2192 1 2 by first | decide | omega)) (fQ_st (t := 1) m2093 w2213 rfl e2214 c2147 rfl (by first | decide | omega) (show h2141 1 2 = h2192 1 2 by first | decide | omega))
          have q2198 : ¬ (2147483649 ≠ 2147483648) := q2198
          exfalso; omega
        have q2180 : ¬ ((h2141 (r1 + 11) 2) < 2147484048) := q2180
        refine x_const (np := 11) (x := 9223372039002259456) (a := 2147483648) (by decide +kernel) (by decide) (by decide) ?_
        refine x_retI (np := 12) (x := 0) (by decide +kernel) (by decide) (Or.inr ⟨by decide +kernel, by first | decide | omega, by first | decide | omega⟩) ⟨_, rfl, (by decide), ?_⟩
        refine x_ifz (k := 1) (tg := 54) (np := 52) (by decide +kernel) (by decide) (by decide) (fun q2217 => ?_) (fun q2218 => ?_)
        · have q2217 : 2147483648 ≠ 2147483648 := q2217
          exfalso; omega
        have q2218 : ¬ (2147483648 ≠ 2147483648) := q2218
        refine x_const (np := 53) (x := 9223372039002259456) (a := 2147483648) (by decide +kernel) (by decide) (by decide) ?_
        have q2219 : h2141 62 1 = h2110 62 1 := f2143 62 1 (by decide +kernel)
        have q2220 : h2110 62 1 = h2085 62 1 := f2112 62 1 (by decide +kernel)
        have q2221 : h2085 62 1 = h10 62 1 := f2086 62 1 (by decide +kernel)
        have q2222 : h10 62 1 = h 62 1 := f12 62 1 (by decide +kernel)
        obtain ⟨w2223, e2224⟩ := Tk.yes c2116 (by first | decide | omega)
        obtain ⟨w2225, e2226⟩ := Tk.yes c2116 (by first | decide | omega)
        refine x_retI (np := 54) (x := 0) (by decide +kernel) (by decide) (Or.inr ⟨by decide +kernel, by first | decide | omega, by first | decide | omega⟩) ⟨_, rfl, (by decide), ?_⟩
        exact ⟨j2142, f2149, (by first | decide | omega), (fun z => by first | decide | omega), (fun z => by first | decide | omega), (gQ_f (t := 1) m2092 w2223 rfl e2224 c2147 rfl (by first | decide | omega) (by first | decide | omega)), (fun _ => fQ_f (t := 1) m2093 w2225 rfl e2226 (c2148 (by first | decide | omega)) rfl rfl)⟩
    have q2227 : h10 62 1 = h 62 1 := f12 62 1 (by decide +kernel)
    exact p2088 _ 2147483648 h10 (Nat.lt_succ_self _) (by first | decide | omega) (by first | decide | omega) (by first | decide | omega) (by first | decide | omega) j11 (Fr.refl _ _) (gQ_in (t := 1) c16 rfl (by first | decide | omega) rfl) (fQ_in (t := 1) c16 rfl (by first | decide | omega) rfl)
  have q24 : ¬ (v7 ≠ 2147483648) := q24
  refine x_const (np := 9) (x := 9223372039002259456) (a := 2147483648) (by decide +kernel) (by decide) (by decide) ?_
  have q2228 : h10 62 1 = h 62 1 := f12 62 1 (by decide +kernel)
  refine x_retI (np := 10) (x := 0) (by decide +kernel) (by decide) (Or.inr ⟨by decide +kernel, by first | decide | omega, by first | decide | omega⟩) ⟨_, rfl, (by decide), ?_⟩
  exact ⟨j11, f18, (by first | decide | omega), (fun z => by first | decide | omega), (fun z => by first | decide | omega), (gQ_no (t := 1) c16 rfl (by first | decide | omega) (by first | decide | omega)), (fun _ => fQ_no (t := 1) (c17 (by first | decide | omega)) rfl rfl)⟩
set_option maxHeartbeats 0 in
/-- LentNames$CustomReader.readCondition(I)Z -/
theorem c46_62_c6 {sc : Nat × Nat} {d  : Nat} {h : xh} {tB : Nat → Nat} {tN : Nat} (hJ : J h) (hr0 : (cl9 h) + 5 ≤ (h 1 2)) (hT : Tp tB tN h) : X sc 46 (d + 10) (xI fun r h' => J h' ∧ Fr 161 h h' ∧ (2147483648 ≤ r ∧ r ≤ 2147483649) ∧ (r = 2147483649 → h 1 2 + 1 ≤ h' 1 2) ∧ (r = 2147483649 → cl9 h' + h 1 2 ≤ h' 1 2 + cl9 h) ∧ G tB tN (Kd.seq 2) 6 (h 1 2) (rs r (h' 1 2)) ∧ (r = 2147483648 → GF tB tN (Kd.seq 2) 6 (h 1 2) (h' 1 2))) 0 0 0 [x_r 62, iv_c 2147483654, 147573952589676412928] [] h := by
  have hF := Fr.refl 161 h
  obtain ⟨r1, q2, t3⟩ : ∃ z, (h 62 1) = z + 11 ∧ tw z := by
    rcases hJ.2.2.2.2.2.2.2 with z | z
    · exact ⟨17, by rw [z], Or.inl rfl⟩
    · exact ⟨31, by rw [z], Or.inr rfl⟩
  have b4 := jB (e := 2) 0 hJ (rg_T11_2_0_1 t3) (by first | decide | omega) (by first | decide | omega)
  have e5 : cl9 h = (h (r1 + 11) 2) := (congrArg (fun z => h z 2) q2).trans rfl
  have b6 := jB (e := 2) 0 hJ rg_1_2_0_1 (by first | decide | omega) (by first | decide | omega)
  refine x_aload (np := 1) (x := 0) (by decide +kernel) rfl (x_nc_le (by decide)) ?_
  refine x_iload (np := 2) (x := 1) (by decide +kernel) rfl (by decide) ?_
  refine x_cI (t := 6) (mj := 47) (n := 2) (rc := 4) (ml := 3) (nr := 0) (np := 5) (as := [x_r 62, iv_c 2147483654]) (rest := []) (lo1 := [x_r 62, iv_c 2147483654, 147573952589676412928]) (by decide +kernel) (by decide) (by decide +kernel) (x_rb_of (by decide +kernel)) rfl rfl (x_wr (by decide) (x_wi (by decide) x_wn)) x_wn (by decide) rfl (c47_62_c6 hJ   (by first | decide | omega) hT) (fun v7 h10 l8 q9 => ?_)
  obtain ⟨j11, f12, b13, c14, c15, c16, c17⟩ := q9
  have f18 := Fr.trans hF f12 (by decide)
  have b19 := jB (e := 2) 0 j11 rg_1_2_0_1 (by first | decide | omega) (by first | decide | omega)
  have q20 : h10 62 1 = h 62 1 := f12 62 1 (by decide +kernel)
  have b21 := jB (e := 2) 0 j11 (rg_T11_2_0_1 t3) (by first | decide | omega) (by first | decide | omega)
  have e22 : cl9 h10 = (h10 (r1 + 11) 2) := (congrArg (fun z => h10 z 2) (q20.trans q2)).trans rfl
  refine x_ifz (k := 1) (tg := 10) (np := 8) (by decide +kernel) (by decide) l8 (fun q23 => ?_) (fun q24 => ?_)
  · have q23 : v7 ≠ 2147483648 := q23
    have b25 := c14 (by first | decide | omega)
    have b26 := c15 (by first | decide | omega)
    refine x_const (np := 11) (x := 9223372039002259456) (a := 2147483648) (by decide +kernel) (by decide) (by decide) ?_
    refine x_istore (np := 12) (x := 2) (lo' := [x_r 62, iv_c 2147483654, iv_c 2147483648]) (by decide +kernel) (by decide) (Nat.le_of_ble_eq_true rfl) rfl ?_
    have p2088 : ∀ (n : Nat) (v2083 : Nat) (h2085 : xh), 4294967296 - v2083 < n → (2147483648 ≤ v2083 ∧ v2083 ≤ 2147484047) → cl9 h2085 + h 1 2 ≤ h2085 1 2 + cl9 h → h 1 2 + 1 ≤ h2085 1 2 → v2083 ≤ h2085 1 2 → J h2085 → Fr 161 h10 h2085 → Res tB tN (Kd.lp 2) 6 (h2085 1 2) (Kd.seq 2) 6 (h 1 2) → ResF tB tN (Kd.lp 2) 6 (h2085 1 2) (Kd.seq 2) 6 (h 1 2) → X sc 46 (d + 10) (xI fun r h' => J h' ∧ Fr 161 h h' ∧ (2147483648 ≤ r ∧ r ≤ 2147483649) ∧ (r = 2147483649 → h 1 2 + 1 ≤ h' 1 2) ∧ (r = 2147483649 → cl9 h' + h 1 2 ≤ h' 1 2 + cl9 h) ∧ G tB tN (Kd.seq 2) 6 (h 1 2) (rs r (h' 1 2)) ∧ (r = 2147483648 → GF tB tN (Kd.seq 2) 6 (h 1 2) (h' 1 2))) 0 0 12 [x_r 62, iv_c 2147483654, iv_c v2083] [] h2085 := by
      intro n
      induction n with
      | zero => intro v2083 h2085 q2094; exact absurd q2094 (Nat.not_lt_zero _)
      | succ n i2095 =>
        intro v2083 h2085 q2094 b2084 b2089 b2090 b2091 j2087 f2086 m2092 m2093
        have f2096 := Fr.trans f18 f2086 (by decide)
        have b2097 := jB (e := 2) 0 j2087 rg_1_2_0_1 (by first | decide | omega) (by first | decide | omega)
        have q2098 : h2085 62 1 = h10 62 1 := f2086 62 1 (by decide +kernel)
        have q2099 : h10 62 1 = h 62 1 := f12 62 1 (by decide +kernel)
        have b2100 := jB (e := 2) 0 j2087 (rg_T11_2_0_1 t3) (by first | decide | omega) (by first | decide | omega)
        have e2101 : cl9 h2085 = (h2085 (r1 + 11) 2) := (congrArg (fun z => h2085 z 2) ((q2098.trans q2099).trans q2)).trans rfl
        refine x_iload (np := 13) (x := 2) (by decide +kernel) rfl (by first | decide | omega) ?_
        refine x_const (np := 16) (x := 9223373756989178256) (a := 2147484048) (by decide +kernel) (by decide) (by decide) ?_
        refine x_icmp (k := 3) (tg := 60) (np := 19) (by decide +kernel) (by decide) (by first | decide | omega) (by decide) (fun q2102 => ?_) (fun q2103 => ?_)
        · have q2102 : 2147484048 ≤ v2083 := q2102
          exfalso; omega
        have q2103 : ¬ (2147484048 ≤ v2083) := q2103
        refine x_aload (np := 20) (x := 0) (by decide +kernel) rfl (x_nc_le (by decide)) ?_
        have q2104 : h2085 62 0 = 1 := by have z := jB (e := 0) 0 j2087 rg_62_0_0_1 (by decide) (by decide); omega
        refine x_getR (np := 23) (x := 192) (f := 0) (q := 1) (by decide +kernel) (by decide) (by decide +kernel) q2104 ?_
        refine x_ldcB (i := 15) (idx := 64) (tx := "or") (by rw [tb_y46]; exact List.mem_of_getElem? (i := 34) rfl) (by decide) (by rw [tb_b46]; decide +kernel) ?_
        have m2109 := Tp.fr hT f12 (by decide) (by decide)
        have m2108 := Tp.fr m2109 f2086 (by decide) (by decide)
        refine x_cI (t := 6) (mj := 78) (n := 2) (rc := 8) (ml := 2) (nr := 0) (np := 28) (as := [x_r 1, x_b (15 + 1)]) (rest := []) (lo1 := [x_r 1, x_b (15 + 1)]) (by decide +kernel) (by decide) (by decide +kernel) (x_rb_of (by decide +kernel)) rfl rfl (x_wr (by decide) (x_wB (by decide) x_wn)) x_wn (by decide) rfl (c78_1_S0 j2087  (by decide) m2108) (fun v2105 h2110 l2106 q2107 => ?_)
        obtain ⟨j2111, f2112, b2113, c2114, c2115, c2116⟩ := q2107
        have f2117 := Fr.trans f2096 f2112 (by decide)
        have f2118 := Fr.trans f2086 f2112 (by decide)
        have b2119 := jB (e := 2) 0 j2111 rg_1_2_0_1 (by first | decide | omega) (by first | decide | omega)
        have b2120 : iv_tl 15 = 2 := by decide
        refine x_ifz (k := 0) (tg := 60) (np := 31) (by decide +kernel) (by decide) l2106 (fun q2121 => ?_) (fun q2122 => ?_)
        · have q2121 : v2105 = 2147483648 := q2121
          have b2123 := c2115 (by first | decide | omega)
          refine x_const (np := 61) (x := 9223372043297226753) (a := 2147483649) (by decide +kernel) (by decide) (by decide) ?_
          have q2124 : h2110 62 1 = h2085 62 1 := f2112 62 1 (by decide +kernel)
          have q2125 : h2085 62 1 = h10 62 1 := f2086 62 1 (by decide +kernel)
          have q2126 : h10 62 1 = h 62 1 := f12 62 1 (by decide +kernel)
          have q2127 : h2110 (r1 + 11) 2 = h2085 (r1 + 11) 2 := jK 0 f2112 (rg_T11_2_0_1 t3) (by first | decide | omega) (by first | decide | omega) (by decide)
          have e2128 : cl9 h2110 = (h2085 (r1 + 11) 2) := (congrArg (fun z => h2110 z 2) (((q2124.trans q2125).trans q2126).trans q2)).trans q2127
          obtain ⟨w2129, e2130⟩ := Tk.no c2116 (by first | decide | omega)
          refine x_retI (np := 62) (x := 0) (by decide +kernel) (by decide) (Or.inr ⟨by decide +kernel, by first | decide | omega, by first | decide | omega⟩) ⟨_, rfl, (by decide), ?_⟩
          exact ⟨j2111, f2117, (by first | decide | omega), (fun z => by first | decide | omega), (fun z => by first | decide | omega), (gQ_e (t := 2) m2092 w2129 rfl (by first | decide | omega) (show h2085 1 2 = h2110 1 2 by first | decide | omega)), (fun z => absurd z (by first | decide | omega))⟩
        have q2122 : ¬ (v2105 = 2147483648) := q2122
        have b2131 := c2114 (by first | decide | omega)
        refine x_aload (np := 32) (x := 0) (by decide +kernel) rfl (x_nc_le (by decide)) ?_
        refine x_iload (np := 33) (x := 1) (by decide +kernel) rfl (by decide) ?_
        have q2132 : h2110 62 1 = h2085 62 1 := f2112 62 1 (by decide +kernel)
        have q2133 : h2085 62 1 = h10 62 1 := f2086 62 1 (by decide +kernel)
        have q2134 : h10 62 1 = h 62 1 := f12 62 1 (by decide +kernel)
        have q2135 : h2110 (r1 + 11) 2 = h2085 (r1 + 11) 2 := jK 0 f2112 (rg_T11_2_0_1 t3) (by first | decide | omega) (by first | decide | omega) (by decide)
        have e2136 : cl9 h2110 = (h2085 (r1 + 11) 2) := (congrArg (fun z => h2110 z 2) (((q2132.trans q2133).trans q2134).trans q2)).trans q2135
        have m2140 := Tp.fr m2108 f2112 (by decide) (by decide)
        refine x_cI (t := 6) (mj := 47) (n := 2) (rc := 4) (ml := 3) (nr := 0) (np := 36) (as := [x_r 62, iv_c 2147483654]) (rest := []) (lo1 := [x_r 62, iv_c 2147483654, 147573952589676412928]) (by decide +kernel) (by decide) (by decide +kernel) (x_rb_of (by decide +kernel)) rfl rfl (x_wr (by decide) (x_wi (by decide) x_wn)) x_wn (by decide) rfl (c47_62_c6 j2111   (by first | decide | omega) m2140) (fun v2137 h2141 l2138 q2139 => ?_)
        obtain ⟨j2142, f2143, b2144, c2145, c2146, c2147, c2148⟩ := q2139
        have f2149 := Fr.trans f2117 f2143 (by decide)
        have f2150 := Fr.trans f2118 f2143 (by decide)
        have b2151 := jB (e := 2) 0 j2142 rg_1_2_0_1 (by first | decide | omega) (by first | decide | omega)
        have q2152 : h2110 62 1 = h2085 62 1 := f2112 62 1 (by decide +kernel)
        have q2153 : h2085 62 1 = h10 62 1 := f2086 62 1 (by decide +kernel)
        have q2154 : h10 62 1 = h 62 1 := f12 62 1 (by decide +kernel)
        have q2155 : h2110 (r1 + 11) 2 = h2085 (r1 + 11) 2 := jK 0 f2112 (rg_T11_2_0_1 t3) (by first | decide | omega) (by first | decide | omega) (by decide)
        have q2156 : h2141 62 1 = h2110 62 1 := f2143 62 1 (by decide +kernel)
        have q2157 : h2110 62 1 = h2085 62 1 := f2112 62 1 (by decide +kernel)
        have q2158 : h2085 62 1 = h10 62 1 := f2086 62 1 (by decide +kernel)
        have q2159 : h10 62 1 = h 62 1 := f12 62 1 (by decide +kernel)
        have b2160 := jB (e := 2) 0 j2142 (rg_T11_2_0_1 t3) (by first | decide | omega) (by first | decide | omega)
        have e2161 : cl9 h2141 = (h2141 (r1 + 11) 2) := (congrArg (fun z => h2141 z 2) ((((q2156.trans q2157).trans q2158).trans q2159).trans q2)).trans rfl
        refine x_ifz (k := 0) (tg := 52) (np := 39) (by decide +kernel) (by decide) l2138 (fun q2162 => ?_) (fun q2163 => ?_)
        · have q2162 : v2137 = 2147483648 := q2162
          refine x_const (np := 53) (x := 9223372039002259456) (a := 2147483648) (by decide +kernel) (by decide) (by decide) ?_
          have q2164 : h2141 62 1 = h2110 62 1 := f2143 62 1 (by decide +kernel)
          have q2165 : h2110 62 1 = h2085 62 1 := f2112 62 1 (by decide +kernel)
          have q2166 : h2085 62 1 = h10 62 1 := f2086 62 1 (by decide +kernel)
          have q2167 : h10 62 1 = h 62 1 := f12 62 1 (by decide +kernel)
          obtain ⟨w2168, e2169⟩ := Tk.yes c2116 (by first | decide | omega)
          obtain ⟨w2170, e2171⟩ := Tk.yes c2116 (by first | decide | omega)
          refine x_retI (np := 54) (x := 0) (by decide +kernel) (by decide) (Or.inr ⟨by decide +kernel, by first | decide | omega, by first | decide | omega⟩) ⟨_, rfl, (by decide), ?_⟩
          exact ⟨j2142, f2149, (by first | decide | omega), (fun z => by first | decide | omega), (fun z => by first | decide | omega), (gQ_f (t := 2) m2092 w2168 rfl e2169 c2147 rfl (by first | decide | omega) (by first | decide | omega)), (fun _ => fQ_f (t := 2) m2093 w2170 rfl e2171 (c2148 (by first | decide | omega)) rfl rfl)⟩
        have q2163 : ¬ (v2137 = 2147483648) := q2163
        have b2172 := c2145 (by first | decide | omega)
        have b2173 := c2146 (by first | decide | omega)
        refine x_aload (np := 40) (x := 0) (by decide +kernel) rfl (x_nc_le (by decide)) ?_
        have q2174 : h2141 62 1 = h2110 62 1 := f2143 62 1 (by decide +kernel)
        have q2175 : h2110 62 1 = h2085 62 1 := f2112 62 1 (by decide +kernel)
        have q2176 : h2085 62 1 = h10 62 1 := f2086 62 1 (by decide +kernel)
        have q2177 : h10 62 1 = h 62 1 := f12 62 1 (by decide +kernel)
        refine x_getR (np := 43) (x := 193) (f := 1) (q := (r1 + 11)) (by decide +kernel) (by decide) (by decide +kernel) ((((q2174.trans q2175).trans q2176).trans q2177).trans q2) ?_
        refine x_const (np := 46) (x := 9223380650411689941) (a := 2147485653) (by decide +kernel) (by decide) (by decide) ?_
        refine x_nI (t := 6) (mj := 36) (n := 2) (rc := 3) (ml := 2) (nr := 0) (np := 49) (as := [x_r (r1 + 11), iv_c 2147485653]) (rest := []) (lo1 := [x_r (r1 + 11), iv_c 2147485653]) (by decide +kernel) (by decide) (by decide +kernel) (x_rb_of (tr_11_3 t3)) rfl rfl (x_wr (tn_11 t3) (x_wi (by decide) x_wn)) x_wn (by decide) rfl ?_
        refine x_aload (np := 1) (x := 0) (by decide +kernel) rfl (x_nc_le (tn_11 t3)) ?_
        refine x_getC (np := 4) (x := 130) (f := 2) (q := (h2141 (r1 + 11) 2)) (by decide +kernel) (by decide) (tg_11_130_2_0 t3) rfl (fun l2178 => ?_)
        refine x_const (np := 7) (x := 9223373756989178256) (a := 2147484048) (by decide +kernel) (by decide) (by decide) ?_
        refine x_icmp (k := 2) (tg := 12) (np := 10) (by decide +kernel) (by decide) l2178 (by decide) (fun q2179 => ?_) (fun q2180 => ?_)
        · have q2179 : (h2141 (r1 + 11) 2) < 2147484048 := q2179
          refine x_aload (np := 13) (x := 0) (by decide +kernel) rfl (x_nc_le (tn_11 t3)) ?_
          have q2181 : h2141 (r1 + 11) 0 = (r1 + 12) := tf_11_0 j2142 t3
          refine x_getR (np := 16) (x := 128) (f := 0) (q := (r1 + 12)) (by decide +kernel) (by decide) (tg_11_128_0_1 t3) q2181 ?_
          refine x_aload (np := 17) (x := 0) (by decide +kernel) rfl (x_nc_le (tn_11 t3)) ?_
          refine x_getC (np := 20) (x := 130) (f := 2) (q := (h2141 (r1 + 11) 2)) (by decide +kernel) (by decide) (tg_11_130_2_0 t3) rfl (fun l2182 => ?_)
          refine x_iload (np := 21) (x := 1) (by decide +kernel) rfl (by decide) ?_
          obtain ⟨u2183, q2184⟩ : ∃ z, (h2141 (r1 + 11) 2) = 2147483648 + z := ⟨(h2141 (r1 + 11) 2) - 2147483648, by first | decide | omega⟩
          refine x_ast (np := 22) (x := 0) (kd := 1) (n := 400) (i := u2183) (by decide +kernel) (Or.inl rfl) (ta_12_400 t3) (by first | decide | omega) (by first | decide | omega) (by decide) (by decide) (fun z => absurd z (by decide)) ?_
          have j2186 := jU (e := u2183) (v := 2147485653) u2183 j2142 (rg_T12_0_1_400 t3) (by first | decide | omega) (by first | decide | omega) (by first | decide | omega)
          have f2188 := jF (e := u2183) (v := 2147485653) u2183 f2149 (rg_T12_0_1_400 t3) (by first | decide | omega) (by first | decide | omega) (by decide)
          have f2189 := jF (e := u2183) (v := 2147485653) u2183 f2150 (rg_T12_0_1_400 t3) (by first | decide | omega) (by first | decide | omega) (by decide)
          generalize e2187 : x_up h2141 (r1 + 12) u2183 2147485653 = h2185 at j2186 f2188 f2189 ⊢
          refine x_aload (np := 23) (x := 0) (by decide +kernel) rfl (x_nc_le (tn_11 t3)) ?_
          refine x_dup (np := 24) (x := 0) (by decide +kernel) (by have z := x_nc_le (k := (r1 + 11)) (tn_11 t3); unfold x_r; omega) ?_
          have q2190 : h2185 (r1 + 11) 2 = h2141 (r1 + 11) 2 := by rw [← e2187]; exact x_up_k tof_11_12
          refine x_getC (np := 27) (x := 130) (f := 2) (q := (h2141 (r1 + 11) 2)) (by decide +kernel) (by decide) (tg_11_130_2_0 t3) q2190 (fun l2191 => ?_)
          refine x_const (np := 28) (x := 9223372043297226753) (a := 2147483649) (by decide +kernel) (by decide) (by decide) ?_
          refine x_iadd (np := 29) (x := 0) (v := (1 + (h2141 (r1 + 11) 2))) (by decide +kernel) l2178 (by decide) (by first | decide | omega) (by first | decide | omega) ?_
          refine x_putI (np := 32) (x := 130) (f := 2) (by decide +kernel) (tg_11_130_2_0 t3) (by first | decide | omega) (Or.inl (by decide)) ?_
          have j2193 := jU (e := 2) (v := (1 + (h2141 (r1 + 11) 2))) 0 j2186 (rg_T11_2_0_1 t3) (by first | decide | omega) (by first | decide | omega) (by first | decide | omega)
          have f2195 := jF (e := 2) (v := (1 + (h2141 (r1 + 11) 2))) 0 f2188 (rg_T11_2_0_1 t3) (by first | decide | omega) (by first | decide | omega) (by decide)
          have f2196 := jF (e := 2) (v := (1 + (h2141 (r1 + 11) 2))) 0 f2189 (rg_T11_2_0_1 t3) (by first | decide | omega) (by first | decide | omega) (by decide)
          generalize e2194 : x_up h2185 (r1 + 11) 2 (1 + (h2141 (r1 + 11) 2)) = h2192 at j2193 f2195 f2196 ⊢
          refine x_const (np := 33) (x := 9223372043297226753) (a := 2147483649) (by decide +kernel) (by decide) (by decide) ?_
          refine x_retI (np := 34) (x := 0) (by decide +kernel) (by decide) (Or.inr ⟨by decide +kernel, by first | decide | omega, by first | decide | omega⟩) ⟨_, rfl, (by decide), ?_⟩
          refine x_ifz (k := 1) (tg := 54) (np := 52) (by decide +kernel) (by decide) (by decide) (fun q2197 => ?_) (fun q2198 => ?_)
          · have q2197 : 2147483649 ≠ 2147483648 := q2197
            refine x_iinc (np := 57) (i := 2) (j := 2147483649) (v := (1 + v2083)) (lo' := [x_r 62, iv_c 2147483654, iv_c (1 + v2083)]) (by decide +kernel) (by decide) (by decide) rfl (by first | decide | omega) (by first | decide | omega) (by first | decide | omega) rfl ?_
            refine x_goto (np := 60) (x := 12) (by decide +kernel) ?_
            have q2199 : h2192 1 2 = h2185 1 2 := by rw [← e2194]; exact x_up_k (Ne.symm (tne_11_1 t3))
            have q2200 : h2185 1 2 = h2141 1 2 := by rw [← e2187]; exact x_up_k (Ne.symm (tne_12_1 t3))
            have q2201 : h2192 62 1 = h2185 62 1 := by rw [← e2194]; exact x_up_k (Ne.symm (tne_11_62 t3))
            have q2202 : h2185 62 1 = h2141 62 1 := by rw [← e2187]; exact x_up_k (Ne.symm (tne_12_62 t3))
            have q2203 : h2141 62 1 = h2110 62 1 := f2143 62 1 (by decide +kernel)
            have q2204 : h2110 62 1 = h2085 62 1 := f2112 62 1 (by decide +kernel)
            have q2205 : h2085 62 1 = h10 62 1 := f2086 62 1 (by decide +kernel)
            have q2206 : h10 62 1 = h 62 1 := f12 62 1 (by decide +kernel)
            have q2207 : h2192 (r1 + 11) 2 = (1 + (h2141 (r1 + 11) 2)) := by rw [← e2194]; exact x_up_at
            have e2208 : cl9 h2192 = (1 + (h2141 (r1 + 11) 2)) := (congrArg (fun z => h2192 z 2) ((((((q2201.trans q2202).trans q2203).trans q2204).trans q2205).trans q2206).trans q2)).trans q2207
            obtain ⟨w2209, e2210⟩ := Tk.yes c2116 (by first | decide | omega)
            have q2211 : h2192 1 2 = h2185 1 2 := by rw [← e2194]; exact x_up_k (Ne.symm (tne_11_1 t3))
            have q2212 : h2185 1 2 = h2141 1 2 := by rw [← e2187]; exact x_up_k (Ne.symm (tne_12_1 t3))
            obtain ⟨w2213, e2214⟩ := Tk.yes c2116 (by first | decide | omega)
            have q2215 : h2192 1 2 = h2185 1 2 := by rw [← e2194]; exact x_up_k (Ne.symm (tne_11_1 t3))
            have q2216 : h2185 1 2 = h2141 1 2 := by rw [← e2187]; exact x_up_k (Ne.symm (tne_12_1 t3))
            exact i2095 (1 + v2083) h2192 (by first | decide | omega) (by first | decide | omega) (by first | decide | omega) (by first | decide | omega) (by first | decide | omega) j2193 f2196 (gQ_st (t := 2) m2092 w2209 rfl e2210 c2147 rfl (by first | decide | omega) (show h2141 1 2 = h2192 1 2 by first | decide | omega)) (fQ_st (t := 2) m2093 w2213 rfl e2214 c2147 rfl (by first | decide | omega) (show h2141 1 2 = h2192 1 2 by first | decide | omega))
          have q2198 : ¬ (2147483649 ≠ 2147483648) := q2198
          exfalso; omega
        have q2180 : ¬ ((h2141 (r1 + 11) 2) < 2147484048) := q2180
        refine x_const (np := 11) (x := 9223372039002259456) (a := 2147483648) (by decide +kernel) (by decide) (by decide) ?_
        refine x_retI (np := 12) (x := 0) (by decide +kernel) (by decide) (Or.inr ⟨by decide +kernel, by first | decide | omega, by first | decide | omega⟩) ⟨_, rfl, (by decide), ?_⟩
        refine x_ifz (k := 1) (tg := 54) (np := 52) (by decide +kernel) (by decide) (by decide) (fun q2217 => ?_) (fun q2218 => ?_)
        · have q2217 : 2147483648 ≠ 2147483648 := q2217
          exfalso; omega
        have q2218 : ¬ (2147483648 ≠ 2147483648) := q2218
        refine x_const (np := 53) (x := 9223372039002259456) (a := 2147483648) (by decide +kernel) (by decide) (by decide) ?_
        have q2219 : h2141 62 1 = h2110 62 1 := f2143 62 1 (by decide +kernel)
        have q2220 : h2110 62 1 = h2085 62 1 := f2112 62 1 (by decide +kernel)
        have q2221 : h2085 62 1 = h10 62 1 := f2086 62 1 (by decide +kernel)
        have q2222 : h10 62 1 = h 62 1 := f12 62 1 (by decide +kernel)
        obtain ⟨w2223, e2224⟩ := Tk.yes c2116 (by first | decide | omega)
        obtain ⟨w2225, e2226⟩ := Tk.yes c2116 (by first | decide | omega)
        refine x_retI (np := 54) (x := 0) (by decide +kernel) (by decide) (Or.inr ⟨by decide +kernel, by first | decide | omega, by first | decide | omega⟩) ⟨_, rfl, (by decide), ?_⟩
        exact ⟨j2142, f2149, (by first | decide | omega), (fun z => by first | decide | omega), (fun z => by first | decide | omega), (gQ_f (t := 2) m2092 w2223 rfl e2224 c2147 rfl (by first | decide | omega) (by first | decide | omega)), (fun _ => fQ_f (t := 2) m2093 w2225 rfl e2226 (c2148 (by first | decide | omega)) rfl rfl)⟩
    have q2227 : h10 62 1 = h 62 1 := f12 62 1 (by decide +kernel)
    exact p2088 _ 2147483648 h10 (Nat.lt_succ_self _) (by first | decide | omega) (by first | decide | omega) (by first | decide | omega) (by first | decide | omega) j11 (Fr.refl _ _) (gQ_in (t := 2) c16 rfl (by first | decide | omega) rfl) (fQ_in (t := 2) c16 rfl (by first | decide | omega) rfl)
  have q24 : ¬ (v7 ≠ 2147483648) := q24
  refine x_const (np := 9) (x := 9223372039002259456) (a := 2147483648) (by decide +kernel) (by decide) (by decide) ?_
  have q2228 : h10 62 1 = h 62 1 := f12 62 1 (by decide +kernel)
  refine x_retI (np := 10) (x := 0) (by decide +kernel) (by decide) (Or.inr ⟨by decide +kernel, by first | decide | omega, by first | decide | omega⟩) ⟨_, rfl, (by decide), ?_⟩
  exact ⟨j11, f18, (by first | decide | omega), (fun z => by first | decide | omega), (fun z => by first | decide | omega), (gQ_no (t := 2) c16 rfl (by first | decide | omega) (by first | decide | omega)), (fun _ => fQ_no (t := 2) (c17 (by first | decide | omega)) rfl rfl)⟩
set_option maxHeartbeats 0 in
/-- LentNames$CustomReader.readAtom(I)Z -/
theorem c48_62_c5 {sc : Nat × Nat} {d  : Nat} {h : xh} {tB : Nat → Nat} {tN : Nat} (hJ : J h) (hr0 : (cl9 h) + 5 ≤ (h 1 2)) (hT : Tp tB tN h) : X sc 48 (d + 11) (xI fun r h' => J h' ∧ Fr 161 h h' ∧ (2147483648 ≤ r ∧ r ≤ 2147483649) ∧ (r = 2147483649 → h 1 2 + 1 ≤ h' 1 2) ∧ (r = 2147483649 → cl9 h' + h 1 2 ≤ h' 1 2 + cl9 h) ∧ G tB tN Kd.atom 5 (h 1 2) (rs r (h' 1 2)) ∧ (r = 2147483648 → GF tB tN Kd.atom 5 (h 1 2) (h' 1 2))) 0 0 0 [x_r 62, iv_c 2147483653] [] h := by
  have hF := Fr.refl 161 h
  obtain ⟨r1, q2, t3⟩ : ∃ z, (h 62 1) = z + 11 ∧ tw z := by
    rcases hJ.2.2.2.2.2.2.2 with z | z
    · exact ⟨17, by rw [z], Or.inl rfl⟩
    · exact ⟨31, by rw [z], Or.inr rfl⟩
  have b4 := jB (e := 2) 0 hJ (rg_T11_2_0_1 t3) (by first | decide | omega) (by first | decide | omega)
  have e5 : cl9 h = (h (r1 + 11) 2) := (congrArg (fun z => h z 2) q2).trans rfl
  have b6 := jB (e := 2) 0 hJ rg_1_2_0_1 (by first | decide | omega) (by first | decide | omega)
  refine x_aload (np := 1) (x := 0) (by decide +kernel) rfl (x_nc_le (by decide)) ?_
  have q7 : h 62 0 = 1 := by have z := jB (e := 0) 0 hJ rg_62_0_0_1 (by decide) (by decide); omega
  refine x_getR (np := 4) (x := 192) (f := 0) (q := 1) (by decide +kernel) (by decide) (by decide +kernel) q7 ?_
  refine x_ldcB (i := 24) (idx := 71) (tx := "not") (by rw [tb_y48]; exact List.mem_of_getElem? (i := 24) rfl) (by decide) (by rw [tb_b48]; decide +kernel) ?_
  refine x_cP (t := 6) (mj := 77) (n := 2) (rc := 8) (ml := 4) (nr := 0) (np := 9) (as := [x_r 1, x_b (24 + 1)]) (rest := []) (lo1 := [x_r 1, x_b (24 + 1), 147573952589676412928, 147573952589676412928]) (by decide +kernel) (by decide) (by decide +kernel) (x_rb_of (by decide +kernel)) rfl rfl (x_wr (by decide) (x_wB (by decide) x_wn)) x_wn (by decide) rfl (c77_1_S0 hJ  (by decide) hT) (fun v8 l9 q10 => ?_)
  obtain ⟨b13, c11, c12⟩ := q10
  refine x_ifz (k := 0) (tg := 59) (np := 12) (by decide +kernel) (by decide) l9 (fun q14 => ?_) (fun q15 => ?_)
  · have q14 : v8 = 2147483648 := q14
    refine x_aload (np := 60) (x := 0) (by decide +kernel) rfl (x_nc_le (by decide)) ?_
    have q16 : h 62 0 = 1 := by have z := jB (e := 0) 0 hJ rg_62_0_0_1 (by decide) (by decide); omega
    refine x_getR (np := 63) (x := 192) (f := 0) (q := 1) (by decide +kernel) (by decide) (by decide +kernel) q16 ?_
    refine x_const (np := 65) (x := 9223372210800951336) (a := 2147483688) (by decide +kernel) (by decide) (by decide) ?_
    refine x_cP (t := 6) (mj := 75) (n := 2) (rc := 8) (ml := 2) (nr := 0) (np := 68) (as := [x_r 1, iv_c 2147483688]) (rest := []) (lo1 := [x_r 1, iv_c 2147483688]) (by decide +kernel) (by decide) (by decide +kernel) (x_rb_of (by decide +kernel)) rfl rfl (x_wr (by decide) (x_wi (by decide) x_wn)) x_wn (by decide) rfl (c75_1 hJ  (by first | decide | omega) hT) (fun v17 l18 q19 => ?_)
    obtain ⟨b22, c20, c21⟩ := q19
    have b23 := jB (e := 1) 0 hJ rg_1_1_0_1 (by first | decide | omega) (by first | decide | omega)
    refine x_ifz (k := 0) (tg := 117) (np := 71) (by decide +kernel) (by decide) l18 (fun q24 => ?_) (fun q25 => ?_)
    · have q24 : v17 = 2147483648 := q24
      refine x_aload (np := 118) (x := 0) (by decide +kernel) rfl (x_nc_le (by decide)) ?_
      have q26 : h 62 0 = 1 := by have z := jB (e := 0) 0 hJ rg_62_0_0_1 (by decide) (by decide); omega
      refine x_getR (np := 121) (x := 192) (f := 0) (q := 1) (by decide +kernel) (by decide) (by decide +kernel) q26 ?_
      refine x_ldcB (i := 25) (idx := 79) (tx := "own") (by rw [tb_y48]; exact List.mem_of_getElem? (i := 25) rfl) (by decide) (by rw [tb_b48]; decide +kernel) ?_
      refine x_cI (t := 6) (mj := 78) (n := 2) (rc := 8) (ml := 2) (nr := 0) (np := 126) (as := [x_r 1, x_b (25 + 1)]) (rest := []) (lo1 := [x_r 1, x_b (25 + 1)]) (by decide +kernel) (by decide) (by decide +kernel) (x_rb_of (by decide +kernel)) rfl rfl (x_wr (by decide) (x_wB (by decide) x_wn)) x_wn (by decide) rfl (c78_1_S0 hJ  (by decide) hT) (fun v27 h30 l28 q29 => ?_)
      obtain ⟨j31, f32, b33, c34, c35, c36⟩ := q29
      have f37 := Fr.trans hF f32 (by decide)
      have b38 := jB (e := 2) 0 j31 rg_1_2_0_1 (by first | decide | omega) (by first | decide | omega)
      have b39 : iv_tl 25 = 3 := by decide
      refine x_ifz (k := 0) (tg := 140) (np := 129) (by decide +kernel) (by decide) l28 (fun q40 => ?_) (fun q41 => ?_)
      · have q40 : v27 = 2147483648 := q40
        have b42 := c35 (by first | decide | omega)
        refine x_aload (np := 141) (x := 0) (by decide +kernel) rfl (x_nc_le (by decide)) ?_
        have q43 : h30 62 0 = 1 := by have z := jB (e := 0) 0 j31 rg_62_0_0_1 (by decide) (by decide); omega
        refine x_getR (np := 144) (x := 192) (f := 0) (q := 1) (by decide +kernel) (by decide) (by decide +kernel) q43 ?_
        refine x_ldcB (i := 26) (idx := 81) (tx := "mine") (by rw [tb_y48]; exact List.mem_of_getElem? (i := 26) rfl) (by decide) (by rw [tb_b48]; decide +kernel) ?_
        have m47 := Tp.fr hT f32 (by decide) (by decide)
        refine x_cI (t := 6) (mj := 78) (n := 2) (rc := 8) (ml := 2) (nr := 0) (np := 149) (as := [x_r 1, x_b (26 + 1)]) (rest := []) (lo1 := [x_r 1, x_b (26 + 1)]) (by decide +kernel) (by decide) (by decide +kernel) (x_rb_of (by decide +kernel)) rfl rfl (x_wr (by decide) (x_wB (by decide) x_wn)) x_wn (by decide) rfl (c78_1_S0 j31  (by decide) m47) (fun v44 h48 l45 q46 => ?_)
        obtain ⟨j49, f50, b51, c52, c53, c54⟩ := q46
        have f55 := Fr.trans f37 f50 (by decide)
        have b56 := jB (e := 2) 0 j49 rg_1_2_0_1 (by first | decide | omega) (by first | decide | omega)
        have b57 : iv_tl 26 = 4 := by decide
        refine x_ifz (k := 0) (tg := 163) (np := 152) (by decide +kernel) (by decide) l45 (fun q58 => ?_) (fun q59 => ?_)
        · have q58 : v44 = 2147483648 := q58
          have b60 := c53 (by first | decide | omega)
          refine x_aload (np := 164) (x := 0) (by decide +kernel) rfl (x_nc_le (by decide)) ?_
          have q61 : h48 62 1 = h30 62 1 := f50 62 1 (by decide +kernel)
          have q62 : h30 62 1 = h 62 1 := f32 62 1 (by decide +kernel)
          have q63 : h48 (r1 + 11) 2 = h30 (r1 + 11) 2 := jK 0 f50 (rg_T11_2_0_1 t3) (by first | decide | omega) (by first | decide | omega) (by decide)
          have q64 : h30 (r1 + 11) 2 = h (r1 + 11) 2 := jK 0 f32 (rg_T11_2_0_1 t3) (by first | decide | omega) (by first | decide | omega) (by decide)
          have e65 : cl9 h48 = (h (r1 + 11) 2) := (congrArg (fun z => h48 z 2) ((q61.trans q62).trans q2)).trans (q63.trans q64)
          have m69 := Tp.fr m47 f50 (by decide) (by decide)
          refine x_cI (t := 6) (mj := 49) (n := 1) (rc := 4) (ml := 2) (nr := 0) (np := 167) (as := [x_r 62]) (rest := []) (lo1 := [x_r 62, 147573952589676412928]) (by decide +kernel) (by decide) (by decide +kernel) (x_rb_of (by decide +kernel)) rfl rfl (x_wr (by decide) x_wn) x_wn (by decide) rfl (c49_62 j49  (by first | decide | omega) m69) (fun v66 h70 l67 q68 => ?_)
          obtain ⟨j71, f72, b73, c74, c75, c76, c77⟩ := q68
          have f78 := Fr.trans f55 f72 (by decide)
          have b79 := jB (e := 2) 0 j71 rg_1_2_0_1 (by first | decide | omega) (by first | decide | omega)
          have q80 : h48 62 1 = h30 62 1 := f50 62 1 (by decide +kernel)
          have q81 : h30 62 1 = h 62 1 := f32 62 1 (by decide +kernel)
          have q82 : h48 (r1 + 11) 2 = h30 (r1 + 11) 2 := jK 0 f50 (rg_T11_2_0_1 t3) (by first | decide | omega) (by first | decide | omega) (by decide)
          have q83 : h30 (r1 + 11) 2 = h (r1 + 11) 2 := jK 0 f32 (rg_T11_2_0_1 t3) (by first | decide | omega) (by first | decide | omega) (by decide)
          have q84 : h70 62 1 = h48 62 1 := f72 62 1 (by decide +kernel)
          have q85 : h48 62 1 = h30 62 1 := f50 62 1 (by decide +kernel)
          have q86 : h30 62 1 = h 62 1 := f32 62 1 (by decide +kernel)
          have b87 := jB (e := 2) 0 j71 (rg_T11_2_0_1 t3) (by first | decide | omega) (by first | decide | omega)
          have e88 : cl9 h70 = (h70 (r1 + 11) 2) := (congrArg (fun z => h70 z 2) (((q84.trans q85).trans q86).trans q2)).trans rfl
          refine x_ifz (k := 1) (tg := 172) (np := 170) (by decide +kernel) (by decide) l67 (fun q89 => ?_) (fun q90 => ?_)
          · have q89 : v66 ≠ 2147483648 := q89
            have b91 := c74 (by first | decide | omega)
            have b92 := c75 (by first | decide | omega)
            refine x_aload (np := 173) (x := 0) (by decide +kernel) rfl (x_nc_le (by decide)) ?_
            have q93 : h70 62 0 = 1 := by have z := jB (e := 0) 0 j71 rg_62_0_0_1 (by decide) (by decide); omega
            refine x_getR (np := 176) (x := 192) (f := 0) (q := 1) (by decide +kernel) (by decide) (by decide +kernel) q93 ?_
            refine x_const (np := 178) (x := 9223372296700297276) (a := 2147483708) (by decide +kernel) (by decide) (by decide) ?_
            have m97 := Tp.fr m69 f72 (by decide) (by decide)
            refine x_cI (t := 6) (mj := 76) (n := 2) (rc := 8) (ml := 2) (nr := 0) (np := 181) (as := [x_r 1, iv_c 2147483708]) (rest := []) (lo1 := [x_r 1, iv_c 2147483708]) (by decide +kernel) (by decide) (by decide +kernel) (x_rb_of (by decide +kernel)) rfl rfl (x_wr (by decide) (x_wi (by decide) x_wn)) x_wn (by decide) rfl (c76_1 j71  (by first | decide | omega) m97) (fun v94 h98 l95 q96 => ?_)
            obtain ⟨j99, f100, b101, c102, c103, c104⟩ := q96
            have f105 := Fr.trans f78 f100 (by decide)
            have b106 := jB (e := 2) 0 j99 rg_1_2_0_1 (by first | decide | omega) (by first | decide | omega)
            refine x_ifz (k := 0) (tg := 210) (np := 184) (by decide +kernel) (by decide) l95 (fun q107 => ?_) (fun q108 => ?_)
            · have q107 : v94 = 2147483648 := q107
              have b109 := c103 (by first | decide | omega)
              refine x_aload (np := 211) (x := 0) (by decide +kernel) rfl (x_nc_le (by decide)) ?_
              have q110 : h98 62 0 = 1 := by have z := jB (e := 0) 0 j99 rg_62_0_0_1 (by decide) (by decide); omega
              refine x_getR (np := 214) (x := 192) (f := 0) (q := 1) (by decide +kernel) (by decide) (by decide +kernel) q110 ?_
              refine x_const (np := 216) (x := 9223372305290231870) (a := 2147483710) (by decide +kernel) (by decide) (by decide) ?_
              have m114 := Tp.fr m97 f100 (by decide) (by decide)
              refine x_cI (t := 6) (mj := 76) (n := 2) (rc := 8) (ml := 2) (nr := 0) (np := 219) (as := [x_r 1, iv_c 2147483710]) (rest := []) (lo1 := [x_r 1, iv_c 2147483710]) (by decide +kernel) (by decide) (by decide +kernel) (x_rb_of (by decide +kernel)) rfl rfl (x_wr (by decide) (x_wi (by decide) x_wn)) x_wn (by decide) rfl (c76_1 j99  (by first | decide | omega) m114) (fun v111 h115 l112 q113 => ?_)
              obtain ⟨j116, f117, b118, c119, c120, c121⟩ := q113
              have f122 := Fr.trans f105 f117 (by decide)
              have b123 := jB (e := 2) 0 j116 rg_1_2_0_1 (by first | decide | omega) (by first | decide | omega)
              refine x_ifz (k := 0) (tg := 246) (np := 222) (by decide +kernel) (by decide) l112 (fun q124 => ?_) (fun q125 => ?_)
              · have q124 : v111 = 2147483648 := q124
                have b126 := c120 (by first | decide | omega)
                refine x_const (np := 247) (x := 9223372039002259456) (a := 2147483648) (by decide +kernel) (by decide) (by decide) ?_
                have q127 : h115 62 1 = h98 62 1 := f117 62 1 (by decide +kernel)
                have q128 : h98 62 1 = h70 62 1 := f100 62 1 (by decide +kernel)
                have q129 : h70 62 1 = h48 62 1 := f72 62 1 (by decide +kernel)
                have q130 : h48 62 1 = h30 62 1 := f50 62 1 (by decide +kernel)
                have q131 : h30 62 1 = h 62 1 := f32 62 1 (by decide +kernel)
                have q132 : h115 (r1 + 11) 2 = h98 (r1 + 11) 2 := jK 0 f117 (rg_T11_2_0_1 t3) (by first | decide | omega) (by first | decide | omega) (by decide)
                have q133 : h98 (r1 + 11) 2 = h70 (r1 + 11) 2 := jK 0 f100 (rg_T11_2_0_1 t3) (by first | decide | omega) (by first | decide | omega) (by decide)
                have e134 : cl9 h115 = (h70 (r1 + 11) 2) := (congrArg (fun z => h115 z 2) (((((q127.trans q128).trans q129).trans q130).trans q131).trans q2)).trans (q132.trans q133)
                obtain ⟨w135, e136⟩ := Tk.no c36 (by first | decide | omega)
                obtain ⟨w137, e138⟩ := Tk.no c54 (by first | decide | omega)
                have w139 : An tB tN (h 1 2) := gA_an (Is.no c12 (by first | decide | omega)) rfl (Is.no c21 (by first | decide | omega)) rfl w135 rfl w137 (show h30 1 2 = h 1 2 by first | decide | omega)
                obtain ⟨w140, e141⟩ := Tk.no c104 (by first | decide | omega)
                obtain ⟨w142, e143⟩ := Tk.no c121 (by first | decide | omega)
                obtain ⟨w144, e145⟩ := Tk.no c36 (by first | decide | omega)
                obtain ⟨w146, e147⟩ := Tk.no c54 (by first | decide | omega)
                have w148 : An tB tN (h 1 2) := gA_an (Is.no c12 (by first | decide | omega)) rfl (Is.no c21 (by first | decide | omega)) rfl w144 rfl w146 (show h30 1 2 = h 1 2 by first | decide | omega)
                obtain ⟨w149, e150⟩ := Tk.no c104 (by first | decide | omega)
                obtain ⟨w151, e152⟩ := Tk.no c121 (by first | decide | omega)
                refine x_retI (np := 248) (x := 0) (by decide +kernel) (by decide) (Or.inr ⟨by decide +kernel, by first | decide | omega, by first | decide | omega⟩) ⟨_, rfl, (by decide), ?_⟩
                exact ⟨j116, f122, (by first | decide | omega), (fun z => by first | decide | omega), (fun z => by first | decide | omega), (gA_c1 w139 (c76 5) (show h48 1 2 = h 1 2 by first | decide | omega) (by first | decide | omega) w140 rfl w142 (show h98 1 2 = h70 1 2 by first | decide | omega) (by first | decide | omega)), (fun _ => fA_c1 w148 (c76 5) (show h48 1 2 = h 1 2 by first | decide | omega) (by first | decide | omega) w149 rfl w151 (show h98 1 2 = h70 1 2 by first | decide | omega) (show h115 1 2 = h98 1 2 by first | decide | omega))⟩
              have q125 : ¬ (v111 = 2147483648) := q125
              have b153 := c119 (by first | decide | omega)
              refine x_aload (np := 223) (x := 0) (by decide +kernel) rfl (x_nc_le (by decide)) ?_
              have q154 : h115 62 1 = h98 62 1 := f117 62 1 (by decide +kernel)
              have q155 : h98 62 1 = h70 62 1 := f100 62 1 (by decide +kernel)
              have q156 : h70 62 1 = h48 62 1 := f72 62 1 (by decide +kernel)
              have q157 : h48 62 1 = h30 62 1 := f50 62 1 (by decide +kernel)
              have q158 : h30 62 1 = h 62 1 := f32 62 1 (by decide +kernel)
              have q159 : h115 (r1 + 11) 2 = h98 (r1 + 11) 2 := jK 0 f117 (rg_T11_2_0_1 t3) (by first | decide | omega) (by first | decide | omega) (by decide)
              have q160 : h98 (r1 + 11) 2 = h70 (r1 + 11) 2 := jK 0 f100 (rg_T11_2_0_1 t3) (by first | decide | omega) (by first | decide | omega) (by decide)
              have e161 : cl9 h115 = (h70 (r1 + 11) 2) := (congrArg (fun z => h115 z 2) (((((q154.trans q155).trans q156).trans q157).trans q158).trans q2)).trans (q159.trans q160)
              have m165 := Tp.fr m114 f117 (by decide) (by decide)
              refine x_cI (t := 6) (mj := 49) (n := 1) (rc := 4) (ml := 2) (nr := 0) (np := 226) (as := [x_r 62]) (rest := []) (lo1 := [x_r 62, 147573952589676412928]) (by decide +kernel) (by decide) (by decide +kernel) (x_rb_of (by decide +kernel)) rfl rfl (x_wr (by decide) x_wn) x_wn (by decide) rfl (c49_62 j116  (by first | decide | omega) m165) (fun v162 h166 l163 q164 => ?_)
              obtain ⟨j167, f168, b169, c170, c171, c172, c173⟩ := q164
              have f174 := Fr.trans f122 f168 (by decide)
              have b175 := jB (e := 2) 0 j167 rg_1_2_0_1 (by first | decide | omega) (by first | decide | omega)
              have q176 : h115 62 1 = h98 62 1 := f117 62 1 (by decide +kernel)
              have q177 : h98 62 1 = h70 62 1 := f100 62 1 (by decide +kernel)
              have q178 : h70 62 1 = h48 62 1 := f72 62 1 (by decide +kernel)
              have q179 : h48 62 1 = h30 62 1 := f50 62 1 (by decide +kernel)
              have q180 : h30 62 1 = h 62 1 := f32 62 1 (by decide +kernel)
              have q181 : h115 (r1 + 11) 2 = h98 (r1 + 11) 2 := jK 0 f117 (rg_T11_2_0_1 t3) (by first | decide | omega) (by first | decide | omega) (by decide)
              have q182 : h98 (r1 + 11) 2 = h70 (r1 + 11) 2 := jK 0 f100 (rg_T11_2_0_1 t3) (by first | decide | omega) (by first | decide | omega) (by decide)
              have q183 : h166 62 1 = h115 62 1 := f168 62 1 (by decide +kernel)
              have q184 : h115 62 1 = h98 62 1 := f117 62 1 (by decide +kernel)
              have q185 : h98 62 1 = h70 62 1 := f100 62 1 (by decide +kernel)
              have q186 : h70 62 1 = h48 62 1 := f72 62 1 (by decide +kernel)
              have q187 : h48 62 1 = h30 62 1 := f50 62 1 (by decide +kernel)
              have q188 : h30 62 1 = h 62 1 := f32 62 1 (by decide +kernel)
              have b189 := jB (e := 2) 0 j167 (rg_T11_2_0_1 t3) (by first | decide | omega) (by first | decide | omega)
              have e190 : cl9 h166 = (h166 (r1 + 11) 2) := (congrArg (fun z => h166 z 2) ((((((q183.trans q184).trans q185).trans q186).trans q187).trans q188).trans q2)).trans rfl
              refine x_ifz (k := 0) (tg := 246) (np := 229) (by decide +kernel) (by decide) l163 (fun q191 => ?_) (fun q192 => ?_)
              · have q191 : v162 = 2147483648 := q191
                refine x_const (np := 247) (x := 9223372039002259456) (a := 2147483648) (by decide +kernel) (by decide) (by decide) ?_
                have q193 : h166 62 1 = h115 62 1 := f168 62 1 (by decide +kernel)
                have q194 : h115 62 1 = h98 62 1 := f117 62 1 (by decide +kernel)
                have q195 : h98 62 1 = h70 62 1 := f100 62 1 (by decide +kernel)
                have q196 : h70 62 1 = h48 62 1 := f72 62 1 (by decide +kernel)
                have q197 : h48 62 1 = h30 62 1 := f50 62 1 (by decide +kernel)
                have q198 : h30 62 1 = h 62 1 := f32 62 1 (by decide +kernel)
                obtain ⟨w199, e200⟩ := Tk.no c36 (by first | decide | omega)
                obtain ⟨w201, e202⟩ := Tk.no c54 (by first | decide | omega)
                have w203 : An tB tN (h 1 2) := gA_an (Is.no c12 (by first | decide | omega)) rfl (Is.no c21 (by first | decide | omega)) rfl w199 rfl w201 (show h30 1 2 = h 1 2 by first | decide | omega)
                obtain ⟨w204, e205⟩ := Tk.no c104 (by first | decide | omega)
                obtain ⟨w206, e207⟩ := Tk.yes c121 (by first | decide | omega)
                obtain ⟨w208, e209⟩ := Tk.no c36 (by first | decide | omega)
                obtain ⟨w210, e211⟩ := Tk.no c54 (by first | decide | omega)
                have w212 : An tB tN (h 1 2) := gA_an (Is.no c12 (by first | decide | omega)) rfl (Is.no c21 (by first | decide | omega)) rfl w208 rfl w210 (show h30 1 2 = h 1 2 by first | decide | omega)
                obtain ⟨w213, e214⟩ := Tk.no c104 (by first | decide | omega)
                obtain ⟨w215, e216⟩ := Tk.yes c121 (by first | decide | omega)
                refine x_retI (np := 248) (x := 0) (by decide +kernel) (by decide) (Or.inr ⟨by decide +kernel, by first | decide | omega, by first | decide | omega⟩) ⟨_, rfl, (by decide), ?_⟩
                exact ⟨j167, f174, (by first | decide | omega), (fun z => by first | decide | omega), (fun z => by first | decide | omega), (gA_c2 w203 (c76 5) (show h48 1 2 = h 1 2 by first | decide | omega) (by first | decide | omega) (Or.inr w206) (show h98 1 2 = h70 1 2 by first | decide | omega) e207 (c172 5) rfl (by first | decide | omega) (fun z => absurd z (by first | decide | omega))), (fun _ => fA_c2 w212 (c76 5) (show h48 1 2 = h 1 2 by first | decide | omega) (by first | decide | omega) (Or.inr w215) (show h98 1 2 = h70 1 2 by first | decide | omega) e216 (c173 (by first | decide | omega) 5) rfl rfl)⟩
              have q192 : ¬ (v162 = 2147483648) := q192
              have b217 := c170 (by first | decide | omega)
              have b218 := c171 (by first | decide | omega)
              refine x_aload (np := 230) (x := 0) (by decide +kernel) rfl (x_nc_le (by decide)) ?_
              have q219 : h166 62 1 = h115 62 1 := f168 62 1 (by decide +kernel)
              have q220 : h115 62 1 = h98 62 1 := f117 62 1 (by decide +kernel)
              have q221 : h98 62 1 = h70 62 1 := f100 62 1 (by decide +kernel)
              have q222 : h70 62 1 = h48 62 1 := f72 62 1 (by decide +kernel)
              have q223 : h48 62 1 = h30 62 1 := f50 62 1 (by decide +kernel)
              have q224 : h30 62 1 = h 62 1 := f32 62 1 (by decide +kernel)
              refine x_getR (np := 233) (x := 193) (f := 1) (q := (r1 + 11)) (by decide +kernel) (by decide) (by decide +kernel) ((((((q219.trans q220).trans q221).trans q222).trans q223).trans q224).trans q2) ?_
              refine x_const (np := 236) (x := 9223380637526788050) (a := 2147485650) (by decide +kernel) (by decide) (by decide) ?_
              refine x_nI (t := 6) (mj := 36) (n := 2) (rc := 3) (ml := 2) (nr := 0) (np := 239) (as := [x_r (r1 + 11), iv_c 2147485650]) (rest := []) (lo1 := [x_r (r1 + 11), iv_c 2147485650]) (by decide +kernel) (by decide) (by decide +kernel) (x_rb_of (tr_11_3 t3)) rfl rfl (x_wr (tn_11 t3) (x_wi (by decide) x_wn)) x_wn (by decide) rfl ?_
              refine x_aload (np := 1) (x := 0) (by decide +kernel) rfl (x_nc_le (tn_11 t3)) ?_
              refine x_getC (np := 4) (x := 130) (f := 2) (q := (h166 (r1 + 11) 2)) (by decide +kernel) (by decide) (tg_11_130_2_0 t3) rfl (fun l225 => ?_)
              refine x_const (np := 7) (x := 9223373756989178256) (a := 2147484048) (by decide +kernel) (by decide) (by decide) ?_
              refine x_icmp (k := 2) (tg := 12) (np := 10) (by decide +kernel) (by decide) l225 (by decide) (fun q226 => ?_) (fun q227 => ?_)
              · have q226 : (h166 (r1 + 11) 2) < 2147484048 := q226
                refine x_aload (np := 13) (x := 0) (by decide +kernel) rfl (x_nc_le (tn_11 t3)) ?_
                have q228 : h166 (r1 + 11) 0 = (r1 + 12) := tf_11_0 j167 t3
                refine x_getR (np := 16) (x := 128) (f := 0) (q := (r1 + 12)) (by decide +kernel) (by decide) (tg_11_128_0_1 t3) q228 ?_
                refine x_aload (np := 17) (x := 0) (by decide +kernel) rfl (x_nc_le (tn_11 t3)) ?_
                refine x_getC (np := 20) (x := 130) (f := 2) (q := (h166 (r1 + 11) 2)) (by decide +kernel) (by decide) (tg_11_130_2_0 t3) rfl (fun l229 => ?_)
                refine x_iload (np := 21) (x := 1) (by decide +kernel) rfl (by decide) ?_
                obtain ⟨u230, q231⟩ : ∃ z, (h166 (r1 + 11) 2) = 2147483648 + z := ⟨(h166 (r1 + 11) 2) - 2147483648, by first | decide | omega⟩
                refine x_ast (np := 22) (x := 0) (kd := 1) (n := 400) (i := u230) (by decide +kernel) (Or.inl rfl) (ta_12_400 t3) (by first | decide | omega) (by first | decide | omega) (by decide) (by decide) (fun z => absurd z (by decide)) ?_
                have j233 := jU (e := u230) (v := 2147485650) u230 j167 (rg_T12_0_1_400 t3) (by first | decide | omega) (by first | decide | omega) (by first | decide | omega)
                have f235 := jF (e := u230) (v := 2147485650) u230 f174 (rg_T12_0_1_400 t3) (by first | decide | omega) (by first | decide | omega) (by decide)
                generalize e234 : x_up h166 (r1 + 12) u230 2147485650 = h232 at j233 f235 ⊢
                refine x_aload (np := 23) (x := 0) (by decide +kernel) rfl (x_nc_le (tn_11 t3)) ?_
                refine x_dup (np := 24) (x := 0) (by decide +kernel) (by have z := x_nc_le (k := (r1 + 11)) (tn_11 t3); unfold x_r; omega) ?_
                have q236 : h232 (r1 + 11) 2 = h166 (r1 + 11) 2 := by rw [← e234]; exact x_up_k tof_11_12
                refine x_getC (np := 27) (x := 130) (f := 2) (q := (h166 (r1 + 11) 2)) (by decide +kernel) (by decide) (tg_11_130_2_0 t3) q236 (fun l237 => ?_)
                refine x_const (np := 28) (x := 9223372043297226753) (a := 2147483649) (by decide +kernel) (by decide) (by decide) ?_
                refine x_iadd (np := 29) (x := 0) (v := (1 + (h166 (r1 + 11) 2))) (by decide +kernel) l225 (by decide) (by first | decide | omega) (by first | decide | omega) ?_
                refine x_putI (np := 32) (x := 130) (f := 2) (by decide +kernel) (tg_11_130_2_0 t3) (by first | decide | omega) (Or.inl (by decide)) ?_
                have j239 := jU (e := 2) (v := (1 + (h166 (r1 + 11) 2))) 0 j233 (rg_T11_2_0_1 t3) (by first | decide | omega) (by first | decide | omega) (by first | decide | omega)
                have f241 := jF (e := 2) (v := (1 + (h166 (r1 + 11) 2))) 0 f235 (rg_T11_2_0_1 t3) (by first | decide | omega) (by first | decide | omega) (by decide)
                generalize e240 : x_up h232 (r1 + 11) 2 (1 + (h166 (r1 + 11) 2)) = h238 at j239 f241 ⊢
                refine x_const (np := 33) (x := 9223372043297226753) (a := 2147483649) (by decide +kernel) (by decide) (by decide) ?_
                refine x_retI (np := 34) (x := 0) (by decide +kernel) (by decide) (Or.inr ⟨by decide +kernel, by first | decide | omega, by first | decide | omega⟩) ⟨_, rfl, (by decide), ?_⟩
                refine x_ifz (k := 0) (tg := 246) (np := 242) (by decide +kernel) (by decide) (by decide) (fun q242 => ?_) (fun q243 => ?_)
                · have q242 : 2147483649 = 2147483648 := q242
                  exfalso; omega
                have q243 : ¬ (2147483649 = 2147483648) := q243
                refine x_const (np := 243) (x := 9223372043297226753) (a := 2147483649) (by decide +kernel) (by decide) (by decide) ?_
                refine x_goto (np := 246) (x := 247) (by decide +kernel) ?_
                have q244 : h238 1 2 = h232 1 2 := by rw [← e240]; exact x_up_k (Ne.symm (tne_11_1 t3))
                have q245 : h232 1 2 = h166 1 2 := by rw [← e234]; exact x_up_k (Ne.symm (tne_12_1 t3))
                have q246 : h238 62 1 = h232 62 1 := by rw [← e240]; exact x_up_k (Ne.symm (tne_11_62 t3))
                have q247 : h232 62 1 = h166 62 1 := by rw [← e234]; exact x_up_k (Ne.symm (tne_12_62 t3))
                have q248 : h166 62 1 = h115 62 1 := f168 62 1 (by decide +kernel)
                have q249 : h115 62 1 = h98 62 1 := f117 62 1 (by decide +kernel)
                have q250 : h98 62 1 = h70 62 1 := f100 62 1 (by decide +kernel)
                have q251 : h70 62 1 = h48 62 1 := f72 62 1 (by decide +kernel)
                have q252 : h48 62 1 = h30 62 1 := f50 62 1 (by decide +kernel)
                have q253 : h30 62 1 = h 62 1 := f32 62 1 (by decide +kernel)
                have q254 : h238 (r1 + 11) 2 = (1 + (h166 (r1 + 11) 2)) := by rw [← e240]; exact x_up_at
                have e255 : cl9 h238 = (1 + (h166 (r1 + 11) 2)) := (congrArg (fun z => h238 z 2) ((((((((q246.trans q247).trans q248).trans q249).trans q250).trans q251).trans q252).trans q253).trans q2)).trans q254
                have q256 : h238 1 2 = h232 1 2 := by rw [← e240]; exact x_up_k (Ne.symm (tne_11_1 t3))
                have q257 : h232 1 2 = h166 1 2 := by rw [← e234]; exact x_up_k (Ne.symm (tne_12_1 t3))
                obtain ⟨w258, e259⟩ := Tk.no c36 (by first | decide | omega)
                obtain ⟨w260, e261⟩ := Tk.no c54 (by first | decide | omega)
                have w262 : An tB tN (h 1 2) := gA_an (Is.no c12 (by first | decide | omega)) rfl (Is.no c21 (by first | decide | omega)) rfl w258 rfl w260 (show h30 1 2 = h 1 2 by first | decide | omega)
                obtain ⟨w263, e264⟩ := Tk.no c104 (by first | decide | omega)
                obtain ⟨w265, e266⟩ := Tk.yes c121 (by first | decide | omega)
                have q267 : h238 1 2 = h232 1 2 := by rw [← e240]; exact x_up_k (Ne.symm (tne_11_1 t3))
                have q268 : h232 1 2 = h166 1 2 := by rw [← e234]; exact x_up_k (Ne.symm (tne_12_1 t3))
                refine x_retI (np := 248) (x := 0) (by decide +kernel) (by decide) (Or.inr ⟨by decide +kernel, by first | decide | omega, by first | decide | omega⟩) ⟨_, rfl, (by decide), ?_⟩
                exact ⟨j239, f241, (by first | decide | omega), (fun z => by first | decide | omega), (fun z => by first | decide | omega), (gA_c2 w262 (c76 5) (show h48 1 2 = h 1 2 by first | decide | omega) (by first | decide | omega) (Or.inr w265) (show h98 1 2 = h70 1 2 by first | decide | omega) e266 (c172 5) rfl (by first | decide | omega) (fun z => (show h166 1 2 = h238 1 2 by first | decide | omega))), (fun z => absurd z (by first | decide | omega))⟩
              have q227 : ¬ ((h166 (r1 + 11) 2) < 2147484048) := q227
              refine x_const (np := 11) (x := 9223372039002259456) (a := 2147483648) (by decide +kernel) (by decide) (by decide) ?_
              refine x_retI (np := 12) (x := 0) (by decide +kernel) (by decide) (Or.inr ⟨by decide +kernel, by first | decide | omega, by first | decide | omega⟩) ⟨_, rfl, (by decide), ?_⟩
              refine x_ifz (k := 0) (tg := 246) (np := 242) (by decide +kernel) (by decide) (by decide) (fun q269 => ?_) (fun q270 => ?_)
              · have q269 : 2147483648 = 2147483648 := q269
                refine x_const (np := 247) (x := 9223372039002259456) (a := 2147483648) (by decide +kernel) (by decide) (by decide) ?_
                have q271 : h166 62 1 = h115 62 1 := f168 62 1 (by decide +kernel)
                have q272 : h115 62 1 = h98 62 1 := f117 62 1 (by decide +kernel)
                have q273 : h98 62 1 = h70 62 1 := f100 62 1 (by decide +kernel)
                have q274 : h70 62 1 = h48 62 1 := f72 62 1 (by decide +kernel)
                have q275 : h48 62 1 = h30 62 1 := f50 62 1 (by decide +kernel)
                have q276 : h30 62 1 = h 62 1 := f32 62 1 (by decide +kernel)
                obtain ⟨w277, e278⟩ := Tk.no c36 (by first | decide | omega)
                obtain ⟨w279, e280⟩ := Tk.no c54 (by first | decide | omega)
                have w281 : An tB tN (h 1 2) := gA_an (Is.no c12 (by first | decide | omega)) rfl (Is.no c21 (by first | decide | omega)) rfl w277 rfl w279 (show h30 1 2 = h 1 2 by first | decide | omega)
                obtain ⟨w282, e283⟩ := Tk.no c104 (by first | decide | omega)
                obtain ⟨w284, e285⟩ := Tk.yes c121 (by first | decide | omega)
                obtain ⟨w286, e287⟩ := Tk.no c36 (by first | decide | omega)
                obtain ⟨w288, e289⟩ := Tk.no c54 (by first | decide | omega)
                have w290 : An tB tN (h 1 2) := gA_an (Is.no c12 (by first | decide | omega)) rfl (Is.no c21 (by first | decide | omega)) rfl w286 rfl w288 (show h30 1 2 = h 1 2 by first | decide | omega)
                obtain ⟨w291, e292⟩ := Tk.no c104 (by first | decide | omega)
                obtain ⟨w293, e294⟩ := Tk.yes c121 (by first | decide | omega)
                refine x_retI (np := 248) (x := 0) (by decide +kernel) (by decide) (Or.inr ⟨by decide +kernel, by first | decide | omega, by first | decide | omega⟩) ⟨_, rfl, (by decide), ?_⟩
                exact ⟨j167, f174, (by first | decide | omega), (fun z => by first | decide | omega), (fun z => by first | decide | omega), (gA_c2 w281 (c76 5) (show h48 1 2 = h 1 2 by first | decide | omega) (by first | decide | omega) (Or.inr w284) (show h98 1 2 = h70 1 2 by first | decide | omega) e285 (c172 5) rfl (by first | decide | omega) (fun z => rfl)), (fun _ => fA_c2 w290 (c76 5) (show h48 1 2 = h 1 2 by first | decide | omega) (by first | decide | omega) (Or.inr w293) (show h98 1 2 = h70 1 2 by first | decide | omega) e294 (c173 (by first | decide | omega) 5) rfl rfl)⟩
              have q270 : ¬ (2147483648 = 2147483648) := q270
              exfalso; omega
            have q108 : ¬ (v94 = 2147483648) := q108
            have b295 := c102 (by first | decide | omega)
            refine x_aload (np := 185) (x := 0) (by decide +kernel) rfl (x_nc_le (by decide)) ?_
            have q296 : h98 62 1 = h70 62 1 := f100 62 1 (by decide +kernel)
            have q297 : h70 62 1 = h48 62 1 := f72 62 1 (by decide +kernel)
            have q298 : h48 62 1 = h30 62 1 := f50 62 1 (by decide +kernel)
            have q299 : h30 62 1 = h 62 1 := f32 62 1 (by decide +kernel)
            have q300 : h98 (r1 + 11) 2 = h70 (r1 + 11) 2 := jK 0 f100 (rg_T11_2_0_1 t3) (by first | decide | omega) (by first | decide | omega) (by decide)
            have e301 : cl9 h98 = (h70 (r1 + 11) 2) := (congrArg (fun z => h98 z 2) ((((q296.trans q297).trans q298).trans q299).trans q2)).trans q300
            have m305 := Tp.fr m97 f100 (by decide) (by decide)
            refine x_cI (t := 6) (mj := 49) (n := 1) (rc := 4) (ml := 2) (nr := 0) (np := 188) (as := [x_r 62]) (rest := []) (lo1 := [x_r 62, 147573952589676412928]) (by decide +kernel) (by decide) (by decide +kernel) (x_rb_of (by decide +kernel)) rfl rfl (x_wr (by decide) x_wn) x_wn (by decide) rfl (c49_62 j99  (by first | decide | omega) m305) (fun v302 h306 l303 q304 => ?_)
            obtain ⟨j307, f308, b309, c310, c311, c312, c313⟩ := q304
            have f314 := Fr.trans f105 f308 (by decide)
            have b315 := jB (e := 2) 0 j307 rg_1_2_0_1 (by first | decide | omega) (by first | decide | omega)
            have q316 : h98 62 1 = h70 62 1 := f100 62 1 (by decide +kernel)
            have q317 : h70 62 1 = h48 62 1 := f72 62 1 (by decide +kernel)
            have q318 : h48 62 1 = h30 62 1 := f50 62 1 (by decide +kernel)
            have q319 : h30 62 1 = h 62 1 := f32 62 1 (by decide +kernel)
            have q320 : h98 (r1 + 11) 2 = h70 (r1 + 11) 2 := jK 0 f100 (rg_T11_2_0_1 t3) (by first | decide | omega) (by first | decide | omega) (by decide)
            have q321 : h306 62 1 = h98 62 1 := f308 62 1 (by decide +kernel)
            have q322 : h98 62 1 = h70 62 1 := f100 62 1 (by decide +kernel)
            have q323 : h70 62 1 = h48 62 1 := f72 62 1 (by decide +kernel)
            have q324 : h48 62 1 = h30 62 1 := f50 62 1 (by decide +kernel)
            have q325 : h30 62 1 = h 62 1 := f32 62 1 (by decide +kernel)
            have b326 := jB (e := 2) 0 j307 (rg_T11_2_0_1 t3) (by first | decide | omega) (by first | decide | omega)
            have e327 : cl9 h306 = (h306 (r1 + 11) 2) := (congrArg (fun z => h306 z 2) (((((q321.trans q322).trans q323).trans q324).trans q325).trans q2)).trans rfl
            refine x_ifz (k := 0) (tg := 208) (np := 191) (by decide +kernel) (by decide) l303 (fun q328 => ?_) (fun q329 => ?_)
            · have q328 : v302 = 2147483648 := q328
              refine x_const (np := 209) (x := 9223372039002259456) (a := 2147483648) (by decide +kernel) (by decide) (by decide) ?_
              have q330 : h306 62 1 = h98 62 1 := f308 62 1 (by decide +kernel)
              have q331 : h98 62 1 = h70 62 1 := f100 62 1 (by decide +kernel)
              have q332 : h70 62 1 = h48 62 1 := f72 62 1 (by decide +kernel)
              have q333 : h48 62 1 = h30 62 1 := f50 62 1 (by decide +kernel)
              have q334 : h30 62 1 = h 62 1 := f32 62 1 (by decide +kernel)
              obtain ⟨w335, e336⟩ := Tk.no c36 (by first | decide | omega)
              obtain ⟨w337, e338⟩ := Tk.no c54 (by first | decide | omega)
              have w339 : An tB tN (h 1 2) := gA_an (Is.no c12 (by first | decide | omega)) rfl (Is.no c21 (by first | decide | omega)) rfl w335 rfl w337 (show h30 1 2 = h 1 2 by first | decide | omega)
              obtain ⟨w340, e341⟩ := Tk.yes c104 (by first | decide | omega)
              obtain ⟨w342, e343⟩ := Tk.no c36 (by first | decide | omega)
              obtain ⟨w344, e345⟩ := Tk.no c54 (by first | decide | omega)
              have w346 : An tB tN (h 1 2) := gA_an (Is.no c12 (by first | decide | omega)) rfl (Is.no c21 (by first | decide | omega)) rfl w342 rfl w344 (show h30 1 2 = h 1 2 by first | decide | omega)
              obtain ⟨w347, e348⟩ := Tk.yes c104 (by first | decide | omega)
              refine x_retI (np := 210) (x := 0) (by decide +kernel) (by decide) (Or.inr ⟨by decide +kernel, by first | decide | omega, by first | decide | omega⟩) ⟨_, rfl, (by decide), ?_⟩
              exact ⟨j307, f314, (by first | decide | omega), (fun z => by first | decide | omega), (fun z => by first | decide | omega), (gA_c2 w339 (c76 5) (show h48 1 2 = h 1 2 by first | decide | omega) (by first | decide | omega) (Or.inl w340) rfl e341 (c312 5) rfl (by first | decide | omega) (fun z => absurd z (by first | decide | omega))), (fun _ => fA_c2 w346 (c76 5) (show h48 1 2 = h 1 2 by first | decide | omega) (by first | decide | omega) (Or.inl w347) rfl e348 (c313 (by first | decide | omega) 5) rfl rfl)⟩
            have q329 : ¬ (v302 = 2147483648) := q329
            have b349 := c310 (by first | decide | omega)
            have b350 := c311 (by first | decide | omega)
            refine x_aload (np := 192) (x := 0) (by decide +kernel) rfl (x_nc_le (by decide)) ?_
            have q351 : h306 62 1 = h98 62 1 := f308 62 1 (by decide +kernel)
            have q352 : h98 62 1 = h70 62 1 := f100 62 1 (by decide +kernel)
            have q353 : h70 62 1 = h48 62 1 := f72 62 1 (by decide +kernel)
            have q354 : h48 62 1 = h30 62 1 := f50 62 1 (by decide +kernel)
            have q355 : h30 62 1 = h 62 1 := f32 62 1 (by decide +kernel)
            refine x_getR (np := 195) (x := 193) (f := 1) (q := (r1 + 11)) (by decide +kernel) (by decide) (by decide +kernel) (((((q351.trans q352).trans q353).trans q354).trans q355).trans q2) ?_
            refine x_const (np := 198) (x := 9223380633231820753) (a := 2147485649) (by decide +kernel) (by decide) (by decide) ?_
            refine x_nI (t := 6) (mj := 36) (n := 2) (rc := 3) (ml := 2) (nr := 0) (np := 201) (as := [x_r (r1 + 11), iv_c 2147485649]) (rest := []) (lo1 := [x_r (r1 + 11), iv_c 2147485649]) (by decide +kernel) (by decide) (by decide +kernel) (x_rb_of (tr_11_3 t3)) rfl rfl (x_wr (tn_11 t3) (x_wi (by decide) x_wn)) x_wn (by decide) rfl ?_
            refine x_aload (np := 1) (x := 0) (by decide +kernel) rfl (x_nc_le (tn_11 t3)) ?_
            refine x_getC (np := 4) (x := 130) (f := 2) (q := (h306 (r1 + 11) 2)) (by decide +kernel) (by decide) (tg_11_130_2_0 t3) rfl (fun l356 => ?_)
            refine x_const (np := 7) (x := 9223373756989178256) (a := 2147484048) (by decide +kernel) (by decide) (by decide) ?_
            refine x_icmp (k := 2) (tg := 12) (np := 10) (by decide +kernel) (by decide) l356 (by decide) (fun q357 => ?_) (fun q358 => ?_)
            · have q357 : (h306 (r1 + 11) 2) < 2147484048 := q357
              refine x_aload (np := 13) (x := 0) (by decide +kernel) rfl (x_nc_le (tn_11 t3)) ?_
              have q359 : h306 (r1 + 11) 0 = (r1 + 12) := tf_11_0 j307 t3
              refine x_getR (np := 16) (x := 128) (f := 0) (q := (r1 + 12)) (by decide +kernel) (by decide) (tg_11_128_0_1 t3) q359 ?_
              refine x_aload (np := 17) (x := 0) (by decide +kernel) rfl (x_nc_le (tn_11 t3)) ?_
              refine x_getC (np := 20) (x := 130) (f := 2) (q := (h306 (r1 + 11) 2)) (by decide +kernel) (by decide) (tg_11_130_2_0 t3) rfl (fun l360 => ?_)
              refine x_iload (np := 21) (x := 1) (by decide +kernel) rfl (by decide) ?_
              obtain ⟨u361, q362⟩ : ∃ z, (h306 (r1 + 11) 2) = 2147483648 + z := ⟨(h306 (r1 + 11) 2) - 2147483648, by first | decide | omega⟩
              refine x_ast (np := 22) (x := 0) (kd := 1) (n := 400) (i := u361) (by decide +kernel) (Or.inl rfl) (ta_12_400 t3) (by first | decide | omega) (by first | decide | omega) (by decide) (by decide) (fun z => absurd z (by decide)) ?_
              have j364 := jU (e := u361) (v := 2147485649) u361 j307 (rg_T12_0_1_400 t3) (by first | decide | omega) (by first | decide | omega) (by first | decide | omega)
              have f366 := jF (e := u361) (v := 2147485649) u361 f314 (rg_T12_0_1_400 t3) (by first | decide | omega) (by first | decide | omega) (by decide)
              generalize e365 : x_up h306 (r1 + 12) u361 2147485649 = h363 at j364 f366 ⊢
              refine x_aload (np := 23) (x := 0) (by decide +kernel) rfl (x_nc_le (tn_11 t3)) ?_
              refine x_dup (np := 24) (x := 0) (by decide +kernel) (by have z := x_nc_le (k := (r1 + 11)) (tn_11 t3); unfold x_r; omega) ?_
              have q367 : h363 (r1 + 11) 2 = h306 (r1 + 11) 2 := by rw [← e365]; exact x_up_k tof_11_12
              refine x_getC (np := 27) (x := 130) (f := 2) (q := (h306 (r1 + 11) 2)) (by decide +kernel) (by decide) (tg_11_130_2_0 t3) q367 (fun l368 => ?_)
              refine x_const (np := 28) (x := 9223372043297226753) (a := 2147483649) (by decide +kernel) (by decide) (by decide) ?_
              refine x_iadd (np := 29) (x := 0) (v := (1 + (h306 (r1 + 11) 2))) (by decide +kernel) l356 (by decide) (by first | decide | omega) (by first | decide | omega) ?_
              refine x_putI (np := 32) (x := 130) (f := 2) (by decide +kernel) (tg_11_130_2_0 t3) (by first | decide | omega) (Or.inl (by decide)) ?_
              have j370 := jU (e := 2) (v := (1 + (h306 (r1 + 11) 2))) 0 j364 (rg_T11_2_0_1 t3) (by first | decide | omega) (by first | decide | omega) (by first | decide | omega)
              have f372 := jF (e := 2) (v := (1 + (h306 (r1 + 11) 2))) 0 f366 (rg_T11_2_0_1 t3) (by first | decide | omega) (by first | decide | omega) (by decide)
              generalize e371 : x_up h363 (r1 + 11) 2 (1 + (h306 (r1 + 11) 2)) = h369 at j370 f372 ⊢
              refine x_const (np := 33) (x := 9223372043297226753) (a := 2147483649) (by decide +kernel) (by decide) (by decide) ?_
              refine x_retI (np := 34) (x := 0) (by decide +kernel) (by decide) (Or.inr ⟨by decide +kernel, by first | decide | omega, by first | decide | omega⟩) ⟨_, rfl, (by decide), ?_⟩
              refine x_ifz (k := 0) (tg := 208) (np := 204) (by decide +kernel) (by decide) (by decide) (fun q373 => ?_) (fun q374 => ?_)
              · have q373 : 2147483649 = 2147483648 := q373
                exfalso; omega
              have q374 : ¬ (2147483649 = 2147483648) := q374
              refine x_const (np := 205) (x := 9223372043297226753) (a := 2147483649) (by decide +kernel) (by decide) (by decide) ?_
              refine x_goto (np := 208) (x := 209) (by decide +kernel) ?_
              have q375 : h369 1 2 = h363 1 2 := by rw [← e371]; exact x_up_k (Ne.symm (tne_11_1 t3))
              have q376 : h363 1 2 = h306 1 2 := by rw [← e365]; exact x_up_k (Ne.symm (tne_12_1 t3))
              have q377 : h369 62 1 = h363 62 1 := by rw [← e371]; exact x_up_k (Ne.symm (tne_11_62 t3))
              have q378 : h363 62 1 = h306 62 1 := by rw [← e365]; exact x_up_k (Ne.symm (tne_12_62 t3))
              have q379 : h306 62 1 = h98 62 1 := f308 62 1 (by decide +kernel)
              have q380 : h98 62 1 = h70 62 1 := f100 62 1 (by decide +kernel)
              have q381 : h70 62 1 = h48 62 1 := f72 62 1 (by decide +kernel)
              have q382 : h48 62 1 = h30 62 1 := f50 62 1 (by decide +kernel)
              have q383 : h30 62 1 = h 62 1 := f32 62 1 (by decide +kernel)
              have q384 : h369 (r1 + 11) 2 = (1 + (h306 (r1 + 11) 2)) := by rw [← e371]; exact x_up_at
              have e385 : cl9 h369 = (1 + (h306 (r1 + 11) 2)) := (congrArg (fun z => h369 z 2) (((((((q377.trans q378).trans q379).trans q380).trans q381).trans q382).trans q383).trans q2)).trans q384
              have q386 : h369 1 2 = h363 1 2 := by rw [← e371]; exact x_up_k (Ne.symm (tne_11_1 t3))
              have q387 : h363 1 2 = h306 1 2 := by rw [← e365]; exact x_up_k (Ne.symm (tne_12_1 t3))
              obtain ⟨w388, e389⟩ := Tk.no c36 (by first | decide | omega)
              obtain ⟨w390, e391⟩ := Tk.no c54 (by first | decide | omega)
              have w392 : An tB tN (h 1 2) := gA_an (Is.no c12 (by first | decide | omega)) rfl (Is.no c21 (by first | decide | omega)) rfl w388 rfl w390 (show h30 1 2 = h 1 2 by first | decide | omega)
              obtain ⟨w393, e394⟩ := Tk.yes c104 (by first | decide | omega)
              have q395 : h369 1 2 = h363 1 2 := by rw [← e371]; exact x_up_k (Ne.symm (tne_11_1 t3))
              have q396 : h363 1 2 = h306 1 2 := by rw [← e365]; exact x_up_k (Ne.symm (tne_12_1 t3))
              refine x_retI (np := 210) (x := 0) (by decide +kernel) (by decide) (Or.inr ⟨by decide +kernel, by first | decide | omega, by first | decide | omega⟩) ⟨_, rfl, (by decide), ?_⟩
              exact ⟨j370, f372, (by first | decide | omega), (fun z => by first | decide | omega), (fun z => by first | decide | omega), (gA_c2 w392 (c76 5) (show h48 1 2 = h 1 2 by first | decide | omega) (by first | decide | omega) (Or.inl w393) rfl e394 (c312 5) rfl (by first | decide | omega) (fun z => (show h306 1 2 = h369 1 2 by first | decide | omega))), (fun z => absurd z (by first | decide | omega))⟩
            have q358 : ¬ ((h306 (r1 + 11) 2) < 2147484048) := q358
            refine x_const (np := 11) (x := 9223372039002259456) (a := 2147483648) (by decide +kernel) (by decide) (by decide) ?_
            refine x_retI (np := 12) (x := 0) (by decide +kernel) (by decide) (Or.inr ⟨by decide +kernel, by first | decide | omega, by first | decide | omega⟩) ⟨_, rfl, (by decide), ?_⟩
            refine x_ifz (k := 0) (tg := 208) (np := 204) (by decide +kernel) (by decide) (by decide) (fun q397 => ?_) (fun q398 => ?_)
            · have q397 : 2147483648 = 2147483648 := q397
              refine x_const (np := 209) (x := 9223372039002259456) (a := 2147483648) (by decide +kernel) (by decide) (by decide) ?_
              have q399 : h306 62 1 = h98 62 1 := f308 62 1 (by decide +kernel)
              have q400 : h98 62 1 = h70 62 1 := f100 62 1 (by decide +kernel)
              have q401 : h70 62 1 = h48 62 1 := f72 62 1 (by decide +kernel)
              have q402 : h48 62 1 = h30 62 1 := f50 62 1 (by decide +kernel)
              have q403 : h30 62 1 = h 62 1 := f32 62 1 (by decide +kernel)
              obtain ⟨w404, e405⟩ := Tk.no c36 (by first | decide | omega)
              obtain ⟨w406, e407⟩ := Tk.no c54 (by first | decide | omega)
              have w408 : An tB tN (h 1 2) := gA_an (Is.no c12 (by first | decide | omega)) rfl (Is.no c21 (by first | decide | omega)) rfl w404 rfl w406 (show h30 1 2 = h 1 2 by first | decide | omega)
              obtain ⟨w409, e410⟩ := Tk.yes c104 (by first | decide | omega)
              obtain ⟨w411, e412⟩ := Tk.no c36 (by first | decide | omega)
              obtain ⟨w413, e414⟩ := Tk.no c54 (by first | decide | omega)
              have w415 : An tB tN (h 1 2) := gA_an (Is.no c12 (by first | decide | omega)) rfl (Is.no c21 (by first | decide | omega)) rfl w411 rfl w413 (show h30 1 2 = h 1 2 by first | decide | omega)
              obtain ⟨w416, e417⟩ := Tk.yes c104 (by first | decide | omega)
              refine x_retI (np := 210) (x := 0) (by decide +kernel) (by decide) (Or.inr ⟨by decide +kernel, by first | decide | omega, by first | decide | omega⟩) ⟨_, rfl, (by decide), ?_⟩
              exact ⟨j307, f314, (by first | decide | omega), (fun z => by first | decide | omega), (fun z => by first | decide | omega), (gA_c2 w408 (c76 5) (show h48 1 2 = h 1 2 by first | decide | omega) (by first | decide | omega) (Or.inl w409) rfl e410 (c312 5) rfl (by first | decide | omega) (fun z => rfl)), (fun _ => fA_c2 w415 (c76 5) (show h48 1 2 = h 1 2 by first | decide | omega) (by first | decide | omega) (Or.inl w416) rfl e417 (c313 (by first | decide | omega) 5) rfl rfl)⟩
            have q398 : ¬ (2147483648 = 2147483648) := q398
            exfalso; omega
          have q90 : ¬ (v66 ≠ 2147483648) := q90
          refine x_const (np := 171) (x := 9223372039002259456) (a := 2147483648) (by decide +kernel) (by decide) (by decide) ?_
          have q418 : h70 62 1 = h48 62 1 := f72 62 1 (by decide +kernel)
          have q419 : h48 62 1 = h30 62 1 := f50 62 1 (by decide +kernel)
          have q420 : h30 62 1 = h 62 1 := f32 62 1 (by decide +kernel)
          obtain ⟨w421, e422⟩ := Tk.no c36 (by first | decide | omega)
          obtain ⟨w423, e424⟩ := Tk.no c54 (by first | decide | omega)
          have w425 : An tB tN (h 1 2) := gA_an (Is.no c12 (by first | decide | omega)) rfl (Is.no c21 (by first | decide | omega)) rfl w421 rfl w423 (show h30 1 2 = h 1 2 by first | decide | omega)
          obtain ⟨w426, e427⟩ := Tk.no c36 (by first | decide | omega)
          obtain ⟨w428, e429⟩ := Tk.no c54 (by first | decide | omega)
          have w430 : An tB tN (h 1 2) := gA_an (Is.no c12 (by first | decide | omega)) rfl (Is.no c21 (by first | decide | omega)) rfl w426 rfl w428 (show h30 1 2 = h 1 2 by first | decide | omega)
          refine x_retI (np := 172) (x := 0) (by decide +kernel) (by decide) (Or.inr ⟨by decide +kernel, by first | decide | omega, by first | decide | omega⟩) ⟨_, rfl, (by decide), ?_⟩
          exact ⟨j71, f78, (by first | decide | omega), (fun z => by first | decide | omega), (fun z => by first | decide | omega), (gA_c0 w425 (c76 5) (show h48 1 2 = h 1 2 by first | decide | omega) (by first | decide | omega) (by first | decide | omega)), (fun _ => fA_c0 w430 (c77 (by first | decide | omega) 5) (show h48 1 2 = h 1 2 by first | decide | omega) rfl)⟩
        have q59 : ¬ (v44 = 2147483648) := q59
        have b431 := c52 (by first | decide | omega)
        refine x_aload (np := 153) (x := 0) (by decide +kernel) rfl (x_nc_le (by decide)) ?_
        have q432 : h48 62 1 = h30 62 1 := f50 62 1 (by decide +kernel)
        have q433 : h30 62 1 = h 62 1 := f32 62 1 (by decide +kernel)
        refine x_getR (np := 156) (x := 193) (f := 1) (q := (r1 + 11)) (by decide +kernel) (by decide) (by decide +kernel) ((q432.trans q433).trans q2) ?_
        refine x_const (np := 159) (x := 9223376364034327535) (a := 2147484655) (by decide +kernel) (by decide) (by decide) ?_
        refine x_nI (t := 6) (mj := 36) (n := 2) (rc := 3) (ml := 2) (nr := 0) (np := 162) (as := [x_r (r1 + 11), iv_c 2147484655]) (rest := []) (lo1 := [x_r (r1 + 11), iv_c 2147484655]) (by decide +kernel) (by decide) (by decide +kernel) (x_rb_of (tr_11_3 t3)) rfl rfl (x_wr (tn_11 t3) (x_wi (by decide) x_wn)) x_wn (by decide) rfl ?_
        refine x_aload (np := 1) (x := 0) (by decide +kernel) rfl (x_nc_le (tn_11 t3)) ?_
        have q434 : h48 (r1 + 11) 2 = h30 (r1 + 11) 2 := jK 0 f50 (rg_T11_2_0_1 t3) (by first | decide | omega) (by first | decide | omega) (by decide)
        have q435 : h30 (r1 + 11) 2 = h (r1 + 11) 2 := jK 0 f32 (rg_T11_2_0_1 t3) (by first | decide | omega) (by first | decide | omega) (by decide)
        refine x_getC (np := 4) (x := 130) (f := 2) (q := (h (r1 + 11) 2)) (by decide +kernel) (by decide) (tg_11_130_2_0 t3) (q434.trans q435) (fun l436 => ?_)
        refine x_const (np := 7) (x := 9223373756989178256) (a := 2147484048) (by decide +kernel) (by decide) (by decide) ?_
        refine x_icmp (k := 2) (tg := 12) (np := 10) (by decide +kernel) (by decide) l436 (by decide) (fun q437 => ?_) (fun q438 => ?_)
        · have q437 : (h (r1 + 11) 2) < 2147484048 := q437
          refine x_aload (np := 13) (x := 0) (by decide +kernel) rfl (x_nc_le (tn_11 t3)) ?_
          have q439 : h48 (r1 + 11) 0 = (r1 + 12) := tf_11_0 j49 t3
          refine x_getR (np := 16) (x := 128) (f := 0) (q := (r1 + 12)) (by decide +kernel) (by decide) (tg_11_128_0_1 t3) q439 ?_
          refine x_aload (np := 17) (x := 0) (by decide +kernel) rfl (x_nc_le (tn_11 t3)) ?_
          have q440 : h48 (r1 + 11) 2 = h30 (r1 + 11) 2 := jK 0 f50 (rg_T11_2_0_1 t3) (by first | decide | omega) (by first | decide | omega) (by decide)
          have q441 : h30 (r1 + 11) 2 = h (r1 + 11) 2 := jK 0 f32 (rg_T11_2_0_1 t3) (by first | decide | omega) (by first | decide | omega) (by decide)
          refine x_getC (np := 20) (x := 130) (f := 2) (q := (h (r1 + 11) 2)) (by decide +kernel) (by decide) (tg_11_130_2_0 t3) (q440.trans q441) (fun l442 => ?_)
          refine x_iload (np := 21) (x := 1) (by decide +kernel) rfl (by decide) ?_
          obtain ⟨u443, q444⟩ : ∃ z, (h (r1 + 11) 2) = 2147483648 + z := ⟨(h (r1 + 11) 2) - 2147483648, by first | decide | omega⟩
          refine x_ast (np := 22) (x := 0) (kd := 1) (n := 400) (i := u443) (by decide +kernel) (Or.inl rfl) (ta_12_400 t3) (by first | decide | omega) (by first | decide | omega) (by decide) (by decide) (fun z => absurd z (by decide)) ?_
          have j446 := jU (e := u443) (v := 2147484655) u443 j49 (rg_T12_0_1_400 t3) (by first | decide | omega) (by first | decide | omega) (by first | decide | omega)
          have f448 := jF (e := u443) (v := 2147484655) u443 f55 (rg_T12_0_1_400 t3) (by first | decide | omega) (by first | decide | omega) (by decide)
          generalize e447 : x_up h48 (r1 + 12) u443 2147484655 = h445 at j446 f448 ⊢
          refine x_aload (np := 23) (x := 0) (by decide +kernel) rfl (x_nc_le (tn_11 t3)) ?_
          refine x_dup (np := 24) (x := 0) (by decide +kernel) (by have z := x_nc_le (k := (r1 + 11)) (tn_11 t3); unfold x_r; omega) ?_
          have q449 : h445 (r1 + 11) 2 = h48 (r1 + 11) 2 := by rw [← e447]; exact x_up_k tof_11_12
          have q450 : h48 (r1 + 11) 2 = h30 (r1 + 11) 2 := jK 0 f50 (rg_T11_2_0_1 t3) (by first | decide | omega) (by first | decide | omega) (by decide)
          have q451 : h30 (r1 + 11) 2 = h (r1 + 11) 2 := jK 0 f32 (rg_T11_2_0_1 t3) (by first | decide | omega) (by first | decide | omega) (by decide)
          refine x_getC (np := 27) (x := 130) (f := 2) (q := (h (r1 + 11) 2)) (by decide +kernel) (by decide) (tg_11_130_2_0 t3) ((q449.trans q450).trans q451) (fun l452 => ?_)
          refine x_const (np := 28) (x := 9223372043297226753) (a := 2147483649) (by decide +kernel) (by decide) (by decide) ?_
          refine x_iadd (np := 29) (x := 0) (v := (1 + (h (r1 + 11) 2))) (by decide +kernel) l436 (by decide) (by first | decide | omega) (by first | decide | omega) ?_
          refine x_putI (np := 32) (x := 130) (f := 2) (by decide +kernel) (tg_11_130_2_0 t3) (by first | decide | omega) (Or.inl (by decide)) ?_
          have j454 := jU (e := 2) (v := (1 + (h (r1 + 11) 2))) 0 j446 (rg_T11_2_0_1 t3) (by first | decide | omega) (by first | decide | omega) (by first | decide | omega)
          have f456 := jF (e := 2) (v := (1 + (h (r1 + 11) 2))) 0 f448 (rg_T11_2_0_1 t3) (by first | decide | omega) (by first | decide | omega) (by decide)
          generalize e455 : x_up h445 (r1 + 11) 2 (1 + (h (r1 + 11) 2)) = h453 at j454 f456 ⊢
          refine x_const (np := 33) (x := 9223372043297226753) (a := 2147483649) (by decide +kernel) (by decide) (by decide) ?_
          refine x_retI (np := 34) (x := 0) (by decide +kernel) (by decide) (Or.inr ⟨by decide +kernel, by first | decide | omega, by first | decide | omega⟩) ⟨_, rfl, (by decide), ?_⟩
          have q457 : h453 1 2 = h445 1 2 := by rw [← e455]; exact x_up_k (Ne.symm (tne_11_1 t3))
          have q458 : h445 1 2 = h48 1 2 := by rw [← e447]; exact x_up_k (Ne.symm (tne_12_1 t3))
          have q459 : h453 62 1 = h445 62 1 := by rw [← e455]; exact x_up_k (Ne.symm (tne_11_62 t3))
          have q460 : h445 62 1 = h48 62 1 := by rw [← e447]; exact x_up_k (Ne.symm (tne_12_62 t3))
          have q461 : h48 62 1 = h30 62 1 := f50 62 1 (by decide +kernel)
          have q462 : h30 62 1 = h 62 1 := f32 62 1 (by decide +kernel)
          have q463 : h453 (r1 + 11) 2 = (1 + (h (r1 + 11) 2)) := by rw [← e455]; exact x_up_at
          have e464 : cl9 h453 = (1 + (h (r1 + 11) 2)) := (congrArg (fun z => h453 z 2) ((((q459.trans q460).trans q461).trans q462).trans q2)).trans q463
          have q465 : h453 1 2 = h445 1 2 := by rw [← e455]; exact x_up_k (Ne.symm (tne_11_1 t3))
          have q466 : h445 1 2 = h48 1 2 := by rw [← e447]; exact x_up_k (Ne.symm (tne_12_1 t3))
          obtain ⟨w467, e468⟩ := Tk.no c36 (by first | decide | omega)
          obtain ⟨w469, e470⟩ := Tk.yes c54 (by first | decide | omega)
          have q471 : h453 1 2 = h445 1 2 := by rw [← e455]; exact x_up_k (Ne.symm (tne_11_1 t3))
          have q472 : h445 1 2 = h48 1 2 := by rw [← e447]; exact x_up_k (Ne.symm (tne_12_1 t3))
          refine x_retI (np := 163) (x := 0) (by decide +kernel) (by decide) (Or.inr ⟨by decide +kernel, by first | decide | omega, by first | decide | omega⟩) ⟨_, rfl, (by decide), ?_⟩
          exact ⟨j454, f456, (by first | decide | omega), (fun z => by first | decide | omega), (fun z => by first | decide | omega), (gA_mine w469 (show h30 1 2 = h 1 2 by first | decide | omega) e470 (by first | decide | omega) (show h48 1 2 = h453 1 2 by first | decide | omega)), (fun z => absurd z (by first | decide | omega))⟩
        have q438 : ¬ ((h (r1 + 11) 2) < 2147484048) := q438
        exfalso; omega
      have q41 : ¬ (v27 = 2147483648) := q41
      have b473 := c34 (by first | decide | omega)
      refine x_aload (np := 130) (x := 0) (by decide +kernel) rfl (x_nc_le (by decide)) ?_
      have q474 : h30 62 1 = h 62 1 := f32 62 1 (by decide +kernel)
      refine x_getR (np := 133) (x := 193) (f := 1) (q := (r1 + 11)) (by decide +kernel) (by decide) (by decide +kernel) (q474.trans q2) ?_
      refine x_const (np := 136) (x := 9223376359739360238) (a := 2147484654) (by decide +kernel) (by decide) (by decide) ?_
      refine x_nI (t := 6) (mj := 36) (n := 2) (rc := 3) (ml := 2) (nr := 0) (np := 139) (as := [x_r (r1 + 11), iv_c 2147484654]) (rest := []) (lo1 := [x_r (r1 + 11), iv_c 2147484654]) (by decide +kernel) (by decide) (by decide +kernel) (x_rb_of (tr_11_3 t3)) rfl rfl (x_wr (tn_11 t3) (x_wi (by decide) x_wn)) x_wn (by decide) rfl ?_
      refine x_aload (np := 1) (x := 0) (by decide +kernel) rfl (x_nc_le (tn_11 t3)) ?_
      have q475 : h30 (r1 + 11) 2 = h (r1 + 11) 2 := jK 0 f32 (rg_T11_2_0_1 t3) (by first | decide | omega) (by first | decide | omega) (by decide)
      refine x_getC (np := 4) (x := 130) (f := 2) (q := (h (r1 + 11) 2)) (by decide +kernel) (by decide) (tg_11_130_2_0 t3) q475 (fun l476 => ?_)
      refine x_const (np := 7) (x := 9223373756989178256) (a := 2147484048) (by decide +kernel) (by decide) (by decide) ?_
      refine x_icmp (k := 2) (tg := 12) (np := 10) (by decide +kernel) (by decide) l476 (by decide) (fun q477 => ?_) (fun q478 => ?_)
      · have q477 : (h (r1 + 11) 2) < 2147484048 := q477
        refine x_aload (np := 13) (x := 0) (by decide +kernel) rfl (x_nc_le (tn_11 t3)) ?_
        have q479 : h30 (r1 + 11) 0 = (r1 + 12) := tf_11_0 j31 t3
        refine x_getR (np := 16) (x := 128) (f := 0) (q := (r1 + 12)) (by decide +kernel) (by decide) (tg_11_128_0_1 t3) q479 ?_
        refine x_aload (np := 17) (x := 0) (by decide +kernel) rfl (x_nc_le (tn_11 t3)) ?_
        have q480 : h30 (r1 + 11) 2 = h (r1 + 11) 2 := jK 0 f32 (rg_T11_2_0_1 t3) (by first | decide | omega) (by first | decide | omega) (by decide)
        refine x_getC (np := 20) (x := 130) (f := 2) (q := (h (r1 + 11) 2)) (by decide +kernel) (by decide) (tg_11_130_2_0 t3) q480 (fun l481 => ?_)
        refine x_iload (np := 21) (x := 1) (by decide +kernel) rfl (by decide) ?_
        obtain ⟨u482, q483⟩ : ∃ z, (h (r1 + 11) 2) = 2147483648 + z := ⟨(h (r1 + 11) 2) - 2147483648, by first | decide | omega⟩
        refine x_ast (np := 22) (x := 0) (kd := 1) (n := 400) (i := u482) (by decide +kernel) (Or.inl rfl) (ta_12_400 t3) (by first | decide | omega) (by first | decide | omega) (by decide) (by decide) (fun z => absurd z (by decide)) ?_
        have j485 := jU (e := u482) (v := 2147484654) u482 j31 (rg_T12_0_1_400 t3) (by first | decide | omega) (by first | decide | omega) (by first | decide | omega)
        have f487 := jF (e := u482) (v := 2147484654) u482 f37 (rg_T12_0_1_400 t3) (by first | decide | omega) (by first | decide | omega) (by decide)
        generalize e486 : x_up h30 (r1 + 12) u482 2147484654 = h484 at j485 f487 ⊢
        refine x_aload (np := 23) (x := 0) (by decide +kernel) rfl (x_nc_le (tn_11 t3)) ?_
        refine x_dup (np := 24) (x := 0) (by decide +kernel) (by have z := x_nc_le (k := (r1 + 11)) (tn_11 t3); unfold x_r; omega) ?_
        have q488 : h484 (r1 + 11) 2 = h30 (r1 + 11) 2 := by rw [← e486]; exact x_up_k tof_11_12
        have q489 : h30 (r1 + 11) 2 = h (r1 + 11) 2 := jK 0 f32 (rg_T11_2_0_1 t3) (by first | decide | omega) (by first | decide | omega) (by decide)
        refine x_getC (np := 27) (x := 130) (f := 2) (q := (h (r1 + 11) 2)) (by decide +kernel) (by decide) (tg_11_130_2_0 t3) (q488.trans q489) (fun l490 => ?_)
        refine x_const (np := 28) (x := 9223372043297226753) (a := 2147483649) (by decide +kernel) (by decide) (by decide) ?_
        refine x_iadd (np := 29) (x := 0) (v := (1 + (h (r1 + 11) 2))) (by decide +kernel) l476 (by decide) (by first | decide | omega) (by first | decide | omega) ?_
        refine x_putI (np := 32) (x := 130) (f := 2) (by decide +kernel) (tg_11_130_2_0 t3) (by first | decide | omega) (Or.inl (by decide)) ?_
        have j492 := jU (e := 2) (v := (1 + (h (r1 + 11) 2))) 0 j485 (rg_T11_2_0_1 t3) (by first | decide | omega) (by first | decide | omega) (by first | decide | omega)
        have f494 := jF (e := 2) (v := (1 + (h (r1 + 11) 2))) 0 f487 (rg_T11_2_0_1 t3) (by first | decide | omega) (by first | decide | omega) (by decide)
        generalize e493 : x_up h484 (r1 + 11) 2 (1 + (h (r1 + 11) 2)) = h491 at j492 f494 ⊢
        refine x_const (np := 33) (x := 9223372043297226753) (a := 2147483649) (by decide +kernel) (by decide) (by decide) ?_
        refine x_retI (np := 34) (x := 0) (by decide +kernel) (by decide) (Or.inr ⟨by decide +kernel, by first | decide | omega, by first | decide | omega⟩) ⟨_, rfl, (by decide), ?_⟩
        have q495 : h491 1 2 = h484 1 2 := by rw [← e493]; exact x_up_k (Ne.symm (tne_11_1 t3))
        have q496 : h484 1 2 = h30 1 2 := by rw [← e486]; exact x_up_k (Ne.symm (tne_12_1 t3))
        have q497 : h491 62 1 = h484 62 1 := by rw [← e493]; exact x_up_k (Ne.symm (tne_11_62 t3))
        have q498 : h484 62 1 = h30 62 1 := by rw [← e486]; exact x_up_k (Ne.symm (tne_12_62 t3))
        have q499 : h30 62 1 = h 62 1 := f32 62 1 (by decide +kernel)
        have q500 : h491 (r1 + 11) 2 = (1 + (h (r1 + 11) 2)) := by rw [← e493]; exact x_up_at
        have e501 : cl9 h491 = (1 + (h (r1 + 11) 2)) := (congrArg (fun z => h491 z 2) (((q497.trans q498).trans q499).trans q2)).trans q500
        have q502 : h491 1 2 = h484 1 2 := by rw [← e493]; exact x_up_k (Ne.symm (tne_11_1 t3))
        have q503 : h484 1 2 = h30 1 2 := by rw [← e486]; exact x_up_k (Ne.symm (tne_12_1 t3))
        obtain ⟨w504, e505⟩ := Tk.yes c36 (by first | decide | omega)
        have q506 : h491 1 2 = h484 1 2 := by rw [← e493]; exact x_up_k (Ne.symm (tne_11_1 t3))
        have q507 : h484 1 2 = h30 1 2 := by rw [← e486]; exact x_up_k (Ne.symm (tne_12_1 t3))
        refine x_retI (np := 140) (x := 0) (by decide +kernel) (by decide) (Or.inr ⟨by decide +kernel, by first | decide | omega, by first | decide | omega⟩) ⟨_, rfl, (by decide), ?_⟩
        exact ⟨j492, f494, (by first | decide | omega), (fun z => by first | decide | omega), (fun z => by first | decide | omega), (gA_own w504 rfl e505 (by first | decide | omega) (show h30 1 2 = h491 1 2 by first | decide | omega)), (fun z => absurd z (by first | decide | omega))⟩
      have q478 : ¬ ((h (r1 + 11) 2) < 2147484048) := q478
      exfalso; omega
    have q25 : ¬ (v17 = 2147483648) := q25
    have b508 := c20 (by first | decide | omega)
    refine x_iload (np := 72) (x := 1) (by decide +kernel) rfl (by decide) ?_
    refine x_const (np := 74) (x := 9223372064772063238) (a := 2147483654) (by decide +kernel) (by decide) (by decide) ?_
    refine x_icmp (k := 3) (tg := 115) (np := 77) (by decide +kernel) (by decide) (by decide) (by decide) (fun q509 => ?_) (fun q510 => ?_)
    · have q509 : 2147483654 ≤ 2147483653 := q509
      exfalso; omega
    have q510 : ¬ (2147483654 ≤ 2147483653) := q510
    refine x_aload (np := 78) (x := 0) (by decide +kernel) rfl (x_nc_le (by decide)) ?_
    have q511 : h 62 0 = 1 := by have z := jB (e := 0) 0 hJ rg_62_0_0_1 (by decide) (by decide); omega
    refine x_getR (np := 81) (x := 192) (f := 0) (q := 1) (by decide +kernel) (by decide) (by decide +kernel) q511 ?_
    refine x_const (np := 83) (x := 9223372210800951336) (a := 2147483688) (by decide +kernel) (by decide) (by decide) ?_
    refine x_cI (t := 6) (mj := 76) (n := 2) (rc := 8) (ml := 2) (nr := 0) (np := 86) (as := [x_r 1, iv_c 2147483688]) (rest := []) (lo1 := [x_r 1, iv_c 2147483688]) (by decide +kernel) (by decide) (by decide +kernel) (x_rb_of (by decide +kernel)) rfl rfl (x_wr (by decide) (x_wi (by decide) x_wn)) x_wn (by decide) rfl (c76_1 hJ  (by first | decide | omega) hT) (fun v512 h515 l513 q514 => ?_)
    obtain ⟨j516, f517, b518, c519, c520, c521⟩ := q514
    have f522 := Fr.trans hF f517 (by decide)
    have b523 := jB (e := 2) 0 j516 rg_1_2_0_1 (by first | decide | omega) (by first | decide | omega)
    refine x_ifz (k := 0) (tg := 115) (np := 89) (by decide +kernel) (by decide) l513 (fun q524 => ?_) (fun q525 => ?_)
    · have q524 : v512 = 2147483648 := q524
      have b526 := c520 (by first | decide | omega)
      refine x_const (np := 116) (x := 9223372039002259456) (a := 2147483648) (by decide +kernel) (by decide) (by decide) ?_
      have q527 : h515 62 1 = h 62 1 := f517 62 1 (by decide +kernel)
      have q528 : h515 (r1 + 11) 2 = h (r1 + 11) 2 := jK 0 f517 (rg_T11_2_0_1 t3) (by first | decide | omega) (by first | decide | omega) (by decide)
      have e529 : cl9 h515 = (h (r1 + 11) 2) := (congrArg (fun z => h515 z 2) (q527.trans q2)).trans q528
      obtain ⟨w530, e531⟩ := Tk.no c521 (by first | decide | omega)
      obtain ⟨w532, e533⟩ := Tk.no c521 (by first | decide | omega)
      refine x_retI (np := 117) (x := 0) (by decide +kernel) (by decide) (Or.inr ⟨by decide +kernel, by first | decide | omega, by first | decide | omega⟩) ⟨_, rfl, (by decide), ?_⟩
      exact ⟨j516, f522, (by first | decide | omega), (fun z => by first | decide | omega), (fun z => by first | decide | omega), (absurd (Is.yes c21 (by first | decide | omega)) w530), (fun _ => absurd (Is.yes c21 (by first | decide | omega)) w532)⟩
    have q525 : ¬ (v512 = 2147483648) := q525
    have b534 := c519 (by first | decide | omega)
    refine x_aload (np := 90) (x := 0) (by decide +kernel) rfl (x_nc_le (by decide)) ?_
    refine x_iload (np := 91) (x := 1) (by decide +kernel) rfl (by decide) ?_
    refine x_const (np := 92) (x := 9223372043297226753) (a := 2147483649) (by decide +kernel) (by decide) (by decide) ?_
    refine x_iadd (np := 93) (x := 0) (v := 2147483654) (by decide +kernel) (by decide) (by decide) (by first | decide | omega) (by first | decide | omega) ?_
    have q535 : h515 62 1 = h 62 1 := f517 62 1 (by decide +kernel)
    have q536 : h515 (r1 + 11) 2 = h (r1 + 11) 2 := jK 0 f517 (rg_T11_2_0_1 t3) (by first | decide | omega) (by first | decide | omega) (by decide)
    have e537 : cl9 h515 = (h (r1 + 11) 2) := (congrArg (fun z => h515 z 2) (q535.trans q2)).trans q536
    have m541 := Tp.fr hT f517 (by decide) (by decide)
    refine x_cI (t := 6) (mj := 46) (n := 2) (rc := 4) (ml := 3) (nr := 0) (np := 96) (as := [x_r 62, iv_c 2147483654]) (rest := []) (lo1 := [x_r 62, iv_c 2147483654, 147573952589676412928]) (by decide +kernel) (by decide) (by decide +kernel) (x_rb_of (by decide +kernel)) rfl rfl (x_wr (by decide) (x_wi (by decide) x_wn)) x_wn (by decide) rfl (c46_62_c6 j516   (by first | decide | omega) m541) (fun v538 h542 l539 q540 => ?_)
    obtain ⟨j543, f544, b545, c546, c547, c548, c549⟩ := q540
    have f550 := Fr.trans f522 f544 (by decide)
    have b551 := jB (e := 2) 0 j543 rg_1_2_0_1 (by first | decide | omega) (by first | decide | omega)
    have q552 : h515 62 1 = h 62 1 := f517 62 1 (by decide +kernel)
    have q553 : h515 (r1 + 11) 2 = h (r1 + 11) 2 := jK 0 f517 (rg_T11_2_0_1 t3) (by first | decide | omega) (by first | decide | omega) (by decide)
    have q554 : h542 62 1 = h515 62 1 := f544 62 1 (by decide +kernel)
    have q555 : h515 62 1 = h 62 1 := f517 62 1 (by decide +kernel)
    have b556 := jB (e := 2) 0 j543 (rg_T11_2_0_1 t3) (by first | decide | omega) (by first | decide | omega)
    have e557 : cl9 h542 = (h542 (r1 + 11) 2) := (congrArg (fun z => h542 z 2) ((q554.trans q555).trans q2)).trans rfl
    refine x_ifz (k := 0) (tg := 115) (np := 99) (by decide +kernel) (by decide) l539 (fun q558 => ?_) (fun q559 => ?_)
    · have q558 : v538 = 2147483648 := q558
      refine x_const (np := 116) (x := 9223372039002259456) (a := 2147483648) (by decide +kernel) (by decide) (by decide) ?_
      have q560 : h542 62 1 = h515 62 1 := f544 62 1 (by decide +kernel)
      have q561 : h515 62 1 = h 62 1 := f517 62 1 (by decide +kernel)
      obtain ⟨w562, e563⟩ := Tk.yes c521 (by first | decide | omega)
      obtain ⟨w564, e565⟩ := Tk.yes c521 (by first | decide | omega)
      refine x_retI (np := 117) (x := 0) (by decide +kernel) (by decide) (Or.inr ⟨by decide +kernel, by first | decide | omega, by first | decide | omega⟩) ⟨_, rfl, (by decide), ?_⟩
      exact ⟨j543, f550, (by first | decide | omega), (fun z => by first | decide | omega), (fun z => by first | decide | omega), (gA_par0 w562 rfl e563 (by decide) c548 rfl (by first | decide | omega) (by first | decide | omega)), (fun _ => fA_par0 w564 rfl e565 (by decide) (c549 (by first | decide | omega)) rfl rfl)⟩
    have q559 : ¬ (v538 = 2147483648) := q559
    have b566 := c546 (by first | decide | omega)
    have b567 := c547 (by first | decide | omega)
    refine x_aload (np := 100) (x := 0) (by decide +kernel) rfl (x_nc_le (by decide)) ?_
    have q568 : h542 62 0 = 1 := by have z := jB (e := 0) 0 j543 rg_62_0_0_1 (by decide) (by decide); omega
    refine x_getR (np := 103) (x := 192) (f := 0) (q := 1) (by decide +kernel) (by decide) (by decide +kernel) q568 ?_
    refine x_const (np := 105) (x := 9223372215095918633) (a := 2147483689) (by decide +kernel) (by decide) (by decide) ?_
    have m572 := Tp.fr m541 f544 (by decide) (by decide)
    refine x_cI (t := 6) (mj := 76) (n := 2) (rc := 8) (ml := 2) (nr := 0) (np := 108) (as := [x_r 1, iv_c 2147483689]) (rest := []) (lo1 := [x_r 1, iv_c 2147483689]) (by decide +kernel) (by decide) (by decide +kernel) (x_rb_of (by decide +kernel)) rfl rfl (x_wr (by decide) (x_wi (by decide) x_wn)) x_wn (by decide) rfl (c76_1 j543  (by first | decide | omega) m572) (fun v569 h573 l570 q571 => ?_)
    obtain ⟨j574, f575, b576, c577, c578, c579⟩ := q571
    have f580 := Fr.trans f550 f575 (by decide)
    have b581 := jB (e := 2) 0 j574 rg_1_2_0_1 (by first | decide | omega) (by first | decide | omega)
    refine x_ifz (k := 0) (tg := 115) (np := 111) (by decide +kernel) (by decide) l570 (fun q582 => ?_) (fun q583 => ?_)
    · have q582 : v569 = 2147483648 := q582
      have b584 := c578 (by first | decide | omega)
      refine x_const (np := 116) (x := 9223372039002259456) (a := 2147483648) (by decide +kernel) (by decide) (by decide) ?_
      have q585 : h573 62 1 = h542 62 1 := f575 62 1 (by decide +kernel)
      have q586 : h542 62 1 = h515 62 1 := f544 62 1 (by decide +kernel)
      have q587 : h515 62 1 = h 62 1 := f517 62 1 (by decide +kernel)
      have q588 : h573 (r1 + 11) 2 = h542 (r1 + 11) 2 := jK 0 f575 (rg_T11_2_0_1 t3) (by first | decide | omega) (by first | decide | omega) (by decide)
      have e589 : cl9 h573 = (h542 (r1 + 11) 2) := (congrArg (fun z => h573 z 2) (((q585.trans q586).trans q587).trans q2)).trans q588
      obtain ⟨w590, e591⟩ := Tk.yes c521 (by first | decide | omega)
      obtain ⟨w592, e593⟩ := Tk.yes c521 (by first | decide | omega)
      refine x_retI (np := 117) (x := 0) (by decide +kernel) (by decide) (Or.inr ⟨by decide +kernel, by first | decide | omega, by first | decide | omega⟩) ⟨_, rfl, (by decide), ?_⟩
      exact ⟨j574, f580, (by first | decide | omega), (fun z => by first | decide | omega), (fun z => by first | decide | omega), (gA_parT w590 rfl e591 (by decide) c548 rfl (by first | decide | omega) c579 rfl (by first | decide | omega) (fun z => absurd z (by first | decide | omega))), (fun _ => fA_par1 w592 rfl e593 (by decide) c548 rfl (by first | decide | omega) (Tk.no c579 (by first | decide | omega)).1 rfl (show h573 1 2 = h542 1 2 by first | decide | omega))⟩
    have q583 : ¬ (v569 = 2147483648) := q583
    have b594 := c577 (by first | decide | omega)
    refine x_const (np := 112) (x := 9223372043297226753) (a := 2147483649) (by decide +kernel) (by decide) (by decide) ?_
    refine x_goto (np := 115) (x := 116) (by decide +kernel) ?_
    have q595 : h573 62 1 = h542 62 1 := f575 62 1 (by decide +kernel)
    have q596 : h542 62 1 = h515 62 1 := f544 62 1 (by decide +kernel)
    have q597 : h515 62 1 = h 62 1 := f517 62 1 (by decide +kernel)
    have q598 : h573 (r1 + 11) 2 = h542 (r1 + 11) 2 := jK 0 f575 (rg_T11_2_0_1 t3) (by first | decide | omega) (by first | decide | omega) (by decide)
    have e599 : cl9 h573 = (h542 (r1 + 11) 2) := (congrArg (fun z => h573 z 2) (((q595.trans q596).trans q597).trans q2)).trans q598
    obtain ⟨w600, e601⟩ := Tk.yes c521 (by first | decide | omega)
    refine x_retI (np := 117) (x := 0) (by decide +kernel) (by decide) (Or.inr ⟨by decide +kernel, by first | decide | omega, by first | decide | omega⟩) ⟨_, rfl, (by decide), ?_⟩
    exact ⟨j574, f580, (by first | decide | omega), (fun z => by first | decide | omega), (fun z => by first | decide | omega), (gA_parT w600 rfl e601 (by decide) c548 rfl (by first | decide | omega) c579 rfl (by first | decide | omega) (fun z => rfl)), (fun z => absurd z (by first | decide | omega))⟩
  have q15 : ¬ (v8 = 2147483648) := q15
  have b602 := c11 (by first | decide | omega)
  refine x_iload (np := 13) (x := 1) (by decide +kernel) rfl (by decide) ?_
  refine x_const (np := 15) (x := 9223372064772063238) (a := 2147483654) (by decide +kernel) (by decide) (by decide) ?_
  refine x_icmp (k := 3) (tg := 57) (np := 18) (by decide +kernel) (by decide) (by decide) (by decide) (fun q603 => ?_) (fun q604 => ?_)
  · have q603 : 2147483654 ≤ 2147483653 := q603
    exfalso; omega
  have q604 : ¬ (2147483654 ≤ 2147483653) := q604
  refine x_aload (np := 19) (x := 0) (by decide +kernel) rfl (x_nc_le (by decide)) ?_
  have q605 : h 62 0 = 1 := by have z := jB (e := 0) 0 hJ rg_62_0_0_1 (by decide) (by decide); omega
  refine x_getR (np := 22) (x := 192) (f := 0) (q := 1) (by decide +kernel) (by decide) (by decide +kernel) q605 ?_
  refine x_ldcB (i := 24) (idx := 71) (tx := "not") (by rw [tb_y48]; exact List.mem_of_getElem? (i := 24) rfl) (by decide) (by rw [tb_b48]; decide +kernel) ?_
  refine x_cI (t := 6) (mj := 78) (n := 2) (rc := 8) (ml := 2) (nr := 0) (np := 27) (as := [x_r 1, x_b (24 + 1)]) (rest := []) (lo1 := [x_r 1, x_b (24 + 1)]) (by decide +kernel) (by decide) (by decide +kernel) (x_rb_of (by decide +kernel)) rfl rfl (x_wr (by decide) (x_wB (by decide) x_wn)) x_wn (by decide) rfl (c78_1_S0 hJ  (by decide) hT) (fun v606 h609 l607 q608 => ?_)
  obtain ⟨j610, f611, b612, c613, c614, c615⟩ := q608
  have f616 := Fr.trans hF f611 (by decide)
  have b617 := jB (e := 2) 0 j610 rg_1_2_0_1 (by first | decide | omega) (by first | decide | omega)
  have b618 : iv_tl 24 = 3 := by decide
  refine x_ifz (k := 0) (tg := 57) (np := 30) (by decide +kernel) (by decide) l607 (fun q619 => ?_) (fun q620 => ?_)
  · have q619 : v606 = 2147483648 := q619
    have b621 := c614 (by first | decide | omega)
    refine x_const (np := 58) (x := 9223372039002259456) (a := 2147483648) (by decide +kernel) (by decide) (by decide) ?_
    have q622 : h609 62 1 = h 62 1 := f611 62 1 (by decide +kernel)
    have q623 : h609 (r1 + 11) 2 = h (r1 + 11) 2 := jK 0 f611 (rg_T11_2_0_1 t3) (by first | decide | omega) (by first | decide | omega) (by decide)
    have e624 : cl9 h609 = (h (r1 + 11) 2) := (congrArg (fun z => h609 z 2) (q622.trans q2)).trans q623
    obtain ⟨w625, e626⟩ := Tk.no c615 (by first | decide | omega)
    obtain ⟨w627, e628⟩ := Tk.no c615 (by first | decide | omega)
    refine x_retI (np := 59) (x := 0) (by decide +kernel) (by decide) (Or.inr ⟨by decide +kernel, by first | decide | omega, by first | decide | omega⟩) ⟨_, rfl, (by decide), ?_⟩
    exact ⟨j610, f616, (by first | decide | omega), (fun z => by first | decide | omega), (fun z => by first | decide | omega), (absurd (Is.yes c12 (by first | decide | omega)) w625), (fun _ => absurd (Is.yes c12 (by first | decide | omega)) w627)⟩
  have q620 : ¬ (v606 = 2147483648) := q620
  have b629 := c613 (by first | decide | omega)
  refine x_aload (np := 31) (x := 0) (by decide +kernel) rfl (x_nc_le (by decide)) ?_
  refine x_iload (np := 32) (x := 1) (by decide +kernel) rfl (by decide) ?_
  refine x_const (np := 33) (x := 9223372043297226753) (a := 2147483649) (by decide +kernel) (by decide) (by decide) ?_
  refine x_iadd (np := 34) (x := 0) (v := 2147483654) (by decide +kernel) (by decide) (by decide) (by first | decide | omega) (by first | decide | omega) ?_
  have q630 : h609 62 1 = h 62 1 := f611 62 1 (by decide +kernel)
  have q631 : h609 (r1 + 11) 2 = h (r1 + 11) 2 := jK 0 f611 (rg_T11_2_0_1 t3) (by first | decide | omega) (by first | decide | omega) (by decide)
  have e632 : cl9 h609 = (h (r1 + 11) 2) := (congrArg (fun z => h609 z 2) (q630.trans q2)).trans q631
  have m636 := Tp.fr hT f611 (by decide) (by decide)
  refine x_cI (t := 6) (mj := 48) (n := 2) (rc := 4) (ml := 2) (nr := 0) (np := 37) (as := [x_r 62, iv_c 2147483654]) (rest := []) (lo1 := [x_r 62, iv_c 2147483654]) (by decide +kernel) (by decide) (by decide +kernel) (x_rb_of (by decide +kernel)) rfl rfl (x_wr (by decide) (x_wi (by decide) x_wn)) x_wn (by decide) rfl (c48_62_c6 j610   (by first | decide | omega) m636) (fun v633 h637 l634 q635 => ?_)
  obtain ⟨j638, f639, b640, c641, c642, c643, c644⟩ := q635
  have f645 := Fr.trans f616 f639 (by decide)
  have b646 := jB (e := 2) 0 j638 rg_1_2_0_1 (by first | decide | omega) (by first | decide | omega)
  have q647 : h609 62 1 = h 62 1 := f611 62 1 (by decide +kernel)
  have q648 : h609 (r1 + 11) 2 = h (r1 + 11) 2 := jK 0 f611 (rg_T11_2_0_1 t3) (by first | decide | omega) (by first | decide | omega) (by decide)
  have q649 : h637 62 1 = h609 62 1 := f639 62 1 (by decide +kernel)
  have q650 : h609 62 1 = h 62 1 := f611 62 1 (by decide +kernel)
  have b651 := jB (e := 2) 0 j638 (rg_T11_2_0_1 t3) (by first | decide | omega) (by first | decide | omega)
  have e652 : cl9 h637 = (h637 (r1 + 11) 2) := (congrArg (fun z => h637 z 2) ((q649.trans q650).trans q2)).trans rfl
  refine x_ifz (k := 0) (tg := 57) (np := 40) (by decide +kernel) (by decide) l634 (fun q653 => ?_) (fun q654 => ?_)
  · have q653 : v633 = 2147483648 := q653
    refine x_const (np := 58) (x := 9223372039002259456) (a := 2147483648) (by decide +kernel) (by decide) (by decide) ?_
    have q655 : h637 62 1 = h609 62 1 := f639 62 1 (by decide +kernel)
    have q656 : h609 62 1 = h 62 1 := f611 62 1 (by decide +kernel)
    obtain ⟨w657, e658⟩ := Tk.yes c615 (by first | decide | omega)
    obtain ⟨w659, e660⟩ := Tk.yes c615 (by first | decide | omega)
    refine x_retI (np := 59) (x := 0) (by decide +kernel) (by decide) (Or.inr ⟨by decide +kernel, by first | decide | omega, by first | decide | omega⟩) ⟨_, rfl, (by decide), ?_⟩
    exact ⟨j638, f645, (by first | decide | omega), (fun z => by first | decide | omega), (fun z => by first | decide | omega), (gA_not w657 rfl e658 (by decide) c643 rfl (by first | decide | omega) (fun z => absurd z (by first | decide | omega))), (fun _ => fA_not w659 rfl e660 (by decide) (c644 (by first | decide | omega)) rfl rfl)⟩
  have q654 : ¬ (v633 = 2147483648) := q654
  have b661 := c641 (by first | decide | omega)
  have b662 := c642 (by first | decide | omega)
  refine x_aload (np := 41) (x := 0) (by decide +kernel) rfl (x_nc_le (by decide)) ?_
  have q663 : h637 62 1 = h609 62 1 := f639 62 1 (by decide +kernel)
  have q664 : h609 62 1 = h 62 1 := f611 62 1 (by decide +kernel)
  refine x_getR (np := 44) (x := 193) (f := 1) (q := (r1 + 11)) (by decide +kernel) (by decide) (by decide +kernel) ((q663.trans q664).trans q2) ?_
  refine x_const (np := 47) (x := 9223380641821755347) (a := 2147485651) (by decide +kernel) (by decide) (by decide) ?_
  refine x_nI (t := 6) (mj := 36) (n := 2) (rc := 3) (ml := 2) (nr := 0) (np := 50) (as := [x_r (r1 + 11), iv_c 2147485651]) (rest := []) (lo1 := [x_r (r1 + 11), iv_c 2147485651]) (by decide +kernel) (by decide) (by decide +kernel) (x_rb_of (tr_11_3 t3)) rfl rfl (x_wr (tn_11 t3) (x_wi (by decide) x_wn)) x_wn (by decide) rfl ?_
  refine x_aload (np := 1) (x := 0) (by decide +kernel) rfl (x_nc_le (tn_11 t3)) ?_
  refine x_getC (np := 4) (x := 130) (f := 2) (q := (h637 (r1 + 11) 2)) (by decide +kernel) (by decide) (tg_11_130_2_0 t3) rfl (fun l665 => ?_)
  refine x_const (np := 7) (x := 9223373756989178256) (a := 2147484048) (by decide +kernel) (by decide) (by decide) ?_
  refine x_icmp (k := 2) (tg := 12) (np := 10) (by decide +kernel) (by decide) l665 (by decide) (fun q666 => ?_) (fun q667 => ?_)
  · have q666 : (h637 (r1 + 11) 2) < 2147484048 := q666
    refine x_aload (np := 13) (x := 0) (by decide +kernel) rfl (x_nc_le (tn_11 t3)) ?_
    have q668 : h637 (r1 + 11) 0 = (r1 + 12) := tf_11_0 j638 t3
    refine x_getR (np := 16) (x := 128) (f := 0) (q := (r1 + 12)) (by decide +kernel) (by decide) (tg_11_128_0_1 t3) q668 ?_
    refine x_aload (np := 17) (x := 0) (by decide +kernel) rfl (x_nc_le (tn_11 t3)) ?_
    refine x_getC (np := 20) (x := 130) (f := 2) (q := (h637 (r1 + 11) 2)) (by decide +kernel) (by decide) (tg_11_130_2_0 t3) rfl (fun l669 => ?_)
    refine x_iload (np := 21) (x := 1) (by decide +kernel) rfl (by decide) ?_
    obtain ⟨u670, q671⟩ : ∃ z, (h637 (r1 + 11) 2) = 2147483648 + z := ⟨(h637 (r1 + 11) 2) - 2147483648, by first | decide | omega⟩
    refine x_ast (np := 22) (x := 0) (kd := 1) (n := 400) (i := u670) (by decide +kernel) (Or.inl rfl) (ta_12_400 t3) (by first | decide | omega) (by first | decide | omega) (by decide) (by decide) (fun z => absurd z (by decide)) ?_
    have j673 := jU (e := u670) (v := 2147485651) u670 j638 (rg_T12_0_1_400 t3) (by first | decide | omega) (by first | decide | omega) (by first | decide | omega)
    have f675 := jF (e := u670) (v := 2147485651) u670 f645 (rg_T12_0_1_400 t3) (by first | decide | omega) (by first | decide | omega) (by decide)
    generalize e674 : x_up h637 (r1 + 12) u670 2147485651 = h672 at j673 f675 ⊢
    refine x_aload (np := 23) (x := 0) (by decide +kernel) rfl (x_nc_le (tn_11 t3)) ?_
    refine x_dup (np := 24) (x := 0) (by decide +kernel) (by have z := x_nc_le (k := (r1 + 11)) (tn_11 t3); unfold x_r; omega) ?_
    have q676 : h672 (r1 + 11) 2 = h637 (r1 + 11) 2 := by rw [← e674]; exact x_up_k tof_11_12
    refine x_getC (np := 27) (x := 130) (f := 2) (q := (h637 (r1 + 11) 2)) (by decide +kernel) (by decide) (tg_11_130_2_0 t3) q676 (fun l677 => ?_)
    refine x_const (np := 28) (x := 9223372043297226753) (a := 2147483649) (by decide +kernel) (by decide) (by decide) ?_
    refine x_iadd (np := 29) (x := 0) (v := (1 + (h637 (r1 + 11) 2))) (by decide +kernel) l665 (by decide) (by first | decide | omega) (by first | decide | omega) ?_
    refine x_putI (np := 32) (x := 130) (f := 2) (by decide +kernel) (tg_11_130_2_0 t3) (by first | decide | omega) (Or.inl (by decide)) ?_
    have j679 := jU (e := 2) (v := (1 + (h637 (r1 + 11) 2))) 0 j673 (rg_T11_2_0_1 t3) (by first | decide | omega) (by first | decide | omega) (by first | decide | omega)
    have f681 := jF (e := 2) (v := (1 + (h637 (r1 + 11) 2))) 0 f675 (rg_T11_2_0_1 t3) (by first | decide | omega) (by first | decide | omega) (by decide)
    generalize e680 : x_up h672 (r1 + 11) 2 (1 + (h637 (r1 + 11) 2)) = h678 at j679 f681 ⊢
    refine x_const (np := 33) (x := 9223372043297226753) (a := 2147483649) (by decide +kernel) (by decide) (by decide) ?_
    refine x_retI (np := 34) (x := 0) (by decide +kernel) (by decide) (Or.inr ⟨by decide +kernel, by first | decide | omega, by first | decide | omega⟩) ⟨_, rfl, (by decide), ?_⟩
    refine x_ifz (k := 0) (tg := 57) (np := 53) (by decide +kernel) (by decide) (by decide) (fun q682 => ?_) (fun q683 => ?_)
    · have q682 : 2147483649 = 2147483648 := q682
      exfalso; omega
    have q683 : ¬ (2147483649 = 2147483648) := q683
    refine x_const (np := 54) (x := 9223372043297226753) (a := 2147483649) (by decide +kernel) (by decide) (by decide) ?_
    refine x_goto (np := 57) (x := 58) (by decide +kernel) ?_
    have q684 : h678 1 2 = h672 1 2 := by rw [← e680]; exact x_up_k (Ne.symm (tne_11_1 t3))
    have q685 : h672 1 2 = h637 1 2 := by rw [← e674]; exact x_up_k (Ne.symm (tne_12_1 t3))
    have q686 : h678 62 1 = h672 62 1 := by rw [← e680]; exact x_up_k (Ne.symm (tne_11_62 t3))
    have q687 : h672 62 1 = h637 62 1 := by rw [← e674]; exact x_up_k (Ne.symm (tne_12_62 t3))
    have q688 : h637 62 1 = h609 62 1 := f639 62 1 (by decide +kernel)
    have q689 : h609 62 1 = h 62 1 := f611 62 1 (by decide +kernel)
    have q690 : h678 (r1 + 11) 2 = (1 + (h637 (r1 + 11) 2)) := by rw [← e680]; exact x_up_at
    have e691 : cl9 h678 = (1 + (h637 (r1 + 11) 2)) := (congrArg (fun z => h678 z 2) ((((q686.trans q687).trans q688).trans q689).trans q2)).trans q690
    have q692 : h678 1 2 = h672 1 2 := by rw [← e680]; exact x_up_k (Ne.symm (tne_11_1 t3))
    have q693 : h672 1 2 = h637 1 2 := by rw [← e674]; exact x_up_k (Ne.symm (tne_12_1 t3))
    obtain ⟨w694, e695⟩ := Tk.yes c615 (by first | decide | omega)
    have q696 : h678 1 2 = h672 1 2 := by rw [← e680]; exact x_up_k (Ne.symm (tne_11_1 t3))
    have q697 : h672 1 2 = h637 1 2 := by rw [← e674]; exact x_up_k (Ne.symm (tne_12_1 t3))
    refine x_retI (np := 59) (x := 0) (by decide +kernel) (by decide) (Or.inr ⟨by decide +kernel, by first | decide | omega, by first | decide | omega⟩) ⟨_, rfl, (by decide), ?_⟩
    exact ⟨j679, f681, (by first | decide | omega), (fun z => by first | decide | omega), (fun z => by first | decide | omega), (gA_not w694 rfl e695 (by decide) c643 rfl (by first | decide | omega) (fun z => (show h637 1 2 = h678 1 2 by first | decide | omega))), (fun z => absurd z (by first | decide | omega))⟩
  have q667 : ¬ ((h637 (r1 + 11) 2) < 2147484048) := q667
  refine x_const (np := 11) (x := 9223372039002259456) (a := 2147483648) (by decide +kernel) (by decide) (by decide) ?_
  refine x_retI (np := 12) (x := 0) (by decide +kernel) (by decide) (Or.inr ⟨by decide +kernel, by first | decide | omega, by first | decide | omega⟩) ⟨_, rfl, (by decide), ?_⟩
  refine x_ifz (k := 0) (tg := 57) (np := 53) (by decide +kernel) (by decide) (by decide) (fun q698 => ?_) (fun q699 => ?_)
  · have q698 : 2147483648 = 2147483648 := q698
    refine x_const (np := 58) (x := 9223372039002259456) (a := 2147483648) (by decide +kernel) (by decide) (by decide) ?_
    have q700 : h637 62 1 = h609 62 1 := f639 62 1 (by decide +kernel)
    have q701 : h609 62 1 = h 62 1 := f611 62 1 (by decide +kernel)
    obtain ⟨w702, e703⟩ := Tk.yes c615 (by first | decide | omega)
    obtain ⟨w704, e705⟩ := Tk.yes c615 (by first | decide | omega)
    refine x_retI (np := 59) (x := 0) (by decide +kernel) (by decide) (Or.inr ⟨by decide +kernel, by first | decide | omega, by first | decide | omega⟩) ⟨_, rfl, (by decide), ?_⟩
    exact ⟨j638, f645, (by first | decide | omega), (fun z => by first | decide | omega), (fun z => by first | decide | omega), (gA_not w702 rfl e703 (by decide) c643 rfl (by first | decide | omega) (fun z => rfl)), (fun _ => fA_not w704 rfl e705 (by decide) (c644 (by first | decide | omega)) rfl rfl)⟩
  have q699 : ¬ (2147483648 = 2147483648) := q699
  exfalso; omega
set_option maxHeartbeats 0 in
/-- LentNames$CustomReader.readAll(I)Z -/
theorem c47_62_c5 {sc : Nat × Nat} {d  : Nat} {h : xh} {tB : Nat → Nat} {tN : Nat} (hJ : J h) (hr0 : (cl9 h) + 5 ≤ (h 1 2)) (hT : Tp tB tN h) : X sc 47 (d + 12) (xI fun r h' => J h' ∧ Fr 161 h h' ∧ (2147483648 ≤ r ∧ r ≤ 2147483649) ∧ (r = 2147483649 → h 1 2 + 1 ≤ h' 1 2) ∧ (r = 2147483649 → cl9 h' + h 1 2 ≤ h' 1 2 + cl9 h) ∧ G tB tN (Kd.seq 1) 5 (h 1 2) (rs r (h' 1 2)) ∧ (r = 2147483648 → GF tB tN (Kd.seq 1) 5 (h 1 2) (h' 1 2))) 0 0 0 [x_r 62, iv_c 2147483653, 147573952589676412928] [] h := by
  have hF := Fr.refl 161 h
  obtain ⟨r1, q2, t3⟩ : ∃ z, (h 62 1) = z + 11 ∧ tw z := by
    rcases hJ.2.2.2.2.2.2.2 with z | z
    · exact ⟨17, by rw [z], Or.inl rfl⟩
    · exact ⟨31, by rw [z], Or.inr rfl⟩
  have b4 := jB (e := 2) 0 hJ (rg_T11_2_0_1 t3) (by first | decide | omega) (by first | decide | omega)
  have e5 : cl9 h = (h (r1 + 11) 2) := (congrArg (fun z => h z 2) q2).trans rfl
  have b6 := jB (e := 2) 0 hJ rg_1_2_0_1 (by first | decide | omega) (by first | decide | omega)
  refine x_aload (np := 1) (x := 0) (by decide +kernel) rfl (x_nc_le (by decide)) ?_
  refine x_iload (np := 2) (x := 1) (by decide +kernel) rfl (by decide) ?_
  refine x_cI (t := 6) (mj := 48) (n := 2) (rc := 4) (ml := 2) (nr := 0) (np := 5) (as := [x_r 62, iv_c 2147483653]) (rest := []) (lo1 := [x_r 62, iv_c 2147483653]) (by decide +kernel) (by decide) (by decide +kernel) (x_rb_of (by decide +kernel)) rfl rfl (x_wr (by decide) (x_wi (by decide) x_wn)) x_wn (by decide) rfl (c48_62_c5 hJ   (by first | decide | omega) hT) (fun v7 h10 l8 q9 => ?_)
  obtain ⟨j11, f12, b13, c14, c15, c16, c17⟩ := q9
  have f18 := Fr.trans hF f12 (by decide)
  have b19 := jB (e := 2) 0 j11 rg_1_2_0_1 (by first | decide | omega) (by first | decide | omega)
  have q20 : h10 62 1 = h 62 1 := f12 62 1 (by decide +kernel)
  have b21 := jB (e := 2) 0 j11 (rg_T11_2_0_1 t3) (by first | decide | omega) (by first | decide | omega)
  have e22 : cl9 h10 = (h10 (r1 + 11) 2) := (congrArg (fun z => h10 z 2) (q20.trans q2)).trans rfl
  refine x_ifz (k := 1) (tg := 10) (np := 8) (by decide +kernel) (by decide) l8 (fun q23 => ?_) (fun q24 => ?_)
  · have q23 : v7 ≠ 2147483648 := q23
    have b25 := c14 (by first | decide | omega)
    have b26 := c15 (by first | decide | omega)
    refine x_const (np := 11) (x := 9223372039002259456) (a := 2147483648) (by decide +kernel) (by decide) (by decide) ?_
    refine x_istore (np := 12) (x := 2) (lo' := [x_r 62, iv_c 2147483653, iv_c 2147483648]) (by decide +kernel) (by decide) (Nat.le_of_ble_eq_true rfl) rfl ?_
    have p2088 : ∀ (n : Nat) (v2083 : Nat) (h2085 : xh), 4294967296 - v2083 < n → (2147483648 ≤ v2083 ∧ v2083 ≤ 2147484047) → cl9 h2085 + h 1 2 ≤ h2085 1 2 + cl9 h → h 1 2 + 1 ≤ h2085 1 2 → v2083 ≤ h2085 1 2 → J h2085 → Fr 161 h10 h2085 → Res tB tN (Kd.lp 1) 5 (h2085 1 2) (Kd.seq 1) 5 (h 1 2) → ResF tB tN (Kd.lp 1) 5 (h2085 1 2) (Kd.seq 1) 5 (h 1 2) → X sc 47 (d + 12) (xI fun r h' => J h' ∧ Fr 161 h h' ∧ (2147483648 ≤ r ∧ r ≤ 2147483649) ∧ (r = 2147483649 → h 1 2 + 1 ≤ h' 1 2) ∧ (r = 2147483649 → cl9 h' + h 1 2 ≤ h' 1 2 + cl9 h) ∧ G tB tN (Kd.seq 1) 5 (h 1 2) (rs r (h' 1 2)) ∧ (r = 2147483648 → GF tB tN (Kd.seq 1) 5 (h 1 2) (h' 1 2))) 0 0 12 [x_r 62, iv_c 2147483653, iv_c v2083] [] h2085 := by
      intro n
      induction n with
      | zero => intro v2083 h2085 q2094; exact absurd q2094 (Nat.not_lt_zero _)
      | succ n i2095 =>
        intro v2083 h2085 q2094 b2084 b2089 b2090 b2091 j2087 f2086 m2092 m2093
        have f2096 := Fr.trans f18 f2086 (by decide)
        have b2097 := jB (e := 2) 0 j2087 rg_1_2_0_1 (by first | decide | omega) (by first | decide | omega)
        have q2098 : h2085 62 1 = h10 62 1 := f2086 62 1 (by decide +kernel)
        have q2099 : h10 62 1 = h 62 1 := f12 62 1 (by decide +kernel)
        have b2100 := jB (e := 2) 0 j2087 (rg_T11_2_0_1 t3) (by first | decide | omega) (by first | decide | omega)
        have e2101 : cl9 h2085 = (h2085 (r1 + 11) 2) := (congrArg (fun z => h2085 z 2) ((q2098.trans q2099).trans q2)).trans rfl
        refine x_iload (np := 13) (x := 2) (by decide +kernel) rfl (by first | decide | omega) ?_
        refine x_const (np := 16) (x := 9223373756989178256) (a := 2147484048) (by decide +kernel) (by decide) (by decide) ?_
        refine x_icmp (k := 3) (tg := 60) (np := 19) (by decide +kernel) (by decide) (by first | decide | omega) (by decide) (fun q2102 => ?_) (fun q2103 => ?_)
        · have q2102 : 2147484048 ≤ v2083 := q2102
          exfalso; omega
        have q2103 : ¬ (2147484048 ≤ v2083) := q2103
        refine x_aload (np := 20) (x := 0) (by decide +kernel) rfl (x_nc_le (by decide)) ?_
        have q2104 : h2085 62 0 = 1 := by have z := jB (e := 0) 0 j2087 rg_62_0_0_1 (by decide) (by decide); omega
        refine x_getR (np := 23) (x := 192) (f := 0) (q := 1) (by decide +kernel) (by decide) (by decide +kernel) q2104 ?_
        refine x_ldcB (i := 31) (idx := 69) (tx := "and") (by rw [tb_y47]; exact List.mem_of_getElem? (i := 33) rfl) (by decide) (by rw [tb_b47]; decide +kernel) ?_
        have m2109 := Tp.fr hT f12 (by decide) (by decide)
        have m2108 := Tp.fr m2109 f2086 (by decide) (by decide)
        refine x_cI (t := 6) (mj := 78) (n := 2) (rc := 8) (ml := 2) (nr := 0) (np := 28) (as := [x_r 1, x_b (31 + 1)]) (rest := []) (lo1 := [x_r 1, x_b (31 + 1)]) (by decide +kernel) (by decide) (by decide +kernel) (x_rb_of (by decide +kernel)) rfl rfl (x_wr (by decide) (x_wB (by decide) x_wn)) x_wn (by decide) rfl (c78_1_S0 j2087  (by decide) m2108) (fun v2105 h2110 l2106 q2107 => ?_)
        obtain ⟨j2111, f2112, b2113, c2114, c2115, c2116⟩ := q2107
        have f2117 := Fr.trans f2096 f2112 (by decide)
        have f2118 := Fr.trans f2086 f2112 (by decide)
        have b2119 := jB (e := 2) 0 j2111 rg_1_2_0_1 (by first | decide | omega) (by first | decide | omega)
        have b2120 : iv_tl 31 = 3 := by decide
        refine x_ifz (k := 0) (tg := 60) (np := 31) (by decide +kernel) (by decide) l2106 (fun q2121 => ?_) (fun q2122 => ?_)
        · have q2121 : v2105 = 2147483648 := q2121
          have b2123 := c2115 (by first | decide | omega)
          refine x_const (np := 61) (x := 9223372043297226753) (a := 2147483649) (by decide +kernel) (by decide) (by decide) ?_
          have q2124 : h2110 62 1 = h2085 62 1 := f2112 62 1 (by decide +kernel)
          have q2125 : h2085 62 1 = h10 62 1 := f2086 62 1 (by decide +kernel)
          have q2126 : h10 62 1 = h 62 1 := f12 62 1 (by decide +kernel)
          have q2127 : h2110 (r1 + 11) 2 = h2085 (r1 + 11) 2 := jK 0 f2112 (rg_T11_2_0_1 t3) (by first | decide | omega) (by first | decide | omega) (by decide)
          have e2128 : cl9 h2110 = (h2085 (r1 + 11) 2) := (congrArg (fun z => h2110 z 2) (((q2124.trans q2125).trans q2126).trans q2)).trans q2127
          obtain ⟨w2129, e2130⟩ := Tk.no c2116 (by first | decide | omega)
          refine x_retI (np := 62) (x := 0) (by decide +kernel) (by decide) (Or.inr ⟨by decide +kernel, by first | decide | omega, by first | decide | omega⟩) ⟨_, rfl, (by decide), ?_⟩
          exact ⟨j2111, f2117, (by first | decide | omega), (fun z => by first | decide | omega), (fun z => by first | decide | omega), (gQ_e (t := 1) m2092 w2129 rfl (by first | decide | omega) (show h2085 1 2 = h2110 1 2 by first | decide | omega)), (fun z => absurd z (by first | decide | omega))⟩
        have q2122 : ¬ (v2105 = 2147483648) := q2122
        have b2131 := c2114 (by first | decide | omega)
        refine x_aload (np := 32) (x := 0) (by decide +kernel) rfl (x_nc_le (by decide)) ?_
        refine x_iload (np := 33) (x := 1) (by decide +kernel) rfl (by decide) ?_
        have q2132 : h2110 62 1 = h2085 62 1 := f2112 62 1 (by decide +kernel)
        have q2133 : h2085 62 1 = h10 62 1 := f2086 62 1 (by decide +kernel)
        have q2134 : h10 62 1 = h 62 1 := f12 62 1 (by decide +kernel)
        have q2135 : h2110 (r1 + 11) 2 = h2085 (r1 + 11) 2 := jK 0 f2112 (rg_T11_2_0_1 t3) (by first | decide | omega) (by first | decide | omega) (by decide)
        have e2136 : cl9 h2110 = (h2085 (r1 + 11) 2) := (congrArg (fun z => h2110 z 2) (((q2132.trans q2133).trans q2134).trans q2)).trans q2135
        have m2140 := Tp.fr m2108 f2112 (by decide) (by decide)
        refine x_cI (t := 6) (mj := 48) (n := 2) (rc := 4) (ml := 2) (nr := 0) (np := 36) (as := [x_r 62, iv_c 2147483653]) (rest := []) (lo1 := [x_r 62, iv_c 2147483653]) (by decide +kernel) (by decide) (by decide +kernel) (x_rb_of (by decide +kernel)) rfl rfl (x_wr (by decide) (x_wi (by decide) x_wn)) x_wn (by decide) rfl (c48_62_c5 j2111   (by first | decide | omega) m2140) (fun v2137 h2141 l2138 q2139 => ?_)
        obtain ⟨j2142, f2143, b2144, c2145, c2146, c2147, c2148⟩ := q2139
        have f2149 := Fr.trans f2117 f2143 (by decide)
        have f2150 := Fr.trans f2118 f2143 (by decide)
        have b2151 := jB (e := 2) 0 j2142 rg_1_2_0_1 (by first | decide | omega) (by first | decide | omega)
        have q2152 : h2110 62 1 = h2085 62 1 := f2112 62 1 (by decide +kernel)
        have q2153 : h2085 62 1 = h10 62 1 := f2086 62 1 (by decide +kernel)
        have q2154 : h10 62 1 = h 62 1 := f12 62 1 (by decide +kernel)
        have q2155 : h2110 (r1 + 11) 2 = h2085 (r1 + 11) 2 := jK 0 f2112 (rg_T11_2_0_1 t3) (by first | decide | omega) (by first | decide | omega) (by decide)
        have q2156 : h2141 62 1 = h2110 62 1 := f2143 62 1 (by decide +kernel)
        have q2157 : h2110 62 1 = h2085 62 1 := f2112 62 1 (by decide +kernel)
        have q2158 : h2085 62 1 = h10 62 1 := f2086 62 1 (by decide +kernel)
        have q2159 : h10 62 1 = h 62 1 := f12 62 1 (by decide +kernel)
        have b2160 := jB (e := 2) 0 j2142 (rg_T11_2_0_1 t3) (by first | decide | omega) (by first | decide | omega)
        have e2161 : cl9 h2141 = (h2141 (r1 + 11) 2) := (congrArg (fun z => h2141 z 2) ((((q2156.trans q2157).trans q2158).trans q2159).trans q2)).trans rfl
        refine x_ifz (k := 0) (tg := 52) (np := 39) (by decide +kernel) (by decide) l2138 (fun q2162 => ?_) (fun q2163 => ?_)
        · have q2162 : v2137 = 2147483648 := q2162
          refine x_const (np := 53) (x := 9223372039002259456) (a := 2147483648) (by decide +kernel) (by decide) (by decide) ?_
          have q2164 : h2141 62 1 = h2110 62 1 := f2143 62 1 (by decide +kernel)
          have q2165 : h2110 62 1 = h2085 62 1 := f2112 62 1 (by decide +kernel)
          have q2166 : h2085 62 1 = h10 62 1 := f2086 62 1 (by decide +kernel)
          have q2167 : h10 62 1 = h 62 1 := f12 62 1 (by decide +kernel)
          obtain ⟨w2168, e2169⟩ := Tk.yes c2116 (by first | decide | omega)
          obtain ⟨w2170, e2171⟩ := Tk.yes c2116 (by first | decide | omega)
          refine x_retI (np := 54) (x := 0) (by decide +kernel) (by decide) (Or.inr ⟨by decide +kernel, by first | decide | omega, by first | decide | omega⟩) ⟨_, rfl, (by decide), ?_⟩
          exact ⟨j2142, f2149, (by first | decide | omega), (fun z => by first | decide | omega), (fun z => by first | decide | omega), (gQ_f (t := 1) m2092 w2168 rfl e2169 c2147 rfl (by first | decide | omega) (by first | decide | omega)), (fun _ => fQ_f (t := 1) m2093 w2170 rfl e2171 (c2148 (by first | decide | omega)) rfl rfl)⟩
        have q2163 : ¬ (v2137 = 2147483648) := q2163
        have b2172 := c2145 (by first | decide | omega)
        have b2173 := c2146 (by first | decide | omega)
        refine x_aload (np := 40) (x := 0) (by decide +kernel) rfl (x_nc_le (by decide)) ?_
        have q2174 : h2141 62 1 = h2110 62 1 := f2143 62 1 (by decide +kernel)
        have q2175 : h2110 62 1 = h2085 62 1 := f2112 62 1 (by decide +kernel)
        have q2176 : h2085 62 1 = h10 62 1 := f2086 62 1 (by decide +kernel)
        have q2177 : h10 62 1 = h 62 1 := f12 62 1 (by decide +kernel)
        refine x_getR (np := 43) (x := 193) (f := 1) (q := (r1 + 11)) (by decide +kernel) (by decide) (by decide +kernel) ((((q2174.trans q2175).trans q2176).trans q2177).trans q2) ?_
        refine x_const (np := 46) (x := 9223380646116722644) (a := 2147485652) (by decide +kernel) (by decide) (by decide) ?_
        refine x_nI (t := 6) (mj := 36) (n := 2) (rc := 3) (ml := 2) (nr := 0) (np := 49) (as := [x_r (r1 + 11), iv_c 2147485652]) (rest := []) (lo1 := [x_r (r1 + 11), iv_c 2147485652]) (by decide +kernel) (by decide) (by decide +kernel) (x_rb_of (tr_11_3 t3)) rfl rfl (x_wr (tn_11 t3) (x_wi (by decide) x_wn)) x_wn (by decide) rfl ?_
        refine x_aload (np := 1) (x := 0) (by decide +kernel) rfl (x_nc_le (tn_11 t3)) ?_
        refine x_getC (np := 4) (x := 130) (f := 2) (q := (h2141 (r1 + 11) 2)) (by decide +kernel) (by decide) (tg_11_130_2_0 t3) rfl (fun l2178 => ?_)
        refine x_const (np := 7) (x := 9223373756989178256) (a := 2147484048) (by decide +kernel) (by decide) (by decide) ?_
        refine x_icmp (k := 2) (tg := 12) (np := 10) (by decide +kernel) (by decide) l2178 (by decide) (fun q2179 => ?_) (fun q2180 => ?_)
        · have q2179 : (h2141 (r1 + 11) 2) < 2147484048 := q2179
          refine x_aload (np := 13) (x := 0) (by decide +kernel) rfl (x_nc_le (tn_11 t3)) ?_
          have q2181 : h2141 (r1 + 11) 0 = (r1 + 12) := tf_11_0 j2142 t3
          refine x_getR (np := 16) (x := 128) (f := 0) (q := (r1 + 12)) (by decide +kernel) (by decide) (tg_11_128_0_1 t3) q2181 ?_
          refine x_aload (np := 17) (x := 0) (by decide +kernel) rfl (x_nc_le (tn_11 t3)) ?_
          refine x_getC (np := 20) (x := 130) (f := 2) (q := (h2141 (r1 + 11) 2)) (by decide +kernel) (by decide) (tg_11_130_2_0 t3) rfl (fun l2182 => ?_)
          refine x_iload (np := 21) (x := 1) (by decide +kernel) rfl (by decide) ?_
          obtain ⟨u2183, q2184⟩ : ∃ z, (h2141 (r1 + 11) 2) = 2147483648 + z := ⟨(h2141 (r1 + 11) 2) - 2147483648, by first | decide | omega⟩
          refine x_ast (np := 22) (x := 0) (kd := 1) (n := 400) (i := u2183) (by decide +kernel) (Or.inl rfl) (ta_12_400 t3) (by first | decide | omega) (by first | decide | omega) (by decide) (by decide) (fun z => absurd z (by decide)) ?_
          have j2186 := jU (e := u2183) (v := 2147485652) u2183 j2142 (rg_T12_0_1_400 t3) (by first | decide | omega) (by first | decide | omega) (by first | decide | omega)
          have f2188 := jF (e := u2183) (v := 2147485652) u2183 f2149 (rg_T12_0_1_400 t3) (by first | decide | omega) (by first | decide | omega) (by decide)
          have f2189 := jF (e := u2183) (v := 2147485652) u2183 f2150 (rg_T12_0_1_400 t3) (by first | decide | omega) (by first | decide | omega) (by decide)
          generalize e2187 : x_up h2141 (r1 + 12) u2183 2147485652 = h2185 at j2186 f2188 f2189 ⊢
          refine x_aload (np := 23) (x := 0) (by decide +kernel) rfl (x_nc_le (tn_11 t3)) ?_
          refine x_dup (np := 24) (x := 0) (by decide +kernel) (by have z := x_nc_le (k := (r1 + 11)) (tn_11 t3); unfold x_r; omega) ?_
          have q2190 : h2185 (r1 + 11) 2 = h2141 (r1 + 11) 2 := by rw [← e2187]; exact x_up_k tof_11_12
          refine x_getC (np := 27) (x := 130) (f := 2) (q := (h2141 (r1 + 11) 2)) (by decide +kernel) (by decide) (tg_11_130_2_0 t3) q2190 (fun l2191 => ?_)
          refine x_const (np := 28) (x := 9223372043297226753) (a := 2147483649) (by decide +kernel) (by decide) (by decide) ?_
          refine x_iadd (np := 29) (x := 0) (v := (1 + (h2141 (r1 + 11) 2))) (by decide +kernel) l2178 (by decide) (by first | decide | omega) (by first | decide | omega) ?_
          refine x_putI (np := 32) (x := 130) (f := 2) (by decide +kernel) (tg_11_130_2_0 t3) (by first | decide | omega) (Or.inl (by decide)) ?_
          have j2193 := jU (e := 2) (v := (1 + (h2141 (r1 + 11) 2))) 0 j2186 (rg_T11_2_0_1 t3) (by first | decide | omega) (by first | decide | omega) (by first | decide | omega)
          have f2195 := jF (e := 2) (v := (1 + (h2141 (r1 + 11) 2))) 0 f2188 (rg_T11_2_0_1 t3) (by first | decide | omega) (by first | decide | omega) (by decide)
          have f2196 := jF (e := 2) (v := (1 + (h2141 (r1 + 11) 2))) 0 f2189 (rg_T11_2_0_1 t3) (by first | decide | omega) (by first | decide | omega) (by decide)
          generalize e2194 : x_up h2185 (r1 + 11) 2 (1 + (h2141 (r1 + 11) 2)) = h2192 at j2193 f2195 f2196 ⊢
          refine x_const (np := 33) (x := 9223372043297226753) (a := 2147483649) (by decide +kernel) (by decide) (by decide) ?_
          refine x_retI (np := 34) (x := 0) (by decide +kernel) (by decide) (Or.inr ⟨by decide +kernel, by first | decide | omega, by first | decide | omega⟩) ⟨_, rfl, (by decide), ?_⟩
          refine x_ifz (k := 1) (tg := 54) (np := 52) (by decide +kernel) (by decide) (by decide) (fun q2197 => ?_) (fun q2198 => ?_)
          · have q2197 : 2147483649 ≠ 2147483648 := q2197
            refine x_iinc (np := 57) (i := 2) (j := 2147483649) (v := (1 + v2083)) (lo' := [x_r 62, iv_c 2147483653, iv_c (1 + v2083)]) (by decide +kernel) (by decide) (by decide) rfl (by first | decide | omega) (by first | decide | omega) (by first | decide | omega) rfl ?_
            refine x_goto (np := 60) (x := 12) (by decide +kernel) ?_
            have q2199 : h2192 1 2 = h2185 1 2 := by rw [← e2194]; exact x_up_k (Ne.symm (tne_11_1 t3))
            have q2200 : h2185 1 2 = h2141 1 2 := by rw [← e2187]; exact x_up_k (Ne.symm (tne_12_1 t3))
            have q2201 : h2192 62 1 = h2185 62 1 := by rw [← e2194]; exact x_up_k (Ne.symm (tne_11_62 t3))
            have q2202 : h2185 62 1 = h2141 62 1 := by rw [← e2187]; exact x_up_k (Ne.symm (tne_12_62 t3))
            have q2203 : h2141 62 1 = h2110 62 1 := f2143 62 1 (by decide +kernel)
            have q2204 : h2110 62 1 = h2085 62 1 := f2112 62 1 (by decide +kernel)
            have q2205 : h2085 62 1 = h10 62 1 := f2086 62 1 (by decide +kernel)
            have q2206 : h10 62 1 = h 62 1 := f12 62 1 (by decide +kernel)
            have q2207 : h2192 (r1 + 11) 2 = (1 + (h2141 (r1 + 11) 2)) := by rw [← e2194]; exact x_up_at
            have e2208 : cl9 h2192 = (1 + (h2141 (r1 + 11) 2)) := (congrArg (fun z => h2192 z 2) ((((((q2201.trans q2202).trans q2203).trans q2204).trans q2205).trans q2206).trans q2)).trans q2207
            obtain ⟨w2209, e2210⟩ := Tk.yes c2116 (by first | decide | omega)
            have q2211 : h2192 1 2 = h2185 1 2 := by rw [← e2194]; exact x_up_k (Ne.symm (tne_11_1 t3))
            have q2212 : h2185 1 2 = h2141 1 2 := by rw [← e2187]; exact x_up_k (Ne.symm (tne_12_1 t3))
            obtain ⟨w2213, e2214⟩ := Tk.yes c2116 (by first | decide | omega)
            have q2215 : h2192 1 2 = h2185 1 2 := by rw [← e2194]; exact x_up_k (Ne.symm (tne_11_1 t3))
            have q2216 : h2185 1 2 = h2141 1 2 := by rw [← e2187]; exact x_up_k (Ne.symm (tne_12_1 t3))
            exact i2095 (1 + v2083) h2192 (by first | decide | omega) (by first | decide | omega) (by first | decide | omega) (by first | decide | omega) (by first | decide | omega) j2193 f2196 (gQ_st (t := 1) m2092 w2209 rfl e2210 c2147 rfl (by first | decide | omega) (show h2141 1 2 = h2192 1 2 by first | decide | omega)) (fQ_st (t := 1) m2093 w2213 rfl e2214 c2147 rfl (by first | decide | omega) (show h2141 1 2 = h2192 1 2 by first | decide | omega))
          have q2198 : ¬ (2147483649 ≠ 2147483648) := q2198
          exfalso; omega
        have q2180 : ¬ ((h2141 (r1 + 11) 2) < 2147484048) := q2180
        refine x_const (np := 11) (x := 9223372039002259456) (a := 2147483648) (by decide +kernel) (by decide) (by decide) ?_
        refine x_retI (np := 12) (x := 0) (by decide +kernel) (by decide) (Or.inr ⟨by decide +kernel, by first | decide | omega, by first | decide | omega⟩) ⟨_, rfl, (by decide), ?_⟩
        refine x_ifz (k := 1) (tg := 54) (np := 52) (by decide +kernel) (by decide) (by decide) (fun q2217 => ?_) (fun q2218 => ?_)
        · have q2217 : 2147483648 ≠ 2147483648 := q2217
          exfalso; omega
        have q2218 : ¬ (2147483648 ≠ 2147483648) := q2218
        refine x_const (np := 53) (x := 9223372039002259456) (a := 2147483648) (by decide +kernel) (by decide) (by decide) ?_
        have q2219 : h2141 62 1 = h2110 62 1 := f2143 62 1 (by decide +kernel)
        have q2220 : h2110 62 1 = h2085 62 1 := f2112 62 1 (by decide +kernel)
        have q2221 : h2085 62 1 = h10 62 1 := f2086 62 1 (by decide +kernel)
        have q2222 : h10 62 1 = h 62 1 := f12 62 1 (by decide +kernel)
        obtain ⟨w2223, e2224⟩ := Tk.yes c2116 (by first | decide | omega)
        obtain ⟨w2225, e2226⟩ := Tk.yes c2116 (by first | decide | omega)
        refine x_retI (np := 54) (x := 0) (by decide +kernel) (by decide) (Or.inr ⟨by decide +kernel, by first | decide | omega, by first | decide | omega⟩) ⟨_, rfl, (by decide), ?_⟩
        exact ⟨j2142, f2149, (by first | decide | omega), (fun z => by first | decide | omega), (fun z => by first | decide | omega), (gQ_f (t := 1) m2092 w2223 rfl e2224 c2147 rfl (by first | decide | omega) (by first | decide | omega)), (fun _ => fQ_f (t := 1) m2093 w2225 rfl e2226 (c2148 (by first | decide | omega)) rfl rfl)⟩
    have q2227 : h10 62 1 = h 62 1 := f12 62 1 (by decide +kernel)
    exact p2088 _ 2147483648 h10 (Nat.lt_succ_self _) (by first | decide | omega) (by first | decide | omega) (by first | decide | omega) (by first | decide | omega) j11 (Fr.refl _ _) (gQ_in (t := 1) c16 rfl (by first | decide | omega) rfl) (fQ_in (t := 1) c16 rfl (by first | decide | omega) rfl)
  have q24 : ¬ (v7 ≠ 2147483648) := q24
  refine x_const (np := 9) (x := 9223372039002259456) (a := 2147483648) (by decide +kernel) (by decide) (by decide) ?_
  have q2228 : h10 62 1 = h 62 1 := f12 62 1 (by decide +kernel)
  refine x_retI (np := 10) (x := 0) (by decide +kernel) (by decide) (Or.inr ⟨by decide +kernel, by first | decide | omega, by first | decide | omega⟩) ⟨_, rfl, (by decide), ?_⟩
  exact ⟨j11, f18, (by first | decide | omega), (fun z => by first | decide | omega), (fun z => by first | decide | omega), (gQ_no (t := 1) c16 rfl (by first | decide | omega) (by first | decide | omega)), (fun _ => fQ_no (t := 1) (c17 (by first | decide | omega)) rfl rfl)⟩
set_option maxHeartbeats 0 in
/-- LentNames$CustomReader.readCondition(I)Z -/
theorem c46_62_c5 {sc : Nat × Nat} {d  : Nat} {h : xh} {tB : Nat → Nat} {tN : Nat} (hJ : J h) (hr0 : (cl9 h) + 5 ≤ (h 1 2)) (hT : Tp tB tN h) : X sc 46 (d + 13) (xI fun r h' => J h' ∧ Fr 161 h h' ∧ (2147483648 ≤ r ∧ r ≤ 2147483649) ∧ (r = 2147483649 → h 1 2 + 1 ≤ h' 1 2) ∧ (r = 2147483649 → cl9 h' + h 1 2 ≤ h' 1 2 + cl9 h) ∧ G tB tN (Kd.seq 2) 5 (h 1 2) (rs r (h' 1 2)) ∧ (r = 2147483648 → GF tB tN (Kd.seq 2) 5 (h 1 2) (h' 1 2))) 0 0 0 [x_r 62, iv_c 2147483653, 147573952589676412928] [] h := by
  have hF := Fr.refl 161 h
  obtain ⟨r1, q2, t3⟩ : ∃ z, (h 62 1) = z + 11 ∧ tw z := by
    rcases hJ.2.2.2.2.2.2.2 with z | z
    · exact ⟨17, by rw [z], Or.inl rfl⟩
    · exact ⟨31, by rw [z], Or.inr rfl⟩
  have b4 := jB (e := 2) 0 hJ (rg_T11_2_0_1 t3) (by first | decide | omega) (by first | decide | omega)
  have e5 : cl9 h = (h (r1 + 11) 2) := (congrArg (fun z => h z 2) q2).trans rfl
  have b6 := jB (e := 2) 0 hJ rg_1_2_0_1 (by first | decide | omega) (by first | decide | omega)
  refine x_aload (np := 1) (x := 0) (by decide +kernel) rfl (x_nc_le (by decide)) ?_
  refine x_iload (np := 2) (x := 1) (by decide +kernel) rfl (by decide) ?_
  refine x_cI (t := 6) (mj := 47) (n := 2) (rc := 4) (ml := 3) (nr := 0) (np := 5) (as := [x_r 62, iv_c 2147483653]) (rest := []) (lo1 := [x_r 62, iv_c 2147483653, 147573952589676412928]) (by decide +kernel) (by decide) (by decide +kernel) (x_rb_of (by decide +kernel)) rfl rfl (x_wr (by decide) (x_wi (by decide) x_wn)) x_wn (by decide) rfl (c47_62_c5 hJ   (by first | decide | omega) hT) (fun v7 h10 l8 q9 => ?_)
  obtain ⟨j11, f12, b13, c14, c15, c16, c17⟩ := q9
  have f18 := Fr.trans hF f12 (by decide)
  have b19 := jB (e := 2) 0 j11 rg_1_2_0_1 (by first | decide | omega) (by first | decide | omega)
  have q20 : h10 62 1 = h 62 1 := f12 62 1 (by decide +kernel)
  have b21 := jB (e := 2) 0 j11 (rg_T11_2_0_1 t3) (by first | decide | omega) (by first | decide | omega)
  have e22 : cl9 h10 = (h10 (r1 + 11) 2) := (congrArg (fun z => h10 z 2) (q20.trans q2)).trans rfl
  refine x_ifz (k := 1) (tg := 10) (np := 8) (by decide +kernel) (by decide) l8 (fun q23 => ?_) (fun q24 => ?_)
  · have q23 : v7 ≠ 2147483648 := q23
    have b25 := c14 (by first | decide | omega)
    have b26 := c15 (by first | decide | omega)
    refine x_const (np := 11) (x := 9223372039002259456) (a := 2147483648) (by decide +kernel) (by decide) (by decide) ?_
    refine x_istore (np := 12) (x := 2) (lo' := [x_r 62, iv_c 2147483653, iv_c 2147483648]) (by decide +kernel) (by decide) (Nat.le_of_ble_eq_true rfl) rfl ?_
    have p2088 : ∀ (n : Nat) (v2083 : Nat) (h2085 : xh), 4294967296 - v2083 < n → (2147483648 ≤ v2083 ∧ v2083 ≤ 2147484047) → cl9 h2085 + h 1 2 ≤ h2085 1 2 + cl9 h → h 1 2 + 1 ≤ h2085 1 2 → v2083 ≤ h2085 1 2 → J h2085 → Fr 161 h10 h2085 → Res tB tN (Kd.lp 2) 5 (h2085 1 2) (Kd.seq 2) 5 (h 1 2) → ResF tB tN (Kd.lp 2) 5 (h2085 1 2) (Kd.seq 2) 5 (h 1 2) → X sc 46 (d + 13) (xI fun r h' => J h' ∧ Fr 161 h h' ∧ (2147483648 ≤ r ∧ r ≤ 2147483649) ∧ (r = 2147483649 → h 1 2 + 1 ≤ h' 1 2) ∧ (r = 2147483649 → cl9 h' + h 1 2 ≤ h' 1 2 + cl9 h) ∧ G tB tN (Kd.seq 2) 5 (h 1 2) (rs r (h' 1 2)) ∧ (r = 2147483648 → GF tB tN (Kd.seq 2) 5 (h 1 2) (h' 1 2))) 0 0 12 [x_r 62, iv_c 2147483653, iv_c v2083] [] h2085 := by
      intro n
      induction n with
      | zero => intro v2083 h2085 q2094; exact absurd q2094 (Nat.not_lt_zero _)
      | succ n i2095 =>
        intro v2083 h2085 q2094 b2084 b2089 b2090 b2091 j2087 f2086 m2092 m2093
        have f2096 := Fr.trans f18 f2086 (by decide)
        have b2097 := jB (e := 2) 0 j2087 rg_1_2_0_1 (by first | decide | omega) (by first | decide | omega)
        have q2098 : h2085 62 1 = h10 62 1 := f2086 62 1 (by decide +kernel)
        have q2099 : h10 62 1 = h 62 1 := f12 62 1 (by decide +kernel)
        have b2100 := jB (e := 2) 0 j2087 (rg_T11_2_0_1 t3) (by first | decide | omega) (by first | decide | omega)
        have e2101 : cl9 h2085 = (h2085 (r1 + 11) 2) := (congrArg (fun z => h2085 z 2) ((q2098.trans q2099).trans q2)).trans rfl
        refine x_iload (np := 13) (x := 2) (by decide +kernel) rfl (by first | decide | omega) ?_
        refine x_const (np := 16) (x := 9223373756989178256) (a := 2147484048) (by decide +kernel) (by decide) (by decide) ?_
        refine x_icmp (k := 3) (tg := 60) (np := 19) (by decide +kernel) (by decide) (by first | decide | omega) (by decide) (fun q2102 => ?_) (fun q2103 => ?_)
        · have q2102 : 2147484048 ≤ v2083 := q2102
          exfalso; omega
        have q2103 : ¬ (2147484048 ≤ v2083) := q2103
        refine x_aload (np := 20) (x := 0) (by decide +kernel) rfl (x_nc_le (by decide)) ?_
        have q2104 : h2085 62 0 = 1 := by have z := jB (e := 0) 0 j2087 rg_62_0_0_1 (by decide) (by decide); omega
        refine x_getR (np := 23) (x := 192) (f := 0) (q := 1) (by decide +kernel) (by decide) (by decide +kernel) q2104 ?_
        refine x_ldcB (i := 15) (idx := 64) (tx := "or") (by rw [tb_y46]; exact List.mem_of_getElem? (i := 34) rfl) (by decide) (by rw [tb_b46]; decide +kernel) ?_
        have m2109 := Tp.fr hT f12 (by decide) (by decide)
        have m2108 := Tp.fr m2109 f2086 (by decide) (by decide)
        refine x_cI (t := 6) (mj := 78) (n := 2) (rc := 8) (ml := 2) (nr := 0) (np := 28) (as := [x_r 1, x_b (15 + 1)]) (rest := []) (lo1 := [x_r 1, x_b (15 + 1)]) (by decide +kernel) (by decide) (by decide +kernel) (x_rb_of (by decide +kernel)) rfl rfl (x_wr (by decide) (x_wB (by decide) x_wn)) x_wn (by decide) rfl (c78_1_S0 j2087  (by decide) m2108) (fun v2105 h2110 l2106 q2107 => ?_)
        obtain ⟨j2111, f2112, b2113, c2114, c2115, c2116⟩ := q2107
        have f2117 := Fr.trans f2096 f2112 (by decide)
        have f2118 := Fr.trans f2086 f2112 (by decide)
        have b2119 := jB (e := 2) 0 j2111 rg_1_2_0_1 (by first | decide | omega) (by first | decide | omega)
        have b2120 : iv_tl 15 = 2 := by decide
        refine x_ifz (k := 0) (tg := 60) (np := 31) (by decide +kernel) (by decide) l2106 (fun q2121 => ?_) (fun q2122 => ?_)
        · have q2121 : v2105 = 2147483648 := q2121
          have b2123 := c2115 (by first | decide | omega)
          refine x_const (np := 61) (x := 9223372043297226753) (a := 2147483649) (by decide +kernel) (by decide) (by decide) ?_
          have q2124 : h2110 62 1 = h2085 62 1 := f2112 62 1 (by decide +kernel)
          have q2125 : h2085 62 1 = h10 62 1 := f2086 62 1 (by decide +kernel)
          have q2126 : h10 62 1 = h 62 1 := f12 62 1 (by decide +kernel)
          have q2127 : h2110 (r1 + 11) 2 = h2085 (r1 + 11) 2 := jK 0 f2112 (rg_T11_2_0_1 t3) (by first | decide | omega) (by first | decide | omega) (by decide)
          have e2128 : cl9 h2110 = (h2085 (r1 + 11) 2) := (congrArg (fun z => h2110 z 2) (((q2124.trans q2125).trans q2126).trans q2)).trans q2127
          obtain ⟨w2129, e2130⟩ := Tk.no c2116 (by first | decide | omega)
          refine x_retI (np := 62) (x := 0) (by decide +kernel) (by decide) (Or.inr ⟨by decide +kernel, by first | decide | omega, by first | decide | omega⟩) ⟨_, rfl, (by decide), ?_⟩
          exact ⟨j2111, f2117, (by first | decide | omega), (fun z => by first | decide | omega), (fun z => by first | decide | omega), (gQ_e (t := 2) m2092 w2129 rfl (by first | decide | omega) (show h2085 1 2 = h2110 1 2 by first | decide | omega)), (fun z => absurd z (by first | decide | omega))⟩
        have q2122 : ¬ (v2105 = 2147483648) := q2122
        have b2131 := c2114 (by first | decide | omega)
        refine x_aload (np := 32) (x := 0) (by decide +kernel) rfl (x_nc_le (by decide)) ?_
        refine x_iload (np := 33) (x := 1) (by decide +kernel) rfl (by decide) ?_
        have q2132 : h2110 62 1 = h2085 62 1 := f2112 62 1 (by decide +kernel)
        have q2133 : h2085 62 1 = h10 62 1 := f2086 62 1 (by decide +kernel)
        have q2134 : h10 62 1 = h 62 1 := f12 62 1 (by decide +kernel)
        have q2135 : h2110 (r1 + 11) 2 = h2085 (r1 + 11) 2 := jK 0 f2112 (rg_T11_2_0_1 t3) (by first | decide | omega) (by first | decide | omega) (by decide)
        have e2136 : cl9 h2110 = (h2085 (r1 + 11) 2) := (congrArg (fun z => h2110 z 2) (((q2132.trans q2133).trans q2134).trans q2)).trans q2135
        have m2140 := Tp.fr m2108 f2112 (by decide) (by decide)
        refine x_cI (t := 6) (mj := 47) (n := 2) (rc := 4) (ml := 3) (nr := 0) (np := 36) (as := [x_r 62, iv_c 2147483653]) (rest := []) (lo1 := [x_r 62, iv_c 2147483653, 147573952589676412928]) (by decide +kernel) (by decide) (by decide +kernel) (x_rb_of (by decide +kernel)) rfl rfl (x_wr (by decide) (x_wi (by decide) x_wn)) x_wn (by decide) rfl (c47_62_c5 j2111   (by first | decide | omega) m2140) (fun v2137 h2141 l2138 q2139 => ?_)
        obtain ⟨j2142, f2143, b2144, c2145, c2146, c2147, c2148⟩ := q2139
        have f2149 := Fr.trans f2117 f2143 (by decide)
        have f2150 := Fr.trans f2118 f2143 (by decide)
        have b2151 := jB (e := 2) 0 j2142 rg_1_2_0_1 (by first | decide | omega) (by first | decide | omega)
        have q2152 : h2110 62 1 = h2085 62 1 := f2112 62 1 (by decide +kernel)
        have q2153 : h2085 62 1 = h10 62 1 := f2086 62 1 (by decide +kernel)
        have q2154 : h10 62 1 = h 62 1 := f12 62 1 (by decide +kernel)
        have q2155 : h2110 (r1 + 11) 2 = h2085 (r1 + 11) 2 := jK 0 f2112 (rg_T11_2_0_1 t3) (by first | decide | omega) (by first | decide | omega) (by decide)
        have q2156 : h2141 62 1 = h2110 62 1 := f2143 62 1 (by decide +kernel)
        have q2157 : h2110 62 1 = h2085 62 1 := f2112 62 1 (by decide +kernel)
        have q2158 : h2085 62 1 = h10 62 1 := f2086 62 1 (by decide +kernel)
        have q2159 : h10 62 1 = h 62 1 := f12 62 1 (by decide +kernel)
        have b2160 := jB (e := 2) 0 j2142 (rg_T11_2_0_1 t3) (by first | decide | omega) (by first | decide | omega)
        have e2161 : cl9 h2141 = (h2141 (r1 + 11) 2) := (congrArg (fun z => h2141 z 2) ((((q2156.trans q2157).trans q2158).trans q2159).trans q2)).trans rfl
        refine x_ifz (k := 0) (tg := 52) (np := 39) (by decide +kernel) (by decide) l2138 (fun q2162 => ?_) (fun q2163 => ?_)
        · have q2162 : v2137 = 2147483648 := q2162
          refine x_const (np := 53) (x := 9223372039002259456) (a := 2147483648) (by decide +kernel) (by decide) (by decide) ?_
          have q2164 : h2141 62 1 = h2110 62 1 := f2143 62 1 (by decide +kernel)
          have q2165 : h2110 62 1 = h2085 62 1 := f2112 62 1 (by decide +kernel)
          have q2166 : h2085 62 1 = h10 62 1 := f2086 62 1 (by decide +kernel)
          have q2167 : h10 62 1 = h 62 1 := f12 62 1 (by decide +kernel)
          obtain ⟨w2168, e2169⟩ := Tk.yes c2116 (by first | decide | omega)
          obtain ⟨w2170, e2171⟩ := Tk.yes c2116 (by first | decide | omega)
          refine x_retI (np := 54) (x := 0) (by decide +kernel) (by decide) (Or.inr ⟨by decide +kernel, by first | decide | omega, by first | decide | omega⟩) ⟨_, rfl, (by decide), ?_⟩
          exact ⟨j2142, f2149, (by first | decide | omega), (fun z => by first | decide | omega), (fun z => by first | decide | omega), (gQ_f (t := 2) m2092 w2168 rfl e2169 c2147 rfl (by first | decide | omega) (by first | decide | omega)), (fun _ => fQ_f (t := 2) m2093 w2170 rfl e2171 (c2148 (by first | decide | omega)) rfl rfl)⟩
        have q2163 : ¬ (v2137 = 2147483648) := q2163
        have b2172 := c2145 (by first | decide | omega)
        have b2173 := c2146 (by first | decide | omega)
        refine x_aload (np := 40) (x := 0) (by decide +kernel) rfl (x_nc_le (by decide)) ?_
        have q2174 : h2141 62 1 = h2110 62 1 := f2143 62 1 (by decide +kernel)
        have q2175 : h2110 62 1 = h2085 62 1 := f2112 62 1 (by decide +kernel)
        have q2176 : h2085 62 1 = h10 62 1 := f2086 62 1 (by decide +kernel)
        have q2177 : h10 62 1 = h 62 1 := f12 62 1 (by decide +kernel)
        refine x_getR (np := 43) (x := 193) (f := 1) (q := (r1 + 11)) (by decide +kernel) (by decide) (by decide +kernel) ((((q2174.trans q2175).trans q2176).trans q2177).trans q2) ?_
        refine x_const (np := 46) (x := 9223380650411689941) (a := 2147485653) (by decide +kernel) (by decide) (by decide) ?_
        refine x_nI (t := 6) (mj := 36) (n := 2) (rc := 3) (ml := 2) (nr := 0) (np := 49) (as := [x_r (r1 + 11), iv_c 2147485653]) (rest := []) (lo1 := [x_r (r1 + 11), iv_c 2147485653]) (by decide +kernel) (by decide) (by decide +kernel) (x_rb_of (tr_11_3 t3)) rfl rfl (x_wr (tn_11 t3) (x_wi (by decide) x_wn)) x_wn (by decide) rfl ?_
        refine x_aload (np := 1) (x := 0) (by decide +kernel) rfl (x_nc_le (tn_11 t3)) ?_
        refine x_getC (np := 4) (x := 130) (f := 2) (q := (h2141 (r1 + 11) 2)) (by decide +kernel) (by decide) (tg_11_130_2_0 t3) rfl (fun l2178 => ?_)
        refine x_const (np := 7) (x := 9223373756989178256) (a := 2147484048) (by decide +kernel) (by decide) (by decide) ?_
        refine x_icmp (k := 2) (tg := 12) (np := 10) (by decide +kernel) (by decide) l2178 (by decide) (fun q2179 => ?_) (fun q2180 => ?_)
        · have q2179 : (h2141 (r1 + 11) 2) < 2147484048 := q2179
          refine x_aload (np := 13) (x := 0) (by decide +kernel) rfl (x_nc_le (tn_11 t3)) ?_
          have q2181 : h2141 (r1 + 11) 0 = (r1 + 12) := tf_11_0 j2142 t3
          refine x_getR (np := 16) (x := 128) (f := 0) (q := (r1 + 12)) (by decide +kernel) (by decide) (tg_11_128_0_1 t3) q2181 ?_
          refine x_aload (np := 17) (x := 0) (by decide +kernel) rfl (x_nc_le (tn_11 t3)) ?_
          refine x_getC (np := 20) (x := 130) (f := 2) (q := (h2141 (r1 + 11) 2)) (by decide +kernel) (by decide) (tg_11_130_2_0 t3) rfl (fun l2182 => ?_)
          refine x_iload (np := 21) (x := 1) (by decide +kernel) rfl (by decide) ?_
          obtain ⟨u2183, q2184⟩ : ∃ z, (h2141 (r1 + 11) 2) = 2147483648 + z := ⟨(h2141 (r1 + 11) 2) - 2147483648, by first | decide | omega⟩
          refine x_ast (np := 22) (x := 0) (kd := 1) (n := 400) (i := u2183) (by decide +kernel) (Or.inl rfl) (ta_12_400 t3) (by first | decide | omega) (by first | decide | omega) (by decide) (by decide) (fun z => absurd z (by decide)) ?_
          have j2186 := jU (e := u2183) (v := 2147485653) u2183 j2142 (rg_T12_0_1_400 t3) (by first | decide | omega) (by first | decide | omega) (by first | decide | omega)
          have f2188 := jF (e := u2183) (v := 2147485653) u2183 f2149 (rg_T12_0_1_400 t3) (by first | decide | omega) (by first | decide | omega) (by decide)
          have f2189 := jF (e := u2183) (v := 2147485653) u2183 f2150 (rg_T12_0_1_400 t3) (by first | decide | omega) (by first | decide | omega) (by decide)
          generalize e2187 : x_up h2141 (r1 + 12) u2183 2147485653 = h2185 at j2186 f2188 f2189 ⊢
          refine x_aload (np := 23) (x := 0) (by decide +kernel) rfl (x_nc_le (tn_11 t3)) ?_
          refine x_dup (np := 24) (x := 0) (by decide +kernel) (by have z := x_nc_le (k := (r1 + 11)) (tn_11 t3); unfold x_r; omega) ?_
          have q2190 : h2185 (r1 + 11) 2 = h2141 (r1 + 11) 2 := by rw [← e2187]; exact x_up_k tof_11_12
          refine x_getC (np := 27) (x := 130) (f := 2) (q := (h2141 (r1 + 11) 2)) (by decide +kernel) (by decide) (tg_11_130_2_0 t3) q2190 (fun l2191 => ?_)
          refine x_const (np := 28) (x := 9223372043297226753) (a := 2147483649) (by decide +kernel) (by decide) (by decide) ?_
          refine x_iadd (np := 29) (x := 0) (v := (1 + (h2141 (r1 + 11) 2))) (by decide +kernel) l2178 (by decide) (by first | decide | omega) (by first | decide | omega) ?_
          refine x_putI (np := 32) (x := 130) (f := 2) (by decide +kernel) (tg_11_130_2_0 t3) (by first | decide | omega) (Or.inl (by decide)) ?_
          have j2193 := jU (e := 2) (v := (1 + (h2141 (r1 + 11) 2))) 0 j2186 (rg_T11_2_0_1 t3) (by first | decide | omega) (by first | decide | omega) (by first | decide | omega)
          have f2195 := jF (e := 2) (v := (1 + (h2141 (r1 + 11) 2))) 0 f2188 (rg_T11_2_0_1 t3) (by first | decide | omega) (by first | decide | omega) (by decide)
          have f2196 := jF (e := 2) (v := (1 + (h2141 (r1 + 11) 2))) 0 f2189 (rg_T11_2_0_1 t3) (by first | decide | omega) (by first | decide | omega) (by decide)
          generalize e2194 : x_up h2185 (r1 + 11) 2 (1 + (h2141 (r1 + 11) 2)) = h2192 at j2193 f2195 f2196 ⊢
          refine x_const (np := 33) (x := 9223372043297226753) (a := 2147483649) (by decide +kernel) (by decide) (by decide) ?_
          refine x_retI (np := 34) (x := 0) (by decide +kernel) (by decide) (Or.inr ⟨by decide +kernel, by first | decide | omega, by first | decide | omega⟩) ⟨_, rfl, (by decide), ?_⟩
          refine x_ifz (k := 1) (tg := 54) (np := 52) (by decide +kernel) (by decide) (by decide) (fun q2197 => ?_) (fun q2198 => ?_)
          · have q2197 : 2147483649 ≠ 2147483648 := q2197
            refine x_iinc (np := 57) (i := 2) (j := 2147483649) (v := (1 + v2083)) (lo' := [x_r 62, iv_c 2147483653, iv_c (1 + v2083)]) (by decide +kernel) (by decide) (by decide) rfl (by first | decide | omega) (by first | decide | omega) (by first | decide | omega) rfl ?_
            refine x_goto (np := 60) (x := 12) (by decide +kernel) ?_
            have q2199 : h2192 1 2 = h2185 1 2 := by rw [← e2194]; exact x_up_k (Ne.symm (tne_11_1 t3))
            have q2200 : h2185 1 2 = h2141 1 2 := by rw [← e2187]; exact x_up_k (Ne.symm (tne_12_1 t3))
            have q2201 : h2192 62 1 = h2185 62 1 := by rw [← e2194]; exact x_up_k (Ne.symm (tne_11_62 t3))
            have q2202 : h2185 62 1 = h2141 62 1 := by rw [← e2187]; exact x_up_k (Ne.symm (tne_12_62 t3))
            have q2203 : h2141 62 1 = h2110 62 1 := f2143 62 1 (by decide +kernel)
            have q2204 : h2110 62 1 = h2085 62 1 := f2112 62 1 (by decide +kernel)
            have q2205 : h2085 62 1 = h10 62 1 := f2086 62 1 (by decide +kernel)
            have q2206 : h10 62 1 = h 62 1 := f12 62 1 (by decide +kernel)
            have q2207 : h2192 (r1 + 11) 2 = (1 + (h2141 (r1 + 11) 2)) := by rw [← e2194]; exact x_up_at
            have e2208 : cl9 h2192 = (1 + (h2141 (r1 + 11) 2)) := (congrArg (fun z => h2192 z 2) ((((((q2201.trans q2202).trans q2203).trans q2204).trans q2205).trans q2206).trans q2)).trans q2207
            obtain ⟨w2209, e2210⟩ := Tk.yes c2116 (by first | decide | omega)
            have q2211 : h2192 1 2 = h2185 1 2 := by rw [← e2194]; exact x_up_k (Ne.symm (tne_11_1 t3))
            have q2212 : h2185 1 2 = h2141 1 2 := by rw [← e2187]; exact x_up_k (Ne.symm (tne_12_1 t3))
            obtain ⟨w2213, e2214⟩ := Tk.yes c2116 (by first | decide | omega)
            have q2215 : h2192 1 2 = h2185 1 2 := by rw [← e2194]; exact x_up_k (Ne.symm (tne_11_1 t3))
            have q2216 : h2185 1 2 = h2141 1 2 := by rw [← e2187]; exact x_up_k (Ne.symm (tne_12_1 t3))
            exact i2095 (1 + v2083) h2192 (by first | decide | omega) (by first | decide | omega) (by first | decide | omega) (by first | decide | omega) (by first | decide | omega) j2193 f2196 (gQ_st (t := 2) m2092 w2209 rfl e2210 c2147 rfl (by first | decide | omega) (show h2141 1 2 = h2192 1 2 by first | decide | omega)) (fQ_st (t := 2) m2093 w2213 rfl e2214 c2147 rfl (by first | decide | omega) (show h2141 1 2 = h2192 1 2 by first | decide | omega))
          have q2198 : ¬ (2147483649 ≠ 2147483648) := q2198
          exfalso; omega
        have q2180 : ¬ ((h2141 (r1 + 11) 2) < 2147484048) := q2180
        refine x_const (np := 11) (x := 9223372039002259456) (a := 2147483648) (by decide +kernel) (by decide) (by decide) ?_
        refine x_retI (np := 12) (x := 0) (by decide +kernel) (by decide) (Or.inr ⟨by decide +kernel, by first | decide | omega, by first | decide | omega⟩) ⟨_, rfl, (by decide), ?_⟩
        refine x_ifz (k := 1) (tg := 54) (np := 52) (by decide +kernel) (by decide) (by decide) (fun q2217 => ?_) (fun q2218 => ?_)
        · have q2217 : 2147483648 ≠ 2147483648 := q2217
          exfalso; omega
        have q2218 : ¬ (2147483648 ≠ 2147483648) := q2218
        refine x_const (np := 53) (x := 9223372039002259456) (a := 2147483648) (by decide +kernel) (by decide) (by decide) ?_
        have q2219 : h2141 62 1 = h2110 62 1 := f2143 62 1 (by decide +kernel)
        have q2220 : h2110 62 1 = h2085 62 1 := f2112 62 1 (by decide +kernel)
        have q2221 : h2085 62 1 = h10 62 1 := f2086 62 1 (by decide +kernel)
        have q2222 : h10 62 1 = h 62 1 := f12 62 1 (by decide +kernel)
        obtain ⟨w2223, e2224⟩ := Tk.yes c2116 (by first | decide | omega)
        obtain ⟨w2225, e2226⟩ := Tk.yes c2116 (by first | decide | omega)
        refine x_retI (np := 54) (x := 0) (by decide +kernel) (by decide) (Or.inr ⟨by decide +kernel, by first | decide | omega, by first | decide | omega⟩) ⟨_, rfl, (by decide), ?_⟩
        exact ⟨j2142, f2149, (by first | decide | omega), (fun z => by first | decide | omega), (fun z => by first | decide | omega), (gQ_f (t := 2) m2092 w2223 rfl e2224 c2147 rfl (by first | decide | omega) (by first | decide | omega)), (fun _ => fQ_f (t := 2) m2093 w2225 rfl e2226 (c2148 (by first | decide | omega)) rfl rfl)⟩
    have q2227 : h10 62 1 = h 62 1 := f12 62 1 (by decide +kernel)
    exact p2088 _ 2147483648 h10 (Nat.lt_succ_self _) (by first | decide | omega) (by first | decide | omega) (by first | decide | omega) (by first | decide | omega) j11 (Fr.refl _ _) (gQ_in (t := 2) c16 rfl (by first | decide | omega) rfl) (fQ_in (t := 2) c16 rfl (by first | decide | omega) rfl)
  have q24 : ¬ (v7 ≠ 2147483648) := q24
  refine x_const (np := 9) (x := 9223372039002259456) (a := 2147483648) (by decide +kernel) (by decide) (by decide) ?_
  have q2228 : h10 62 1 = h 62 1 := f12 62 1 (by decide +kernel)
  refine x_retI (np := 10) (x := 0) (by decide +kernel) (by decide) (Or.inr ⟨by decide +kernel, by first | decide | omega, by first | decide | omega⟩) ⟨_, rfl, (by decide), ?_⟩
  exact ⟨j11, f18, (by first | decide | omega), (fun z => by first | decide | omega), (fun z => by first | decide | omega), (gQ_no (t := 2) c16 rfl (by first | decide | omega) (by first | decide | omega)), (fun _ => fQ_no (t := 2) (c17 (by first | decide | omega)) rfl rfl)⟩
set_option maxHeartbeats 0 in
/-- LentNames$CustomReader.readAtom(I)Z -/
theorem c48_62_c4 {sc : Nat × Nat} {d  : Nat} {h : xh} {tB : Nat → Nat} {tN : Nat} (hJ : J h) (hr0 : (cl9 h) + 5 ≤ (h 1 2)) (hT : Tp tB tN h) : X sc 48 (d + 14) (xI fun r h' => J h' ∧ Fr 161 h h' ∧ (2147483648 ≤ r ∧ r ≤ 2147483649) ∧ (r = 2147483649 → h 1 2 + 1 ≤ h' 1 2) ∧ (r = 2147483649 → cl9 h' + h 1 2 ≤ h' 1 2 + cl9 h) ∧ G tB tN Kd.atom 4 (h 1 2) (rs r (h' 1 2)) ∧ (r = 2147483648 → GF tB tN Kd.atom 4 (h 1 2) (h' 1 2))) 0 0 0 [x_r 62, iv_c 2147483652] [] h := by
  have hF := Fr.refl 161 h
  obtain ⟨r1, q2, t3⟩ : ∃ z, (h 62 1) = z + 11 ∧ tw z := by
    rcases hJ.2.2.2.2.2.2.2 with z | z
    · exact ⟨17, by rw [z], Or.inl rfl⟩
    · exact ⟨31, by rw [z], Or.inr rfl⟩
  have b4 := jB (e := 2) 0 hJ (rg_T11_2_0_1 t3) (by first | decide | omega) (by first | decide | omega)
  have e5 : cl9 h = (h (r1 + 11) 2) := (congrArg (fun z => h z 2) q2).trans rfl
  have b6 := jB (e := 2) 0 hJ rg_1_2_0_1 (by first | decide | omega) (by first | decide | omega)
  refine x_aload (np := 1) (x := 0) (by decide +kernel) rfl (x_nc_le (by decide)) ?_
  have q7 : h 62 0 = 1 := by have z := jB (e := 0) 0 hJ rg_62_0_0_1 (by decide) (by decide); omega
  refine x_getR (np := 4) (x := 192) (f := 0) (q := 1) (by decide +kernel) (by decide) (by decide +kernel) q7 ?_
  refine x_ldcB (i := 24) (idx := 71) (tx := "not") (by rw [tb_y48]; exact List.mem_of_getElem? (i := 24) rfl) (by decide) (by rw [tb_b48]; decide +kernel) ?_
  refine x_cP (t := 6) (mj := 77) (n := 2) (rc := 8) (ml := 4) (nr := 0) (np := 9) (as := [x_r 1, x_b (24 + 1)]) (rest := []) (lo1 := [x_r 1, x_b (24 + 1), 147573952589676412928, 147573952589676412928]) (by decide +kernel) (by decide) (by decide +kernel) (x_rb_of (by decide +kernel)) rfl rfl (x_wr (by decide) (x_wB (by decide) x_wn)) x_wn (by decide) rfl (c77_1_S0 hJ  (by decide) hT) (fun v8 l9 q10 => ?_)
  obtain ⟨b13, c11, c12⟩ := q10
  refine x_ifz (k := 0) (tg := 59) (np := 12) (by decide +kernel) (by decide) l9 (fun q14 => ?_) (fun q15 => ?_)
  · have q14 : v8 = 2147483648 := q14
    refine x_aload (np := 60) (x := 0) (by decide +kernel) rfl (x_nc_le (by decide)) ?_
    have q16 : h 62 0 = 1 := by have z := jB (e := 0) 0 hJ rg_62_0_0_1 (by decide) (by decide); omega
    refine x_getR (np := 63) (x := 192) (f := 0) (q := 1) (by decide +kernel) (by decide) (by decide +kernel) q16 ?_
    refine x_const (np := 65) (x := 9223372210800951336) (a := 2147483688) (by decide +kernel) (by decide) (by decide) ?_
    refine x_cP (t := 6) (mj := 75) (n := 2) (rc := 8) (ml := 2) (nr := 0) (np := 68) (as := [x_r 1, iv_c 2147483688]) (rest := []) (lo1 := [x_r 1, iv_c 2147483688]) (by decide +kernel) (by decide) (by decide +kernel) (x_rb_of (by decide +kernel)) rfl rfl (x_wr (by decide) (x_wi (by decide) x_wn)) x_wn (by decide) rfl (c75_1 hJ  (by first | decide | omega) hT) (fun v17 l18 q19 => ?_)
    obtain ⟨b22, c20, c21⟩ := q19
    have b23 := jB (e := 1) 0 hJ rg_1_1_0_1 (by first | decide | omega) (by first | decide | omega)
    refine x_ifz (k := 0) (tg := 117) (np := 71) (by decide +kernel) (by decide) l18 (fun q24 => ?_) (fun q25 => ?_)
    · have q24 : v17 = 2147483648 := q24
      refine x_aload (np := 118) (x := 0) (by decide +kernel) rfl (x_nc_le (by decide)) ?_
      have q26 : h 62 0 = 1 := by have z := jB (e := 0) 0 hJ rg_62_0_0_1 (by decide) (by decide); omega
      refine x_getR (np := 121) (x := 192) (f := 0) (q := 1) (by decide +kernel) (by decide) (by decide +kernel) q26 ?_
      refine x_ldcB (i := 25) (idx := 79) (tx := "own") (by rw [tb_y48]; exact List.mem_of_getElem? (i := 25) rfl) (by decide) (by rw [tb_b48]; decide +kernel) ?_
      refine x_cI (t := 6) (mj := 78) (n := 2) (rc := 8) (ml := 2) (nr := 0) (np := 126) (as := [x_r 1, x_b (25 + 1)]) (rest := []) (lo1 := [x_r 1, x_b (25 + 1)]) (by decide +kernel) (by decide) (by decide +kernel) (x_rb_of (by decide +kernel)) rfl rfl (x_wr (by decide) (x_wB (by decide) x_wn)) x_wn (by decide) rfl (c78_1_S0 hJ  (by decide) hT) (fun v27 h30 l28 q29 => ?_)
      obtain ⟨j31, f32, b33, c34, c35, c36⟩ := q29
      have f37 := Fr.trans hF f32 (by decide)
      have b38 := jB (e := 2) 0 j31 rg_1_2_0_1 (by first | decide | omega) (by first | decide | omega)
      have b39 : iv_tl 25 = 3 := by decide
      refine x_ifz (k := 0) (tg := 140) (np := 129) (by decide +kernel) (by decide) l28 (fun q40 => ?_) (fun q41 => ?_)
      · have q40 : v27 = 2147483648 := q40
        have b42 := c35 (by first | decide | omega)
        refine x_aload (np := 141) (x := 0) (by decide +kernel) rfl (x_nc_le (by decide)) ?_
        have q43 : h30 62 0 = 1 := by have z := jB (e := 0) 0 j31 rg_62_0_0_1 (by decide) (by decide); omega
        refine x_getR (np := 144) (x := 192) (f := 0) (q := 1) (by decide +kernel) (by decide) (by decide +kernel) q43 ?_
        refine x_ldcB (i := 26) (idx := 81) (tx := "mine") (by rw [tb_y48]; exact List.mem_of_getElem? (i := 26) rfl) (by decide) (by rw [tb_b48]; decide +kernel) ?_
        have m47 := Tp.fr hT f32 (by decide) (by decide)
        refine x_cI (t := 6) (mj := 78) (n := 2) (rc := 8) (ml := 2) (nr := 0) (np := 149) (as := [x_r 1, x_b (26 + 1)]) (rest := []) (lo1 := [x_r 1, x_b (26 + 1)]) (by decide +kernel) (by decide) (by decide +kernel) (x_rb_of (by decide +kernel)) rfl rfl (x_wr (by decide) (x_wB (by decide) x_wn)) x_wn (by decide) rfl (c78_1_S0 j31  (by decide) m47) (fun v44 h48 l45 q46 => ?_)
        obtain ⟨j49, f50, b51, c52, c53, c54⟩ := q46
        have f55 := Fr.trans f37 f50 (by decide)
        have b56 := jB (e := 2) 0 j49 rg_1_2_0_1 (by first | decide | omega) (by first | decide | omega)
        have b57 : iv_tl 26 = 4 := by decide
        refine x_ifz (k := 0) (tg := 163) (np := 152) (by decide +kernel) (by decide) l45 (fun q58 => ?_) (fun q59 => ?_)
        · have q58 : v44 = 2147483648 := q58
          have b60 := c53 (by first | decide | omega)
          refine x_aload (np := 164) (x := 0) (by decide +kernel) rfl (x_nc_le (by decide)) ?_
          have q61 : h48 62 1 = h30 62 1 := f50 62 1 (by decide +kernel)
          have q62 : h30 62 1 = h 62 1 := f32 62 1 (by decide +kernel)
          have q63 : h48 (r1 + 11) 2 = h30 (r1 + 11) 2 := jK 0 f50 (rg_T11_2_0_1 t3) (by first | decide | omega) (by first | decide | omega) (by decide)
          have q64 : h30 (r1 + 11) 2 = h (r1 + 11) 2 := jK 0 f32 (rg_T11_2_0_1 t3) (by first | decide | omega) (by first | decide | omega) (by decide)
          have e65 : cl9 h48 = (h (r1 + 11) 2) := (congrArg (fun z => h48 z 2) ((q61.trans q62).trans q2)).trans (q63.trans q64)
          have m69 := Tp.fr m47 f50 (by decide) (by decide)
          refine x_cI (t := 6) (mj := 49) (n := 1) (rc := 4) (ml := 2) (nr := 0) (np := 167) (as := [x_r 62]) (rest := []) (lo1 := [x_r 62, 147573952589676412928]) (by decide +kernel) (by decide) (by decide +kernel) (x_rb_of (by decide +kernel)) rfl rfl (x_wr (by decide) x_wn) x_wn (by decide) rfl (c49_62 j49  (by first | decide | omega) m69) (fun v66 h70 l67 q68 => ?_)
          obtain ⟨j71, f72, b73, c74, c75, c76, c77⟩ := q68
          have f78 := Fr.trans f55 f72 (by decide)
          have b79 := jB (e := 2) 0 j71 rg_1_2_0_1 (by first | decide | omega) (by first | decide | omega)
          have q80 : h48 62 1 = h30 62 1 := f50 62 1 (by decide +kernel)
          have q81 : h30 62 1 = h 62 1 := f32 62 1 (by decide +kernel)
          have q82 : h48 (r1 + 11) 2 = h30 (r1 + 11) 2 := jK 0 f50 (rg_T11_2_0_1 t3) (by first | decide | omega) (by first | decide | omega) (by decide)
          have q83 : h30 (r1 + 11) 2 = h (r1 + 11) 2 := jK 0 f32 (rg_T11_2_0_1 t3) (by first | decide | omega) (by first | decide | omega) (by decide)
          have q84 : h70 62 1 = h48 62 1 := f72 62 1 (by decide +kernel)
          have q85 : h48 62 1 = h30 62 1 := f50 62 1 (by decide +kernel)
          have q86 : h30 62 1 = h 62 1 := f32 62 1 (by decide +kernel)
          have b87 := jB (e := 2) 0 j71 (rg_T11_2_0_1 t3) (by first | decide | omega) (by first | decide | omega)
          have e88 : cl9 h70 = (h70 (r1 + 11) 2) := (congrArg (fun z => h70 z 2) (((q84.trans q85).trans q86).trans q2)).trans rfl
          refine x_ifz (k := 1) (tg := 172) (np := 170) (by decide +kernel) (by decide) l67 (fun q89 => ?_) (fun q90 => ?_)
          · have q89 : v66 ≠ 2147483648 := q89
            have b91 := c74 (by first | decide | omega)
            have b92 := c75 (by first | decide | omega)
            refine x_aload (np := 173) (x := 0) (by decide +kernel) rfl (x_nc_le (by decide)) ?_
            have q93 : h70 62 0 = 1 := by have z := jB (e := 0) 0 j71 rg_62_0_0_1 (by decide) (by decide); omega
            refine x_getR (np := 176) (x := 192) (f := 0) (q := 1) (by decide +kernel) (by decide) (by decide +kernel) q93 ?_
            refine x_const (np := 178) (x := 9223372296700297276) (a := 2147483708) (by decide +kernel) (by decide) (by decide) ?_
            have m97 := Tp.fr m69 f72 (by decide) (by decide)
            refine x_cI (t := 6) (mj := 76) (n := 2) (rc := 8) (ml := 2) (nr := 0) (np := 181) (as := [x_r 1, iv_c 2147483708]) (rest := []) (lo1 := [x_r 1, iv_c 2147483708]) (by decide +kernel) (by decide) (by decide +kernel) (x_rb_of (by decide +kernel)) rfl rfl (x_wr (by decide) (x_wi (by decide) x_wn)) x_wn (by decide) rfl (c76_1 j71  (by first | decide | omega) m97) (fun v94 h98 l95 q96 => ?_)
            obtain ⟨j99, f100, b101, c102, c103, c104⟩ := q96
            have f105 := Fr.trans f78 f100 (by decide)
            have b106 := jB (e := 2) 0 j99 rg_1_2_0_1 (by first | decide | omega) (by first | decide | omega)
            refine x_ifz (k := 0) (tg := 210) (np := 184) (by decide +kernel) (by decide) l95 (fun q107 => ?_) (fun q108 => ?_)
            · have q107 : v94 = 2147483648 := q107
              have b109 := c103 (by first | decide | omega)
              refine x_aload (np := 211) (x := 0) (by decide +kernel) rfl (x_nc_le (by decide)) ?_
              have q110 : h98 62 0 = 1 := by have z := jB (e := 0) 0 j99 rg_62_0_0_1 (by decide) (by decide); omega
              refine x_getR (np := 214) (x := 192) (f := 0) (q := 1) (by decide +kernel) (by decide) (by decide +kernel) q110 ?_
              refine x_const (np := 216) (x := 9223372305290231870) (a := 2147483710) (by decide +kernel) (by decide) (by decide) ?_
              have m114 := Tp.fr m97 f100 (by decide) (by decide)
              refine x_cI (t := 6) (mj := 76) (n := 2) (rc := 8) (ml := 2) (nr := 0) (np := 219) (as := [x_r 1, iv_c 2147483710]) (rest := []) (lo1 := [x_r 1, iv_c 2147483710]) (by decide +kernel) (by decide) (by decide +kernel) (x_rb_of (by decide +kernel)) rfl rfl (x_wr (by decide) (x_wi (by decide) x_wn)) x_wn (by decide) rfl (c76_1 j99  (by first | decide | omega) m114) (fun v111 h115 l112 q113 => ?_)
              obtain ⟨j116, f117, b118, c119, c120, c121⟩ := q113
              have f122 := Fr.trans f105 f117 (by decide)
              have b123 := jB (e := 2) 0 j116 rg_1_2_0_1 (by first | decide | omega) (by first | decide | omega)
              refine x_ifz (k := 0) (tg := 246) (np := 222) (by decide +kernel) (by decide) l112 (fun q124 => ?_) (fun q125 => ?_)
              · have q124 : v111 = 2147483648 := q124
                have b126 := c120 (by first | decide | omega)
                refine x_const (np := 247) (x := 9223372039002259456) (a := 2147483648) (by decide +kernel) (by decide) (by decide) ?_
                have q127 : h115 62 1 = h98 62 1 := f117 62 1 (by decide +kernel)
                have q128 : h98 62 1 = h70 62 1 := f100 62 1 (by decide +kernel)
                have q129 : h70 62 1 = h48 62 1 := f72 62 1 (by decide +kernel)
                have q130 : h48 62 1 = h30 62 1 := f50 62 1 (by decide +kernel)
                have q131 : h30 62 1 = h 62 1 := f32 62 1 (by decide +kernel)
                have q132 : h115 (r1 + 11) 2 = h98 (r1 + 11) 2 := jK 0 f117 (rg_T11_2_0_1 t3) (by first | decide | omega) (by first | decide | omega) (by decide)
                have q133 : h98 (r1 + 11) 2 = h70 (r1 + 11) 2 := jK 0 f100 (rg_T11_2_0_1 t3) (by first | decide | omega) (by first | decide | omega) (by decide)
                have e134 : cl9 h115 = (h70 (r1 + 11) 2) := (congrArg (fun z => h115 z 2) (((((q127.trans q128).trans q129).trans q130).trans q131).trans q2)).trans (q132.trans q133)
                obtain ⟨w135, e136⟩ := Tk.no c36 (by first | decide | omega)
                obtain ⟨w137, e138⟩ := Tk.no c54 (by first | decide | omega)
                have w139 : An tB tN (h 1 2) := gA_an (Is.no c12 (by first | decide | omega)) rfl (Is.no c21 (by first | decide | omega)) rfl w135 rfl w137 (show h30 1 2 = h 1 2 by first | decide | omega)
                obtain ⟨w140, e141⟩ := Tk.no c104 (by first | decide | omega)
                obtain ⟨w142, e143⟩ := Tk.no c121 (by first | decide | omega)
                obtain ⟨w144, e145⟩ := Tk.no c36 (by first | decide | omega)
                obtain ⟨w146, e147⟩ := Tk.no c54 (by first | decide | omega)
                have w148 : An tB tN (h 1 2) := gA_an (Is.no c12 (by first | decide | omega)) rfl (Is.no c21 (by first | decide | omega)) rfl w144 rfl w146 (show h30 1 2 = h 1 2 by first | decide | omega)
                obtain ⟨w149, e150⟩ := Tk.no c104 (by first | decide | omega)
                obtain ⟨w151, e152⟩ := Tk.no c121 (by first | decide | omega)
                refine x_retI (np := 248) (x := 0) (by decide +kernel) (by decide) (Or.inr ⟨by decide +kernel, by first | decide | omega, by first | decide | omega⟩) ⟨_, rfl, (by decide), ?_⟩
                exact ⟨j116, f122, (by first | decide | omega), (fun z => by first | decide | omega), (fun z => by first | decide | omega), (gA_c1 w139 (c76 4) (show h48 1 2 = h 1 2 by first | decide | omega) (by first | decide | omega) w140 rfl w142 (show h98 1 2 = h70 1 2 by first | decide | omega) (by first | decide | omega)), (fun _ => fA_c1 w148 (c76 4) (show h48 1 2 = h 1 2 by first | decide | omega) (by first | decide | omega) w149 rfl w151 (show h98 1 2 = h70 1 2 by first | decide | omega) (show h115 1 2 = h98 1 2 by first | decide | omega))⟩
              have q125 : ¬ (v111 = 2147483648) := q125
              have b153 := c119 (by first | decide | omega)
              refine x_aload (np := 223) (x := 0) (by decide +kernel) rfl (x_nc_le (by decide)) ?_
              have q154 : h115 62 1 = h98 62 1 := f117 62 1 (by decide +kernel)
              have q155 : h98 62 1 = h70 62 1 := f100 62 1 (by decide +kernel)
              have q156 : h70 62 1 = h48 62 1 := f72 62 1 (by decide +kernel)
              have q157 : h48 62 1 = h30 62 1 := f50 62 1 (by decide +kernel)
              have q158 : h30 62 1 = h 62 1 := f32 62 1 (by decide +kernel)
              have q159 : h115 (r1 + 11) 2 = h98 (r1 + 11) 2 := jK 0 f117 (rg_T11_2_0_1 t3) (by first | decide | omega) (by first | decide | omega) (by decide)
              have q160 : h98 (r1 + 11) 2 = h70 (r1 + 11) 2 := jK 0 f100 (rg_T11_2_0_1 t3) (by first | decide | omega) (by first | decide | omega) (by decide)
              have e161 : cl9 h115 = (h70 (r1 + 11) 2) := (congrArg (fun z => h115 z 2) (((((q154.trans q155).trans q156).trans q157).trans q158).trans q2)).trans (q159.trans q160)
              have m165 := Tp.fr m114 f117 (by decide) (by decide)
              refine x_cI (t := 6) (mj := 49) (n := 1) (rc := 4) (ml := 2) (nr := 0) (np := 226) (as := [x_r 62]) (rest := []) (lo1 := [x_r 62, 147573952589676412928]) (by decide +kernel) (by decide) (by decide +kernel) (x_rb_of (by decide +kernel)) rfl rfl (x_wr (by decide) x_wn) x_wn (by decide) rfl (c49_62 j116  (by first | decide | omega) m165) (fun v162 h166 l163 q164 => ?_)
              obtain ⟨j167, f168, b169, c170, c171, c172, c173⟩ := q164
              have f174 := Fr.trans f122 f168 (by decide)
              have b175 := jB (e := 2) 0 j167 rg_1_2_0_1 (by first | decide | omega) (by first | decide | omega)
              have q176 : h115 62 1 = h98 62 1 := f117 62 1 (by decide +kernel)
              have q177 : h98 62 1 = h70 62 1 := f100 62 1 (by decide +kernel)
              have q178 : h70 62 1 = h48 62 1 := f72 62 1 (by decide +kernel)
              have q179 : h48 62 1 = h30 62 1 := f50 62 1 (by decide +kernel)
              have q180 : h30 62 1 = h 62 1 := f32 62 1 (by decide +kernel)
              have q181 : h115 (r1 + 11) 2 = h98 (r1 + 11) 2 := jK 0 f117 (rg_T11_2_0_1 t3) (by first | decide | omega) (by first | decide | omega) (by decide)
              have q182 : h98 (r1 + 11) 2 = h70 (r1 + 11) 2 := jK 0 f100 (rg_T11_2_0_1 t3) (by first | decide | omega) (by first | decide | omega) (by decide)
              have q183 : h166 62 1 = h115 62 1 := f168 62 1 (by decide +kernel)
              have q184 : h115 62 1 = h98 62 1 := f117 62 1 (by decide +kernel)
              have q185 : h98 62 1 = h70 62 1 := f100 62 1 (by decide +kernel)
              have q186 : h70 62 1 = h48 62 1 := f72 62 1 (by decide +kernel)
              have q187 : h48 62 1 = h30 62 1 := f50 62 1 (by decide +kernel)
              have q188 : h30 62 1 = h 62 1 := f32 62 1 (by decide +kernel)
              have b189 := jB (e := 2) 0 j167 (rg_T11_2_0_1 t3) (by first | decide | omega) (by first | decide | omega)
              have e190 : cl9 h166 = (h166 (r1 + 11) 2) := (congrArg (fun z => h166 z 2) ((((((q183.trans q184).trans q185).trans q186).trans q187).trans q188).trans q2)).trans rfl
              refine x_ifz (k := 0) (tg := 246) (np := 229) (by decide +kernel) (by decide) l163 (fun q191 => ?_) (fun q192 => ?_)
              · have q191 : v162 = 2147483648 := q191
                refine x_const (np := 247) (x := 9223372039002259456) (a := 2147483648) (by decide +kernel) (by decide) (by decide) ?_
                have q193 : h166 62 1 = h115 62 1 := f168 62 1 (by decide +kernel)
                have q194 : h115 62 1 = h98 62 1 := f117 62 1 (by decide +kernel)
                have q195 : h98 62 1 = h70 62 1 := f100 62 1 (by decide +kernel)
                have q196 : h70 62 1 = h48 62 1 := f72 62 1 (by decide +kernel)
                have q197 : h48 62 1 = h30 62 1 := f50 62 1 (by decide +kernel)
                have q198 : h30 62 1 = h 62 1 := f32 62 1 (by decide +kernel)
                obtain ⟨w199, e200⟩ := Tk.no c36 (by first | decide | omega)
                obtain ⟨w201, e202⟩ := Tk.no c54 (by first | decide | omega)
                have w203 : An tB tN (h 1 2) := gA_an (Is.no c12 (by first | decide | omega)) rfl (Is.no c21 (by first | decide | omega)) rfl w199 rfl w201 (show h30 1 2 = h 1 2 by first | decide | omega)
                obtain ⟨w204, e205⟩ := Tk.no c104 (by first | decide | omega)
                obtain ⟨w206, e207⟩ := Tk.yes c121 (by first | decide | omega)
                obtain ⟨w208, e209⟩ := Tk.no c36 (by first | decide | omega)
                obtain ⟨w210, e211⟩ := Tk.no c54 (by first | decide | omega)
                have w212 : An tB tN (h 1 2) := gA_an (Is.no c12 (by first | decide | omega)) rfl (Is.no c21 (by first | decide | omega)) rfl w208 rfl w210 (show h30 1 2 = h 1 2 by first | decide | omega)
                obtain ⟨w213, e214⟩ := Tk.no c104 (by first | decide | omega)
                obtain ⟨w215, e216⟩ := Tk.yes c121 (by first | decide | omega)
                refine x_retI (np := 248) (x := 0) (by decide +kernel) (by decide) (Or.inr ⟨by decide +kernel, by first | decide | omega, by first | decide | omega⟩) ⟨_, rfl, (by decide), ?_⟩
                exact ⟨j167, f174, (by first | decide | omega), (fun z => by first | decide | omega), (fun z => by first | decide | omega), (gA_c2 w203 (c76 4) (show h48 1 2 = h 1 2 by first | decide | omega) (by first | decide | omega) (Or.inr w206) (show h98 1 2 = h70 1 2 by first | decide | omega) e207 (c172 4) rfl (by first | decide | omega) (fun z => absurd z (by first | decide | omega))), (fun _ => fA_c2 w212 (c76 4) (show h48 1 2 = h 1 2 by first | decide | omega) (by first | decide | omega) (Or.inr w215) (show h98 1 2 = h70 1 2 by first | decide | omega) e216 (c173 (by first | decide | omega) 4) rfl rfl)⟩
              have q192 : ¬ (v162 = 2147483648) := q192
              have b217 := c170 (by first | decide | omega)
              have b218 := c171 (by first | decide | omega)
              refine x_aload (np := 230) (x := 0) (by decide +kernel) rfl (x_nc_le (by decide)) ?_
              have q219 : h166 62 1 = h115 62 1 := f168 62 1 (by decide +kernel)
              have q220 : h115 62 1 = h98 62 1 := f117 62 1 (by decide +kernel)
              have q221 : h98 62 1 = h70 62 1 := f100 62 1 (by decide +kernel)
              have q222 : h70 62 1 = h48 62 1 := f72 62 1 (by decide +kernel)
              have q223 : h48 62 1 = h30 62 1 := f50 62 1 (by decide +kernel)
              have q224 : h30 62 1 = h 62 1 := f32 62 1 (by decide +kernel)
              refine x_getR (np := 233) (x := 193) (f := 1) (q := (r1 + 11)) (by decide +kernel) (by decide) (by decide +kernel) ((((((q219.trans q220).trans q221).trans q222).trans q223).trans q224).trans q2) ?_
              refine x_const (np := 236) (x := 9223380637526788050) (a := 2147485650) (by decide +kernel) (by decide) (by decide) ?_
              refine x_nI (t := 6) (mj := 36) (n := 2) (rc := 3) (ml := 2) (nr := 0) (np := 239) (as := [x_r (r1 + 11), iv_c 2147485650]) (rest := []) (lo1 := [x_r (r1 + 11), iv_c 2147485650]) (by decide +kernel) (by decide) (by decide +kernel) (x_rb_of (tr_11_3 t3)) rfl rfl (x_wr (tn_11 t3) (x_wi (by decide) x_wn)) x_wn (by decide) rfl ?_
              refine x_aload (np := 1) (x := 0) (by decide +kernel) rfl (x_nc_le (tn_11 t3)) ?_
              refine x_getC (np := 4) (x := 130) (f := 2) (q := (h166 (r1 + 11) 2)) (by decide +kernel) (by decide) (tg_11_130_2_0 t3) rfl (fun l225 => ?_)
              refine x_const (np := 7) (x := 9223373756989178256) (a := 2147484048) (by decide +kernel) (by decide) (by decide) ?_
              refine x_icmp (k := 2) (tg := 12) (np := 10) (by decide +kernel) (by decide) l225 (by decide) (fun q226 => ?_) (fun q227 => ?_)
              · have q226 : (h166 (r1 + 11) 2) < 2147484048 := q226
                refine x_aload (np := 13) (x := 0) (by decide +kernel) rfl (x_nc_le (tn_11 t3)) ?_
                have q228 : h166 (r1 + 11) 0 = (r1 + 12) := tf_11_0 j167 t3
                refine x_getR (np := 16) (x := 128) (f := 0) (q := (r1 + 12)) (by decide +kernel) (by decide) (tg_11_128_0_1 t3) q228 ?_
                refine x_aload (np := 17) (x := 0) (by decide +kernel) rfl (x_nc_le (tn_11 t3)) ?_
                refine x_getC (np := 20) (x := 130) (f := 2) (q := (h166 (r1 + 11) 2)) (by decide +kernel) (by decide) (tg_11_130_2_0 t3) rfl (fun l229 => ?_)
                refine x_iload (np := 21) (x := 1) (by decide +kernel) rfl (by decide) ?_
                obtain ⟨u230, q231⟩ : ∃ z, (h166 (r1 + 11) 2) = 2147483648 + z := ⟨(h166 (r1 + 11) 2) - 2147483648, by first | decide | omega⟩
                refine x_ast (np := 22) (x := 0) (kd := 1) (n := 400) (i := u230) (by decide +kernel) (Or.inl rfl) (ta_12_400 t3) (by first | decide | omega) (by first | decide | omega) (by decide) (by decide) (fun z => absurd z (by decide)) ?_
                have j233 := jU (e := u230) (v := 2147485650) u230 j167 (rg_T12_0_1_400 t3) (by first | decide | omega) (by first | decide | omega) (by first | decide | omega)
                have f235 := jF (e := u230) (v := 2147485650) u230 f174 (rg_T12_0_1_400 t3) (by first | decide | omega) (by first | decide | omega) (by decide)
                generalize e234 : x_up h166 (r1 + 12) u230 2147485650 = h232 at j233 f235 ⊢
                refine x_aload (np := 23) (x := 0) (by decide +kernel) rfl (x_nc_le (tn_11 t3)) ?_
                refine x_dup (np := 24) (x := 0) (by decide +kernel) (by have z := x_nc_le (k := (r1 + 11)) (tn_11 t3); unfold x_r; omega) ?_
                have q236 : h232 (r1 + 11) 2 = h166 (r1 + 11) 2 := by rw [← e234]; exact x_up_k tof_11_12
                refine x_getC (np := 27) (x := 130) (f := 2) (q := (h166 (r1 + 11) 2)) (by decide +kernel) (by decide) (tg_11_130_2_0 t3) q236 (fun l237 => ?_)
                refine x_const (np := 28) (x := 9223372043297226753) (a := 2147483649) (by decide +kernel) (by decide) (by decide) ?_
                refine x_iadd (np := 29) (x := 0) (v := (1 + (h166 (r1 + 11) 2))) (by decide +kernel) l225 (by decide) (by first | decide | omega) (by first | decide | omega) ?_
                refine x_putI (np := 32) (x := 130) (f := 2) (by decide +kernel) (tg_11_130_2_0 t3) (by first | decide | omega) (Or.inl (by decide)) ?_
                have j239 := jU (e := 2) (v := (1 + (h166 (r1 + 11) 2))) 0 j233 (rg_T11_2_0_1 t3) (by first | decide | omega) (by first | decide | omega) (by first | decide | omega)
                have f241 := jF (e := 2) (v := (1 + (h166 (r1 + 11) 2))) 0 f235 (rg_T11_2_0_1 t3) (by first | decide | omega) (by first | decide | omega) (by decide)
                generalize e240 : x_up h232 (r1 + 11) 2 (1 + (h166 (r1 + 11) 2)) = h238 at j239 f241 ⊢
                refine x_const (np := 33) (x := 9223372043297226753) (a := 2147483649) (by decide +kernel) (by decide) (by decide) ?_
                refine x_retI (np := 34) (x := 0) (by decide +kernel) (by decide) (Or.inr ⟨by decide +kernel, by first | decide | omega, by first | decide | omega⟩) ⟨_, rfl, (by decide), ?_⟩
                refine x_ifz (k := 0) (tg := 246) (np := 242) (by decide +kernel) (by decide) (by decide) (fun q242 => ?_) (fun q243 => ?_)
                · have q242 : 2147483649 = 2147483648 := q242
                  exfalso; omega
                have q243 : ¬ (2147483649 = 2147483648) := q243
                refine x_const (np := 243) (x := 9223372043297226753) (a := 2147483649) (by decide +kernel) (by decide) (by decide) ?_
                refine x_goto (np := 246) (x := 247) (by decide +kernel) ?_
                have q244 : h238 1 2 = h232 1 2 := by rw [← e240]; exact x_up_k (Ne.symm (tne_11_1 t3))
                have q245 : h232 1 2 = h166 1 2 := by rw [← e234]; exact x_up_k (Ne.symm (tne_12_1 t3))
                have q246 : h238 62 1 = h232 62 1 := by rw [← e240]; exact x_up_k (Ne.symm (tne_11_62 t3))
                have q247 : h232 62 1 = h166 62 1 := by rw [← e234]; exact x_up_k (Ne.symm (tne_12_62 t3))
                have q248 : h166 62 1 = h115 62 1 := f168 62 1 (by decide +kernel)
                have q249 : h115 62 1 = h98 62 1 := f117 62 1 (by decide +kernel)
                have q250 : h98 62 1 = h70 62 1 := f100 62 1 (by decide +kernel)
                have q251 : h70 62 1 = h48 62 1 := f72 62 1 (by decide +kernel)
                have q252 : h48 62 1 = h30 62 1 := f50 62 1 (by decide +kernel)
                have q253 : h30 62 1 = h 62 1 := f32 62 1 (by decide +kernel)
                have q254 : h238 (r1 + 11) 2 = (1 + (h166 (r1 + 11) 2)) := by rw [← e240]; exact x_up_at
                have e255 : cl9 h238 = (1 + (h166 (r1 + 11) 2)) := (congrArg (fun z => h238 z 2) ((((((((q246.trans q247).trans q248).trans q249).trans q250).trans q251).trans q252).trans q253).trans q2)).trans q254
                have q256 : h238 1 2 = h232 1 2 := by rw [← e240]; exact x_up_k (Ne.symm (tne_11_1 t3))
                have q257 : h232 1 2 = h166 1 2 := by rw [← e234]; exact x_up_k (Ne.symm (tne_12_1 t3))
                obtain ⟨w258, e259⟩ := Tk.no c36 (by first | decide | omega)
                obtain ⟨w260, e261⟩ := Tk.no c54 (by first | decide | omega)
                have w262 : An tB tN (h 1 2) := gA_an (Is.no c12 (by first | decide | omega)) rfl (Is.no c21 (by first | decide | omega)) rfl w258 rfl w260 (show h30 1 2 = h 1 2 by first | decide | omega)
                obtain ⟨w263, e264⟩ := Tk.no c104 (by first | decide | omega)
                obtain ⟨w265, e266⟩ := Tk.yes c121 (by first | decide | omega)
                have q267 : h238 1 2 = h232 1 2 := by rw [← e240]; exact x_up_k (Ne.symm (tne_11_1 t3))
                have q268 : h232 1 2 = h166 1 2 := by rw [← e234]; exact x_up_k (Ne.symm (tne_12_1 t3))
                refine x_retI (np := 248) (x := 0) (by decide +kernel) (by decide) (Or.inr ⟨by decide +kernel, by first | decide | omega, by first | decide | omega⟩) ⟨_, rfl, (by decide), ?_⟩
                exact ⟨j239, f241, (by first | decide | omega), (fun z => by first | decide | omega), (fun z => by first | decide | omega), (gA_c2 w262 (c76 4) (show h48 1 2 = h 1 2 by first | decide | omega) (by first | decide | omega) (Or.inr w265) (show h98 1 2 = h70 1 2 by first | decide | omega) e266 (c172 4) rfl (by first | decide | omega) (fun z => (show h166 1 2 = h238 1 2 by first | decide | omega))), (fun z => absurd z (by first | decide | omega))⟩
              have q227 : ¬ ((h166 (r1 + 11) 2) < 2147484048) := q227
              refine x_const (np := 11) (x := 9223372039002259456) (a := 2147483648) (by decide +kernel) (by decide) (by decide) ?_
              refine x_retI (np := 12) (x := 0) (by decide +kernel) (by decide) (Or.inr ⟨by decide +kernel, by first | decide | omega, by first | decide | omega⟩) ⟨_, rfl, (by decide), ?_⟩
              refine x_ifz (k := 0) (tg := 246) (np := 242) (by decide +kernel) (by decide) (by decide) (fun q269 => ?_) (fun q270 => ?_)
              · have q269 : 2147483648 = 2147483648 := q269
                refine x_const (np := 247) (x := 9223372039002259456) (a := 2147483648) (by decide +kernel) (by decide) (by decide) ?_
                have q271 : h166 62 1 = h115 62 1 := f168 62 1 (by decide +kernel)
                have q272 : h115 62 1 = h98 62 1 := f117 62 1 (by decide +kernel)
                have q273 : h98 62 1 = h70 62 1 := f100 62 1 (by decide +kernel)
                have q274 : h70 62 1 = h48 62 1 := f72 62 1 (by decide +kernel)
                have q275 : h48 62 1 = h30 62 1 := f50 62 1 (by decide +kernel)
                have q276 : h30 62 1 = h 62 1 := f32 62 1 (by decide +kernel)
                obtain ⟨w277, e278⟩ := Tk.no c36 (by first | decide | omega)
                obtain ⟨w279, e280⟩ := Tk.no c54 (by first | decide | omega)
                have w281 : An tB tN (h 1 2) := gA_an (Is.no c12 (by first | decide | omega)) rfl (Is.no c21 (by first | decide | omega)) rfl w277 rfl w279 (show h30 1 2 = h 1 2 by first | decide | omega)
                obtain ⟨w282, e283⟩ := Tk.no c104 (by first | decide | omega)
                obtain ⟨w284, e285⟩ := Tk.yes c121 (by first | decide | omega)
                obtain ⟨w286, e287⟩ := Tk.no c36 (by first | decide | omega)
                obtain ⟨w288, e289⟩ := Tk.no c54 (by first | decide | omega)
                have w290 : An tB tN (h 1 2) := gA_an (Is.no c12 (by first | decide | omega)) rfl (Is.no c21 (by first | decide | omega)) rfl w286 rfl w288 (show h30 1 2 = h 1 2 by first | decide | omega)
                obtain ⟨w291, e292⟩ := Tk.no c104 (by first | decide | omega)
                obtain ⟨w293, e294⟩ := Tk.yes c121 (by first | decide | omega)
                refine x_retI (np := 248) (x := 0) (by decide +kernel) (by decide) (Or.inr ⟨by decide +kernel, by first | decide | omega, by first | decide | omega⟩) ⟨_, rfl, (by decide), ?_⟩
                exact ⟨j167, f174, (by first | decide | omega), (fun z => by first | decide | omega), (fun z => by first | decide | omega), (gA_c2 w281 (c76 4) (show h48 1 2 = h 1 2 by first | decide | omega) (by first | decide | omega) (Or.inr w284) (show h98 1 2 = h70 1 2 by first | decide | omega) e285 (c172 4) rfl (by first | decide | omega) (fun z => rfl)), (fun _ => fA_c2 w290 (c76 4) (show h48 1 2 = h 1 2 by first | decide | omega) (by first | decide | omega) (Or.inr w293) (show h98 1 2 = h70 1 2 by first | decide | omega) e294 (c173 (by first | decide | omega) 4) rfl rfl)⟩
              have q270 : ¬ (2147483648 = 2147483648) := q270
              exfalso; omega
            have q108 : ¬ (v94 = 2147483648) := q108
            have b295 := c102 (by first | decide | omega)
            refine x_aload (np := 185) (x := 0) (by decide +kernel) rfl (x_nc_le (by decide)) ?_
            have q296 : h98 62 1 = h70 62 1 := f100 62 1 (by decide +kernel)
            have q297 : h70 62 1 = h48 62 1 := f72 62 1 (by decide +kernel)
            have q298 : h48 62 1 = h30 62 1 := f50 62 1 (by decide +kernel)
            have q299 : h30 62 1 = h 62 1 := f32 62 1 (by decide +kernel)
            have q300 : h98 (r1 + 11) 2 = h70 (r1 + 11) 2 := jK 0 f100 (rg_T11_2_0_1 t3) (by first | decide | omega) (by first | decide | omega) (by decide)
            have e301 : cl9 h98 = (h70 (r1 + 11) 2) := (congrArg (fun z => h98 z 2) ((((q296.trans q297).trans q298).trans q299).trans q2)).trans q300
            have m305 := Tp.fr m97 f100 (by decide) (by decide)
            refine x_cI (t := 6) (mj := 49) (n := 1) (rc := 4) (ml := 2) (nr := 0) (np := 188) (as := [x_r 62]) (rest := []) (lo1 := [x_r 62, 147573952589676412928]) (by decide +kernel) (by decide) (by decide +kernel) (x_rb_of (by decide +kernel)) rfl rfl (x_wr (by decide) x_wn) x_wn (by decide) rfl (c49_62 j99  (by first | decide | omega) m305) (fun v302 h306 l303 q304 => ?_)
            obtain ⟨j307, f308, b309, c310, c311, c312, c313⟩ := q304
            have f314 := Fr.trans f105 f308 (by decide)
            have b315 := jB (e := 2) 0 j307 rg_1_2_0_1 (by first | decide | omega) (by first | decide | omega)
            have q316 : h98 62 1 = h70 62 1 := f100 62 1 (by decide +kernel)
            have q317 : h70 62 1 = h48 62 1 := f72 62 1 (by decide +kernel)
            have q318 : h48 62 1 = h30 62 1 := f50 62 1 (by decide +kernel)
            have q319 : h30 62 1 = h 62 1 := f32 62 1 (by decide +kernel)
            have q320 : h98 (r1 + 11) 2 = h70 (r1 + 11) 2 := jK 0 f100 (rg_T11_2_0_1 t3) (by first | decide | omega) (by first | decide | omega) (by decide)
            have q321 : h306 62 1 = h98 62 1 := f308 62 1 (by decide +kernel)
            have q322 : h98 62 1 = h70 62 1 := f100 62 1 (by decide +kernel)
            have q323 : h70 62 1 = h48 62 1 := f72 62 1 (by decide +kernel)
            have q324 : h48 62 1 = h30 62 1 := f50 62 1 (by decide +kernel)
            have q325 : h30 62 1 = h 62 1 := f32 62 1 (by decide +kernel)
            have b326 := jB (e := 2) 0 j307 (rg_T11_2_0_1 t3) (by first | decide | omega) (by first | decide | omega)
            have e327 : cl9 h306 = (h306 (r1 + 11) 2) := (congrArg (fun z => h306 z 2) (((((q321.trans q322).trans q323).trans q324).trans q325).trans q2)).trans rfl
            refine x_ifz (k := 0) (tg := 208) (np := 191) (by decide +kernel) (by decide) l303 (fun q328 => ?_) (fun q329 => ?_)
            · have q328 : v302 = 2147483648 := q328
              refine x_const (np := 209) (x := 9223372039002259456) (a := 2147483648) (by decide +kernel) (by decide) (by decide) ?_
              have q330 : h306 62 1 = h98 62 1 := f308 62 1 (by decide +kernel)
              have q331 : h98 62 1 = h70 62 1 := f100 62 1 (by decide +kernel)
              have q332 : h70 62 1 = h48 62 1 := f72 62 1 (by decide +kernel)
              have q333 : h48 62 1 = h30 62 1 := f50 62 1 (by decide +kernel)
              have q334 : h30 62 1 = h 62 1 := f32 62 1 (by decide +kernel)
              obtain ⟨w335, e336⟩ := Tk.no c36 (by first | decide | omega)
              obtain ⟨w337, e338⟩ := Tk.no c54 (by first | decide | omega)
              have w339 : An tB tN (h 1 2) := gA_an (Is.no c12 (by first | decide | omega)) rfl (Is.no c21 (by first | decide | omega)) rfl w335 rfl w337 (show h30 1 2 = h 1 2 by first | decide | omega)
              obtain ⟨w340, e341⟩ := Tk.yes c104 (by first | decide | omega)
              obtain ⟨w342, e343⟩ := Tk.no c36 (by first | decide | omega)
              obtain ⟨w344, e345⟩ := Tk.no c54 (by first | decide | omega)
              have w346 : An tB tN (h 1 2) := gA_an (Is.no c12 (by first | decide | omega)) rfl (Is.no c21 (by first | decide | omega)) rfl w342 rfl w344 (show h30 1 2 = h 1 2 by first | decide | omega)
              obtain ⟨w347, e348⟩ := Tk.yes c104 (by first | decide | omega)
              refine x_retI (np := 210) (x := 0) (by decide +kernel) (by decide) (Or.inr ⟨by decide +kernel, by first | decide | omega, by first | decide | omega⟩) ⟨_, rfl, (by decide), ?_⟩
              exact ⟨j307, f314, (by first | decide | omega), (fun z => by first | decide | omega), (fun z => by first | decide | omega), (gA_c2 w339 (c76 4) (show h48 1 2 = h 1 2 by first | decide | omega) (by first | decide | omega) (Or.inl w340) rfl e341 (c312 4) rfl (by first | decide | omega) (fun z => absurd z (by first | decide | omega))), (fun _ => fA_c2 w346 (c76 4) (show h48 1 2 = h 1 2 by first | decide | omega) (by first | decide | omega) (Or.inl w347) rfl e348 (c313 (by first | decide | omega) 4) rfl rfl)⟩
            have q329 : ¬ (v302 = 2147483648) := q329
            have b349 := c310 (by first | decide | omega)
            have b350 := c311 (by first | decide | omega)
            refine x_aload (np := 192) (x := 0) (by decide +kernel) rfl (x_nc_le (by decide)) ?_
            have q351 : h306 62 1 = h98 62 1 := f308 62 1 (by decide +kernel)
            have q352 : h98 62 1 = h70 62 1 := f100 62 1 (by decide +kernel)
            have q353 : h70 62 1 = h48 62 1 := f72 62 1 (by decide +kernel)
            have q354 : h48 62 1 = h30 62 1 := f50 62 1 (by decide +kernel)
            have q355 : h30 62 1 = h 62 1 := f32 62 1 (by decide +kernel)
            refine x_getR (np := 195) (x := 193) (f := 1) (q := (r1 + 11)) (by decide +kernel) (by decide) (by decide +kernel) (((((q351.trans q352).trans q353).trans q354).trans q355).trans q2) ?_
            refine x_const (np := 198) (x := 9223380633231820753) (a := 2147485649) (by decide +kernel) (by decide) (by decide) ?_
            refine x_nI (t := 6) (mj := 36) (n := 2) (rc := 3) (ml := 2) (nr := 0) (np := 201) (as := [x_r (r1 + 11), iv_c 2147485649]) (rest := []) (lo1 := [x_r (r1 + 11), iv_c 2147485649]) (by decide +kernel) (by decide) (by decide +kernel) (x_rb_of (tr_11_3 t3)) rfl rfl (x_wr (tn_11 t3) (x_wi (by decide) x_wn)) x_wn (by decide) rfl ?_
            refine x_aload (np := 1) (x := 0) (by decide +kernel) rfl (x_nc_le (tn_11 t3)) ?_
            refine x_getC (np := 4) (x := 130) (f := 2) (q := (h306 (r1 + 11) 2)) (by decide +kernel) (by decide) (tg_11_130_2_0 t3) rfl (fun l356 => ?_)
            refine x_const (np := 7) (x := 9223373756989178256) (a := 2147484048) (by decide +kernel) (by decide) (by decide) ?_
            refine x_icmp (k := 2) (tg := 12) (np := 10) (by decide +kernel) (by decide) l356 (by decide) (fun q357 => ?_) (fun q358 => ?_)
            · have q357 : (h306 (r1 + 11) 2) < 2147484048 := q357
              refine x_aload (np := 13) (x := 0) (by decide +kernel) rfl (x_nc_le (tn_11 t3)) ?_
              have q359 : h306 (r1 + 11) 0 = (r1 + 12) := tf_11_0 j307 t3
              refine x_getR (np := 16) (x := 128) (f := 0) (q := (r1 + 12)) (by decide +kernel) (by decide) (tg_11_128_0_1 t3) q359 ?_
              refine x_aload (np := 17) (x := 0) (by decide +kernel) rfl (x_nc_le (tn_11 t3)) ?_
              refine x_getC (np := 20) (x := 130) (f := 2) (q := (h306 (r1 + 11) 2)) (by decide +kernel) (by decide) (tg_11_130_2_0 t3) rfl (fun l360 => ?_)
              refine x_iload (np := 21) (x := 1) (by decide +kernel) rfl (by decide) ?_
              obtain ⟨u361, q362⟩ : ∃ z, (h306 (r1 + 11) 2) = 2147483648 + z := ⟨(h306 (r1 + 11) 2) - 2147483648, by first | decide | omega⟩
              refine x_ast (np := 22) (x := 0) (kd := 1) (n := 400) (i := u361) (by decide +kernel) (Or.inl rfl) (ta_12_400 t3) (by first | decide | omega) (by first | decide | omega) (by decide) (by decide) (fun z => absurd z (by decide)) ?_
              have j364 := jU (e := u361) (v := 2147485649) u361 j307 (rg_T12_0_1_400 t3) (by first | decide | omega) (by first | decide | omega) (by first | decide | omega)
              have f366 := jF (e := u361) (v := 2147485649) u361 f314 (rg_T12_0_1_400 t3) (by first | decide | omega) (by first | decide | omega) (by decide)
              generalize e365 : x_up h306 (r1 + 12) u361 2147485649 = h363 at j364 f366 ⊢
              refine x_aload (np := 23) (x := 0) (by decide +kernel) rfl (x_nc_le (tn_11 t3)) ?_
              refine x_dup (np := 24) (x := 0) (by decide +kernel) (by have z := x_nc_le (k := (r1 + 11)) (tn_11 t3); unfold x_r; omega) ?_
              have q367 : h363 (r1 + 11) 2 = h306 (r1 + 11) 2 := by rw [← e365]; exact x_up_k tof_11_12
              refine x_getC (np := 27) (x := 130) (f := 2) (q := (h306 (r1 + 11) 2)) (by decide +kernel) (by decide) (tg_11_130_2_0 t3) q367 (fun l368 => ?_)
              refine x_const (np := 28) (x := 9223372043297226753) (a := 2147483649) (by decide +kernel) (by decide) (by decide) ?_
              refine x_iadd (np := 29) (x := 0) (v := (1 + (h306 (r1 + 11) 2))) (by decide +kernel) l356 (by decide) (by first | decide | omega) (by first | decide | omega) ?_
              refine x_putI (np := 32) (x := 130) (f := 2) (by decide +kernel) (tg_11_130_2_0 t3) (by first | decide | omega) (Or.inl (by decide)) ?_
              have j370 := jU (e := 2) (v := (1 + (h306 (r1 + 11) 2))) 0 j364 (rg_T11_2_0_1 t3) (by first | decide | omega) (by first | decide | omega) (by first | decide | omega)
              have f372 := jF (e := 2) (v := (1 + (h306 (r1 + 11) 2))) 0 f366 (rg_T11_2_0_1 t3) (by first | decide | omega) (by first | decide | omega) (by decide)
              generalize e371 : x_up h363 (r1 + 11) 2 (1 + (h306 (r1 + 11) 2)) = h369 at j370 f372 ⊢
              refine x_const (np := 33) (x := 9223372043297226753) (a := 2147483649) (by decide +kernel) (by decide) (by decide) ?_
              refine x_retI (np := 34) (x := 0) (by decide +kernel) (by decide) (Or.inr ⟨by decide +kernel, by first | decide | omega, by first | decide | omega⟩) ⟨_, rfl, (by decide), ?_⟩
              refine x_ifz (k := 0) (tg := 208) (np := 204) (by decide +kernel) (by decide) (by decide) (fun q373 => ?_) (fun q374 => ?_)
              · have q373 : 2147483649 = 2147483648 := q373
                exfalso; omega
              have q374 : ¬ (2147483649 = 2147483648) := q374
              refine x_const (np := 205) (x := 9223372043297226753) (a := 2147483649) (by decide +kernel) (by decide) (by decide) ?_
              refine x_goto (np := 208) (x := 209) (by decide +kernel) ?_
              have q375 : h369 1 2 = h363 1 2 := by rw [← e371]; exact x_up_k (Ne.symm (tne_11_1 t3))
              have q376 : h363 1 2 = h306 1 2 := by rw [← e365]; exact x_up_k (Ne.symm (tne_12_1 t3))
              have q377 : h369 62 1 = h363 62 1 := by rw [← e371]; exact x_up_k (Ne.symm (tne_11_62 t3))
              have q378 : h363 62 1 = h306 62 1 := by rw [← e365]; exact x_up_k (Ne.symm (tne_12_62 t3))
              have q379 : h306 62 1 = h98 62 1 := f308 62 1 (by decide +kernel)
              have q380 : h98 62 1 = h70 62 1 := f100 62 1 (by decide +kernel)
              have q381 : h70 62 1 = h48 62 1 := f72 62 1 (by decide +kernel)
              have q382 : h48 62 1 = h30 62 1 := f50 62 1 (by decide +kernel)
              have q383 : h30 62 1 = h 62 1 := f32 62 1 (by decide +kernel)
              have q384 : h369 (r1 + 11) 2 = (1 + (h306 (r1 + 11) 2)) := by rw [← e371]; exact x_up_at
              have e385 : cl9 h369 = (1 + (h306 (r1 + 11) 2)) := (congrArg (fun z => h369 z 2) (((((((q377.trans q378).trans q379).trans q380).trans q381).trans q382).trans q383).trans q2)).trans q384
              have q386 : h369 1 2 = h363 1 2 := by rw [← e371]; exact x_up_k (Ne.symm (tne_11_1 t3))
              have q387 : h363 1 2 = h306 1 2 := by rw [← e365]; exact x_up_k (Ne.symm (tne_12_1 t3))
              obtain ⟨w388, e389⟩ := Tk.no c36 (by first | decide | omega)
              obtain ⟨w390, e391⟩ := Tk.no c54 (by first | decide | omega)
              have w392 : An tB tN (h 1 2) := gA_an (Is.no c12 (by first | decide | omega)) rfl (Is.no c21 (by first | decide | omega)) rfl w388 rfl w390 (show h30 1 2 = h 1 2 by first | decide | omega)
              obtain ⟨w393, e394⟩ := Tk.yes c104 (by first | decide | omega)
              have q395 : h369 1 2 = h363 1 2 := by rw [← e371]; exact x_up_k (Ne.symm (tne_11_1 t3))
              have q396 : h363 1 2 = h306 1 2 := by rw [← e365]; exact x_up_k (Ne.symm (tne_12_1 t3))
              refine x_retI (np := 210) (x := 0) (by decide +kernel) (by decide) (Or.inr ⟨by decide +kernel, by first | decide | omega, by first | decide | omega⟩) ⟨_, rfl, (by decide), ?_⟩
              exact ⟨j370, f372, (by first | decide | omega), (fun z => by first | decide | omega), (fun z => by first | decide | omega), (gA_c2 w392 (c76 4) (show h48 1 2 = h 1 2 by first | decide | omega) (by first | decide | omega) (Or.inl w393) rfl e394 (c312 4) rfl (by first | decide | omega) (fun z => (show h306 1 2 = h369 1 2 by first | decide | omega))), (fun z => absurd z (by first | decide | omega))⟩
            have q358 : ¬ ((h306 (r1 + 11) 2) < 2147484048) := q358
            refine x_const (np := 11) (x := 9223372039002259456) (a := 2147483648) (by decide +kernel) (by decide) (by decide) ?_
            refine x_retI (np := 12) (x := 0) (by decide +kernel) (by decide) (Or.inr ⟨by decide +kernel, by first | decide | omega, by first | decide | omega⟩) ⟨_, rfl, (by decide), ?_⟩
            refine x_ifz (k := 0) (tg := 208) (np := 204) (by decide +kernel) (by decide) (by decide) (fun q397 => ?_) (fun q398 => ?_)
            · have q397 : 2147483648 = 2147483648 := q397
              refine x_const (np := 209) (x := 9223372039002259456) (a := 2147483648) (by decide +kernel) (by decide) (by decide) ?_
              have q399 : h306 62 1 = h98 62 1 := f308 62 1 (by decide +kernel)
              have q400 : h98 62 1 = h70 62 1 := f100 62 1 (by decide +kernel)
              have q401 : h70 62 1 = h48 62 1 := f72 62 1 (by decide +kernel)
              have q402 : h48 62 1 = h30 62 1 := f50 62 1 (by decide +kernel)
              have q403 : h30 62 1 = h 62 1 := f32 62 1 (by decide +kernel)
              obtain ⟨w404, e405⟩ := Tk.no c36 (by first | decide | omega)
              obtain ⟨w406, e407⟩ := Tk.no c54 (by first | decide | omega)
              have w408 : An tB tN (h 1 2) := gA_an (Is.no c12 (by first | decide | omega)) rfl (Is.no c21 (by first | decide | omega)) rfl w404 rfl w406 (show h30 1 2 = h 1 2 by first | decide | omega)
              obtain ⟨w409, e410⟩ := Tk.yes c104 (by first | decide | omega)
              obtain ⟨w411, e412⟩ := Tk.no c36 (by first | decide | omega)
              obtain ⟨w413, e414⟩ := Tk.no c54 (by first | decide | omega)
              have w415 : An tB tN (h 1 2) := gA_an (Is.no c12 (by first | decide | omega)) rfl (Is.no c21 (by first | decide | omega)) rfl w411 rfl w413 (show h30 1 2 = h 1 2 by first | decide | omega)
              obtain ⟨w416, e417⟩ := Tk.yes c104 (by first | decide | omega)
              refine x_retI (np := 210) (x := 0) (by decide +kernel) (by decide) (Or.inr ⟨by decide +kernel, by first | decide | omega, by first | decide | omega⟩) ⟨_, rfl, (by decide), ?_⟩
              exact ⟨j307, f314, (by first | decide | omega), (fun z => by first | decide | omega), (fun z => by first | decide | omega), (gA_c2 w408 (c76 4) (show h48 1 2 = h 1 2 by first | decide | omega) (by first | decide | omega) (Or.inl w409) rfl e410 (c312 4) rfl (by first | decide | omega) (fun z => rfl)), (fun _ => fA_c2 w415 (c76 4) (show h48 1 2 = h 1 2 by first | decide | omega) (by first | decide | omega) (Or.inl w416) rfl e417 (c313 (by first | decide | omega) 4) rfl rfl)⟩
            have q398 : ¬ (2147483648 = 2147483648) := q398
            exfalso; omega
          have q90 : ¬ (v66 ≠ 2147483648) := q90
          refine x_const (np := 171) (x := 9223372039002259456) (a := 2147483648) (by decide +kernel) (by decide) (by decide) ?_
          have q418 : h70 62 1 = h48 62 1 := f72 62 1 (by decide +kernel)
          have q419 : h48 62 1 = h30 62 1 := f50 62 1 (by decide +kernel)
          have q420 : h30 62 1 = h 62 1 := f32 62 1 (by decide +kernel)
          obtain ⟨w421, e422⟩ := Tk.no c36 (by first | decide | omega)
          obtain ⟨w423, e424⟩ := Tk.no c54 (by first | decide | omega)
          have w425 : An tB tN (h 1 2) := gA_an (Is.no c12 (by first | decide | omega)) rfl (Is.no c21 (by first | decide | omega)) rfl w421 rfl w423 (show h30 1 2 = h 1 2 by first | decide | omega)
          obtain ⟨w426, e427⟩ := Tk.no c36 (by first | decide | omega)
          obtain ⟨w428, e429⟩ := Tk.no c54 (by first | decide | omega)
          have w430 : An tB tN (h 1 2) := gA_an (Is.no c12 (by first | decide | omega)) rfl (Is.no c21 (by first | decide | omega)) rfl w426 rfl w428 (show h30 1 2 = h 1 2 by first | decide | omega)
          refine x_retI (np := 172) (x := 0) (by decide +kernel) (by decide) (Or.inr ⟨by decide +kernel, by first | decide | omega, by first | decide | omega⟩) ⟨_, rfl, (by decide), ?_⟩
          exact ⟨j71, f78, (by first | decide | omega), (fun z => by first | decide | omega), (fun z => by first | decide | omega), (gA_c0 w425 (c76 4) (show h48 1 2 = h 1 2 by first | decide | omega) (by first | decide | omega) (by first | decide | omega)), (fun _ => fA_c0 w430 (c77 (by first | decide | omega) 4) (show h48 1 2 = h 1 2 by first | decide | omega) rfl)⟩
        have q59 : ¬ (v44 = 2147483648) := q59
        have b431 := c52 (by first | decide | omega)
        refine x_aload (np := 153) (x := 0) (by decide +kernel) rfl (x_nc_le (by decide)) ?_
        have q432 : h48 62 1 = h30 62 1 := f50 62 1 (by decide +kernel)
        have q433 : h30 62 1 = h 62 1 := f32 62 1 (by decide +kernel)
        refine x_getR (np := 156) (x := 193) (f := 1) (q := (r1 + 11)) (by decide +kernel) (by decide) (by decide +kernel) ((q432.trans q433).trans q2) ?_
        refine x_const (np := 159) (x := 9223376364034327535) (a := 2147484655) (by decide +kernel) (by decide) (by decide) ?_
        refine x_nI (t := 6) (mj := 36) (n := 2) (rc := 3) (ml := 2) (nr := 0) (np := 162) (as := [x_r (r1 + 11), iv_c 2147484655]) (rest := []) (lo1 := [x_r (r1 + 11), iv_c 2147484655]) (by decide +kernel) (by decide) (by decide +kernel) (x_rb_of (tr_11_3 t3)) rfl rfl (x_wr (tn_11 t3) (x_wi (by decide) x_wn)) x_wn (by decide) rfl ?_
        refine x_aload (np := 1) (x := 0) (by decide +kernel) rfl (x_nc_le (tn_11 t3)) ?_
        have q434 : h48 (r1 + 11) 2 = h30 (r1 + 11) 2 := jK 0 f50 (rg_T11_2_0_1 t3) (by first | decide | omega) (by first | decide | omega) (by decide)
        have q435 : h30 (r1 + 11) 2 = h (r1 + 11) 2 := jK 0 f32 (rg_T11_2_0_1 t3) (by first | decide | omega) (by first | decide | omega) (by decide)
        refine x_getC (np := 4) (x := 130) (f := 2) (q := (h (r1 + 11) 2)) (by decide +kernel) (by decide) (tg_11_130_2_0 t3) (q434.trans q435) (fun l436 => ?_)
        refine x_const (np := 7) (x := 9223373756989178256) (a := 2147484048) (by decide +kernel) (by decide) (by decide) ?_
        refine x_icmp (k := 2) (tg := 12) (np := 10) (by decide +kernel) (by decide) l436 (by decide) (fun q437 => ?_) (fun q438 => ?_)
        · have q437 : (h (r1 + 11) 2) < 2147484048 := q437
          refine x_aload (np := 13) (x := 0) (by decide +kernel) rfl (x_nc_le (tn_11 t3)) ?_
          have q439 : h48 (r1 + 11) 0 = (r1 + 12) := tf_11_0 j49 t3
          refine x_getR (np := 16) (x := 128) (f := 0) (q := (r1 + 12)) (by decide +kernel) (by decide) (tg_11_128_0_1 t3) q439 ?_
          refine x_aload (np := 17) (x := 0) (by decide +kernel) rfl (x_nc_le (tn_11 t3)) ?_
          have q440 : h48 (r1 + 11) 2 = h30 (r1 + 11) 2 := jK 0 f50 (rg_T11_2_0_1 t3) (by first | decide | omega) (by first | decide | omega) (by decide)
          have q441 : h30 (r1 + 11) 2 = h (r1 + 11) 2 := jK 0 f32 (rg_T11_2_0_1 t3) (by first | decide | omega) (by first | decide | omega) (by decide)
          refine x_getC (np := 20) (x := 130) (f := 2) (q := (h (r1 + 11) 2)) (by decide +kernel) (by decide) (tg_11_130_2_0 t3) (q440.trans q441) (fun l442 => ?_)
          refine x_iload (np := 21) (x := 1) (by decide +kernel) rfl (by decide) ?_
          obtain ⟨u443, q444⟩ : ∃ z, (h (r1 + 11) 2) = 2147483648 + z := ⟨(h (r1 + 11) 2) - 2147483648, by first | decide | omega⟩
          refine x_ast (np := 22) (x := 0) (kd := 1) (n := 400) (i := u443) (by decide +kernel) (Or.inl rfl) (ta_12_400 t3) (by first | decide | omega) (by first | decide | omega) (by decide) (by decide) (fun z => absurd z (by decide)) ?_
          have j446 := jU (e := u443) (v := 2147484655) u443 j49 (rg_T12_0_1_400 t3) (by first | decide | omega) (by first | decide | omega) (by first | decide | omega)
          have f448 := jF (e := u443) (v := 2147484655) u443 f55 (rg_T12_0_1_400 t3) (by first | decide | omega) (by first | decide | omega) (by decide)
          generalize e447 : x_up h48 (r1 + 12) u443 2147484655 = h445 at j446 f448 ⊢
          refine x_aload (np := 23) (x := 0) (by decide +kernel) rfl (x_nc_le (tn_11 t3)) ?_
          refine x_dup (np := 24) (x := 0) (by decide +kernel) (by have z := x_nc_le (k := (r1 + 11)) (tn_11 t3); unfold x_r; omega) ?_
          have q449 : h445 (r1 + 11) 2 = h48 (r1 + 11) 2 := by rw [← e447]; exact x_up_k tof_11_12
          have q450 : h48 (r1 + 11) 2 = h30 (r1 + 11) 2 := jK 0 f50 (rg_T11_2_0_1 t3) (by first | decide | omega) (by first | decide | omega) (by decide)
          have q451 : h30 (r1 + 11) 2 = h (r1 + 11) 2 := jK 0 f32 (rg_T11_2_0_1 t3) (by first | decide | omega) (by first | decide | omega) (by decide)
          refine x_getC (np := 27) (x := 130) (f := 2) (q := (h (r1 + 11) 2)) (by decide +kernel) (by decide) (tg_11_130_2_0 t3) ((q449.trans q450).trans q451) (fun l452 => ?_)
          refine x_const (np := 28) (x := 9223372043297226753) (a := 2147483649) (by decide +kernel) (by decide) (by decide) ?_
          refine x_iadd (np := 29) (x := 0) (v := (1 + (h (r1 + 11) 2))) (by decide +kernel) l436 (by decide) (by first | decide | omega) (by first | decide | omega) ?_
          refine x_putI (np := 32) (x := 130) (f := 2) (by decide +kernel) (tg_11_130_2_0 t3) (by first | decide | omega) (Or.inl (by decide)) ?_
          have j454 := jU (e := 2) (v := (1 + (h (r1 + 11) 2))) 0 j446 (rg_T11_2_0_1 t3) (by first | decide | omega) (by first | decide | omega) (by first | decide | omega)
          have f456 := jF (e := 2) (v := (1 + (h (r1 + 11) 2))) 0 f448 (rg_T11_2_0_1 t3) (by first | decide | omega) (by first | decide | omega) (by decide)
          generalize e455 : x_up h445 (r1 + 11) 2 (1 + (h (r1 + 11) 2)) = h453 at j454 f456 ⊢
          refine x_const (np := 33) (x := 9223372043297226753) (a := 2147483649) (by decide +kernel) (by decide) (by decide) ?_
          refine x_retI (np := 34) (x := 0) (by decide +kernel) (by decide) (Or.inr ⟨by decide +kernel, by first | decide | omega, by first | decide | omega⟩) ⟨_, rfl, (by decide), ?_⟩
          have q457 : h453 1 2 = h445 1 2 := by rw [← e455]; exact x_up_k (Ne.symm (tne_11_1 t3))
          have q458 : h445 1 2 = h48 1 2 := by rw [← e447]; exact x_up_k (Ne.symm (tne_12_1 t3))
          have q459 : h453 62 1 = h445 62 1 := by rw [← e455]; exact x_up_k (Ne.symm (tne_11_62 t3))
          have q460 : h445 62 1 = h48 62 1 := by rw [← e447]; exact x_up_k (Ne.symm (tne_12_62 t3))
          have q461 : h48 62 1 = h30 62 1 := f50 62 1 (by decide +kernel)
          have q462 : h30 62 1 = h 62 1 := f32 62 1 (by decide +kernel)
          have q463 : h453 (r1 + 11) 2 = (1 + (h (r1 + 11) 2)) := by rw [← e455]; exact x_up_at
          have e464 : cl9 h453 = (1 + (h (r1 + 11) 2)) := (congrArg (fun z => h453 z 2) ((((q459.trans q460).trans q461).trans q462).trans q2)).trans q463
          have q465 : h453 1 2 = h445 1 2 := by rw [← e455]; exact x_up_k (Ne.symm (tne_11_1 t3))
          have q466 : h445 1 2 = h48 1 2 := by rw [← e447]; exact x_up_k (Ne.symm (tne_12_1 t3))
          obtain ⟨w467, e468⟩ := Tk.no c36 (by first | decide | omega)
          obtain ⟨w469, e470⟩ := Tk.yes c54 (by first | decide | omega)
          have q471 : h453 1 2 = h445 1 2 := by rw [← e455]; exact x_up_k (Ne.symm (tne_11_1 t3))
          have q472 : h445 1 2 = h48 1 2 := by rw [← e447]; exact x_up_k (Ne.symm (tne_12_1 t3))
          refine x_retI (np := 163) (x := 0) (by decide +kernel) (by decide) (Or.inr ⟨by decide +kernel, by first | decide | omega, by first | decide | omega⟩) ⟨_, rfl, (by decide), ?_⟩
          exact ⟨j454, f456, (by first | decide | omega), (fun z => by first | decide | omega), (fun z => by first | decide | omega), (gA_mine w469 (show h30 1 2 = h 1 2 by first | decide | omega) e470 (by first | decide | omega) (show h48 1 2 = h453 1 2 by first | decide | omega)), (fun z => absurd z (by first | decide | omega))⟩
        have q438 : ¬ ((h (r1 + 11) 2) < 2147484048) := q438
        exfalso; omega
      have q41 : ¬ (v27 = 2147483648) := q41
      have b473 := c34 (by first | decide | omega)
      refine x_aload (np := 130) (x := 0) (by decide +kernel) rfl (x_nc_le (by decide)) ?_
      have q474 : h30 62 1 = h 62 1 := f32 62 1 (by decide +kernel)
      refine x_getR (np := 133) (x := 193) (f := 1) (q := (r1 + 11)) (by decide +kernel) (by decide) (by decide +kernel) (q474.trans q2) ?_
      refine x_const (np := 136) (x := 9223376359739360238) (a := 2147484654) (by decide +kernel) (by decide) (by decide) ?_
      refine x_nI (t := 6) (mj := 36) (n := 2) (rc := 3) (ml := 2) (nr := 0) (np := 139) (as := [x_r (r1 + 11), iv_c 2147484654]) (rest := []) (lo1 := [x_r (r1 + 11), iv_c 2147484654]) (by decide +kernel) (by decide) (by decide +kernel) (x_rb_of (tr_11_3 t3)) rfl rfl (x_wr (tn_11 t3) (x_wi (by decide) x_wn)) x_wn (by decide) rfl ?_
      refine x_aload (np := 1) (x := 0) (by decide +kernel) rfl (x_nc_le (tn_11 t3)) ?_
      have q475 : h30 (r1 + 11) 2 = h (r1 + 11) 2 := jK 0 f32 (rg_T11_2_0_1 t3) (by first | decide | omega) (by first | decide | omega) (by decide)
      refine x_getC (np := 4) (x := 130) (f := 2) (q := (h (r1 + 11) 2)) (by decide +kernel) (by decide) (tg_11_130_2_0 t3) q475 (fun l476 => ?_)
      refine x_const (np := 7) (x := 9223373756989178256) (a := 2147484048) (by decide +kernel) (by decide) (by decide) ?_
      refine x_icmp (k := 2) (tg := 12) (np := 10) (by decide +kernel) (by decide) l476 (by decide) (fun q477 => ?_) (fun q478 => ?_)
      · have q477 : (h (r1 + 11) 2) < 2147484048 := q477
        refine x_aload (np := 13) (x := 0) (by decide +kernel) rfl (x_nc_le (tn_11 t3)) ?_
        have q479 : h30 (r1 + 11) 0 = (r1 + 12) := tf_11_0 j31 t3
        refine x_getR (np := 16) (x := 128) (f := 0) (q := (r1 + 12)) (by decide +kernel) (by decide) (tg_11_128_0_1 t3) q479 ?_
        refine x_aload (np := 17) (x := 0) (by decide +kernel) rfl (x_nc_le (tn_11 t3)) ?_
        have q480 : h30 (r1 + 11) 2 = h (r1 + 11) 2 := jK 0 f32 (rg_T11_2_0_1 t3) (by first | decide | omega) (by first | decide | omega) (by decide)
        refine x_getC (np := 20) (x := 130) (f := 2) (q := (h (r1 + 11) 2)) (by decide +kernel) (by decide) (tg_11_130_2_0 t3) q480 (fun l481 => ?_)
        refine x_iload (np := 21) (x := 1) (by decide +kernel) rfl (by decide) ?_
        obtain ⟨u482, q483⟩ : ∃ z, (h (r1 + 11) 2) = 2147483648 + z := ⟨(h (r1 + 11) 2) - 2147483648, by first | decide | omega⟩
        refine x_ast (np := 22) (x := 0) (kd := 1) (n := 400) (i := u482) (by decide +kernel) (Or.inl rfl) (ta_12_400 t3) (by first | decide | omega) (by first | decide | omega) (by decide) (by decide) (fun z => absurd z (by decide)) ?_
        have j485 := jU (e := u482) (v := 2147484654) u482 j31 (rg_T12_0_1_400 t3) (by first | decide | omega) (by first | decide | omega) (by first | decide | omega)
        have f487 := jF (e := u482) (v := 2147484654) u482 f37 (rg_T12_0_1_400 t3) (by first | decide | omega) (by first | decide | omega) (by decide)
        generalize e486 : x_up h30 (r1 + 12) u482 2147484654 = h484 at j485 f487 ⊢
        refine x_aload (np := 23) (x := 0) (by decide +kernel) rfl (x_nc_le (tn_11 t3)) ?_
        refine x_dup (np := 24) (x := 0) (by decide +kernel) (by have z := x_nc_le (k := (r1 + 11)) (tn_11 t3); unfold x_r; omega) ?_
        have q488 : h484 (r1 + 11) 2 = h30 (r1 + 11) 2 := by rw [← e486]; exact x_up_k tof_11_12
        have q489 : h30 (r1 + 11) 2 = h (r1 + 11) 2 := jK 0 f32 (rg_T11_2_0_1 t3) (by first | decide | omega) (by first | decide | omega) (by decide)
        refine x_getC (np := 27) (x := 130) (f := 2) (q := (h (r1 + 11) 2)) (by decide +kernel) (by decide) (tg_11_130_2_0 t3) (q488.trans q489) (fun l490 => ?_)
        refine x_const (np := 28) (x := 9223372043297226753) (a := 2147483649) (by decide +kernel) (by decide) (by decide) ?_
        refine x_iadd (np := 29) (x := 0) (v := (1 + (h (r1 + 11) 2))) (by decide +kernel) l476 (by decide) (by first | decide | omega) (by first | decide | omega) ?_
        refine x_putI (np := 32) (x := 130) (f := 2) (by decide +kernel) (tg_11_130_2_0 t3) (by first | decide | omega) (Or.inl (by decide)) ?_
        have j492 := jU (e := 2) (v := (1 + (h (r1 + 11) 2))) 0 j485 (rg_T11_2_0_1 t3) (by first | decide | omega) (by first | decide | omega) (by first | decide | omega)
        have f494 := jF (e := 2) (v := (1 + (h (r1 + 11) 2))) 0 f487 (rg_T11_2_0_1 t3) (by first | decide | omega) (by first | decide | omega) (by decide)
        generalize e493 : x_up h484 (r1 + 11) 2 (1 + (h (r1 + 11) 2)) = h491 at j492 f494 ⊢
        refine x_const (np := 33) (x := 9223372043297226753) (a := 2147483649) (by decide +kernel) (by decide) (by decide) ?_
        refine x_retI (np := 34) (x := 0) (by decide +kernel) (by decide) (Or.inr ⟨by decide +kernel, by first | decide | omega, by first | decide | omega⟩) ⟨_, rfl, (by decide), ?_⟩
        have q495 : h491 1 2 = h484 1 2 := by rw [← e493]; exact x_up_k (Ne.symm (tne_11_1 t3))
        have q496 : h484 1 2 = h30 1 2 := by rw [← e486]; exact x_up_k (Ne.symm (tne_12_1 t3))
        have q497 : h491 62 1 = h484 62 1 := by rw [← e493]; exact x_up_k (Ne.symm (tne_11_62 t3))
        have q498 : h484 62 1 = h30 62 1 := by rw [← e486]; exact x_up_k (Ne.symm (tne_12_62 t3))
        have q499 : h30 62 1 = h 62 1 := f32 62 1 (by decide +kernel)
        have q500 : h491 (r1 + 11) 2 = (1 + (h (r1 + 11) 2)) := by rw [← e493]; exact x_up_at
        have e501 : cl9 h491 = (1 + (h (r1 + 11) 2)) := (congrArg (fun z => h491 z 2) (((q497.trans q498).trans q499).trans q2)).trans q500
        have q502 : h491 1 2 = h484 1 2 := by rw [← e493]; exact x_up_k (Ne.symm (tne_11_1 t3))
        have q503 : h484 1 2 = h30 1 2 := by rw [← e486]; exact x_up_k (Ne.symm (tne_12_1 t3))
        obtain ⟨w504, e505⟩ := Tk.yes c36 (by first | decide | omega)
        have q506 : h491 1 2 = h484 1 2 := by rw [← e493]; exact x_up_k (Ne.symm (tne_11_1 t3))
        have q507 : h484 1 2 = h30 1 2 := by rw [← e486]; exact x_up_k (Ne.symm (tne_12_1 t3))
        refine x_retI (np := 140) (x := 0) (by decide +kernel) (by decide) (Or.inr ⟨by decide +kernel, by first | decide | omega, by first | decide | omega⟩) ⟨_, rfl, (by decide), ?_⟩
        exact ⟨j492, f494, (by first | decide | omega), (fun z => by first | decide | omega), (fun z => by first | decide | omega), (gA_own w504 rfl e505 (by first | decide | omega) (show h30 1 2 = h491 1 2 by first | decide | omega)), (fun z => absurd z (by first | decide | omega))⟩
      have q478 : ¬ ((h (r1 + 11) 2) < 2147484048) := q478
      exfalso; omega
    have q25 : ¬ (v17 = 2147483648) := q25
    have b508 := c20 (by first | decide | omega)
    refine x_iload (np := 72) (x := 1) (by decide +kernel) rfl (by decide) ?_
    refine x_const (np := 74) (x := 9223372064772063238) (a := 2147483654) (by decide +kernel) (by decide) (by decide) ?_
    refine x_icmp (k := 3) (tg := 115) (np := 77) (by decide +kernel) (by decide) (by decide) (by decide) (fun q509 => ?_) (fun q510 => ?_)
    · have q509 : 2147483654 ≤ 2147483652 := q509
      exfalso; omega
    have q510 : ¬ (2147483654 ≤ 2147483652) := q510
    refine x_aload (np := 78) (x := 0) (by decide +kernel) rfl (x_nc_le (by decide)) ?_
    have q511 : h 62 0 = 1 := by have z := jB (e := 0) 0 hJ rg_62_0_0_1 (by decide) (by decide); omega
    refine x_getR (np := 81) (x := 192) (f := 0) (q := 1) (by decide +kernel) (by decide) (by decide +kernel) q511 ?_
    refine x_const (np := 83) (x := 9223372210800951336) (a := 2147483688) (by decide +kernel) (by decide) (by decide) ?_
    refine x_cI (t := 6) (mj := 76) (n := 2) (rc := 8) (ml := 2) (nr := 0) (np := 86) (as := [x_r 1, iv_c 2147483688]) (rest := []) (lo1 := [x_r 1, iv_c 2147483688]) (by decide +kernel) (by decide) (by decide +kernel) (x_rb_of (by decide +kernel)) rfl rfl (x_wr (by decide) (x_wi (by decide) x_wn)) x_wn (by decide) rfl (c76_1 hJ  (by first | decide | omega) hT) (fun v512 h515 l513 q514 => ?_)
    obtain ⟨j516, f517, b518, c519, c520, c521⟩ := q514
    have f522 := Fr.trans hF f517 (by decide)
    have b523 := jB (e := 2) 0 j516 rg_1_2_0_1 (by first | decide | omega) (by first | decide | omega)
    refine x_ifz (k := 0) (tg := 115) (np := 89) (by decide +kernel) (by decide) l513 (fun q524 => ?_) (fun q525 => ?_)
    · have q524 : v512 = 2147483648 := q524
      have b526 := c520 (by first | decide | omega)
      refine x_const (np := 116) (x := 9223372039002259456) (a := 2147483648) (by decide +kernel) (by decide) (by decide) ?_
      have q527 : h515 62 1 = h 62 1 := f517 62 1 (by decide +kernel)
      have q528 : h515 (r1 + 11) 2 = h (r1 + 11) 2 := jK 0 f517 (rg_T11_2_0_1 t3) (by first | decide | omega) (by first | decide | omega) (by decide)
      have e529 : cl9 h515 = (h (r1 + 11) 2) := (congrArg (fun z => h515 z 2) (q527.trans q2)).trans q528
      obtain ⟨w530, e531⟩ := Tk.no c521 (by first | decide | omega)
      obtain ⟨w532, e533⟩ := Tk.no c521 (by first | decide | omega)
      refine x_retI (np := 117) (x := 0) (by decide +kernel) (by decide) (Or.inr ⟨by decide +kernel, by first | decide | omega, by first | decide | omega⟩) ⟨_, rfl, (by decide), ?_⟩
      exact ⟨j516, f522, (by first | decide | omega), (fun z => by first | decide | omega), (fun z => by first | decide | omega), (absurd (Is.yes c21 (by first | decide | omega)) w530), (fun _ => absurd (Is.yes c21 (by first | decide | omega)) w532)⟩
    have q525 : ¬ (v512 = 2147483648) := q525
    have b534 := c519 (by first | decide | omega)
    refine x_aload (np := 90) (x := 0) (by decide +kernel) rfl (x_nc_le (by decide)) ?_
    refine x_iload (np := 91) (x := 1) (by decide +kernel) rfl (by decide) ?_
    refine x_const (np := 92) (x := 9223372043297226753) (a := 2147483649) (by decide +kernel) (by decide) (by decide) ?_
    refine x_iadd (np := 93) (x := 0) (v := 2147483653) (by decide +kernel) (by decide) (by decide) (by first | decide | omega) (by first | decide | omega) ?_
    have q535 : h515 62 1 = h 62 1 := f517 62 1 (by decide +kernel)
    have q536 : h515 (r1 + 11) 2 = h (r1 + 11) 2 := jK 0 f517 (rg_T11_2_0_1 t3) (by first | decide | omega) (by first | decide | omega) (by decide)
    have e537 : cl9 h515 = (h (r1 + 11) 2) := (congrArg (fun z => h515 z 2) (q535.trans q2)).trans q536
    have m541 := Tp.fr hT f517 (by decide) (by decide)
    refine x_cI (t := 6) (mj := 46) (n := 2) (rc := 4) (ml := 3) (nr := 0) (np := 96) (as := [x_r 62, iv_c 2147483653]) (rest := []) (lo1 := [x_r 62, iv_c 2147483653, 147573952589676412928]) (by decide +kernel) (by decide) (by decide +kernel) (x_rb_of (by decide +kernel)) rfl rfl (x_wr (by decide) (x_wi (by decide) x_wn)) x_wn (by decide) rfl (c46_62_c5 j516   (by first | decide | omega) m541) (fun v538 h542 l539 q540 => ?_)
    obtain ⟨j543, f544, b545, c546, c547, c548, c549⟩ := q540
    have f550 := Fr.trans f522 f544 (by decide)
    have b551 := jB (e := 2) 0 j543 rg_1_2_0_1 (by first | decide | omega) (by first | decide | omega)
    have q552 : h515 62 1 = h 62 1 := f517 62 1 (by decide +kernel)
    have q553 : h515 (r1 + 11) 2 = h (r1 + 11) 2 := jK 0 f517 (rg_T11_2_0_1 t3) (by first | decide | omega) (by first | decide | omega) (by decide)
    have q554 : h542 62 1 = h515 62 1 := f544 62 1 (by decide +kernel)
    have q555 : h515 62 1 = h 62 1 := f517 62 1 (by decide +kernel)
    have b556 := jB (e := 2) 0 j543 (rg_T11_2_0_1 t3) (by first | decide | omega) (by first | decide | omega)
    have e557 : cl9 h542 = (h542 (r1 + 11) 2) := (congrArg (fun z => h542 z 2) ((q554.trans q555).trans q2)).trans rfl
    refine x_ifz (k := 0) (tg := 115) (np := 99) (by decide +kernel) (by decide) l539 (fun q558 => ?_) (fun q559 => ?_)
    · have q558 : v538 = 2147483648 := q558
      refine x_const (np := 116) (x := 9223372039002259456) (a := 2147483648) (by decide +kernel) (by decide) (by decide) ?_
      have q560 : h542 62 1 = h515 62 1 := f544 62 1 (by decide +kernel)
      have q561 : h515 62 1 = h 62 1 := f517 62 1 (by decide +kernel)
      obtain ⟨w562, e563⟩ := Tk.yes c521 (by first | decide | omega)
      obtain ⟨w564, e565⟩ := Tk.yes c521 (by first | decide | omega)
      refine x_retI (np := 117) (x := 0) (by decide +kernel) (by decide) (Or.inr ⟨by decide +kernel, by first | decide | omega, by first | decide | omega⟩) ⟨_, rfl, (by decide), ?_⟩
      exact ⟨j543, f550, (by first | decide | omega), (fun z => by first | decide | omega), (fun z => by first | decide | omega), (gA_par0 w562 rfl e563 (by decide) c548 rfl (by first | decide | omega) (by first | decide | omega)), (fun _ => fA_par0 w564 rfl e565 (by decide) (c549 (by first | decide | omega)) rfl rfl)⟩
    have q559 : ¬ (v538 = 2147483648) := q559
    have b566 := c546 (by first | decide | omega)
    have b567 := c547 (by first | decide | omega)
    refine x_aload (np := 100) (x := 0) (by decide +kernel) rfl (x_nc_le (by decide)) ?_
    have q568 : h542 62 0 = 1 := by have z := jB (e := 0) 0 j543 rg_62_0_0_1 (by decide) (by decide); omega
    refine x_getR (np := 103) (x := 192) (f := 0) (q := 1) (by decide +kernel) (by decide) (by decide +kernel) q568 ?_
    refine x_const (np := 105) (x := 9223372215095918633) (a := 2147483689) (by decide +kernel) (by decide) (by decide) ?_
    have m572 := Tp.fr m541 f544 (by decide) (by decide)
    refine x_cI (t := 6) (mj := 76) (n := 2) (rc := 8) (ml := 2) (nr := 0) (np := 108) (as := [x_r 1, iv_c 2147483689]) (rest := []) (lo1 := [x_r 1, iv_c 2147483689]) (by decide +kernel) (by decide) (by decide +kernel) (x_rb_of (by decide +kernel)) rfl rfl (x_wr (by decide) (x_wi (by decide) x_wn)) x_wn (by decide) rfl (c76_1 j543  (by first | decide | omega) m572) (fun v569 h573 l570 q571 => ?_)
    obtain ⟨j574, f575, b576, c577, c578, c579⟩ := q571
    have f580 := Fr.trans f550 f575 (by decide)
    have b581 := jB (e := 2) 0 j574 rg_1_2_0_1 (by first | decide | omega) (by first | decide | omega)
    refine x_ifz (k := 0) (tg := 115) (np := 111) (by decide +kernel) (by decide) l570 (fun q582 => ?_) (fun q583 => ?_)
    · have q582 : v569 = 2147483648 := q582
      have b584 := c578 (by first | decide | omega)
      refine x_const (np := 116) (x := 9223372039002259456) (a := 2147483648) (by decide +kernel) (by decide) (by decide) ?_
      have q585 : h573 62 1 = h542 62 1 := f575 62 1 (by decide +kernel)
      have q586 : h542 62 1 = h515 62 1 := f544 62 1 (by decide +kernel)
      have q587 : h515 62 1 = h 62 1 := f517 62 1 (by decide +kernel)
      have q588 : h573 (r1 + 11) 2 = h542 (r1 + 11) 2 := jK 0 f575 (rg_T11_2_0_1 t3) (by first | decide | omega) (by first | decide | omega) (by decide)
      have e589 : cl9 h573 = (h542 (r1 + 11) 2) := (congrArg (fun z => h573 z 2) (((q585.trans q586).trans q587).trans q2)).trans q588
      obtain ⟨w590, e591⟩ := Tk.yes c521 (by first | decide | omega)
      obtain ⟨w592, e593⟩ := Tk.yes c521 (by first | decide | omega)
      refine x_retI (np := 117) (x := 0) (by decide +kernel) (by decide) (Or.inr ⟨by decide +kernel, by first | decide | omega, by first | decide | omega⟩) ⟨_, rfl, (by decide), ?_⟩
      exact ⟨j574, f580, (by first | decide | omega), (fun z => by first | decide | omega), (fun z => by first | decide | omega), (gA_parT w590 rfl e591 (by decide) c548 rfl (by first | decide | omega) c579 rfl (by first | decide | omega) (fun z => absurd z (by first | decide | omega))), (fun _ => fA_par1 w592 rfl e593 (by decide) c548 rfl (by first | decide | omega) (Tk.no c579 (by first | decide | omega)).1 rfl (show h573 1 2 = h542 1 2 by first | decide | omega))⟩
    have q583 : ¬ (v569 = 2147483648) := q583
    have b594 := c577 (by first | decide | omega)
    refine x_const (np := 112) (x := 9223372043297226753) (a := 2147483649) (by decide +kernel) (by decide) (by decide) ?_
    refine x_goto (np := 115) (x := 116) (by decide +kernel) ?_
    have q595 : h573 62 1 = h542 62 1 := f575 62 1 (by decide +kernel)
    have q596 : h542 62 1 = h515 62 1 := f544 62 1 (by decide +kernel)
    have q597 : h515 62 1 = h 62 1 := f517 62 1 (by decide +kernel)
    have q598 : h573 (r1 + 11) 2 = h542 (r1 + 11) 2 := jK 0 f575 (rg_T11_2_0_1 t3) (by first | decide | omega) (by first | decide | omega) (by decide)
    have e599 : cl9 h573 = (h542 (r1 + 11) 2) := (congrArg (fun z => h573 z 2) (((q595.trans q596).trans q597).trans q2)).trans q598
    obtain ⟨w600, e601⟩ := Tk.yes c521 (by first | decide | omega)
    refine x_retI (np := 117) (x := 0) (by decide +kernel) (by decide) (Or.inr ⟨by decide +kernel, by first | decide | omega, by first | decide | omega⟩) ⟨_, rfl, (by decide), ?_⟩
    exact ⟨j574, f580, (by first | decide | omega), (fun z => by first | decide | omega), (fun z => by first | decide | omega), (gA_parT w600 rfl e601 (by decide) c548 rfl (by first | decide | omega) c579 rfl (by first | decide | omega) (fun z => rfl)), (fun z => absurd z (by first | decide | omega))⟩
  have q15 : ¬ (v8 = 2147483648) := q15
  have b602 := c11 (by first | decide | omega)
  refine x_iload (np := 13) (x := 1) (by decide +kernel) rfl (by decide) ?_
  refine x_const (np := 15) (x := 9223372064772063238) (a := 2147483654) (by decide +kernel) (by decide) (by decide) ?_
  refine x_icmp (k := 3) (tg := 57) (np := 18) (by decide +kernel) (by decide) (by decide) (by decide) (fun q603 => ?_) (fun q604 => ?_)
  · have q603 : 2147483654 ≤ 2147483652 := q603
    exfalso; omega
  have q604 : ¬ (2147483654 ≤ 2147483652) := q604
  refine x_aload (np := 19) (x := 0) (by decide +kernel) rfl (x_nc_le (by decide)) ?_
  have q605 : h 62 0 = 1 := by have z := jB (e := 0) 0 hJ rg_62_0_0_1 (by decide) (by decide); omega
  refine x_getR (np := 22) (x := 192) (f := 0) (q := 1) (by decide +kernel) (by decide) (by decide +kernel) q605 ?_
  refine x_ldcB (i := 24) (idx := 71) (tx := "not") (by rw [tb_y48]; exact List.mem_of_getElem? (i := 24) rfl) (by decide) (by rw [tb_b48]; decide +kernel) ?_
  refine x_cI (t := 6) (mj := 78) (n := 2) (rc := 8) (ml := 2) (nr := 0) (np := 27) (as := [x_r 1, x_b (24 + 1)]) (rest := []) (lo1 := [x_r 1, x_b (24 + 1)]) (by decide +kernel) (by decide) (by decide +kernel) (x_rb_of (by decide +kernel)) rfl rfl (x_wr (by decide) (x_wB (by decide) x_wn)) x_wn (by decide) rfl (c78_1_S0 hJ  (by decide) hT) (fun v606 h609 l607 q608 => ?_)
  obtain ⟨j610, f611, b612, c613, c614, c615⟩ := q608
  have f616 := Fr.trans hF f611 (by decide)
  have b617 := jB (e := 2) 0 j610 rg_1_2_0_1 (by first | decide | omega) (by first | decide | omega)
  have b618 : iv_tl 24 = 3 := by decide
  refine x_ifz (k := 0) (tg := 57) (np := 30) (by decide +kernel) (by decide) l607 (fun q619 => ?_) (fun q620 => ?_)
  · have q619 : v606 = 2147483648 := q619
    have b621 := c614 (by first | decide | omega)
    refine x_const (np := 58) (x := 9223372039002259456) (a := 2147483648) (by decide +kernel) (by decide) (by decide) ?_
    have q622 : h609 62 1 = h 62 1 := f611 62 1 (by decide +kernel)
    have q623 : h609 (r1 + 11) 2 = h (r1 + 11) 2 := jK 0 f611 (rg_T11_2_0_1 t3) (by first | decide | omega) (by first | decide | omega) (by decide)
    have e624 : cl9 h609 = (h (r1 + 11) 2) := (congrArg (fun z => h609 z 2) (q622.trans q2)).trans q623
    obtain ⟨w625, e626⟩ := Tk.no c615 (by first | decide | omega)
    obtain ⟨w627, e628⟩ := Tk.no c615 (by first | decide | omega)
    refine x_retI (np := 59) (x := 0) (by decide +kernel) (by decide) (Or.inr ⟨by decide +kernel, by first | decide | omega, by first | decide | omega⟩) ⟨_, rfl, (by decide), ?_⟩
    exact ⟨j610, f616, (by first | decide | omega), (fun z => by first | decide | omega), (fun z => by first | decide | omega), (absurd (Is.yes c12 (by first | decide | omega)) w625), (fun _ => absurd (Is.yes c12 (by first | decide | omega)) w627)⟩
  have q620 : ¬ (v606 = 2147483648) := q620
  have b629 := c613 (by first | decide | omega)
  refine x_aload (np := 31) (x := 0) (by decide +kernel) rfl (x_nc_le (by decide)) ?_
  refine x_iload (np := 32) (x := 1) (by decide +kernel) rfl (by decide) ?_
  refine x_const (np := 33) (x := 9223372043297226753) (a := 2147483649) (by decide +kernel) (by decide) (by decide) ?_
  refine x_iadd (np := 34) (x := 0) (v := 2147483653) (by decide +kernel) (by decide) (by decide) (by first | decide | omega) (by first | decide | omega) ?_
  have q630 : h609 62 1 = h 62 1 := f611 62 1 (by decide +kernel)
  have q631 : h609 (r1 + 11) 2 = h (r1 + 11) 2 := jK 0 f611 (rg_T11_2_0_1 t3) (by first | decide | omega) (by first | decide | omega) (by decide)
  have e632 : cl9 h609 = (h (r1 + 11) 2) := (congrArg (fun z => h609 z 2) (q630.trans q2)).trans q631
  have m636 := Tp.fr hT f611 (by decide) (by decide)
  refine x_cI (t := 6) (mj := 48) (n := 2) (rc := 4) (ml := 2) (nr := 0) (np := 37) (as := [x_r 62, iv_c 2147483653]) (rest := []) (lo1 := [x_r 62, iv_c 2147483653]) (by decide +kernel) (by decide) (by decide +kernel) (x_rb_of (by decide +kernel)) rfl rfl (x_wr (by decide) (x_wi (by decide) x_wn)) x_wn (by decide) rfl (c48_62_c5 j610   (by first | decide | omega) m636) (fun v633 h637 l634 q635 => ?_)
  obtain ⟨j638, f639, b640, c641, c642, c643, c644⟩ := q635
  have f645 := Fr.trans f616 f639 (by decide)
  have b646 := jB (e := 2) 0 j638 rg_1_2_0_1 (by first | decide | omega) (by first | decide | omega)
  have q647 : h609 62 1 = h 62 1 := f611 62 1 (by decide +kernel)
  have q648 : h609 (r1 + 11) 2 = h (r1 + 11) 2 := jK 0 f611 (rg_T11_2_0_1 t3) (by first | decide | omega) (by first | decide | omega) (by decide)
  have q649 : h637 62 1 = h609 62 1 := f639 62 1 (by decide +kernel)
  have q650 : h609 62 1 = h 62 1 := f611 62 1 (by decide +kernel)
  have b651 := jB (e := 2) 0 j638 (rg_T11_2_0_1 t3) (by first | decide | omega) (by first | decide | omega)
  have e652 : cl9 h637 = (h637 (r1 + 11) 2) := (congrArg (fun z => h637 z 2) ((q649.trans q650).trans q2)).trans rfl
  refine x_ifz (k := 0) (tg := 57) (np := 40) (by decide +kernel) (by decide) l634 (fun q653 => ?_) (fun q654 => ?_)
  · have q653 : v633 = 2147483648 := q653
    refine x_const (np := 58) (x := 9223372039002259456) (a := 2147483648) (by decide +kernel) (by decide) (by decide) ?_
    have q655 : h637 62 1 = h609 62 1 := f639 62 1 (by decide +kernel)
    have q656 : h609 62 1 = h 62 1 := f611 62 1 (by decide +kernel)
    obtain ⟨w657, e658⟩ := Tk.yes c615 (by first | decide | omega)
    obtain ⟨w659, e660⟩ := Tk.yes c615 (by first | decide | omega)
    refine x_retI (np := 59) (x := 0) (by decide +kernel) (by decide) (Or.inr ⟨by decide +kernel, by first | decide | omega, by first | decide | omega⟩) ⟨_, rfl, (by decide), ?_⟩
    exact ⟨j638, f645, (by first | decide | omega), (fun z => by first | decide | omega), (fun z => by first | decide | omega), (gA_not w657 rfl e658 (by decide) c643 rfl (by first | decide | omega) (fun z => absurd z (by first | decide | omega))), (fun _ => fA_not w659 rfl e660 (by decide) (c644 (by first | decide | omega)) rfl rfl)⟩
  have q654 : ¬ (v633 = 2147483648) := q654
  have b661 := c641 (by first | decide | omega)
  have b662 := c642 (by first | decide | omega)
  refine x_aload (np := 41) (x := 0) (by decide +kernel) rfl (x_nc_le (by decide)) ?_
  have q663 : h637 62 1 = h609 62 1 := f639 62 1 (by decide +kernel)
  have q664 : h609 62 1 = h 62 1 := f611 62 1 (by decide +kernel)
  refine x_getR (np := 44) (x := 193) (f := 1) (q := (r1 + 11)) (by decide +kernel) (by decide) (by decide +kernel) ((q663.trans q664).trans q2) ?_
  refine x_const (np := 47) (x := 9223380641821755347) (a := 2147485651) (by decide +kernel) (by decide) (by decide) ?_
  refine x_nI (t := 6) (mj := 36) (n := 2) (rc := 3) (ml := 2) (nr := 0) (np := 50) (as := [x_r (r1 + 11), iv_c 2147485651]) (rest := []) (lo1 := [x_r (r1 + 11), iv_c 2147485651]) (by decide +kernel) (by decide) (by decide +kernel) (x_rb_of (tr_11_3 t3)) rfl rfl (x_wr (tn_11 t3) (x_wi (by decide) x_wn)) x_wn (by decide) rfl ?_
  refine x_aload (np := 1) (x := 0) (by decide +kernel) rfl (x_nc_le (tn_11 t3)) ?_
  refine x_getC (np := 4) (x := 130) (f := 2) (q := (h637 (r1 + 11) 2)) (by decide +kernel) (by decide) (tg_11_130_2_0 t3) rfl (fun l665 => ?_)
  refine x_const (np := 7) (x := 9223373756989178256) (a := 2147484048) (by decide +kernel) (by decide) (by decide) ?_
  refine x_icmp (k := 2) (tg := 12) (np := 10) (by decide +kernel) (by decide) l665 (by decide) (fun q666 => ?_) (fun q667 => ?_)
  · have q666 : (h637 (r1 + 11) 2) < 2147484048 := q666
    refine x_aload (np := 13) (x := 0) (by decide +kernel) rfl (x_nc_le (tn_11 t3)) ?_
    have q668 : h637 (r1 + 11) 0 = (r1 + 12) := tf_11_0 j638 t3
    refine x_getR (np := 16) (x := 128) (f := 0) (q := (r1 + 12)) (by decide +kernel) (by decide) (tg_11_128_0_1 t3) q668 ?_
    refine x_aload (np := 17) (x := 0) (by decide +kernel) rfl (x_nc_le (tn_11 t3)) ?_
    refine x_getC (np := 20) (x := 130) (f := 2) (q := (h637 (r1 + 11) 2)) (by decide +kernel) (by decide) (tg_11_130_2_0 t3) rfl (fun l669 => ?_)
    refine x_iload (np := 21) (x := 1) (by decide +kernel) rfl (by decide) ?_
    obtain ⟨u670, q671⟩ : ∃ z, (h637 (r1 + 11) 2) = 2147483648 + z := ⟨(h637 (r1 + 11) 2) - 2147483648, by first | decide | omega⟩
    refine x_ast (np := 22) (x := 0) (kd := 1) (n := 400) (i := u670) (by decide +kernel) (Or.inl rfl) (ta_12_400 t3) (by first | decide | omega) (by first | decide | omega) (by decide) (by decide) (fun z => absurd z (by decide)) ?_
    have j673 := jU (e := u670) (v := 2147485651) u670 j638 (rg_T12_0_1_400 t3) (by first | decide | omega) (by first | decide | omega) (by first | decide | omega)
    have f675 := jF (e := u670) (v := 2147485651) u670 f645 (rg_T12_0_1_400 t3) (by first | decide | omega) (by first | decide | omega) (by decide)
    generalize e674 : x_up h637 (r1 + 12) u670 2147485651 = h672 at j673 f675 ⊢
    refine x_aload (np := 23) (x := 0) (by decide +kernel) rfl (x_nc_le (tn_11 t3)) ?_
    refine x_dup (np := 24) (x := 0) (by decide +kernel) (by have z := x_nc_le (k := (r1 + 11)) (tn_11 t3); unfold x_r; omega) ?_
    have q676 : h672 (r1 + 11) 2 = h637 (r1 + 11) 2 := by rw [← e674]; exact x_up_k tof_11_12
    refine x_getC (np := 27) (x := 130) (f := 2) (q := (h637 (r1 + 11) 2)) (by decide +kernel) (by decide) (tg_11_130_2_0 t3) q676 (fun l677 => ?_)
    refine x_const (np := 28) (x := 9223372043297226753) (a := 2147483649) (by decide +kernel) (by decide) (by decide) ?_
    refine x_iadd (np := 29) (x := 0) (v := (1 + (h637 (r1 + 11) 2))) (by decide +kernel) l665 (by decide) (by first | decide | omega) (by first | decide | omega) ?_
    refine x_putI (np := 32) (x := 130) (f := 2) (by decide +kernel) (tg_11_130_2_0 t3) (by first | decide | omega) (Or.inl (by decide)) ?_
    have j679 := jU (e := 2) (v := (1 + (h637 (r1 + 11) 2))) 0 j673 (rg_T11_2_0_1 t3) (by first | decide | omega) (by first | decide | omega) (by first | decide | omega)
    have f681 := jF (e := 2) (v := (1 + (h637 (r1 + 11) 2))) 0 f675 (rg_T11_2_0_1 t3) (by first | decide | omega) (by first | decide | omega) (by decide)
    generalize e680 : x_up h672 (r1 + 11) 2 (1 + (h637 (r1 + 11) 2)) = h678 at j679 f681 ⊢
    refine x_const (np := 33) (x := 9223372043297226753) (a := 2147483649) (by decide +kernel) (by decide) (by decide) ?_
    refine x_retI (np := 34) (x := 0) (by decide +kernel) (by decide) (Or.inr ⟨by decide +kernel, by first | decide | omega, by first | decide | omega⟩) ⟨_, rfl, (by decide), ?_⟩
    refine x_ifz (k := 0) (tg := 57) (np := 53) (by decide +kernel) (by decide) (by decide) (fun q682 => ?_) (fun q683 => ?_)
    · have q682 : 2147483649 = 2147483648 := q682
      exfalso; omega
    have q683 : ¬ (2147483649 = 2147483648) := q683
    refine x_const (np := 54) (x := 9223372043297226753) (a := 2147483649) (by decide +kernel) (by decide) (by decide) ?_
    refine x_goto (np := 57) (x := 58) (by decide +kernel) ?_
    have q684 : h678 1 2 = h672 1 2 := by rw [← e680]; exact x_up_k (Ne.symm (tne_11_1 t3))
    have q685 : h672 1 2 = h637 1 2 := by rw [← e674]; exact x_up_k (Ne.symm (tne_12_1 t3))
    have q686 : h678 62 1 = h672 62 1 := by rw [← e680]; exact x_up_k (Ne.symm (tne_11_62 t3))
    have q687 : h672 62 1 = h637 62 1 := by rw [← e674]; exact x_up_k (Ne.symm (tne_12_62 t3))
    have q688 : h637 62 1 = h609 62 1 := f639 62 1 (by decide +kernel)
    have q689 : h609 62 1 = h 62 1 := f611 62 1 (by decide +kernel)
    have q690 : h678 (r1 + 11) 2 = (1 + (h637 (r1 + 11) 2)) := by rw [← e680]; exact x_up_at
    have e691 : cl9 h678 = (1 + (h637 (r1 + 11) 2)) := (congrArg (fun z => h678 z 2) ((((q686.trans q687).trans q688).trans q689).trans q2)).trans q690
    have q692 : h678 1 2 = h672 1 2 := by rw [← e680]; exact x_up_k (Ne.symm (tne_11_1 t3))
    have q693 : h672 1 2 = h637 1 2 := by rw [← e674]; exact x_up_k (Ne.symm (tne_12_1 t3))
    obtain ⟨w694, e695⟩ := Tk.yes c615 (by first | decide | omega)
    have q696 : h678 1 2 = h672 1 2 := by rw [← e680]; exact x_up_k (Ne.symm (tne_11_1 t3))
    have q697 : h672 1 2 = h637 1 2 := by rw [← e674]; exact x_up_k (Ne.symm (tne_12_1 t3))
    refine x_retI (np := 59) (x := 0) (by decide +kernel) (by decide) (Or.inr ⟨by decide +kernel, by first | decide | omega, by first | decide | omega⟩) ⟨_, rfl, (by decide), ?_⟩
    exact ⟨j679, f681, (by first | decide | omega), (fun z => by first | decide | omega), (fun z => by first | decide | omega), (gA_not w694 rfl e695 (by decide) c643 rfl (by first | decide | omega) (fun z => (show h637 1 2 = h678 1 2 by first | decide | omega))), (fun z => absurd z (by first | decide | omega))⟩
  have q667 : ¬ ((h637 (r1 + 11) 2) < 2147484048) := q667
  refine x_const (np := 11) (x := 9223372039002259456) (a := 2147483648) (by decide +kernel) (by decide) (by decide) ?_
  refine x_retI (np := 12) (x := 0) (by decide +kernel) (by decide) (Or.inr ⟨by decide +kernel, by first | decide | omega, by first | decide | omega⟩) ⟨_, rfl, (by decide), ?_⟩
  refine x_ifz (k := 0) (tg := 57) (np := 53) (by decide +kernel) (by decide) (by decide) (fun q698 => ?_) (fun q699 => ?_)
  · have q698 : 2147483648 = 2147483648 := q698
    refine x_const (np := 58) (x := 9223372039002259456) (a := 2147483648) (by decide +kernel) (by decide) (by decide) ?_
    have q700 : h637 62 1 = h609 62 1 := f639 62 1 (by decide +kernel)
    have q701 : h609 62 1 = h 62 1 := f611 62 1 (by decide +kernel)
    obtain ⟨w702, e703⟩ := Tk.yes c615 (by first | decide | omega)
    obtain ⟨w704, e705⟩ := Tk.yes c615 (by first | decide | omega)
    refine x_retI (np := 59) (x := 0) (by decide +kernel) (by decide) (Or.inr ⟨by decide +kernel, by first | decide | omega, by first | decide | omega⟩) ⟨_, rfl, (by decide), ?_⟩
    exact ⟨j638, f645, (by first | decide | omega), (fun z => by first | decide | omega), (fun z => by first | decide | omega), (gA_not w702 rfl e703 (by decide) c643 rfl (by first | decide | omega) (fun z => rfl)), (fun _ => fA_not w704 rfl e705 (by decide) (c644 (by first | decide | omega)) rfl rfl)⟩
  have q699 : ¬ (2147483648 = 2147483648) := q699
  exfalso; omega
