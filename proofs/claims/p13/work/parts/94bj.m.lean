/-! ===== methods ===== -/
set_option maxHeartbeats 0 in
/-- LentNames$CustomReader.readAll(I)Z -/
theorem c47_62_c0 {sc : Nat × Nat} {d  : Nat} {h : xh} {tB : Nat → Nat} {tN : Nat} (hJ : J h) (hr0 : (cl9 h) + 5 ≤ (h 1 2)) (hT : Tp tB tN h) : X sc 47 (d + 27) (xI fun r h' => J h' ∧ Fr 161 h h' ∧ (2147483648 ≤ r ∧ r ≤ 2147483649) ∧ (r = 2147483649 → h 1 2 + 1 ≤ h' 1 2) ∧ (r = 2147483649 → cl9 h' + h 1 2 ≤ h' 1 2 + cl9 h) ∧ G tB tN (Kd.seq 1) 0 (h 1 2) (rs r (h' 1 2))) 0 0 0 [x_r 62, iv_c 2147483648, 147573952589676412928] [] h := by
  have hF := Fr.refl 161 h
  obtain ⟨r1, q2, t3⟩ : ∃ z, (h 62 1) = z + 11 ∧ tw z := by
    rcases hJ.2.2.2.2.2.2.2 with z | z
    · exact ⟨17, by rw [z], Or.inl rfl⟩
    · exact ⟨31, by rw [z], Or.inr rfl⟩
  have b4 := jB (e := 2) 0 hJ (rg_T11_2_0_1 t3) (by first | decide | omega) (by first | decide | omega)
  have e5 : cl9 h = (h (r1 + 11) 2) := (congrArg (fun z => h z 2) q2).trans rfl
  have b6 := jB (e := 2) 0 hJ rg_1_2_0_1 (by first | decide | omega) (by first | decide | omega)
  refine x_aload (np := 1) (x := 0) (by decide +kernel) rfl (x_nc_le (by decide)) ?_
  refine x_iload (np := 2) (x := 1) (by decide +kernel) rfl (by decide) ?_
  refine x_cI (t := 6) (mj := 48) (n := 2) (rc := 4) (ml := 2) (nr := 0) (np := 5) (as := [x_r 62, iv_c 2147483648]) (rest := []) (lo1 := [x_r 62, iv_c 2147483648]) (by decide +kernel) (by decide) (by decide +kernel) (x_rb_of (by decide +kernel)) rfl rfl (x_wr (by decide) (x_wi (by decide) x_wn)) x_wn (by decide) rfl (c48_62_c0 hJ   (by first | decide | omega) hT) (fun v7 h10 l8 q9 => ?_)
  obtain ⟨j11, f12, b13, c14, c15, c16⟩ := q9
  have f17 := Fr.trans hF f12 (by decide)
  have b18 := jB (e := 2) 0 j11 rg_1_2_0_1 (by first | decide | omega) (by first | decide | omega)
  have q19 : h10 62 1 = h 62 1 := f12 62 1 (by decide +kernel)
  have b20 := jB (e := 2) 0 j11 (rg_T11_2_0_1 t3) (by first | decide | omega) (by first | decide | omega)
  have e21 : cl9 h10 = (h10 (r1 + 11) 2) := (congrArg (fun z => h10 z 2) (q19.trans q2)).trans rfl
  refine x_ifz (k := 1) (tg := 10) (np := 8) (by decide +kernel) (by decide) l8 (fun q22 => ?_) (fun q23 => ?_)
  · have q22 : v7 ≠ 2147483648 := q22
    have b24 := c14 (by first | decide | omega)
    have b25 := c15 (by first | decide | omega)
    refine x_const (np := 11) (x := 9223372039002259456) (a := 2147483648) (by decide +kernel) (by decide) (by decide) ?_
    refine x_istore (np := 12) (x := 2) (lo' := [x_r 62, iv_c 2147483648, iv_c 2147483648]) (by decide +kernel) (by decide) (Nat.le_of_ble_eq_true rfl) rfl ?_
    have p2065 : ∀ (n : Nat) (v2060 : Nat) (h2062 : xh), 4294967296 - v2060 < n → (2147483648 ≤ v2060 ∧ v2060 ≤ 2147484047) → cl9 h2062 + h 1 2 ≤ h2062 1 2 + cl9 h → h 1 2 + 1 ≤ h2062 1 2 → v2060 ≤ h2062 1 2 → J h2062 → Fr 161 h10 h2062 → Res tB tN (Kd.lp 1) 0 (h2062 1 2) (Kd.seq 1) 0 (h 1 2) → X sc 47 (d + 27) (xI fun r h' => J h' ∧ Fr 161 h h' ∧ (2147483648 ≤ r ∧ r ≤ 2147483649) ∧ (r = 2147483649 → h 1 2 + 1 ≤ h' 1 2) ∧ (r = 2147483649 → cl9 h' + h 1 2 ≤ h' 1 2 + cl9 h) ∧ G tB tN (Kd.seq 1) 0 (h 1 2) (rs r (h' 1 2))) 0 0 12 [x_r 62, iv_c 2147483648, iv_c v2060] [] h2062 := by
      intro n
      induction n with
      | zero => intro v2060 h2062 q2070; exact absurd q2070 (Nat.not_lt_zero _)
      | succ n i2071 =>
        intro v2060 h2062 q2070 b2061 b2066 b2067 b2068 j2064 f2063 m2069
        have f2072 := Fr.trans f17 f2063 (by decide)
        have b2073 := jB (e := 2) 0 j2064 rg_1_2_0_1 (by first | decide | omega) (by first | decide | omega)
        have q2074 : h2062 62 1 = h10 62 1 := f2063 62 1 (by decide +kernel)
        have q2075 : h10 62 1 = h 62 1 := f12 62 1 (by decide +kernel)
        have b2076 := jB (e := 2) 0 j2064 (rg_T11_2_0_1 t3) (by first | decide | omega) (by first | decide | omega)
        have e2077 : cl9 h2062 = (h2062 (r1 + 11) 2) := (congrArg (fun z => h2062 z 2) ((q2074.trans q2075).trans q2)).trans rfl
        refine x_iload (np := 13) (x := 2) (by decide +kernel) rfl (by first | decide | omega) ?_
        refine x_const (np := 16) (x := 9223373756989178256) (a := 2147484048) (by decide +kernel) (by decide) (by decide) ?_
        refine x_icmp (k := 3) (tg := 60) (np := 19) (by decide +kernel) (by decide) (by first | decide | omega) (by decide) (fun q2078 => ?_) (fun q2079 => ?_)
        · have q2078 : 2147484048 ≤ v2060 := q2078
          exfalso; omega
        have q2079 : ¬ (2147484048 ≤ v2060) := q2079
        refine x_aload (np := 20) (x := 0) (by decide +kernel) rfl (x_nc_le (by decide)) ?_
        have q2080 : h2062 62 0 = 1 := by have z := jB (e := 0) 0 j2064 rg_62_0_0_1 (by decide) (by decide); omega
        refine x_getR (np := 23) (x := 192) (f := 0) (q := 1) (by decide +kernel) (by decide) (by decide +kernel) q2080 ?_
        refine x_ldcB (i := 31) (idx := 69) (tx := "and") (by rw [tb_y47]; exact List.mem_of_getElem? (i := 33) rfl) (by decide) (by rw [tb_b47]; decide +kernel) ?_
        have m2085 := Tp.fr hT f12 (by decide) (by decide)
        have m2084 := Tp.fr m2085 f2063 (by decide) (by decide)
        refine x_cI (t := 6) (mj := 78) (n := 2) (rc := 8) (ml := 2) (nr := 0) (np := 28) (as := [x_r 1, x_b (31 + 1)]) (rest := []) (lo1 := [x_r 1, x_b (31 + 1)]) (by decide +kernel) (by decide) (by decide +kernel) (x_rb_of (by decide +kernel)) rfl rfl (x_wr (by decide) (x_wB (by decide) x_wn)) x_wn (by decide) rfl (c78_1_S0 j2064  (by decide) m2084) (fun v2081 h2086 l2082 q2083 => ?_)
        obtain ⟨j2087, f2088, b2089, c2090, c2091, c2092⟩ := q2083
        have f2093 := Fr.trans f2072 f2088 (by decide)
        have f2094 := Fr.trans f2063 f2088 (by decide)
        have b2095 := jB (e := 2) 0 j2087 rg_1_2_0_1 (by first | decide | omega) (by first | decide | omega)
        have b2096 : iv_tl 31 = 3 := by decide
        refine x_ifz (k := 0) (tg := 60) (np := 31) (by decide +kernel) (by decide) l2082 (fun q2097 => ?_) (fun q2098 => ?_)
        · have q2097 : v2081 = 2147483648 := q2097
          have b2099 := c2091 (by first | decide | omega)
          refine x_const (np := 61) (x := 9223372043297226753) (a := 2147483649) (by decide +kernel) (by decide) (by decide) ?_
          have q2100 : h2086 62 1 = h2062 62 1 := f2088 62 1 (by decide +kernel)
          have q2101 : h2062 62 1 = h10 62 1 := f2063 62 1 (by decide +kernel)
          have q2102 : h10 62 1 = h 62 1 := f12 62 1 (by decide +kernel)
          have q2103 : h2086 (r1 + 11) 2 = h2062 (r1 + 11) 2 := jK 0 f2088 (rg_T11_2_0_1 t3) (by first | decide | omega) (by first | decide | omega) (by decide)
          have e2104 : cl9 h2086 = (h2062 (r1 + 11) 2) := (congrArg (fun z => h2086 z 2) (((q2100.trans q2101).trans q2102).trans q2)).trans q2103
          obtain ⟨w2105, e2106⟩ := Tk.no c2092 (by first | decide | omega)
          refine x_retI (np := 62) (x := 0) (by decide +kernel) (by decide) (Or.inr ⟨by decide +kernel, by first | decide | omega, by first | decide | omega⟩) ⟨_, rfl, (by decide), ?_⟩
          exact ⟨j2087, f2093, (by first | decide | omega), (fun z => by first | decide | omega), (fun z => by first | decide | omega), (gQ_e (t := 1) m2069 w2105 rfl (by first | decide | omega) (show h2062 1 2 = h2086 1 2 by first | decide | omega))⟩
        have q2098 : ¬ (v2081 = 2147483648) := q2098
        have b2107 := c2090 (by first | decide | omega)
        refine x_aload (np := 32) (x := 0) (by decide +kernel) rfl (x_nc_le (by decide)) ?_
        refine x_iload (np := 33) (x := 1) (by decide +kernel) rfl (by decide) ?_
        have q2108 : h2086 62 1 = h2062 62 1 := f2088 62 1 (by decide +kernel)
        have q2109 : h2062 62 1 = h10 62 1 := f2063 62 1 (by decide +kernel)
        have q2110 : h10 62 1 = h 62 1 := f12 62 1 (by decide +kernel)
        have q2111 : h2086 (r1 + 11) 2 = h2062 (r1 + 11) 2 := jK 0 f2088 (rg_T11_2_0_1 t3) (by first | decide | omega) (by first | decide | omega) (by decide)
        have e2112 : cl9 h2086 = (h2062 (r1 + 11) 2) := (congrArg (fun z => h2086 z 2) (((q2108.trans q2109).trans q2110).trans q2)).trans q2111
        have m2116 := Tp.fr m2084 f2088 (by decide) (by decide)
        refine x_cI (t := 6) (mj := 48) (n := 2) (rc := 4) (ml := 2) (nr := 0) (np := 36) (as := [x_r 62, iv_c 2147483648]) (rest := []) (lo1 := [x_r 62, iv_c 2147483648]) (by decide +kernel) (by decide) (by decide +kernel) (x_rb_of (by decide +kernel)) rfl rfl (x_wr (by decide) (x_wi (by decide) x_wn)) x_wn (by decide) rfl (c48_62_c0 j2087   (by first | decide | omega) m2116) (fun v2113 h2117 l2114 q2115 => ?_)
        obtain ⟨j2118, f2119, b2120, c2121, c2122, c2123⟩ := q2115
        have f2124 := Fr.trans f2093 f2119 (by decide)
        have f2125 := Fr.trans f2094 f2119 (by decide)
        have b2126 := jB (e := 2) 0 j2118 rg_1_2_0_1 (by first | decide | omega) (by first | decide | omega)
        have q2127 : h2086 62 1 = h2062 62 1 := f2088 62 1 (by decide +kernel)
        have q2128 : h2062 62 1 = h10 62 1 := f2063 62 1 (by decide +kernel)
        have q2129 : h10 62 1 = h 62 1 := f12 62 1 (by decide +kernel)
        have q2130 : h2086 (r1 + 11) 2 = h2062 (r1 + 11) 2 := jK 0 f2088 (rg_T11_2_0_1 t3) (by first | decide | omega) (by first | decide | omega) (by decide)
        have q2131 : h2117 62 1 = h2086 62 1 := f2119 62 1 (by decide +kernel)
        have q2132 : h2086 62 1 = h2062 62 1 := f2088 62 1 (by decide +kernel)
        have q2133 : h2062 62 1 = h10 62 1 := f2063 62 1 (by decide +kernel)
        have q2134 : h10 62 1 = h 62 1 := f12 62 1 (by decide +kernel)
        have b2135 := jB (e := 2) 0 j2118 (rg_T11_2_0_1 t3) (by first | decide | omega) (by first | decide | omega)
        have e2136 : cl9 h2117 = (h2117 (r1 + 11) 2) := (congrArg (fun z => h2117 z 2) ((((q2131.trans q2132).trans q2133).trans q2134).trans q2)).trans rfl
        refine x_ifz (k := 0) (tg := 52) (np := 39) (by decide +kernel) (by decide) l2114 (fun q2137 => ?_) (fun q2138 => ?_)
        · have q2137 : v2113 = 2147483648 := q2137
          refine x_const (np := 53) (x := 9223372039002259456) (a := 2147483648) (by decide +kernel) (by decide) (by decide) ?_
          have q2139 : h2117 62 1 = h2086 62 1 := f2119 62 1 (by decide +kernel)
          have q2140 : h2086 62 1 = h2062 62 1 := f2088 62 1 (by decide +kernel)
          have q2141 : h2062 62 1 = h10 62 1 := f2063 62 1 (by decide +kernel)
          have q2142 : h10 62 1 = h 62 1 := f12 62 1 (by decide +kernel)
          obtain ⟨w2143, e2144⟩ := Tk.yes c2092 (by first | decide | omega)
          refine x_retI (np := 54) (x := 0) (by decide +kernel) (by decide) (Or.inr ⟨by decide +kernel, by first | decide | omega, by first | decide | omega⟩) ⟨_, rfl, (by decide), ?_⟩
          exact ⟨j2118, f2124, (by first | decide | omega), (fun z => by first | decide | omega), (fun z => by first | decide | omega), (gQ_f (t := 1) m2069 w2143 rfl e2144 c2123 rfl (by first | decide | omega) (by first | decide | omega))⟩
        have q2138 : ¬ (v2113 = 2147483648) := q2138
        have b2145 := c2121 (by first | decide | omega)
        have b2146 := c2122 (by first | decide | omega)
        refine x_aload (np := 40) (x := 0) (by decide +kernel) rfl (x_nc_le (by decide)) ?_
        have q2147 : h2117 62 1 = h2086 62 1 := f2119 62 1 (by decide +kernel)
        have q2148 : h2086 62 1 = h2062 62 1 := f2088 62 1 (by decide +kernel)
        have q2149 : h2062 62 1 = h10 62 1 := f2063 62 1 (by decide +kernel)
        have q2150 : h10 62 1 = h 62 1 := f12 62 1 (by decide +kernel)
        refine x_getR (np := 43) (x := 193) (f := 1) (q := (r1 + 11)) (by decide +kernel) (by decide) (by decide +kernel) ((((q2147.trans q2148).trans q2149).trans q2150).trans q2) ?_
        refine x_const (np := 46) (x := 9223380646116722644) (a := 2147485652) (by decide +kernel) (by decide) (by decide) ?_
        refine x_nI (t := 6) (mj := 36) (n := 2) (rc := 3) (ml := 2) (nr := 0) (np := 49) (as := [x_r (r1 + 11), iv_c 2147485652]) (rest := []) (lo1 := [x_r (r1 + 11), iv_c 2147485652]) (by decide +kernel) (by decide) (by decide +kernel) (x_rb_of (tr_11_3 t3)) rfl rfl (x_wr (tn_11 t3) (x_wi (by decide) x_wn)) x_wn (by decide) rfl ?_
        refine x_aload (np := 1) (x := 0) (by decide +kernel) rfl (x_nc_le (tn_11 t3)) ?_
        refine x_getC (np := 4) (x := 130) (f := 2) (q := (h2117 (r1 + 11) 2)) (by decide +kernel) (by decide) (tg_11_130_2_0 t3) rfl (fun l2151 => ?_)
        refine x_const (np := 7) (x := 9223373756989178256) (a := 2147484048) (by decide +kernel) (by decide) (by decide) ?_
        refine x_icmp (k := 2) (tg := 12) (np := 10) (by decide +kernel) (by decide) l2151 (by decide) (fun q2152 => ?_) (fun q2153 => ?_)
        · have q2152 : (h2117 (r1 + 11) 2) < 2147484048 := q2152
          refine x_aload (np := 13) (x := 0) (by decide +kernel) rfl (x_nc_le (tn_11 t3)) ?_
          have q2154 : h2117 (r1 + 11) 0 = (r1 + 12) := tf_11_0 j2118 t3
          refine x_getR (np := 16) (x := 128) (f := 0) (q := (r1 + 12)) (by decide +kernel) (by decide) (tg_11_128_0_1 t3) q2154 ?_
          refine x_aload (np := 17) (x := 0) (by decide +kernel) rfl (x_nc_le (tn_11 t3)) ?_
          refine x_getC (np := 20) (x := 130) (f := 2) (q := (h2117 (r1 + 11) 2)) (by decide +kernel) (by decide) (tg_11_130_2_0 t3) rfl (fun l2155 => ?_)
          refine x_iload (np := 21) (x := 1) (by decide +kernel) rfl (by decide) ?_
          obtain ⟨u2156, q2157⟩ : ∃ z, (h2117 (r1 + 11) 2) = 2147483648 + z := ⟨(h2117 (r1 + 11) 2) - 2147483648, by first | decide | omega⟩
          refine x_ast (np := 22) (x := 0) (kd := 1) (n := 400) (i := u2156) (by decide +kernel) (Or.inl rfl) (ta_12_400 t3) (by first | decide | omega) (by first | decide | omega) (by decide) (by decide) (fun z => absurd z (by decide)) ?_
          have j2159 := jU (e := u2156) (v := 2147485652) u2156 j2118 (rg_T12_0_1_400 t3) (by first | decide | omega) (by first | decide | omega) (by first | decide | omega)
          have f2161 := jF (e := u2156) (v := 2147485652) u2156 f2124 (rg_T12_0_1_400 t3) (by first | decide | omega) (by first | decide | omega) (by decide)
          have f2162 := jF (e := u2156) (v := 2147485652) u2156 f2125 (rg_T12_0_1_400 t3) (by first | decide | omega) (by first | decide | omega) (by decide)
          generalize e2160 : x_up h2117 (r1 + 12) u2156 2147485652 = h2158 at j2159 f2161 f2162 ⊢
          refine x_aload (np := 23) (x := 0) (by decide +kernel) rfl (x_nc_le (tn_11 t3)) ?_
          refine x_dup (np := 24) (x := 0) (by decide +kernel) (by have z := x_nc_le (k := (r1 + 11)) (tn_11 t3); unfold x_r; omega) ?_
          have q2163 : h2158 (r1 + 11) 2 = h2117 (r1 + 11) 2 := by rw [← e2160]; exact x_up_k tof_11_12
          refine x_getC (np := 27) (x := 130) (f := 2) (q := (h2117 (r1 + 11) 2)) (by decide +kernel) (by decide) (tg_11_130_2_0 t3) q2163 (fun l2164 => ?_)
          refine x_const (np := 28) (x := 9223372043297226753) (a := 2147483649) (by decide +kernel) (by decide) (by decide) ?_
          refine x_iadd (np := 29) (x := 0) (v := (1 + (h2117 (r1 + 11) 2))) (by decide +kernel) l2151 (by decide) (by first | decide | omega) (by first | decide | omega) ?_
          refine x_putI (np := 32) (x := 130) (f := 2) (by decide +kernel) (tg_11_130_2_0 t3) (by first | decide | omega) (Or.inl (by decide)) ?_
          have j2166 := jU (e := 2) (v := (1 + (h2117 (r1 + 11) 2))) 0 j2159 (rg_T11_2_0_1 t3) (by first | decide | omega) (by first | decide | omega) (by first | decide | omega)
          have f2168 := jF (e := 2) (v := (1 + (h2117 (r1 + 11) 2))) 0 f2161 (rg_T11_2_0_1 t3) (by first | decide | omega) (by first | decide | omega) (by decide)
          have f2169 := jF (e := 2) (v := (1 + (h2117 (r1 + 11) 2))) 0 f2162 (rg_T11_2_0_1 t3) (by first | decide | omega) (by first | decide | omega) (by decide)
          generalize e2167 : x_up h2158 (r1 + 11) 2 (1 + (h2117 (r1 + 11) 2)) = h2165 at j2166 f2168 f2169 ⊢
          refine x_const (np := 33) (x := 9223372043297226753) (a := 2147483649) (by decide +kernel) (by decide) (by decide) ?_
          refine x_retI (np := 34) (x := 0) (by decide +kernel) (by decide) (Or.inr ⟨by decide +kernel, by first | decide | omega, by first | decide | omega⟩) ⟨_, rfl, (by decide), ?_⟩
          refine x_ifz (k := 1) (tg := 54) (np := 52) (by decide +kernel) (by decide) (by decide) (fun q2170 => ?_) (fun q2171 => ?_)
          · have q2170 : 2147483649 ≠ 2147483648 := q2170
            refine x_iinc (np := 57) (i := 2) (j := 2147483649) (v := (1 + v2060)) (lo' := [x_r 62, iv_c 2147483648, iv_c (1 + v2060)]) (by decide +kernel) (by decide) (by decide) rfl (by first | decide | omega) (by first | decide | omega) (by first | decide | omega) rfl ?_
            refine x_goto (np := 60) (x := 12) (by decide +kernel) ?_
            have q2172 : h2165 1 2 = h2158 1 2 := by rw [← e2167]; exact x_up_k (Ne.symm (tne_11_1 t3))
            have q2173 : h2158 1 2 = h2117 1 2 := by rw [← e2160]; exact x_up_k (Ne.symm (tne_12_1 t3))
            have q2174 : h2165 62 1 = h2158 62 1 := by rw [← e2167]; exact x_up_k (Ne.symm (tne_11_62 t3))
            have q2175 : h2158 62 1 = h2117 62 1 := by rw [← e2160]; exact x_up_k (Ne.symm (tne_12_62 t3))
            have q2176 : h2117 62 1 = h2086 62 1 := f2119 62 1 (by decide +kernel)
            have q2177 : h2086 62 1 = h2062 62 1 := f2088 62 1 (by decide +kernel)
            have q2178 : h2062 62 1 = h10 62 1 := f2063 62 1 (by decide +kernel)
            have q2179 : h10 62 1 = h 62 1 := f12 62 1 (by decide +kernel)
            have q2180 : h2165 (r1 + 11) 2 = (1 + (h2117 (r1 + 11) 2)) := by rw [← e2167]; exact x_up_at
            have e2181 : cl9 h2165 = (1 + (h2117 (r1 + 11) 2)) := (congrArg (fun z => h2165 z 2) ((((((q2174.trans q2175).trans q2176).trans q2177).trans q2178).trans q2179).trans q2)).trans q2180
            obtain ⟨w2182, e2183⟩ := Tk.yes c2092 (by first | decide | omega)
            have q2184 : h2165 1 2 = h2158 1 2 := by rw [← e2167]; exact x_up_k (Ne.symm (tne_11_1 t3))
            have q2185 : h2158 1 2 = h2117 1 2 := by rw [← e2160]; exact x_up_k (Ne.symm (tne_12_1 t3))
            exact i2071 (1 + v2060) h2165 (by first | decide | omega) (by first | decide | omega) (by first | decide | omega) (by first | decide | omega) (by first | decide | omega) j2166 f2169 (gQ_st (t := 1) m2069 w2182 rfl e2183 c2123 rfl (by first | decide | omega) (show h2117 1 2 = h2165 1 2 by first | decide | omega))
          have q2171 : ¬ (2147483649 ≠ 2147483648) := q2171
          exfalso; omega
        have q2153 : ¬ ((h2117 (r1 + 11) 2) < 2147484048) := q2153
        refine x_const (np := 11) (x := 9223372039002259456) (a := 2147483648) (by decide +kernel) (by decide) (by decide) ?_
        refine x_retI (np := 12) (x := 0) (by decide +kernel) (by decide) (Or.inr ⟨by decide +kernel, by first | decide | omega, by first | decide | omega⟩) ⟨_, rfl, (by decide), ?_⟩
        refine x_ifz (k := 1) (tg := 54) (np := 52) (by decide +kernel) (by decide) (by decide) (fun q2186 => ?_) (fun q2187 => ?_)
        · have q2186 : 2147483648 ≠ 2147483648 := q2186
          exfalso; omega
        have q2187 : ¬ (2147483648 ≠ 2147483648) := q2187
        refine x_const (np := 53) (x := 9223372039002259456) (a := 2147483648) (by decide +kernel) (by decide) (by decide) ?_
        have q2188 : h2117 62 1 = h2086 62 1 := f2119 62 1 (by decide +kernel)
        have q2189 : h2086 62 1 = h2062 62 1 := f2088 62 1 (by decide +kernel)
        have q2190 : h2062 62 1 = h10 62 1 := f2063 62 1 (by decide +kernel)
        have q2191 : h10 62 1 = h 62 1 := f12 62 1 (by decide +kernel)
        obtain ⟨w2192, e2193⟩ := Tk.yes c2092 (by first | decide | omega)
        refine x_retI (np := 54) (x := 0) (by decide +kernel) (by decide) (Or.inr ⟨by decide +kernel, by first | decide | omega, by first | decide | omega⟩) ⟨_, rfl, (by decide), ?_⟩
        exact ⟨j2118, f2124, (by first | decide | omega), (fun z => by first | decide | omega), (fun z => by first | decide | omega), (gQ_f (t := 1) m2069 w2192 rfl e2193 c2123 rfl (by first | decide | omega) (by first | decide | omega))⟩
    have q2194 : h10 62 1 = h 62 1 := f12 62 1 (by decide +kernel)
    exact p2065 _ 2147483648 h10 (Nat.lt_succ_self _) (by first | decide | omega) (by first | decide | omega) (by first | decide | omega) (by first | decide | omega) j11 (Fr.refl _ _) (gQ_in (t := 1) c16 rfl (by first | decide | omega) rfl)
  have q23 : ¬ (v7 ≠ 2147483648) := q23
  refine x_const (np := 9) (x := 9223372039002259456) (a := 2147483648) (by decide +kernel) (by decide) (by decide) ?_
  have q2195 : h10 62 1 = h 62 1 := f12 62 1 (by decide +kernel)
  refine x_retI (np := 10) (x := 0) (by decide +kernel) (by decide) (Or.inr ⟨by decide +kernel, by first | decide | omega, by first | decide | omega⟩) ⟨_, rfl, (by decide), ?_⟩
  exact ⟨j11, f17, (by first | decide | omega), (fun z => by first | decide | omega), (fun z => by first | decide | omega), (gQ_no (t := 1) c16 rfl (by first | decide | omega) (by first | decide | omega))⟩
set_option maxHeartbeats 0 in
/-- LentNames$CustomReader.readCondition(I)Z -/
theorem c46_62_c0 {sc : Nat × Nat} {d  : Nat} {h : xh} {tB : Nat → Nat} {tN : Nat} (hJ : J h) (hr0 : (cl9 h) + 5 ≤ (h 1 2)) (hT : Tp tB tN h) : X sc 46 (d + 28) (xI fun r h' => J h' ∧ Fr 161 h h' ∧ (2147483648 ≤ r ∧ r ≤ 2147483649) ∧ (r = 2147483649 → h 1 2 + 1 ≤ h' 1 2) ∧ (r = 2147483649 → cl9 h' + h 1 2 ≤ h' 1 2 + cl9 h) ∧ G tB tN (Kd.seq 2) 0 (h 1 2) (rs r (h' 1 2))) 0 0 0 [x_r 62, iv_c 2147483648, 147573952589676412928] [] h := by
  have hF := Fr.refl 161 h
  obtain ⟨r1, q2, t3⟩ : ∃ z, (h 62 1) = z + 11 ∧ tw z := by
    rcases hJ.2.2.2.2.2.2.2 with z | z
    · exact ⟨17, by rw [z], Or.inl rfl⟩
    · exact ⟨31, by rw [z], Or.inr rfl⟩
  have b4 := jB (e := 2) 0 hJ (rg_T11_2_0_1 t3) (by first | decide | omega) (by first | decide | omega)
  have e5 : cl9 h = (h (r1 + 11) 2) := (congrArg (fun z => h z 2) q2).trans rfl
  have b6 := jB (e := 2) 0 hJ rg_1_2_0_1 (by first | decide | omega) (by first | decide | omega)
  refine x_aload (np := 1) (x := 0) (by decide +kernel) rfl (x_nc_le (by decide)) ?_
  refine x_iload (np := 2) (x := 1) (by decide +kernel) rfl (by decide) ?_
  refine x_cI (t := 6) (mj := 47) (n := 2) (rc := 4) (ml := 3) (nr := 0) (np := 5) (as := [x_r 62, iv_c 2147483648]) (rest := []) (lo1 := [x_r 62, iv_c 2147483648, 147573952589676412928]) (by decide +kernel) (by decide) (by decide +kernel) (x_rb_of (by decide +kernel)) rfl rfl (x_wr (by decide) (x_wi (by decide) x_wn)) x_wn (by decide) rfl (c47_62_c0 hJ   (by first | decide | omega) hT) (fun v7 h10 l8 q9 => ?_)
  obtain ⟨j11, f12, b13, c14, c15, c16⟩ := q9
  have f17 := Fr.trans hF f12 (by decide)
  have b18 := jB (e := 2) 0 j11 rg_1_2_0_1 (by first | decide | omega) (by first | decide | omega)
  have q19 : h10 62 1 = h 62 1 := f12 62 1 (by decide +kernel)
  have b20 := jB (e := 2) 0 j11 (rg_T11_2_0_1 t3) (by first | decide | omega) (by first | decide | omega)
  have e21 : cl9 h10 = (h10 (r1 + 11) 2) := (congrArg (fun z => h10 z 2) (q19.trans q2)).trans rfl
  refine x_ifz (k := 1) (tg := 10) (np := 8) (by decide +kernel) (by decide) l8 (fun q22 => ?_) (fun q23 => ?_)
  · have q22 : v7 ≠ 2147483648 := q22
    have b24 := c14 (by first | decide | omega)
    have b25 := c15 (by first | decide | omega)
    refine x_const (np := 11) (x := 9223372039002259456) (a := 2147483648) (by decide +kernel) (by decide) (by decide) ?_
    refine x_istore (np := 12) (x := 2) (lo' := [x_r 62, iv_c 2147483648, iv_c 2147483648]) (by decide +kernel) (by decide) (Nat.le_of_ble_eq_true rfl) rfl ?_
    have p2065 : ∀ (n : Nat) (v2060 : Nat) (h2062 : xh), 4294967296 - v2060 < n → (2147483648 ≤ v2060 ∧ v2060 ≤ 2147484047) → cl9 h2062 + h 1 2 ≤ h2062 1 2 + cl9 h → h 1 2 + 1 ≤ h2062 1 2 → v2060 ≤ h2062 1 2 → J h2062 → Fr 161 h10 h2062 → Res tB tN (Kd.lp 2) 0 (h2062 1 2) (Kd.seq 2) 0 (h 1 2) → X sc 46 (d + 28) (xI fun r h' => J h' ∧ Fr 161 h h' ∧ (2147483648 ≤ r ∧ r ≤ 2147483649) ∧ (r = 2147483649 → h 1 2 + 1 ≤ h' 1 2) ∧ (r = 2147483649 → cl9 h' + h 1 2 ≤ h' 1 2 + cl9 h) ∧ G tB tN (Kd.seq 2) 0 (h 1 2) (rs r (h' 1 2))) 0 0 12 [x_r 62, iv_c 2147483648, iv_c v2060] [] h2062 := by
      intro n
      induction n with
      | zero => intro v2060 h2062 q2070; exact absurd q2070 (Nat.not_lt_zero _)
      | succ n i2071 =>
        intro v2060 h2062 q2070 b2061 b2066 b2067 b2068 j2064 f2063 m2069
        have f2072 := Fr.trans f17 f2063 (by decide)
        have b2073 := jB (e := 2) 0 j2064 rg_1_2_0_1 (by first | decide | omega) (by first | decide | omega)
        have q2074 : h2062 62 1 = h10 62 1 := f2063 62 1 (by decide +kernel)
        have q2075 : h10 62 1 = h 62 1 := f12 62 1 (by decide +kernel)
        have b2076 := jB (e := 2) 0 j2064 (rg_T11_2_0_1 t3) (by first | decide | omega) (by first | decide | omega)
        have e2077 : cl9 h2062 = (h2062 (r1 + 11) 2) := (congrArg (fun z => h2062 z 2) ((q2074.trans q2075).trans q2)).trans rfl
        refine x_iload (np := 13) (x := 2) (by decide +kernel) rfl (by first | decide | omega) ?_
        refine x_const (np := 16) (x := 9223373756989178256) (a := 2147484048) (by decide +kernel) (by decide) (by decide) ?_
        refine x_icmp (k := 3) (tg := 60) (np := 19) (by decide +kernel) (by decide) (by first | decide | omega) (by decide) (fun q2078 => ?_) (fun q2079 => ?_)
        · have q2078 : 2147484048 ≤ v2060 := q2078
          exfalso; omega
        have q2079 : ¬ (2147484048 ≤ v2060) := q2079
        refine x_aload (np := 20) (x := 0) (by decide +kernel) rfl (x_nc_le (by decide)) ?_
        have q2080 : h2062 62 0 = 1 := by have z := jB (e := 0) 0 j2064 rg_62_0_0_1 (by decide) (by decide); omega
        refine x_getR (np := 23) (x := 192) (f := 0) (q := 1) (by decide +kernel) (by decide) (by decide +kernel) q2080 ?_
        refine x_ldcB (i := 15) (idx := 64) (tx := "or") (by rw [tb_y46]; exact List.mem_of_getElem? (i := 34) rfl) (by decide) (by rw [tb_b46]; decide +kernel) ?_
        have m2085 := Tp.fr hT f12 (by decide) (by decide)
        have m2084 := Tp.fr m2085 f2063 (by decide) (by decide)
        refine x_cI (t := 6) (mj := 78) (n := 2) (rc := 8) (ml := 2) (nr := 0) (np := 28) (as := [x_r 1, x_b (15 + 1)]) (rest := []) (lo1 := [x_r 1, x_b (15 + 1)]) (by decide +kernel) (by decide) (by decide +kernel) (x_rb_of (by decide +kernel)) rfl rfl (x_wr (by decide) (x_wB (by decide) x_wn)) x_wn (by decide) rfl (c78_1_S0 j2064  (by decide) m2084) (fun v2081 h2086 l2082 q2083 => ?_)
        obtain ⟨j2087, f2088, b2089, c2090, c2091, c2092⟩ := q2083
        have f2093 := Fr.trans f2072 f2088 (by decide)
        have f2094 := Fr.trans f2063 f2088 (by decide)
        have b2095 := jB (e := 2) 0 j2087 rg_1_2_0_1 (by first | decide | omega) (by first | decide | omega)
        have b2096 : iv_tl 15 = 2 := by decide
        refine x_ifz (k := 0) (tg := 60) (np := 31) (by decide +kernel) (by decide) l2082 (fun q2097 => ?_) (fun q2098 => ?_)
        · have q2097 : v2081 = 2147483648 := q2097
          have b2099 := c2091 (by first | decide | omega)
          refine x_const (np := 61) (x := 9223372043297226753) (a := 2147483649) (by decide +kernel) (by decide) (by decide) ?_
          have q2100 : h2086 62 1 = h2062 62 1 := f2088 62 1 (by decide +kernel)
          have q2101 : h2062 62 1 = h10 62 1 := f2063 62 1 (by decide +kernel)
          have q2102 : h10 62 1 = h 62 1 := f12 62 1 (by decide +kernel)
          have q2103 : h2086 (r1 + 11) 2 = h2062 (r1 + 11) 2 := jK 0 f2088 (rg_T11_2_0_1 t3) (by first | decide | omega) (by first | decide | omega) (by decide)
          have e2104 : cl9 h2086 = (h2062 (r1 + 11) 2) := (congrArg (fun z => h2086 z 2) (((q2100.trans q2101).trans q2102).trans q2)).trans q2103
          obtain ⟨w2105, e2106⟩ := Tk.no c2092 (by first | decide | omega)
          refine x_retI (np := 62) (x := 0) (by decide +kernel) (by decide) (Or.inr ⟨by decide +kernel, by first | decide | omega, by first | decide | omega⟩) ⟨_, rfl, (by decide), ?_⟩
          exact ⟨j2087, f2093, (by first | decide | omega), (fun z => by first | decide | omega), (fun z => by first | decide | omega), (gQ_e (t := 2) m2069 w2105 rfl (by first | decide | omega) (show h2062 1 2 = h2086 1 2 by first | decide | omega))⟩
        have q2098 : ¬ (v2081 = 2147483648) := q2098
        have b2107 := c2090 (by first | decide | omega)
        refine x_aload (np := 32) (x := 0) (by decide +kernel) rfl (x_nc_le (by decide)) ?_
        refine x_iload (np := 33) (x := 1) (by decide +kernel) rfl (by decide) ?_
        have q2108 : h2086 62 1 = h2062 62 1 := f2088 62 1 (by decide +kernel)
        have q2109 : h2062 62 1 = h10 62 1 := f2063 62 1 (by decide +kernel)
        have q2110 : h10 62 1 = h 62 1 := f12 62 1 (by decide +kernel)
        have q2111 : h2086 (r1 + 11) 2 = h2062 (r1 + 11) 2 := jK 0 f2088 (rg_T11_2_0_1 t3) (by first | decide | omega) (by first | decide | omega) (by decide)
        have e2112 : cl9 h2086 = (h2062 (r1 + 11) 2) := (congrArg (fun z => h2086 z 2) (((q2108.trans q2109).trans q2110).trans q2)).trans q2111
        have m2116 := Tp.fr m2084 f2088 (by decide) (by decide)
        refine x_cI (t := 6) (mj := 47) (n := 2) (rc := 4) (ml := 3) (nr := 0) (np := 36) (as := [x_r 62, iv_c 2147483648]) (rest := []) (lo1 := [x_r 62, iv_c 2147483648, 147573952589676412928]) (by decide +kernel) (by decide) (by decide +kernel) (x_rb_of (by decide +kernel)) rfl rfl (x_wr (by decide) (x_wi (by decide) x_wn)) x_wn (by decide) rfl (c47_62_c0 j2087   (by first | decide | omega) m2116) (fun v2113 h2117 l2114 q2115 => ?_)
        obtain ⟨j2118, f2119, b2120, c2121, c2122, c2123⟩ := q2115
        have f2124 := Fr.trans f2093 f2119 (by decide)
        have f2125 := Fr.trans f2094 f2119 (by decide)
        have b2126 := jB (e := 2) 0 j2118 rg_1_2_0_1 (by first | decide | omega) (by first | decide | omega)
        have q2127 : h2086 62 1 = h2062 62 1 := f2088 62 1 (by decide +kernel)
        have q2128 : h2062 62 1 = h10 62 1 := f2063 62 1 (by decide +kernel)
        have q2129 : h10 62 1 = h 62 1 := f12 62 1 (by decide +kernel)
        have q2130 : h2086 (r1 + 11) 2 = h2062 (r1 + 11) 2 := jK 0 f2088 (rg_T11_2_0_1 t3) (by first | decide | omega) (by first | decide | omega) (by decide)
        have q2131 : h2117 62 1 = h2086 62 1 := f2119 62 1 (by decide +kernel)
        have q2132 : h2086 62 1 = h2062 62 1 := f2088 62 1 (by decide +kernel)
        have q2133 : h2062 62 1 = h10 62 1 := f2063 62 1 (by decide +kernel)
        have q2134 : h10 62 1 = h 62 1 := f12 62 1 (by decide +kernel)
        have b2135 := jB (e := 2) 0 j2118 (rg_T11_2_0_1 t3) (by first | decide | omega) (by first | decide | omega)
        have e2136 : cl9 h2117 = (h2117 (r1 + 11) 2) := (congrArg (fun z => h2117 z 2) ((((q2131.trans q2132).trans q2133).trans q2134).trans q2)).trans rfl
        refine x_ifz (k := 0) (tg := 52) (np := 39) (by decide +kernel) (by decide) l2114 (fun q2137 => ?_) (fun q2138 => ?_)
        · have q2137 : v2113 = 2147483648 := q2137
          refine x_const (np := 53) (x := 9223372039002259456) (a := 2147483648) (by decide +kernel) (by decide) (by decide) ?_
          have q2139 : h2117 62 1 = h2086 62 1 := f2119 62 1 (by decide +kernel)
          have q2140 : h2086 62 1 = h2062 62 1 := f2088 62 1 (by decide +kernel)
          have q2141 : h2062 62 1 = h10 62 1 := f2063 62 1 (by decide +kernel)
          have q2142 : h10 62 1 = h 62 1 := f12 62 1 (by decide +kernel)
          obtain ⟨w2143, e2144⟩ := Tk.yes c2092 (by first | decide | omega)
          refine x_retI (np := 54) (x := 0) (by decide +kernel) (by decide) (Or.inr ⟨by decide +kernel, by first | decide | omega, by first | decide | omega⟩) ⟨_, rfl, (by decide), ?_⟩
          exact ⟨j2118, f2124, (by first | decide | omega), (fun z => by first | decide | omega), (fun z => by first | decide | omega), (gQ_f (t := 2) m2069 w2143 rfl e2144 c2123 rfl (by first | decide | omega) (by first | decide | omega))⟩
        have q2138 : ¬ (v2113 = 2147483648) := q2138
        have b2145 := c2121 (by first | decide | omega)
        have b2146 := c2122 (by first | decide | omega)
        refine x_aload (np := 40) (x := 0) (by decide +kernel) rfl (x_nc_le (by decide)) ?_
        have q2147 : h2117 62 1 = h2086 62 1 := f2119 62 1 (by decide +kernel)
        have q2148 : h2086 62 1 = h2062 62 1 := f2088 62 1 (by decide +kernel)
        have q2149 : h2062 62 1 = h10 62 1 := f2063 62 1 (by decide +kernel)
        have q2150 : h10 62 1 = h 62 1 := f12 62 1 (by decide +kernel)
        refine x_getR (np := 43) (x := 193) (f := 1) (q := (r1 + 11)) (by decide +kernel) (by decide) (by decide +kernel) ((((q2147.trans q2148).trans q2149).trans q2150).trans q2) ?_
        refine x_const (np := 46) (x := 9223380650411689941) (a := 2147485653) (by decide +kernel) (by decide) (by decide) ?_
        refine x_nI (t := 6) (mj := 36) (n := 2) (rc := 3) (ml := 2) (nr := 0) (np := 49) (as := [x_r (r1 + 11), iv_c 2147485653]) (rest := []) (lo1 := [x_r (r1 + 11), iv_c 2147485653]) (by decide +kernel) (by decide) (by decide +kernel) (x_rb_of (tr_11_3 t3)) rfl rfl (x_wr (tn_11 t3) (x_wi (by decide) x_wn)) x_wn (by decide) rfl ?_
        refine x_aload (np := 1) (x := 0) (by decide +kernel) rfl (x_nc_le (tn_11 t3)) ?_
        refine x_getC (np := 4) (x := 130) (f := 2) (q := (h2117 (r1 + 11) 2)) (by decide +kernel) (by decide) (tg_11_130_2_0 t3) rfl (fun l2151 => ?_)
        refine x_const (np := 7) (x := 9223373756989178256) (a := 2147484048) (by decide +kernel) (by decide) (by decide) ?_
        refine x_icmp (k := 2) (tg := 12) (np := 10) (by decide +kernel) (by decide) l2151 (by decide) (fun q2152 => ?_) (fun q2153 => ?_)
        · have q2152 : (h2117 (r1 + 11) 2) < 2147484048 := q2152
          refine x_aload (np := 13) (x := 0) (by decide +kernel) rfl (x_nc_le (tn_11 t3)) ?_
          have q2154 : h2117 (r1 + 11) 0 = (r1 + 12) := tf_11_0 j2118 t3
          refine x_getR (np := 16) (x := 128) (f := 0) (q := (r1 + 12)) (by decide +kernel) (by decide) (tg_11_128_0_1 t3) q2154 ?_
          refine x_aload (np := 17) (x := 0) (by decide +kernel) rfl (x_nc_le (tn_11 t3)) ?_
          refine x_getC (np := 20) (x := 130) (f := 2) (q := (h2117 (r1 + 11) 2)) (by decide +kernel) (by decide) (tg_11_130_2_0 t3) rfl (fun l2155 => ?_)
          refine x_iload (np := 21) (x := 1) (by decide +kernel) rfl (by decide) ?_
          obtain ⟨u2156, q2157⟩ : ∃ z, (h2117 (r1 + 11) 2) = 2147483648 + z := ⟨(h2117 (r1 + 11) 2) - 2147483648, by first | decide | omega⟩
          refine x_ast (np := 22) (x := 0) (kd := 1) (n := 400) (i := u2156) (by decide +kernel) (Or.inl rfl) (ta_12_400 t3) (by first | decide | omega) (by first | decide | omega) (by decide) (by decide) (fun z => absurd z (by decide)) ?_
          have j2159 := jU (e := u2156) (v := 2147485653) u2156 j2118 (rg_T12_0_1_400 t3) (by first | decide | omega) (by first | decide | omega) (by first | decide | omega)
          have f2161 := jF (e := u2156) (v := 2147485653) u2156 f2124 (rg_T12_0_1_400 t3) (by first | decide | omega) (by first | decide | omega) (by decide)
          have f2162 := jF (e := u2156) (v := 2147485653) u2156 f2125 (rg_T12_0_1_400 t3) (by first | decide | omega) (by first | decide | omega) (by decide)
          generalize e2160 : x_up h2117 (r1 + 12) u2156 2147485653 = h2158 at j2159 f2161 f2162 ⊢
          refine x_aload (np := 23) (x := 0) (by decide +kernel) rfl (x_nc_le (tn_11 t3)) ?_
          refine x_dup (np := 24) (x := 0) (by decide +kernel) (by have z := x_nc_le (k := (r1 + 11)) (tn_11 t3); unfold x_r; omega) ?_
          have q2163 : h2158 (r1 + 11) 2 = h2117 (r1 + 11) 2 := by rw [← e2160]; exact x_up_k tof_11_12
          refine x_getC (np := 27) (x := 130) (f := 2) (q := (h2117 (r1 + 11) 2)) (by decide +kernel) (by decide) (tg_11_130_2_0 t3) q2163 (fun l2164 => ?_)
          refine x_const (np := 28) (x := 9223372043297226753) (a := 2147483649) (by decide +kernel) (by decide) (by decide) ?_
          refine x_iadd (np := 29) (x := 0) (v := (1 + (h2117 (r1 + 11) 2))) (by decide +kernel) l2151 (by decide) (by first | decide | omega) (by first | decide | omega) ?_
          refine x_putI (np := 32) (x := 130) (f := 2) (by decide +kernel) (tg_11_130_2_0 t3) (by first | decide | omega) (Or.inl (by decide)) ?_
          have j2166 := jU (e := 2) (v := (1 + (h2117 (r1 + 11) 2))) 0 j2159 (rg_T11_2_0_1 t3) (by first | decide | omega) (by first | decide | omega) (by first | decide | omega)
          have f2168 := jF (e := 2) (v := (1 + (h2117 (r1 + 11) 2))) 0 f2161 (rg_T11_2_0_1 t3) (by first | decide | omega) (by first | decide | omega) (by decide)
          have f2169 := jF (e := 2) (v := (1 + (h2117 (r1 + 11) 2))) 0 f2162 (rg_T11_2_0_1 t3) (by first | decide | omega) (by first | decide | omega) (by decide)
          generalize e2167 : x_up h2158 (r1 + 11) 2 (1 + (h2117 (r1 + 11) 2)) = h2165 at j2166 f2168 f2169 ⊢
          refine x_const (np := 33) (x := 9223372043297226753) (a := 2147483649) (by decide +kernel) (by decide) (by decide) ?_
          refine x_retI (np := 34) (x := 0) (by decide +kernel) (by decide) (Or.inr ⟨by decide +kernel, by first | decide | omega, by first | decide | omega⟩) ⟨_, rfl, (by decide), ?_⟩
          refine x_ifz (k := 1) (tg := 54) (np := 52) (by decide +kernel) (by decide) (by decide) (fun q2170 => ?_) (fun q2171 => ?_)
          · have q2170 : 2147483649 ≠ 2147483648 := q2170
            refine x_iinc (np := 57) (i := 2) (j := 2147483649) (v := (1 + v2060)) (lo' := [x_r 62, iv_c 2147483648, iv_c (1 + v2060)]) (by decide +kernel) (by decide) (by decide) rfl (by first | decide | omega) (by first | decide | omega) (by first | decide | omega) rfl ?_
            refine x_goto (np := 60) (x := 12) (by decide +kernel) ?_
            have q2172 : h2165 1 2 = h2158 1 2 := by rw [← e2167]; exact x_up_k (Ne.symm (tne_11_1 t3))
            have q2173 : h2158 1 2 = h2117 1 2 := by rw [← e2160]; exact x_up_k (Ne.symm (tne_12_1 t3))
            have q2174 : h2165 62 1 = h2158 62 1 := by rw [← e2167]; exact x_up_k (Ne.symm (tne_11_62 t3))
            have q2175 : h2158 62 1 = h2117 62 1 := by rw [← e2160]; exact x_up_k (Ne.symm (tne_12_62 t3))
            have q2176 : h2117 62 1 = h2086 62 1 := f2119 62 1 (by decide +kernel)
            have q2177 : h2086 62 1 = h2062 62 1 := f2088 62 1 (by decide +kernel)
            have q2178 : h2062 62 1 = h10 62 1 := f2063 62 1 (by decide +kernel)
            have q2179 : h10 62 1 = h 62 1 := f12 62 1 (by decide +kernel)
            have q2180 : h2165 (r1 + 11) 2 = (1 + (h2117 (r1 + 11) 2)) := by rw [← e2167]; exact x_up_at
            have e2181 : cl9 h2165 = (1 + (h2117 (r1 + 11) 2)) := (congrArg (fun z => h2165 z 2) ((((((q2174.trans q2175).trans q2176).trans q2177).trans q2178).trans q2179).trans q2)).trans q2180
            obtain ⟨w2182, e2183⟩ := Tk.yes c2092 (by first | decide | omega)
            have q2184 : h2165 1 2 = h2158 1 2 := by rw [← e2167]; exact x_up_k (Ne.symm (tne_11_1 t3))
            have q2185 : h2158 1 2 = h2117 1 2 := by rw [← e2160]; exact x_up_k (Ne.symm (tne_12_1 t3))
            exact i2071 (1 + v2060) h2165 (by first | decide | omega) (by first | decide | omega) (by first | decide | omega) (by first | decide | omega) (by first | decide | omega) j2166 f2169 (gQ_st (t := 2) m2069 w2182 rfl e2183 c2123 rfl (by first | decide | omega) (show h2117 1 2 = h2165 1 2 by first | decide | omega))
          have q2171 : ¬ (2147483649 ≠ 2147483648) := q2171
          exfalso; omega
        have q2153 : ¬ ((h2117 (r1 + 11) 2) < 2147484048) := q2153
        refine x_const (np := 11) (x := 9223372039002259456) (a := 2147483648) (by decide +kernel) (by decide) (by decide) ?_
        refine x_retI (np := 12) (x := 0) (by decide +kernel) (by decide) (Or.inr ⟨by decide +kernel, by first | decide | omega, by first | decide | omega⟩) ⟨_, rfl, (by decide), ?_⟩
        refine x_ifz (k := 1) (tg := 54) (np := 52) (by decide +kernel) (by decide) (by decide) (fun q2186 => ?_) (fun q2187 => ?_)
        · have q2186 : 2147483648 ≠ 2147483648 := q2186
          exfalso; omega
        have q2187 : ¬ (2147483648 ≠ 2147483648) := q2187
        refine x_const (np := 53) (x := 9223372039002259456) (a := 2147483648) (by decide +kernel) (by decide) (by decide) ?_
        have q2188 : h2117 62 1 = h2086 62 1 := f2119 62 1 (by decide +kernel)
        have q2189 : h2086 62 1 = h2062 62 1 := f2088 62 1 (by decide +kernel)
        have q2190 : h2062 62 1 = h10 62 1 := f2063 62 1 (by decide +kernel)
        have q2191 : h10 62 1 = h 62 1 := f12 62 1 (by decide +kernel)
        obtain ⟨w2192, e2193⟩ := Tk.yes c2092 (by first | decide | omega)
        refine x_retI (np := 54) (x := 0) (by decide +kernel) (by decide) (Or.inr ⟨by decide +kernel, by first | decide | omega, by first | decide | omega⟩) ⟨_, rfl, (by decide), ?_⟩
        exact ⟨j2118, f2124, (by first | decide | omega), (fun z => by first | decide | omega), (fun z => by first | decide | omega), (gQ_f (t := 2) m2069 w2192 rfl e2193 c2123 rfl (by first | decide | omega) (by first | decide | omega))⟩
    have q2194 : h10 62 1 = h 62 1 := f12 62 1 (by decide +kernel)
    exact p2065 _ 2147483648 h10 (Nat.lt_succ_self _) (by first | decide | omega) (by first | decide | omega) (by first | decide | omega) (by first | decide | omega) j11 (Fr.refl _ _) (gQ_in (t := 2) c16 rfl (by first | decide | omega) rfl)
  have q23 : ¬ (v7 ≠ 2147483648) := q23
  refine x_const (np := 9) (x := 9223372039002259456) (a := 2147483648) (by decide +kernel) (by decide) (by decide) ?_
  have q2195 : h10 62 1 = h 62 1 := f12 62 1 (by decide +kernel)
  refine x_retI (np := 10) (x := 0) (by decide +kernel) (by decide) (Or.inr ⟨by decide +kernel, by first | decide | omega, by first | decide | omega⟩) ⟨_, rfl, (by decide), ?_⟩
  exact ⟨j11, f17, (by first | decide | omega), (fun z => by first | decide | omega), (fun z => by first | decide | omega), (gQ_no (t := 2) c16 rfl (by first | decide | omega) (by first | decide | omega))⟩
set_option maxHeartbeats 0 in
/-- LentNames$CustomReader.readLine()Z -/
theorem c45_62 {sc : Nat × Nat} {d  : Nat} {h : xh} {tB : Nat → Nat} {tN : Nat} (hJ : J h) (hr0 : (cl9 h) ≤ (h 1 2)) (hT : Tp tB tN h) : X sc 45 (d + 29) (xI fun r h' => J h' ∧ Fr 161 h h' ∧ (2147483648 ≤ r ∧ r ≤ 2147483649) ∧ (r = 2147483649 → h 1 2 + 1 ≤ h' 1 2) ∧ (r = 2147483649 → cl9 h' ≤ h' 1 2) ∧ G tB tN Kd.line 0 (h 1 2) (rs r (h' 1 2))) 0 0 0 [x_r 62, 147573952589676412928] [] h := by
  have hF := Fr.refl 161 h
  obtain ⟨r1, q2, t3⟩ : ∃ z, (h 62 1) = z + 11 ∧ tw z := by
    rcases hJ.2.2.2.2.2.2.2 with z | z
    · exact ⟨17, by rw [z], Or.inl rfl⟩
    · exact ⟨31, by rw [z], Or.inr rfl⟩
  have b4 := jB (e := 2) 0 hJ (rg_T11_2_0_1 t3) (by first | decide | omega) (by first | decide | omega)
  have e5 : cl9 h = (h (r1 + 11) 2) := (congrArg (fun z => h z 2) q2).trans rfl
  have b6 := jB (e := 2) 0 hJ rg_1_2_0_1 (by first | decide | omega) (by first | decide | omega)
  refine x_const (np := 3) (x := 9223380654706657238) (a := 2147485654) (by decide +kernel) (by decide) (by decide) ?_
  refine x_istore (np := 4) (x := 1) (lo' := [x_r 62, iv_c 2147485654]) (by decide +kernel) (by decide) (Nat.le_of_ble_eq_true rfl) rfl ?_
  refine x_aload (np := 5) (x := 0) (by decide +kernel) rfl (x_nc_le (by decide)) ?_
  have q7 : h 62 0 = 1 := by have z := jB (e := 0) 0 hJ rg_62_0_0_1 (by decide) (by decide); omega
  refine x_getR (np := 8) (x := 192) (f := 0) (q := 1) (by decide +kernel) (by decide) (by decide +kernel) q7 ?_
  refine x_ldcB (i := 21) (idx := 44) (tx := "refuse") (by rw [tb_y45]; exact List.mem_of_getElem? (i := 21) rfl) (by decide) (by rw [tb_b45]; decide +kernel) ?_
  refine x_cI (t := 6) (mj := 78) (n := 2) (rc := 8) (ml := 2) (nr := 0) (np := 13) (as := [x_r 1, x_b (21 + 1)]) (rest := []) (lo1 := [x_r 1, x_b (21 + 1)]) (by decide +kernel) (by decide) (by decide +kernel) (x_rb_of (by decide +kernel)) rfl rfl (x_wr (by decide) (x_wB (by decide) x_wn)) x_wn (by decide) rfl (c78_1_S0 hJ  (by decide) hT) (fun v8 h11 l9 q10 => ?_)
  obtain ⟨j12, f13, b14, c15, c16, c17⟩ := q10
  have f18 := Fr.trans hF f13 (by decide)
  have b19 := jB (e := 2) 0 j12 rg_1_2_0_1 (by first | decide | omega) (by first | decide | omega)
  have b20 : iv_tl 21 = 6 := by decide
  refine x_ifz (k := 0) (tg := 23) (np := 16) (by decide +kernel) (by decide) l9 (fun q21 => ?_) (fun q22 => ?_)
  · have q21 : v8 = 2147483648 := q21
    have b23 := c16 (by first | decide | omega)
    refine x_aload (np := 24) (x := 0) (by decide +kernel) rfl (x_nc_le (by decide)) ?_
    have q24 : h11 62 0 = 1 := by have z := jB (e := 0) 0 j12 rg_62_0_0_1 (by decide) (by decide); omega
    refine x_getR (np := 27) (x := 192) (f := 0) (q := 1) (by decide +kernel) (by decide) (by decide +kernel) q24 ?_
    refine x_ldcB (i := 22) (idx := 50) (tx := "grant") (by rw [tb_y45]; exact List.mem_of_getElem? (i := 22) rfl) (by decide) (by rw [tb_b45]; decide +kernel) ?_
    have m28 := Tp.fr hT f13 (by decide) (by decide)
    refine x_cI (t := 6) (mj := 78) (n := 2) (rc := 8) (ml := 2) (nr := 0) (np := 32) (as := [x_r 1, x_b (22 + 1)]) (rest := []) (lo1 := [x_r 1, x_b (22 + 1)]) (by decide +kernel) (by decide) (by decide +kernel) (x_rb_of (by decide +kernel)) rfl rfl (x_wr (by decide) (x_wB (by decide) x_wn)) x_wn (by decide) rfl (c78_1_S0 j12  (by decide) m28) (fun v25 h29 l26 q27 => ?_)
    obtain ⟨j30, f31, b32, c33, c34, c35⟩ := q27
    have f36 := Fr.trans f18 f31 (by decide)
    have b37 := jB (e := 2) 0 j30 rg_1_2_0_1 (by first | decide | omega) (by first | decide | omega)
    have b38 : iv_tl 22 = 5 := by decide
    refine x_ifz (k := 1) (tg := 37) (np := 35) (by decide +kernel) (by decide) l26 (fun q39 => ?_) (fun q40 => ?_)
    · have q39 : v25 ≠ 2147483648 := q39
      have b41 := c33 (by first | decide | omega)
      refine x_aload (np := 38) (x := 0) (by decide +kernel) rfl (x_nc_le (by decide)) ?_
      have q42 : h29 62 0 = 1 := by have z := jB (e := 0) 0 j30 rg_62_0_0_1 (by decide) (by decide); omega
      refine x_getR (np := 41) (x := 192) (f := 0) (q := 1) (by decide +kernel) (by decide) (by decide +kernel) q42 ?_
      refine x_ldcB (i := 23) (idx := 52) (tx := "if") (by rw [tb_y45]; exact List.mem_of_getElem? (i := 23) rfl) (by decide) (by rw [tb_b45]; decide +kernel) ?_
      have m46 := Tp.fr m28 f31 (by decide) (by decide)
      refine x_cI (t := 6) (mj := 78) (n := 2) (rc := 8) (ml := 2) (nr := 0) (np := 46) (as := [x_r 1, x_b (23 + 1)]) (rest := []) (lo1 := [x_r 1, x_b (23 + 1)]) (by decide +kernel) (by decide) (by decide +kernel) (x_rb_of (by decide +kernel)) rfl rfl (x_wr (by decide) (x_wB (by decide) x_wn)) x_wn (by decide) rfl (c78_1_S0 j30  (by decide) m46) (fun v43 h47 l44 q45 => ?_)
      obtain ⟨j48, f49, b50, c51, c52, c53⟩ := q45
      have f54 := Fr.trans f36 f49 (by decide)
      have b55 := jB (e := 2) 0 j48 rg_1_2_0_1 (by first | decide | omega) (by first | decide | omega)
      have b56 : iv_tl 23 = 2 := by decide
      refine x_ifz (k := 1) (tg := 77) (np := 49) (by decide +kernel) (by decide) l44 (fun q57 => ?_) (fun q58 => ?_)
      · have q57 : v43 ≠ 2147483648 := q57
        have b59 := c51 (by first | decide | omega)
        refine x_aload (np := 78) (x := 0) (by decide +kernel) rfl (x_nc_le (by decide)) ?_
        refine x_const (np := 79) (x := 9223372039002259456) (a := 2147483648) (by decide +kernel) (by decide) (by decide) ?_
        have q60 : h47 62 1 = h29 62 1 := f49 62 1 (by decide +kernel)
        have q61 : h29 62 1 = h11 62 1 := f31 62 1 (by decide +kernel)
        have q62 : h11 62 1 = h 62 1 := f13 62 1 (by decide +kernel)
        have q63 : h47 (r1 + 11) 2 = h29 (r1 + 11) 2 := jK 0 f49 (rg_T11_2_0_1 t3) (by first | decide | omega) (by first | decide | omega) (by decide)
        have q64 : h29 (r1 + 11) 2 = h11 (r1 + 11) 2 := jK 0 f31 (rg_T11_2_0_1 t3) (by first | decide | omega) (by first | decide | omega) (by decide)
        have q65 : h11 (r1 + 11) 2 = h (r1 + 11) 2 := jK 0 f13 (rg_T11_2_0_1 t3) (by first | decide | omega) (by first | decide | omega) (by decide)
        have e66 : cl9 h47 = (h (r1 + 11) 2) := (congrArg (fun z => h47 z 2) (((q60.trans q61).trans q62).trans q2)).trans ((q63.trans q64).trans q65)
        have m70 := Tp.fr m46 f49 (by decide) (by decide)
        refine x_cI (t := 6) (mj := 46) (n := 2) (rc := 4) (ml := 3) (nr := 0) (np := 82) (as := [x_r 62, iv_c 2147483648]) (rest := []) (lo1 := [x_r 62, iv_c 2147483648, 147573952589676412928]) (by decide +kernel) (by decide) (by decide +kernel) (x_rb_of (by decide +kernel)) rfl rfl (x_wr (by decide) (x_wi (by decide) x_wn)) x_wn (by decide) rfl (c46_62_c0 j48   (by first | decide | omega) m70) (fun v67 h71 l68 q69 => ?_)
        obtain ⟨j72, f73, b74, c75, c76, c77⟩ := q69
        have f78 := Fr.trans f54 f73 (by decide)
        have b79 := jB (e := 2) 0 j72 rg_1_2_0_1 (by first | decide | omega) (by first | decide | omega)
        have q80 : h47 62 1 = h29 62 1 := f49 62 1 (by decide +kernel)
        have q81 : h29 62 1 = h11 62 1 := f31 62 1 (by decide +kernel)
        have q82 : h11 62 1 = h 62 1 := f13 62 1 (by decide +kernel)
        have q83 : h47 (r1 + 11) 2 = h29 (r1 + 11) 2 := jK 0 f49 (rg_T11_2_0_1 t3) (by first | decide | omega) (by first | decide | omega) (by decide)
        have q84 : h29 (r1 + 11) 2 = h11 (r1 + 11) 2 := jK 0 f31 (rg_T11_2_0_1 t3) (by first | decide | omega) (by first | decide | omega) (by decide)
        have q85 : h11 (r1 + 11) 2 = h (r1 + 11) 2 := jK 0 f13 (rg_T11_2_0_1 t3) (by first | decide | omega) (by first | decide | omega) (by decide)
        have q86 : h71 62 1 = h47 62 1 := f73 62 1 (by decide +kernel)
        have q87 : h47 62 1 = h29 62 1 := f49 62 1 (by decide +kernel)
        have q88 : h29 62 1 = h11 62 1 := f31 62 1 (by decide +kernel)
        have q89 : h11 62 1 = h 62 1 := f13 62 1 (by decide +kernel)
        have b90 := jB (e := 2) 0 j72 (rg_T11_2_0_1 t3) (by first | decide | omega) (by first | decide | omega)
        have e91 : cl9 h71 = (h71 (r1 + 11) 2) := (congrArg (fun z => h71 z 2) ((((q86.trans q87).trans q88).trans q89).trans q2)).trans rfl
        refine x_ifz (k := 0) (tg := 100) (np := 85) (by decide +kernel) (by decide) l68 (fun q92 => ?_) (fun q93 => ?_)
        · have q92 : v67 = 2147483648 := q92
          refine x_const (np := 101) (x := 9223372039002259456) (a := 2147483648) (by decide +kernel) (by decide) (by decide) ?_
          have q94 : h71 62 1 = h47 62 1 := f73 62 1 (by decide +kernel)
          have q95 : h47 62 1 = h29 62 1 := f49 62 1 (by decide +kernel)
          have q96 : h29 62 1 = h11 62 1 := f31 62 1 (by decide +kernel)
          have q97 : h11 62 1 = h 62 1 := f13 62 1 (by decide +kernel)
          obtain ⟨w98, e99⟩ := Tk.no c17 (by first | decide | omega)
          obtain ⟨w100, e101⟩ := Tk.yes c35 (by first | decide | omega)
          obtain ⟨w102, e103⟩ := Tk.yes c53 (by first | decide | omega)
          refine x_retI (np := 102) (x := 0) (by decide +kernel) (by decide) (Or.inr ⟨by decide +kernel, by first | decide | omega, by first | decide | omega⟩) ⟨_, rfl, (by decide), ?_⟩
          exact ⟨j72, f78, (by first | decide | omega), (fun z => by first | decide | omega), (fun z => by first | decide | omega), (gL_if (i := 22) (by decide) w100 (show h11 1 2 = h 1 2 by first | decide | omega) e101 w102 rfl e103 c77 rfl (by first | decide | omega) (fun z => absurd z (by first | decide | omega)))⟩
        have q93 : ¬ (v67 = 2147483648) := q93
        have b104 := c75 (by first | decide | omega)
        have b105 := c76 (by first | decide | omega)
        refine x_aload (np := 86) (x := 0) (by decide +kernel) rfl (x_nc_le (by decide)) ?_
        have q106 : h71 62 1 = h47 62 1 := f73 62 1 (by decide +kernel)
        have q107 : h47 62 1 = h29 62 1 := f49 62 1 (by decide +kernel)
        have q108 : h29 62 1 = h11 62 1 := f31 62 1 (by decide +kernel)
        have q109 : h11 62 1 = h 62 1 := f13 62 1 (by decide +kernel)
        refine x_getR (np := 89) (x := 193) (f := 1) (q := (r1 + 11)) (by decide +kernel) (by decide) (by decide +kernel) ((((q106.trans q107).trans q108).trans q109).trans q2) ?_
        refine x_iload (np := 90) (x := 1) (by decide +kernel) rfl (by decide) ?_
        refine x_nI (t := 6) (mj := 36) (n := 2) (rc := 3) (ml := 2) (nr := 0) (np := 93) (as := [x_r (r1 + 11), iv_c 2147485654]) (rest := []) (lo1 := [x_r (r1 + 11), iv_c 2147485654]) (by decide +kernel) (by decide) (by decide +kernel) (x_rb_of (tr_11_3 t3)) rfl rfl (x_wr (tn_11 t3) (x_wi (by decide) x_wn)) x_wn (by decide) rfl ?_
        refine x_aload (np := 1) (x := 0) (by decide +kernel) rfl (x_nc_le (tn_11 t3)) ?_
        refine x_getC (np := 4) (x := 130) (f := 2) (q := (h71 (r1 + 11) 2)) (by decide +kernel) (by decide) (tg_11_130_2_0 t3) rfl (fun l110 => ?_)
        refine x_const (np := 7) (x := 9223373756989178256) (a := 2147484048) (by decide +kernel) (by decide) (by decide) ?_
        refine x_icmp (k := 2) (tg := 12) (np := 10) (by decide +kernel) (by decide) l110 (by decide) (fun q111 => ?_) (fun q112 => ?_)
        · have q111 : (h71 (r1 + 11) 2) < 2147484048 := q111
          refine x_aload (np := 13) (x := 0) (by decide +kernel) rfl (x_nc_le (tn_11 t3)) ?_
          have q113 : h71 (r1 + 11) 0 = (r1 + 12) := tf_11_0 j72 t3
          refine x_getR (np := 16) (x := 128) (f := 0) (q := (r1 + 12)) (by decide +kernel) (by decide) (tg_11_128_0_1 t3) q113 ?_
          refine x_aload (np := 17) (x := 0) (by decide +kernel) rfl (x_nc_le (tn_11 t3)) ?_
          refine x_getC (np := 20) (x := 130) (f := 2) (q := (h71 (r1 + 11) 2)) (by decide +kernel) (by decide) (tg_11_130_2_0 t3) rfl (fun l114 => ?_)
          refine x_iload (np := 21) (x := 1) (by decide +kernel) rfl (by decide) ?_
          obtain ⟨u115, q116⟩ : ∃ z, (h71 (r1 + 11) 2) = 2147483648 + z := ⟨(h71 (r1 + 11) 2) - 2147483648, by first | decide | omega⟩
          refine x_ast (np := 22) (x := 0) (kd := 1) (n := 400) (i := u115) (by decide +kernel) (Or.inl rfl) (ta_12_400 t3) (by first | decide | omega) (by first | decide | omega) (by decide) (by decide) (fun z => absurd z (by decide)) ?_
          have j118 := jU (e := u115) (v := 2147485654) u115 j72 (rg_T12_0_1_400 t3) (by first | decide | omega) (by first | decide | omega) (by first | decide | omega)
          have f120 := jF (e := u115) (v := 2147485654) u115 f78 (rg_T12_0_1_400 t3) (by first | decide | omega) (by first | decide | omega) (by decide)
          generalize e119 : x_up h71 (r1 + 12) u115 2147485654 = h117 at j118 f120 ⊢
          refine x_aload (np := 23) (x := 0) (by decide +kernel) rfl (x_nc_le (tn_11 t3)) ?_
          refine x_dup (np := 24) (x := 0) (by decide +kernel) (by have z := x_nc_le (k := (r1 + 11)) (tn_11 t3); unfold x_r; omega) ?_
          have q121 : h117 (r1 + 11) 2 = h71 (r1 + 11) 2 := by rw [← e119]; exact x_up_k tof_11_12
          refine x_getC (np := 27) (x := 130) (f := 2) (q := (h71 (r1 + 11) 2)) (by decide +kernel) (by decide) (tg_11_130_2_0 t3) q121 (fun l122 => ?_)
          refine x_const (np := 28) (x := 9223372043297226753) (a := 2147483649) (by decide +kernel) (by decide) (by decide) ?_
          refine x_iadd (np := 29) (x := 0) (v := (1 + (h71 (r1 + 11) 2))) (by decide +kernel) l110 (by decide) (by first | decide | omega) (by first | decide | omega) ?_
          refine x_putI (np := 32) (x := 130) (f := 2) (by decide +kernel) (tg_11_130_2_0 t3) (by first | decide | omega) (Or.inl (by decide)) ?_
          have j124 := jU (e := 2) (v := (1 + (h71 (r1 + 11) 2))) 0 j118 (rg_T11_2_0_1 t3) (by first | decide | omega) (by first | decide | omega) (by first | decide | omega)
          have f126 := jF (e := 2) (v := (1 + (h71 (r1 + 11) 2))) 0 f120 (rg_T11_2_0_1 t3) (by first | decide | omega) (by first | decide | omega) (by decide)
          generalize e125 : x_up h117 (r1 + 11) 2 (1 + (h71 (r1 + 11) 2)) = h123 at j124 f126 ⊢
          refine x_const (np := 33) (x := 9223372043297226753) (a := 2147483649) (by decide +kernel) (by decide) (by decide) ?_
          refine x_retI (np := 34) (x := 0) (by decide +kernel) (by decide) (Or.inr ⟨by decide +kernel, by first | decide | omega, by first | decide | omega⟩) ⟨_, rfl, (by decide), ?_⟩
          refine x_ifz (k := 0) (tg := 100) (np := 96) (by decide +kernel) (by decide) (by decide) (fun q127 => ?_) (fun q128 => ?_)
          · have q127 : 2147483649 = 2147483648 := q127
            exfalso; omega
          have q128 : ¬ (2147483649 = 2147483648) := q128
          refine x_const (np := 97) (x := 9223372043297226753) (a := 2147483649) (by decide +kernel) (by decide) (by decide) ?_
          refine x_goto (np := 100) (x := 101) (by decide +kernel) ?_
          have q129 : h123 1 2 = h117 1 2 := by rw [← e125]; exact x_up_k (Ne.symm (tne_11_1 t3))
          have q130 : h117 1 2 = h71 1 2 := by rw [← e119]; exact x_up_k (Ne.symm (tne_12_1 t3))
          have q131 : h123 62 1 = h117 62 1 := by rw [← e125]; exact x_up_k (Ne.symm (tne_11_62 t3))
          have q132 : h117 62 1 = h71 62 1 := by rw [← e119]; exact x_up_k (Ne.symm (tne_12_62 t3))
          have q133 : h71 62 1 = h47 62 1 := f73 62 1 (by decide +kernel)
          have q134 : h47 62 1 = h29 62 1 := f49 62 1 (by decide +kernel)
          have q135 : h29 62 1 = h11 62 1 := f31 62 1 (by decide +kernel)
          have q136 : h11 62 1 = h 62 1 := f13 62 1 (by decide +kernel)
          have q137 : h123 (r1 + 11) 2 = (1 + (h71 (r1 + 11) 2)) := by rw [← e125]; exact x_up_at
          have e138 : cl9 h123 = (1 + (h71 (r1 + 11) 2)) := (congrArg (fun z => h123 z 2) ((((((q131.trans q132).trans q133).trans q134).trans q135).trans q136).trans q2)).trans q137
          have q139 : h123 1 2 = h117 1 2 := by rw [← e125]; exact x_up_k (Ne.symm (tne_11_1 t3))
          have q140 : h117 1 2 = h71 1 2 := by rw [← e119]; exact x_up_k (Ne.symm (tne_12_1 t3))
          obtain ⟨w141, e142⟩ := Tk.no c17 (by first | decide | omega)
          obtain ⟨w143, e144⟩ := Tk.yes c35 (by first | decide | omega)
          obtain ⟨w145, e146⟩ := Tk.yes c53 (by first | decide | omega)
          have q147 : h123 1 2 = h117 1 2 := by rw [← e125]; exact x_up_k (Ne.symm (tne_11_1 t3))
          have q148 : h117 1 2 = h71 1 2 := by rw [← e119]; exact x_up_k (Ne.symm (tne_12_1 t3))
          refine x_retI (np := 102) (x := 0) (by decide +kernel) (by decide) (Or.inr ⟨by decide +kernel, by first | decide | omega, by first | decide | omega⟩) ⟨_, rfl, (by decide), ?_⟩
          exact ⟨j124, f126, (by first | decide | omega), (fun z => by first | decide | omega), (fun z => by first | decide | omega), (gL_if (i := 22) (by decide) w143 (show h11 1 2 = h 1 2 by first | decide | omega) e144 w145 rfl e146 c77 rfl (by first | decide | omega) (fun z => (show h71 1 2 = h123 1 2 by first | decide | omega)))⟩
        have q112 : ¬ ((h71 (r1 + 11) 2) < 2147484048) := q112
        refine x_const (np := 11) (x := 9223372039002259456) (a := 2147483648) (by decide +kernel) (by decide) (by decide) ?_
        refine x_retI (np := 12) (x := 0) (by decide +kernel) (by decide) (Or.inr ⟨by decide +kernel, by first | decide | omega, by first | decide | omega⟩) ⟨_, rfl, (by decide), ?_⟩
        refine x_ifz (k := 0) (tg := 100) (np := 96) (by decide +kernel) (by decide) (by decide) (fun q149 => ?_) (fun q150 => ?_)
        · have q149 : 2147483648 = 2147483648 := q149
          refine x_const (np := 101) (x := 9223372039002259456) (a := 2147483648) (by decide +kernel) (by decide) (by decide) ?_
          have q151 : h71 62 1 = h47 62 1 := f73 62 1 (by decide +kernel)
          have q152 : h47 62 1 = h29 62 1 := f49 62 1 (by decide +kernel)
          have q153 : h29 62 1 = h11 62 1 := f31 62 1 (by decide +kernel)
          have q154 : h11 62 1 = h 62 1 := f13 62 1 (by decide +kernel)
          obtain ⟨w155, e156⟩ := Tk.no c17 (by first | decide | omega)
          obtain ⟨w157, e158⟩ := Tk.yes c35 (by first | decide | omega)
          obtain ⟨w159, e160⟩ := Tk.yes c53 (by first | decide | omega)
          refine x_retI (np := 102) (x := 0) (by decide +kernel) (by decide) (Or.inr ⟨by decide +kernel, by first | decide | omega, by first | decide | omega⟩) ⟨_, rfl, (by decide), ?_⟩
          exact ⟨j72, f78, (by first | decide | omega), (fun z => by first | decide | omega), (fun z => by first | decide | omega), (gL_if (i := 22) (by decide) w157 (show h11 1 2 = h 1 2 by first | decide | omega) e158 w159 rfl e160 c77 rfl (by first | decide | omega) (fun z => rfl))⟩
        have q150 : ¬ (2147483648 = 2147483648) := q150
        exfalso; omega
      have q58 : ¬ (v43 ≠ 2147483648) := q58
      have b161 := c52 (by first | decide | omega)
      refine x_aload (np := 50) (x := 0) (by decide +kernel) rfl (x_nc_le (by decide)) ?_
      have q162 : h47 62 1 = h29 62 1 := f49 62 1 (by decide +kernel)
      have q163 : h29 62 1 = h11 62 1 := f31 62 1 (by decide +kernel)
      have q164 : h11 62 1 = h 62 1 := f13 62 1 (by decide +kernel)
      refine x_getR (np := 53) (x := 193) (f := 1) (q := (r1 + 11)) (by decide +kernel) (by decide) (by decide +kernel) (((q162.trans q163).trans q164).trans q2) ?_
      refine x_const (np := 54) (x := 9223372043297226753) (a := 2147483649) (by decide +kernel) (by decide) (by decide) ?_
      refine x_nI (t := 6) (mj := 36) (n := 2) (rc := 3) (ml := 2) (nr := 0) (np := 57) (as := [x_r (r1 + 11), iv_c 2147483649]) (rest := []) (lo1 := [x_r (r1 + 11), iv_c 2147483649]) (by decide +kernel) (by decide) (by decide +kernel) (x_rb_of (tr_11_3 t3)) rfl rfl (x_wr (tn_11 t3) (x_wi (by decide) x_wn)) x_wn (by decide) rfl ?_
      refine x_aload (np := 1) (x := 0) (by decide +kernel) rfl (x_nc_le (tn_11 t3)) ?_
      have q165 : h47 (r1 + 11) 2 = h29 (r1 + 11) 2 := jK 0 f49 (rg_T11_2_0_1 t3) (by first | decide | omega) (by first | decide | omega) (by decide)
      have q166 : h29 (r1 + 11) 2 = h11 (r1 + 11) 2 := jK 0 f31 (rg_T11_2_0_1 t3) (by first | decide | omega) (by first | decide | omega) (by decide)
      have q167 : h11 (r1 + 11) 2 = h (r1 + 11) 2 := jK 0 f13 (rg_T11_2_0_1 t3) (by first | decide | omega) (by first | decide | omega) (by decide)
      refine x_getC (np := 4) (x := 130) (f := 2) (q := (h (r1 + 11) 2)) (by decide +kernel) (by decide) (tg_11_130_2_0 t3) ((q165.trans q166).trans q167) (fun l168 => ?_)
      refine x_const (np := 7) (x := 9223373756989178256) (a := 2147484048) (by decide +kernel) (by decide) (by decide) ?_
      refine x_icmp (k := 2) (tg := 12) (np := 10) (by decide +kernel) (by decide) l168 (by decide) (fun q169 => ?_) (fun q170 => ?_)
      · have q169 : (h (r1 + 11) 2) < 2147484048 := q169
        refine x_aload (np := 13) (x := 0) (by decide +kernel) rfl (x_nc_le (tn_11 t3)) ?_
        have q171 : h47 (r1 + 11) 0 = (r1 + 12) := tf_11_0 j48 t3
        refine x_getR (np := 16) (x := 128) (f := 0) (q := (r1 + 12)) (by decide +kernel) (by decide) (tg_11_128_0_1 t3) q171 ?_
        refine x_aload (np := 17) (x := 0) (by decide +kernel) rfl (x_nc_le (tn_11 t3)) ?_
        have q172 : h47 (r1 + 11) 2 = h29 (r1 + 11) 2 := jK 0 f49 (rg_T11_2_0_1 t3) (by first | decide | omega) (by first | decide | omega) (by decide)
        have q173 : h29 (r1 + 11) 2 = h11 (r1 + 11) 2 := jK 0 f31 (rg_T11_2_0_1 t3) (by first | decide | omega) (by first | decide | omega) (by decide)
        have q174 : h11 (r1 + 11) 2 = h (r1 + 11) 2 := jK 0 f13 (rg_T11_2_0_1 t3) (by first | decide | omega) (by first | decide | omega) (by decide)
        refine x_getC (np := 20) (x := 130) (f := 2) (q := (h (r1 + 11) 2)) (by decide +kernel) (by decide) (tg_11_130_2_0 t3) ((q172.trans q173).trans q174) (fun l175 => ?_)
        refine x_iload (np := 21) (x := 1) (by decide +kernel) rfl (by decide) ?_
        obtain ⟨u176, q177⟩ : ∃ z, (h (r1 + 11) 2) = 2147483648 + z := ⟨(h (r1 + 11) 2) - 2147483648, by first | decide | omega⟩
        refine x_ast (np := 22) (x := 0) (kd := 1) (n := 400) (i := u176) (by decide +kernel) (Or.inl rfl) (ta_12_400 t3) (by first | decide | omega) (by first | decide | omega) (by decide) (by decide) (fun z => absurd z (by decide)) ?_
        have j179 := jU (e := u176) (v := 2147483649) u176 j48 (rg_T12_0_1_400 t3) (by first | decide | omega) (by first | decide | omega) (by first | decide | omega)
        have f181 := jF (e := u176) (v := 2147483649) u176 f54 (rg_T12_0_1_400 t3) (by first | decide | omega) (by first | decide | omega) (by decide)
        generalize e180 : x_up h47 (r1 + 12) u176 2147483649 = h178 at j179 f181 ⊢
        refine x_aload (np := 23) (x := 0) (by decide +kernel) rfl (x_nc_le (tn_11 t3)) ?_
        refine x_dup (np := 24) (x := 0) (by decide +kernel) (by have z := x_nc_le (k := (r1 + 11)) (tn_11 t3); unfold x_r; omega) ?_
        have q182 : h178 (r1 + 11) 2 = h47 (r1 + 11) 2 := by rw [← e180]; exact x_up_k tof_11_12
        have q183 : h47 (r1 + 11) 2 = h29 (r1 + 11) 2 := jK 0 f49 (rg_T11_2_0_1 t3) (by first | decide | omega) (by first | decide | omega) (by decide)
        have q184 : h29 (r1 + 11) 2 = h11 (r1 + 11) 2 := jK 0 f31 (rg_T11_2_0_1 t3) (by first | decide | omega) (by first | decide | omega) (by decide)
        have q185 : h11 (r1 + 11) 2 = h (r1 + 11) 2 := jK 0 f13 (rg_T11_2_0_1 t3) (by first | decide | omega) (by first | decide | omega) (by decide)
        refine x_getC (np := 27) (x := 130) (f := 2) (q := (h (r1 + 11) 2)) (by decide +kernel) (by decide) (tg_11_130_2_0 t3) (((q182.trans q183).trans q184).trans q185) (fun l186 => ?_)
        refine x_const (np := 28) (x := 9223372043297226753) (a := 2147483649) (by decide +kernel) (by decide) (by decide) ?_
        refine x_iadd (np := 29) (x := 0) (v := (1 + (h (r1 + 11) 2))) (by decide +kernel) l168 (by decide) (by first | decide | omega) (by first | decide | omega) ?_
        refine x_putI (np := 32) (x := 130) (f := 2) (by decide +kernel) (tg_11_130_2_0 t3) (by first | decide | omega) (Or.inl (by decide)) ?_
        have j188 := jU (e := 2) (v := (1 + (h (r1 + 11) 2))) 0 j179 (rg_T11_2_0_1 t3) (by first | decide | omega) (by first | decide | omega) (by first | decide | omega)
        have f190 := jF (e := 2) (v := (1 + (h (r1 + 11) 2))) 0 f181 (rg_T11_2_0_1 t3) (by first | decide | omega) (by first | decide | omega) (by decide)
        generalize e189 : x_up h178 (r1 + 11) 2 (1 + (h (r1 + 11) 2)) = h187 at j188 f190 ⊢
        refine x_const (np := 33) (x := 9223372043297226753) (a := 2147483649) (by decide +kernel) (by decide) (by decide) ?_
        refine x_retI (np := 34) (x := 0) (by decide +kernel) (by decide) (Or.inr ⟨by decide +kernel, by first | decide | omega, by first | decide | omega⟩) ⟨_, rfl, (by decide), ?_⟩
        refine x_ifz (k := 0) (tg := 75) (np := 60) (by decide +kernel) (by decide) (by decide) (fun q191 => ?_) (fun q192 => ?_)
        · have q191 : 2147483649 = 2147483648 := q191
          exfalso; omega
        have q192 : ¬ (2147483649 = 2147483648) := q192
        refine x_aload (np := 61) (x := 0) (by decide +kernel) rfl (x_nc_le (by decide)) ?_
        have q193 : h187 62 1 = h178 62 1 := by rw [← e189]; exact x_up_k (Ne.symm (tne_11_62 t3))
        have q194 : h178 62 1 = h47 62 1 := by rw [← e180]; exact x_up_k (Ne.symm (tne_12_62 t3))
        have q195 : h47 62 1 = h29 62 1 := f49 62 1 (by decide +kernel)
        have q196 : h29 62 1 = h11 62 1 := f31 62 1 (by decide +kernel)
        have q197 : h11 62 1 = h 62 1 := f13 62 1 (by decide +kernel)
        refine x_getR (np := 64) (x := 193) (f := 1) (q := (r1 + 11)) (by decide +kernel) (by decide) (by decide +kernel) (((((q193.trans q194).trans q195).trans q196).trans q197).trans q2) ?_
        refine x_iload (np := 65) (x := 1) (by decide +kernel) rfl (by decide) ?_
        refine x_nI (t := 6) (mj := 36) (n := 2) (rc := 3) (ml := 2) (nr := 0) (np := 68) (as := [x_r (r1 + 11), iv_c 2147485654]) (rest := []) (lo1 := [x_r (r1 + 11), iv_c 2147485654]) (by decide +kernel) (by decide) (by decide +kernel) (x_rb_of (tr_11_3 t3)) rfl rfl (x_wr (tn_11 t3) (x_wi (by decide) x_wn)) x_wn (by decide) rfl ?_
        refine x_aload (np := 1) (x := 0) (by decide +kernel) rfl (x_nc_le (tn_11 t3)) ?_
        have q198 : h187 (r1 + 11) 2 = (1 + (h (r1 + 11) 2)) := by rw [← e189]; exact x_up_at
        refine x_getC (np := 4) (x := 130) (f := 2) (q := (1 + (h (r1 + 11) 2))) (by decide +kernel) (by decide) (tg_11_130_2_0 t3) q198 (fun l199 => ?_)
        refine x_const (np := 7) (x := 9223373756989178256) (a := 2147484048) (by decide +kernel) (by decide) (by decide) ?_
        refine x_icmp (k := 2) (tg := 12) (np := 10) (by decide +kernel) (by decide) (by first | decide | omega) (by decide) (fun q200 => ?_) (fun q201 => ?_)
        · have q200 : (1 + (h (r1 + 11) 2)) < 2147484048 := q200
          refine x_aload (np := 13) (x := 0) (by decide +kernel) rfl (x_nc_le (tn_11 t3)) ?_
          have q202 : h187 (r1 + 11) 0 = (r1 + 12) := tf_11_0 j188 t3
          refine x_getR (np := 16) (x := 128) (f := 0) (q := (r1 + 12)) (by decide +kernel) (by decide) (tg_11_128_0_1 t3) q202 ?_
          refine x_aload (np := 17) (x := 0) (by decide +kernel) rfl (x_nc_le (tn_11 t3)) ?_
          have q203 : h187 (r1 + 11) 2 = (1 + (h (r1 + 11) 2)) := by rw [← e189]; exact x_up_at
          refine x_getC (np := 20) (x := 130) (f := 2) (q := (1 + (h (r1 + 11) 2))) (by decide +kernel) (by decide) (tg_11_130_2_0 t3) q203 (fun l204 => ?_)
          refine x_iload (np := 21) (x := 1) (by decide +kernel) rfl (by decide) ?_
          refine x_ast (np := 22) (x := 0) (kd := 1) (n := 400) (i := (1 + u176)) (by decide +kernel) (Or.inl rfl) (ta_12_400 t3) (by first | decide | omega) (by first | decide | omega) (by decide) (by decide) (fun z => absurd z (by decide)) ?_
          have j206 := jU (e := (1 + u176)) (v := 2147485654) (1 + u176) j188 (rg_T12_0_1_400 t3) (by first | decide | omega) (by first | decide | omega) (by first | decide | omega)
          have f208 := jF (e := (1 + u176)) (v := 2147485654) (1 + u176) f190 (rg_T12_0_1_400 t3) (by first | decide | omega) (by first | decide | omega) (by decide)
          generalize e207 : x_up h187 (r1 + 12) (1 + u176) 2147485654 = h205 at j206 f208 ⊢
          refine x_aload (np := 23) (x := 0) (by decide +kernel) rfl (x_nc_le (tn_11 t3)) ?_
          refine x_dup (np := 24) (x := 0) (by decide +kernel) (by have z := x_nc_le (k := (r1 + 11)) (tn_11 t3); unfold x_r; omega) ?_
          have q209 : h205 (r1 + 11) 2 = h187 (r1 + 11) 2 := by rw [← e207]; exact x_up_k tof_11_12
          have q210 : h187 (r1 + 11) 2 = (1 + (h (r1 + 11) 2)) := by rw [← e189]; exact x_up_at
          refine x_getC (np := 27) (x := 130) (f := 2) (q := (1 + (h (r1 + 11) 2))) (by decide +kernel) (by decide) (tg_11_130_2_0 t3) (q209.trans q210) (fun l211 => ?_)
          refine x_const (np := 28) (x := 9223372043297226753) (a := 2147483649) (by decide +kernel) (by decide) (by decide) ?_
          refine x_iadd (np := 29) (x := 0) (v := (2 + (h (r1 + 11) 2))) (by decide +kernel) (by first | decide | omega) (by decide) (by first | decide | omega) (by first | decide | omega) ?_
          refine x_putI (np := 32) (x := 130) (f := 2) (by decide +kernel) (tg_11_130_2_0 t3) (by first | decide | omega) (Or.inl (by decide)) ?_
          have j213 := jU (e := 2) (v := (2 + (h (r1 + 11) 2))) 0 j206 (rg_T11_2_0_1 t3) (by first | decide | omega) (by first | decide | omega) (by first | decide | omega)
          have f215 := jF (e := 2) (v := (2 + (h (r1 + 11) 2))) 0 f208 (rg_T11_2_0_1 t3) (by first | decide | omega) (by first | decide | omega) (by decide)
          generalize e214 : x_up h205 (r1 + 11) 2 (2 + (h (r1 + 11) 2)) = h212 at j213 f215 ⊢
          refine x_const (np := 33) (x := 9223372043297226753) (a := 2147483649) (by decide +kernel) (by decide) (by decide) ?_
          refine x_retI (np := 34) (x := 0) (by decide +kernel) (by decide) (Or.inr ⟨by decide +kernel, by first | decide | omega, by first | decide | omega⟩) ⟨_, rfl, (by decide), ?_⟩
          refine x_ifz (k := 0) (tg := 75) (np := 71) (by decide +kernel) (by decide) (by decide) (fun q216 => ?_) (fun q217 => ?_)
          · have q216 : 2147483649 = 2147483648 := q216
            exfalso; omega
          have q217 : ¬ (2147483649 = 2147483648) := q217
          refine x_const (np := 72) (x := 9223372043297226753) (a := 2147483649) (by decide +kernel) (by decide) (by decide) ?_
          refine x_goto (np := 75) (x := 76) (by decide +kernel) ?_
          have q218 : h212 1 2 = h205 1 2 := by rw [← e214]; exact x_up_k (Ne.symm (tne_11_1 t3))
          have q219 : h205 1 2 = h187 1 2 := by rw [← e207]; exact x_up_k (Ne.symm (tne_12_1 t3))
          have q220 : h187 1 2 = h178 1 2 := by rw [← e189]; exact x_up_k (Ne.symm (tne_11_1 t3))
          have q221 : h178 1 2 = h47 1 2 := by rw [← e180]; exact x_up_k (Ne.symm (tne_12_1 t3))
          have q222 : h212 62 1 = h205 62 1 := by rw [← e214]; exact x_up_k (Ne.symm (tne_11_62 t3))
          have q223 : h205 62 1 = h187 62 1 := by rw [← e207]; exact x_up_k (Ne.symm (tne_12_62 t3))
          have q224 : h187 62 1 = h178 62 1 := by rw [← e189]; exact x_up_k (Ne.symm (tne_11_62 t3))
          have q225 : h178 62 1 = h47 62 1 := by rw [← e180]; exact x_up_k (Ne.symm (tne_12_62 t3))
          have q226 : h47 62 1 = h29 62 1 := f49 62 1 (by decide +kernel)
          have q227 : h29 62 1 = h11 62 1 := f31 62 1 (by decide +kernel)
          have q228 : h11 62 1 = h 62 1 := f13 62 1 (by decide +kernel)
          have q229 : h212 (r1 + 11) 2 = (2 + (h (r1 + 11) 2)) := by rw [← e214]; exact x_up_at
          have e230 : cl9 h212 = (2 + (h (r1 + 11) 2)) := (congrArg (fun z => h212 z 2) (((((((q222.trans q223).trans q224).trans q225).trans q226).trans q227).trans q228).trans q2)).trans q229
          have q231 : h212 1 2 = h205 1 2 := by rw [← e214]; exact x_up_k (Ne.symm (tne_11_1 t3))
          have q232 : h205 1 2 = h187 1 2 := by rw [← e207]; exact x_up_k (Ne.symm (tne_12_1 t3))
          have q233 : h187 1 2 = h178 1 2 := by rw [← e189]; exact x_up_k (Ne.symm (tne_11_1 t3))
          have q234 : h178 1 2 = h47 1 2 := by rw [← e180]; exact x_up_k (Ne.symm (tne_12_1 t3))
          obtain ⟨w235, e236⟩ := Tk.no c17 (by first | decide | omega)
          obtain ⟨w237, e238⟩ := Tk.yes c35 (by first | decide | omega)
          obtain ⟨w239, e240⟩ := Tk.no c53 (by first | decide | omega)
          have q241 : h212 1 2 = h205 1 2 := by rw [← e214]; exact x_up_k (Ne.symm (tne_11_1 t3))
          have q242 : h205 1 2 = h187 1 2 := by rw [← e207]; exact x_up_k (Ne.symm (tne_12_1 t3))
          have q243 : h187 1 2 = h178 1 2 := by rw [← e189]; exact x_up_k (Ne.symm (tne_11_1 t3))
          have q244 : h178 1 2 = h47 1 2 := by rw [← e180]; exact x_up_k (Ne.symm (tne_12_1 t3))
          refine x_retI (np := 77) (x := 0) (by decide +kernel) (by decide) (Or.inr ⟨by decide +kernel, by first | decide | omega, by first | decide | omega⟩) ⟨_, rfl, (by decide), ?_⟩
          exact ⟨j213, f215, (by first | decide | omega), (fun z => by first | decide | omega), (fun z => by first | decide | omega), (gL_end (i := 22) (by decide) w237 (show h11 1 2 = h 1 2 by first | decide | omega) e238 w239 rfl (by first | decide | omega) (show h29 1 2 = h212 1 2 by first | decide | omega))⟩
        have q201 : ¬ ((1 + (h (r1 + 11) 2)) < 2147484048) := q201
        exfalso; omega
      have q170 : ¬ ((h (r1 + 11) 2) < 2147484048) := q170
      exfalso; omega
    have q40 : ¬ (v25 ≠ 2147483648) := q40
    have b245 := c34 (by first | decide | omega)
    refine x_const (np := 36) (x := 9223372039002259456) (a := 2147483648) (by decide +kernel) (by decide) (by decide) ?_
    have q246 : h29 62 1 = h11 62 1 := f31 62 1 (by decide +kernel)
    have q247 : h11 62 1 = h 62 1 := f13 62 1 (by decide +kernel)
    have q248 : h29 (r1 + 11) 2 = h11 (r1 + 11) 2 := jK 0 f31 (rg_T11_2_0_1 t3) (by first | decide | omega) (by first | decide | omega) (by decide)
    have q249 : h11 (r1 + 11) 2 = h (r1 + 11) 2 := jK 0 f13 (rg_T11_2_0_1 t3) (by first | decide | omega) (by first | decide | omega) (by decide)
    have e250 : cl9 h29 = (h (r1 + 11) 2) := (congrArg (fun z => h29 z 2) ((q246.trans q247).trans q2)).trans (q248.trans q249)
    obtain ⟨w251, e252⟩ := Tk.no c17 (by first | decide | omega)
    obtain ⟨w253, e254⟩ := Tk.no c35 (by first | decide | omega)
    refine x_retI (np := 37) (x := 0) (by decide +kernel) (by decide) (Or.inr ⟨by decide +kernel, by first | decide | omega, by first | decide | omega⟩) ⟨_, rfl, (by decide), ?_⟩
    exact ⟨j30, f36, (by first | decide | omega), (fun z => by first | decide | omega), (fun z => by first | decide | omega), (gL_no w251 rfl w253 (show h11 1 2 = h 1 2 by first | decide | omega) (by first | decide | omega))⟩
  have q22 : ¬ (v8 = 2147483648) := q22
  have b255 := c15 (by first | decide | omega)
  refine x_const (np := 19) (x := 9223380659001624535) (a := 2147485655) (by decide +kernel) (by decide) (by decide) ?_
  refine x_istore (np := 20) (x := 1) (lo' := [x_r 62, iv_c 2147485655]) (by decide +kernel) (by decide) (Nat.le_of_ble_eq_true rfl) rfl ?_
  refine x_goto (np := 23) (x := 37) (by decide +kernel) ?_
  refine x_aload (np := 38) (x := 0) (by decide +kernel) rfl (x_nc_le (by decide)) ?_
  have q256 : h11 62 0 = 1 := by have z := jB (e := 0) 0 j12 rg_62_0_0_1 (by decide) (by decide); omega
  refine x_getR (np := 41) (x := 192) (f := 0) (q := 1) (by decide +kernel) (by decide) (by decide +kernel) q256 ?_
  refine x_ldcB (i := 23) (idx := 52) (tx := "if") (by rw [tb_y45]; exact List.mem_of_getElem? (i := 23) rfl) (by decide) (by rw [tb_b45]; decide +kernel) ?_
  have m260 := Tp.fr hT f13 (by decide) (by decide)
  refine x_cI (t := 6) (mj := 78) (n := 2) (rc := 8) (ml := 2) (nr := 0) (np := 46) (as := [x_r 1, x_b (23 + 1)]) (rest := []) (lo1 := [x_r 1, x_b (23 + 1)]) (by decide +kernel) (by decide) (by decide +kernel) (x_rb_of (by decide +kernel)) rfl rfl (x_wr (by decide) (x_wB (by decide) x_wn)) x_wn (by decide) rfl (c78_1_S0 j12  (by decide) m260) (fun v257 h261 l258 q259 => ?_)
  obtain ⟨j262, f263, b264, c265, c266, c267⟩ := q259
  have f268 := Fr.trans f18 f263 (by decide)
  have b269 := jB (e := 2) 0 j262 rg_1_2_0_1 (by first | decide | omega) (by first | decide | omega)
  have b270 : iv_tl 23 = 2 := by decide
  refine x_ifz (k := 1) (tg := 77) (np := 49) (by decide +kernel) (by decide) l258 (fun q271 => ?_) (fun q272 => ?_)
  · have q271 : v257 ≠ 2147483648 := q271
    have b273 := c265 (by first | decide | omega)
    refine x_aload (np := 78) (x := 0) (by decide +kernel) rfl (x_nc_le (by decide)) ?_
    refine x_const (np := 79) (x := 9223372039002259456) (a := 2147483648) (by decide +kernel) (by decide) (by decide) ?_
    have q274 : h261 62 1 = h11 62 1 := f263 62 1 (by decide +kernel)
    have q275 : h11 62 1 = h 62 1 := f13 62 1 (by decide +kernel)
    have q276 : h261 (r1 + 11) 2 = h11 (r1 + 11) 2 := jK 0 f263 (rg_T11_2_0_1 t3) (by first | decide | omega) (by first | decide | omega) (by decide)
    have q277 : h11 (r1 + 11) 2 = h (r1 + 11) 2 := jK 0 f13 (rg_T11_2_0_1 t3) (by first | decide | omega) (by first | decide | omega) (by decide)
    have e278 : cl9 h261 = (h (r1 + 11) 2) := (congrArg (fun z => h261 z 2) ((q274.trans q275).trans q2)).trans (q276.trans q277)
    have m282 := Tp.fr m260 f263 (by decide) (by decide)
    refine x_cI (t := 6) (mj := 46) (n := 2) (rc := 4) (ml := 3) (nr := 0) (np := 82) (as := [x_r 62, iv_c 2147483648]) (rest := []) (lo1 := [x_r 62, iv_c 2147483648, 147573952589676412928]) (by decide +kernel) (by decide) (by decide +kernel) (x_rb_of (by decide +kernel)) rfl rfl (x_wr (by decide) (x_wi (by decide) x_wn)) x_wn (by decide) rfl (c46_62_c0 j262   (by first | decide | omega) m282) (fun v279 h283 l280 q281 => ?_)
    obtain ⟨j284, f285, b286, c287, c288, c289⟩ := q281
    have f290 := Fr.trans f268 f285 (by decide)
    have b291 := jB (e := 2) 0 j284 rg_1_2_0_1 (by first | decide | omega) (by first | decide | omega)
    have q292 : h261 62 1 = h11 62 1 := f263 62 1 (by decide +kernel)
    have q293 : h11 62 1 = h 62 1 := f13 62 1 (by decide +kernel)
    have q294 : h261 (r1 + 11) 2 = h11 (r1 + 11) 2 := jK 0 f263 (rg_T11_2_0_1 t3) (by first | decide | omega) (by first | decide | omega) (by decide)
    have q295 : h11 (r1 + 11) 2 = h (r1 + 11) 2 := jK 0 f13 (rg_T11_2_0_1 t3) (by first | decide | omega) (by first | decide | omega) (by decide)
    have q296 : h283 62 1 = h261 62 1 := f285 62 1 (by decide +kernel)
    have q297 : h261 62 1 = h11 62 1 := f263 62 1 (by decide +kernel)
    have q298 : h11 62 1 = h 62 1 := f13 62 1 (by decide +kernel)
    have b299 := jB (e := 2) 0 j284 (rg_T11_2_0_1 t3) (by first | decide | omega) (by first | decide | omega)
    have e300 : cl9 h283 = (h283 (r1 + 11) 2) := (congrArg (fun z => h283 z 2) (((q296.trans q297).trans q298).trans q2)).trans rfl
    refine x_ifz (k := 0) (tg := 100) (np := 85) (by decide +kernel) (by decide) l280 (fun q301 => ?_) (fun q302 => ?_)
    · have q301 : v279 = 2147483648 := q301
      refine x_const (np := 101) (x := 9223372039002259456) (a := 2147483648) (by decide +kernel) (by decide) (by decide) ?_
      have q303 : h283 62 1 = h261 62 1 := f285 62 1 (by decide +kernel)
      have q304 : h261 62 1 = h11 62 1 := f263 62 1 (by decide +kernel)
      have q305 : h11 62 1 = h 62 1 := f13 62 1 (by decide +kernel)
      obtain ⟨w306, e307⟩ := Tk.yes c17 (by first | decide | omega)
      obtain ⟨w308, e309⟩ := Tk.yes c267 (by first | decide | omega)
      refine x_retI (np := 102) (x := 0) (by decide +kernel) (by decide) (Or.inr ⟨by decide +kernel, by first | decide | omega, by first | decide | omega⟩) ⟨_, rfl, (by decide), ?_⟩
      exact ⟨j284, f290, (by first | decide | omega), (fun z => by first | decide | omega), (fun z => by first | decide | omega), (gL_if (i := 21) (by decide) w306 rfl e307 w308 rfl e309 c289 rfl (by first | decide | omega) (fun z => absurd z (by first | decide | omega)))⟩
    have q302 : ¬ (v279 = 2147483648) := q302
    have b310 := c287 (by first | decide | omega)
    have b311 := c288 (by first | decide | omega)
    refine x_aload (np := 86) (x := 0) (by decide +kernel) rfl (x_nc_le (by decide)) ?_
    have q312 : h283 62 1 = h261 62 1 := f285 62 1 (by decide +kernel)
    have q313 : h261 62 1 = h11 62 1 := f263 62 1 (by decide +kernel)
    have q314 : h11 62 1 = h 62 1 := f13 62 1 (by decide +kernel)
    refine x_getR (np := 89) (x := 193) (f := 1) (q := (r1 + 11)) (by decide +kernel) (by decide) (by decide +kernel) (((q312.trans q313).trans q314).trans q2) ?_
    refine x_iload (np := 90) (x := 1) (by decide +kernel) rfl (by decide) ?_
    refine x_nI (t := 6) (mj := 36) (n := 2) (rc := 3) (ml := 2) (nr := 0) (np := 93) (as := [x_r (r1 + 11), iv_c 2147485655]) (rest := []) (lo1 := [x_r (r1 + 11), iv_c 2147485655]) (by decide +kernel) (by decide) (by decide +kernel) (x_rb_of (tr_11_3 t3)) rfl rfl (x_wr (tn_11 t3) (x_wi (by decide) x_wn)) x_wn (by decide) rfl ?_
    refine x_aload (np := 1) (x := 0) (by decide +kernel) rfl (x_nc_le (tn_11 t3)) ?_
    refine x_getC (np := 4) (x := 130) (f := 2) (q := (h283 (r1 + 11) 2)) (by decide +kernel) (by decide) (tg_11_130_2_0 t3) rfl (fun l315 => ?_)
    refine x_const (np := 7) (x := 9223373756989178256) (a := 2147484048) (by decide +kernel) (by decide) (by decide) ?_
    refine x_icmp (k := 2) (tg := 12) (np := 10) (by decide +kernel) (by decide) l315 (by decide) (fun q316 => ?_) (fun q317 => ?_)
    · have q316 : (h283 (r1 + 11) 2) < 2147484048 := q316
      refine x_aload (np := 13) (x := 0) (by decide +kernel) rfl (x_nc_le (tn_11 t3)) ?_
      have q318 : h283 (r1 + 11) 0 = (r1 + 12) := tf_11_0 j284 t3
      refine x_getR (np := 16) (x := 128) (f := 0) (q := (r1 + 12)) (by decide +kernel) (by decide) (tg_11_128_0_1 t3) q318 ?_
      refine x_aload (np := 17) (x := 0) (by decide +kernel) rfl (x_nc_le (tn_11 t3)) ?_
      refine x_getC (np := 20) (x := 130) (f := 2) (q := (h283 (r1 + 11) 2)) (by decide +kernel) (by decide) (tg_11_130_2_0 t3) rfl (fun l319 => ?_)
      refine x_iload (np := 21) (x := 1) (by decide +kernel) rfl (by decide) ?_
      obtain ⟨u320, q321⟩ : ∃ z, (h283 (r1 + 11) 2) = 2147483648 + z := ⟨(h283 (r1 + 11) 2) - 2147483648, by first | decide | omega⟩
      refine x_ast (np := 22) (x := 0) (kd := 1) (n := 400) (i := u320) (by decide +kernel) (Or.inl rfl) (ta_12_400 t3) (by first | decide | omega) (by first | decide | omega) (by decide) (by decide) (fun z => absurd z (by decide)) ?_
      have j323 := jU (e := u320) (v := 2147485655) u320 j284 (rg_T12_0_1_400 t3) (by first | decide | omega) (by first | decide | omega) (by first | decide | omega)
      have f325 := jF (e := u320) (v := 2147485655) u320 f290 (rg_T12_0_1_400 t3) (by first | decide | omega) (by first | decide | omega) (by decide)
      generalize e324 : x_up h283 (r1 + 12) u320 2147485655 = h322 at j323 f325 ⊢
      refine x_aload (np := 23) (x := 0) (by decide +kernel) rfl (x_nc_le (tn_11 t3)) ?_
      refine x_dup (np := 24) (x := 0) (by decide +kernel) (by have z := x_nc_le (k := (r1 + 11)) (tn_11 t3); unfold x_r; omega) ?_
      have q326 : h322 (r1 + 11) 2 = h283 (r1 + 11) 2 := by rw [← e324]; exact x_up_k tof_11_12
      refine x_getC (np := 27) (x := 130) (f := 2) (q := (h283 (r1 + 11) 2)) (by decide +kernel) (by decide) (tg_11_130_2_0 t3) q326 (fun l327 => ?_)
      refine x_const (np := 28) (x := 9223372043297226753) (a := 2147483649) (by decide +kernel) (by decide) (by decide) ?_
      refine x_iadd (np := 29) (x := 0) (v := (1 + (h283 (r1 + 11) 2))) (by decide +kernel) l315 (by decide) (by first | decide | omega) (by first | decide | omega) ?_
      refine x_putI (np := 32) (x := 130) (f := 2) (by decide +kernel) (tg_11_130_2_0 t3) (by first | decide | omega) (Or.inl (by decide)) ?_
      have j329 := jU (e := 2) (v := (1 + (h283 (r1 + 11) 2))) 0 j323 (rg_T11_2_0_1 t3) (by first | decide | omega) (by first | decide | omega) (by first | decide | omega)
      have f331 := jF (e := 2) (v := (1 + (h283 (r1 + 11) 2))) 0 f325 (rg_T11_2_0_1 t3) (by first | decide | omega) (by first | decide | omega) (by decide)
      generalize e330 : x_up h322 (r1 + 11) 2 (1 + (h283 (r1 + 11) 2)) = h328 at j329 f331 ⊢
      refine x_const (np := 33) (x := 9223372043297226753) (a := 2147483649) (by decide +kernel) (by decide) (by decide) ?_
      refine x_retI (np := 34) (x := 0) (by decide +kernel) (by decide) (Or.inr ⟨by decide +kernel, by first | decide | omega, by first | decide | omega⟩) ⟨_, rfl, (by decide), ?_⟩
      refine x_ifz (k := 0) (tg := 100) (np := 96) (by decide +kernel) (by decide) (by decide) (fun q332 => ?_) (fun q333 => ?_)
      · have q332 : 2147483649 = 2147483648 := q332
        exfalso; omega
      have q333 : ¬ (2147483649 = 2147483648) := q333
      refine x_const (np := 97) (x := 9223372043297226753) (a := 2147483649) (by decide +kernel) (by decide) (by decide) ?_
      refine x_goto (np := 100) (x := 101) (by decide +kernel) ?_
      have q334 : h328 1 2 = h322 1 2 := by rw [← e330]; exact x_up_k (Ne.symm (tne_11_1 t3))
      have q335 : h322 1 2 = h283 1 2 := by rw [← e324]; exact x_up_k (Ne.symm (tne_12_1 t3))
      have q336 : h328 62 1 = h322 62 1 := by rw [← e330]; exact x_up_k (Ne.symm (tne_11_62 t3))
      have q337 : h322 62 1 = h283 62 1 := by rw [← e324]; exact x_up_k (Ne.symm (tne_12_62 t3))
      have q338 : h283 62 1 = h261 62 1 := f285 62 1 (by decide +kernel)
      have q339 : h261 62 1 = h11 62 1 := f263 62 1 (by decide +kernel)
      have q340 : h11 62 1 = h 62 1 := f13 62 1 (by decide +kernel)
      have q341 : h328 (r1 + 11) 2 = (1 + (h283 (r1 + 11) 2)) := by rw [← e330]; exact x_up_at
      have e342 : cl9 h328 = (1 + (h283 (r1 + 11) 2)) := (congrArg (fun z => h328 z 2) (((((q336.trans q337).trans q338).trans q339).trans q340).trans q2)).trans q341
      have q343 : h328 1 2 = h322 1 2 := by rw [← e330]; exact x_up_k (Ne.symm (tne_11_1 t3))
      have q344 : h322 1 2 = h283 1 2 := by rw [← e324]; exact x_up_k (Ne.symm (tne_12_1 t3))
      obtain ⟨w345, e346⟩ := Tk.yes c17 (by first | decide | omega)
      obtain ⟨w347, e348⟩ := Tk.yes c267 (by first | decide | omega)
      have q349 : h328 1 2 = h322 1 2 := by rw [← e330]; exact x_up_k (Ne.symm (tne_11_1 t3))
      have q350 : h322 1 2 = h283 1 2 := by rw [← e324]; exact x_up_k (Ne.symm (tne_12_1 t3))
      refine x_retI (np := 102) (x := 0) (by decide +kernel) (by decide) (Or.inr ⟨by decide +kernel, by first | decide | omega, by first | decide | omega⟩) ⟨_, rfl, (by decide), ?_⟩
      exact ⟨j329, f331, (by first | decide | omega), (fun z => by first | decide | omega), (fun z => by first | decide | omega), (gL_if (i := 21) (by decide) w345 rfl e346 w347 rfl e348 c289 rfl (by first | decide | omega) (fun z => (show h283 1 2 = h328 1 2 by first | decide | omega)))⟩
    have q317 : ¬ ((h283 (r1 + 11) 2) < 2147484048) := q317
    refine x_const (np := 11) (x := 9223372039002259456) (a := 2147483648) (by decide +kernel) (by decide) (by decide) ?_
    refine x_retI (np := 12) (x := 0) (by decide +kernel) (by decide) (Or.inr ⟨by decide +kernel, by first | decide | omega, by first | decide | omega⟩) ⟨_, rfl, (by decide), ?_⟩
    refine x_ifz (k := 0) (tg := 100) (np := 96) (by decide +kernel) (by decide) (by decide) (fun q351 => ?_) (fun q352 => ?_)
    · have q351 : 2147483648 = 2147483648 := q351
      refine x_const (np := 101) (x := 9223372039002259456) (a := 2147483648) (by decide +kernel) (by decide) (by decide) ?_
      have q353 : h283 62 1 = h261 62 1 := f285 62 1 (by decide +kernel)
      have q354 : h261 62 1 = h11 62 1 := f263 62 1 (by decide +kernel)
      have q355 : h11 62 1 = h 62 1 := f13 62 1 (by decide +kernel)
      obtain ⟨w356, e357⟩ := Tk.yes c17 (by first | decide | omega)
      obtain ⟨w358, e359⟩ := Tk.yes c267 (by first | decide | omega)
      refine x_retI (np := 102) (x := 0) (by decide +kernel) (by decide) (Or.inr ⟨by decide +kernel, by first | decide | omega, by first | decide | omega⟩) ⟨_, rfl, (by decide), ?_⟩
      exact ⟨j284, f290, (by first | decide | omega), (fun z => by first | decide | omega), (fun z => by first | decide | omega), (gL_if (i := 21) (by decide) w356 rfl e357 w358 rfl e359 c289 rfl (by first | decide | omega) (fun z => rfl))⟩
    have q352 : ¬ (2147483648 = 2147483648) := q352
    exfalso; omega
  have q272 : ¬ (v257 ≠ 2147483648) := q272
  have b360 := c266 (by first | decide | omega)
  refine x_aload (np := 50) (x := 0) (by decide +kernel) rfl (x_nc_le (by decide)) ?_
  have q361 : h261 62 1 = h11 62 1 := f263 62 1 (by decide +kernel)
  have q362 : h11 62 1 = h 62 1 := f13 62 1 (by decide +kernel)
  refine x_getR (np := 53) (x := 193) (f := 1) (q := (r1 + 11)) (by decide +kernel) (by decide) (by decide +kernel) ((q361.trans q362).trans q2) ?_
  refine x_const (np := 54) (x := 9223372043297226753) (a := 2147483649) (by decide +kernel) (by decide) (by decide) ?_
  refine x_nI (t := 6) (mj := 36) (n := 2) (rc := 3) (ml := 2) (nr := 0) (np := 57) (as := [x_r (r1 + 11), iv_c 2147483649]) (rest := []) (lo1 := [x_r (r1 + 11), iv_c 2147483649]) (by decide +kernel) (by decide) (by decide +kernel) (x_rb_of (tr_11_3 t3)) rfl rfl (x_wr (tn_11 t3) (x_wi (by decide) x_wn)) x_wn (by decide) rfl ?_
  refine x_aload (np := 1) (x := 0) (by decide +kernel) rfl (x_nc_le (tn_11 t3)) ?_
  have q363 : h261 (r1 + 11) 2 = h11 (r1 + 11) 2 := jK 0 f263 (rg_T11_2_0_1 t3) (by first | decide | omega) (by first | decide | omega) (by decide)
  have q364 : h11 (r1 + 11) 2 = h (r1 + 11) 2 := jK 0 f13 (rg_T11_2_0_1 t3) (by first | decide | omega) (by first | decide | omega) (by decide)
  refine x_getC (np := 4) (x := 130) (f := 2) (q := (h (r1 + 11) 2)) (by decide +kernel) (by decide) (tg_11_130_2_0 t3) (q363.trans q364) (fun l365 => ?_)
  refine x_const (np := 7) (x := 9223373756989178256) (a := 2147484048) (by decide +kernel) (by decide) (by decide) ?_
  refine x_icmp (k := 2) (tg := 12) (np := 10) (by decide +kernel) (by decide) l365 (by decide) (fun q366 => ?_) (fun q367 => ?_)
  · have q366 : (h (r1 + 11) 2) < 2147484048 := q366
    refine x_aload (np := 13) (x := 0) (by decide +kernel) rfl (x_nc_le (tn_11 t3)) ?_
    have q368 : h261 (r1 + 11) 0 = (r1 + 12) := tf_11_0 j262 t3
    refine x_getR (np := 16) (x := 128) (f := 0) (q := (r1 + 12)) (by decide +kernel) (by decide) (tg_11_128_0_1 t3) q368 ?_
    refine x_aload (np := 17) (x := 0) (by decide +kernel) rfl (x_nc_le (tn_11 t3)) ?_
    have q369 : h261 (r1 + 11) 2 = h11 (r1 + 11) 2 := jK 0 f263 (rg_T11_2_0_1 t3) (by first | decide | omega) (by first | decide | omega) (by decide)
    have q370 : h11 (r1 + 11) 2 = h (r1 + 11) 2 := jK 0 f13 (rg_T11_2_0_1 t3) (by first | decide | omega) (by first | decide | omega) (by decide)
    refine x_getC (np := 20) (x := 130) (f := 2) (q := (h (r1 + 11) 2)) (by decide +kernel) (by decide) (tg_11_130_2_0 t3) (q369.trans q370) (fun l371 => ?_)
    refine x_iload (np := 21) (x := 1) (by decide +kernel) rfl (by decide) ?_
    obtain ⟨u372, q373⟩ : ∃ z, (h (r1 + 11) 2) = 2147483648 + z := ⟨(h (r1 + 11) 2) - 2147483648, by first | decide | omega⟩
    refine x_ast (np := 22) (x := 0) (kd := 1) (n := 400) (i := u372) (by decide +kernel) (Or.inl rfl) (ta_12_400 t3) (by first | decide | omega) (by first | decide | omega) (by decide) (by decide) (fun z => absurd z (by decide)) ?_
    have j375 := jU (e := u372) (v := 2147483649) u372 j262 (rg_T12_0_1_400 t3) (by first | decide | omega) (by first | decide | omega) (by first | decide | omega)
    have f377 := jF (e := u372) (v := 2147483649) u372 f268 (rg_T12_0_1_400 t3) (by first | decide | omega) (by first | decide | omega) (by decide)
    generalize e376 : x_up h261 (r1 + 12) u372 2147483649 = h374 at j375 f377 ⊢
    refine x_aload (np := 23) (x := 0) (by decide +kernel) rfl (x_nc_le (tn_11 t3)) ?_
    refine x_dup (np := 24) (x := 0) (by decide +kernel) (by have z := x_nc_le (k := (r1 + 11)) (tn_11 t3); unfold x_r; omega) ?_
    have q378 : h374 (r1 + 11) 2 = h261 (r1 + 11) 2 := by rw [← e376]; exact x_up_k tof_11_12
    have q379 : h261 (r1 + 11) 2 = h11 (r1 + 11) 2 := jK 0 f263 (rg_T11_2_0_1 t3) (by first | decide | omega) (by first | decide | omega) (by decide)
    have q380 : h11 (r1 + 11) 2 = h (r1 + 11) 2 := jK 0 f13 (rg_T11_2_0_1 t3) (by first | decide | omega) (by first | decide | omega) (by decide)
    refine x_getC (np := 27) (x := 130) (f := 2) (q := (h (r1 + 11) 2)) (by decide +kernel) (by decide) (tg_11_130_2_0 t3) ((q378.trans q379).trans q380) (fun l381 => ?_)
    refine x_const (np := 28) (x := 9223372043297226753) (a := 2147483649) (by decide +kernel) (by decide) (by decide) ?_
    refine x_iadd (np := 29) (x := 0) (v := (1 + (h (r1 + 11) 2))) (by decide +kernel) l365 (by decide) (by first | decide | omega) (by first | decide | omega) ?_
    refine x_putI (np := 32) (x := 130) (f := 2) (by decide +kernel) (tg_11_130_2_0 t3) (by first | decide | omega) (Or.inl (by decide)) ?_
    have j383 := jU (e := 2) (v := (1 + (h (r1 + 11) 2))) 0 j375 (rg_T11_2_0_1 t3) (by first | decide | omega) (by first | decide | omega) (by first | decide | omega)
    have f385 := jF (e := 2) (v := (1 + (h (r1 + 11) 2))) 0 f377 (rg_T11_2_0_1 t3) (by first | decide | omega) (by first | decide | omega) (by decide)
    generalize e384 : x_up h374 (r1 + 11) 2 (1 + (h (r1 + 11) 2)) = h382 at j383 f385 ⊢
    refine x_const (np := 33) (x := 9223372043297226753) (a := 2147483649) (by decide +kernel) (by decide) (by decide) ?_
    refine x_retI (np := 34) (x := 0) (by decide +kernel) (by decide) (Or.inr ⟨by decide +kernel, by first | decide | omega, by first | decide | omega⟩) ⟨_, rfl, (by decide), ?_⟩
    refine x_ifz (k := 0) (tg := 75) (np := 60) (by decide +kernel) (by decide) (by decide) (fun q386 => ?_) (fun q387 => ?_)
    · have q386 : 2147483649 = 2147483648 := q386
      exfalso; omega
    have q387 : ¬ (2147483649 = 2147483648) := q387
    refine x_aload (np := 61) (x := 0) (by decide +kernel) rfl (x_nc_le (by decide)) ?_
    have q388 : h382 62 1 = h374 62 1 := by rw [← e384]; exact x_up_k (Ne.symm (tne_11_62 t3))
    have q389 : h374 62 1 = h261 62 1 := by rw [← e376]; exact x_up_k (Ne.symm (tne_12_62 t3))
    have q390 : h261 62 1 = h11 62 1 := f263 62 1 (by decide +kernel)
    have q391 : h11 62 1 = h 62 1 := f13 62 1 (by decide +kernel)
    refine x_getR (np := 64) (x := 193) (f := 1) (q := (r1 + 11)) (by decide +kernel) (by decide) (by decide +kernel) ((((q388.trans q389).trans q390).trans q391).trans q2) ?_
    refine x_iload (np := 65) (x := 1) (by decide +kernel) rfl (by decide) ?_
    refine x_nI (t := 6) (mj := 36) (n := 2) (rc := 3) (ml := 2) (nr := 0) (np := 68) (as := [x_r (r1 + 11), iv_c 2147485655]) (rest := []) (lo1 := [x_r (r1 + 11), iv_c 2147485655]) (by decide +kernel) (by decide) (by decide +kernel) (x_rb_of (tr_11_3 t3)) rfl rfl (x_wr (tn_11 t3) (x_wi (by decide) x_wn)) x_wn (by decide) rfl ?_
    refine x_aload (np := 1) (x := 0) (by decide +kernel) rfl (x_nc_le (tn_11 t3)) ?_
    have q392 : h382 (r1 + 11) 2 = (1 + (h (r1 + 11) 2)) := by rw [← e384]; exact x_up_at
    refine x_getC (np := 4) (x := 130) (f := 2) (q := (1 + (h (r1 + 11) 2))) (by decide +kernel) (by decide) (tg_11_130_2_0 t3) q392 (fun l393 => ?_)
    refine x_const (np := 7) (x := 9223373756989178256) (a := 2147484048) (by decide +kernel) (by decide) (by decide) ?_
    refine x_icmp (k := 2) (tg := 12) (np := 10) (by decide +kernel) (by decide) (by first | decide | omega) (by decide) (fun q394 => ?_) (fun q395 => ?_)
    · have q394 : (1 + (h (r1 + 11) 2)) < 2147484048 := q394
      refine x_aload (np := 13) (x := 0) (by decide +kernel) rfl (x_nc_le (tn_11 t3)) ?_
      have q396 : h382 (r1 + 11) 0 = (r1 + 12) := tf_11_0 j383 t3
      refine x_getR (np := 16) (x := 128) (f := 0) (q := (r1 + 12)) (by decide +kernel) (by decide) (tg_11_128_0_1 t3) q396 ?_
      refine x_aload (np := 17) (x := 0) (by decide +kernel) rfl (x_nc_le (tn_11 t3)) ?_
      have q397 : h382 (r1 + 11) 2 = (1 + (h (r1 + 11) 2)) := by rw [← e384]; exact x_up_at
      refine x_getC (np := 20) (x := 130) (f := 2) (q := (1 + (h (r1 + 11) 2))) (by decide +kernel) (by decide) (tg_11_130_2_0 t3) q397 (fun l398 => ?_)
      refine x_iload (np := 21) (x := 1) (by decide +kernel) rfl (by decide) ?_
      refine x_ast (np := 22) (x := 0) (kd := 1) (n := 400) (i := (1 + u372)) (by decide +kernel) (Or.inl rfl) (ta_12_400 t3) (by first | decide | omega) (by first | decide | omega) (by decide) (by decide) (fun z => absurd z (by decide)) ?_
      have j400 := jU (e := (1 + u372)) (v := 2147485655) (1 + u372) j383 (rg_T12_0_1_400 t3) (by first | decide | omega) (by first | decide | omega) (by first | decide | omega)
      have f402 := jF (e := (1 + u372)) (v := 2147485655) (1 + u372) f385 (rg_T12_0_1_400 t3) (by first | decide | omega) (by first | decide | omega) (by decide)
      generalize e401 : x_up h382 (r1 + 12) (1 + u372) 2147485655 = h399 at j400 f402 ⊢
      refine x_aload (np := 23) (x := 0) (by decide +kernel) rfl (x_nc_le (tn_11 t3)) ?_
      refine x_dup (np := 24) (x := 0) (by decide +kernel) (by have z := x_nc_le (k := (r1 + 11)) (tn_11 t3); unfold x_r; omega) ?_
      have q403 : h399 (r1 + 11) 2 = h382 (r1 + 11) 2 := by rw [← e401]; exact x_up_k tof_11_12
      have q404 : h382 (r1 + 11) 2 = (1 + (h (r1 + 11) 2)) := by rw [← e384]; exact x_up_at
      refine x_getC (np := 27) (x := 130) (f := 2) (q := (1 + (h (r1 + 11) 2))) (by decide +kernel) (by decide) (tg_11_130_2_0 t3) (q403.trans q404) (fun l405 => ?_)
      refine x_const (np := 28) (x := 9223372043297226753) (a := 2147483649) (by decide +kernel) (by decide) (by decide) ?_
      refine x_iadd (np := 29) (x := 0) (v := (2 + (h (r1 + 11) 2))) (by decide +kernel) (by first | decide | omega) (by decide) (by first | decide | omega) (by first | decide | omega) ?_
      refine x_putI (np := 32) (x := 130) (f := 2) (by decide +kernel) (tg_11_130_2_0 t3) (by first | decide | omega) (Or.inl (by decide)) ?_
      have j407 := jU (e := 2) (v := (2 + (h (r1 + 11) 2))) 0 j400 (rg_T11_2_0_1 t3) (by first | decide | omega) (by first | decide | omega) (by first | decide | omega)
      have f409 := jF (e := 2) (v := (2 + (h (r1 + 11) 2))) 0 f402 (rg_T11_2_0_1 t3) (by first | decide | omega) (by first | decide | omega) (by decide)
      generalize e408 : x_up h399 (r1 + 11) 2 (2 + (h (r1 + 11) 2)) = h406 at j407 f409 ⊢
      refine x_const (np := 33) (x := 9223372043297226753) (a := 2147483649) (by decide +kernel) (by decide) (by decide) ?_
      refine x_retI (np := 34) (x := 0) (by decide +kernel) (by decide) (Or.inr ⟨by decide +kernel, by first | decide | omega, by first | decide | omega⟩) ⟨_, rfl, (by decide), ?_⟩
      refine x_ifz (k := 0) (tg := 75) (np := 71) (by decide +kernel) (by decide) (by decide) (fun q410 => ?_) (fun q411 => ?_)
      · have q410 : 2147483649 = 2147483648 := q410
        exfalso; omega
      have q411 : ¬ (2147483649 = 2147483648) := q411
      refine x_const (np := 72) (x := 9223372043297226753) (a := 2147483649) (by decide +kernel) (by decide) (by decide) ?_
      refine x_goto (np := 75) (x := 76) (by decide +kernel) ?_
      have q412 : h406 1 2 = h399 1 2 := by rw [← e408]; exact x_up_k (Ne.symm (tne_11_1 t3))
      have q413 : h399 1 2 = h382 1 2 := by rw [← e401]; exact x_up_k (Ne.symm (tne_12_1 t3))
      have q414 : h382 1 2 = h374 1 2 := by rw [← e384]; exact x_up_k (Ne.symm (tne_11_1 t3))
      have q415 : h374 1 2 = h261 1 2 := by rw [← e376]; exact x_up_k (Ne.symm (tne_12_1 t3))
      have q416 : h406 62 1 = h399 62 1 := by rw [← e408]; exact x_up_k (Ne.symm (tne_11_62 t3))
      have q417 : h399 62 1 = h382 62 1 := by rw [← e401]; exact x_up_k (Ne.symm (tne_12_62 t3))
      have q418 : h382 62 1 = h374 62 1 := by rw [← e384]; exact x_up_k (Ne.symm (tne_11_62 t3))
      have q419 : h374 62 1 = h261 62 1 := by rw [← e376]; exact x_up_k (Ne.symm (tne_12_62 t3))
      have q420 : h261 62 1 = h11 62 1 := f263 62 1 (by decide +kernel)
      have q421 : h11 62 1 = h 62 1 := f13 62 1 (by decide +kernel)
      have q422 : h406 (r1 + 11) 2 = (2 + (h (r1 + 11) 2)) := by rw [← e408]; exact x_up_at
      have e423 : cl9 h406 = (2 + (h (r1 + 11) 2)) := (congrArg (fun z => h406 z 2) ((((((q416.trans q417).trans q418).trans q419).trans q420).trans q421).trans q2)).trans q422
      have q424 : h406 1 2 = h399 1 2 := by rw [← e408]; exact x_up_k (Ne.symm (tne_11_1 t3))
      have q425 : h399 1 2 = h382 1 2 := by rw [← e401]; exact x_up_k (Ne.symm (tne_12_1 t3))
      have q426 : h382 1 2 = h374 1 2 := by rw [← e384]; exact x_up_k (Ne.symm (tne_11_1 t3))
      have q427 : h374 1 2 = h261 1 2 := by rw [← e376]; exact x_up_k (Ne.symm (tne_12_1 t3))
      obtain ⟨w428, e429⟩ := Tk.yes c17 (by first | decide | omega)
      obtain ⟨w430, e431⟩ := Tk.no c267 (by first | decide | omega)
      have q432 : h406 1 2 = h399 1 2 := by rw [← e408]; exact x_up_k (Ne.symm (tne_11_1 t3))
      have q433 : h399 1 2 = h382 1 2 := by rw [← e401]; exact x_up_k (Ne.symm (tne_12_1 t3))
      have q434 : h382 1 2 = h374 1 2 := by rw [← e384]; exact x_up_k (Ne.symm (tne_11_1 t3))
      have q435 : h374 1 2 = h261 1 2 := by rw [← e376]; exact x_up_k (Ne.symm (tne_12_1 t3))
      refine x_retI (np := 77) (x := 0) (by decide +kernel) (by decide) (Or.inr ⟨by decide +kernel, by first | decide | omega, by first | decide | omega⟩) ⟨_, rfl, (by decide), ?_⟩
      exact ⟨j407, f409, (by first | decide | omega), (fun z => by first | decide | omega), (fun z => by first | decide | omega), (gL_end (i := 21) (by decide) w428 rfl e429 w430 rfl (by first | decide | omega) (show h11 1 2 = h406 1 2 by first | decide | omega))⟩
    have q395 : ¬ ((1 + (h (r1 + 11) 2)) < 2147484048) := q395
    exfalso; omega
  have q367 : ¬ ((h (r1 + 11) 2) < 2147484048) := q367
  exfalso; omega
set_option maxHeartbeats 0 in
/-- LentNames$CustomReader.reads(LLentNames$Custom;)Z -/
theorem c44_62_T11 {sc : Nat × Nat} {d ra1 : Nat} {h : xh} {tB : Nat → Nat} {tN : Nat} (hJ : J h) (ta1 : tw ra1) (hT : Tp tB tN h) : X sc 44 (d + 30) (xI fun r h' => J h' ∧ Fr 16545 h h' ∧ (2147483648 ≤ r ∧ r ≤ 2147483649) ∧ Cu tB tN (rs r (ln9 h')) ∧ h' 62 1 = ra1 + 11) 0 0 0 [x_r 62, x_r (ra1 + 11), 147573952589676412928] [] h := by
  have hF := Fr.refl 16545 h
  refine x_aload (np := 1) (x := 0) (by decide +kernel) rfl (x_nc_le (by decide)) ?_
  refine x_aload (np := 2) (x := 1) (by decide +kernel) rfl (x_nc_le (tn_11 ta1)) ?_
  refine x_putR (np := 5) (x := 8385) (f := 1) (by decide +kernel) (by decide +kernel) (tn_11 ta1) (by decide) ?_
  have j2 := J_upC hJ ta1
  have f4 := Fr.up (k := 62) (i := 1) (v := (ra1 + 11)) hF (by decide +kernel)
  generalize e3 : x_up h 62 1 (ra1 + 11) = h1 at j2 f4 ⊢
  refine x_aload (np := 6) (x := 0) (by decide +kernel) rfl (x_nc_le (by decide)) ?_
  have q5 : h1 62 1 = (ra1 + 11) := by rw [← e3]; exact x_up_at
  refine x_getR (np := 9) (x := 193) (f := 1) (q := (ra1 + 11)) (by decide +kernel) (by decide) (by decide +kernel) q5 ?_
  refine x_nV (t := 6) (mj := 35) (n := 1) (rc := 3) (ml := 1) (nr := 0) (np := 12) (as := [x_r (ra1 + 11)]) (rest := []) (lo1 := [x_r (ra1 + 11)]) (by decide +kernel) (by decide) (by decide +kernel) (x_rb_of (tr_11_3 ta1)) rfl rfl (x_wr (tn_11 ta1) x_wn) x_wn (by decide) rfl ?_
  refine x_aload (np := 1) (x := 0) (by decide +kernel) rfl (x_nc_le (tn_11 ta1)) ?_
  refine x_const (np := 2) (x := 9223372039002259456) (a := 2147483648) (by decide +kernel) (by decide) (by decide) ?_
  refine x_putI (np := 5) (x := 130) (f := 2) (by decide +kernel) (tg_11_130_2_0 ta1) (by decide) (Or.inl (by decide)) ?_
  have j7 := jU (e := 2) (v := 2147483648) 0 j2 (rg_T11_2_0_1 ta1) (by first | decide | omega) (by first | decide | omega) (by first | decide | omega)
  have f9 := jF (e := 2) (v := 2147483648) 0 f4 (rg_T11_2_0_1 ta1) (by first | decide | omega) (by first | decide | omega) (by decide)
  generalize e8 : x_up h1 (ra1 + 11) 2 2147483648 = h6 at j7 f9 ⊢
  refine x_aload (np := 6) (x := 0) (by decide +kernel) rfl (x_nc_le (tn_11 ta1)) ?_
  refine x_const (np := 7) (x := 9223372039002259456) (a := 2147483648) (by decide +kernel) (by decide) (by decide) ?_
  refine x_putI (np := 10) (x := 131) (f := 3) (by decide +kernel) (tg_11_131_3_0 ta1) (by decide) (Or.inl (by decide)) ?_
  have j11 := jU (e := 3) (v := 2147483648) 0 j7 (rg_T11_3_0_1 ta1) (by first | decide | omega) (by first | decide | omega) (by first | decide | omega)
  have f13 := jF (e := 3) (v := 2147483648) 0 f9 (rg_T11_3_0_1 ta1) (by first | decide | omega) (by first | decide | omega) (by decide)
  generalize e12 : x_up h6 (ra1 + 11) 3 2147483648 = h10 at j11 f13 ⊢
  refine x_retV (np := 11) (x := 0) (by decide +kernel) (by decide +kernel) ⟨rfl, ?_⟩
  refine x_aload (np := 13) (x := 0) (by decide +kernel) rfl (x_nc_le (by decide)) ?_
  have q14 : h10 62 0 = 1 := by have z := jB (e := 0) 0 j11 rg_62_0_0_1 (by decide) (by decide); omega
  refine x_getR (np := 16) (x := 192) (f := 0) (q := 1) (by decide +kernel) (by decide) (by decide +kernel) q14 ?_
  refine x_nV (t := 6) (mj := 73) (n := 1) (rc := 8) (ml := 1) (nr := 0) (np := 19) (as := [x_r 1]) (rest := []) (lo1 := [x_r 1]) (by decide +kernel) (by decide) (by decide +kernel) (x_rb_of (by decide +kernel)) rfl rfl (x_wr (by decide) x_wn) x_wn (by decide) rfl ?_
  refine x_aload (np := 1) (x := 0) (by decide +kernel) rfl (x_nc_le (by decide)) ?_
  refine x_const (np := 2) (x := 9223372039002259456) (a := 2147483648) (by decide +kernel) (by decide) (by decide) ?_
  have m20 : Tp tB tN h1 := by rw [← e3]; exact Tp.oth hT (by decide) (by decide)
  have m19 : Tp tB tN h6 := by rw [← e8]; exact Tp.oth m20 (tne_11_2 ta1) (fun z => absurd z.1 (tne_11_1 ta1))
  have m18 : Tp tB tN h10 := by rw [← e12]; exact Tp.oth m19 (tne_11_2 ta1) (fun z => absurd z.1 (tne_11_1 ta1))
  refine x_cV (t := 6) (mj := 80) (n := 2) (rc := 8) (ml := 2) (nr := 0) (np := 5) (as := [x_r 1, iv_c 2147483648]) (rest := []) (lo1 := [x_r 1, iv_c 2147483648]) (by decide +kernel) (by decide) (by decide +kernel) (x_rb_of (by decide +kernel)) rfl rfl (x_wr (by decide) (x_wi (by decide) x_wn)) x_wn (by decide) rfl (c80_1 j11  (by first | decide | omega) m18) (fun h21 q17 => ?_)
  obtain ⟨j22, f23, c26, c27⟩ := q17
  have f28 := Fr.trans f13 f23 (by decide)
  have b29 := jB (e := 2) 0 j22 rg_1_2_0_1 (by first | decide | omega) (by first | decide | omega)
  refine x_retV (np := 6) (x := 0) (by decide +kernel) (by decide +kernel) ⟨rfl, ?_⟩
  refine x_aload (np := 20) (x := 0) (by decide +kernel) rfl (x_nc_le (by decide)) ?_
  have q30 : h21 62 0 = 1 := by have z := jB (e := 0) 0 j22 rg_62_0_0_1 (by decide) (by decide); omega
  refine x_getR (np := 23) (x := 192) (f := 0) (q := 1) (by decide +kernel) (by decide) (by decide +kernel) q30 ?_
  refine x_nI (t := 6) (mj := 74) (n := 1) (rc := 8) (ml := 1) (nr := 0) (np := 26) (as := [x_r 1]) (rest := []) (lo1 := [x_r 1]) (by decide +kernel) (by decide) (by decide +kernel) (x_rb_of (by decide +kernel)) rfl rfl (x_wr (by decide) x_wn) x_wn (by decide) rfl ?_
  refine x_aload (np := 1) (x := 0) (by decide +kernel) rfl (x_nc_le (by decide)) ?_
  refine x_getC (np := 4) (x := 450) (f := 2) (q := (h21 1 2)) (by decide +kernel) (by decide) (by decide +kernel) rfl (fun l31 => ?_)
  refine x_aload (np := 5) (x := 0) (by decide +kernel) rfl (x_nc_le (by decide)) ?_
  have q32 : h21 1 1 = h10 1 1 := jK 0 f23 rg_1_1_0_1 (by first | decide | omega) (by first | decide | omega) (by decide)
  have q33 : h10 1 1 = h6 1 1 := by rw [← e12]; exact x_up_k (Ne.symm (tne_11_1 ta1))
  have q34 : h6 1 1 = h1 1 1 := by rw [← e8]; exact x_up_k (Ne.symm (tne_11_1 ta1))
  have q35 : h1 1 1 = h 1 1 := by rw [← e3]; exact x_up_k (by decide)
  have b36 := jB (e := 1) 0 hJ rg_1_1_0_1 (by first | decide | omega) (by first | decide | omega)
  refine x_getC (np := 8) (x := 449) (f := 1) (q := (h 1 1)) (by decide +kernel) (by decide) (by decide +kernel) (((q32.trans q33).trans q34).trans q35) (fun l37 => ?_)
  refine x_icmp (k := 2) (tg := 15) (np := 11) (by decide +kernel) (by decide) l31 l37 (fun q38 => ?_) (fun q39 => ?_)
  · have q38 : (h21 1 2) < (h 1 1) := q38
    refine x_const (np := 16) (x := 9223372039002259456) (a := 2147483648) (by decide +kernel) (by decide) (by decide) ?_
    refine x_retI (np := 17) (x := 0) (by decide +kernel) (by decide) (Or.inr ⟨by decide +kernel, by first | decide | omega, by first | decide | omega⟩) ⟨_, rfl, (by decide), ?_⟩
    refine x_ifz (k := 0) (tg := 31) (np := 29) (by decide +kernel) (by decide) (by decide) (fun q40 => ?_) (fun q41 => ?_)
    · have q40 : 2147483648 = 2147483648 := q40
      refine x_const (np := 32) (x := 9223372043297226753) (a := 2147483649) (by decide +kernel) (by decide) (by decide) ?_
      refine x_istore (np := 33) (x := 2) (lo' := [x_r 62, x_r (ra1 + 11), iv_c 2147483649]) (by decide +kernel) (by decide) (Nat.le_of_ble_eq_true rfl) rfl ?_
      have p915 : ∀ (n : Nat) (v910 : Nat) (h912 : xh), 4294967296 - v910 < n → (2147483649 ≤ v910 ∧ v910 ≤ 2147483659) → cl9 h912 ≤ h912 1 2 → J h912 → Fr 161 h21 h912 → Lq tB tN (v910 - 1) (h912 1 2) → X sc 44 (d + 30) (xI fun r h' => J h' ∧ Fr 16545 h h' ∧ (2147483648 ≤ r ∧ r ≤ 2147483649) ∧ Cu tB tN (rs r (ln9 h')) ∧ h' 62 1 = ra1 + 11) 0 0 33 [x_r 62, x_r (ra1 + 11), iv_c v910] [] h912 := by
        intro n
        induction n with
        | zero => intro v910 h912 q918; exact absurd q918 (Nat.not_lt_zero _)
        | succ n i919 =>
          intro v910 h912 q918 b911 b916 j914 f913 m917
          have f920 := Fr.trans f28 f913 (by decide)
          have b921 := jB (e := 2) 0 j914 rg_1_2_0_1 (by first | decide | omega) (by first | decide | omega)
          have q922 : h912 62 1 = h21 62 1 := f913 62 1 (by decide +kernel)
          have q923 : h21 62 1 = h10 62 1 := f23 62 1 (by decide +kernel)
          have q924 : h10 62 1 = h6 62 1 := by rw [← e12]; exact x_up_k (Ne.symm (tne_11_62 ta1))
          have q925 : h6 62 1 = h1 62 1 := by rw [← e8]; exact x_up_k (Ne.symm (tne_11_62 ta1))
          have q926 : h1 62 1 = (ra1 + 11) := by rw [← e3]; exact x_up_at
          have b927 := jB (e := 2) 0 j914 (rg_T11_2_0_1 ta1) (by first | decide | omega) (by first | decide | omega)
          have e928 : cl9 h912 = (h912 (ra1 + 11) 2) := (congrArg (fun z => h912 z 2) ((((q922.trans q923).trans q924).trans q925).trans q926)).trans rfl
          refine x_iload (np := 34) (x := 2) (by decide +kernel) rfl (by first | decide | omega) ?_
          refine x_const (np := 36) (x := 9223372081951932426) (a := 2147483658) (by decide +kernel) (by decide) (by decide) ?_
          refine x_icmp (k := 4) (tg := 88) (np := 39) (by decide +kernel) (by decide) (by first | decide | omega) (by decide) (fun q929 => ?_) (fun q930 => ?_)
          · have q929 : 2147483658 < v910 := q929
            refine x_const (np := 89) (x := 9223372039002259456) (a := 2147483648) (by decide +kernel) (by decide) (by decide) ?_
            have q931 : h912 62 1 = h21 62 1 := f913 62 1 (by decide +kernel)
            have q932 : h21 62 1 = h10 62 1 := f23 62 1 (by decide +kernel)
            have q933 : h10 62 1 = h6 62 1 := by rw [← e12]; exact x_up_k (Ne.symm (tne_11_62 ta1))
            have q934 : h6 62 1 = h1 62 1 := by rw [← e8]; exact x_up_k (Ne.symm (tne_11_62 ta1))
            have q935 : h1 62 1 = (ra1 + 11) := by rw [← e3]; exact x_up_at
            refine x_retI (np := 90) (x := 0) (by decide +kernel) (by decide) (Or.inr ⟨by decide +kernel, by first | decide | omega, by first | decide | omega⟩) ⟨_, rfl, (by decide), ?_⟩
            exact ⟨j914, f920, (by first | decide | omega), (Cu.n0 (by first | decide | omega) (Lq.full m917 (by first | decide | omega))), ((((q931.trans q932).trans q933).trans q934).trans q935)⟩
          have q930 : ¬ (2147483658 < v910) := q930
          refine x_aload (np := 40) (x := 0) (by decide +kernel) rfl (x_nc_le (by decide)) ?_
          have q936 : h912 62 1 = h21 62 1 := f913 62 1 (by decide +kernel)
          have q937 : h21 62 1 = h10 62 1 := f23 62 1 (by decide +kernel)
          have q938 : h10 62 1 = h6 62 1 := by rw [← e12]; exact x_up_k (Ne.symm (tne_11_62 ta1))
          have q939 : h6 62 1 = h1 62 1 := by rw [← e8]; exact x_up_k (Ne.symm (tne_11_62 ta1))
          have q940 : h1 62 1 = (ra1 + 11) := by rw [← e3]; exact x_up_at
          have m945 := Tp.fr m18 f23 (by decide) (by decide)
          have m944 := Tp.fr m945 f913 (by decide) (by decide)
          refine x_cI (t := 6) (mj := 45) (n := 1) (rc := 4) (ml := 2) (nr := 0) (np := 43) (as := [x_r 62]) (rest := []) (lo1 := [x_r 62, 147573952589676412928]) (by decide +kernel) (by decide) (by decide +kernel) (x_rb_of (by decide +kernel)) rfl rfl (x_wr (by decide) x_wn) x_wn (by decide) rfl (c45_62 j914  (by first | decide | omega) m944) (fun v941 h946 l942 q943 => ?_)
          obtain ⟨j947, f948, b949, c950, c951, c952⟩ := q943
          have f953 := Fr.trans f920 f948 (by decide)
          have f954 := Fr.trans f913 f948 (by decide)
          have b955 := jB (e := 2) 0 j947 rg_1_2_0_1 (by first | decide | omega) (by first | decide | omega)
          have q956 : h946 62 1 = h912 62 1 := f948 62 1 (by decide +kernel)
          have q957 : h912 62 1 = h21 62 1 := f913 62 1 (by decide +kernel)
          have q958 : h21 62 1 = h10 62 1 := f23 62 1 (by decide +kernel)
          have q959 : h10 62 1 = h6 62 1 := by rw [← e12]; exact x_up_k (Ne.symm (tne_11_62 ta1))
          have q960 : h6 62 1 = h1 62 1 := by rw [← e8]; exact x_up_k (Ne.symm (tne_11_62 ta1))
          have q961 : h1 62 1 = (ra1 + 11) := by rw [← e3]; exact x_up_at
          have b962 := jB (e := 2) 0 j947 (rg_T11_2_0_1 ta1) (by first | decide | omega) (by first | decide | omega)
          have e963 : cl9 h946 = (h946 (ra1 + 11) 2) := (congrArg (fun z => h946 z 2) (((((q956.trans q957).trans q958).trans q959).trans q960).trans q961)).trans rfl
          refine x_ifz (k := 1) (tg := 48) (np := 46) (by decide +kernel) (by decide) l942 (fun q964 => ?_) (fun q965 => ?_)
          · have q964 : v941 ≠ 2147483648 := q964
            have b966 := c950 (by first | decide | omega)
            have b967 := c951 (by first | decide | omega)
            refine x_aload (np := 49) (x := 0) (by decide +kernel) rfl (x_nc_le (by decide)) ?_
            have q968 : h946 62 1 = h912 62 1 := f948 62 1 (by decide +kernel)
            have q969 : h912 62 1 = h21 62 1 := f913 62 1 (by decide +kernel)
            have q970 : h21 62 1 = h10 62 1 := f23 62 1 (by decide +kernel)
            have q971 : h10 62 1 = h6 62 1 := by rw [← e12]; exact x_up_k (Ne.symm (tne_11_62 ta1))
            have q972 : h6 62 1 = h1 62 1 := by rw [← e8]; exact x_up_k (Ne.symm (tne_11_62 ta1))
            have q973 : h1 62 1 = (ra1 + 11) := by rw [← e3]; exact x_up_at
            refine x_getR (np := 52) (x := 193) (f := 1) (q := (ra1 + 11)) (by decide +kernel) (by decide) (by decide +kernel) (((((q968.trans q969).trans q970).trans q971).trans q972).trans q973) ?_
            refine x_iload (np := 53) (x := 2) (by decide +kernel) rfl (by first | decide | omega) ?_
            refine x_putI (np := 56) (x := 131) (f := 3) (by decide +kernel) (tg_11_131_3_0 ta1) (by first | decide | omega) (Or.inl (by decide)) ?_
            have j975 := jU (e := 3) (v := v910) 0 j947 (rg_T11_3_0_1 ta1) (by first | decide | omega) (by first | decide | omega) (by first | decide | omega)
            have f977 := jF (e := 3) (v := v910) 0 f953 (rg_T11_3_0_1 ta1) (by first | decide | omega) (by first | decide | omega) (by decide)
            have f978 := jF (e := 3) (v := v910) 0 f954 (rg_T11_3_0_1 ta1) (by first | decide | omega) (by first | decide | omega) (by decide)
            generalize e976 : x_up h946 (ra1 + 11) 3 v910 = h974 at j975 f977 f978 ⊢
            refine x_aload (np := 57) (x := 0) (by decide +kernel) rfl (x_nc_le (by decide)) ?_
            have q979 : h974 62 0 = 1 := by have z := jB (e := 0) 0 j975 rg_62_0_0_1 (by decide) (by decide); omega
            refine x_getR (np := 60) (x := 192) (f := 0) (q := 1) (by decide +kernel) (by decide) (by decide +kernel) q979 ?_
            refine x_nI (t := 6) (mj := 74) (n := 1) (rc := 8) (ml := 1) (nr := 0) (np := 63) (as := [x_r 1]) (rest := []) (lo1 := [x_r 1]) (by decide +kernel) (by decide) (by decide +kernel) (x_rb_of (by decide +kernel)) rfl rfl (x_wr (by decide) x_wn) x_wn (by decide) rfl ?_
            refine x_aload (np := 1) (x := 0) (by decide +kernel) rfl (x_nc_le (by decide)) ?_
            have q980 : h974 1 2 = h946 1 2 := by rw [← e976]; exact x_up_k (Ne.symm (tne_11_1 ta1))
            refine x_getC (np := 4) (x := 450) (f := 2) (q := (h946 1 2)) (by decide +kernel) (by decide) (by decide +kernel) q980 (fun l981 => ?_)
            refine x_aload (np := 5) (x := 0) (by decide +kernel) rfl (x_nc_le (by decide)) ?_
            have q982 : h974 1 1 = h946 1 1 := by rw [← e976]; exact x_up_k (Ne.symm (tne_11_1 ta1))
            have q983 : h946 1 1 = h912 1 1 := jK 0 f948 rg_1_1_0_1 (by first | decide | omega) (by first | decide | omega) (by decide)
            have q984 : h912 1 1 = h21 1 1 := jK 0 f913 rg_1_1_0_1 (by first | decide | omega) (by first | decide | omega) (by decide)
            have q985 : h21 1 1 = h10 1 1 := jK 0 f23 rg_1_1_0_1 (by first | decide | omega) (by first | decide | omega) (by decide)
            have q986 : h10 1 1 = h6 1 1 := by rw [← e12]; exact x_up_k (Ne.symm (tne_11_1 ta1))
            have q987 : h6 1 1 = h1 1 1 := by rw [← e8]; exact x_up_k (Ne.symm (tne_11_1 ta1))
            have q988 : h1 1 1 = h 1 1 := by rw [← e3]; exact x_up_k (by decide)
            refine x_getC (np := 8) (x := 449) (f := 1) (q := (h 1 1)) (by decide +kernel) (by decide) (by decide +kernel) ((((((q982.trans q983).trans q984).trans q985).trans q986).trans q987).trans q988) (fun l989 => ?_)
            refine x_icmp (k := 2) (tg := 15) (np := 11) (by decide +kernel) (by decide) l981 l37 (fun q990 => ?_) (fun q991 => ?_)
            · have q990 : (h946 1 2) < (h 1 1) := q990
              refine x_const (np := 16) (x := 9223372039002259456) (a := 2147483648) (by decide +kernel) (by decide) (by decide) ?_
              refine x_retI (np := 17) (x := 0) (by decide +kernel) (by decide) (Or.inr ⟨by decide +kernel, by first | decide | omega, by first | decide | omega⟩) ⟨_, rfl, (by decide), ?_⟩
              refine x_ifz (k := 0) (tg := 68) (np := 66) (by decide +kernel) (by decide) (by decide) (fun q992 => ?_) (fun q993 => ?_)
              · have q992 : 2147483648 = 2147483648 := q992
                refine x_aload (np := 69) (x := 0) (by decide +kernel) rfl (x_nc_le (by decide)) ?_
                have q994 : h974 62 0 = 1 := by have z := jB (e := 0) 0 j975 rg_62_0_0_1 (by decide) (by decide); omega
                refine x_getR (np := 72) (x := 192) (f := 0) (q := 1) (by decide +kernel) (by decide) (by decide +kernel) q994 ?_
                refine x_const (np := 74) (x := 9223372292405329979) (a := 2147483707) (by decide +kernel) (by decide) (by decide) ?_
                have m999 := Tp.fr m944 f948 (by decide) (by decide)
                have m998 : Tp tB tN h974 := by rw [← e976]; exact Tp.oth m999 (tne_11_2 ta1) (fun z => absurd z.1 (tne_11_1 ta1))
                refine x_cI (t := 6) (mj := 76) (n := 2) (rc := 8) (ml := 2) (nr := 0) (np := 77) (as := [x_r 1, iv_c 2147483707]) (rest := []) (lo1 := [x_r 1, iv_c 2147483707]) (by decide +kernel) (by decide) (by decide +kernel) (x_rb_of (by decide +kernel)) rfl rfl (x_wr (by decide) (x_wi (by decide) x_wn)) x_wn (by decide) rfl (c76_1 j975  (by first | decide | omega) m998) (fun v995 h1000 l996 q997 => ?_)
                obtain ⟨j1001, f1002, b1003, c1004, c1005, c1006⟩ := q997
                have f1007 := Fr.trans f977 f1002 (by decide)
                have f1008 := Fr.trans f978 f1002 (by decide)
                have q1009 : h974 1 2 = h946 1 2 := by rw [← e976]; exact x_up_k (Ne.symm (tne_11_1 ta1))
                have b1010 := jB (e := 2) 0 j1001 rg_1_2_0_1 (by first | decide | omega) (by first | decide | omega)
                have q1011 : h974 1 2 = h946 1 2 := by rw [← e976]; exact x_up_k (Ne.symm (tne_11_1 ta1))
                refine x_ifz (k := 1) (tg := 82) (np := 80) (by decide +kernel) (by decide) l996 (fun q1012 => ?_) (fun q1013 => ?_)
                · have q1012 : v995 ≠ 2147483648 := q1012
                  have b1014 := c1004 (by first | decide | omega)
                  refine x_iinc (np := 85) (i := 2) (j := 2147483649) (v := (1 + v910)) (lo' := [x_r 62, x_r (ra1 + 11), iv_c (1 + v910)]) (by decide +kernel) (by decide) (by decide) rfl (by first | decide | omega) (by first | decide | omega) (by first | decide | omega) rfl ?_
                  refine x_goto (np := 88) (x := 33) (by decide +kernel) ?_
                  have q1015 : h1000 62 1 = h974 62 1 := f1002 62 1 (by decide +kernel)
                  have q1016 : h974 62 1 = h946 62 1 := by rw [← e976]; exact x_up_k (Ne.symm (tne_11_62 ta1))
                  have q1017 : h946 62 1 = h912 62 1 := f948 62 1 (by decide +kernel)
                  have q1018 : h912 62 1 = h21 62 1 := f913 62 1 (by decide +kernel)
                  have q1019 : h21 62 1 = h10 62 1 := f23 62 1 (by decide +kernel)
                  have q1020 : h10 62 1 = h6 62 1 := by rw [← e12]; exact x_up_k (Ne.symm (tne_11_62 ta1))
                  have q1021 : h6 62 1 = h1 62 1 := by rw [← e8]; exact x_up_k (Ne.symm (tne_11_62 ta1))
                  have q1022 : h1 62 1 = (ra1 + 11) := by rw [← e3]; exact x_up_at
                  have q1023 : h1000 (ra1 + 11) 2 = h974 (ra1 + 11) 2 := jK 0 f1002 (rg_T11_2_0_1 ta1) (by first | decide | omega) (by first | decide | omega) (by decide)
                  have q1024 : h974 (ra1 + 11) 2 = h946 (ra1 + 11) 2 := by rw [← e976]; exact x_up_i (by first | decide | omega)
                  have e1025 : cl9 h1000 = (h946 (ra1 + 11) 2) := (congrArg (fun z => h1000 z 2) (((((((q1015.trans q1016).trans q1017).trans q1018).trans q1019).trans q1020).trans q1021).trans q1022)).trans (q1023.trans q1024)
                  obtain ⟨w1026, e1027⟩ := Tk.yes c1006 (by first | decide | omega)
                  have q1028 : h974 1 2 = h946 1 2 := by rw [← e976]; exact x_up_k (Ne.symm (tne_11_1 ta1))
                  exact i919 (1 + v910) h1000 (by first | decide | omega) (by first | decide | omega) (by first | decide | omega) j1001 f1008 (Lq.go m917 (by first | decide | omega) c952 rfl (by first | decide | omega) w1026 (show h974 1 2 = h946 1 2 by first | decide | omega) e1027 (by first | decide | omega) rfl)
                have q1013 : ¬ (v995 ≠ 2147483648) := q1013
                have b1029 := c1005 (by first | decide | omega)
                refine x_const (np := 81) (x := 9223372039002259456) (a := 2147483648) (by decide +kernel) (by decide) (by decide) ?_
                have q1030 : h1000 62 1 = h974 62 1 := f1002 62 1 (by decide +kernel)
                have q1031 : h974 62 1 = h946 62 1 := by rw [← e976]; exact x_up_k (Ne.symm (tne_11_62 ta1))
                have q1032 : h946 62 1 = h912 62 1 := f948 62 1 (by decide +kernel)
                have q1033 : h912 62 1 = h21 62 1 := f913 62 1 (by decide +kernel)
                have q1034 : h21 62 1 = h10 62 1 := f23 62 1 (by decide +kernel)
                have q1035 : h10 62 1 = h6 62 1 := by rw [← e12]; exact x_up_k (Ne.symm (tne_11_62 ta1))
                have q1036 : h6 62 1 = h1 62 1 := by rw [← e8]; exact x_up_k (Ne.symm (tne_11_62 ta1))
                have q1037 : h1 62 1 = (ra1 + 11) := by rw [← e3]; exact x_up_at
                have q1038 : h946 1 1 = h912 1 1 := jK 0 f948 rg_1_1_0_1 (by first | decide | omega) (by first | decide | omega) (by decide)
                have q1039 : h912 1 1 = h21 1 1 := jK 0 f913 rg_1_1_0_1 (by first | decide | omega) (by first | decide | omega) (by decide)
                have q1040 : h21 1 1 = h10 1 1 := jK 0 f23 rg_1_1_0_1 (by first | decide | omega) (by first | decide | omega) (by decide)
                have q1041 : h10 1 1 = h6 1 1 := by rw [← e12]; exact x_up_k (Ne.symm (tne_11_1 ta1))
                have q1042 : h6 1 1 = h1 1 1 := by rw [← e8]; exact x_up_k (Ne.symm (tne_11_1 ta1))
                have q1043 : h1 1 1 = h 1 1 := by rw [← e3]; exact x_up_k (by decide)
                have z1044 := m999.1
                obtain ⟨w1045, e1046⟩ := Tk.no c1006 (by first | decide | omega)
                have q1047 : h974 1 2 = h946 1 2 := by rw [← e976]; exact x_up_k (Ne.symm (tne_11_1 ta1))
                refine x_retI (np := 82) (x := 0) (by decide +kernel) (by decide) (Or.inr ⟨by decide +kernel, by first | decide | omega, by first | decide | omega⟩) ⟨_, rfl, (by decide), ?_⟩
                exact ⟨j1001, f1007, (by first | decide | omega), (Cu.n0 (by first | decide | omega) (Lq.bad m917 (by first | decide | omega) c952 rfl (by first | decide | omega) (by first | decide | omega) w1045 (show h974 1 2 = h946 1 2 by first | decide | omega))), (((((((q1030.trans q1031).trans q1032).trans q1033).trans q1034).trans q1035).trans q1036).trans q1037)⟩
              have q993 : ¬ (2147483648 = 2147483648) := q993
              exfalso; omega
            have q991 : ¬ ((h946 1 2) < (h 1 1)) := q991
            refine x_const (np := 12) (x := 9223372043297226753) (a := 2147483649) (by decide +kernel) (by decide) (by decide) ?_
            refine x_goto (np := 15) (x := 16) (by decide +kernel) ?_
            refine x_retI (np := 17) (x := 0) (by decide +kernel) (by decide) (Or.inr ⟨by decide +kernel, by first | decide | omega, by first | decide | omega⟩) ⟨_, rfl, (by decide), ?_⟩
            refine x_ifz (k := 0) (tg := 68) (np := 66) (by decide +kernel) (by decide) (by decide) (fun q1048 => ?_) (fun q1049 => ?_)
            · have q1048 : 2147483649 = 2147483648 := q1048
              exfalso; omega
            have q1049 : ¬ (2147483649 = 2147483648) := q1049
            refine x_const (np := 67) (x := 9223372043297226753) (a := 2147483649) (by decide +kernel) (by decide) (by decide) ?_
            have q1050 : h974 62 1 = h946 62 1 := by rw [← e976]; exact x_up_k (Ne.symm (tne_11_62 ta1))
            have q1051 : h946 62 1 = h912 62 1 := f948 62 1 (by decide +kernel)
            have q1052 : h912 62 1 = h21 62 1 := f913 62 1 (by decide +kernel)
            have q1053 : h21 62 1 = h10 62 1 := f23 62 1 (by decide +kernel)
            have q1054 : h10 62 1 = h6 62 1 := by rw [← e12]; exact x_up_k (Ne.symm (tne_11_62 ta1))
            have q1055 : h6 62 1 = h1 62 1 := by rw [← e8]; exact x_up_k (Ne.symm (tne_11_62 ta1))
            have q1056 : h1 62 1 = (ra1 + 11) := by rw [← e3]; exact x_up_at
            have q1057 : h946 1 1 = h912 1 1 := jK 0 f948 rg_1_1_0_1 (by first | decide | omega) (by first | decide | omega) (by decide)
            have q1058 : h912 1 1 = h21 1 1 := jK 0 f913 rg_1_1_0_1 (by first | decide | omega) (by first | decide | omega) (by decide)
            have q1059 : h21 1 1 = h10 1 1 := jK 0 f23 rg_1_1_0_1 (by first | decide | omega) (by first | decide | omega) (by decide)
            have q1060 : h10 1 1 = h6 1 1 := by rw [← e12]; exact x_up_k (Ne.symm (tne_11_1 ta1))
            have q1061 : h6 1 1 = h1 1 1 := by rw [← e8]; exact x_up_k (Ne.symm (tne_11_1 ta1))
            have q1062 : h1 1 1 = h 1 1 := by rw [← e3]; exact x_up_k (by decide)
            have m1064 := Tp.fr m944 f948 (by decide) (by decide)
            have z1063 := m1064.1
            have q1065 : h974 62 1 = h946 62 1 := by rw [← e976]; exact x_up_k (Ne.symm (tne_11_62 ta1))
            have q1066 : h946 62 1 = h912 62 1 := f948 62 1 (by decide +kernel)
            have q1067 : h912 62 1 = h21 62 1 := f913 62 1 (by decide +kernel)
            have q1068 : h21 62 1 = h10 62 1 := f23 62 1 (by decide +kernel)
            have q1069 : h10 62 1 = h6 62 1 := by rw [← e12]; exact x_up_k (Ne.symm (tne_11_62 ta1))
            have q1070 : h6 62 1 = h1 62 1 := by rw [← e8]; exact x_up_k (Ne.symm (tne_11_62 ta1))
            have q1071 : h1 62 1 = (ra1 + 11) := by rw [← e3]; exact x_up_at
            have q1072 : h974 (ra1 + 11) 3 = v910 := by rw [← e976]; exact x_up_at
            have e1073 : ln9 h974 = v910 := (congrArg (fun z => h974 z 3) ((((((q1065.trans q1066).trans q1067).trans q1068).trans q1069).trans q1070).trans q1071)).trans q1072
            refine x_retI (np := 68) (x := 0) (by decide +kernel) (by decide) (Or.inr ⟨by decide +kernel, by first | decide | omega, by first | decide | omega⟩) ⟨_, rfl, (by decide), ?_⟩
            exact ⟨j975, f977, (by first | decide | omega), (Cu.s1 (by first | decide | omega) (Lq.fin (c' := v910) m917 (by first | decide | omega) c952 rfl (by first | decide | omega) (by first | decide | omega) (by first | decide | omega)) (by first | decide | omega)), ((((((q1050.trans q1051).trans q1052).trans q1053).trans q1054).trans q1055).trans q1056)⟩
          have q965 : ¬ (v941 ≠ 2147483648) := q965
          refine x_const (np := 47) (x := 9223372039002259456) (a := 2147483648) (by decide +kernel) (by decide) (by decide) ?_
          have q1074 : h946 62 1 = h912 62 1 := f948 62 1 (by decide +kernel)
          have q1075 : h912 62 1 = h21 62 1 := f913 62 1 (by decide +kernel)
          have q1076 : h21 62 1 = h10 62 1 := f23 62 1 (by decide +kernel)
          have q1077 : h10 62 1 = h6 62 1 := by rw [← e12]; exact x_up_k (Ne.symm (tne_11_62 ta1))
          have q1078 : h6 62 1 = h1 62 1 := by rw [← e8]; exact x_up_k (Ne.symm (tne_11_62 ta1))
          have q1079 : h1 62 1 = (ra1 + 11) := by rw [← e3]; exact x_up_at
          refine x_retI (np := 48) (x := 0) (by decide +kernel) (by decide) (Or.inr ⟨by decide +kernel, by first | decide | omega, by first | decide | omega⟩) ⟨_, rfl, (by decide), ?_⟩
          exact ⟨j947, f953, (by first | decide | omega), (Cu.n0 (by first | decide | omega) (Lq.no m917 (by first | decide | omega) c952 rfl (by first | decide | omega))), (((((q1074.trans q1075).trans q1076).trans q1077).trans q1078).trans q1079)⟩
      have q1080 : h21 62 1 = h10 62 1 := f23 62 1 (by decide +kernel)
      have q1081 : h10 62 1 = h6 62 1 := by rw [← e12]; exact x_up_k (Ne.symm (tne_11_62 ta1))
      have q1082 : h6 62 1 = h1 62 1 := by rw [← e8]; exact x_up_k (Ne.symm (tne_11_62 ta1))
      have q1083 : h1 62 1 = (ra1 + 11) := by rw [← e3]; exact x_up_at
      have q1084 : h21 (ra1 + 11) 2 = h10 (ra1 + 11) 2 := jK 0 f23 (rg_T11_2_0_1 ta1) (by first | decide | omega) (by first | decide | omega) (by decide)
      have q1085 : h10 (ra1 + 11) 2 = h6 (ra1 + 11) 2 := by rw [← e12]; exact x_up_i (by first | decide | omega)
      have q1086 : h6 (ra1 + 11) 2 = 2147483648 := by rw [← e8]; exact x_up_at
      have e1087 : cl9 h21 = 2147483648 := (congrArg (fun z => h21 z 2) (((q1080.trans q1081).trans q1082).trans q1083)).trans ((q1084.trans q1085).trans q1086)
      have q1088 : h21 1 1 = h10 1 1 := jK 0 f23 rg_1_1_0_1 (by first | decide | omega) (by first | decide | omega) (by decide)
      have q1089 : h10 1 1 = h6 1 1 := by rw [← e12]; exact x_up_k (Ne.symm (tne_11_1 ta1))
      have q1090 : h6 1 1 = h1 1 1 := by rw [← e8]; exact x_up_k (Ne.symm (tne_11_1 ta1))
      have q1091 : h1 1 1 = h 1 1 := by rw [← e3]; exact x_up_k (by decide)
      have m1093 := Tp.fr m18 f23 (by decide) (by decide)
      have z1092 := m1093.1
      exact p915 _ 2147483649 h21 (Nat.lt_succ_self _) (by first | decide | omega) (by first | decide | omega) j22 (Fr.refl _ _) (Lq.zero ((show h21 1 2 = h21 1 2 by first | decide | omega).trans c27) (by first | decide | omega) (by first | decide | omega))
    have q41 : ¬ (2147483648 = 2147483648) := q41
    exfalso; omega
  have q39 : ¬ ((h21 1 2) < (h 1 1)) := q39
  refine x_const (np := 12) (x := 9223372043297226753) (a := 2147483649) (by decide +kernel) (by decide) (by decide) ?_
  refine x_goto (np := 15) (x := 16) (by decide +kernel) ?_
  refine x_retI (np := 17) (x := 0) (by decide +kernel) (by decide) (Or.inr ⟨by decide +kernel, by first | decide | omega, by first | decide | omega⟩) ⟨_, rfl, (by decide), ?_⟩
  refine x_ifz (k := 0) (tg := 31) (np := 29) (by decide +kernel) (by decide) (by decide) (fun q1094 => ?_) (fun q1095 => ?_)
  · have q1094 : 2147483649 = 2147483648 := q1094
    exfalso; omega
  have q1095 : ¬ (2147483649 = 2147483648) := q1095
  refine x_const (np := 30) (x := 9223372043297226753) (a := 2147483649) (by decide +kernel) (by decide) (by decide) ?_
  have q1096 : h21 62 1 = h10 62 1 := f23 62 1 (by decide +kernel)
  have q1097 : h10 62 1 = h6 62 1 := by rw [← e12]; exact x_up_k (Ne.symm (tne_11_62 ta1))
  have q1098 : h6 62 1 = h1 62 1 := by rw [← e8]; exact x_up_k (Ne.symm (tne_11_62 ta1))
  have q1099 : h1 62 1 = (ra1 + 11) := by rw [← e3]; exact x_up_at
  have q1100 : h21 1 1 = h10 1 1 := jK 0 f23 rg_1_1_0_1 (by first | decide | omega) (by first | decide | omega) (by decide)
  have q1101 : h10 1 1 = h6 1 1 := by rw [← e12]; exact x_up_k (Ne.symm (tne_11_1 ta1))
  have q1102 : h6 1 1 = h1 1 1 := by rw [← e8]; exact x_up_k (Ne.symm (tne_11_1 ta1))
  have q1103 : h1 1 1 = h 1 1 := by rw [← e3]; exact x_up_k (by decide)
  have m1105 := Tp.fr m18 f23 (by decide) (by decide)
  have z1104 := m1105.1
  have q1106 : h21 62 1 = h10 62 1 := f23 62 1 (by decide +kernel)
  have q1107 : h10 62 1 = h6 62 1 := by rw [← e12]; exact x_up_k (Ne.symm (tne_11_62 ta1))
  have q1108 : h6 62 1 = h1 62 1 := by rw [← e8]; exact x_up_k (Ne.symm (tne_11_62 ta1))
  have q1109 : h1 62 1 = (ra1 + 11) := by rw [← e3]; exact x_up_at
  have q1110 : h21 (ra1 + 11) 3 = h10 (ra1 + 11) 3 := jK 0 f23 (rg_T11_3_0_1 ta1) (by first | decide | omega) (by first | decide | omega) (by decide)
  have q1111 : h10 (ra1 + 11) 3 = 2147483648 := by rw [← e12]; exact x_up_at
  have e1112 : ln9 h21 = 2147483648 := (congrArg (fun z => h21 z 3) (((q1106.trans q1107).trans q1108).trans q1109)).trans (q1110.trans q1111)
  refine x_retI (np := 31) (x := 0) (by decide +kernel) (by decide) (Or.inr ⟨by decide +kernel, by first | decide | omega, by first | decide | omega⟩) ⟨_, rfl, (by decide), ?_⟩
  exact ⟨j22, f28, (by first | decide | omega), (Cu.nil c27 (by first | decide | omega) (rs1' (by first | decide | omega) (by first | decide | omega))), (((q1096.trans q1097).trans q1098).trans q1099)⟩
set_option maxHeartbeats 0 in
/-- LentNames.custom()I -/
theorem c108_0 {sc : Nat × Nat} {d  : Nat} {h : xh} {tB : Nat → Nat} {tN : Nat} (hJ : J h) (hT : Tp tB tN h) (hp0 : h 0 8 ≠ h 0 9) : X sc 108 (d + 31) (xT (fun r h' => J h' ∧ Fr 641059259458641595 h h' ∧ (0 ≤ r ∧ r ≤ 4294967295) ∧ (h' 1 1 = 2147483648) ∧ Cu tB tN (some r) ∧ (∀ i, tv h' i = tv h i) ∧ h' 0 8 = h 0 9 ∧ h' 0 9 = h 0 8 ∧ (∀ b, b < 6 → h' 46 b = al9 (tv h' (12 + b)))) (fun E h' => J h' ∧ Fr 641059259458641595 h h' ∧ (E = 0) ∧ (h' 1 1 = 2147483648) ∧ Cu tB tN none ∧ (∀ i, tv h' i = tv h i) ∧ h' 0 8 = h 0 8 ∧ h' 0 9 = h 0 9 ∧ (∀ b, b < 6 → h' 46 b = h 46 b))) 0 0 0 [x_r 0, 147573952589676412928] [] h := by
  have hF := Fr.refl 641059259458641595 h
  refine x_aload (np := 1) (x := 0) (by decide +kernel) rfl (x_nc_le (by decide)) ?_
  have t1 : tw (h 0 9) := hJ.2.2.1
  refine x_getR (np := 4) (x := 649) (f := 9) (q := (h 0 9)) (by decide +kernel) (by decide) (by decide +kernel) rfl ?_
  refine x_aload (np := 5) (x := 0) (by decide +kernel) rfl (x_nc_le (by decide)) ?_
  have t2 : tw (h 0 8) := hJ.2.1
  refine x_getR (np := 8) (x := 648) (f := 8) (q := (h 0 8)) (by decide +kernel) (by decide) (by decide +kernel) rfl ?_
  refine x_cV (t := 6) (mj := 84) (n := 2) (rc := 9) (ml := 2) (nr := 0) (np := 11) (as := [x_r (h 0 9), x_r (h 0 8)]) (rest := []) (lo1 := [x_r (h 0 9), x_r (h 0 8)]) (by decide +kernel) (by decide) (by decide +kernel) (x_rb_of (tr_0_9 t1)) rfl rfl (x_wr (tn_0 t1) (x_wr (tn_0 t2) x_wn)) x_wn (by decide) rfl (c84_T0_T0 hJ t1 t2) (fun h6 q5 => ?_)
  obtain ⟨j7, f8, c11, c12, c13, c14, c15, c16, c17, c18⟩ := q5
  have f19 := Fr.trans hF f8 (by decide)
  have b20 := jB (e := 7) 0 hJ (rg_T0_7_0_1 t2) (by first | decide | omega) (by first | decide | omega)
  have b21 := jB (e := 7) 0 j7 (rg_T0_7_0_1 t1) (by first | decide | omega) (by first | decide | omega)
  have b22 := jB (e := 2) 0 hJ (rg_T1_2_0_1 t2) (by first | decide | omega) (by first | decide | omega)
  have b23 := jB (e := 2) 0 j7 (rg_T1_2_0_1 t1) (by first | decide | omega) (by first | decide | omega)
  have b24 := jB (e := 2) 0 hJ (rg_T3_2_0_1 t2) (by first | decide | omega) (by first | decide | omega)
  have b25 := jB (e := 2) 0 j7 (rg_T3_2_0_1 t1) (by first | decide | omega) (by first | decide | omega)
  have b26 := jB (e := 2) 0 hJ (rg_T5_2_0_1 t2) (by first | decide | omega) (by first | decide | omega)
  have b27 := jB (e := 2) 0 j7 (rg_T5_2_0_1 t1) (by first | decide | omega) (by first | decide | omega)
  have b28 := jB (e := 2) 0 hJ (rg_T7_2_0_1 t2) (by first | decide | omega) (by first | decide | omega)
  have b29 := jB (e := 2) 0 j7 (rg_T7_2_0_1 t1) (by first | decide | omega) (by first | decide | omega)
  have z30 : h6 ((h 0 9) + 10) 0 = h ((h 0 8) + 10) 0 := c17 6
  have z31 : h6 ((h 0 9) + 10) 1 = h ((h 0 8) + 10) 1 := c17 7
  have z32 : h6 ((h 0 9) + 10) 2 = h ((h 0 8) + 10) 2 := c17 8
  have z33 : h6 ((h 0 9) + 10) 3 = h ((h 0 8) + 10) 3 := c17 9
  have z34 : h6 ((h 0 9) + 10) 4 = h ((h 0 8) + 10) 4 := c17 10
  have z35 : h6 ((h 0 9) + 10) 5 = h ((h 0 8) + 10) 5 := c17 11
  refine x_aload (np := 12) (x := 0) (by decide +kernel) rfl (x_nc_le (by decide)) ?_
  have q36 : h6 0 4 = 62 := by have z := jB (e := 4) 0 j7 rg_0_4_0_1 (by decide) (by decide); omega
  refine x_getR (np := 15) (x := 644) (f := 4) (q := 62) (by decide +kernel) (by decide) (by decide +kernel) q36 ?_
  refine x_aload (np := 16) (x := 0) (by decide +kernel) rfl (x_nc_le (by decide)) ?_
  have q37 : h6 0 9 = h 0 9 := f8 0 9 (by decide +kernel)
  refine x_getR (np := 19) (x := 649) (f := 9) (q := (h 0 9)) (by decide +kernel) (by decide) (by decide +kernel) q37 ?_
  have q38 : h6 (h 0 9) 6 = ((h 0 9) + 11) := tf_0_6 j7 t1
  refine x_getR (np := 22) (x := 518) (f := 6) (q := ((h 0 9) + 11)) (by decide +kernel) (by decide) (tg_0_518_6_1 t1) q38 ?_
  have m42 := Tp.fr hT f8 (by decide) (by decide)
  refine x_cI (t := 6) (mj := 44) (n := 2) (rc := 4) (ml := 3) (nr := 0) (np := 25) (as := [x_r 62, x_r ((h 0 9) + 11)]) (rest := []) (lo1 := [x_r 62, x_r ((h 0 9) + 11), 147573952589676412928]) (by decide +kernel) (by decide) (by decide +kernel) (x_rb_of (by decide +kernel)) rfl rfl (x_wr (by decide) (x_wr (tn_11 t1) x_wn)) x_wn (by decide) rfl (c44_62_T11 j7  t1 m42) (fun v39 h43 l40 q41 => ?_)
  obtain ⟨j44, f45, b46, c47, c48⟩ := q41
  have f49 := Fr.trans f19 f45 (by decide)
  refine x_istore (np := 26) (x := 1) (lo' := [x_r 0, iv_c v39]) (by decide +kernel) l40 (Nat.le_of_ble_eq_true rfl) rfl ?_
  refine x_aload (np := 27) (x := 0) (by decide +kernel) rfl (x_nc_le (by decide)) ?_
  refine x_iload (np := 28) (x := 1) (by decide +kernel) rfl l40 ?_
  refine x_nV (t := 6) (mj := 141) (n := 2) (rc := 11) (ml := 2) (nr := 0) (np := 31) (as := [x_r 0, iv_c v39]) (rest := []) (lo1 := [x_r 0, iv_c v39]) (by decide +kernel) (by decide) (by decide +kernel) (x_rb_of (by decide +kernel)) rfl rfl (x_wr (by decide) (x_wi l40 x_wn)) x_wn (by decide) rfl ?_
  refine x_aload (np := 1) (x := 0) (by decide +kernel) rfl (x_nc_le (by decide)) ?_
  refine x_iload (np := 2) (x := 1) (by decide +kernel) rfl l40 ?_
  refine x_ifz (k := 0) (tg := 9) (np := 5) (by decide +kernel) (by decide) l40 (fun q50 => ?_) (fun q51 => ?_)
  · have q50 : v39 = 2147483648 := q50
    refine x_aload (np := 10) (x := 0) (by decide +kernel) rfl (x_nc_le (by decide)) ?_
    have q52 : h43 0 0 = 1 := by have z := jB (e := 0) 0 j44 rg_0_0_0_1 (by decide) (by decide); omega
    refine x_getR (np := 13) (x := 640) (f := 0) (q := 1) (by decide +kernel) (by decide) (by decide +kernel) q52 ?_
    have b53 := jB (e := 2) 0 j44 rg_1_2_0_1 (by first | decide | omega) (by first | decide | omega)
    refine x_getC (np := 16) (x := 450) (f := 2) (q := (h43 1 2)) (by decide +kernel) (by decide) (by decide +kernel) rfl (fun l54 => ?_)
    refine x_putI (np := 19) (x := 651) (f := 11) (by decide +kernel) (by decide +kernel) l54 (Or.inl (by decide)) ?_
    have j56 := jU (e := 11) (v := (h43 1 2)) 0 j44 rg_0_11_0_1 (by first | decide | omega) (by first | decide | omega) (by first | decide | omega)
    have f58 := jF (e := 11) (v := (h43 1 2)) 0 f49 rg_0_11_0_1 (by first | decide | omega) (by first | decide | omega) (by decide)
    generalize e57 : x_up h43 0 11 (h43 1 2) = h55 at j56 f58 ⊢
    refine x_aload (np := 20) (x := 0) (by decide +kernel) rfl (x_nc_le (by decide)) ?_
    have q59 : h55 0 0 = 1 := by have z := jB (e := 0) 0 j56 rg_0_0_0_1 (by decide) (by decide); omega
    refine x_getR (np := 23) (x := 640) (f := 0) (q := 1) (by decide +kernel) (by decide) (by decide +kernel) q59 ?_
    refine x_const (np := 24) (x := 9223372039002259456) (a := 2147483648) (by decide +kernel) (by decide) (by decide) ?_
    refine x_putI (np := 27) (x := 449) (f := 1) (by decide +kernel) (by decide +kernel) (by decide) (Or.inl (by decide)) ?_
    have j61 := jU (e := 1) (v := 2147483648) 0 j56 rg_1_1_0_1 (by first | decide | omega) (by first | decide | omega) (by first | decide | omega)
    have f63 := jF (e := 1) (v := 2147483648) 0 f58 rg_1_1_0_1 (by first | decide | omega) (by first | decide | omega) (by decide)
    generalize e62 : x_up h55 1 1 2147483648 = h60 at j61 f63 ⊢
    refine x_retV (np := 28) (x := 0) (by decide +kernel) (by decide +kernel) ⟨rfl, ?_⟩
    refine x_iload (np := 32) (x := 1) (by decide +kernel) rfl l40 ?_
    refine x_ifz (k := 1) (tg := 45) (np := 35) (by decide +kernel) (by decide) l40 (fun q64 => ?_) (fun q65 => ?_)
    · have q64 : v39 ≠ 2147483648 := q64
      exfalso; omega
    have q65 : ¬ (v39 ≠ 2147483648) := q65
    have q66 : h60 1 1 = 2147483648 := by rw [← e62]; exact x_up_at
    have q67 : h60 0 8 = h55 0 8 := by rw [← e62]; exact x_up_k (by decide)
    have q68 : h55 0 8 = h43 0 8 := by rw [← e57]; exact x_up_i (by first | decide | omega)
    have q69 : h43 0 8 = h6 0 8 := f45 0 8 (by decide +kernel)
    have q70 : h6 0 8 = h 0 8 := f8 0 8 (by decide +kernel)
    have q71 : h60 0 9 = h55 0 9 := by rw [← e62]; exact x_up_k (by decide)
    have q72 : h55 0 9 = h43 0 9 := by rw [← e57]; exact x_up_i (by first | decide | omega)
    have q73 : h43 0 9 = h6 0 9 := f45 0 9 (by decide +kernel)
    have q74 : h6 0 9 = h 0 9 := f8 0 9 (by decide +kernel)
    have m75 : Ot (h 0 9) h h6 := Ot.trans Ot.refl (c18)
    have m76 : Ot (h 0 9) h h43 := Ot.fr m75 f45 (by decide)
    have m77 : Ot (h 0 9) h h55 := by rw [← e57]; exact Ot.oth m76 (by decide)
    have m78 : Ot (h 0 9) h h60 := by rw [← e62]; exact Ot.oth m77 (by decide)
    have m79 : ∀ i, tv h60 i = tv h i := fun i => (congrArg (fun z => svq h60 z i) (((q67.trans q68).trans q69).trans q70)).trans (m78 _ t2 hp0 i)
    have m80 : ∀ b, b < 6 → h55 46 b = h 46 b := fun b hb => by rw [← e57, x_up_k (by decide)]; exact (al_gr (al_gr (fun _ _ => rfl) f8 (by decide)) f45 (by decide)) b hb
    have m81 : ∀ b, b < 6 → h60 46 b = h 46 b := fun b hb => by rw [← e62, x_up_k (by decide)]; exact m80 b hb
    refine x_thr (np := 38) (x := 0) (by decide +kernel) (by decide +kernel) (Nat.le_trans x_wn (by decide)) (Or.inr ⟨_, rfl, ?_⟩)
    exact ⟨j61, f63, by decide, (by first | decide | omega), (Cu.of0 c47 (by first | decide | omega)), m79, (((q67.trans q68).trans q69).trans q70), (((q71.trans q72).trans q73).trans q74), m81⟩
  have q51 : ¬ (v39 = 2147483648) := q51
  refine x_const (np := 6) (x := 9223372034707292159) (a := 2147483647) (by decide +kernel) (by decide) (by decide) ?_
  refine x_goto (np := 9) (x := 16) (by decide +kernel) ?_
  refine x_putI (np := 19) (x := 651) (f := 11) (by decide +kernel) (by decide +kernel) (by decide) (Or.inl (by decide)) ?_
  have j83 := jU (e := 11) (v := 2147483647) 0 j44 rg_0_11_0_1 (by first | decide | omega) (by first | decide | omega) (by first | decide | omega)
  have f85 := jF (e := 11) (v := 2147483647) 0 f49 rg_0_11_0_1 (by first | decide | omega) (by first | decide | omega) (by decide)
  generalize e84 : x_up h43 0 11 2147483647 = h82 at j83 f85 ⊢
  refine x_aload (np := 20) (x := 0) (by decide +kernel) rfl (x_nc_le (by decide)) ?_
  have q86 : h82 0 0 = 1 := by have z := jB (e := 0) 0 j83 rg_0_0_0_1 (by decide) (by decide); omega
  refine x_getR (np := 23) (x := 640) (f := 0) (q := 1) (by decide +kernel) (by decide) (by decide +kernel) q86 ?_
  refine x_const (np := 24) (x := 9223372039002259456) (a := 2147483648) (by decide +kernel) (by decide) (by decide) ?_
  refine x_putI (np := 27) (x := 449) (f := 1) (by decide +kernel) (by decide +kernel) (by decide) (Or.inl (by decide)) ?_
  have j88 := jU (e := 1) (v := 2147483648) 0 j83 rg_1_1_0_1 (by first | decide | omega) (by first | decide | omega) (by first | decide | omega)
  have f90 := jF (e := 1) (v := 2147483648) 0 f85 rg_1_1_0_1 (by first | decide | omega) (by first | decide | omega) (by decide)
  generalize e89 : x_up h82 1 1 2147483648 = h87 at j88 f90 ⊢
  refine x_retV (np := 28) (x := 0) (by decide +kernel) (by decide +kernel) ⟨rfl, ?_⟩
  refine x_iload (np := 32) (x := 1) (by decide +kernel) rfl l40 ?_
  refine x_ifz (k := 1) (tg := 45) (np := 35) (by decide +kernel) (by decide) l40 (fun q91 => ?_) (fun q92 => ?_)
  · have q91 : v39 ≠ 2147483648 := q91
    refine x_aload (np := 46) (x := 0) (by decide +kernel) rfl (x_nc_le (by decide)) ?_
    refine x_nV (t := 6) (mj := 142) (n := 1) (rc := 11) (ml := 2) (nr := 0) (np := 49) (as := [x_r 0]) (rest := []) (lo1 := [x_r 0, 147573952589676412928]) (by decide +kernel) (by decide) (by decide +kernel) (x_rb_of (by decide +kernel)) rfl rfl (x_wr (by decide) x_wn) x_wn (by decide) rfl ?_
    refine x_aload (np := 1) (x := 0) (by decide +kernel) rfl (x_nc_le (by decide)) ?_
    have q93 : h87 0 8 = h82 0 8 := by rw [← e89]; exact x_up_k (by decide)
    have q94 : h82 0 8 = h43 0 8 := by rw [← e84]; exact x_up_i (by first | decide | omega)
    have q95 : h43 0 8 = h6 0 8 := f45 0 8 (by decide +kernel)
    have q96 : h6 0 8 = h 0 8 := f8 0 8 (by decide +kernel)
    refine x_getR (np := 4) (x := 648) (f := 8) (q := (h 0 8)) (by decide +kernel) (by decide) (by decide +kernel) (((q93.trans q94).trans q95).trans q96) ?_
    refine x_astore (np := 5) (x := 1) (lo' := [x_r 0, x_r (h 0 8)]) (by decide +kernel) (x_nc_le (tn_0 t2)) (Nat.le_of_ble_eq_true rfl) rfl ?_
    refine x_aload (np := 6) (x := 0) (by decide +kernel) rfl (x_nc_le (by decide)) ?_
    refine x_aload (np := 7) (x := 0) (by decide +kernel) rfl (x_nc_le (by decide)) ?_
    have q97 : h87 0 9 = h82 0 9 := by rw [← e89]; exact x_up_k (by decide)
    have q98 : h82 0 9 = h43 0 9 := by rw [← e84]; exact x_up_i (by first | decide | omega)
    have q99 : h43 0 9 = h6 0 9 := f45 0 9 (by decide +kernel)
    have q100 : h6 0 9 = h 0 9 := f8 0 9 (by decide +kernel)
    refine x_getR (np := 10) (x := 649) (f := 9) (q := (h 0 9)) (by decide +kernel) (by decide) (by decide +kernel) (((q97.trans q98).trans q99).trans q100) ?_
    refine x_putR (np := 13) (x := 8840) (f := 8) (by decide +kernel) (by decide +kernel) (tn_0 t1) (by decide) ?_
    have j102 := J_upW (k := 0) (i := 8) j88 t1 (by decide)
    have f104 := Fr.up (k := 0) (i := 8) (v := (h 0 9)) f90 (by decide +kernel)
    generalize e103 : x_up h87 0 8 (h 0 9) = h101 at j102 f104 ⊢
    refine x_aload (np := 14) (x := 0) (by decide +kernel) rfl (x_nc_le (by decide)) ?_
    refine x_aload (np := 15) (x := 1) (by decide +kernel) rfl (x_nc_le (tn_0 t2)) ?_
    refine x_putR (np := 18) (x := 8841) (f := 9) (by decide +kernel) (by decide +kernel) (tn_0 t2) (by decide) ?_
    have j106 := J_upW (k := 0) (i := 9) j102 t2 (by decide)
    have f108 := Fr.up (k := 0) (i := 9) (v := (h 0 8)) f104 (by decide +kernel)
    generalize e107 : x_up h101 0 9 (h 0 8) = h105 at j106 f108 ⊢
    refine x_retV (np := 19) (x := 0) (by decide +kernel) (by decide +kernel) ⟨rfl, ?_⟩
    refine x_aload (np := 50) (x := 0) (by decide +kernel) rfl (x_nc_le (by decide)) ?_
    refine x_nV (t := 6) (mj := 143) (n := 1) (rc := 11) (ml := 1) (nr := 0) (np := 53) (as := [x_r 0]) (rest := []) (lo1 := [x_r 0]) (by decide +kernel) (by decide) (by decide +kernel) (x_rb_of (by decide +kernel)) rfl rfl (x_wr (by decide) x_wn) x_wn (by decide) rfl ?_
    refine x_aload (np := 1) (x := 0) (by decide +kernel) rfl (x_nc_le (by decide)) ?_
    have q109 : h105 0 1 = 45 := by have z := jB (e := 1) 0 j106 rg_0_1_0_1 (by decide) (by decide); omega
    refine x_getR (np := 4) (x := 641) (f := 1) (q := 45) (by decide +kernel) (by decide) (by decide +kernel) q109 ?_
    refine x_aload (np := 5) (x := 0) (by decide +kernel) rfl (x_nc_le (by decide)) ?_
    have q110 : h105 0 8 = h101 0 8 := by rw [← e107]; exact x_up_i (by first | decide | omega)
    have q111 : h101 0 8 = (h 0 9) := by rw [← e103]; exact x_up_at
    refine x_getR (np := 8) (x := 648) (f := 8) (q := (h 0 9)) (by decide +kernel) (by decide) (by decide +kernel) (q110.trans q111) ?_
    refine x_cV (t := 6) (mj := 4) (n := 2) (rc := 2) (ml := 3) (nr := 0) (np := 11) (as := [x_r 45, x_r (h 0 9)]) (rest := []) (lo1 := [x_r 45, x_r (h 0 9), 147573952589676412928]) (by decide +kernel) (by decide) (by decide +kernel) (x_rb_of (by decide +kernel)) rfl rfl (x_wr (by decide) (x_wr (tn_0 t1) x_wn)) x_wn (by decide) rfl (c4_45_T0 j106  t1) (fun h115 q114 => ?_)
    obtain ⟨j116, f117, c120⟩ := q114
    have f121 := Fr.trans f108 f117 (by decide)
    refine x_aload (np := 12) (x := 0) (by decide +kernel) rfl (x_nc_le (by decide)) ?_
    have q122 : h115 0 5 = 63 := by have z := jB (e := 5) 0 j116 rg_0_5_0_1 (by decide) (by decide); omega
    refine x_getR (np := 15) (x := 645) (f := 5) (q := 63) (by decide +kernel) (by decide) (by decide +kernel) q122 ?_
    refine x_nV (t := 8) (mj := 270) (n := 1) (rc := 5) (ml := 1) (nr := 0) (np := 18) (as := [x_r 63]) (rest := []) (lo1 := [x_r 63]) (by decide +kernel) (by decide) (by decide +kernel) (x_rb_of (by decide +kernel)) rfl rfl (x_wr (by decide) x_wn) x_wn (by decide) rfl ?_
    refine x_aload (np := 1) (x := 0) (by decide +kernel) rfl (x_nc_le (by decide)) ?_
    refine x_const (np := 2) (x := 9223372039002259456) (a := 2147483648) (by decide +kernel) (by decide) (by decide) ?_
    refine x_putI (np := 5) (x := 4878) (f := 14) (by decide +kernel) (by decide +kernel) (by decide) (Or.inr ⟨by decide, by first | decide | omega, by first | decide | omega⟩) ?_
    have j124 := jU (e := 14) (v := 2147483648) 0 j116 rg_63_14_0_1 (by first | decide | omega) (by first | decide | omega) (by first | decide | omega)
    have f126 := jF (e := 14) (v := 2147483648) 0 f121 rg_63_14_0_1 (by first | decide | omega) (by first | decide | omega) (by decide)
    generalize e125 : x_up h115 63 14 2147483648 = h123 at j124 f126 ⊢
    refine x_retV (np := 6) (x := 0) (by decide +kernel) (by decide +kernel) ⟨rfl, ?_⟩
    refine x_aload (np := 19) (x := 0) (by decide +kernel) rfl (x_nc_le (by decide)) ?_
    have q127 : h123 0 6 = 69 := by have z := jB (e := 6) 0 j124 rg_0_6_0_1 (by decide) (by decide); omega
    refine x_getR (np := 22) (x := 646) (f := 6) (q := 69) (by decide +kernel) (by decide) (by decide +kernel) q127 ?_
    refine x_nV (t := 8) (mj := 270) (n := 1) (rc := 6) (ml := 1) (nr := 0) (np := 25) (as := [x_r 69]) (rest := []) (lo1 := [x_r 69]) (by decide +kernel) (by decide) (by decide +kernel) (x_rb_of (by decide +kernel)) rfl rfl (x_wr (by decide) x_wn) x_wn (by decide) rfl ?_
    refine x_aload (np := 1) (x := 0) (by decide +kernel) rfl (x_nc_le (by decide)) ?_
    refine x_const (np := 2) (x := 9223372039002259456) (a := 2147483648) (by decide +kernel) (by decide) (by decide) ?_
    refine x_putI (np := 5) (x := 4878) (f := 14) (by decide +kernel) (by decide +kernel) (by decide) (Or.inr ⟨by decide, by first | decide | omega, by first | decide | omega⟩) ?_
    have j129 := jU (e := 14) (v := 2147483648) 0 j124 rg_69_14_0_1 (by first | decide | omega) (by first | decide | omega) (by first | decide | omega)
    have f131 := jF (e := 14) (v := 2147483648) 0 f126 rg_69_14_0_1 (by first | decide | omega) (by first | decide | omega) (by decide)
    generalize e130 : x_up h123 69 14 2147483648 = h128 at j129 f131 ⊢
    refine x_retV (np := 6) (x := 0) (by decide +kernel) (by decide +kernel) ⟨rfl, ?_⟩
    refine x_retV (np := 26) (x := 0) (by decide +kernel) (by decide +kernel) ⟨rfl, ?_⟩
    refine x_aload (np := 54) (x := 0) (by decide +kernel) rfl (x_nc_le (by decide)) ?_
    have q132 : h128 0 8 = h123 0 8 := by rw [← e130]; exact x_up_k (by decide)
    have q133 : h123 0 8 = h115 0 8 := by rw [← e125]; exact x_up_k (by decide)
    have q134 : h115 0 8 = h105 0 8 := f117 0 8 (by decide +kernel)
    have q135 : h105 0 8 = h101 0 8 := by rw [← e107]; exact x_up_i (by first | decide | omega)
    have q136 : h101 0 8 = (h 0 9) := by rw [← e103]; exact x_up_at
    refine x_getR (np := 57) (x := 648) (f := 8) (q := (h 0 9)) (by decide +kernel) (by decide) (by decide +kernel) ((((q132.trans q133).trans q134).trans q135).trans q136) ?_
    have q137 : h128 (h 0 9) 6 = ((h 0 9) + 11) := tf_0_6 j129 t1
    refine x_getR (np := 60) (x := 518) (f := 6) (q := ((h 0 9) + 11)) (by decide +kernel) (by decide) (tg_0_518_6_1 t1) q137 ?_
    have q138 : h128 ((h 0 9) + 11) 3 = h123 ((h 0 9) + 11) 3 := by rw [← e130]; exact x_up_k (tne_11_69 t1)
    have q139 : h123 ((h 0 9) + 11) 3 = h115 ((h 0 9) + 11) 3 := by rw [← e125]; exact x_up_k (tne_11_63 t1)
    have q140 : h115 ((h 0 9) + 11) 3 = h105 ((h 0 9) + 11) 3 := jK 0 f117 (rg_T11_3_0_1 t1) (by first | decide | omega) (by first | decide | omega) (by decide)
    have q141 : h105 ((h 0 9) + 11) 3 = h101 ((h 0 9) + 11) 3 := by rw [← e107]; exact x_up_k (tne_11_0 t1)
    have q142 : h101 ((h 0 9) + 11) 3 = h87 ((h 0 9) + 11) 3 := by rw [← e103]; exact x_up_k (tne_11_0 t1)
    have q143 : h87 ((h 0 9) + 11) 3 = h82 ((h 0 9) + 11) 3 := by rw [← e89]; exact x_up_k (tne_11_1 t1)
    have q144 : h82 ((h 0 9) + 11) 3 = h43 ((h 0 9) + 11) 3 := by rw [← e84]; exact x_up_k (tne_11_0 t1)
    refine x_getC (np := 63) (x := 131) (f := 3) (q := (h43 ((h 0 9) + 11) 3)) (by decide +kernel) (by decide) (tg_11_131_3_0 t1) ((((((q138.trans q139).trans q140).trans q141).trans q142).trans q143).trans q144) (fun l145 => ?_)
    have q146 : h128 1 1 = h123 1 1 := by rw [← e130]; exact x_up_k (by decide)
    have q147 : h123 1 1 = h115 1 1 := by rw [← e125]; exact x_up_k (by decide)
    have q148 : h115 1 1 = h105 1 1 := jK 0 f117 rg_1_1_0_1 (by first | decide | omega) (by first | decide | omega) (by decide)
    have q149 : h105 1 1 = h101 1 1 := by rw [← e107]; exact x_up_k (by decide)
    have q150 : h101 1 1 = h87 1 1 := by rw [← e103]; exact x_up_k (by decide)
    have q151 : h87 1 1 = 2147483648 := by rw [← e89]; exact x_up_at
    have e152 : ln9 h43 = (h43 ((h 0 9) + 11) 3) := (congrArg (fun z => h43 z 3) c48).trans rfl
    have q153 : h128 0 8 = h123 0 8 := by rw [← e130]; exact x_up_k (by decide)
    have q154 : h123 0 8 = h115 0 8 := by rw [← e125]; exact x_up_k (by decide)
    have q155 : h115 0 8 = h105 0 8 := f117 0 8 (by decide +kernel)
    have q156 : h105 0 8 = h101 0 8 := by rw [← e107]; exact x_up_i (by first | decide | omega)
    have q157 : h101 0 8 = (h 0 9) := by rw [← e103]; exact x_up_at
    have q158 : h128 0 9 = h123 0 9 := by rw [← e130]; exact x_up_k (by decide)
    have q159 : h123 0 9 = h115 0 9 := by rw [← e125]; exact x_up_k (by decide)
    have q160 : h115 0 9 = h105 0 9 := f117 0 9 (by decide +kernel)
    have q161 : h105 0 9 = (h 0 8) := by rw [← e107]; exact x_up_at
    have m162 : ∀ j, svq h43 (h 0 9) j = svq h (h 0 8) j := Sq.fr c17 f45 (by decide) t1
    have m163 : ∀ j, svq h82 (h 0 9) j = svq h (h 0 8) j := by rw [← e84]; exact Sq.up m162 (tw_lo t1 (by decide))
    have m164 : ∀ j, svq h87 (h 0 9) j = svq h (h 0 8) j := by rw [← e89]; exact Sq.up m163 (tw_lo t1 (by decide))
    have m165 : ∀ j, svq h101 (h 0 9) j = svq h (h 0 8) j := by rw [← e103]; exact Sq.up m164 (tw_lo t1 (by decide))
    have m166 : ∀ j, svq h105 (h 0 9) j = svq h (h 0 8) j := by rw [← e107]; exact Sq.up m165 (tw_lo t1 (by decide))
    have m167 : ∀ j, svq h115 (h 0 9) j = svq h (h 0 8) j := Sq.fr m166 f117 (by decide) t1
    have m168 : ∀ j, svq h123 (h 0 9) j = svq h (h 0 8) j := by rw [← e125]; exact Sq.up m167 (tw_hi t1 (by decide))
    have m169 : ∀ j, svq h128 (h 0 9) j = svq h (h 0 8) j := by rw [← e130]; exact Sq.up m168 (tw_hi t1 (by decide))
    have m170 : ∀ i, tv h128 i = tv h i := fun i => (congrArg (fun z => svq h128 z i) ((((q153.trans q154).trans q155).trans q156).trans q157)).trans (m169 i)
    have q171 : h128 0 8 = h123 0 8 := by rw [← e130]; exact x_up_k (by decide)
    have q172 : h123 0 8 = h115 0 8 := by rw [← e125]; exact x_up_k (by decide)
    have q173 : h115 0 8 = h105 0 8 := f117 0 8 (by decide +kernel)
    have q174 : h105 0 8 = h101 0 8 := by rw [← e107]; exact x_up_i (by first | decide | omega)
    have q175 : h101 0 8 = (h 0 9) := by rw [← e103]; exact x_up_at
    have q176 : h128 0 9 = h123 0 9 := by rw [← e130]; exact x_up_k (by decide)
    have q177 : h123 0 9 = h115 0 9 := by rw [← e125]; exact x_up_k (by decide)
    have q178 : h115 0 9 = h105 0 9 := f117 0 9 (by decide +kernel)
    have q179 : h105 0 9 = (h 0 8) := by rw [← e107]; exact x_up_at
    have m180 : ∀ b, b < 6 → h123 46 b = al9 (xq h105 (h 0 9) b) := fun b hb => by rw [← e125, x_up_k (by decide)]; exact c120 b hb
    have m181 : ∀ b, b < 6 → h128 46 b = al9 (xq h105 (h 0 9) b) := fun b hb => by rw [← e130, x_up_k (by decide)]; exact m180 b hb
    have m182 : ∀ u, u < 6 → xq h128 (h 0 9) u = xq h105 (h 0 9) u := fun u hu => (Eq.trans (show xq h128 (h 0 9) u = xq h123 (h 0 9) u by rw [← e130]; exact xq_k (@nc_o (h 0 9) 9 69 t1 (by decide))) (Eq.trans (show xq h123 (h 0 9) u = xq h115 (h 0 9) u by rw [← e125]; exact xq_k (@nc_o (h 0 9) 9 63 t1 (by decide))) (xq_gr t1 f117 (by decide) u hu)))
    refine x_retI (np := 64) (x := 0) (by decide +kernel) l145 (Or.inl (by decide +kernel)) (Or.inl ⟨_, rfl, l145, ?_⟩)
    exact ⟨j129, f131, (by first | decide | omega), (by first | decide | omega), (Cu.of1 c47 (by first | decide | omega) (by first | decide | omega)), m170, ((((q153.trans q154).trans q155).trans q156).trans q157), (((q158.trans q159).trans q160).trans q161), (fun b hb => (m181 b hb).trans (congrArg al9 (((congrArg (fun z => svq h128 z (12 + b)) ((((q171.trans q172).trans q173).trans q174).trans q175)).trans (svq_x b hb)).trans (m182 b hb)).symm))⟩
  have q92 : ¬ (v39 ≠ 2147483648) := q92
  exfalso; omega
set_option maxHeartbeats 0 in
/-- LentNamesLaw.custom(LLentNames;[J)I -/
theorem c296_0_97 {sc : Nat × Nat} {d  : Nat} {h : xh} {tB : Nat → Nat} {tN : Nat} (hJ : J h) (hT : Tp tB tN h) (hp0 : h 0 8 ≠ h 0 9) : X sc 296 (d + 32) (xI fun r h' => J h' ∧ Fr 641129628202819259 h h' ∧ (2147483648 ≤ r ∧ r ≤ 2147483649) ∧ (h' 1 1 = 2147483648) ∧ ((r = 2147483648 ∧ Cu tB tN (some (h' 97 0))) ∨ (r = 2147483649 ∧ Cu tB tN none)) ∧ (∀ i, tv h' i = tv h i) ∧ ((h' 0 8 = h 0 9 ∧ h' 0 9 = h 0 8) ∨ (h' 0 8 = h 0 8 ∧ h' 0 9 = h 0 9)) ∧ ((∀ b, b < 6 → h' 46 b = al9 (tv h' (12 + b))) ∨ (∀ b, b < 6 → h' 46 b = h 46 b))) 0 0 0 [x_r 0, x_r 97, 147573952589676412928] [] h := by
  have hF := Fr.refl 641129628202819259 h
  refine x_aload (np := 1) (x := 1) (by decide +kernel) rfl (x_nc_le (by decide)) ?_
  refine x_const (np := 2) (x := 9223372039002259456) (a := 2147483648) (by decide +kernel) (by decide) (by decide) ?_
  refine x_aload (np := 3) (x := 0) (by decide +kernel) rfl (x_nc_le (by decide)) ?_
  refine x_cT (t := 6) (mj := 108) (n := 1) (rc := 11) (ml := 2) (cc := 1) (ss := 6) (nr := 2) (np := 6) (as := [x_r 0]) (rest := [iv_c 2147483648, x_r 97]) (lo1 := [x_r 0, 147573952589676412928]) (by decide +kernel) (by decide) (by decide +kernel) (x_rb_of (by decide +kernel)) rfl rfl (x_wr (by decide) x_wn) (x_wi (by decide) (x_wr (by decide) x_wn)) (by decide) rfl (c108_0 hJ  hT hp0) (fun v11 h14 l12 q13 => ?_) (fun E16 h17 q15 => ?_)
  · obtain ⟨j18, f19, b20, c21, c1, c2, c3, c4, c5⟩ := q13
    have f22 := Fr.trans hF f19 (by decide)
    have b23 := jB (e := 1) 0 j18 rg_1_1_0_1 (by first | decide | omega) (by first | decide | omega)
    refine x_i2l (np := 7) (x := 0) (by decide +kernel) l12 ?_
    refine x_last (np := 8) (x := 0) (n := 1) (i := 0) (by decide +kernel) (by decide) (by decide +kernel) (by decide +kernel) (by first | decide | omega) (by first | decide | omega) (by decide) l12 ?_
    have j25 := jU (e := 0) (v := v11) 0 j18 rg_97_0_1_1 (by first | decide | omega) (by first | decide | omega) (by first | decide | omega)
    have f27 := jF (e := 0) (v := v11) 0 f22 rg_97_0_1_1 (by first | decide | omega) (by first | decide | omega) (by decide)
    generalize e26 : x_up h14 97 0 v11 = h24 at j25 f27 ⊢
    refine x_goto (np := 11) (x := 14) (by decide +kernel) ?_
    refine x_const (np := 15) (x := 9223372039002259456) (a := 2147483648) (by decide +kernel) (by decide) (by decide) ?_
    have q28 : h24 1 1 = h14 1 1 := by rw [← e26]; exact x_up_k (by decide)
    have q29 : h24 97 0 = v11 := by rw [← e26]; exact x_up_at
    have t31 : tw (h14 0 8) := j18.2.1
    have q32 : h24 0 8 = h14 0 8 := by rw [← e26]; exact x_up_k (by decide)
    have q33 : h24 0 9 = h14 0 9 := by rw [← e26]; exact x_up_k (by decide)
    have t34 : tw (h14 0 9) := j18.2.2.1
    have m30 : ∀ i, tv h24 i = tv h i := fun i => by rw [← e26]; exact (tv_up (by decide) t31 i).trans (c2 i)
    have m35 : ∀ i, tv h24 i = tv h14 i := fun i => by rw [← e26]; exact tv_up (by decide) t31 i
    have m36 : ∀ b, b < 6 → h24 46 b = al9 (tv h14 (12 + b)) := fun b hb => by rw [← e26, x_up_k (by decide)]; exact c5 b hb
    refine x_retI (np := 16) (x := 0) (by decide +kernel) (by decide) (Or.inl (by decide +kernel)) ⟨_, rfl, (by decide), ?_⟩
    exact ⟨j25, f27, (by first | decide | omega), (by first | decide | omega), (Or.inl ⟨by first | decide | omega, Cu.cs c1 (by first | decide | omega)⟩), m30, (Or.inl ⟨(Eq.trans q32 c3), (Eq.trans q33 c4)⟩), (Or.inl (fun b hb => (m36 b hb).trans (congrArg al9 (m35 (12 + b)).symm)))⟩
  obtain ⟨j37, f38, e39, c40, c6, c7, c8, c9, c10⟩ := q15
  have f41 := Fr.trans hF f38 (by decide)
  have b42 := jB (e := 1) 0 j37 rg_1_1_0_1 (by first | decide | omega) (by first | decide | omega)
  rcases e39 with rfl
  · refine ⟨11, fun _ _ => rfl, ?_⟩
    refine x_astE (np := 12) (x := 2) (lo' := [x_r 0, x_r 97, 55340232221128654850]) (by decide +kernel) (Nat.le_of_ble_eq_true rfl) rfl ?_
    refine x_const (np := 13) (x := 9223372043297226753) (a := 2147483649) (by decide +kernel) (by decide) (by decide) ?_
    have q43 : h17 97 0 = h 97 0 := jK 0 f38 rg_97_0_1_1 (by first | decide | omega) (by first | decide | omega) (by decide)
    refine x_retI (np := 14) (x := 0) (by decide +kernel) (by decide) (Or.inl (by decide +kernel)) ⟨_, rfl, (by decide), ?_⟩
    exact ⟨j37, f41, (by first | decide | omega), (by first | decide | omega), (Or.inr ⟨by first | decide | omega, c6⟩), c7, (Or.inr ⟨c8, c9⟩), (Or.inr c10)⟩
set_option maxHeartbeats 0 in
/-- LentNames.purse(II)I -/
theorem c130_0 {sc : Nat × Nat} {d a1 a2 : Nat} {h : xh} (hJ : J h) (ba1 : 0 ≤ a1 ∧ a1 ≤ 4294967295) (ba2 : 0 ≤ a2 ∧ a2 ≤ 4294967295) : X sc 130 (d + 1) (xT (fun r h' => J h' ∧ Fr 1125899906842624 h h' ∧ (0 ≤ r ∧ r ≤ 4294967295) ∧ ∃ u, a1 = 2147483648 + u ∧ u < 6 ∧ a1 < tv h 0 ∧ 2147483648 ≤ a2 ∧ a2 ≤ 2147493647 ∧ h' = x_up h (h 0 8 + 10) u a2 ∧ r = h (h 0 8 + 10) u) (fun E h' => J h' ∧ Fr 1125899906842624 h h' ∧ (E = 0 ∨ E = 2) ∧ ((E = 2 ∧ (a1 < 2147483648 ∨ tv h 0 ≤ a1)) ∨ (E = 0 ∧ 2147483648 ≤ a1 ∧ a1 < tv h 0 ∧ (a2 < 2147483648 ∨ 2147493647 < a2))) ∧ h' = h)) 0 0 0 [x_r 0, iv_c a1, iv_c a2, 147573952589676412928] [] h := by
  have la1 : a1 < 4294967296 := by first | decide | omega
  have la2 : a2 < 4294967296 := by first | decide | omega
  have hF := Fr.refl 1125899906842624 h
  refine x_aload (np := 1) (x := 0) (by decide +kernel) rfl (x_nc_le (by decide)) ?_
  refine x_iload (np := 2) (x := 1) (by decide +kernel) rfl la1 ?_
  refine x_nU (t := 6) (mj := 145) (n := 2) (rc := 11) (ml := 2) (cc := 1) (ss := 6) (nr := 0) (np := 5) (as := [x_r 0, iv_c a1]) (rest := []) (lo1 := [x_r 0, iv_c a1]) (by decide +kernel) (by decide) (by decide +kernel) (by decide +kernel) (x_rb_of (by decide +kernel)) rfl rfl (x_wr (by decide) (x_wi la1 x_wn)) x_wn (by decide) rfl ?_
  refine x_iload (np := 1) (x := 1) (by decide +kernel) rfl la1 ?_
  refine x_ifz (k := 2) (tg := 15) (np := 4) (by decide +kernel) (by decide) la1 (fun q1 => ?_) (fun q2 => ?_)
  · have q1 : a1 < 2147483648 := q1
    have t3 : tw (h 0 8) := hJ.2.1
    have b4 := jB (e := 7) 0 hJ (rg_T0_7_0_1 t3) (by first | decide | omega) (by first | decide | omega)
    have e5 : tv h 0 = (h (h 0 8) 7) := (congrArg (fun z => svq h z 0) rfl).trans rfl
    refine x_thr (np := 18) (x := 2) (by decide +kernel) (by decide +kernel) (Nat.le_trans x_wn (by decide)) (Or.inr ⟨_, rfl, ?_⟩)
    refine Or.inr ⟨_, rfl, ?_⟩
    exact ⟨hJ, hF, by decide, (Or.inl ⟨rfl, by first | decide | omega⟩), rfl⟩
  have q2 : ¬ (a1 < 2147483648) := q2
  refine x_iload (np := 5) (x := 1) (by decide +kernel) rfl la1 ?_
  refine x_aload (np := 6) (x := 0) (by decide +kernel) rfl (x_nc_le (by decide)) ?_
  have t6 : tw (h 0 8) := hJ.2.1
  refine x_getR (np := 9) (x := 648) (f := 8) (q := (h 0 8)) (by decide +kernel) (by decide) (by decide +kernel) rfl ?_
  have b7 := jB (e := 7) 0 hJ (rg_T0_7_0_1 t6) (by first | decide | omega) (by first | decide | omega)
  refine x_getC (np := 12) (x := 519) (f := 7) (q := (h (h 0 8) 7)) (by decide +kernel) (by decide) (tg_0_519_7_0 t6) rfl (fun l8 => ?_)
  refine x_icmp (k := 2) (tg := 26) (np := 15) (by decide +kernel) (by decide) la1 l8 (fun q9 => ?_) (fun q10 => ?_)
  · have q9 : a1 < (h (h 0 8) 7) := q9
    refine x_retV (np := 27) (x := 0) (by decide +kernel) (by decide +kernel) (Or.inl ⟨rfl, ?_⟩)
    refine x_iload (np := 6) (x := 2) (by decide +kernel) rfl la2 ?_
    refine x_ifz (k := 2) (tg := 16) (np := 9) (by decide +kernel) (by decide) la2 (fun q11 => ?_) (fun q12 => ?_)
    · have q11 : a2 < 2147483648 := q11
      have e13 : tv h 0 = (h (h 0 8) 7) := (congrArg (fun z => svq h z 0) rfl).trans rfl
      refine x_thr (np := 19) (x := 0) (by decide +kernel) (by decide +kernel) (Nat.le_trans x_wn (by decide)) (Or.inr ⟨_, rfl, ?_⟩)
      exact ⟨hJ, hF, by decide, (Or.inr ⟨rfl, by first | decide | omega, by first | decide | omega, by first | decide | omega⟩), rfl⟩
    have q12 : ¬ (a2 < 2147483648) := q12
    refine x_iload (np := 10) (x := 2) (by decide +kernel) rfl la2 ?_
    refine x_const (np := 13) (x := 9223414984380262159) (a := 2147493647) (by decide +kernel) (by decide) (by decide) ?_
    refine x_icmp (k := 5) (tg := 27) (np := 16) (by decide +kernel) (by decide) la2 (by decide) (fun q14 => ?_) (fun q15 => ?_)
    · have q14 : a2 ≤ 2147493647 := q14
      refine x_aload (np := 28) (x := 0) (by decide +kernel) rfl (x_nc_le (by decide)) ?_
      refine x_getR (np := 31) (x := 648) (f := 8) (q := (h 0 8)) (by decide +kernel) (by decide) (by decide +kernel) rfl ?_
      have q16 : h (h 0 8) 5 = ((h 0 8) + 10) := tf_0_5 hJ t6
      refine x_getR (np := 34) (x := 517) (f := 5) (q := ((h 0 8) + 10)) (by decide +kernel) (by decide) (tg_0_517_5_1 t6) q16 ?_
      refine x_iload (np := 35) (x := 1) (by decide +kernel) rfl la1 ?_
      obtain ⟨u17, q18⟩ : ∃ z, a1 = 2147483648 + z := ⟨a1 - 2147483648, by first | decide | omega⟩
      refine x_aldC (np := 36) (x := 0) (n := 6) (i := u17) (q := (h ((h 0 8) + 10) u17)) (by decide +kernel) (ta_10_6 t6) (by first | decide | omega) (by first | decide | omega) (by decide) rfl (fun l19 => ?_)
      refine x_istore (np := 37) (x := 3) (lo' := [x_r 0, iv_c a1, iv_c a2, iv_c (h ((h 0 8) + 10) u17)]) (by decide +kernel) l19 (Nat.le_of_ble_eq_true rfl) rfl ?_
      refine x_aload (np := 38) (x := 0) (by decide +kernel) rfl (x_nc_le (by decide)) ?_
      refine x_getR (np := 41) (x := 648) (f := 8) (q := (h 0 8)) (by decide +kernel) (by decide) (by decide +kernel) rfl ?_
      have q20 : h (h 0 8) 5 = ((h 0 8) + 10) := tf_0_5 hJ t6
      refine x_getR (np := 44) (x := 517) (f := 5) (q := ((h 0 8) + 10)) (by decide +kernel) (by decide) (tg_0_517_5_1 t6) q20 ?_
      refine x_iload (np := 45) (x := 1) (by decide +kernel) rfl la1 ?_
      refine x_iload (np := 46) (x := 2) (by decide +kernel) rfl la2 ?_
      refine x_ast (np := 47) (x := 0) (kd := 1) (n := 6) (i := u17) (by decide +kernel) (Or.inl rfl) (ta_10_6 t6) (by first | decide | omega) (by first | decide | omega) (by decide) la2 (fun z => absurd z (by decide)) ?_
      have j22 := jU (e := u17) (v := a2) u17 hJ (rg_T10_0_1_6 t6) (by first | decide | omega) (by first | decide | omega) (by first | decide | omega)
      have f24 := jF (e := u17) (v := a2) u17 hF (rg_T10_0_1_6 t6) (by first | decide | omega) (by first | decide | omega) (by decide)
      generalize e23 : x_up h ((h 0 8) + 10) u17 a2 = h21 at j22 f24 ⊢
      refine x_iload (np := 48) (x := 3) (by decide +kernel) rfl l19 ?_
      have e25 : tv h 0 = (h (h 0 8) 7) := (congrArg (fun z => svq h z 0) rfl).trans rfl
      refine x_retI (np := 49) (x := 0) (by decide +kernel) l19 (Or.inl (by decide +kernel)) (Or.inl ⟨_, rfl, l19, ?_⟩)
      exact ⟨j22, f24, (by first | decide | omega), ⟨u17, by first | decide | omega, by first | decide | omega, by first | decide | omega, by first | decide | omega, by first | decide | omega, e23.symm, by first | decide | omega⟩⟩
    have q15 : ¬ (a2 ≤ 2147493647) := q15
    have e26 : tv h 0 = (h (h 0 8) 7) := (congrArg (fun z => svq h z 0) rfl).trans rfl
    refine x_thr (np := 19) (x := 0) (by decide +kernel) (by decide +kernel) (Nat.le_trans x_wn (by decide)) (Or.inr ⟨_, rfl, ?_⟩)
    exact ⟨hJ, hF, by decide, (Or.inr ⟨rfl, by first | decide | omega, by first | decide | omega, by first | decide | omega⟩), rfl⟩
  have q10 : ¬ (a1 < (h (h 0 8) 7)) := q10
  have e27 : tv h 0 = (h (h 0 8) 7) := (congrArg (fun z => svq h z 0) rfl).trans rfl
  refine x_thr (np := 18) (x := 2) (by decide +kernel) (by decide +kernel) (Nat.le_trans x_wn (by decide)) (Or.inr ⟨_, rfl, ?_⟩)
  refine Or.inr ⟨_, rfl, ?_⟩
  exact ⟨hJ, hF, by decide, (Or.inl ⟨rfl, by first | decide | omega⟩), rfl⟩
set_option maxHeartbeats 0 in
/-- LentNamesLaw.purse(LLentNames;II[J)I -/
theorem c297_0_97 {sc : Nat × Nat} {d a1 a2 : Nat} {h : xh} (hJ : J h) (ba1 : 0 ≤ a1 ∧ a1 ≤ 4294967295) (ba2 : 0 ≤ a2 ∧ a2 ≤ 4294967295) : X sc 297 (d + 2) (xI fun r h' => J h' ∧ Fr 1196268651020288 h h' ∧ (2147483648 ≤ r ∧ r ≤ 2147483650) ∧ Uc h h' a1 a2 r) 0 0 0 [x_r 0, iv_c a1, iv_c a2, x_r 97, 147573952589676412928] [] h := by
  have la1 : a1 < 4294967296 := by first | decide | omega
  have la2 : a2 < 4294967296 := by first | decide | omega
  have hF := Fr.refl 1196268651020288 h
  refine x_aload (np := 1) (x := 3) (by decide +kernel) rfl (x_nc_le (by decide)) ?_
  refine x_const (np := 2) (x := 9223372039002259456) (a := 2147483648) (by decide +kernel) (by decide) (by decide) ?_
  refine x_aload (np := 3) (x := 0) (by decide +kernel) rfl (x_nc_le (by decide)) ?_
  refine x_iload (np := 4) (x := 1) (by decide +kernel) rfl la1 ?_
  refine x_iload (np := 5) (x := 2) (by decide +kernel) rfl la2 ?_
  refine x_cT (t := 6) (mj := 130) (n := 3) (rc := 11) (ml := 4) (cc := 2) (ss := 12) (nr := 2) (np := 8) (as := [x_r 0, iv_c a1, iv_c a2]) (rest := [iv_c 2147483648, x_r 97]) (lo1 := [x_r 0, iv_c a1, iv_c a2, 147573952589676412928]) (by decide +kernel) (by decide) (by decide +kernel) (x_rb_of (by decide +kernel)) rfl rfl (x_wr (by decide) (x_wi la1 (x_wi la2 x_wn))) (x_wi (by decide) (x_wr (by decide) x_wn)) (by decide) rfl (c130_0 hJ  (by first | decide | omega) (by first | decide | omega)) (fun v4 h7 l5 q6 => ?_) (fun E9 h10 q8 => ?_)
  · obtain ⟨j11, f12, b13, c1⟩ := q6
    have f14 := Fr.trans hF f12 (by decide)
    refine x_i2l (np := 9) (x := 0) (by decide +kernel) l5 ?_
    refine x_last (np := 10) (x := 0) (n := 1) (i := 0) (by decide +kernel) (by decide) (by decide +kernel) (by decide +kernel) (by first | decide | omega) (by first | decide | omega) (by decide) l5 ?_
    have j16 := jU (e := 0) (v := v4) 0 j11 rg_97_0_1_1 (by first | decide | omega) (by first | decide | omega) (by first | decide | omega)
    have f18 := jF (e := 0) (v := v4) 0 f14 rg_97_0_1_1 (by first | decide | omega) (by first | decide | omega) (by decide)
    generalize e17 : x_up h7 97 0 v4 = h15 at j16 f18 ⊢
    refine x_goto (np := 13) (x := 21) (by decide +kernel) ?_
    refine x_const (np := 22) (x := 9223372039002259456) (a := 2147483648) (by decide +kernel) (by decide) (by decide) ?_
    have t27 : tw (h 0 8) := hJ.2.1
    obtain ⟨z19, z20, z21, z22, z23, z24, z25, z26⟩ := c1
    refine x_retI (np := 23) (x := 0) (by decide +kernel) (by decide) (Or.inl (by decide +kernel)) ⟨_, rfl, (by decide), ?_⟩
    exact ⟨j16, f18, (by first | decide | omega), (Or.inl ⟨by first | decide | omega, z19, z20, z21, z22, z23, z24, Sc.purse t27 z21 (by rw [← e17, z25, z26])⟩)⟩
  obtain ⟨j28, f29, e30, c2, c3⟩ := q8
  have f31 := Fr.trans hF f29 (by decide)
  rcases e30 with rfl | rfl
  · refine ⟨17, fun _ _ => rfl, ?_⟩
    refine x_astE (np := 19) (x := 4) (lo' := [x_r 0, iv_c a1, iv_c a2, x_r 97, 55340232221128654850]) (by decide +kernel) (Nat.le_of_ble_eq_true rfl) rfl ?_
    refine x_const (np := 20) (x := 9223372047592194050) (a := 2147483650) (by decide +kernel) (by decide) (by decide) ?_
    refine x_retI (np := 21) (x := 0) (by decide +kernel) (by decide) (Or.inl (by decide +kernel)) ⟨_, rfl, (by decide), ?_⟩
    exact ⟨j28, f31, (by first | decide | omega), (Or.inr (Or.inr ⟨by first | decide | omega, c2.elim (fun z => absurd z.1 (by decide)) (fun z => z.2), c3⟩))⟩
  · refine ⟨13, fun _ _ => rfl, ?_⟩
    refine x_astE (np := 15) (x := 4) (lo' := [x_r 0, iv_c a1, iv_c a2, x_r 97, 55340232221128654850]) (by decide +kernel) (Nat.le_of_ble_eq_true rfl) rfl ?_
    refine x_const (np := 16) (x := 9223372043297226753) (a := 2147483649) (by decide +kernel) (by decide) (by decide) ?_
    refine x_retI (np := 17) (x := 0) (by decide +kernel) (by decide) (Or.inl (by decide +kernel)) ⟨_, rfl, (by decide), ?_⟩
    exact ⟨j28, f31, (by first | decide | omega), (Or.inr (Or.inl ⟨by first | decide | omega, c2.elim (fun z => z.2) (fun z => absurd z.1 (by decide)), c3⟩))⟩
set_option maxHeartbeats 0 in
/-- LentNames.left(I)I -/
theorem c131_0 {sc : Nat × Nat} {d a1 : Nat} {h : xh} (hJ : J h) (ba1 : 0 ≤ a1 ∧ a1 ≤ 4294967295) : X sc 131 (d + 4) (xT (fun r h' => J h' ∧ Fr 8193 h h' ∧ (0 ≤ r ∧ r ≤ 4294967295)) (fun E h' => J h' ∧ Fr 8193 h h' ∧ (E = 2))) 0 0 0 [x_r 0, iv_c a1] [] h := by
  have la1 : a1 < 4294967296 := by first | decide | omega
  have hF := Fr.refl 8193 h
  refine x_aload (np := 1) (x := 0) (by decide +kernel) rfl (x_nc_le (by decide)) ?_
  refine x_iload (np := 2) (x := 1) (by decide +kernel) rfl la1 ?_
  refine x_nU (t := 6) (mj := 145) (n := 2) (rc := 11) (ml := 2) (cc := 1) (ss := 6) (nr := 0) (np := 5) (as := [x_r 0, iv_c a1]) (rest := []) (lo1 := [x_r 0, iv_c a1]) (by decide +kernel) (by decide) (by decide +kernel) (by decide +kernel) (x_rb_of (by decide +kernel)) rfl rfl (x_wr (by decide) (x_wi la1 x_wn)) x_wn (by decide) rfl ?_
  refine x_iload (np := 1) (x := 1) (by decide +kernel) rfl la1 ?_
  refine x_ifz (k := 2) (tg := 15) (np := 4) (by decide +kernel) (by decide) la1 (fun q1 => ?_) (fun q2 => ?_)
  · have q1 : a1 < 2147483648 := q1
    refine x_thr (np := 18) (x := 2) (by decide +kernel) (by decide +kernel) (Nat.le_trans x_wn (by decide)) (Or.inr ⟨_, rfl, ?_⟩)
    refine Or.inr ⟨_, rfl, ?_⟩
    exact ⟨hJ, hF, by decide⟩
  have q2 : ¬ (a1 < 2147483648) := q2
  refine x_iload (np := 5) (x := 1) (by decide +kernel) rfl la1 ?_
  refine x_aload (np := 6) (x := 0) (by decide +kernel) rfl (x_nc_le (by decide)) ?_
  have t3 : tw (h 0 8) := hJ.2.1
  refine x_getR (np := 9) (x := 648) (f := 8) (q := (h 0 8)) (by decide +kernel) (by decide) (by decide +kernel) rfl ?_
  have b4 := jB (e := 7) 0 hJ (rg_T0_7_0_1 t3) (by first | decide | omega) (by first | decide | omega)
  refine x_getC (np := 12) (x := 519) (f := 7) (q := (h (h 0 8) 7)) (by decide +kernel) (by decide) (tg_0_519_7_0 t3) rfl (fun l5 => ?_)
  refine x_icmp (k := 2) (tg := 26) (np := 15) (by decide +kernel) (by decide) la1 l5 (fun q6 => ?_) (fun q7 => ?_)
  · have q6 : a1 < (h (h 0 8) 7) := q6
    refine x_retV (np := 27) (x := 0) (by decide +kernel) (by decide +kernel) (Or.inl ⟨rfl, ?_⟩)
    refine x_aload (np := 6) (x := 0) (by decide +kernel) rfl (x_nc_le (by decide)) ?_
    have q8 : h 0 2 = 59 := by have z := jB (e := 2) 0 hJ rg_0_2_0_1 (by decide) (by decide); omega
    refine x_getR (np := 9) (x := 642) (f := 2) (q := 59) (by decide +kernel) (by decide) (by decide +kernel) q8 ?_
    refine x_aload (np := 10) (x := 0) (by decide +kernel) rfl (x_nc_le (by decide)) ?_
    refine x_getR (np := 13) (x := 648) (f := 8) (q := (h 0 8)) (by decide +kernel) (by decide) (by decide +kernel) rfl ?_
    refine x_aload (np := 14) (x := 0) (by decide +kernel) rfl (x_nc_le (by decide)) ?_
    have q9 : h 0 1 = 45 := by have z := jB (e := 1) 0 hJ rg_0_1_0_1 (by decide) (by decide); omega
    refine x_getR (np := 17) (x := 641) (f := 1) (q := 45) (by decide +kernel) (by decide) (by decide +kernel) q9 ?_
    refine x_cV (t := 6) (mj := 1) (n := 3) (rc := 1) (ml := 5) (nr := 0) (np := 20) (as := [x_r 59, x_r (h 0 8), x_r 45]) (rest := []) (lo1 := [x_r 59, x_r (h 0 8), x_r 45, 147573952589676412928, 147573952589676412928]) (by decide +kernel) (by decide) (by decide +kernel) (x_rb_of (by decide +kernel)) rfl rfl (x_wr (by decide) (x_wr (tn_0 t3) (x_wr (by decide) x_wn))) x_wn (by decide) rfl (c1_59_T0_45 hJ  t3 ) (fun h13 q12 => ?_)
    obtain ⟨j14, f15⟩ := q12
    have f18 := Fr.trans hF f15 (by decide)
    refine x_aload (np := 21) (x := 0) (by decide +kernel) rfl (x_nc_le (by decide)) ?_
    have q19 : h13 0 2 = 59 := by have z := jB (e := 2) 0 j14 rg_0_2_0_1 (by decide) (by decide); omega
    refine x_getR (np := 24) (x := 642) (f := 2) (q := 59) (by decide +kernel) (by decide) (by decide +kernel) q19 ?_
    have q20 : h13 59 0 = 60 := by have z := jB (e := 0) 0 j14 rg_59_0_0_1 (by decide) (by decide); omega
    refine x_getR (np := 27) (x := 0) (f := 0) (q := 60) (by decide +kernel) (by decide) (by decide +kernel) q20 ?_
    refine x_iload (np := 28) (x := 1) (by decide +kernel) rfl la1 ?_
    obtain ⟨u21, q22⟩ : ∃ z, a1 = 2147483648 + z := ⟨a1 - 2147483648, by first | decide | omega⟩
    refine x_aldC (np := 29) (x := 0) (n := 6) (i := u21) (q := (h13 60 u21)) (by decide +kernel) (by decide +kernel) (by first | decide | omega) (by first | decide | omega) (by decide) rfl (fun l23 => ?_)
    refine x_retI (np := 30) (x := 0) (by decide +kernel) l23 (Or.inl (by decide +kernel)) (Or.inl ⟨_, rfl, l23, ?_⟩)
    exact ⟨j14, f18, (by first | decide | omega)⟩
  have q7 : ¬ (a1 < (h (h 0 8) 7)) := q7
  refine x_thr (np := 18) (x := 2) (by decide +kernel) (by decide +kernel) (Nat.le_trans x_wn (by decide)) (Or.inr ⟨_, rfl, ?_⟩)
  refine Or.inr ⟨_, rfl, ?_⟩
  exact ⟨hJ, hF, by decide⟩
set_option maxHeartbeats 0 in
/-- LentNamesLaw.left(LLentNames;I[J)I -/
theorem c298_0_97 {sc : Nat × Nat} {d a1 : Nat} {h : xh} (hJ : J h) (ba1 : 0 ≤ a1 ∧ a1 ≤ 4294967295) : X sc 298 (d + 5) (xI fun r h' => J h' ∧ Fr 70368744185857 h h' ∧ (2147483648 ≤ r ∧ r ≤ 2147483649)) 0 0 0 [x_r 0, iv_c a1, x_r 97, 147573952589676412928] [] h := by
  have la1 : a1 < 4294967296 := by first | decide | omega
  have hF := Fr.refl 70368744185857 h
  refine x_aload (np := 1) (x := 2) (by decide +kernel) rfl (x_nc_le (by decide)) ?_
  refine x_const (np := 2) (x := 9223372039002259456) (a := 2147483648) (by decide +kernel) (by decide) (by decide) ?_
  refine x_aload (np := 3) (x := 0) (by decide +kernel) rfl (x_nc_le (by decide)) ?_
  refine x_iload (np := 4) (x := 1) (by decide +kernel) rfl la1 ?_
  refine x_cT (t := 6) (mj := 131) (n := 2) (rc := 11) (ml := 2) (cc := 1) (ss := 6) (nr := 2) (np := 7) (as := [x_r 0, iv_c a1]) (rest := [iv_c 2147483648, x_r 97]) (lo1 := [x_r 0, iv_c a1]) (by decide +kernel) (by decide) (by decide +kernel) (x_rb_of (by decide +kernel)) rfl rfl (x_wr (by decide) (x_wi la1 x_wn)) (x_wi (by decide) (x_wr (by decide) x_wn)) (by decide) rfl (c131_0 hJ  (by first | decide | omega)) (fun v1 h4 l2 q3 => ?_) (fun E6 h7 q5 => ?_)
  · obtain ⟨j8, f9, b10⟩ := q3
    have f11 := Fr.trans hF f9 (by decide)
    refine x_i2l (np := 8) (x := 0) (by decide +kernel) l2 ?_
    refine x_last (np := 9) (x := 0) (n := 1) (i := 0) (by decide +kernel) (by decide) (by decide +kernel) (by decide +kernel) (by first | decide | omega) (by first | decide | omega) (by decide) l2 ?_
    have j13 := jU (e := 0) (v := v1) 0 j8 rg_97_0_1_1 (by first | decide | omega) (by first | decide | omega) (by first | decide | omega)
    have f15 := jF (e := 0) (v := v1) 0 f11 rg_97_0_1_1 (by first | decide | omega) (by first | decide | omega) (by decide)
    generalize e14 : x_up h4 97 0 v1 = h12 at j13 f15 ⊢
    refine x_goto (np := 12) (x := 15) (by decide +kernel) ?_
    refine x_const (np := 16) (x := 9223372039002259456) (a := 2147483648) (by decide +kernel) (by decide) (by decide) ?_
    refine x_retI (np := 17) (x := 0) (by decide +kernel) (by decide) (Or.inl (by decide +kernel)) ⟨_, rfl, (by decide), ?_⟩
    exact ⟨j13, f15, (by first | decide | omega)⟩
  obtain ⟨j16, f17, e18⟩ := q5
  have f19 := Fr.trans hF f17 (by decide)
  rcases e18 with rfl
  · refine ⟨12, fun _ _ => rfl, ?_⟩
    refine x_astE (np := 13) (x := 3) (lo' := [x_r 0, iv_c a1, x_r 97, 55340232221128654850]) (by decide +kernel) (Nat.le_of_ble_eq_true rfl) rfl ?_
    refine x_const (np := 14) (x := 9223372043297226753) (a := 2147483649) (by decide +kernel) (by decide) (by decide) ?_
    refine x_retI (np := 15) (x := 0) (by decide +kernel) (by decide) (Or.inl (by decide +kernel)) ⟨_, rfl, (by decide), ?_⟩
    exact ⟨j16, f19, (by first | decide | omega)⟩
set_option maxHeartbeats 0 in
/-- LentNames.meets(I)I -/
theorem c133_0 {sc : Nat × Nat} {d a1 : Nat} {h : xh} (hJ : J h) (ba1 : 0 ≤ a1 ∧ a1 ≤ 4294967295) : X sc 133 (d + 4) (xT (fun r h' => J h' ∧ Fr 8193 h h' ∧ (2147483647 ≤ r ∧ r ≤ 2147483653)) (fun E h' => J h' ∧ Fr 8193 h h' ∧ (E = 2))) 0 0 0 [x_r 0, iv_c a1, 147573952589676412928, 147573952589676412928, 147573952589676412928, 147573952589676412928, 147573952589676412928] [] h := by
  have la1 : a1 < 4294967296 := by first | decide | omega
  have hF := Fr.refl 8193 h
  refine x_aload (np := 1) (x := 0) (by decide +kernel) rfl (x_nc_le (by decide)) ?_
  have t1 : tw (h 0 8) := hJ.2.1
  refine x_getR (np := 4) (x := 648) (f := 8) (q := (h 0 8)) (by decide +kernel) (by decide) (by decide +kernel) rfl ?_
  have q2 : h (h 0 8) 2 = ((h 0 8) + 5) := tf_0_2 hJ t1
  refine x_getR (np := 7) (x := 514) (f := 2) (q := ((h 0 8) + 5)) (by decide +kernel) (by decide) (tg_0_514_2_1 t1) q2 ?_
  refine x_iload (np := 8) (x := 1) (by decide +kernel) rfl la1 ?_
  refine x_nU (t := 0) (mj := 147) (n := 2) (rc := 0) (ml := 2) (cc := 1) (ss := 6) (nr := 0) (np := 11) (as := [x_r ((h 0 8) + 5), iv_c a1]) (rest := []) (lo1 := [x_r ((h 0 8) + 5), iv_c a1]) (by decide +kernel) (by decide) (by decide +kernel) (by decide +kernel) (Or.inl rfl) rfl rfl (x_wr (tn_5 t1) (x_wi la1 x_wn)) x_wn (by decide) rfl ?_
  refine x_iload (np := 1) (x := 1) (by decide +kernel) rfl la1 ?_
  refine x_ifz (k := 2) (tg := 12) (np := 4) (by decide +kernel) (by decide) la1 (fun q3 => ?_) (fun q4 => ?_)
  · have q3 : a1 < 2147483648 := q3
    refine x_thr (np := 15) (x := 2) (by decide +kernel) (by decide +kernel) (Nat.le_trans x_wn (by decide)) (Or.inr ⟨_, rfl, ?_⟩)
    refine Or.inr ⟨_, rfl, ?_⟩
    exact ⟨hJ, hF, by decide⟩
  have q4 : ¬ (a1 < 2147483648) := q4
  refine x_iload (np := 5) (x := 1) (by decide +kernel) rfl la1 ?_
  refine x_aload (np := 6) (x := 0) (by decide +kernel) rfl (x_nc_le (tn_5 t1)) ?_
  have b5 := jB (e := 2) 0 hJ (rg_T5_2_0_1 t1) (by first | decide | omega) (by first | decide | omega)
  refine x_getC (np := 9) (x := 386) (f := 2) (q := (h ((h 0 8) + 5) 2)) (by decide +kernel) (by decide) (tg_5_386_2_0 t1) rfl (fun l6 => ?_)
  refine x_icmp (k := 2) (tg := 23) (np := 12) (by decide +kernel) (by decide) la1 l6 (fun q7 => ?_) (fun q8 => ?_)
  · have q7 : a1 < (h ((h 0 8) + 5) 2) := q7
    refine x_retV (np := 24) (x := 0) (by decide +kernel) (by decide +kernel) (Or.inl ⟨rfl, ?_⟩)
    refine x_aload (np := 12) (x := 0) (by decide +kernel) rfl (x_nc_le (by decide)) ?_
    have q9 : h 0 2 = 59 := by have z := jB (e := 2) 0 hJ rg_0_2_0_1 (by decide) (by decide); omega
    refine x_getR (np := 15) (x := 642) (f := 2) (q := 59) (by decide +kernel) (by decide) (by decide +kernel) q9 ?_
    refine x_aload (np := 16) (x := 0) (by decide +kernel) rfl (x_nc_le (by decide)) ?_
    refine x_getR (np := 19) (x := 648) (f := 8) (q := (h 0 8)) (by decide +kernel) (by decide) (by decide +kernel) rfl ?_
    refine x_aload (np := 20) (x := 0) (by decide +kernel) rfl (x_nc_le (by decide)) ?_
    have q10 : h 0 1 = 45 := by have z := jB (e := 1) 0 hJ rg_0_1_0_1 (by decide) (by decide); omega
    refine x_getR (np := 23) (x := 641) (f := 1) (q := 45) (by decide +kernel) (by decide) (by decide +kernel) q10 ?_
    refine x_cV (t := 6) (mj := 1) (n := 3) (rc := 1) (ml := 5) (nr := 0) (np := 26) (as := [x_r 59, x_r (h 0 8), x_r 45]) (rest := []) (lo1 := [x_r 59, x_r (h 0 8), x_r 45, 147573952589676412928, 147573952589676412928]) (by decide +kernel) (by decide) (by decide +kernel) (x_rb_of (by decide +kernel)) rfl rfl (x_wr (by decide) (x_wr (tn_0 t1) (x_wr (by decide) x_wn))) x_wn (by decide) rfl (c1_59_T0_45 hJ  t1 ) (fun h14 q13 => ?_)
    obtain ⟨j15, f16⟩ := q13
    have f19 := Fr.trans hF f16 (by decide)
    refine x_aload (np := 27) (x := 0) (by decide +kernel) rfl (x_nc_le (by decide)) ?_
    have q20 : h14 0 2 = 59 := by have z := jB (e := 2) 0 j15 rg_0_2_0_1 (by decide) (by decide); omega
    refine x_getR (np := 30) (x := 642) (f := 2) (q := 59) (by decide +kernel) (by decide) (by decide +kernel) q20 ?_
    refine x_getC (np := 33) (x := 1) (f := 1) (q := (h14 59 1)) (by decide +kernel) (by decide) (by decide +kernel) rfl (fun l21 => ?_)
    refine x_iload (np := 34) (x := 1) (by decide +kernel) rfl la1 ?_
    refine x_cP (t := 0) (mj := 148) (n := 2) (rc := 0) (ml := 2) (nr := 0) (np := 37) (as := [iv_c (h14 59 1), iv_c a1]) (rest := []) (lo1 := [iv_c (h14 59 1), iv_c a1]) (by decide +kernel) (by decide) (by decide +kernel) (Or.inl rfl) rfl rfl (x_wi l21 (x_wi la1 x_wn)) x_wn (by decide) rfl (c148 j15 (by first | decide | omega) (by first | decide | omega)) (fun v22 l23 q24 => ?_)
    obtain ⟨b26, c25⟩ := q24
    refine x_ifz (k := 0) (tg := 56) (np := 40) (by decide +kernel) (by decide) l23 (fun q27 => ?_) (fun q28 => ?_)
    · have q27 : v22 = 2147483648 := q27
      refine x_const (np := 57) (x := 9223372034707292159) (a := 2147483647) (by decide +kernel) (by decide) (by decide) ?_
      refine x_retI (np := 58) (x := 0) (by decide +kernel) (by decide) (Or.inl (by decide +kernel)) (Or.inl ⟨_, rfl, (by decide), ?_⟩)
      exact ⟨j15, f19, (by first | decide | omega)⟩
    have q28 : ¬ (v22 = 2147483648) := q28
    refine x_aload (np := 41) (x := 0) (by decide +kernel) rfl (x_nc_le (by decide)) ?_
    have q29 : h14 0 8 = h 0 8 := f16 0 8 (by decide +kernel)
    refine x_getR (np := 44) (x := 648) (f := 8) (q := (h 0 8)) (by decide +kernel) (by decide) (by decide +kernel) q29 ?_
    have q30 : h14 (h 0 8) 2 = ((h 0 8) + 5) := tf_0_2 j15 t1
    refine x_getR (np := 47) (x := 514) (f := 2) (q := ((h 0 8) + 5)) (by decide +kernel) (by decide) (tg_0_514_2_1 t1) q30 ?_
    refine x_iload (np := 48) (x := 1) (by decide +kernel) rfl la1 ?_
    refine x_const (np := 49) (x := 9223372039002259456) (a := 2147483648) (by decide +kernel) (by decide) (by decide) ?_
    refine x_nI (t := 6) (mj := 68) (n := 3) (rc := 7) (ml := 4) (nr := 0) (np := 52) (as := [x_r ((h 0 8) + 5), iv_c a1, iv_c 2147483648]) (rest := []) (lo1 := [x_r ((h 0 8) + 5), iv_c a1, iv_c 2147483648, 147573952589676412928]) (by decide +kernel) (by decide) (by decide +kernel) (x_rb_of (tr_5_7 t1)) rfl rfl (x_wr (tn_5 t1) (x_wi la1 (x_wi (by decide) x_wn))) x_wn (by decide) rfl ?_
    refine x_iload (np := 1) (x := 1) (by decide +kernel) rfl la1 ?_
    refine x_ifz (k := 2) (tg := 28) (np := 4) (by decide +kernel) (by decide) la1 (fun q32 => ?_) (fun q33 => ?_)
    · have q32 : a1 < 2147483648 := q32
      exfalso; omega
    have q33 : ¬ (a1 < 2147483648) := q33
    refine x_iload (np := 5) (x := 1) (by decide +kernel) rfl la1 ?_
    refine x_aload (np := 6) (x := 0) (by decide +kernel) rfl (x_nc_le (tn_5 t1)) ?_
    have q34 : h14 ((h 0 8) + 5) 2 = h ((h 0 8) + 5) 2 := jK 0 f16 (rg_T5_2_0_1 t1) (by first | decide | omega) (by first | decide | omega) (by decide)
    refine x_getC (np := 9) (x := 386) (f := 2) (q := (h ((h 0 8) + 5) 2)) (by decide +kernel) (by decide) (tg_5_386_2_0 t1) q34 (fun l35 => ?_)
    refine x_icmp (k := 3) (tg := 28) (np := 12) (by decide +kernel) (by decide) la1 l6 (fun q36 => ?_) (fun q37 => ?_)
    · have q36 : (h ((h 0 8) + 5) 2) ≤ a1 := q36
      exfalso; omega
    have q37 : ¬ ((h ((h 0 8) + 5) 2) ≤ a1) := q37
    refine x_iload (np := 13) (x := 2) (by decide +kernel) rfl (by decide) ?_
    refine x_ifz (k := 2) (tg := 28) (np := 16) (by decide +kernel) (by decide) (by decide) (fun q38 => ?_) (fun q39 => ?_)
    · have q38 : 2147483648 < 2147483648 := q38
      exfalso; omega
    have q39 : ¬ (2147483648 < 2147483648) := q39
    refine x_iload (np := 17) (x := 2) (by decide +kernel) rfl (by decide) ?_
    refine x_aload (np := 18) (x := 0) (by decide +kernel) rfl (x_nc_le (tn_5 t1)) ?_
    have q40 : h14 ((h 0 8) + 5) 0 = h ((h 0 8) + 5) 0 := jK 0 f16 (rg_T5_0_0_1 t1) (by first | decide | omega) (by first | decide | omega) (by decide)
    have b41 := jB (e := 0) 0 hJ (rg_T5_0_0_1 t1) (by first | decide | omega) (by first | decide | omega)
    have q42 : (h ((h 0 8) + 5) 0) = 2147483652 := by first | decide | omega
    refine x_getC (np := 21) (x := 384) (f := 0) (q := 2147483652) (by decide +kernel) (by decide) (tg_5_384_0_0 t1) (q40.trans q42) (fun l43 => ?_)
    refine x_icmp (k := 3) (tg := 28) (np := 24) (by decide +kernel) (by decide) (by decide) (by decide) (fun q44 => ?_) (fun q45 => ?_)
    · have q44 : 2147483652 ≤ 2147483648 := q44
      exfalso; omega
    have q45 : ¬ (2147483652 ≤ 2147483648) := q45
    refine x_const (np := 25) (x := 9223372043297226753) (a := 2147483649) (by decide +kernel) (by decide) (by decide) ?_
    refine x_goto (np := 28) (x := 29) (by decide +kernel) ?_
    refine x_istore (np := 30) (x := 3) (lo' := [x_r ((h 0 8) + 5), iv_c a1, iv_c 2147483648, iv_c 2147483649]) (by decide +kernel) (by decide) (Nat.le_of_ble_eq_true rfl) rfl ?_
    refine x_iload (np := 31) (x := 3) (by decide +kernel) rfl (by decide) ?_
    refine x_ifz (k := 0) (tg := 50) (np := 34) (by decide +kernel) (by decide) (by decide) (fun q46 => ?_) (fun q47 => ?_)
    · have q46 : 2147483649 = 2147483648 := q46
      exfalso; omega
    have q47 : ¬ (2147483649 = 2147483648) := q47
    refine x_aload (np := 35) (x := 0) (by decide +kernel) rfl (x_nc_le (tn_5 t1)) ?_
    have q48 : h14 ((h 0 8) + 5) 1 = ((h 0 8) + 6) := tf_5_1 j15 t1
    refine x_getR (np := 38) (x := 385) (f := 1) (q := ((h 0 8) + 6)) (by decide +kernel) (by decide) (tg_5_385_1_1 t1) q48 ?_
    refine x_iload (np := 39) (x := 1) (by decide +kernel) rfl la1 ?_
    refine x_aload (np := 40) (x := 0) (by decide +kernel) rfl (x_nc_le (tn_5 t1)) ?_
    have q49 : h14 ((h 0 8) + 5) 0 = h ((h 0 8) + 5) 0 := jK 0 f16 (rg_T5_0_0_1 t1) (by first | decide | omega) (by first | decide | omega) (by decide)
    refine x_getC (np := 43) (x := 384) (f := 0) (q := 2147483652) (by decide +kernel) (by decide) (tg_5_384_0_0 t1) (q49.trans q42) (fun l50 => ?_)
    obtain ⟨u51, q52⟩ : ∃ z, a1 = 2147483648 + z := ⟨a1 - 2147483648, by first | decide | omega⟩
    refine x_imul (np := 44) (x := 0) (i := u51) (j := 4) (v := (2147483648 + 4 * u51)) (by decide +kernel) (by first | decide | omega) (by first | decide | omega) (by first | decide | omega) (by first | decide | omega) la1 (by decide) ?_
    refine x_iload (np := 45) (x := 2) (by decide +kernel) rfl (by decide) ?_
    refine x_iadd (np := 46) (x := 0) (v := (2147483648 + 4 * u51)) (by decide +kernel) (by first | decide | omega) (by decide) (by first | decide | omega) (by first | decide | omega) ?_
    have q54 : h14 ((h 0 8) + 6) (4 * u51) = h ((h 0 8) + 6) (4 * u51) := jK (4 * u51) f16 (rg_T6_0_1_40 t1) (by first | decide | omega) (by first | decide | omega) (by decide)
    refine x_aldC (np := 47) (x := 0) (n := 40) (i := (4 * u51)) (q := ((h ((h 0 8) + 6) (4 * u51)))) (by decide +kernel) (ta_6_40 t1) (by first | decide | omega) (by first | decide | omega) (by decide) q54 (fun l55 => ?_)
    refine x_goto (np := 50) (x := 51) (by decide +kernel) ?_
    refine x_retI (np := 52) (x := 0) (by decide +kernel) l55 (Or.inl (by decide +kernel)) ⟨_, rfl, l55, ?_⟩
    refine x_const (np := 53) (x := 9223372043297226753) (a := 2147483649) (by decide +kernel) (by decide) (by decide) ?_
    refine x_icmp (k := 1) (tg := 58) (np := 56) (by decide +kernel) (by decide) l55 (by decide) (fun q56 => ?_) (fun q57 => ?_)
    · have q56 : ((h ((h 0 8) + 6) (4 * u51))) ≠ 2147483649 := q56
      refine x_aload (np := 59) (x := 0) (by decide +kernel) rfl (x_nc_le (by decide)) ?_
      have q58 : h14 0 8 = h 0 8 := f16 0 8 (by decide +kernel)
      refine x_getR (np := 62) (x := 648) (f := 8) (q := (h 0 8)) (by decide +kernel) (by decide) (by decide +kernel) q58 ?_
      have q59 : h14 (h 0 8) 2 = ((h 0 8) + 5) := tf_0_2 j15 t1
      refine x_getR (np := 65) (x := 514) (f := 2) (q := ((h 0 8) + 5)) (by decide +kernel) (by decide) (tg_0_514_2_1 t1) q59 ?_
      refine x_iload (np := 66) (x := 1) (by decide +kernel) rfl la1 ?_
      refine x_const (np := 67) (x := 9223372043297226753) (a := 2147483649) (by decide +kernel) (by decide) (by decide) ?_
      refine x_nI (t := 6) (mj := 68) (n := 3) (rc := 7) (ml := 4) (nr := 0) (np := 70) (as := [x_r ((h 0 8) + 5), iv_c a1, iv_c 2147483649]) (rest := []) (lo1 := [x_r ((h 0 8) + 5), iv_c a1, iv_c 2147483649, 147573952589676412928]) (by decide +kernel) (by decide) (by decide +kernel) (x_rb_of (tr_5_7 t1)) rfl rfl (x_wr (tn_5 t1) (x_wi la1 (x_wi (by decide) x_wn))) x_wn (by decide) rfl ?_
      refine x_iload (np := 1) (x := 1) (by decide +kernel) rfl la1 ?_
      refine x_ifz (k := 2) (tg := 28) (np := 4) (by decide +kernel) (by decide) la1 (fun q61 => ?_) (fun q62 => ?_)
      · have q61 : a1 < 2147483648 := q61
        exfalso; omega
      have q62 : ¬ (a1 < 2147483648) := q62
      refine x_iload (np := 5) (x := 1) (by decide +kernel) rfl la1 ?_
      refine x_aload (np := 6) (x := 0) (by decide +kernel) rfl (x_nc_le (tn_5 t1)) ?_
      have q63 : h14 ((h 0 8) + 5) 2 = h ((h 0 8) + 5) 2 := jK 0 f16 (rg_T5_2_0_1 t1) (by first | decide | omega) (by first | decide | omega) (by decide)
      refine x_getC (np := 9) (x := 386) (f := 2) (q := (h ((h 0 8) + 5) 2)) (by decide +kernel) (by decide) (tg_5_386_2_0 t1) q63 (fun l64 => ?_)
      refine x_icmp (k := 3) (tg := 28) (np := 12) (by decide +kernel) (by decide) la1 l6 (fun q65 => ?_) (fun q66 => ?_)
      · have q65 : (h ((h 0 8) + 5) 2) ≤ a1 := q65
        exfalso; omega
      have q66 : ¬ ((h ((h 0 8) + 5) 2) ≤ a1) := q66
      refine x_iload (np := 13) (x := 2) (by decide +kernel) rfl (by decide) ?_
      refine x_ifz (k := 2) (tg := 28) (np := 16) (by decide +kernel) (by decide) (by decide) (fun q67 => ?_) (fun q68 => ?_)
      · have q67 : 2147483649 < 2147483648 := q67
        exfalso; omega
      have q68 : ¬ (2147483649 < 2147483648) := q68
      refine x_iload (np := 17) (x := 2) (by decide +kernel) rfl (by decide) ?_
      refine x_aload (np := 18) (x := 0) (by decide +kernel) rfl (x_nc_le (tn_5 t1)) ?_
      have q69 : h14 ((h 0 8) + 5) 0 = h ((h 0 8) + 5) 0 := jK 0 f16 (rg_T5_0_0_1 t1) (by first | decide | omega) (by first | decide | omega) (by decide)
      refine x_getC (np := 21) (x := 384) (f := 0) (q := 2147483652) (by decide +kernel) (by decide) (tg_5_384_0_0 t1) (q69.trans q42) (fun l70 => ?_)
      refine x_icmp (k := 3) (tg := 28) (np := 24) (by decide +kernel) (by decide) (by decide) (by decide) (fun q71 => ?_) (fun q72 => ?_)
      · have q71 : 2147483652 ≤ 2147483649 := q71
        exfalso; omega
      have q72 : ¬ (2147483652 ≤ 2147483649) := q72
      refine x_const (np := 25) (x := 9223372043297226753) (a := 2147483649) (by decide +kernel) (by decide) (by decide) ?_
      refine x_goto (np := 28) (x := 29) (by decide +kernel) ?_
      refine x_istore (np := 30) (x := 3) (lo' := [x_r ((h 0 8) + 5), iv_c a1, iv_c 2147483649, iv_c 2147483649]) (by decide +kernel) (by decide) (Nat.le_of_ble_eq_true rfl) rfl ?_
      refine x_iload (np := 31) (x := 3) (by decide +kernel) rfl (by decide) ?_
      refine x_ifz (k := 0) (tg := 50) (np := 34) (by decide +kernel) (by decide) (by decide) (fun q73 => ?_) (fun q74 => ?_)
      · have q73 : 2147483649 = 2147483648 := q73
        exfalso; omega
      have q74 : ¬ (2147483649 = 2147483648) := q74
      refine x_aload (np := 35) (x := 0) (by decide +kernel) rfl (x_nc_le (tn_5 t1)) ?_
      have q75 : h14 ((h 0 8) + 5) 1 = ((h 0 8) + 6) := tf_5_1 j15 t1
      refine x_getR (np := 38) (x := 385) (f := 1) (q := ((h 0 8) + 6)) (by decide +kernel) (by decide) (tg_5_385_1_1 t1) q75 ?_
      refine x_iload (np := 39) (x := 1) (by decide +kernel) rfl la1 ?_
      refine x_aload (np := 40) (x := 0) (by decide +kernel) rfl (x_nc_le (tn_5 t1)) ?_
      have q76 : h14 ((h 0 8) + 5) 0 = h ((h 0 8) + 5) 0 := jK 0 f16 (rg_T5_0_0_1 t1) (by first | decide | omega) (by first | decide | omega) (by decide)
      refine x_getC (np := 43) (x := 384) (f := 0) (q := 2147483652) (by decide +kernel) (by decide) (tg_5_384_0_0 t1) (q76.trans q42) (fun l77 => ?_)
      refine x_imul (np := 44) (x := 0) (i := u51) (j := 4) (v := (2147483648 + 4 * u51)) (by decide +kernel) (by first | decide | omega) (by first | decide | omega) (by first | decide | omega) (by first | decide | omega) la1 (by decide) ?_
      refine x_iload (np := 45) (x := 2) (by decide +kernel) rfl (by decide) ?_
      refine x_iadd (np := 46) (x := 0) (v := (2147483649 + 4 * u51)) (by decide +kernel) (by first | decide | omega) (by decide) (by first | decide | omega) (by first | decide | omega) ?_
      have q79 : h14 ((h 0 8) + 6) (1 + 4 * u51) = h ((h 0 8) + 6) (1 + 4 * u51) := jK (1 + 4 * u51) f16 (rg_T6_0_1_40 t1) (by first | decide | omega) (by first | decide | omega) (by decide)
      refine x_aldC (np := 47) (x := 0) (n := 40) (i := (1 + 4 * u51)) (q := ((h ((h 0 8) + 6) (1 + 4 * u51)))) (by decide +kernel) (ta_6_40 t1) (by first | decide | omega) (by first | decide | omega) (by decide) q79 (fun l80 => ?_)
      refine x_goto (np := 50) (x := 51) (by decide +kernel) ?_
      refine x_retI (np := 52) (x := 0) (by decide +kernel) l80 (Or.inl (by decide +kernel)) ⟨_, rfl, l80, ?_⟩
      refine x_istore (np := 71) (x := 2) (lo' := [x_r 0, iv_c a1, iv_c ((h ((h 0 8) + 6) (1 + 4 * u51))), 147573952589676412928, 147573952589676412928, 147573952589676412928, 147573952589676412928]) (by decide +kernel) l80 (Nat.le_of_ble_eq_true rfl) rfl ?_
      refine x_aload (np := 72) (x := 0) (by decide +kernel) rfl (x_nc_le (by decide)) ?_
      have q81 : h14 0 8 = h 0 8 := f16 0 8 (by decide +kernel)
      refine x_getR (np := 75) (x := 648) (f := 8) (q := (h 0 8)) (by decide +kernel) (by decide) (by decide +kernel) q81 ?_
      have q82 : h14 (h 0 8) 2 = ((h 0 8) + 5) := tf_0_2 j15 t1
      refine x_getR (np := 78) (x := 514) (f := 2) (q := ((h 0 8) + 5)) (by decide +kernel) (by decide) (tg_0_514_2_1 t1) q82 ?_
      refine x_iload (np := 79) (x := 1) (by decide +kernel) rfl la1 ?_
      refine x_const (np := 80) (x := 9223372047592194050) (a := 2147483650) (by decide +kernel) (by decide) (by decide) ?_
      refine x_nI (t := 6) (mj := 68) (n := 3) (rc := 7) (ml := 4) (nr := 0) (np := 83) (as := [x_r ((h 0 8) + 5), iv_c a1, iv_c 2147483650]) (rest := []) (lo1 := [x_r ((h 0 8) + 5), iv_c a1, iv_c 2147483650, 147573952589676412928]) (by decide +kernel) (by decide) (by decide +kernel) (x_rb_of (tr_5_7 t1)) rfl rfl (x_wr (tn_5 t1) (x_wi la1 (x_wi (by decide) x_wn))) x_wn (by decide) rfl ?_
      refine x_iload (np := 1) (x := 1) (by decide +kernel) rfl la1 ?_
      refine x_ifz (k := 2) (tg := 28) (np := 4) (by decide +kernel) (by decide) la1 (fun q84 => ?_) (fun q85 => ?_)
      · have q84 : a1 < 2147483648 := q84
        exfalso; omega
      have q85 : ¬ (a1 < 2147483648) := q85
      refine x_iload (np := 5) (x := 1) (by decide +kernel) rfl la1 ?_
      refine x_aload (np := 6) (x := 0) (by decide +kernel) rfl (x_nc_le (tn_5 t1)) ?_
      have q86 : h14 ((h 0 8) + 5) 2 = h ((h 0 8) + 5) 2 := jK 0 f16 (rg_T5_2_0_1 t1) (by first | decide | omega) (by first | decide | omega) (by decide)
      refine x_getC (np := 9) (x := 386) (f := 2) (q := (h ((h 0 8) + 5) 2)) (by decide +kernel) (by decide) (tg_5_386_2_0 t1) q86 (fun l87 => ?_)
      refine x_icmp (k := 3) (tg := 28) (np := 12) (by decide +kernel) (by decide) la1 l6 (fun q88 => ?_) (fun q89 => ?_)
      · have q88 : (h ((h 0 8) + 5) 2) ≤ a1 := q88
        exfalso; omega
      have q89 : ¬ ((h ((h 0 8) + 5) 2) ≤ a1) := q89
      refine x_iload (np := 13) (x := 2) (by decide +kernel) rfl (by decide) ?_
      refine x_ifz (k := 2) (tg := 28) (np := 16) (by decide +kernel) (by decide) (by decide) (fun q90 => ?_) (fun q91 => ?_)
      · have q90 : 2147483650 < 2147483648 := q90
        exfalso; omega
      have q91 : ¬ (2147483650 < 2147483648) := q91
      refine x_iload (np := 17) (x := 2) (by decide +kernel) rfl (by decide) ?_
      refine x_aload (np := 18) (x := 0) (by decide +kernel) rfl (x_nc_le (tn_5 t1)) ?_
      have q92 : h14 ((h 0 8) + 5) 0 = h ((h 0 8) + 5) 0 := jK 0 f16 (rg_T5_0_0_1 t1) (by first | decide | omega) (by first | decide | omega) (by decide)
      refine x_getC (np := 21) (x := 384) (f := 0) (q := 2147483652) (by decide +kernel) (by decide) (tg_5_384_0_0 t1) (q92.trans q42) (fun l93 => ?_)
      refine x_icmp (k := 3) (tg := 28) (np := 24) (by decide +kernel) (by decide) (by decide) (by decide) (fun q94 => ?_) (fun q95 => ?_)
      · have q94 : 2147483652 ≤ 2147483650 := q94
        exfalso; omega
      have q95 : ¬ (2147483652 ≤ 2147483650) := q95
      refine x_const (np := 25) (x := 9223372043297226753) (a := 2147483649) (by decide +kernel) (by decide) (by decide) ?_
      refine x_goto (np := 28) (x := 29) (by decide +kernel) ?_
      refine x_istore (np := 30) (x := 3) (lo' := [x_r ((h 0 8) + 5), iv_c a1, iv_c 2147483650, iv_c 2147483649]) (by decide +kernel) (by decide) (Nat.le_of_ble_eq_true rfl) rfl ?_
      refine x_iload (np := 31) (x := 3) (by decide +kernel) rfl (by decide) ?_
      refine x_ifz (k := 0) (tg := 50) (np := 34) (by decide +kernel) (by decide) (by decide) (fun q96 => ?_) (fun q97 => ?_)
      · have q96 : 2147483649 = 2147483648 := q96
        exfalso; omega
      have q97 : ¬ (2147483649 = 2147483648) := q97
      refine x_aload (np := 35) (x := 0) (by decide +kernel) rfl (x_nc_le (tn_5 t1)) ?_
      have q98 : h14 ((h 0 8) + 5) 1 = ((h 0 8) + 6) := tf_5_1 j15 t1
      refine x_getR (np := 38) (x := 385) (f := 1) (q := ((h 0 8) + 6)) (by decide +kernel) (by decide) (tg_5_385_1_1 t1) q98 ?_
      refine x_iload (np := 39) (x := 1) (by decide +kernel) rfl la1 ?_
      refine x_aload (np := 40) (x := 0) (by decide +kernel) rfl (x_nc_le (tn_5 t1)) ?_
      have q99 : h14 ((h 0 8) + 5) 0 = h ((h 0 8) + 5) 0 := jK 0 f16 (rg_T5_0_0_1 t1) (by first | decide | omega) (by first | decide | omega) (by decide)
      refine x_getC (np := 43) (x := 384) (f := 0) (q := 2147483652) (by decide +kernel) (by decide) (tg_5_384_0_0 t1) (q99.trans q42) (fun l100 => ?_)
      refine x_imul (np := 44) (x := 0) (i := u51) (j := 4) (v := (2147483648 + 4 * u51)) (by decide +kernel) (by first | decide | omega) (by first | decide | omega) (by first | decide | omega) (by first | decide | omega) la1 (by decide) ?_
      refine x_iload (np := 45) (x := 2) (by decide +kernel) rfl (by decide) ?_
      refine x_iadd (np := 46) (x := 0) (v := (2147483650 + 4 * u51)) (by decide +kernel) (by first | decide | omega) (by decide) (by first | decide | omega) (by first | decide | omega) ?_
      have q102 : h14 ((h 0 8) + 6) (2 + 4 * u51) = h ((h 0 8) + 6) (2 + 4 * u51) := jK (2 + 4 * u51) f16 (rg_T6_0_1_40 t1) (by first | decide | omega) (by first | decide | omega) (by decide)
      refine x_aldC (np := 47) (x := 0) (n := 40) (i := (2 + 4 * u51)) (q := ((h ((h 0 8) + 6) (2 + 4 * u51)))) (by decide +kernel) (ta_6_40 t1) (by first | decide | omega) (by first | decide | omega) (by decide) q102 (fun l103 => ?_)
      refine x_goto (np := 50) (x := 51) (by decide +kernel) ?_
      refine x_retI (np := 52) (x := 0) (by decide +kernel) l103 (Or.inl (by decide +kernel)) ⟨_, rfl, l103, ?_⟩
      refine x_istore (np := 84) (x := 3) (lo' := [x_r 0, iv_c a1, iv_c ((h ((h 0 8) + 6) (1 + 4 * u51))), iv_c ((h ((h 0 8) + 6) (2 + 4 * u51))), 147573952589676412928, 147573952589676412928, 147573952589676412928]) (by decide +kernel) l103 (Nat.le_of_ble_eq_true rfl) rfl ?_
      refine x_aload (np := 85) (x := 0) (by decide +kernel) rfl (x_nc_le (by decide)) ?_
      have q104 : h14 0 8 = h 0 8 := f16 0 8 (by decide +kernel)
      refine x_getR (np := 88) (x := 648) (f := 8) (q := (h 0 8)) (by decide +kernel) (by decide) (by decide +kernel) q104 ?_
      have q105 : h14 (h 0 8) 2 = ((h 0 8) + 5) := tf_0_2 j15 t1
      refine x_getR (np := 91) (x := 514) (f := 2) (q := ((h 0 8) + 5)) (by decide +kernel) (by decide) (tg_0_514_2_1 t1) q105 ?_
      refine x_iload (np := 92) (x := 1) (by decide +kernel) rfl la1 ?_
      refine x_const (np := 93) (x := 9223372051887161347) (a := 2147483651) (by decide +kernel) (by decide) (by decide) ?_
      refine x_nI (t := 6) (mj := 68) (n := 3) (rc := 7) (ml := 4) (nr := 0) (np := 96) (as := [x_r ((h 0 8) + 5), iv_c a1, iv_c 2147483651]) (rest := []) (lo1 := [x_r ((h 0 8) + 5), iv_c a1, iv_c 2147483651, 147573952589676412928]) (by decide +kernel) (by decide) (by decide +kernel) (x_rb_of (tr_5_7 t1)) rfl rfl (x_wr (tn_5 t1) (x_wi la1 (x_wi (by decide) x_wn))) x_wn (by decide) rfl ?_
      refine x_iload (np := 1) (x := 1) (by decide +kernel) rfl la1 ?_
      refine x_ifz (k := 2) (tg := 28) (np := 4) (by decide +kernel) (by decide) la1 (fun q107 => ?_) (fun q108 => ?_)
      · have q107 : a1 < 2147483648 := q107
        exfalso; omega
      have q108 : ¬ (a1 < 2147483648) := q108
      refine x_iload (np := 5) (x := 1) (by decide +kernel) rfl la1 ?_
      refine x_aload (np := 6) (x := 0) (by decide +kernel) rfl (x_nc_le (tn_5 t1)) ?_
      have q109 : h14 ((h 0 8) + 5) 2 = h ((h 0 8) + 5) 2 := jK 0 f16 (rg_T5_2_0_1 t1) (by first | decide | omega) (by first | decide | omega) (by decide)
      refine x_getC (np := 9) (x := 386) (f := 2) (q := (h ((h 0 8) + 5) 2)) (by decide +kernel) (by decide) (tg_5_386_2_0 t1) q109 (fun l110 => ?_)
      refine x_icmp (k := 3) (tg := 28) (np := 12) (by decide +kernel) (by decide) la1 l6 (fun q111 => ?_) (fun q112 => ?_)
      · have q111 : (h ((h 0 8) + 5) 2) ≤ a1 := q111
        exfalso; omega
      have q112 : ¬ ((h ((h 0 8) + 5) 2) ≤ a1) := q112
      refine x_iload (np := 13) (x := 2) (by decide +kernel) rfl (by decide) ?_
      refine x_ifz (k := 2) (tg := 28) (np := 16) (by decide +kernel) (by decide) (by decide) (fun q113 => ?_) (fun q114 => ?_)
      · have q113 : 2147483651 < 2147483648 := q113
        exfalso; omega
      have q114 : ¬ (2147483651 < 2147483648) := q114
      refine x_iload (np := 17) (x := 2) (by decide +kernel) rfl (by decide) ?_
      refine x_aload (np := 18) (x := 0) (by decide +kernel) rfl (x_nc_le (tn_5 t1)) ?_
      have q115 : h14 ((h 0 8) + 5) 0 = h ((h 0 8) + 5) 0 := jK 0 f16 (rg_T5_0_0_1 t1) (by first | decide | omega) (by first | decide | omega) (by decide)
      refine x_getC (np := 21) (x := 384) (f := 0) (q := 2147483652) (by decide +kernel) (by decide) (tg_5_384_0_0 t1) (q115.trans q42) (fun l116 => ?_)
      refine x_icmp (k := 3) (tg := 28) (np := 24) (by decide +kernel) (by decide) (by decide) (by decide) (fun q117 => ?_) (fun q118 => ?_)
      · have q117 : 2147483652 ≤ 2147483651 := q117
        exfalso; omega
      have q118 : ¬ (2147483652 ≤ 2147483651) := q118
      refine x_const (np := 25) (x := 9223372043297226753) (a := 2147483649) (by decide +kernel) (by decide) (by decide) ?_
      refine x_goto (np := 28) (x := 29) (by decide +kernel) ?_
      refine x_istore (np := 30) (x := 3) (lo' := [x_r ((h 0 8) + 5), iv_c a1, iv_c 2147483651, iv_c 2147483649]) (by decide +kernel) (by decide) (Nat.le_of_ble_eq_true rfl) rfl ?_
      refine x_iload (np := 31) (x := 3) (by decide +kernel) rfl (by decide) ?_
      refine x_ifz (k := 0) (tg := 50) (np := 34) (by decide +kernel) (by decide) (by decide) (fun q119 => ?_) (fun q120 => ?_)
      · have q119 : 2147483649 = 2147483648 := q119
        exfalso; omega
      have q120 : ¬ (2147483649 = 2147483648) := q120
      refine x_aload (np := 35) (x := 0) (by decide +kernel) rfl (x_nc_le (tn_5 t1)) ?_
      have q121 : h14 ((h 0 8) + 5) 1 = ((h 0 8) + 6) := tf_5_1 j15 t1
      refine x_getR (np := 38) (x := 385) (f := 1) (q := ((h 0 8) + 6)) (by decide +kernel) (by decide) (tg_5_385_1_1 t1) q121 ?_
      refine x_iload (np := 39) (x := 1) (by decide +kernel) rfl la1 ?_
      refine x_aload (np := 40) (x := 0) (by decide +kernel) rfl (x_nc_le (tn_5 t1)) ?_
      have q122 : h14 ((h 0 8) + 5) 0 = h ((h 0 8) + 5) 0 := jK 0 f16 (rg_T5_0_0_1 t1) (by first | decide | omega) (by first | decide | omega) (by decide)
      refine x_getC (np := 43) (x := 384) (f := 0) (q := 2147483652) (by decide +kernel) (by decide) (tg_5_384_0_0 t1) (q122.trans q42) (fun l123 => ?_)
      refine x_imul (np := 44) (x := 0) (i := u51) (j := 4) (v := (2147483648 + 4 * u51)) (by decide +kernel) (by first | decide | omega) (by first | decide | omega) (by first | decide | omega) (by first | decide | omega) la1 (by decide) ?_
      refine x_iload (np := 45) (x := 2) (by decide +kernel) rfl (by decide) ?_
      refine x_iadd (np := 46) (x := 0) (v := (2147483651 + 4 * u51)) (by decide +kernel) (by first | decide | omega) (by decide) (by first | decide | omega) (by first | decide | omega) ?_
      have q125 : h14 ((h 0 8) + 6) (3 + 4 * u51) = h ((h 0 8) + 6) (3 + 4 * u51) := jK (3 + 4 * u51) f16 (rg_T6_0_1_40 t1) (by first | decide | omega) (by first | decide | omega) (by decide)
      refine x_aldC (np := 47) (x := 0) (n := 40) (i := (3 + 4 * u51)) (q := ((h ((h 0 8) + 6) (3 + 4 * u51)))) (by decide +kernel) (ta_6_40 t1) (by first | decide | omega) (by first | decide | omega) (by decide) q125 (fun l126 => ?_)
      refine x_goto (np := 50) (x := 51) (by decide +kernel) ?_
      refine x_retI (np := 52) (x := 0) (by decide +kernel) l126 (Or.inl (by decide +kernel)) ⟨_, rfl, l126, ?_⟩
      refine x_istore (np := 98) (x := 4) (lo' := [x_r 0, iv_c a1, iv_c ((h ((h 0 8) + 6) (1 + 4 * u51))), iv_c ((h ((h 0 8) + 6) (2 + 4 * u51))), iv_c ((h ((h 0 8) + 6) (3 + 4 * u51))), 147573952589676412928, 147573952589676412928]) (by decide +kernel) l126 (Nat.le_of_ble_eq_true rfl) rfl ?_
      refine x_const (np := 99) (x := 9223372039002259456) (a := 2147483648) (by decide +kernel) (by decide) (by decide) ?_
      refine x_istore (np := 101) (x := 5) (lo' := [x_r 0, iv_c a1, iv_c ((h ((h 0 8) + 6) (1 + 4 * u51))), iv_c ((h ((h 0 8) + 6) (2 + 4 * u51))), iv_c ((h ((h 0 8) + 6) (3 + 4 * u51))), iv_c 2147483648, 147573952589676412928]) (by decide +kernel) (by decide) (Nat.le_of_ble_eq_true rfl) rfl ?_
      have p364 : ∀ (n : Nat) (v361 : Nat) (w363 : Nat), 4294967296 - v361 < n → (2147483648 ≤ v361 ∧ v361 ≤ 2147483654) → X sc 133 (d + 4) (xT (fun r h' => J h' ∧ Fr 8193 h h' ∧ (2147483647 ≤ r ∧ r ≤ 2147483653)) (fun E h' => J h' ∧ Fr 8193 h h' ∧ (E = 2))) 1 6 101 [x_r 0, iv_c a1, iv_c ((h ((h 0 8) + 6) (1 + 4 * u51))), iv_c ((h ((h 0 8) + 6) (2 + 4 * u51))), iv_c ((h ((h 0 8) + 6) (3 + 4 * u51))), iv_c v361, w363] [] h14 := by
        intro n
        induction n with
        | zero => intro v361 w363 q365; exact absurd q365 (Nat.not_lt_zero _)
        | succ n i366 =>
          intro v361 w363 q365 b362
          refine x_iload (np := 103) (x := 5) (by decide +kernel) rfl (by first | decide | omega) ?_
          refine x_aload (np := 104) (x := 0) (by decide +kernel) rfl (x_nc_le (by decide)) ?_
          have q367 : h14 0 8 = h 0 8 := f16 0 8 (by decide +kernel)
          refine x_getR (np := 107) (x := 648) (f := 8) (q := (h 0 8)) (by decide +kernel) (by decide) (by decide +kernel) q367 ?_
          have q368 : h14 (h 0 8) 7 = h (h 0 8) 7 := jK 0 f16 (rg_T0_7_0_1 t1) (by first | decide | omega) (by first | decide | omega) (by decide)
          have b369 := jB (e := 7) 0 hJ (rg_T0_7_0_1 t1) (by first | decide | omega) (by first | decide | omega)
          refine x_getC (np := 110) (x := 519) (f := 7) (q := (h (h 0 8) 7)) (by decide +kernel) (by decide) (tg_0_519_7_0 t1) q368 (fun l370 => ?_)
          refine x_icmp (k := 3) (tg := 180) (np := 113) (by decide +kernel) (by decide) (by first | decide | omega) l370 (fun q371 => ?_) (fun q372 => ?_)
          · have q371 : (h (h 0 8) 7) ≤ v361 := q371
            refine x_const (np := 181) (x := 9223372034707292159) (a := 2147483647) (by decide +kernel) (by decide) (by decide) ?_
            refine x_retI (np := 182) (x := 0) (by decide +kernel) (by decide) (Or.inl (by decide +kernel)) (Or.inl ⟨_, rfl, (by decide), ?_⟩)
            exact ⟨j15, f19, (by first | decide | omega)⟩
          have q372 : ¬ ((h (h 0 8) 7) ≤ v361) := q372
          refine x_aload (np := 114) (x := 0) (by decide +kernel) rfl (x_nc_le (by decide)) ?_
          have q373 : h14 0 1 = 45 := by have z := jB (e := 1) 0 j15 rg_0_1_0_1 (by decide) (by decide); omega
          refine x_getR (np := 117) (x := 641) (f := 1) (q := 45) (by decide +kernel) (by decide) (by decide +kernel) q373 ?_
          have q374 : h14 45 0 = 46 := by have z := jB (e := 0) 0 j15 rg_45_0_0_1 (by decide) (by decide); omega
          refine x_getR (np := 120) (x := 64) (f := 0) (q := 46) (by decide +kernel) (by decide) (by decide +kernel) q374 ?_
          refine x_iload (np := 122) (x := 5) (by decide +kernel) rfl (by first | decide | omega) ?_
          obtain ⟨u375, q376⟩ : ∃ z, v361 = 2147483648 + z := ⟨v361 - 2147483648, by first | decide | omega⟩
          have q377 : h14 46 u375 = h 46 u375 := jK u375 f16 rg_46_0_1_6 (by first | decide | omega) (by first | decide | omega) (by decide)
          refine x_aldC (np := 123) (x := 0) (n := 6) (i := u375) (q := (h 46 u375)) (by decide +kernel) (by decide +kernel) (by first | decide | omega) (by first | decide | omega) (by decide) q377 (fun l378 => ?_)
          refine x_iload (np := 124) (x := 3) (by decide +kernel) rfl l103 ?_
          refine x_cP (t := 0) (mj := 148) (n := 2) (rc := 0) (ml := 2) (nr := 0) (np := 127) (as := [iv_c (h 46 u375), iv_c ((h ((h 0 8) + 6) (2 + 4 * u51)))]) (rest := []) (lo1 := [iv_c (h 46 u375), iv_c ((h ((h 0 8) + 6) (2 + 4 * u51)))]) (by decide +kernel) (by decide) (by decide +kernel) (Or.inl rfl) rfl rfl (x_wi l378 (x_wi l103 x_wn)) x_wn (by decide) rfl (c148 j15 (by first | decide | omega) (by first | decide | omega)) (fun v379 l380 q381 => ?_)
          obtain ⟨b383, c382⟩ := q381
          refine x_ifz (k := 0) (tg := 148) (np := 130) (by decide +kernel) (by decide) l380 (fun q384 => ?_) (fun q385 => ?_)
          · have q384 : v379 = 2147483648 := q384
            refine x_const (np := 149) (x := 9223372039002259456) (a := 2147483648) (by decide +kernel) (by decide) (by decide) ?_
            refine x_istore (np := 151) (x := 6) (lo' := [x_r 0, iv_c a1, iv_c ((h ((h 0 8) + 6) (1 + 4 * u51))), iv_c ((h ((h 0 8) + 6) (2 + 4 * u51))), iv_c ((h ((h 0 8) + 6) (3 + 4 * u51))), iv_c v361, iv_c 2147483648]) (by decide +kernel) (by decide) (Nat.le_of_ble_eq_true rfl) rfl ?_
            refine x_iload (np := 153) (x := 6) (by decide +kernel) rfl (by decide) ?_
            refine x_ifz (k := 0) (tg := 174) (np := 156) (by decide +kernel) (by decide) (by decide) (fun q386 => ?_) (fun q387 => ?_)
            · have q386 : 2147483648 = 2147483648 := q386
              refine x_iinc (np := 177) (i := 5) (j := 2147483649) (v := (1 + v361)) (lo' := [x_r 0, iv_c a1, iv_c ((h ((h 0 8) + 6) (1 + 4 * u51))), iv_c ((h ((h 0 8) + 6) (2 + 4 * u51))), iv_c ((h ((h 0 8) + 6) (3 + 4 * u51))), iv_c (1 + v361), iv_c 2147483648]) (by decide +kernel) (by decide) (by decide) rfl (by first | decide | omega) (by first | decide | omega) (by first | decide | omega) rfl ?_
              refine x_goto (np := 180) (x := 101) (by decide +kernel) ?_
              exact i366 (1 + v361) (iv_c 2147483648) (by first | decide | omega) (by first | decide | omega)
            have q387 : ¬ (2147483648 = 2147483648) := q387
            exfalso; omega
          have q385 : ¬ (v379 = 2147483648) := q385
          refine x_aload (np := 131) (x := 0) (by decide +kernel) rfl (x_nc_le (by decide)) ?_
          have q388 : h14 0 1 = 45 := by have z := jB (e := 1) 0 j15 rg_0_1_0_1 (by decide) (by decide); omega
          refine x_getR (np := 134) (x := 641) (f := 1) (q := 45) (by decide +kernel) (by decide) (by decide +kernel) q388 ?_
          refine x_iload (np := 135) (x := 2) (by decide +kernel) rfl l80 ?_
          refine x_iload (np := 136) (x := 3) (by decide +kernel) rfl l103 ?_
          refine x_cP (t := 6) (mj := 5) (n := 3) (rc := 2) (ml := 3) (nr := 0) (np := 139) (as := [x_r 45, iv_c ((h ((h 0 8) + 6) (1 + 4 * u51))), iv_c ((h ((h 0 8) + 6) (2 + 4 * u51)))]) (rest := []) (lo1 := [x_r 45, iv_c ((h ((h 0 8) + 6) (1 + 4 * u51))), iv_c ((h ((h 0 8) + 6) (2 + 4 * u51)))]) (by decide +kernel) (by decide) (by decide +kernel) (x_rb_of (by decide +kernel)) rfl rfl (x_wr (by decide) (x_wi l80 (x_wi l103 x_wn))) x_wn (by decide) rfl (c5_45 j15  (by first | decide | omega) (by first | decide | omega)) (fun v389 l390 q391 => ?_)
          refine x_iload (np := 141) (x := 5) (by decide +kernel) rfl (by first | decide | omega) ?_
          refine x_icmp (k := 0) (tg := 148) (np := 144) (by decide +kernel) (by decide) l390 (by first | decide | omega) (fun q392 => ?_) (fun q393 => ?_)
          · have q392 : v389 = v361 := q392
            refine x_const (np := 149) (x := 9223372039002259456) (a := 2147483648) (by decide +kernel) (by decide) (by decide) ?_
            refine x_istore (np := 151) (x := 6) (lo' := [x_r 0, iv_c a1, iv_c ((h ((h 0 8) + 6) (1 + 4 * u51))), iv_c ((h ((h 0 8) + 6) (2 + 4 * u51))), iv_c ((h ((h 0 8) + 6) (3 + 4 * u51))), iv_c v361, iv_c 2147483648]) (by decide +kernel) (by decide) (Nat.le_of_ble_eq_true rfl) rfl ?_
            refine x_iload (np := 153) (x := 6) (by decide +kernel) rfl (by decide) ?_
            refine x_ifz (k := 0) (tg := 174) (np := 156) (by decide +kernel) (by decide) (by decide) (fun q394 => ?_) (fun q395 => ?_)
            · have q394 : 2147483648 = 2147483648 := q394
              refine x_iinc (np := 177) (i := 5) (j := 2147483649) (v := (1 + v361)) (lo' := [x_r 0, iv_c a1, iv_c ((h ((h 0 8) + 6) (1 + 4 * u51))), iv_c ((h ((h 0 8) + 6) (2 + 4 * u51))), iv_c ((h ((h 0 8) + 6) (3 + 4 * u51))), iv_c (1 + v361), iv_c 2147483648]) (by decide +kernel) (by decide) (by decide) rfl (by first | decide | omega) (by first | decide | omega) (by first | decide | omega) rfl ?_
              refine x_goto (np := 180) (x := 101) (by decide +kernel) ?_
              exact i366 (1 + v361) (iv_c 2147483648) (by first | decide | omega) (by first | decide | omega)
            have q395 : ¬ (2147483648 = 2147483648) := q395
            exfalso; omega
          have q393 : ¬ (v389 = v361) := q393
          refine x_const (np := 145) (x := 9223372043297226753) (a := 2147483649) (by decide +kernel) (by decide) (by decide) ?_
          refine x_goto (np := 148) (x := 149) (by decide +kernel) ?_
          refine x_istore (np := 151) (x := 6) (lo' := [x_r 0, iv_c a1, iv_c ((h ((h 0 8) + 6) (1 + 4 * u51))), iv_c ((h ((h 0 8) + 6) (2 + 4 * u51))), iv_c ((h ((h 0 8) + 6) (3 + 4 * u51))), iv_c v361, iv_c 2147483649]) (by decide +kernel) (by decide) (Nat.le_of_ble_eq_true rfl) rfl ?_
          refine x_iload (np := 153) (x := 6) (by decide +kernel) rfl (by decide) ?_
          refine x_ifz (k := 0) (tg := 174) (np := 156) (by decide +kernel) (by decide) (by decide) (fun q396 => ?_) (fun q397 => ?_)
          · have q396 : 2147483649 = 2147483648 := q396
            exfalso; omega
          have q397 : ¬ (2147483649 = 2147483648) := q397
          refine x_aload (np := 157) (x := 0) (by decide +kernel) rfl (x_nc_le (by decide)) ?_
          have q398 : h14 0 2 = 59 := by have z := jB (e := 2) 0 j15 rg_0_2_0_1 (by decide) (by decide); omega
          refine x_getR (np := 160) (x := 642) (f := 2) (q := 59) (by decide +kernel) (by decide) (by decide +kernel) q398 ?_
          have q399 : h14 59 0 = 60 := by have z := jB (e := 0) 0 j15 rg_59_0_0_1 (by decide) (by decide); omega
          refine x_getR (np := 163) (x := 0) (f := 0) (q := 60) (by decide +kernel) (by decide) (by decide +kernel) q399 ?_
          refine x_iload (np := 165) (x := 5) (by decide +kernel) rfl (by first | decide | omega) ?_
          refine x_aldC (np := 166) (x := 0) (n := 6) (i := u375) (q := (h14 60 u375)) (by decide +kernel) (by decide +kernel) (by first | decide | omega) (by first | decide | omega) (by decide) rfl (fun l400 => ?_)
          refine x_iload (np := 168) (x := 4) (by decide +kernel) rfl l126 ?_
          refine x_icmp (k := 2) (tg := 174) (np := 171) (by decide +kernel) (by decide) l400 l126 (fun q401 => ?_) (fun q402 => ?_)
          · have q401 : (h14 60 u375) < ((h ((h 0 8) + 6) (3 + 4 * u51))) := q401
            refine x_iinc (np := 177) (i := 5) (j := 2147483649) (v := (1 + v361)) (lo' := [x_r 0, iv_c a1, iv_c ((h ((h 0 8) + 6) (1 + 4 * u51))), iv_c ((h ((h 0 8) + 6) (2 + 4 * u51))), iv_c ((h ((h 0 8) + 6) (3 + 4 * u51))), iv_c (1 + v361), iv_c 2147483649]) (by decide +kernel) (by decide) (by decide) rfl (by first | decide | omega) (by first | decide | omega) (by first | decide | omega) rfl ?_
            refine x_goto (np := 180) (x := 101) (by decide +kernel) ?_
            exact i366 (1 + v361) (iv_c 2147483649) (by first | decide | omega) (by first | decide | omega)
          have q402 : ¬ ((h14 60 u375) < ((h ((h 0 8) + 6) (3 + 4 * u51)))) := q402
          refine x_iload (np := 173) (x := 5) (by decide +kernel) rfl (by first | decide | omega) ?_
          refine x_retI (np := 174) (x := 0) (by decide +kernel) (by first | decide | omega) (Or.inl (by decide +kernel)) (Or.inl ⟨_, rfl, (by first | decide | omega), ?_⟩)
          exact ⟨j15, f19, (by first | decide | omega)⟩
      exact p364 _ 2147483648 147573952589676412928 (Nat.lt_succ_self _) (by first | decide | omega)
    have q57 : ¬ (((h ((h 0 8) + 6) (4 * u51))) ≠ 2147483649) := q57
    refine x_const (np := 57) (x := 9223372034707292159) (a := 2147483647) (by decide +kernel) (by decide) (by decide) ?_
    refine x_retI (np := 58) (x := 0) (by decide +kernel) (by decide) (Or.inl (by decide +kernel)) (Or.inl ⟨_, rfl, (by decide), ?_⟩)
    exact ⟨j15, f19, (by first | decide | omega)⟩
  have q8 : ¬ (a1 < (h ((h 0 8) + 5) 2)) := q8
  refine x_thr (np := 15) (x := 2) (by decide +kernel) (by decide +kernel) (Nat.le_trans x_wn (by decide)) (Or.inr ⟨_, rfl, ?_⟩)
  refine Or.inr ⟨_, rfl, ?_⟩
  exact ⟨hJ, hF, by decide⟩
