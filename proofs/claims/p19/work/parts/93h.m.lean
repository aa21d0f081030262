/-! ===== methods ===== -/
set_option maxHeartbeats 0 in
/-- LentNames$CustomReader.readAll(I)Z -/
theorem c47_62_c3 {sc : Nat × Nat} {d  : Nat} {h : xh} (hJ : J h) : X sc 47 (d + 18) (xI fun r h' => J h' ∧ Fr 161 h h' ∧ (2147483648 ≤ r ∧ r ≤ 2147483649)) 0 0 0 [x_r 62, iv_c 2147483651, 147573952589676412928] [] h := by
  have hF := Fr.refl 161 h
  refine x_aload (np := 1) (x := 0) (by decide +kernel) rfl (x_nc_le (by decide)) ?_
  refine x_iload (np := 2) (x := 1) (by decide +kernel) rfl (by decide) ?_
  refine x_cI (t := 6) (mj := 48) (n := 2) (rc := 4) (ml := 2) (nr := 0) (np := 5) (as := [x_r 62, iv_c 2147483651]) (rest := []) (lo1 := [x_r 62, iv_c 2147483651]) (by decide +kernel) (by decide) (by decide +kernel) (x_rb_of (by decide +kernel)) rfl rfl (x_wr (by decide) (x_wi (by decide) x_wn)) x_wn (by decide) rfl (c48_62_c3 hJ  ) (fun v1 h4 l2 q3 => ?_)
  obtain ⟨j5, f6, b7⟩ := q3
  have f8 := Fr.trans hF f6 (by decide)
  refine x_ifz (k := 1) (tg := 10) (np := 8) (by decide +kernel) (by decide) l2 (fun q9 => ?_) (fun q10 => ?_)
  · have q9 : v1 ≠ 2147483648 := q9
    refine x_const (np := 11) (x := 9223372039002259456) (a := 2147483648) (by decide +kernel) (by decide) (by decide) ?_
    refine x_istore (np := 12) (x := 2) (lo' := [x_r 62, iv_c 2147483651, iv_c 2147483648]) (by decide +kernel) (by decide) (Nat.le_of_ble_eq_true rfl) rfl ?_
    have p1760 : ∀ (n : Nat) (v1755 : Nat) (h1757 : xh), 4294967296 - v1755 < n → (2147483648 ≤ v1755 ∧ v1755 ≤ 2147484048) → J h1757 → Fr 161 h4 h1757 → X sc 47 (d + 18) (xI fun r h' => J h' ∧ Fr 161 h h' ∧ (2147483648 ≤ r ∧ r ≤ 2147483649)) 0 0 12 [x_r 62, iv_c 2147483651, iv_c v1755] [] h1757 := by
      intro n
      induction n with
      | zero => intro v1755 h1757 q1761; exact absurd q1761 (Nat.not_lt_zero _)
      | succ n i1762 =>
        intro v1755 h1757 q1761 b1756 j1759 f1758
        have f1763 := Fr.trans f8 f1758 (by decide)
        refine x_iload (np := 13) (x := 2) (by decide +kernel) rfl (by omega) ?_
        refine x_const (np := 16) (x := 9223373756989178256) (a := 2147484048) (by decide +kernel) (by decide) (by decide) ?_
        refine x_icmp (k := 3) (tg := 60) (np := 19) (by decide +kernel) (by decide) (by omega) (by decide) (fun q1764 => ?_) (fun q1765 => ?_)
        · have q1764 : 2147484048 ≤ v1755 := q1764
          refine x_const (np := 61) (x := 9223372043297226753) (a := 2147483649) (by decide +kernel) (by decide) (by decide) ?_
          refine x_retI (np := 62) (x := 0) (by decide +kernel) (by decide) (Or.inr ⟨by decide +kernel, by omega, by omega⟩) ⟨_, rfl, (by decide), ?_⟩
          exact ⟨j1759, f1763, (by omega)⟩
        have q1765 : ¬ (2147484048 ≤ v1755) := q1765
        refine x_aload (np := 20) (x := 0) (by decide +kernel) rfl (x_nc_le (by decide)) ?_
        have q1766 : h1757 62 0 = 1 := by have z := jB (e := 0) 0 j1759 rg_62_0_0_1 (by decide) (by decide); omega
        refine x_getR (np := 23) (x := 192) (f := 0) (q := 1) (by decide +kernel) (by decide) (by decide +kernel) q1766 ?_
        refine x_ldcB (i := 31) (idx := 69) (tx := "and") (by rw [tb_y47]; exact List.mem_of_getElem? (i := 33) rfl) (by decide) (by rw [tb_b47]; decide +kernel) ?_
        refine x_nI (t := 6) (mj := 78) (n := 2) (rc := 8) (ml := 2) (nr := 0) (np := 28) (as := [x_r 1, x_b (31 + 1)]) (rest := []) (lo1 := [x_r 1, x_b (31 + 1)]) (by decide +kernel) (by decide) (by decide +kernel) (x_rb_of (by decide +kernel)) rfl rfl (x_wr (by decide) (x_wB (by decide) x_wn)) x_wn (by decide) rfl ?_
        refine x_aload (np := 1) (x := 0) (by decide +kernel) rfl (x_nc_le (by decide)) ?_
        refine x_aloadB (i := 31) (k4 := 1) rfl (by decide) (by rw [tb_b78]; decide +kernel) ?_
        refine x_cP (t := 6) (mj := 77) (n := 2) (rc := 8) (ml := 4) (nr := 0) (np := 5) (as := [x_r 1, x_b (31 + 1)]) (rest := []) (lo1 := [x_r 1, x_b (31 + 1), 147573952589676412928, 147573952589676412928]) (by decide +kernel) (by decide) (by decide +kernel) (x_rb_of (by decide +kernel)) rfl rfl (x_wr (by decide) (x_wB (by decide) x_wn)) x_wn (by decide) rfl (c77_1_S0 j1759  (by decide)) (fun v1767 l1768 q1769 => ?_)
        obtain ⟨b1771, c1770⟩ := q1769
        have b1772 := jB (e := 2) 0 j1759 rg_1_2_0_1 (by omega) (by omega)
        refine x_ifz (k := 1) (tg := 10) (np := 8) (by decide +kernel) (by decide) l1768 (fun q1773 => ?_) (fun q1774 => ?_)
        · have q1773 : v1767 ≠ 2147483648 := q1773
          have b1775 := c1770 (by omega)
          refine x_aload (np := 11) (x := 0) (by decide +kernel) rfl (x_nc_le (by decide)) ?_
          refine x_aload (np := 12) (x := 0) (by decide +kernel) rfl (x_nc_le (by decide)) ?_
          refine x_getC (np := 15) (x := 450) (f := 2) (q := (h1757 1 2)) (by decide +kernel) (by decide) (by decide +kernel) rfl (fun l1776 => ?_)
          refine x_aloadB (i := 31) (k4 := 1) rfl (by decide) (by rw [tb_b78]; decide +kernel) ?_
          have b1777 := (iv_tl_lt 31 (by decide)).1
          have b1778 := iv_tl_ge 31 (by decide)
          refine x_len (by decide +kernel) (by rw [tb_y78]; exact sl_Tl) (by decide) (by rw [tb_b78]; decide +kernel) (Nat.le_trans (x_wi l1776 (x_wr (by decide) x_wn)) (by decide)) ?_
          refine x_iadd (np := 20) (x := 0) (v := ((h1757 1 2) + (iv_tl 31))) (by decide +kernel) l1776 (by omega) (by omega) (by omega) ?_
          refine x_cV (t := 6) (mj := 80) (n := 2) (rc := 8) (ml := 2) (nr := 0) (np := 23) (as := [x_r 1, iv_c ((h1757 1 2) + (iv_tl 31))]) (rest := []) (lo1 := [x_r 1, iv_c ((h1757 1 2) + (iv_tl 31))]) (by decide +kernel) (by decide) (by decide +kernel) (x_rb_of (by decide +kernel)) rfl rfl (x_wr (by decide) (x_wi (by omega) x_wn)) x_wn (by decide) rfl (c80_1n j1759  (by omega)) (fun h1782 q1781 => ?_)
          obtain ⟨j1783, f1784⟩ := q1781
          have f1787 := Fr.trans f1763 f1784 (by decide)
          have f1788 := Fr.trans f1758 f1784 (by decide)
          refine x_const (np := 24) (x := 9223372043297226753) (a := 2147483649) (by decide +kernel) (by decide) (by decide) ?_
          refine x_retI (np := 25) (x := 0) (by decide +kernel) (by decide) (Or.inr ⟨by decide +kernel, by omega, by omega⟩) ⟨_, rfl, (by decide), ?_⟩
          refine x_ifz (k := 0) (tg := 60) (np := 31) (by decide +kernel) (by decide) (by decide) (fun q1789 => ?_) (fun q1790 => ?_)
          · have q1789 : 2147483649 = 2147483648 := q1789
            exfalso; omega
          have q1790 : ¬ (2147483649 = 2147483648) := q1790
          refine x_aload (np := 32) (x := 0) (by decide +kernel) rfl (x_nc_le (by decide)) ?_
          refine x_iload (np := 33) (x := 1) (by decide +kernel) rfl (by decide) ?_
          refine x_cI (t := 6) (mj := 48) (n := 2) (rc := 4) (ml := 2) (nr := 0) (np := 36) (as := [x_r 62, iv_c 2147483651]) (rest := []) (lo1 := [x_r 62, iv_c 2147483651]) (by decide +kernel) (by decide) (by decide +kernel) (x_rb_of (by decide +kernel)) rfl rfl (x_wr (by decide) (x_wi (by decide) x_wn)) x_wn (by decide) rfl (c48_62_c3 j1783  ) (fun v1791 h1794 l1792 q1793 => ?_)
          obtain ⟨j1795, f1796, b1797⟩ := q1793
          have f1798 := Fr.trans f1787 f1796 (by decide)
          have f1799 := Fr.trans f1788 f1796 (by decide)
          refine x_ifz (k := 0) (tg := 52) (np := 39) (by decide +kernel) (by decide) l1792 (fun q1800 => ?_) (fun q1801 => ?_)
          · have q1800 : v1791 = 2147483648 := q1800
            refine x_const (np := 53) (x := 9223372039002259456) (a := 2147483648) (by decide +kernel) (by decide) (by decide) ?_
            refine x_retI (np := 54) (x := 0) (by decide +kernel) (by decide) (Or.inr ⟨by decide +kernel, by omega, by omega⟩) ⟨_, rfl, (by decide), ?_⟩
            exact ⟨j1795, f1798, (by omega)⟩
          have q1801 : ¬ (v1791 = 2147483648) := q1801
          refine x_aload (np := 40) (x := 0) (by decide +kernel) rfl (x_nc_le (by decide)) ?_
          have q1802 : h1794 62 1 = h1782 62 1 := f1796 62 1 (by decide +kernel)
          have q1803 : h1782 62 1 = h1757 62 1 := f1784 62 1 (by decide +kernel)
          have q1804 : h1757 62 1 = h4 62 1 := f1758 62 1 (by decide +kernel)
          have q1805 : h4 62 1 = h 62 1 := f6 62 1 (by decide +kernel)
          obtain ⟨r1806, q1807, t1808⟩ : ∃ z, (h 62 1) = z + 11 ∧ tw z := by
            rcases hJ.2.2.2.2.2.2.2 with z | z
            · exact ⟨17, by rw [z], Or.inl rfl⟩
            · exact ⟨31, by rw [z], Or.inr rfl⟩
          refine x_getR (np := 43) (x := 193) (f := 1) (q := (r1806 + 11)) (by decide +kernel) (by decide) (by decide +kernel) ((((q1802.trans q1803).trans q1804).trans q1805).trans q1807) ?_
          refine x_const (np := 46) (x := 9223380646116722644) (a := 2147485652) (by decide +kernel) (by decide) (by decide) ?_
          refine x_nI (t := 6) (mj := 36) (n := 2) (rc := 3) (ml := 2) (nr := 0) (np := 49) (as := [x_r (r1806 + 11), iv_c 2147485652]) (rest := []) (lo1 := [x_r (r1806 + 11), iv_c 2147485652]) (by decide +kernel) (by decide) (by decide +kernel) (x_rb_of (tr_11_3 t1808)) rfl rfl (x_wr (tn_11 t1808) (x_wi (by decide) x_wn)) x_wn (by decide) rfl ?_
          refine x_aload (np := 1) (x := 0) (by decide +kernel) rfl (x_nc_le (tn_11 t1808)) ?_
          have b1809 := jB (e := 2) 0 j1795 (rg_T11_2_0_1 t1808) (by omega) (by omega)
          refine x_getC (np := 4) (x := 130) (f := 2) (q := (h1794 (r1806 + 11) 2)) (by decide +kernel) (by decide) (tg_11_130_2_0 t1808) rfl (fun l1810 => ?_)
          refine x_const (np := 7) (x := 9223373756989178256) (a := 2147484048) (by decide +kernel) (by decide) (by decide) ?_
          refine x_icmp (k := 2) (tg := 12) (np := 10) (by decide +kernel) (by decide) l1810 (by decide) (fun q1811 => ?_) (fun q1812 => ?_)
          · have q1811 : (h1794 (r1806 + 11) 2) < 2147484048 := q1811
            refine x_aload (np := 13) (x := 0) (by decide +kernel) rfl (x_nc_le (tn_11 t1808)) ?_
            have q1813 : h1794 (r1806 + 11) 0 = (r1806 + 12) := tf_11_0 j1795 t1808
            refine x_getR (np := 16) (x := 128) (f := 0) (q := (r1806 + 12)) (by decide +kernel) (by decide) (tg_11_128_0_1 t1808) q1813 ?_
            refine x_aload (np := 17) (x := 0) (by decide +kernel) rfl (x_nc_le (tn_11 t1808)) ?_
            refine x_getC (np := 20) (x := 130) (f := 2) (q := (h1794 (r1806 + 11) 2)) (by decide +kernel) (by decide) (tg_11_130_2_0 t1808) rfl (fun l1814 => ?_)
            refine x_iload (np := 21) (x := 1) (by decide +kernel) rfl (by decide) ?_
            obtain ⟨u1815, q1816⟩ : ∃ z, (h1794 (r1806 + 11) 2) = 2147483648 + z := ⟨(h1794 (r1806 + 11) 2) - 2147483648, by omega⟩
            refine x_ast (np := 22) (x := 0) (kd := 1) (n := 400) (i := u1815) (by decide +kernel) (Or.inl rfl) (ta_12_400 t1808) (by omega) (by omega) (by decide) (by decide) (fun z => absurd z (by decide)) ?_
            have j1818 := jU (e := u1815) (v := 2147485652) u1815 j1795 (rg_T12_0_1_400 t1808) (by omega) (by omega) (by omega)
            have f1820 := jF (e := u1815) (v := 2147485652) u1815 f1798 (rg_T12_0_1_400 t1808) (by omega) (by omega) (by decide)
            have f1821 := jF (e := u1815) (v := 2147485652) u1815 f1799 (rg_T12_0_1_400 t1808) (by omega) (by omega) (by decide)
            generalize e1819 : x_up h1794 (r1806 + 12) u1815 2147485652 = h1817 at j1818 f1820 f1821 ⊢
            refine x_aload (np := 23) (x := 0) (by decide +kernel) rfl (x_nc_le (tn_11 t1808)) ?_
            refine x_dup (np := 24) (x := 0) (by decide +kernel) (by have z := x_nc_le (k := (r1806 + 11)) (tn_11 t1808); unfold x_r; omega) ?_
            have q1822 : h1817 (r1806 + 11) 2 = h1794 (r1806 + 11) 2 := by rw [← e1819]; exact x_up_k tof_11_12
            refine x_getC (np := 27) (x := 130) (f := 2) (q := (h1794 (r1806 + 11) 2)) (by decide +kernel) (by decide) (tg_11_130_2_0 t1808) q1822 (fun l1823 => ?_)
            refine x_const (np := 28) (x := 9223372043297226753) (a := 2147483649) (by decide +kernel) (by decide) (by decide) ?_
            refine x_iadd (np := 29) (x := 0) (v := (1 + (h1794 (r1806 + 11) 2))) (by decide +kernel) l1810 (by decide) (by omega) (by omega) ?_
            refine x_putI (np := 32) (x := 130) (f := 2) (by decide +kernel) (tg_11_130_2_0 t1808) (by omega) (Or.inl (by decide)) ?_
            have j1825 := jU (e := 2) (v := (1 + (h1794 (r1806 + 11) 2))) 0 j1818 (rg_T11_2_0_1 t1808) (by omega) (by omega) (by omega)
            have f1827 := jF (e := 2) (v := (1 + (h1794 (r1806 + 11) 2))) 0 f1820 (rg_T11_2_0_1 t1808) (by omega) (by omega) (by decide)
            have f1828 := jF (e := 2) (v := (1 + (h1794 (r1806 + 11) 2))) 0 f1821 (rg_T11_2_0_1 t1808) (by omega) (by omega) (by decide)
            generalize e1826 : x_up h1817 (r1806 + 11) 2 (1 + (h1794 (r1806 + 11) 2)) = h1824 at j1825 f1827 f1828 ⊢
            refine x_const (np := 33) (x := 9223372043297226753) (a := 2147483649) (by decide +kernel) (by decide) (by decide) ?_
            refine x_retI (np := 34) (x := 0) (by decide +kernel) (by decide) (Or.inr ⟨by decide +kernel, by omega, by omega⟩) ⟨_, rfl, (by decide), ?_⟩
            refine x_ifz (k := 1) (tg := 54) (np := 52) (by decide +kernel) (by decide) (by decide) (fun q1829 => ?_) (fun q1830 => ?_)
            · have q1829 : 2147483649 ≠ 2147483648 := q1829
              refine x_iinc (np := 57) (i := 2) (j := 2147483649) (v := (1 + v1755)) (lo' := [x_r 62, iv_c 2147483651, iv_c (1 + v1755)]) (by decide +kernel) (by decide) (by decide) rfl (by omega) (by omega) (by omega) rfl ?_
              refine x_goto (np := 60) (x := 12) (by decide +kernel) ?_
              exact i1762 (1 + v1755) h1824 (by omega) (by omega) j1825 f1828
            have q1830 : ¬ (2147483649 ≠ 2147483648) := q1830
            exfalso; omega
          have q1812 : ¬ ((h1794 (r1806 + 11) 2) < 2147484048) := q1812
          refine x_const (np := 11) (x := 9223372039002259456) (a := 2147483648) (by decide +kernel) (by decide) (by decide) ?_
          refine x_retI (np := 12) (x := 0) (by decide +kernel) (by decide) (Or.inr ⟨by decide +kernel, by omega, by omega⟩) ⟨_, rfl, (by decide), ?_⟩
          refine x_ifz (k := 1) (tg := 54) (np := 52) (by decide +kernel) (by decide) (by decide) (fun q1831 => ?_) (fun q1832 => ?_)
          · have q1831 : 2147483648 ≠ 2147483648 := q1831
            exfalso; omega
          have q1832 : ¬ (2147483648 ≠ 2147483648) := q1832
          refine x_const (np := 53) (x := 9223372039002259456) (a := 2147483648) (by decide +kernel) (by decide) (by decide) ?_
          refine x_retI (np := 54) (x := 0) (by decide +kernel) (by decide) (Or.inr ⟨by decide +kernel, by omega, by omega⟩) ⟨_, rfl, (by decide), ?_⟩
          exact ⟨j1795, f1798, (by omega)⟩
        have q1774 : ¬ (v1767 ≠ 2147483648) := q1774
        refine x_const (np := 9) (x := 9223372039002259456) (a := 2147483648) (by decide +kernel) (by decide) (by decide) ?_
        refine x_retI (np := 10) (x := 0) (by decide +kernel) (by decide) (Or.inr ⟨by decide +kernel, by omega, by omega⟩) ⟨_, rfl, (by decide), ?_⟩
        refine x_ifz (k := 0) (tg := 60) (np := 31) (by decide +kernel) (by decide) (by decide) (fun q1833 => ?_) (fun q1834 => ?_)
        · have q1833 : 2147483648 = 2147483648 := q1833
          refine x_const (np := 61) (x := 9223372043297226753) (a := 2147483649) (by decide +kernel) (by decide) (by decide) ?_
          refine x_retI (np := 62) (x := 0) (by decide +kernel) (by decide) (Or.inr ⟨by decide +kernel, by omega, by omega⟩) ⟨_, rfl, (by decide), ?_⟩
          exact ⟨j1759, f1763, (by omega)⟩
        have q1834 : ¬ (2147483648 = 2147483648) := q1834
        exfalso; omega
    exact p1760 _ 2147483648 h4 (Nat.lt_succ_self _) (by omega) j5 (Fr.refl _ _)
  have q10 : ¬ (v1 ≠ 2147483648) := q10
  refine x_const (np := 9) (x := 9223372039002259456) (a := 2147483648) (by decide +kernel) (by decide) (by decide) ?_
  refine x_retI (np := 10) (x := 0) (by decide +kernel) (by decide) (Or.inr ⟨by decide +kernel, by omega, by omega⟩) ⟨_, rfl, (by decide), ?_⟩
  exact ⟨j5, f8, (by omega)⟩
set_option maxHeartbeats 0 in
/-- LentNames$CustomReader.readCondition(I)Z -/
theorem c46_62_c3 {sc : Nat × Nat} {d  : Nat} {h : xh} (hJ : J h) : X sc 46 (d + 19) (xI fun r h' => J h' ∧ Fr 161 h h' ∧ (2147483648 ≤ r ∧ r ≤ 2147483649)) 0 0 0 [x_r 62, iv_c 2147483651, 147573952589676412928] [] h := by
  have hF := Fr.refl 161 h
  refine x_aload (np := 1) (x := 0) (by decide +kernel) rfl (x_nc_le (by decide)) ?_
  refine x_iload (np := 2) (x := 1) (by decide +kernel) rfl (by decide) ?_
  refine x_cI (t := 6) (mj := 47) (n := 2) (rc := 4) (ml := 3) (nr := 0) (np := 5) (as := [x_r 62, iv_c 2147483651]) (rest := []) (lo1 := [x_r 62, iv_c 2147483651, 147573952589676412928]) (by decide +kernel) (by decide) (by decide +kernel) (x_rb_of (by decide +kernel)) rfl rfl (x_wr (by decide) (x_wi (by decide) x_wn)) x_wn (by decide) rfl (c47_62_c3 hJ  ) (fun v1 h4 l2 q3 => ?_)
  obtain ⟨j5, f6, b7⟩ := q3
  have f8 := Fr.trans hF f6 (by decide)
  refine x_ifz (k := 1) (tg := 10) (np := 8) (by decide +kernel) (by decide) l2 (fun q9 => ?_) (fun q10 => ?_)
  · have q9 : v1 ≠ 2147483648 := q9
    refine x_const (np := 11) (x := 9223372039002259456) (a := 2147483648) (by decide +kernel) (by decide) (by decide) ?_
    refine x_istore (np := 12) (x := 2) (lo' := [x_r 62, iv_c 2147483651, iv_c 2147483648]) (by decide +kernel) (by decide) (Nat.le_of_ble_eq_true rfl) rfl ?_
    have p1760 : ∀ (n : Nat) (v1755 : Nat) (h1757 : xh), 4294967296 - v1755 < n → (2147483648 ≤ v1755 ∧ v1755 ≤ 2147484048) → J h1757 → Fr 161 h4 h1757 → X sc 46 (d + 19) (xI fun r h' => J h' ∧ Fr 161 h h' ∧ (2147483648 ≤ r ∧ r ≤ 2147483649)) 0 0 12 [x_r 62, iv_c 2147483651, iv_c v1755] [] h1757 := by
      intro n
      induction n with
      | zero => intro v1755 h1757 q1761; exact absurd q1761 (Nat.not_lt_zero _)
      | succ n i1762 =>
        intro v1755 h1757 q1761 b1756 j1759 f1758
        have f1763 := Fr.trans f8 f1758 (by decide)
        refine x_iload (np := 13) (x := 2) (by decide +kernel) rfl (by omega) ?_
        refine x_const (np := 16) (x := 9223373756989178256) (a := 2147484048) (by decide +kernel) (by decide) (by decide) ?_
        refine x_icmp (k := 3) (tg := 60) (np := 19) (by decide +kernel) (by decide) (by omega) (by decide) (fun q1764 => ?_) (fun q1765 => ?_)
        · have q1764 : 2147484048 ≤ v1755 := q1764
          refine x_const (np := 61) (x := 9223372043297226753) (a := 2147483649) (by decide +kernel) (by decide) (by decide) ?_
          refine x_retI (np := 62) (x := 0) (by decide +kernel) (by decide) (Or.inr ⟨by decide +kernel, by omega, by omega⟩) ⟨_, rfl, (by decide), ?_⟩
          exact ⟨j1759, f1763, (by omega)⟩
        have q1765 : ¬ (2147484048 ≤ v1755) := q1765
        refine x_aload (np := 20) (x := 0) (by decide +kernel) rfl (x_nc_le (by decide)) ?_
        have q1766 : h1757 62 0 = 1 := by have z := jB (e := 0) 0 j1759 rg_62_0_0_1 (by decide) (by decide); omega
        refine x_getR (np := 23) (x := 192) (f := 0) (q := 1) (by decide +kernel) (by decide) (by decide +kernel) q1766 ?_
        refine x_ldcB (i := 15) (idx := 64) (tx := "or") (by rw [tb_y46]; exact List.mem_of_getElem? (i := 34) rfl) (by decide) (by rw [tb_b46]; decide +kernel) ?_
        refine x_nI (t := 6) (mj := 78) (n := 2) (rc := 8) (ml := 2) (nr := 0) (np := 28) (as := [x_r 1, x_b (15 + 1)]) (rest := []) (lo1 := [x_r 1, x_b (15 + 1)]) (by decide +kernel) (by decide) (by decide +kernel) (x_rb_of (by decide +kernel)) rfl rfl (x_wr (by decide) (x_wB (by decide) x_wn)) x_wn (by decide) rfl ?_
        refine x_aload (np := 1) (x := 0) (by decide +kernel) rfl (x_nc_le (by decide)) ?_
        refine x_aloadB (i := 15) (k4 := 1) rfl (by decide) (by rw [tb_b78]; decide +kernel) ?_
        refine x_cP (t := 6) (mj := 77) (n := 2) (rc := 8) (ml := 4) (nr := 0) (np := 5) (as := [x_r 1, x_b (15 + 1)]) (rest := []) (lo1 := [x_r 1, x_b (15 + 1), 147573952589676412928, 147573952589676412928]) (by decide +kernel) (by decide) (by decide +kernel) (x_rb_of (by decide +kernel)) rfl rfl (x_wr (by decide) (x_wB (by decide) x_wn)) x_wn (by decide) rfl (c77_1_S0 j1759  (by decide)) (fun v1767 l1768 q1769 => ?_)
        obtain ⟨b1771, c1770⟩ := q1769
        have b1772 := jB (e := 2) 0 j1759 rg_1_2_0_1 (by omega) (by omega)
        refine x_ifz (k := 1) (tg := 10) (np := 8) (by decide +kernel) (by decide) l1768 (fun q1773 => ?_) (fun q1774 => ?_)
        · have q1773 : v1767 ≠ 2147483648 := q1773
          have b1775 := c1770 (by omega)
          refine x_aload (np := 11) (x := 0) (by decide +kernel) rfl (x_nc_le (by decide)) ?_
          refine x_aload (np := 12) (x := 0) (by decide +kernel) rfl (x_nc_le (by decide)) ?_
          refine x_getC (np := 15) (x := 450) (f := 2) (q := (h1757 1 2)) (by decide +kernel) (by decide) (by decide +kernel) rfl (fun l1776 => ?_)
          refine x_aloadB (i := 15) (k4 := 1) rfl (by decide) (by rw [tb_b78]; decide +kernel) ?_
          have b1777 := (iv_tl_lt 15 (by decide)).1
          have b1778 := iv_tl_ge 15 (by decide)
          refine x_len (by decide +kernel) (by rw [tb_y78]; exact sl_Tl) (by decide) (by rw [tb_b78]; decide +kernel) (Nat.le_trans (x_wi l1776 (x_wr (by decide) x_wn)) (by decide)) ?_
          refine x_iadd (np := 20) (x := 0) (v := ((h1757 1 2) + (iv_tl 15))) (by decide +kernel) l1776 (by omega) (by omega) (by omega) ?_
          refine x_cV (t := 6) (mj := 80) (n := 2) (rc := 8) (ml := 2) (nr := 0) (np := 23) (as := [x_r 1, iv_c ((h1757 1 2) + (iv_tl 15))]) (rest := []) (lo1 := [x_r 1, iv_c ((h1757 1 2) + (iv_tl 15))]) (by decide +kernel) (by decide) (by decide +kernel) (x_rb_of (by decide +kernel)) rfl rfl (x_wr (by decide) (x_wi (by omega) x_wn)) x_wn (by decide) rfl (c80_1n j1759  (by omega)) (fun h1782 q1781 => ?_)
          obtain ⟨j1783, f1784⟩ := q1781
          have f1787 := Fr.trans f1763 f1784 (by decide)
          have f1788 := Fr.trans f1758 f1784 (by decide)
          refine x_const (np := 24) (x := 9223372043297226753) (a := 2147483649) (by decide +kernel) (by decide) (by decide) ?_
          refine x_retI (np := 25) (x := 0) (by decide +kernel) (by decide) (Or.inr ⟨by decide +kernel, by omega, by omega⟩) ⟨_, rfl, (by decide), ?_⟩
          refine x_ifz (k := 0) (tg := 60) (np := 31) (by decide +kernel) (by decide) (by decide) (fun q1789 => ?_) (fun q1790 => ?_)
          · have q1789 : 2147483649 = 2147483648 := q1789
            exfalso; omega
          have q1790 : ¬ (2147483649 = 2147483648) := q1790
          refine x_aload (np := 32) (x := 0) (by decide +kernel) rfl (x_nc_le (by decide)) ?_
          refine x_iload (np := 33) (x := 1) (by decide +kernel) rfl (by decide) ?_
          refine x_cI (t := 6) (mj := 47) (n := 2) (rc := 4) (ml := 3) (nr := 0) (np := 36) (as := [x_r 62, iv_c 2147483651]) (rest := []) (lo1 := [x_r 62, iv_c 2147483651, 147573952589676412928]) (by decide +kernel) (by decide) (by decide +kernel) (x_rb_of (by decide +kernel)) rfl rfl (x_wr (by decide) (x_wi (by decide) x_wn)) x_wn (by decide) rfl (c47_62_c3 j1783  ) (fun v1791 h1794 l1792 q1793 => ?_)
          obtain ⟨j1795, f1796, b1797⟩ := q1793
          have f1798 := Fr.trans f1787 f1796 (by decide)
          have f1799 := Fr.trans f1788 f1796 (by decide)
          refine x_ifz (k := 0) (tg := 52) (np := 39) (by decide +kernel) (by decide) l1792 (fun q1800 => ?_) (fun q1801 => ?_)
          · have q1800 : v1791 = 2147483648 := q1800
            refine x_const (np := 53) (x := 9223372039002259456) (a := 2147483648) (by decide +kernel) (by decide) (by decide) ?_
            refine x_retI (np := 54) (x := 0) (by decide +kernel) (by decide) (Or.inr ⟨by decide +kernel, by omega, by omega⟩) ⟨_, rfl, (by decide), ?_⟩
            exact ⟨j1795, f1798, (by omega)⟩
          have q1801 : ¬ (v1791 = 2147483648) := q1801
          refine x_aload (np := 40) (x := 0) (by decide +kernel) rfl (x_nc_le (by decide)) ?_
          have q1802 : h1794 62 1 = h1782 62 1 := f1796 62 1 (by decide +kernel)
          have q1803 : h1782 62 1 = h1757 62 1 := f1784 62 1 (by decide +kernel)
          have q1804 : h1757 62 1 = h4 62 1 := f1758 62 1 (by decide +kernel)
          have q1805 : h4 62 1 = h 62 1 := f6 62 1 (by decide +kernel)
          obtain ⟨r1806, q1807, t1808⟩ : ∃ z, (h 62 1) = z + 11 ∧ tw z := by
            rcases hJ.2.2.2.2.2.2.2 with z | z
            · exact ⟨17, by rw [z], Or.inl rfl⟩
            · exact ⟨31, by rw [z], Or.inr rfl⟩
          refine x_getR (np := 43) (x := 193) (f := 1) (q := (r1806 + 11)) (by decide +kernel) (by decide) (by decide +kernel) ((((q1802.trans q1803).trans q1804).trans q1805).trans q1807) ?_
          refine x_const (np := 46) (x := 9223380650411689941) (a := 2147485653) (by decide +kernel) (by decide) (by decide) ?_
          refine x_nI (t := 6) (mj := 36) (n := 2) (rc := 3) (ml := 2) (nr := 0) (np := 49) (as := [x_r (r1806 + 11), iv_c 2147485653]) (rest := []) (lo1 := [x_r (r1806 + 11), iv_c 2147485653]) (by decide +kernel) (by decide) (by decide +kernel) (x_rb_of (tr_11_3 t1808)) rfl rfl (x_wr (tn_11 t1808) (x_wi (by decide) x_wn)) x_wn (by decide) rfl ?_
          refine x_aload (np := 1) (x := 0) (by decide +kernel) rfl (x_nc_le (tn_11 t1808)) ?_
          have b1809 := jB (e := 2) 0 j1795 (rg_T11_2_0_1 t1808) (by omega) (by omega)
          refine x_getC (np := 4) (x := 130) (f := 2) (q := (h1794 (r1806 + 11) 2)) (by decide +kernel) (by decide) (tg_11_130_2_0 t1808) rfl (fun l1810 => ?_)
          refine x_const (np := 7) (x := 9223373756989178256) (a := 2147484048) (by decide +kernel) (by decide) (by decide) ?_
          refine x_icmp (k := 2) (tg := 12) (np := 10) (by decide +kernel) (by decide) l1810 (by decide) (fun q1811 => ?_) (fun q1812 => ?_)
          · have q1811 : (h1794 (r1806 + 11) 2) < 2147484048 := q1811
            refine x_aload (np := 13) (x := 0) (by decide +kernel) rfl (x_nc_le (tn_11 t1808)) ?_
            have q1813 : h1794 (r1806 + 11) 0 = (r1806 + 12) := tf_11_0 j1795 t1808
            refine x_getR (np := 16) (x := 128) (f := 0) (q := (r1806 + 12)) (by decide +kernel) (by decide) (tg_11_128_0_1 t1808) q1813 ?_
            refine x_aload (np := 17) (x := 0) (by decide +kernel) rfl (x_nc_le (tn_11 t1808)) ?_
            refine x_getC (np := 20) (x := 130) (f := 2) (q := (h1794 (r1806 + 11) 2)) (by decide +kernel) (by decide) (tg_11_130_2_0 t1808) rfl (fun l1814 => ?_)
            refine x_iload (np := 21) (x := 1) (by decide +kernel) rfl (by decide) ?_
            obtain ⟨u1815, q1816⟩ : ∃ z, (h1794 (r1806 + 11) 2) = 2147483648 + z := ⟨(h1794 (r1806 + 11) 2) - 2147483648, by omega⟩
            refine x_ast (np := 22) (x := 0) (kd := 1) (n := 400) (i := u1815) (by decide +kernel) (Or.inl rfl) (ta_12_400 t1808) (by omega) (by omega) (by decide) (by decide) (fun z => absurd z (by decide)) ?_
            have j1818 := jU (e := u1815) (v := 2147485653) u1815 j1795 (rg_T12_0_1_400 t1808) (by omega) (by omega) (by omega)
            have f1820 := jF (e := u1815) (v := 2147485653) u1815 f1798 (rg_T12_0_1_400 t1808) (by omega) (by omega) (by decide)
            have f1821 := jF (e := u1815) (v := 2147485653) u1815 f1799 (rg_T12_0_1_400 t1808) (by omega) (by omega) (by decide)
            generalize e1819 : x_up h1794 (r1806 + 12) u1815 2147485653 = h1817 at j1818 f1820 f1821 ⊢
            refine x_aload (np := 23) (x := 0) (by decide +kernel) rfl (x_nc_le (tn_11 t1808)) ?_
            refine x_dup (np := 24) (x := 0) (by decide +kernel) (by have z := x_nc_le (k := (r1806 + 11)) (tn_11 t1808); unfold x_r; omega) ?_
            have q1822 : h1817 (r1806 + 11) 2 = h1794 (r1806 + 11) 2 := by rw [← e1819]; exact x_up_k tof_11_12
            refine x_getC (np := 27) (x := 130) (f := 2) (q := (h1794 (r1806 + 11) 2)) (by decide +kernel) (by decide) (tg_11_130_2_0 t1808) q1822 (fun l1823 => ?_)
            refine x_const (np := 28) (x := 9223372043297226753) (a := 2147483649) (by decide +kernel) (by decide) (by decide) ?_
            refine x_iadd (np := 29) (x := 0) (v := (1 + (h1794 (r1806 + 11) 2))) (by decide +kernel) l1810 (by decide) (by omega) (by omega) ?_
            refine x_putI (np := 32) (x := 130) (f := 2) (by decide +kernel) (tg_11_130_2_0 t1808) (by omega) (Or.inl (by decide)) ?_
            have j1825 := jU (e := 2) (v := (1 + (h1794 (r1806 + 11) 2))) 0 j1818 (rg_T11_2_0_1 t1808) (by omega) (by omega) (by omega)
            have f1827 := jF (e := 2) (v := (1 + (h1794 (r1806 + 11) 2))) 0 f1820 (rg_T11_2_0_1 t1808) (by omega) (by omega) (by decide)
            have f1828 := jF (e := 2) (v := (1 + (h1794 (r1806 + 11) 2))) 0 f1821 (rg_T11_2_0_1 t1808) (by omega) (by omega) (by decide)
            generalize e1826 : x_up h1817 (r1806 + 11) 2 (1 + (h1794 (r1806 + 11) 2)) = h1824 at j1825 f1827 f1828 ⊢
            refine x_const (np := 33) (x := 9223372043297226753) (a := 2147483649) (by decide +kernel) (by decide) (by decide) ?_
            refine x_retI (np := 34) (x := 0) (by decide +kernel) (by decide) (Or.inr ⟨by decide +kernel, by omega, by omega⟩) ⟨_, rfl, (by decide), ?_⟩
            refine x_ifz (k := 1) (tg := 54) (np := 52) (by decide +kernel) (by decide) (by decide) (fun q1829 => ?_) (fun q1830 => ?_)
            · have q1829 : 2147483649 ≠ 2147483648 := q1829
              refine x_iinc (np := 57) (i := 2) (j := 2147483649) (v := (1 + v1755)) (lo' := [x_r 62, iv_c 2147483651, iv_c (1 + v1755)]) (by decide +kernel) (by decide) (by decide) rfl (by omega) (by omega) (by omega) rfl ?_
              refine x_goto (np := 60) (x := 12) (by decide +kernel) ?_
              exact i1762 (1 + v1755) h1824 (by omega) (by omega) j1825 f1828
            have q1830 : ¬ (2147483649 ≠ 2147483648) := q1830
            exfalso; omega
          have q1812 : ¬ ((h1794 (r1806 + 11) 2) < 2147484048) := q1812
          refine x_const (np := 11) (x := 9223372039002259456) (a := 2147483648) (by decide +kernel) (by decide) (by decide) ?_
          refine x_retI (np := 12) (x := 0) (by decide +kernel) (by decide) (Or.inr ⟨by decide +kernel, by omega, by omega⟩) ⟨_, rfl, (by decide), ?_⟩
          refine x_ifz (k := 1) (tg := 54) (np := 52) (by decide +kernel) (by decide) (by decide) (fun q1831 => ?_) (fun q1832 => ?_)
          · have q1831 : 2147483648 ≠ 2147483648 := q1831
            exfalso; omega
          have q1832 : ¬ (2147483648 ≠ 2147483648) := q1832
          refine x_const (np := 53) (x := 9223372039002259456) (a := 2147483648) (by decide +kernel) (by decide) (by decide) ?_
          refine x_retI (np := 54) (x := 0) (by decide +kernel) (by decide) (Or.inr ⟨by decide +kernel, by omega, by omega⟩) ⟨_, rfl, (by decide), ?_⟩
          exact ⟨j1795, f1798, (by omega)⟩
        have q1774 : ¬ (v1767 ≠ 2147483648) := q1774
        refine x_const (np := 9) (x := 9223372039002259456) (a := 2147483648) (by decide +kernel) (by decide) (by decide) ?_
        refine x_retI (np := 10) (x := 0) (by decide +kernel) (by decide) (Or.inr ⟨by decide +kernel, by omega, by omega⟩) ⟨_, rfl, (by decide), ?_⟩
        refine x_ifz (k := 0) (tg := 60) (np := 31) (by decide +kernel) (by decide) (by decide) (fun q1833 => ?_) (fun q1834 => ?_)
        · have q1833 : 2147483648 = 2147483648 := q1833
          refine x_const (np := 61) (x := 9223372043297226753) (a := 2147483649) (by decide +kernel) (by decide) (by decide) ?_
          refine x_retI (np := 62) (x := 0) (by decide +kernel) (by decide) (Or.inr ⟨by decide +kernel, by omega, by omega⟩) ⟨_, rfl, (by decide), ?_⟩
          exact ⟨j1759, f1763, (by omega)⟩
        have q1834 : ¬ (2147483648 = 2147483648) := q1834
        exfalso; omega
    exact p1760 _ 2147483648 h4 (Nat.lt_succ_self _) (by omega) j5 (Fr.refl _ _)
  have q10 : ¬ (v1 ≠ 2147483648) := q10
  refine x_const (np := 9) (x := 9223372039002259456) (a := 2147483648) (by decide +kernel) (by decide) (by decide) ?_
  refine x_retI (np := 10) (x := 0) (by decide +kernel) (by decide) (Or.inr ⟨by decide +kernel, by omega, by omega⟩) ⟨_, rfl, (by decide), ?_⟩
  exact ⟨j5, f8, (by omega)⟩
set_option maxHeartbeats 0 in
/-- LentNames$CustomReader.readAtom(I)Z -/
theorem c48_62_c2 {sc : Nat × Nat} {d  : Nat} {h : xh} (hJ : J h) : X sc 48 (d + 20) (xI fun r h' => J h' ∧ Fr 161 h h' ∧ (2147483648 ≤ r ∧ r ≤ 2147483649)) 0 0 0 [x_r 62, iv_c 2147483650] [] h := by
  have hF := Fr.refl 161 h
  refine x_aload (np := 1) (x := 0) (by decide +kernel) rfl (x_nc_le (by decide)) ?_
  have q1 : h 62 0 = 1 := by have z := jB (e := 0) 0 hJ rg_62_0_0_1 (by decide) (by decide); omega
  refine x_getR (np := 4) (x := 192) (f := 0) (q := 1) (by decide +kernel) (by decide) (by decide +kernel) q1 ?_
  refine x_ldcB (i := 24) (idx := 71) (tx := "not") (by rw [tb_y48]; exact List.mem_of_getElem? (i := 24) rfl) (by decide) (by rw [tb_b48]; decide +kernel) ?_
  refine x_cP (t := 6) (mj := 77) (n := 2) (rc := 8) (ml := 4) (nr := 0) (np := 9) (as := [x_r 1, x_b (24 + 1)]) (rest := []) (lo1 := [x_r 1, x_b (24 + 1), 147573952589676412928, 147573952589676412928]) (by decide +kernel) (by decide) (by decide +kernel) (x_rb_of (by decide +kernel)) rfl rfl (x_wr (by decide) (x_wB (by decide) x_wn)) x_wn (by decide) rfl (c77_1_S0 hJ  (by decide)) (fun v2 l3 q4 => ?_)
  obtain ⟨b6, c5⟩ := q4
  have b7 := jB (e := 2) 0 hJ rg_1_2_0_1 (by omega) (by omega)
  refine x_ifz (k := 0) (tg := 59) (np := 12) (by decide +kernel) (by decide) l3 (fun q8 => ?_) (fun q9 => ?_)
  · have q8 : v2 = 2147483648 := q8
    refine x_aload (np := 60) (x := 0) (by decide +kernel) rfl (x_nc_le (by decide)) ?_
    have q10 : h 62 0 = 1 := by have z := jB (e := 0) 0 hJ rg_62_0_0_1 (by decide) (by decide); omega
    refine x_getR (np := 63) (x := 192) (f := 0) (q := 1) (by decide +kernel) (by decide) (by decide +kernel) q10 ?_
    refine x_const (np := 65) (x := 9223372210800951336) (a := 2147483688) (by decide +kernel) (by decide) (by decide) ?_
    refine x_nI (t := 6) (mj := 75) (n := 2) (rc := 8) (ml := 2) (nr := 0) (np := 68) (as := [x_r 1, iv_c 2147483688]) (rest := []) (lo1 := [x_r 1, iv_c 2147483688]) (by decide +kernel) (by decide) (by decide +kernel) (x_rb_of (by decide +kernel)) rfl rfl (x_wr (by decide) (x_wi (by decide) x_wn)) x_wn (by decide) rfl ?_
    refine x_aload (np := 1) (x := 0) (by decide +kernel) rfl (x_nc_le (by decide)) ?_
    refine x_aload (np := 2) (x := 0) (by decide +kernel) rfl (x_nc_le (by decide)) ?_
    refine x_getC (np := 5) (x := 450) (f := 2) (q := (h 1 2)) (by decide +kernel) (by decide) (by decide +kernel) rfl (fun l11 => ?_)
    refine x_nI (t := 6) (mj := 81) (n := 2) (rc := 8) (ml := 2) (nr := 0) (np := 8) (as := [x_r 1, iv_c (h 1 2)]) (rest := []) (lo1 := [x_r 1, iv_c (h 1 2)]) (by decide +kernel) (by decide) (by decide +kernel) (x_rb_of (by decide +kernel)) rfl rfl (x_wr (by decide) (x_wi l11 x_wn)) x_wn (by decide) rfl ?_
    refine x_iload (np := 1) (x := 1) (by decide +kernel) rfl l11 ?_
    refine x_aload (np := 2) (x := 0) (by decide +kernel) rfl (x_nc_le (by decide)) ?_
    have b12 := jB (e := 1) 0 hJ rg_1_1_0_1 (by omega) (by omega)
    refine x_getC (np := 5) (x := 449) (f := 1) (q := (h 1 1)) (by decide +kernel) (by decide) (by decide +kernel) rfl (fun l13 => ?_)
    refine x_icmp (k := 3) (tg := 17) (np := 8) (by decide +kernel) (by decide) l11 l13 (fun q14 => ?_) (fun q15 => ?_)
    · have q14 : (h 1 1) ≤ (h 1 2) := q14
      refine x_const (np := 18) (x := 9223372034707292159) (a := 2147483647) (by decide +kernel) (by decide) (by decide) ?_
      refine x_retI (np := 19) (x := 0) (by decide +kernel) (by decide) (Or.inl (by decide +kernel)) ⟨_, rfl, (by decide), ?_⟩
      refine x_iload (np := 9) (x := 1) (by decide +kernel) rfl (by decide) ?_
      refine x_icmp (k := 1) (tg := 16) (np := 12) (by decide +kernel) (by decide) (by decide) (by decide) (fun q16 => ?_) (fun q17 => ?_)
      · have q16 : 2147483647 ≠ 2147483688 := q16
        refine x_const (np := 17) (x := 9223372039002259456) (a := 2147483648) (by decide +kernel) (by decide) (by decide) ?_
        refine x_retI (np := 18) (x := 0) (by decide +kernel) (by decide) (Or.inr ⟨by decide +kernel, by omega, by omega⟩) ⟨_, rfl, (by decide), ?_⟩
        refine x_ifz (k := 0) (tg := 117) (np := 71) (by decide +kernel) (by decide) (by decide) (fun q18 => ?_) (fun q19 => ?_)
        · have q18 : 2147483648 = 2147483648 := q18
          refine x_aload (np := 118) (x := 0) (by decide +kernel) rfl (x_nc_le (by decide)) ?_
          have q20 : h 62 0 = 1 := by have z := jB (e := 0) 0 hJ rg_62_0_0_1 (by decide) (by decide); omega
          refine x_getR (np := 121) (x := 192) (f := 0) (q := 1) (by decide +kernel) (by decide) (by decide +kernel) q20 ?_
          refine x_ldcB (i := 25) (idx := 79) (tx := "own") (by rw [tb_y48]; exact List.mem_of_getElem? (i := 25) rfl) (by decide) (by rw [tb_b48]; decide +kernel) ?_
          refine x_nI (t := 6) (mj := 78) (n := 2) (rc := 8) (ml := 2) (nr := 0) (np := 126) (as := [x_r 1, x_b (25 + 1)]) (rest := []) (lo1 := [x_r 1, x_b (25 + 1)]) (by decide +kernel) (by decide) (by decide +kernel) (x_rb_of (by decide +kernel)) rfl rfl (x_wr (by decide) (x_wB (by decide) x_wn)) x_wn (by decide) rfl ?_
          refine x_aload (np := 1) (x := 0) (by decide +kernel) rfl (x_nc_le (by decide)) ?_
          refine x_aloadB (i := 25) (k4 := 1) rfl (by decide) (by rw [tb_b78]; decide +kernel) ?_
          refine x_cP (t := 6) (mj := 77) (n := 2) (rc := 8) (ml := 4) (nr := 0) (np := 5) (as := [x_r 1, x_b (25 + 1)]) (rest := []) (lo1 := [x_r 1, x_b (25 + 1), 147573952589676412928, 147573952589676412928]) (by decide +kernel) (by decide) (by decide +kernel) (x_rb_of (by decide +kernel)) rfl rfl (x_wr (by decide) (x_wB (by decide) x_wn)) x_wn (by decide) rfl (c77_1_S0 hJ  (by decide)) (fun v21 l22 q23 => ?_)
          obtain ⟨b25, c24⟩ := q23
          refine x_ifz (k := 1) (tg := 10) (np := 8) (by decide +kernel) (by decide) l22 (fun q26 => ?_) (fun q27 => ?_)
          · have q26 : v21 ≠ 2147483648 := q26
            have b28 := c24 (by omega)
            refine x_aload (np := 11) (x := 0) (by decide +kernel) rfl (x_nc_le (by decide)) ?_
            refine x_aload (np := 12) (x := 0) (by decide +kernel) rfl (x_nc_le (by decide)) ?_
            refine x_getC (np := 15) (x := 450) (f := 2) (q := (h 1 2)) (by decide +kernel) (by decide) (by decide +kernel) rfl (fun l29 => ?_)
            refine x_aloadB (i := 25) (k4 := 1) rfl (by decide) (by rw [tb_b78]; decide +kernel) ?_
            have b30 := (iv_tl_lt 25 (by decide)).1
            have b31 := iv_tl_ge 25 (by decide)
            refine x_len (by decide +kernel) (by rw [tb_y78]; exact sl_Tl) (by decide) (by rw [tb_b78]; decide +kernel) (Nat.le_trans (x_wi l11 (x_wr (by decide) x_wn)) (by decide)) ?_
            refine x_iadd (np := 20) (x := 0) (v := ((h 1 2) + (iv_tl 25))) (by decide +kernel) l11 (by omega) (by omega) (by omega) ?_
            refine x_cV (t := 6) (mj := 80) (n := 2) (rc := 8) (ml := 2) (nr := 0) (np := 23) (as := [x_r 1, iv_c ((h 1 2) + (iv_tl 25))]) (rest := []) (lo1 := [x_r 1, iv_c ((h 1 2) + (iv_tl 25))]) (by decide +kernel) (by decide) (by decide +kernel) (x_rb_of (by decide +kernel)) rfl rfl (x_wr (by decide) (x_wi (by omega) x_wn)) x_wn (by decide) rfl (c80_1n hJ  (by omega)) (fun h35 q34 => ?_)
            obtain ⟨j36, f37⟩ := q34
            have f40 := Fr.trans hF f37 (by decide)
            refine x_const (np := 24) (x := 9223372043297226753) (a := 2147483649) (by decide +kernel) (by decide) (by decide) ?_
            refine x_retI (np := 25) (x := 0) (by decide +kernel) (by decide) (Or.inr ⟨by decide +kernel, by omega, by omega⟩) ⟨_, rfl, (by decide), ?_⟩
            refine x_ifz (k := 0) (tg := 140) (np := 129) (by decide +kernel) (by decide) (by decide) (fun q41 => ?_) (fun q42 => ?_)
            · have q41 : 2147483649 = 2147483648 := q41
              exfalso; omega
            have q42 : ¬ (2147483649 = 2147483648) := q42
            refine x_aload (np := 130) (x := 0) (by decide +kernel) rfl (x_nc_le (by decide)) ?_
            have q43 : h35 62 1 = h 62 1 := f37 62 1 (by decide +kernel)
            obtain ⟨r44, q45, t46⟩ : ∃ z, (h 62 1) = z + 11 ∧ tw z := by
              rcases hJ.2.2.2.2.2.2.2 with z | z
              · exact ⟨17, by rw [z], Or.inl rfl⟩
              · exact ⟨31, by rw [z], Or.inr rfl⟩
            refine x_getR (np := 133) (x := 193) (f := 1) (q := (r44 + 11)) (by decide +kernel) (by decide) (by decide +kernel) (q43.trans q45) ?_
            refine x_const (np := 136) (x := 9223376359739360238) (a := 2147484654) (by decide +kernel) (by decide) (by decide) ?_
            refine x_nI (t := 6) (mj := 36) (n := 2) (rc := 3) (ml := 2) (nr := 0) (np := 139) (as := [x_r (r44 + 11), iv_c 2147484654]) (rest := []) (lo1 := [x_r (r44 + 11), iv_c 2147484654]) (by decide +kernel) (by decide) (by decide +kernel) (x_rb_of (tr_11_3 t46)) rfl rfl (x_wr (tn_11 t46) (x_wi (by decide) x_wn)) x_wn (by decide) rfl ?_
            refine x_aload (np := 1) (x := 0) (by decide +kernel) rfl (x_nc_le (tn_11 t46)) ?_
            have q47 : h35 (r44 + 11) 2 = h (r44 + 11) 2 := jK 0 f37 (rg_T11_2_0_1 t46) (by omega) (by omega) (by decide)
            have b48 := jB (e := 2) 0 hJ (rg_T11_2_0_1 t46) (by omega) (by omega)
            refine x_getC (np := 4) (x := 130) (f := 2) (q := (h (r44 + 11) 2)) (by decide +kernel) (by decide) (tg_11_130_2_0 t46) q47 (fun l49 => ?_)
            refine x_const (np := 7) (x := 9223373756989178256) (a := 2147484048) (by decide +kernel) (by decide) (by decide) ?_
            refine x_icmp (k := 2) (tg := 12) (np := 10) (by decide +kernel) (by decide) l49 (by decide) (fun q50 => ?_) (fun q51 => ?_)
            · have q50 : (h (r44 + 11) 2) < 2147484048 := q50
              refine x_aload (np := 13) (x := 0) (by decide +kernel) rfl (x_nc_le (tn_11 t46)) ?_
              have q52 : h35 (r44 + 11) 0 = (r44 + 12) := tf_11_0 j36 t46
              refine x_getR (np := 16) (x := 128) (f := 0) (q := (r44 + 12)) (by decide +kernel) (by decide) (tg_11_128_0_1 t46) q52 ?_
              refine x_aload (np := 17) (x := 0) (by decide +kernel) rfl (x_nc_le (tn_11 t46)) ?_
              have q53 : h35 (r44 + 11) 2 = h (r44 + 11) 2 := jK 0 f37 (rg_T11_2_0_1 t46) (by omega) (by omega) (by decide)
              refine x_getC (np := 20) (x := 130) (f := 2) (q := (h (r44 + 11) 2)) (by decide +kernel) (by decide) (tg_11_130_2_0 t46) q53 (fun l54 => ?_)
              refine x_iload (np := 21) (x := 1) (by decide +kernel) rfl (by decide) ?_
              obtain ⟨u55, q56⟩ : ∃ z, (h (r44 + 11) 2) = 2147483648 + z := ⟨(h (r44 + 11) 2) - 2147483648, by omega⟩
              refine x_ast (np := 22) (x := 0) (kd := 1) (n := 400) (i := u55) (by decide +kernel) (Or.inl rfl) (ta_12_400 t46) (by omega) (by omega) (by decide) (by decide) (fun z => absurd z (by decide)) ?_
              have j58 := jU (e := u55) (v := 2147484654) u55 j36 (rg_T12_0_1_400 t46) (by omega) (by omega) (by omega)
              have f60 := jF (e := u55) (v := 2147484654) u55 f40 (rg_T12_0_1_400 t46) (by omega) (by omega) (by decide)
              generalize e59 : x_up h35 (r44 + 12) u55 2147484654 = h57 at j58 f60 ⊢
              refine x_aload (np := 23) (x := 0) (by decide +kernel) rfl (x_nc_le (tn_11 t46)) ?_
              refine x_dup (np := 24) (x := 0) (by decide +kernel) (by have z := x_nc_le (k := (r44 + 11)) (tn_11 t46); unfold x_r; omega) ?_
              have q61 : h57 (r44 + 11) 2 = h35 (r44 + 11) 2 := by rw [← e59]; exact x_up_k tof_11_12
              have q62 : h35 (r44 + 11) 2 = h (r44 + 11) 2 := jK 0 f37 (rg_T11_2_0_1 t46) (by omega) (by omega) (by decide)
              refine x_getC (np := 27) (x := 130) (f := 2) (q := (h (r44 + 11) 2)) (by decide +kernel) (by decide) (tg_11_130_2_0 t46) (q61.trans q62) (fun l63 => ?_)
              refine x_const (np := 28) (x := 9223372043297226753) (a := 2147483649) (by decide +kernel) (by decide) (by decide) ?_
              refine x_iadd (np := 29) (x := 0) (v := (1 + (h (r44 + 11) 2))) (by decide +kernel) l49 (by decide) (by omega) (by omega) ?_
              refine x_putI (np := 32) (x := 130) (f := 2) (by decide +kernel) (tg_11_130_2_0 t46) (by omega) (Or.inl (by decide)) ?_
              have j65 := jU (e := 2) (v := (1 + (h (r44 + 11) 2))) 0 j58 (rg_T11_2_0_1 t46) (by omega) (by omega) (by omega)
              have f67 := jF (e := 2) (v := (1 + (h (r44 + 11) 2))) 0 f60 (rg_T11_2_0_1 t46) (by omega) (by omega) (by decide)
              generalize e66 : x_up h57 (r44 + 11) 2 (1 + (h (r44 + 11) 2)) = h64 at j65 f67 ⊢
              refine x_const (np := 33) (x := 9223372043297226753) (a := 2147483649) (by decide +kernel) (by decide) (by decide) ?_
              refine x_retI (np := 34) (x := 0) (by decide +kernel) (by decide) (Or.inr ⟨by decide +kernel, by omega, by omega⟩) ⟨_, rfl, (by decide), ?_⟩
              refine x_retI (np := 140) (x := 0) (by decide +kernel) (by decide) (Or.inr ⟨by decide +kernel, by omega, by omega⟩) ⟨_, rfl, (by decide), ?_⟩
              exact ⟨j65, f67, (by omega)⟩
            have q51 : ¬ ((h (r44 + 11) 2) < 2147484048) := q51
            refine x_const (np := 11) (x := 9223372039002259456) (a := 2147483648) (by decide +kernel) (by decide) (by decide) ?_
            refine x_retI (np := 12) (x := 0) (by decide +kernel) (by decide) (Or.inr ⟨by decide +kernel, by omega, by omega⟩) ⟨_, rfl, (by decide), ?_⟩
            refine x_retI (np := 140) (x := 0) (by decide +kernel) (by decide) (Or.inr ⟨by decide +kernel, by omega, by omega⟩) ⟨_, rfl, (by decide), ?_⟩
            exact ⟨j36, f40, (by omega)⟩
          have q27 : ¬ (v21 ≠ 2147483648) := q27
          refine x_const (np := 9) (x := 9223372039002259456) (a := 2147483648) (by decide +kernel) (by decide) (by decide) ?_
          refine x_retI (np := 10) (x := 0) (by decide +kernel) (by decide) (Or.inr ⟨by decide +kernel, by omega, by omega⟩) ⟨_, rfl, (by decide), ?_⟩
          refine x_ifz (k := 0) (tg := 140) (np := 129) (by decide +kernel) (by decide) (by decide) (fun q68 => ?_) (fun q69 => ?_)
          · have q68 : 2147483648 = 2147483648 := q68
            refine x_aload (np := 141) (x := 0) (by decide +kernel) rfl (x_nc_le (by decide)) ?_
            have q70 : h 62 0 = 1 := by have z := jB (e := 0) 0 hJ rg_62_0_0_1 (by decide) (by decide); omega
            refine x_getR (np := 144) (x := 192) (f := 0) (q := 1) (by decide +kernel) (by decide) (by decide +kernel) q70 ?_
            refine x_ldcB (i := 26) (idx := 81) (tx := "mine") (by rw [tb_y48]; exact List.mem_of_getElem? (i := 26) rfl) (by decide) (by rw [tb_b48]; decide +kernel) ?_
            refine x_nI (t := 6) (mj := 78) (n := 2) (rc := 8) (ml := 2) (nr := 0) (np := 149) (as := [x_r 1, x_b (26 + 1)]) (rest := []) (lo1 := [x_r 1, x_b (26 + 1)]) (by decide +kernel) (by decide) (by decide +kernel) (x_rb_of (by decide +kernel)) rfl rfl (x_wr (by decide) (x_wB (by decide) x_wn)) x_wn (by decide) rfl ?_
            refine x_aload (np := 1) (x := 0) (by decide +kernel) rfl (x_nc_le (by decide)) ?_
            refine x_aloadB (i := 26) (k4 := 1) rfl (by decide) (by rw [tb_b78]; decide +kernel) ?_
            refine x_cP (t := 6) (mj := 77) (n := 2) (rc := 8) (ml := 4) (nr := 0) (np := 5) (as := [x_r 1, x_b (26 + 1)]) (rest := []) (lo1 := [x_r 1, x_b (26 + 1), 147573952589676412928, 147573952589676412928]) (by decide +kernel) (by decide) (by decide +kernel) (x_rb_of (by decide +kernel)) rfl rfl (x_wr (by decide) (x_wB (by decide) x_wn)) x_wn (by decide) rfl (c77_1_S0 hJ  (by decide)) (fun v71 l72 q73 => ?_)
            obtain ⟨b75, c74⟩ := q73
            refine x_ifz (k := 1) (tg := 10) (np := 8) (by decide +kernel) (by decide) l72 (fun q76 => ?_) (fun q77 => ?_)
            · have q76 : v71 ≠ 2147483648 := q76
              have b78 := c74 (by omega)
              refine x_aload (np := 11) (x := 0) (by decide +kernel) rfl (x_nc_le (by decide)) ?_
              refine x_aload (np := 12) (x := 0) (by decide +kernel) rfl (x_nc_le (by decide)) ?_
              refine x_getC (np := 15) (x := 450) (f := 2) (q := (h 1 2)) (by decide +kernel) (by decide) (by decide +kernel) rfl (fun l79 => ?_)
              refine x_aloadB (i := 26) (k4 := 1) rfl (by decide) (by rw [tb_b78]; decide +kernel) ?_
              have b80 := (iv_tl_lt 26 (by decide)).1
              have b81 := iv_tl_ge 26 (by decide)
              refine x_len (by decide +kernel) (by rw [tb_y78]; exact sl_Tl) (by decide) (by rw [tb_b78]; decide +kernel) (Nat.le_trans (x_wi l11 (x_wr (by decide) x_wn)) (by decide)) ?_
              refine x_iadd (np := 20) (x := 0) (v := ((h 1 2) + (iv_tl 26))) (by decide +kernel) l11 (by omega) (by omega) (by omega) ?_
              refine x_cV (t := 6) (mj := 80) (n := 2) (rc := 8) (ml := 2) (nr := 0) (np := 23) (as := [x_r 1, iv_c ((h 1 2) + (iv_tl 26))]) (rest := []) (lo1 := [x_r 1, iv_c ((h 1 2) + (iv_tl 26))]) (by decide +kernel) (by decide) (by decide +kernel) (x_rb_of (by decide +kernel)) rfl rfl (x_wr (by decide) (x_wi (by omega) x_wn)) x_wn (by decide) rfl (c80_1n hJ  (by omega)) (fun h85 q84 => ?_)
              obtain ⟨j86, f87⟩ := q84
              have f90 := Fr.trans hF f87 (by decide)
              refine x_const (np := 24) (x := 9223372043297226753) (a := 2147483649) (by decide +kernel) (by decide) (by decide) ?_
              refine x_retI (np := 25) (x := 0) (by decide +kernel) (by decide) (Or.inr ⟨by decide +kernel, by omega, by omega⟩) ⟨_, rfl, (by decide), ?_⟩
              refine x_ifz (k := 0) (tg := 163) (np := 152) (by decide +kernel) (by decide) (by decide) (fun q91 => ?_) (fun q92 => ?_)
              · have q91 : 2147483649 = 2147483648 := q91
                exfalso; omega
              have q92 : ¬ (2147483649 = 2147483648) := q92
              refine x_aload (np := 153) (x := 0) (by decide +kernel) rfl (x_nc_le (by decide)) ?_
              have q93 : h85 62 1 = h 62 1 := f87 62 1 (by decide +kernel)
              obtain ⟨r94, q95, t96⟩ : ∃ z, (h 62 1) = z + 11 ∧ tw z := by
                rcases hJ.2.2.2.2.2.2.2 with z | z
                · exact ⟨17, by rw [z], Or.inl rfl⟩
                · exact ⟨31, by rw [z], Or.inr rfl⟩
              refine x_getR (np := 156) (x := 193) (f := 1) (q := (r94 + 11)) (by decide +kernel) (by decide) (by decide +kernel) (q93.trans q95) ?_
              refine x_const (np := 159) (x := 9223376364034327535) (a := 2147484655) (by decide +kernel) (by decide) (by decide) ?_
              refine x_nI (t := 6) (mj := 36) (n := 2) (rc := 3) (ml := 2) (nr := 0) (np := 162) (as := [x_r (r94 + 11), iv_c 2147484655]) (rest := []) (lo1 := [x_r (r94 + 11), iv_c 2147484655]) (by decide +kernel) (by decide) (by decide +kernel) (x_rb_of (tr_11_3 t96)) rfl rfl (x_wr (tn_11 t96) (x_wi (by decide) x_wn)) x_wn (by decide) rfl ?_
              refine x_aload (np := 1) (x := 0) (by decide +kernel) rfl (x_nc_le (tn_11 t96)) ?_
              have q97 : h85 (r94 + 11) 2 = h (r94 + 11) 2 := jK 0 f87 (rg_T11_2_0_1 t96) (by omega) (by omega) (by decide)
              have b98 := jB (e := 2) 0 hJ (rg_T11_2_0_1 t96) (by omega) (by omega)
              refine x_getC (np := 4) (x := 130) (f := 2) (q := (h (r94 + 11) 2)) (by decide +kernel) (by decide) (tg_11_130_2_0 t96) q97 (fun l99 => ?_)
              refine x_const (np := 7) (x := 9223373756989178256) (a := 2147484048) (by decide +kernel) (by decide) (by decide) ?_
              refine x_icmp (k := 2) (tg := 12) (np := 10) (by decide +kernel) (by decide) l99 (by decide) (fun q100 => ?_) (fun q101 => ?_)
              · have q100 : (h (r94 + 11) 2) < 2147484048 := q100
                refine x_aload (np := 13) (x := 0) (by decide +kernel) rfl (x_nc_le (tn_11 t96)) ?_
                have q102 : h85 (r94 + 11) 0 = (r94 + 12) := tf_11_0 j86 t96
                refine x_getR (np := 16) (x := 128) (f := 0) (q := (r94 + 12)) (by decide +kernel) (by decide) (tg_11_128_0_1 t96) q102 ?_
                refine x_aload (np := 17) (x := 0) (by decide +kernel) rfl (x_nc_le (tn_11 t96)) ?_
                have q103 : h85 (r94 + 11) 2 = h (r94 + 11) 2 := jK 0 f87 (rg_T11_2_0_1 t96) (by omega) (by omega) (by decide)
                refine x_getC (np := 20) (x := 130) (f := 2) (q := (h (r94 + 11) 2)) (by decide +kernel) (by decide) (tg_11_130_2_0 t96) q103 (fun l104 => ?_)
                refine x_iload (np := 21) (x := 1) (by decide +kernel) rfl (by decide) ?_
                obtain ⟨u105, q106⟩ : ∃ z, (h (r94 + 11) 2) = 2147483648 + z := ⟨(h (r94 + 11) 2) - 2147483648, by omega⟩
                refine x_ast (np := 22) (x := 0) (kd := 1) (n := 400) (i := u105) (by decide +kernel) (Or.inl rfl) (ta_12_400 t96) (by omega) (by omega) (by decide) (by decide) (fun z => absurd z (by decide)) ?_
                have j108 := jU (e := u105) (v := 2147484655) u105 j86 (rg_T12_0_1_400 t96) (by omega) (by omega) (by omega)
                have f110 := jF (e := u105) (v := 2147484655) u105 f90 (rg_T12_0_1_400 t96) (by omega) (by omega) (by decide)
                generalize e109 : x_up h85 (r94 + 12) u105 2147484655 = h107 at j108 f110 ⊢
                refine x_aload (np := 23) (x := 0) (by decide +kernel) rfl (x_nc_le (tn_11 t96)) ?_
                refine x_dup (np := 24) (x := 0) (by decide +kernel) (by have z := x_nc_le (k := (r94 + 11)) (tn_11 t96); unfold x_r; omega) ?_
                have q111 : h107 (r94 + 11) 2 = h85 (r94 + 11) 2 := by rw [← e109]; exact x_up_k tof_11_12
                have q112 : h85 (r94 + 11) 2 = h (r94 + 11) 2 := jK 0 f87 (rg_T11_2_0_1 t96) (by omega) (by omega) (by decide)
                refine x_getC (np := 27) (x := 130) (f := 2) (q := (h (r94 + 11) 2)) (by decide +kernel) (by decide) (tg_11_130_2_0 t96) (q111.trans q112) (fun l113 => ?_)
                refine x_const (np := 28) (x := 9223372043297226753) (a := 2147483649) (by decide +kernel) (by decide) (by decide) ?_
                refine x_iadd (np := 29) (x := 0) (v := (1 + (h (r94 + 11) 2))) (by decide +kernel) l99 (by decide) (by omega) (by omega) ?_
                refine x_putI (np := 32) (x := 130) (f := 2) (by decide +kernel) (tg_11_130_2_0 t96) (by omega) (Or.inl (by decide)) ?_
                have j115 := jU (e := 2) (v := (1 + (h (r94 + 11) 2))) 0 j108 (rg_T11_2_0_1 t96) (by omega) (by omega) (by omega)
                have f117 := jF (e := 2) (v := (1 + (h (r94 + 11) 2))) 0 f110 (rg_T11_2_0_1 t96) (by omega) (by omega) (by decide)
                generalize e116 : x_up h107 (r94 + 11) 2 (1 + (h (r94 + 11) 2)) = h114 at j115 f117 ⊢
                refine x_const (np := 33) (x := 9223372043297226753) (a := 2147483649) (by decide +kernel) (by decide) (by decide) ?_
                refine x_retI (np := 34) (x := 0) (by decide +kernel) (by decide) (Or.inr ⟨by decide +kernel, by omega, by omega⟩) ⟨_, rfl, (by decide), ?_⟩
                refine x_retI (np := 163) (x := 0) (by decide +kernel) (by decide) (Or.inr ⟨by decide +kernel, by omega, by omega⟩) ⟨_, rfl, (by decide), ?_⟩
                exact ⟨j115, f117, (by omega)⟩
              have q101 : ¬ ((h (r94 + 11) 2) < 2147484048) := q101
              refine x_const (np := 11) (x := 9223372039002259456) (a := 2147483648) (by decide +kernel) (by decide) (by decide) ?_
              refine x_retI (np := 12) (x := 0) (by decide +kernel) (by decide) (Or.inr ⟨by decide +kernel, by omega, by omega⟩) ⟨_, rfl, (by decide), ?_⟩
              refine x_retI (np := 163) (x := 0) (by decide +kernel) (by decide) (Or.inr ⟨by decide +kernel, by omega, by omega⟩) ⟨_, rfl, (by decide), ?_⟩
              exact ⟨j86, f90, (by omega)⟩
            have q77 : ¬ (v71 ≠ 2147483648) := q77
            refine x_const (np := 9) (x := 9223372039002259456) (a := 2147483648) (by decide +kernel) (by decide) (by decide) ?_
            refine x_retI (np := 10) (x := 0) (by decide +kernel) (by decide) (Or.inr ⟨by decide +kernel, by omega, by omega⟩) ⟨_, rfl, (by decide), ?_⟩
            refine x_ifz (k := 0) (tg := 163) (np := 152) (by decide +kernel) (by decide) (by decide) (fun q118 => ?_) (fun q119 => ?_)
            · have q118 : 2147483648 = 2147483648 := q118
              refine x_aload (np := 164) (x := 0) (by decide +kernel) rfl (x_nc_le (by decide)) ?_
              refine x_cI (t := 6) (mj := 49) (n := 1) (rc := 4) (ml := 2) (nr := 0) (np := 167) (as := [x_r 62]) (rest := []) (lo1 := [x_r 62, 147573952589676412928]) (by decide +kernel) (by decide) (by decide +kernel) (x_rb_of (by decide +kernel)) rfl rfl (x_wr (by decide) x_wn) x_wn (by decide) rfl (c49_62 hJ ) (fun v120 h123 l121 q122 => ?_)
              obtain ⟨j124, f125, b126⟩ := q122
              have f127 := Fr.trans hF f125 (by decide)
              refine x_ifz (k := 1) (tg := 172) (np := 170) (by decide +kernel) (by decide) l121 (fun q128 => ?_) (fun q129 => ?_)
              · have q128 : v120 ≠ 2147483648 := q128
                refine x_aload (np := 173) (x := 0) (by decide +kernel) rfl (x_nc_le (by decide)) ?_
                have q130 : h123 62 0 = 1 := by have z := jB (e := 0) 0 j124 rg_62_0_0_1 (by decide) (by decide); omega
                refine x_getR (np := 176) (x := 192) (f := 0) (q := 1) (by decide +kernel) (by decide) (by decide +kernel) q130 ?_
                refine x_const (np := 178) (x := 9223372296700297276) (a := 2147483708) (by decide +kernel) (by decide) (by decide) ?_
                refine x_nI (t := 6) (mj := 76) (n := 2) (rc := 8) (ml := 2) (nr := 0) (np := 181) (as := [x_r 1, iv_c 2147483708]) (rest := []) (lo1 := [x_r 1, iv_c 2147483708]) (by decide +kernel) (by decide) (by decide +kernel) (x_rb_of (by decide +kernel)) rfl rfl (x_wr (by decide) (x_wi (by decide) x_wn)) x_wn (by decide) rfl ?_
                refine x_aload (np := 1) (x := 0) (by decide +kernel) rfl (x_nc_le (by decide)) ?_
                refine x_iload (np := 2) (x := 1) (by decide +kernel) rfl (by decide) ?_
                refine x_nI (t := 6) (mj := 75) (n := 2) (rc := 8) (ml := 2) (nr := 0) (np := 5) (as := [x_r 1, iv_c 2147483708]) (rest := []) (lo1 := [x_r 1, iv_c 2147483708]) (by decide +kernel) (by decide) (by decide +kernel) (x_rb_of (by decide +kernel)) rfl rfl (x_wr (by decide) (x_wi (by decide) x_wn)) x_wn (by decide) rfl ?_
                refine x_aload (np := 1) (x := 0) (by decide +kernel) rfl (x_nc_le (by decide)) ?_
                refine x_aload (np := 2) (x := 0) (by decide +kernel) rfl (x_nc_le (by decide)) ?_
                have b131 := jB (e := 2) 0 j124 rg_1_2_0_1 (by omega) (by omega)
                refine x_getC (np := 5) (x := 450) (f := 2) (q := (h123 1 2)) (by decide +kernel) (by decide) (by decide +kernel) rfl (fun l132 => ?_)
                refine x_nI (t := 6) (mj := 81) (n := 2) (rc := 8) (ml := 2) (nr := 0) (np := 8) (as := [x_r 1, iv_c (h123 1 2)]) (rest := []) (lo1 := [x_r 1, iv_c (h123 1 2)]) (by decide +kernel) (by decide) (by decide +kernel) (x_rb_of (by decide +kernel)) rfl rfl (x_wr (by decide) (x_wi l132 x_wn)) x_wn (by decide) rfl ?_
                refine x_iload (np := 1) (x := 1) (by decide +kernel) rfl l132 ?_
                refine x_aload (np := 2) (x := 0) (by decide +kernel) rfl (x_nc_le (by decide)) ?_
                have q133 : h123 1 1 = h 1 1 := jK 0 f125 rg_1_1_0_1 (by omega) (by omega) (by decide)
                refine x_getC (np := 5) (x := 449) (f := 1) (q := (h 1 1)) (by decide +kernel) (by decide) (by decide +kernel) q133 (fun l134 => ?_)
                refine x_icmp (k := 3) (tg := 17) (np := 8) (by decide +kernel) (by decide) l132 l13 (fun q135 => ?_) (fun q136 => ?_)
                · have q135 : (h 1 1) ≤ (h123 1 2) := q135
                  refine x_const (np := 18) (x := 9223372034707292159) (a := 2147483647) (by decide +kernel) (by decide) (by decide) ?_
                  refine x_retI (np := 19) (x := 0) (by decide +kernel) (by decide) (Or.inl (by decide +kernel)) ⟨_, rfl, (by decide), ?_⟩
                  refine x_iload (np := 9) (x := 1) (by decide +kernel) rfl (by decide) ?_
                  refine x_icmp (k := 1) (tg := 16) (np := 12) (by decide +kernel) (by decide) (by decide) (by decide) (fun q137 => ?_) (fun q138 => ?_)
                  · have q137 : 2147483647 ≠ 2147483708 := q137
                    refine x_const (np := 17) (x := 9223372039002259456) (a := 2147483648) (by decide +kernel) (by decide) (by decide) ?_
                    refine x_retI (np := 18) (x := 0) (by decide +kernel) (by decide) (Or.inr ⟨by decide +kernel, by omega, by omega⟩) ⟨_, rfl, (by decide), ?_⟩
                    refine x_ifz (k := 1) (tg := 10) (np := 8) (by decide +kernel) (by decide) (by decide) (fun q139 => ?_) (fun q140 => ?_)
                    · have q139 : 2147483648 ≠ 2147483648 := q139
                      exfalso; omega
                    have q140 : ¬ (2147483648 ≠ 2147483648) := q140
                    refine x_const (np := 9) (x := 9223372039002259456) (a := 2147483648) (by decide +kernel) (by decide) (by decide) ?_
                    refine x_retI (np := 10) (x := 0) (by decide +kernel) (by decide) (Or.inr ⟨by decide +kernel, by omega, by omega⟩) ⟨_, rfl, (by decide), ?_⟩
                    refine x_ifz (k := 0) (tg := 210) (np := 184) (by decide +kernel) (by decide) (by decide) (fun q141 => ?_) (fun q142 => ?_)
                    · have q141 : 2147483648 = 2147483648 := q141
                      refine x_aload (np := 211) (x := 0) (by decide +kernel) rfl (x_nc_le (by decide)) ?_
                      have q143 : h123 62 0 = 1 := by have z := jB (e := 0) 0 j124 rg_62_0_0_1 (by decide) (by decide); omega
                      refine x_getR (np := 214) (x := 192) (f := 0) (q := 1) (by decide +kernel) (by decide) (by decide +kernel) q143 ?_
                      refine x_const (np := 216) (x := 9223372305290231870) (a := 2147483710) (by decide +kernel) (by decide) (by decide) ?_
                      refine x_nI (t := 6) (mj := 76) (n := 2) (rc := 8) (ml := 2) (nr := 0) (np := 219) (as := [x_r 1, iv_c 2147483710]) (rest := []) (lo1 := [x_r 1, iv_c 2147483710]) (by decide +kernel) (by decide) (by decide +kernel) (x_rb_of (by decide +kernel)) rfl rfl (x_wr (by decide) (x_wi (by decide) x_wn)) x_wn (by decide) rfl ?_
                      refine x_aload (np := 1) (x := 0) (by decide +kernel) rfl (x_nc_le (by decide)) ?_
                      refine x_iload (np := 2) (x := 1) (by decide +kernel) rfl (by decide) ?_
                      refine x_nI (t := 6) (mj := 75) (n := 2) (rc := 8) (ml := 2) (nr := 0) (np := 5) (as := [x_r 1, iv_c 2147483710]) (rest := []) (lo1 := [x_r 1, iv_c 2147483710]) (by decide +kernel) (by decide) (by decide +kernel) (x_rb_of (by decide +kernel)) rfl rfl (x_wr (by decide) (x_wi (by decide) x_wn)) x_wn (by decide) rfl ?_
                      refine x_aload (np := 1) (x := 0) (by decide +kernel) rfl (x_nc_le (by decide)) ?_
                      refine x_aload (np := 2) (x := 0) (by decide +kernel) rfl (x_nc_le (by decide)) ?_
                      refine x_getC (np := 5) (x := 450) (f := 2) (q := (h123 1 2)) (by decide +kernel) (by decide) (by decide +kernel) rfl (fun l144 => ?_)
                      refine x_nI (t := 6) (mj := 81) (n := 2) (rc := 8) (ml := 2) (nr := 0) (np := 8) (as := [x_r 1, iv_c (h123 1 2)]) (rest := []) (lo1 := [x_r 1, iv_c (h123 1 2)]) (by decide +kernel) (by decide) (by decide +kernel) (x_rb_of (by decide +kernel)) rfl rfl (x_wr (by decide) (x_wi l132 x_wn)) x_wn (by decide) rfl ?_
                      refine x_iload (np := 1) (x := 1) (by decide +kernel) rfl l132 ?_
                      refine x_aload (np := 2) (x := 0) (by decide +kernel) rfl (x_nc_le (by decide)) ?_
                      have q145 : h123 1 1 = h 1 1 := jK 0 f125 rg_1_1_0_1 (by omega) (by omega) (by decide)
                      refine x_getC (np := 5) (x := 449) (f := 1) (q := (h 1 1)) (by decide +kernel) (by decide) (by decide +kernel) q145 (fun l146 => ?_)
                      refine x_icmp (k := 3) (tg := 17) (np := 8) (by decide +kernel) (by decide) l132 l13 (fun q147 => ?_) (fun q148 => ?_)
                      · have q147 : (h 1 1) ≤ (h123 1 2) := q147
                        refine x_const (np := 18) (x := 9223372034707292159) (a := 2147483647) (by decide +kernel) (by decide) (by decide) ?_
                        refine x_retI (np := 19) (x := 0) (by decide +kernel) (by decide) (Or.inl (by decide +kernel)) ⟨_, rfl, (by decide), ?_⟩
                        refine x_iload (np := 9) (x := 1) (by decide +kernel) rfl (by decide) ?_
                        refine x_icmp (k := 1) (tg := 16) (np := 12) (by decide +kernel) (by decide) (by decide) (by decide) (fun q149 => ?_) (fun q150 => ?_)
                        · have q149 : 2147483647 ≠ 2147483710 := q149
                          refine x_const (np := 17) (x := 9223372039002259456) (a := 2147483648) (by decide +kernel) (by decide) (by decide) ?_
                          refine x_retI (np := 18) (x := 0) (by decide +kernel) (by decide) (Or.inr ⟨by decide +kernel, by omega, by omega⟩) ⟨_, rfl, (by decide), ?_⟩
                          refine x_ifz (k := 1) (tg := 10) (np := 8) (by decide +kernel) (by decide) (by decide) (fun q151 => ?_) (fun q152 => ?_)
                          · have q151 : 2147483648 ≠ 2147483648 := q151
                            exfalso; omega
                          have q152 : ¬ (2147483648 ≠ 2147483648) := q152
                          refine x_const (np := 9) (x := 9223372039002259456) (a := 2147483648) (by decide +kernel) (by decide) (by decide) ?_
                          refine x_retI (np := 10) (x := 0) (by decide +kernel) (by decide) (Or.inr ⟨by decide +kernel, by omega, by omega⟩) ⟨_, rfl, (by decide), ?_⟩
                          refine x_ifz (k := 0) (tg := 246) (np := 222) (by decide +kernel) (by decide) (by decide) (fun q153 => ?_) (fun q154 => ?_)
                          · have q153 : 2147483648 = 2147483648 := q153
                            refine x_const (np := 247) (x := 9223372039002259456) (a := 2147483648) (by decide +kernel) (by decide) (by decide) ?_
                            refine x_retI (np := 248) (x := 0) (by decide +kernel) (by decide) (Or.inr ⟨by decide +kernel, by omega, by omega⟩) ⟨_, rfl, (by decide), ?_⟩
                            exact ⟨j124, f127, (by omega)⟩
                          have q154 : ¬ (2147483648 = 2147483648) := q154
                          exfalso; omega
                        have q150 : ¬ (2147483647 ≠ 2147483710) := q150
                        exfalso; omega
                      have q148 : ¬ ((h 1 1) ≤ (h123 1 2)) := q148
                      refine x_aload (np := 9) (x := 0) (by decide +kernel) rfl (x_nc_le (by decide)) ?_
                      have q155 : h123 1 0 = 2 := by have z := jB (e := 0) 0 j124 rg_1_0_0_1 (by decide) (by decide); omega
                      refine x_getR (np := 12) (x := 448) (f := 0) (q := 2) (by decide +kernel) (by decide) (by decide +kernel) q155 ?_
                      refine x_iload (np := 13) (x := 1) (by decide +kernel) rfl l132 ?_
                      obtain ⟨u156, q157⟩ : ∃ z, (h123 1 2) = 2147483648 + z := ⟨(h123 1 2) - 2147483648, by omega⟩
                      have q158 : h123 2 u156 = h 2 u156 := jK u156 f125 rg_2_0_1_400 (by omega) (by omega) (by decide)
                      refine x_aldC (np := 14) (x := 0) (n := 400) (i := u156) (q := (h 2 u156)) (by decide +kernel) (by decide +kernel) (by omega) (by omega) (by decide) q158 (fun l159 => ?_)
                      refine x_goto (np := 17) (x := 18) (by decide +kernel) ?_
                      refine x_retI (np := 19) (x := 0) (by decide +kernel) l159 (Or.inl (by decide +kernel)) ⟨_, rfl, l159, ?_⟩
                      refine x_iload (np := 9) (x := 1) (by decide +kernel) rfl (by decide) ?_
                      refine x_icmp (k := 1) (tg := 16) (np := 12) (by decide +kernel) (by decide) l159 (by decide) (fun q160 => ?_) (fun q161 => ?_)
                      · have q160 : (h 2 u156) ≠ 2147483710 := q160
                        refine x_const (np := 17) (x := 9223372039002259456) (a := 2147483648) (by decide +kernel) (by decide) (by decide) ?_
                        refine x_retI (np := 18) (x := 0) (by decide +kernel) (by decide) (Or.inr ⟨by decide +kernel, by omega, by omega⟩) ⟨_, rfl, (by decide), ?_⟩
                        refine x_ifz (k := 1) (tg := 10) (np := 8) (by decide +kernel) (by decide) (by decide) (fun q162 => ?_) (fun q163 => ?_)
                        · have q162 : 2147483648 ≠ 2147483648 := q162
                          exfalso; omega
                        have q163 : ¬ (2147483648 ≠ 2147483648) := q163
                        refine x_const (np := 9) (x := 9223372039002259456) (a := 2147483648) (by decide +kernel) (by decide) (by decide) ?_
                        refine x_retI (np := 10) (x := 0) (by decide +kernel) (by decide) (Or.inr ⟨by decide +kernel, by omega, by omega⟩) ⟨_, rfl, (by decide), ?_⟩
                        refine x_ifz (k := 0) (tg := 246) (np := 222) (by decide +kernel) (by decide) (by decide) (fun q164 => ?_) (fun q165 => ?_)
                        · have q164 : 2147483648 = 2147483648 := q164
                          refine x_const (np := 247) (x := 9223372039002259456) (a := 2147483648) (by decide +kernel) (by decide) (by decide) ?_
                          refine x_retI (np := 248) (x := 0) (by decide +kernel) (by decide) (Or.inr ⟨by decide +kernel, by omega, by omega⟩) ⟨_, rfl, (by decide), ?_⟩
                          exact ⟨j124, f127, (by omega)⟩
                        have q165 : ¬ (2147483648 = 2147483648) := q165
                        exfalso; omega
                      have q161 : ¬ ((h 2 u156) ≠ 2147483710) := q161
                      refine x_const (np := 13) (x := 9223372043297226753) (a := 2147483649) (by decide +kernel) (by decide) (by decide) ?_
                      refine x_goto (np := 16) (x := 17) (by decide +kernel) ?_
                      refine x_retI (np := 18) (x := 0) (by decide +kernel) (by decide) (Or.inr ⟨by decide +kernel, by omega, by omega⟩) ⟨_, rfl, (by decide), ?_⟩
                      refine x_ifz (k := 1) (tg := 10) (np := 8) (by decide +kernel) (by decide) (by decide) (fun q166 => ?_) (fun q167 => ?_)
                      · have q166 : 2147483649 ≠ 2147483648 := q166
                        refine x_aload (np := 11) (x := 0) (by decide +kernel) rfl (x_nc_le (by decide)) ?_
                        refine x_aload (np := 12) (x := 0) (by decide +kernel) rfl (x_nc_le (by decide)) ?_
                        refine x_getC (np := 15) (x := 450) (f := 2) (q := (h123 1 2)) (by decide +kernel) (by decide) (by decide +kernel) rfl (fun l168 => ?_)
                        refine x_const (np := 16) (x := 9223372043297226753) (a := 2147483649) (by decide +kernel) (by decide) (by decide) ?_
                        refine x_iadd (np := 17) (x := 0) (v := (1 + (h123 1 2))) (by decide +kernel) l132 (by decide) (by omega) (by omega) ?_
                        refine x_cV (t := 6) (mj := 80) (n := 2) (rc := 8) (ml := 2) (nr := 0) (np := 20) (as := [x_r 1, iv_c (1 + (h123 1 2))]) (rest := []) (lo1 := [x_r 1, iv_c (1 + (h123 1 2))]) (by decide +kernel) (by decide) (by decide +kernel) (x_rb_of (by decide +kernel)) rfl rfl (x_wr (by decide) (x_wi (by omega) x_wn)) x_wn (by decide) rfl (c80_1n j124  (by omega)) (fun h172 q171 => ?_)
                        obtain ⟨j173, f174⟩ := q171
                        have f177 := Fr.trans f127 f174 (by decide)
                        refine x_const (np := 21) (x := 9223372043297226753) (a := 2147483649) (by decide +kernel) (by decide) (by decide) ?_
                        refine x_retI (np := 22) (x := 0) (by decide +kernel) (by decide) (Or.inr ⟨by decide +kernel, by omega, by omega⟩) ⟨_, rfl, (by decide), ?_⟩
                        refine x_ifz (k := 0) (tg := 246) (np := 222) (by decide +kernel) (by decide) (by decide) (fun q178 => ?_) (fun q179 => ?_)
                        · have q178 : 2147483649 = 2147483648 := q178
                          exfalso; omega
                        have q179 : ¬ (2147483649 = 2147483648) := q179
                        refine x_aload (np := 223) (x := 0) (by decide +kernel) rfl (x_nc_le (by decide)) ?_
                        refine x_cI (t := 6) (mj := 49) (n := 1) (rc := 4) (ml := 2) (nr := 0) (np := 226) (as := [x_r 62]) (rest := []) (lo1 := [x_r 62, 147573952589676412928]) (by decide +kernel) (by decide) (by decide +kernel) (x_rb_of (by decide +kernel)) rfl rfl (x_wr (by decide) x_wn) x_wn (by decide) rfl (c49_62 j173 ) (fun v180 h183 l181 q182 => ?_)
                        obtain ⟨j184, f185, b186⟩ := q182
                        have f187 := Fr.trans f177 f185 (by decide)
                        refine x_ifz (k := 0) (tg := 246) (np := 229) (by decide +kernel) (by decide) l181 (fun q188 => ?_) (fun q189 => ?_)
                        · have q188 : v180 = 2147483648 := q188
                          refine x_const (np := 247) (x := 9223372039002259456) (a := 2147483648) (by decide +kernel) (by decide) (by decide) ?_
                          refine x_retI (np := 248) (x := 0) (by decide +kernel) (by decide) (Or.inr ⟨by decide +kernel, by omega, by omega⟩) ⟨_, rfl, (by decide), ?_⟩
                          exact ⟨j184, f187, (by omega)⟩
                        have q189 : ¬ (v180 = 2147483648) := q189
                        refine x_aload (np := 230) (x := 0) (by decide +kernel) rfl (x_nc_le (by decide)) ?_
                        have q190 : h183 62 1 = h172 62 1 := f185 62 1 (by decide +kernel)
                        have q191 : h172 62 1 = h123 62 1 := f174 62 1 (by decide +kernel)
                        have q192 : h123 62 1 = h 62 1 := f125 62 1 (by decide +kernel)
                        obtain ⟨r193, q194, t195⟩ : ∃ z, (h 62 1) = z + 11 ∧ tw z := by
                          rcases hJ.2.2.2.2.2.2.2 with z | z
                          · exact ⟨17, by rw [z], Or.inl rfl⟩
                          · exact ⟨31, by rw [z], Or.inr rfl⟩
                        refine x_getR (np := 233) (x := 193) (f := 1) (q := (r193 + 11)) (by decide +kernel) (by decide) (by decide +kernel) (((q190.trans q191).trans q192).trans q194) ?_
                        refine x_const (np := 236) (x := 9223380637526788050) (a := 2147485650) (by decide +kernel) (by decide) (by decide) ?_
                        refine x_nI (t := 6) (mj := 36) (n := 2) (rc := 3) (ml := 2) (nr := 0) (np := 239) (as := [x_r (r193 + 11), iv_c 2147485650]) (rest := []) (lo1 := [x_r (r193 + 11), iv_c 2147485650]) (by decide +kernel) (by decide) (by decide +kernel) (x_rb_of (tr_11_3 t195)) rfl rfl (x_wr (tn_11 t195) (x_wi (by decide) x_wn)) x_wn (by decide) rfl ?_
                        refine x_aload (np := 1) (x := 0) (by decide +kernel) rfl (x_nc_le (tn_11 t195)) ?_
                        have b196 := jB (e := 2) 0 j184 (rg_T11_2_0_1 t195) (by omega) (by omega)
                        refine x_getC (np := 4) (x := 130) (f := 2) (q := (h183 (r193 + 11) 2)) (by decide +kernel) (by decide) (tg_11_130_2_0 t195) rfl (fun l197 => ?_)
                        refine x_const (np := 7) (x := 9223373756989178256) (a := 2147484048) (by decide +kernel) (by decide) (by decide) ?_
                        refine x_icmp (k := 2) (tg := 12) (np := 10) (by decide +kernel) (by decide) l197 (by decide) (fun q198 => ?_) (fun q199 => ?_)
                        · have q198 : (h183 (r193 + 11) 2) < 2147484048 := q198
                          refine x_aload (np := 13) (x := 0) (by decide +kernel) rfl (x_nc_le (tn_11 t195)) ?_
                          have q200 : h183 (r193 + 11) 0 = (r193 + 12) := tf_11_0 j184 t195
                          refine x_getR (np := 16) (x := 128) (f := 0) (q := (r193 + 12)) (by decide +kernel) (by decide) (tg_11_128_0_1 t195) q200 ?_
                          refine x_aload (np := 17) (x := 0) (by decide +kernel) rfl (x_nc_le (tn_11 t195)) ?_
                          refine x_getC (np := 20) (x := 130) (f := 2) (q := (h183 (r193 + 11) 2)) (by decide +kernel) (by decide) (tg_11_130_2_0 t195) rfl (fun l201 => ?_)
                          refine x_iload (np := 21) (x := 1) (by decide +kernel) rfl (by decide) ?_
                          obtain ⟨u202, q203⟩ : ∃ z, (h183 (r193 + 11) 2) = 2147483648 + z := ⟨(h183 (r193 + 11) 2) - 2147483648, by omega⟩
                          refine x_ast (np := 22) (x := 0) (kd := 1) (n := 400) (i := u202) (by decide +kernel) (Or.inl rfl) (ta_12_400 t195) (by omega) (by omega) (by decide) (by decide) (fun z => absurd z (by decide)) ?_
                          have j205 := jU (e := u202) (v := 2147485650) u202 j184 (rg_T12_0_1_400 t195) (by omega) (by omega) (by omega)
                          have f207 := jF (e := u202) (v := 2147485650) u202 f187 (rg_T12_0_1_400 t195) (by omega) (by omega) (by decide)
                          generalize e206 : x_up h183 (r193 + 12) u202 2147485650 = h204 at j205 f207 ⊢
                          refine x_aload (np := 23) (x := 0) (by decide +kernel) rfl (x_nc_le (tn_11 t195)) ?_
                          refine x_dup (np := 24) (x := 0) (by decide +kernel) (by have z := x_nc_le (k := (r193 + 11)) (tn_11 t195); unfold x_r; omega) ?_
                          have q208 : h204 (r193 + 11) 2 = h183 (r193 + 11) 2 := by rw [← e206]; exact x_up_k tof_11_12
                          refine x_getC (np := 27) (x := 130) (f := 2) (q := (h183 (r193 + 11) 2)) (by decide +kernel) (by decide) (tg_11_130_2_0 t195) q208 (fun l209 => ?_)
                          refine x_const (np := 28) (x := 9223372043297226753) (a := 2147483649) (by decide +kernel) (by decide) (by decide) ?_
                          refine x_iadd (np := 29) (x := 0) (v := (1 + (h183 (r193 + 11) 2))) (by decide +kernel) l197 (by decide) (by omega) (by omega) ?_
                          refine x_putI (np := 32) (x := 130) (f := 2) (by decide +kernel) (tg_11_130_2_0 t195) (by omega) (Or.inl (by decide)) ?_
                          have j211 := jU (e := 2) (v := (1 + (h183 (r193 + 11) 2))) 0 j205 (rg_T11_2_0_1 t195) (by omega) (by omega) (by omega)
                          have f213 := jF (e := 2) (v := (1 + (h183 (r193 + 11) 2))) 0 f207 (rg_T11_2_0_1 t195) (by omega) (by omega) (by decide)
                          generalize e212 : x_up h204 (r193 + 11) 2 (1 + (h183 (r193 + 11) 2)) = h210 at j211 f213 ⊢
                          refine x_const (np := 33) (x := 9223372043297226753) (a := 2147483649) (by decide +kernel) (by decide) (by decide) ?_
                          refine x_retI (np := 34) (x := 0) (by decide +kernel) (by decide) (Or.inr ⟨by decide +kernel, by omega, by omega⟩) ⟨_, rfl, (by decide), ?_⟩
                          refine x_ifz (k := 0) (tg := 246) (np := 242) (by decide +kernel) (by decide) (by decide) (fun q214 => ?_) (fun q215 => ?_)
                          · have q214 : 2147483649 = 2147483648 := q214
                            exfalso; omega
                          have q215 : ¬ (2147483649 = 2147483648) := q215
                          refine x_const (np := 243) (x := 9223372043297226753) (a := 2147483649) (by decide +kernel) (by decide) (by decide) ?_
                          refine x_goto (np := 246) (x := 247) (by decide +kernel) ?_
                          refine x_retI (np := 248) (x := 0) (by decide +kernel) (by decide) (Or.inr ⟨by decide +kernel, by omega, by omega⟩) ⟨_, rfl, (by decide), ?_⟩
                          exact ⟨j211, f213, (by omega)⟩
                        have q199 : ¬ ((h183 (r193 + 11) 2) < 2147484048) := q199
                        refine x_const (np := 11) (x := 9223372039002259456) (a := 2147483648) (by decide +kernel) (by decide) (by decide) ?_
                        refine x_retI (np := 12) (x := 0) (by decide +kernel) (by decide) (Or.inr ⟨by decide +kernel, by omega, by omega⟩) ⟨_, rfl, (by decide), ?_⟩
                        refine x_ifz (k := 0) (tg := 246) (np := 242) (by decide +kernel) (by decide) (by decide) (fun q216 => ?_) (fun q217 => ?_)
                        · have q216 : 2147483648 = 2147483648 := q216
                          refine x_const (np := 247) (x := 9223372039002259456) (a := 2147483648) (by decide +kernel) (by decide) (by decide) ?_
                          refine x_retI (np := 248) (x := 0) (by decide +kernel) (by decide) (Or.inr ⟨by decide +kernel, by omega, by omega⟩) ⟨_, rfl, (by decide), ?_⟩
                          exact ⟨j184, f187, (by omega)⟩
                        have q217 : ¬ (2147483648 = 2147483648) := q217
                        exfalso; omega
                      have q167 : ¬ (2147483649 ≠ 2147483648) := q167
                      exfalso; omega
                    have q142 : ¬ (2147483648 = 2147483648) := q142
                    exfalso; omega
                  have q138 : ¬ (2147483647 ≠ 2147483708) := q138
                  exfalso; omega
                have q136 : ¬ ((h 1 1) ≤ (h123 1 2)) := q136
                refine x_aload (np := 9) (x := 0) (by decide +kernel) rfl (x_nc_le (by decide)) ?_
                have q218 : h123 1 0 = 2 := by have z := jB (e := 0) 0 j124 rg_1_0_0_1 (by decide) (by decide); omega
                refine x_getR (np := 12) (x := 448) (f := 0) (q := 2) (by decide +kernel) (by decide) (by decide +kernel) q218 ?_
                refine x_iload (np := 13) (x := 1) (by decide +kernel) rfl l132 ?_
                obtain ⟨u219, q220⟩ : ∃ z, (h123 1 2) = 2147483648 + z := ⟨(h123 1 2) - 2147483648, by omega⟩
                have q221 : h123 2 u219 = h 2 u219 := jK u219 f125 rg_2_0_1_400 (by omega) (by omega) (by decide)
                refine x_aldC (np := 14) (x := 0) (n := 400) (i := u219) (q := (h 2 u219)) (by decide +kernel) (by decide +kernel) (by omega) (by omega) (by decide) q221 (fun l222 => ?_)
                refine x_goto (np := 17) (x := 18) (by decide +kernel) ?_
                refine x_retI (np := 19) (x := 0) (by decide +kernel) l222 (Or.inl (by decide +kernel)) ⟨_, rfl, l222, ?_⟩
                refine x_iload (np := 9) (x := 1) (by decide +kernel) rfl (by decide) ?_
                refine x_icmp (k := 1) (tg := 16) (np := 12) (by decide +kernel) (by decide) l222 (by decide) (fun q223 => ?_) (fun q224 => ?_)
                · have q223 : (h 2 u219) ≠ 2147483708 := q223
                  refine x_const (np := 17) (x := 9223372039002259456) (a := 2147483648) (by decide +kernel) (by decide) (by decide) ?_
                  refine x_retI (np := 18) (x := 0) (by decide +kernel) (by decide) (Or.inr ⟨by decide +kernel, by omega, by omega⟩) ⟨_, rfl, (by decide), ?_⟩
                  refine x_ifz (k := 1) (tg := 10) (np := 8) (by decide +kernel) (by decide) (by decide) (fun q225 => ?_) (fun q226 => ?_)
                  · have q225 : 2147483648 ≠ 2147483648 := q225
                    exfalso; omega
                  have q226 : ¬ (2147483648 ≠ 2147483648) := q226
                  refine x_const (np := 9) (x := 9223372039002259456) (a := 2147483648) (by decide +kernel) (by decide) (by decide) ?_
                  refine x_retI (np := 10) (x := 0) (by decide +kernel) (by decide) (Or.inr ⟨by decide +kernel, by omega, by omega⟩) ⟨_, rfl, (by decide), ?_⟩
                  refine x_ifz (k := 0) (tg := 210) (np := 184) (by decide +kernel) (by decide) (by decide) (fun q227 => ?_) (fun q228 => ?_)
                  · have q227 : 2147483648 = 2147483648 := q227
                    refine x_aload (np := 211) (x := 0) (by decide +kernel) rfl (x_nc_le (by decide)) ?_
                    have q229 : h123 62 0 = 1 := by have z := jB (e := 0) 0 j124 rg_62_0_0_1 (by decide) (by decide); omega
                    refine x_getR (np := 214) (x := 192) (f := 0) (q := 1) (by decide +kernel) (by decide) (by decide +kernel) q229 ?_
                    refine x_const (np := 216) (x := 9223372305290231870) (a := 2147483710) (by decide +kernel) (by decide) (by decide) ?_
                    refine x_nI (t := 6) (mj := 76) (n := 2) (rc := 8) (ml := 2) (nr := 0) (np := 219) (as := [x_r 1, iv_c 2147483710]) (rest := []) (lo1 := [x_r 1, iv_c 2147483710]) (by decide +kernel) (by decide) (by decide +kernel) (x_rb_of (by decide +kernel)) rfl rfl (x_wr (by decide) (x_wi (by decide) x_wn)) x_wn (by decide) rfl ?_
                    refine x_aload (np := 1) (x := 0) (by decide +kernel) rfl (x_nc_le (by decide)) ?_
                    refine x_iload (np := 2) (x := 1) (by decide +kernel) rfl (by decide) ?_
                    refine x_nI (t := 6) (mj := 75) (n := 2) (rc := 8) (ml := 2) (nr := 0) (np := 5) (as := [x_r 1, iv_c 2147483710]) (rest := []) (lo1 := [x_r 1, iv_c 2147483710]) (by decide +kernel) (by decide) (by decide +kernel) (x_rb_of (by decide +kernel)) rfl rfl (x_wr (by decide) (x_wi (by decide) x_wn)) x_wn (by decide) rfl ?_
                    refine x_aload (np := 1) (x := 0) (by decide +kernel) rfl (x_nc_le (by decide)) ?_
                    refine x_aload (np := 2) (x := 0) (by decide +kernel) rfl (x_nc_le (by decide)) ?_
                    refine x_getC (np := 5) (x := 450) (f := 2) (q := (h123 1 2)) (by decide +kernel) (by decide) (by decide +kernel) rfl (fun l230 => ?_)
                    refine x_nI (t := 6) (mj := 81) (n := 2) (rc := 8) (ml := 2) (nr := 0) (np := 8) (as := [x_r 1, iv_c (h123 1 2)]) (rest := []) (lo1 := [x_r 1, iv_c (h123 1 2)]) (by decide +kernel) (by decide) (by decide +kernel) (x_rb_of (by decide +kernel)) rfl rfl (x_wr (by decide) (x_wi l132 x_wn)) x_wn (by decide) rfl ?_
                    refine x_iload (np := 1) (x := 1) (by decide +kernel) rfl l132 ?_
                    refine x_aload (np := 2) (x := 0) (by decide +kernel) rfl (x_nc_le (by decide)) ?_
                    have q231 : h123 1 1 = h 1 1 := jK 0 f125 rg_1_1_0_1 (by omega) (by omega) (by decide)
                    refine x_getC (np := 5) (x := 449) (f := 1) (q := (h 1 1)) (by decide +kernel) (by decide) (by decide +kernel) q231 (fun l232 => ?_)
                    refine x_icmp (k := 3) (tg := 17) (np := 8) (by decide +kernel) (by decide) l132 l13 (fun q233 => ?_) (fun q234 => ?_)
                    · have q233 : (h 1 1) ≤ (h123 1 2) := q233
                      refine x_const (np := 18) (x := 9223372034707292159) (a := 2147483647) (by decide +kernel) (by decide) (by decide) ?_
                      refine x_retI (np := 19) (x := 0) (by decide +kernel) (by decide) (Or.inl (by decide +kernel)) ⟨_, rfl, (by decide), ?_⟩
                      refine x_iload (np := 9) (x := 1) (by decide +kernel) rfl (by decide) ?_
                      refine x_icmp (k := 1) (tg := 16) (np := 12) (by decide +kernel) (by decide) (by decide) (by decide) (fun q235 => ?_) (fun q236 => ?_)
                      · have q235 : 2147483647 ≠ 2147483710 := q235
                        refine x_const (np := 17) (x := 9223372039002259456) (a := 2147483648) (by decide +kernel) (by decide) (by decide) ?_
                        refine x_retI (np := 18) (x := 0) (by decide +kernel) (by decide) (Or.inr ⟨by decide +kernel, by omega, by omega⟩) ⟨_, rfl, (by decide), ?_⟩
                        refine x_ifz (k := 1) (tg := 10) (np := 8) (by decide +kernel) (by decide) (by decide) (fun q237 => ?_) (fun q238 => ?_)
                        · have q237 : 2147483648 ≠ 2147483648 := q237
                          exfalso; omega
                        have q238 : ¬ (2147483648 ≠ 2147483648) := q238
                        refine x_const (np := 9) (x := 9223372039002259456) (a := 2147483648) (by decide +kernel) (by decide) (by decide) ?_
                        refine x_retI (np := 10) (x := 0) (by decide +kernel) (by decide) (Or.inr ⟨by decide +kernel, by omega, by omega⟩) ⟨_, rfl, (by decide), ?_⟩
                        refine x_ifz (k := 0) (tg := 246) (np := 222) (by decide +kernel) (by decide) (by decide) (fun q239 => ?_) (fun q240 => ?_)
                        · have q239 : 2147483648 = 2147483648 := q239
                          refine x_const (np := 247) (x := 9223372039002259456) (a := 2147483648) (by decide +kernel) (by decide) (by decide) ?_
                          refine x_retI (np := 248) (x := 0) (by decide +kernel) (by decide) (Or.inr ⟨by decide +kernel, by omega, by omega⟩) ⟨_, rfl, (by decide), ?_⟩
                          exact ⟨j124, f127, (by omega)⟩
                        have q240 : ¬ (2147483648 = 2147483648) := q240
                        exfalso; omega
                      have q236 : ¬ (2147483647 ≠ 2147483710) := q236
                      exfalso; omega
                    have q234 : ¬ ((h 1 1) ≤ (h123 1 2)) := q234
                    refine x_aload (np := 9) (x := 0) (by decide +kernel) rfl (x_nc_le (by decide)) ?_
                    have q241 : h123 1 0 = 2 := by have z := jB (e := 0) 0 j124 rg_1_0_0_1 (by decide) (by decide); omega
                    refine x_getR (np := 12) (x := 448) (f := 0) (q := 2) (by decide +kernel) (by decide) (by decide +kernel) q241 ?_
                    refine x_iload (np := 13) (x := 1) (by decide +kernel) rfl l132 ?_
                    have q242 : h123 2 u219 = h 2 u219 := jK u219 f125 rg_2_0_1_400 (by omega) (by omega) (by decide)
                    refine x_aldC (np := 14) (x := 0) (n := 400) (i := u219) (q := (h 2 u219)) (by decide +kernel) (by decide +kernel) (by omega) (by omega) (by decide) q242 (fun l243 => ?_)
                    refine x_goto (np := 17) (x := 18) (by decide +kernel) ?_
                    refine x_retI (np := 19) (x := 0) (by decide +kernel) l222 (Or.inl (by decide +kernel)) ⟨_, rfl, l222, ?_⟩
                    refine x_iload (np := 9) (x := 1) (by decide +kernel) rfl (by decide) ?_
                    refine x_icmp (k := 1) (tg := 16) (np := 12) (by decide +kernel) (by decide) l222 (by decide) (fun q244 => ?_) (fun q245 => ?_)
                    · have q244 : (h 2 u219) ≠ 2147483710 := q244
                      refine x_const (np := 17) (x := 9223372039002259456) (a := 2147483648) (by decide +kernel) (by decide) (by decide) ?_
                      refine x_retI (np := 18) (x := 0) (by decide +kernel) (by decide) (Or.inr ⟨by decide +kernel, by omega, by omega⟩) ⟨_, rfl, (by decide), ?_⟩
                      refine x_ifz (k := 1) (tg := 10) (np := 8) (by decide +kernel) (by decide) (by decide) (fun q246 => ?_) (fun q247 => ?_)
                      · have q246 : 2147483648 ≠ 2147483648 := q246
                        exfalso; omega
                      have q247 : ¬ (2147483648 ≠ 2147483648) := q247
                      refine x_const (np := 9) (x := 9223372039002259456) (a := 2147483648) (by decide +kernel) (by decide) (by decide) ?_
                      refine x_retI (np := 10) (x := 0) (by decide +kernel) (by decide) (Or.inr ⟨by decide +kernel, by omega, by omega⟩) ⟨_, rfl, (by decide), ?_⟩
                      refine x_ifz (k := 0) (tg := 246) (np := 222) (by decide +kernel) (by decide) (by decide) (fun q248 => ?_) (fun q249 => ?_)
                      · have q248 : 2147483648 = 2147483648 := q248
                        refine x_const (np := 247) (x := 9223372039002259456) (a := 2147483648) (by decide +kernel) (by decide) (by decide) ?_
                        refine x_retI (np := 248) (x := 0) (by decide +kernel) (by decide) (Or.inr ⟨by decide +kernel, by omega, by omega⟩) ⟨_, rfl, (by decide), ?_⟩
                        exact ⟨j124, f127, (by omega)⟩
                      have q249 : ¬ (2147483648 = 2147483648) := q249
                      exfalso; omega
                    have q245 : ¬ ((h 2 u219) ≠ 2147483710) := q245
                    refine x_const (np := 13) (x := 9223372043297226753) (a := 2147483649) (by decide +kernel) (by decide) (by decide) ?_
                    refine x_goto (np := 16) (x := 17) (by decide +kernel) ?_
                    refine x_retI (np := 18) (x := 0) (by decide +kernel) (by decide) (Or.inr ⟨by decide +kernel, by omega, by omega⟩) ⟨_, rfl, (by decide), ?_⟩
                    refine x_ifz (k := 1) (tg := 10) (np := 8) (by decide +kernel) (by decide) (by decide) (fun q250 => ?_) (fun q251 => ?_)
                    · have q250 : 2147483649 ≠ 2147483648 := q250
                      refine x_aload (np := 11) (x := 0) (by decide +kernel) rfl (x_nc_le (by decide)) ?_
                      refine x_aload (np := 12) (x := 0) (by decide +kernel) rfl (x_nc_le (by decide)) ?_
                      refine x_getC (np := 15) (x := 450) (f := 2) (q := (h123 1 2)) (by decide +kernel) (by decide) (by decide +kernel) rfl (fun l252 => ?_)
                      refine x_const (np := 16) (x := 9223372043297226753) (a := 2147483649) (by decide +kernel) (by decide) (by decide) ?_
                      refine x_iadd (np := 17) (x := 0) (v := (1 + (h123 1 2))) (by decide +kernel) l132 (by decide) (by omega) (by omega) ?_
                      refine x_cV (t := 6) (mj := 80) (n := 2) (rc := 8) (ml := 2) (nr := 0) (np := 20) (as := [x_r 1, iv_c (1 + (h123 1 2))]) (rest := []) (lo1 := [x_r 1, iv_c (1 + (h123 1 2))]) (by decide +kernel) (by decide) (by decide +kernel) (x_rb_of (by decide +kernel)) rfl rfl (x_wr (by decide) (x_wi (by omega) x_wn)) x_wn (by decide) rfl (c80_1n j124  (by omega)) (fun h256 q255 => ?_)
                      obtain ⟨j257, f258⟩ := q255
                      have f261 := Fr.trans f127 f258 (by decide)
                      refine x_const (np := 21) (x := 9223372043297226753) (a := 2147483649) (by decide +kernel) (by decide) (by decide) ?_
                      refine x_retI (np := 22) (x := 0) (by decide +kernel) (by decide) (Or.inr ⟨by decide +kernel, by omega, by omega⟩) ⟨_, rfl, (by decide), ?_⟩
                      refine x_ifz (k := 0) (tg := 246) (np := 222) (by decide +kernel) (by decide) (by decide) (fun q262 => ?_) (fun q263 => ?_)
                      · have q262 : 2147483649 = 2147483648 := q262
                        exfalso; omega
                      have q263 : ¬ (2147483649 = 2147483648) := q263
                      refine x_aload (np := 223) (x := 0) (by decide +kernel) rfl (x_nc_le (by decide)) ?_
                      refine x_cI (t := 6) (mj := 49) (n := 1) (rc := 4) (ml := 2) (nr := 0) (np := 226) (as := [x_r 62]) (rest := []) (lo1 := [x_r 62, 147573952589676412928]) (by decide +kernel) (by decide) (by decide +kernel) (x_rb_of (by decide +kernel)) rfl rfl (x_wr (by decide) x_wn) x_wn (by decide) rfl (c49_62 j257 ) (fun v264 h267 l265 q266 => ?_)
                      obtain ⟨j268, f269, b270⟩ := q266
                      have f271 := Fr.trans f261 f269 (by decide)
                      refine x_ifz (k := 0) (tg := 246) (np := 229) (by decide +kernel) (by decide) l265 (fun q272 => ?_) (fun q273 => ?_)
                      · have q272 : v264 = 2147483648 := q272
                        refine x_const (np := 247) (x := 9223372039002259456) (a := 2147483648) (by decide +kernel) (by decide) (by decide) ?_
                        refine x_retI (np := 248) (x := 0) (by decide +kernel) (by decide) (Or.inr ⟨by decide +kernel, by omega, by omega⟩) ⟨_, rfl, (by decide), ?_⟩
                        exact ⟨j268, f271, (by omega)⟩
                      have q273 : ¬ (v264 = 2147483648) := q273
                      refine x_aload (np := 230) (x := 0) (by decide +kernel) rfl (x_nc_le (by decide)) ?_
                      have q274 : h267 62 1 = h256 62 1 := f269 62 1 (by decide +kernel)
                      have q275 : h256 62 1 = h123 62 1 := f258 62 1 (by decide +kernel)
                      have q276 : h123 62 1 = h 62 1 := f125 62 1 (by decide +kernel)
                      obtain ⟨r277, q278, t279⟩ : ∃ z, (h 62 1) = z + 11 ∧ tw z := by
                        rcases hJ.2.2.2.2.2.2.2 with z | z
                        · exact ⟨17, by rw [z], Or.inl rfl⟩
                        · exact ⟨31, by rw [z], Or.inr rfl⟩
                      refine x_getR (np := 233) (x := 193) (f := 1) (q := (r277 + 11)) (by decide +kernel) (by decide) (by decide +kernel) (((q274.trans q275).trans q276).trans q278) ?_
                      refine x_const (np := 236) (x := 9223380637526788050) (a := 2147485650) (by decide +kernel) (by decide) (by decide) ?_
                      refine x_nI (t := 6) (mj := 36) (n := 2) (rc := 3) (ml := 2) (nr := 0) (np := 239) (as := [x_r (r277 + 11), iv_c 2147485650]) (rest := []) (lo1 := [x_r (r277 + 11), iv_c 2147485650]) (by decide +kernel) (by decide) (by decide +kernel) (x_rb_of (tr_11_3 t279)) rfl rfl (x_wr (tn_11 t279) (x_wi (by decide) x_wn)) x_wn (by decide) rfl ?_
                      refine x_aload (np := 1) (x := 0) (by decide +kernel) rfl (x_nc_le (tn_11 t279)) ?_
                      have b280 := jB (e := 2) 0 j268 (rg_T11_2_0_1 t279) (by omega) (by omega)
                      refine x_getC (np := 4) (x := 130) (f := 2) (q := (h267 (r277 + 11) 2)) (by decide +kernel) (by decide) (tg_11_130_2_0 t279) rfl (fun l281 => ?_)
                      refine x_const (np := 7) (x := 9223373756989178256) (a := 2147484048) (by decide +kernel) (by decide) (by decide) ?_
                      refine x_icmp (k := 2) (tg := 12) (np := 10) (by decide +kernel) (by decide) l281 (by decide) (fun q282 => ?_) (fun q283 => ?_)
                      · have q282 : (h267 (r277 + 11) 2) < 2147484048 := q282
                        refine x_aload (np := 13) (x := 0) (by decide +kernel) rfl (x_nc_le (tn_11 t279)) ?_
                        have q284 : h267 (r277 + 11) 0 = (r277 + 12) := tf_11_0 j268 t279
                        refine x_getR (np := 16) (x := 128) (f := 0) (q := (r277 + 12)) (by decide +kernel) (by decide) (tg_11_128_0_1 t279) q284 ?_
                        refine x_aload (np := 17) (x := 0) (by decide +kernel) rfl (x_nc_le (tn_11 t279)) ?_
                        refine x_getC (np := 20) (x := 130) (f := 2) (q := (h267 (r277 + 11) 2)) (by decide +kernel) (by decide) (tg_11_130_2_0 t279) rfl (fun l285 => ?_)
                        refine x_iload (np := 21) (x := 1) (by decide +kernel) rfl (by decide) ?_
                        obtain ⟨u286, q287⟩ : ∃ z, (h267 (r277 + 11) 2) = 2147483648 + z := ⟨(h267 (r277 + 11) 2) - 2147483648, by omega⟩
                        refine x_ast (np := 22) (x := 0) (kd := 1) (n := 400) (i := u286) (by decide +kernel) (Or.inl rfl) (ta_12_400 t279) (by omega) (by omega) (by decide) (by decide) (fun z => absurd z (by decide)) ?_
                        have j289 := jU (e := u286) (v := 2147485650) u286 j268 (rg_T12_0_1_400 t279) (by omega) (by omega) (by omega)
                        have f291 := jF (e := u286) (v := 2147485650) u286 f271 (rg_T12_0_1_400 t279) (by omega) (by omega) (by decide)
                        generalize e290 : x_up h267 (r277 + 12) u286 2147485650 = h288 at j289 f291 ⊢
                        refine x_aload (np := 23) (x := 0) (by decide +kernel) rfl (x_nc_le (tn_11 t279)) ?_
                        refine x_dup (np := 24) (x := 0) (by decide +kernel) (by have z := x_nc_le (k := (r277 + 11)) (tn_11 t279); unfold x_r; omega) ?_
                        have q292 : h288 (r277 + 11) 2 = h267 (r277 + 11) 2 := by rw [← e290]; exact x_up_k tof_11_12
                        refine x_getC (np := 27) (x := 130) (f := 2) (q := (h267 (r277 + 11) 2)) (by decide +kernel) (by decide) (tg_11_130_2_0 t279) q292 (fun l293 => ?_)
                        refine x_const (np := 28) (x := 9223372043297226753) (a := 2147483649) (by decide +kernel) (by decide) (by decide) ?_
                        refine x_iadd (np := 29) (x := 0) (v := (1 + (h267 (r277 + 11) 2))) (by decide +kernel) l281 (by decide) (by omega) (by omega) ?_
                        refine x_putI (np := 32) (x := 130) (f := 2) (by decide +kernel) (tg_11_130_2_0 t279) (by omega) (Or.inl (by decide)) ?_
                        have j295 := jU (e := 2) (v := (1 + (h267 (r277 + 11) 2))) 0 j289 (rg_T11_2_0_1 t279) (by omega) (by omega) (by omega)
                        have f297 := jF (e := 2) (v := (1 + (h267 (r277 + 11) 2))) 0 f291 (rg_T11_2_0_1 t279) (by omega) (by omega) (by decide)
                        generalize e296 : x_up h288 (r277 + 11) 2 (1 + (h267 (r277 + 11) 2)) = h294 at j295 f297 ⊢
                        refine x_const (np := 33) (x := 9223372043297226753) (a := 2147483649) (by decide +kernel) (by decide) (by decide) ?_
                        refine x_retI (np := 34) (x := 0) (by decide +kernel) (by decide) (Or.inr ⟨by decide +kernel, by omega, by omega⟩) ⟨_, rfl, (by decide), ?_⟩
                        refine x_ifz (k := 0) (tg := 246) (np := 242) (by decide +kernel) (by decide) (by decide) (fun q298 => ?_) (fun q299 => ?_)
                        · have q298 : 2147483649 = 2147483648 := q298
                          exfalso; omega
                        have q299 : ¬ (2147483649 = 2147483648) := q299
                        refine x_const (np := 243) (x := 9223372043297226753) (a := 2147483649) (by decide +kernel) (by decide) (by decide) ?_
                        refine x_goto (np := 246) (x := 247) (by decide +kernel) ?_
                        refine x_retI (np := 248) (x := 0) (by decide +kernel) (by decide) (Or.inr ⟨by decide +kernel, by omega, by omega⟩) ⟨_, rfl, (by decide), ?_⟩
                        exact ⟨j295, f297, (by omega)⟩
                      have q283 : ¬ ((h267 (r277 + 11) 2) < 2147484048) := q283
                      refine x_const (np := 11) (x := 9223372039002259456) (a := 2147483648) (by decide +kernel) (by decide) (by decide) ?_
                      refine x_retI (np := 12) (x := 0) (by decide +kernel) (by decide) (Or.inr ⟨by decide +kernel, by omega, by omega⟩) ⟨_, rfl, (by decide), ?_⟩
                      refine x_ifz (k := 0) (tg := 246) (np := 242) (by decide +kernel) (by decide) (by decide) (fun q300 => ?_) (fun q301 => ?_)
                      · have q300 : 2147483648 = 2147483648 := q300
                        refine x_const (np := 247) (x := 9223372039002259456) (a := 2147483648) (by decide +kernel) (by decide) (by decide) ?_
                        refine x_retI (np := 248) (x := 0) (by decide +kernel) (by decide) (Or.inr ⟨by decide +kernel, by omega, by omega⟩) ⟨_, rfl, (by decide), ?_⟩
                        exact ⟨j268, f271, (by omega)⟩
                      have q301 : ¬ (2147483648 = 2147483648) := q301
                      exfalso; omega
                    have q251 : ¬ (2147483649 ≠ 2147483648) := q251
                    exfalso; omega
                  have q228 : ¬ (2147483648 = 2147483648) := q228
                  exfalso; omega
                have q224 : ¬ ((h 2 u219) ≠ 2147483708) := q224
                refine x_const (np := 13) (x := 9223372043297226753) (a := 2147483649) (by decide +kernel) (by decide) (by decide) ?_
                refine x_goto (np := 16) (x := 17) (by decide +kernel) ?_
                refine x_retI (np := 18) (x := 0) (by decide +kernel) (by decide) (Or.inr ⟨by decide +kernel, by omega, by omega⟩) ⟨_, rfl, (by decide), ?_⟩
                refine x_ifz (k := 1) (tg := 10) (np := 8) (by decide +kernel) (by decide) (by decide) (fun q302 => ?_) (fun q303 => ?_)
                · have q302 : 2147483649 ≠ 2147483648 := q302
                  refine x_aload (np := 11) (x := 0) (by decide +kernel) rfl (x_nc_le (by decide)) ?_
                  refine x_aload (np := 12) (x := 0) (by decide +kernel) rfl (x_nc_le (by decide)) ?_
                  refine x_getC (np := 15) (x := 450) (f := 2) (q := (h123 1 2)) (by decide +kernel) (by decide) (by decide +kernel) rfl (fun l304 => ?_)
                  refine x_const (np := 16) (x := 9223372043297226753) (a := 2147483649) (by decide +kernel) (by decide) (by decide) ?_
                  refine x_iadd (np := 17) (x := 0) (v := (1 + (h123 1 2))) (by decide +kernel) l132 (by decide) (by omega) (by omega) ?_
                  refine x_cV (t := 6) (mj := 80) (n := 2) (rc := 8) (ml := 2) (nr := 0) (np := 20) (as := [x_r 1, iv_c (1 + (h123 1 2))]) (rest := []) (lo1 := [x_r 1, iv_c (1 + (h123 1 2))]) (by decide +kernel) (by decide) (by decide +kernel) (x_rb_of (by decide +kernel)) rfl rfl (x_wr (by decide) (x_wi (by omega) x_wn)) x_wn (by decide) rfl (c80_1n j124  (by omega)) (fun h308 q307 => ?_)
                  obtain ⟨j309, f310⟩ := q307
                  have f313 := Fr.trans f127 f310 (by decide)
                  refine x_const (np := 21) (x := 9223372043297226753) (a := 2147483649) (by decide +kernel) (by decide) (by decide) ?_
                  refine x_retI (np := 22) (x := 0) (by decide +kernel) (by decide) (Or.inr ⟨by decide +kernel, by omega, by omega⟩) ⟨_, rfl, (by decide), ?_⟩
                  refine x_ifz (k := 0) (tg := 210) (np := 184) (by decide +kernel) (by decide) (by decide) (fun q314 => ?_) (fun q315 => ?_)
                  · have q314 : 2147483649 = 2147483648 := q314
                    exfalso; omega
                  have q315 : ¬ (2147483649 = 2147483648) := q315
                  refine x_aload (np := 185) (x := 0) (by decide +kernel) rfl (x_nc_le (by decide)) ?_
                  refine x_cI (t := 6) (mj := 49) (n := 1) (rc := 4) (ml := 2) (nr := 0) (np := 188) (as := [x_r 62]) (rest := []) (lo1 := [x_r 62, 147573952589676412928]) (by decide +kernel) (by decide) (by decide +kernel) (x_rb_of (by decide +kernel)) rfl rfl (x_wr (by decide) x_wn) x_wn (by decide) rfl (c49_62 j309 ) (fun v316 h319 l317 q318 => ?_)
                  obtain ⟨j320, f321, b322⟩ := q318
                  have f323 := Fr.trans f313 f321 (by decide)
                  refine x_ifz (k := 0) (tg := 208) (np := 191) (by decide +kernel) (by decide) l317 (fun q324 => ?_) (fun q325 => ?_)
                  · have q324 : v316 = 2147483648 := q324
                    refine x_const (np := 209) (x := 9223372039002259456) (a := 2147483648) (by decide +kernel) (by decide) (by decide) ?_
                    refine x_retI (np := 210) (x := 0) (by decide +kernel) (by decide) (Or.inr ⟨by decide +kernel, by omega, by omega⟩) ⟨_, rfl, (by decide), ?_⟩
                    exact ⟨j320, f323, (by omega)⟩
                  have q325 : ¬ (v316 = 2147483648) := q325
                  refine x_aload (np := 192) (x := 0) (by decide +kernel) rfl (x_nc_le (by decide)) ?_
                  have q326 : h319 62 1 = h308 62 1 := f321 62 1 (by decide +kernel)
                  have q327 : h308 62 1 = h123 62 1 := f310 62 1 (by decide +kernel)
                  have q328 : h123 62 1 = h 62 1 := f125 62 1 (by decide +kernel)
                  obtain ⟨r329, q330, t331⟩ : ∃ z, (h 62 1) = z + 11 ∧ tw z := by
                    rcases hJ.2.2.2.2.2.2.2 with z | z
                    · exact ⟨17, by rw [z], Or.inl rfl⟩
                    · exact ⟨31, by rw [z], Or.inr rfl⟩
                  refine x_getR (np := 195) (x := 193) (f := 1) (q := (r329 + 11)) (by decide +kernel) (by decide) (by decide +kernel) (((q326.trans q327).trans q328).trans q330) ?_
                  refine x_const (np := 198) (x := 9223380633231820753) (a := 2147485649) (by decide +kernel) (by decide) (by decide) ?_
                  refine x_nI (t := 6) (mj := 36) (n := 2) (rc := 3) (ml := 2) (nr := 0) (np := 201) (as := [x_r (r329 + 11), iv_c 2147485649]) (rest := []) (lo1 := [x_r (r329 + 11), iv_c 2147485649]) (by decide +kernel) (by decide) (by decide +kernel) (x_rb_of (tr_11_3 t331)) rfl rfl (x_wr (tn_11 t331) (x_wi (by decide) x_wn)) x_wn (by decide) rfl ?_
                  refine x_aload (np := 1) (x := 0) (by decide +kernel) rfl (x_nc_le (tn_11 t331)) ?_
                  have b332 := jB (e := 2) 0 j320 (rg_T11_2_0_1 t331) (by omega) (by omega)
                  refine x_getC (np := 4) (x := 130) (f := 2) (q := (h319 (r329 + 11) 2)) (by decide +kernel) (by decide) (tg_11_130_2_0 t331) rfl (fun l333 => ?_)
                  refine x_const (np := 7) (x := 9223373756989178256) (a := 2147484048) (by decide +kernel) (by decide) (by decide) ?_
                  refine x_icmp (k := 2) (tg := 12) (np := 10) (by decide +kernel) (by decide) l333 (by decide) (fun q334 => ?_) (fun q335 => ?_)
                  · have q334 : (h319 (r329 + 11) 2) < 2147484048 := q334
                    refine x_aload (np := 13) (x := 0) (by decide +kernel) rfl (x_nc_le (tn_11 t331)) ?_
                    have q336 : h319 (r329 + 11) 0 = (r329 + 12) := tf_11_0 j320 t331
                    refine x_getR (np := 16) (x := 128) (f := 0) (q := (r329 + 12)) (by decide +kernel) (by decide) (tg_11_128_0_1 t331) q336 ?_
                    refine x_aload (np := 17) (x := 0) (by decide +kernel) rfl (x_nc_le (tn_11 t331)) ?_
                    refine x_getC (np := 20) (x := 130) (f := 2) (q := (h319 (r329 + 11) 2)) (by decide +kernel) (by decide) (tg_11_130_2_0 t331) rfl (fun l337 => ?_)
                    refine x_iload (np := 21) (x := 1) (by decide +kernel) rfl (by decide) ?_
                    obtain ⟨u338, q339⟩ : ∃ z, (h319 (r329 + 11) 2) = 2147483648 + z := ⟨(h319 (r329 + 11) 2) - 2147483648, by omega⟩
                    refine x_ast (np := 22) (x := 0) (kd := 1) (n := 400) (i := u338) (by decide +kernel) (Or.inl rfl) (ta_12_400 t331) (by omega) (by omega) (by decide) (by decide) (fun z => absurd z (by decide)) ?_
                    have j341 := jU (e := u338) (v := 2147485649) u338 j320 (rg_T12_0_1_400 t331) (by omega) (by omega) (by omega)
                    have f343 := jF (e := u338) (v := 2147485649) u338 f323 (rg_T12_0_1_400 t331) (by omega) (by omega) (by decide)
                    generalize e342 : x_up h319 (r329 + 12) u338 2147485649 = h340 at j341 f343 ⊢
                    refine x_aload (np := 23) (x := 0) (by decide +kernel) rfl (x_nc_le (tn_11 t331)) ?_
                    refine x_dup (np := 24) (x := 0) (by decide +kernel) (by have z := x_nc_le (k := (r329 + 11)) (tn_11 t331); unfold x_r; omega) ?_
                    have q344 : h340 (r329 + 11) 2 = h319 (r329 + 11) 2 := by rw [← e342]; exact x_up_k tof_11_12
                    refine x_getC (np := 27) (x := 130) (f := 2) (q := (h319 (r329 + 11) 2)) (by decide +kernel) (by decide) (tg_11_130_2_0 t331) q344 (fun l345 => ?_)
                    refine x_const (np := 28) (x := 9223372043297226753) (a := 2147483649) (by decide +kernel) (by decide) (by decide) ?_
                    refine x_iadd (np := 29) (x := 0) (v := (1 + (h319 (r329 + 11) 2))) (by decide +kernel) l333 (by decide) (by omega) (by omega) ?_
                    refine x_putI (np := 32) (x := 130) (f := 2) (by decide +kernel) (tg_11_130_2_0 t331) (by omega) (Or.inl (by decide)) ?_
                    have j347 := jU (e := 2) (v := (1 + (h319 (r329 + 11) 2))) 0 j341 (rg_T11_2_0_1 t331) (by omega) (by omega) (by omega)
                    have f349 := jF (e := 2) (v := (1 + (h319 (r329 + 11) 2))) 0 f343 (rg_T11_2_0_1 t331) (by omega) (by omega) (by decide)
                    generalize e348 : x_up h340 (r329 + 11) 2 (1 + (h319 (r329 + 11) 2)) = h346 at j347 f349 ⊢
                    refine x_const (np := 33) (x := 9223372043297226753) (a := 2147483649) (by decide +kernel) (by decide) (by decide) ?_
                    refine x_retI (np := 34) (x := 0) (by decide +kernel) (by decide) (Or.inr ⟨by decide +kernel, by omega, by omega⟩) ⟨_, rfl, (by decide), ?_⟩
                    refine x_ifz (k := 0) (tg := 208) (np := 204) (by decide +kernel) (by decide) (by decide) (fun q350 => ?_) (fun q351 => ?_)
                    · have q350 : 2147483649 = 2147483648 := q350
                      exfalso; omega
                    have q351 : ¬ (2147483649 = 2147483648) := q351
                    refine x_const (np := 205) (x := 9223372043297226753) (a := 2147483649) (by decide +kernel) (by decide) (by decide) ?_
                    refine x_goto (np := 208) (x := 209) (by decide +kernel) ?_
                    refine x_retI (np := 210) (x := 0) (by decide +kernel) (by decide) (Or.inr ⟨by decide +kernel, by omega, by omega⟩) ⟨_, rfl, (by decide), ?_⟩
                    exact ⟨j347, f349, (by omega)⟩
                  have q335 : ¬ ((h319 (r329 + 11) 2) < 2147484048) := q335
                  refine x_const (np := 11) (x := 9223372039002259456) (a := 2147483648) (by decide +kernel) (by decide) (by decide) ?_
                  refine x_retI (np := 12) (x := 0) (by decide +kernel) (by decide) (Or.inr ⟨by decide +kernel, by omega, by omega⟩) ⟨_, rfl, (by decide), ?_⟩
                  refine x_ifz (k := 0) (tg := 208) (np := 204) (by decide +kernel) (by decide) (by decide) (fun q352 => ?_) (fun q353 => ?_)
                  · have q352 : 2147483648 = 2147483648 := q352
                    refine x_const (np := 209) (x := 9223372039002259456) (a := 2147483648) (by decide +kernel) (by decide) (by decide) ?_
                    refine x_retI (np := 210) (x := 0) (by decide +kernel) (by decide) (Or.inr ⟨by decide +kernel, by omega, by omega⟩) ⟨_, rfl, (by decide), ?_⟩
                    exact ⟨j320, f323, (by omega)⟩
                  have q353 : ¬ (2147483648 = 2147483648) := q353
                  exfalso; omega
                have q303 : ¬ (2147483649 ≠ 2147483648) := q303
                exfalso; omega
              have q129 : ¬ (v120 ≠ 2147483648) := q129
              refine x_const (np := 171) (x := 9223372039002259456) (a := 2147483648) (by decide +kernel) (by decide) (by decide) ?_
              refine x_retI (np := 172) (x := 0) (by decide +kernel) (by decide) (Or.inr ⟨by decide +kernel, by omega, by omega⟩) ⟨_, rfl, (by decide), ?_⟩
              exact ⟨j124, f127, (by omega)⟩
            have q119 : ¬ (2147483648 = 2147483648) := q119
            exfalso; omega
          have q69 : ¬ (2147483648 = 2147483648) := q69
          exfalso; omega
        have q19 : ¬ (2147483648 = 2147483648) := q19
        exfalso; omega
      have q17 : ¬ (2147483647 ≠ 2147483688) := q17
      exfalso; omega
    have q15 : ¬ ((h 1 1) ≤ (h 1 2)) := q15
    refine x_aload (np := 9) (x := 0) (by decide +kernel) rfl (x_nc_le (by decide)) ?_
    have q354 : h 1 0 = 2 := by have z := jB (e := 0) 0 hJ rg_1_0_0_1 (by decide) (by decide); omega
    refine x_getR (np := 12) (x := 448) (f := 0) (q := 2) (by decide +kernel) (by decide) (by decide +kernel) q354 ?_
    refine x_iload (np := 13) (x := 1) (by decide +kernel) rfl l11 ?_
    obtain ⟨u355, q356⟩ : ∃ z, (h 1 2) = 2147483648 + z := ⟨(h 1 2) - 2147483648, by omega⟩
    refine x_aldC (np := 14) (x := 0) (n := 400) (i := u355) (q := (h 2 u355)) (by decide +kernel) (by decide +kernel) (by omega) (by omega) (by decide) rfl (fun l357 => ?_)
    refine x_goto (np := 17) (x := 18) (by decide +kernel) ?_
    refine x_retI (np := 19) (x := 0) (by decide +kernel) l357 (Or.inl (by decide +kernel)) ⟨_, rfl, l357, ?_⟩
    refine x_iload (np := 9) (x := 1) (by decide +kernel) rfl (by decide) ?_
    refine x_icmp (k := 1) (tg := 16) (np := 12) (by decide +kernel) (by decide) l357 (by decide) (fun q358 => ?_) (fun q359 => ?_)
    · have q358 : (h 2 u355) ≠ 2147483688 := q358
      refine x_const (np := 17) (x := 9223372039002259456) (a := 2147483648) (by decide +kernel) (by decide) (by decide) ?_
      refine x_retI (np := 18) (x := 0) (by decide +kernel) (by decide) (Or.inr ⟨by decide +kernel, by omega, by omega⟩) ⟨_, rfl, (by decide), ?_⟩
      refine x_ifz (k := 0) (tg := 117) (np := 71) (by decide +kernel) (by decide) (by decide) (fun q360 => ?_) (fun q361 => ?_)
      · have q360 : 2147483648 = 2147483648 := q360
        refine x_aload (np := 118) (x := 0) (by decide +kernel) rfl (x_nc_le (by decide)) ?_
        have q362 : h 62 0 = 1 := by have z := jB (e := 0) 0 hJ rg_62_0_0_1 (by decide) (by decide); omega
        refine x_getR (np := 121) (x := 192) (f := 0) (q := 1) (by decide +kernel) (by decide) (by decide +kernel) q362 ?_
        refine x_ldcB (i := 25) (idx := 79) (tx := "own") (by rw [tb_y48]; exact List.mem_of_getElem? (i := 25) rfl) (by decide) (by rw [tb_b48]; decide +kernel) ?_
        refine x_nI (t := 6) (mj := 78) (n := 2) (rc := 8) (ml := 2) (nr := 0) (np := 126) (as := [x_r 1, x_b (25 + 1)]) (rest := []) (lo1 := [x_r 1, x_b (25 + 1)]) (by decide +kernel) (by decide) (by decide +kernel) (x_rb_of (by decide +kernel)) rfl rfl (x_wr (by decide) (x_wB (by decide) x_wn)) x_wn (by decide) rfl ?_
        refine x_aload (np := 1) (x := 0) (by decide +kernel) rfl (x_nc_le (by decide)) ?_
        refine x_aloadB (i := 25) (k4 := 1) rfl (by decide) (by rw [tb_b78]; decide +kernel) ?_
        refine x_cP (t := 6) (mj := 77) (n := 2) (rc := 8) (ml := 4) (nr := 0) (np := 5) (as := [x_r 1, x_b (25 + 1)]) (rest := []) (lo1 := [x_r 1, x_b (25 + 1), 147573952589676412928, 147573952589676412928]) (by decide +kernel) (by decide) (by decide +kernel) (x_rb_of (by decide +kernel)) rfl rfl (x_wr (by decide) (x_wB (by decide) x_wn)) x_wn (by decide) rfl (c77_1_S0 hJ  (by decide)) (fun v363 l364 q365 => ?_)
        obtain ⟨b367, c366⟩ := q365
        refine x_ifz (k := 1) (tg := 10) (np := 8) (by decide +kernel) (by decide) l364 (fun q368 => ?_) (fun q369 => ?_)
        · have q368 : v363 ≠ 2147483648 := q368
          have b370 := c366 (by omega)
          refine x_aload (np := 11) (x := 0) (by decide +kernel) rfl (x_nc_le (by decide)) ?_
          refine x_aload (np := 12) (x := 0) (by decide +kernel) rfl (x_nc_le (by decide)) ?_
          refine x_getC (np := 15) (x := 450) (f := 2) (q := (h 1 2)) (by decide +kernel) (by decide) (by decide +kernel) rfl (fun l371 => ?_)
          refine x_aloadB (i := 25) (k4 := 1) rfl (by decide) (by rw [tb_b78]; decide +kernel) ?_
          have b372 := (iv_tl_lt 25 (by decide)).1
          have b373 := iv_tl_ge 25 (by decide)
          refine x_len (by decide +kernel) (by rw [tb_y78]; exact sl_Tl) (by decide) (by rw [tb_b78]; decide +kernel) (Nat.le_trans (x_wi l11 (x_wr (by decide) x_wn)) (by decide)) ?_
          refine x_iadd (np := 20) (x := 0) (v := ((h 1 2) + (iv_tl 25))) (by decide +kernel) l11 (by omega) (by omega) (by omega) ?_
          refine x_cV (t := 6) (mj := 80) (n := 2) (rc := 8) (ml := 2) (nr := 0) (np := 23) (as := [x_r 1, iv_c ((h 1 2) + (iv_tl 25))]) (rest := []) (lo1 := [x_r 1, iv_c ((h 1 2) + (iv_tl 25))]) (by decide +kernel) (by decide) (by decide +kernel) (x_rb_of (by decide +kernel)) rfl rfl (x_wr (by decide) (x_wi (by omega) x_wn)) x_wn (by decide) rfl (c80_1n hJ  (by omega)) (fun h377 q376 => ?_)
          obtain ⟨j378, f379⟩ := q376
          have f382 := Fr.trans hF f379 (by decide)
          refine x_const (np := 24) (x := 9223372043297226753) (a := 2147483649) (by decide +kernel) (by decide) (by decide) ?_
          refine x_retI (np := 25) (x := 0) (by decide +kernel) (by decide) (Or.inr ⟨by decide +kernel, by omega, by omega⟩) ⟨_, rfl, (by decide), ?_⟩
          refine x_ifz (k := 0) (tg := 140) (np := 129) (by decide +kernel) (by decide) (by decide) (fun q383 => ?_) (fun q384 => ?_)
          · have q383 : 2147483649 = 2147483648 := q383
            exfalso; omega
          have q384 : ¬ (2147483649 = 2147483648) := q384
          refine x_aload (np := 130) (x := 0) (by decide +kernel) rfl (x_nc_le (by decide)) ?_
          have q385 : h377 62 1 = h 62 1 := f379 62 1 (by decide +kernel)
          obtain ⟨r386, q387, t388⟩ : ∃ z, (h 62 1) = z + 11 ∧ tw z := by
            rcases hJ.2.2.2.2.2.2.2 with z | z
            · exact ⟨17, by rw [z], Or.inl rfl⟩
            · exact ⟨31, by rw [z], Or.inr rfl⟩
          refine x_getR (np := 133) (x := 193) (f := 1) (q := (r386 + 11)) (by decide +kernel) (by decide) (by decide +kernel) (q385.trans q387) ?_
          refine x_const (np := 136) (x := 9223376359739360238) (a := 2147484654) (by decide +kernel) (by decide) (by decide) ?_
          refine x_nI (t := 6) (mj := 36) (n := 2) (rc := 3) (ml := 2) (nr := 0) (np := 139) (as := [x_r (r386 + 11), iv_c 2147484654]) (rest := []) (lo1 := [x_r (r386 + 11), iv_c 2147484654]) (by decide +kernel) (by decide) (by decide +kernel) (x_rb_of (tr_11_3 t388)) rfl rfl (x_wr (tn_11 t388) (x_wi (by decide) x_wn)) x_wn (by decide) rfl ?_
          refine x_aload (np := 1) (x := 0) (by decide +kernel) rfl (x_nc_le (tn_11 t388)) ?_
          have q389 : h377 (r386 + 11) 2 = h (r386 + 11) 2 := jK 0 f379 (rg_T11_2_0_1 t388) (by omega) (by omega) (by decide)
          have b390 := jB (e := 2) 0 hJ (rg_T11_2_0_1 t388) (by omega) (by omega)
          refine x_getC (np := 4) (x := 130) (f := 2) (q := (h (r386 + 11) 2)) (by decide +kernel) (by decide) (tg_11_130_2_0 t388) q389 (fun l391 => ?_)
          refine x_const (np := 7) (x := 9223373756989178256) (a := 2147484048) (by decide +kernel) (by decide) (by decide) ?_
          refine x_icmp (k := 2) (tg := 12) (np := 10) (by decide +kernel) (by decide) l391 (by decide) (fun q392 => ?_) (fun q393 => ?_)
          · have q392 : (h (r386 + 11) 2) < 2147484048 := q392
            refine x_aload (np := 13) (x := 0) (by decide +kernel) rfl (x_nc_le (tn_11 t388)) ?_
            have q394 : h377 (r386 + 11) 0 = (r386 + 12) := tf_11_0 j378 t388
            refine x_getR (np := 16) (x := 128) (f := 0) (q := (r386 + 12)) (by decide +kernel) (by decide) (tg_11_128_0_1 t388) q394 ?_
            refine x_aload (np := 17) (x := 0) (by decide +kernel) rfl (x_nc_le (tn_11 t388)) ?_
            have q395 : h377 (r386 + 11) 2 = h (r386 + 11) 2 := jK 0 f379 (rg_T11_2_0_1 t388) (by omega) (by omega) (by decide)
            refine x_getC (np := 20) (x := 130) (f := 2) (q := (h (r386 + 11) 2)) (by decide +kernel) (by decide) (tg_11_130_2_0 t388) q395 (fun l396 => ?_)
            refine x_iload (np := 21) (x := 1) (by decide +kernel) rfl (by decide) ?_
            obtain ⟨u397, q398⟩ : ∃ z, (h (r386 + 11) 2) = 2147483648 + z := ⟨(h (r386 + 11) 2) - 2147483648, by omega⟩
            refine x_ast (np := 22) (x := 0) (kd := 1) (n := 400) (i := u397) (by decide +kernel) (Or.inl rfl) (ta_12_400 t388) (by omega) (by omega) (by decide) (by decide) (fun z => absurd z (by decide)) ?_
            have j400 := jU (e := u397) (v := 2147484654) u397 j378 (rg_T12_0_1_400 t388) (by omega) (by omega) (by omega)
            have f402 := jF (e := u397) (v := 2147484654) u397 f382 (rg_T12_0_1_400 t388) (by omega) (by omega) (by decide)
            generalize e401 : x_up h377 (r386 + 12) u397 2147484654 = h399 at j400 f402 ⊢
            refine x_aload (np := 23) (x := 0) (by decide +kernel) rfl (x_nc_le (tn_11 t388)) ?_
            refine x_dup (np := 24) (x := 0) (by decide +kernel) (by have z := x_nc_le (k := (r386 + 11)) (tn_11 t388); unfold x_r; omega) ?_
            have q403 : h399 (r386 + 11) 2 = h377 (r386 + 11) 2 := by rw [← e401]; exact x_up_k tof_11_12
            have q404 : h377 (r386 + 11) 2 = h (r386 + 11) 2 := jK 0 f379 (rg_T11_2_0_1 t388) (by omega) (by omega) (by decide)
            refine x_getC (np := 27) (x := 130) (f := 2) (q := (h (r386 + 11) 2)) (by decide +kernel) (by decide) (tg_11_130_2_0 t388) (q403.trans q404) (fun l405 => ?_)
            refine x_const (np := 28) (x := 9223372043297226753) (a := 2147483649) (by decide +kernel) (by decide) (by decide) ?_
            refine x_iadd (np := 29) (x := 0) (v := (1 + (h (r386 + 11) 2))) (by decide +kernel) l391 (by decide) (by omega) (by omega) ?_
            refine x_putI (np := 32) (x := 130) (f := 2) (by decide +kernel) (tg_11_130_2_0 t388) (by omega) (Or.inl (by decide)) ?_
            have j407 := jU (e := 2) (v := (1 + (h (r386 + 11) 2))) 0 j400 (rg_T11_2_0_1 t388) (by omega) (by omega) (by omega)
            have f409 := jF (e := 2) (v := (1 + (h (r386 + 11) 2))) 0 f402 (rg_T11_2_0_1 t388) (by omega) (by omega) (by decide)
            generalize e408 : x_up h399 (r386 + 11) 2 (1 + (h (r386 + 11) 2)) = h406 at j407 f409 ⊢
            refine x_const (np := 33) (x := 9223372043297226753) (a := 2147483649) (by decide +kernel) (by decide) (by decide) ?_
            refine x_retI (np := 34) (x := 0) (by decide +kernel) (by decide) (Or.inr ⟨by decide +kernel, by omega, by omega⟩) ⟨_, rfl, (by decide), ?_⟩
            refine x_retI (np := 140) (x := 0) (by decide +kernel) (by decide) (Or.inr ⟨by decide +kernel, by omega, by omega⟩) ⟨_, rfl, (by decide), ?_⟩
            exact ⟨j407, f409, (by omega)⟩
          have q393 : ¬ ((h (r386 + 11) 2) < 2147484048) := q393
          refine x_const (np := 11) (x := 9223372039002259456) (a := 2147483648) (by decide +kernel) (by decide) (by decide) ?_
          refine x_retI (np := 12) (x := 0) (by decide +kernel) (by decide) (Or.inr ⟨by decide +kernel, by omega, by omega⟩) ⟨_, rfl, (by decide), ?_⟩
          refine x_retI (np := 140) (x := 0) (by decide +kernel) (by decide) (Or.inr ⟨by decide +kernel, by omega, by omega⟩) ⟨_, rfl, (by decide), ?_⟩
          exact ⟨j378, f382, (by omega)⟩
        have q369 : ¬ (v363 ≠ 2147483648) := q369
        refine x_const (np := 9) (x := 9223372039002259456) (a := 2147483648) (by decide +kernel) (by decide) (by decide) ?_
        refine x_retI (np := 10) (x := 0) (by decide +kernel) (by decide) (Or.inr ⟨by decide +kernel, by omega, by omega⟩) ⟨_, rfl, (by decide), ?_⟩
        refine x_ifz (k := 0) (tg := 140) (np := 129) (by decide +kernel) (by decide) (by decide) (fun q410 => ?_) (fun q411 => ?_)
        · have q410 : 2147483648 = 2147483648 := q410
          refine x_aload (np := 141) (x := 0) (by decide +kernel) rfl (x_nc_le (by decide)) ?_
          have q412 : h 62 0 = 1 := by have z := jB (e := 0) 0 hJ rg_62_0_0_1 (by decide) (by decide); omega
          refine x_getR (np := 144) (x := 192) (f := 0) (q := 1) (by decide +kernel) (by decide) (by decide +kernel) q412 ?_
          refine x_ldcB (i := 26) (idx := 81) (tx := "mine") (by rw [tb_y48]; exact List.mem_of_getElem? (i := 26) rfl) (by decide) (by rw [tb_b48]; decide +kernel) ?_
          refine x_nI (t := 6) (mj := 78) (n := 2) (rc := 8) (ml := 2) (nr := 0) (np := 149) (as := [x_r 1, x_b (26 + 1)]) (rest := []) (lo1 := [x_r 1, x_b (26 + 1)]) (by decide +kernel) (by decide) (by decide +kernel) (x_rb_of (by decide +kernel)) rfl rfl (x_wr (by decide) (x_wB (by decide) x_wn)) x_wn (by decide) rfl ?_
          refine x_aload (np := 1) (x := 0) (by decide +kernel) rfl (x_nc_le (by decide)) ?_
          refine x_aloadB (i := 26) (k4 := 1) rfl (by decide) (by rw [tb_b78]; decide +kernel) ?_
          refine x_cP (t := 6) (mj := 77) (n := 2) (rc := 8) (ml := 4) (nr := 0) (np := 5) (as := [x_r 1, x_b (26 + 1)]) (rest := []) (lo1 := [x_r 1, x_b (26 + 1), 147573952589676412928, 147573952589676412928]) (by decide +kernel) (by decide) (by decide +kernel) (x_rb_of (by decide +kernel)) rfl rfl (x_wr (by decide) (x_wB (by decide) x_wn)) x_wn (by decide) rfl (c77_1_S0 hJ  (by decide)) (fun v413 l414 q415 => ?_)
          obtain ⟨b417, c416⟩ := q415
          refine x_ifz (k := 1) (tg := 10) (np := 8) (by decide +kernel) (by decide) l414 (fun q418 => ?_) (fun q419 => ?_)
          · have q418 : v413 ≠ 2147483648 := q418
            have b420 := c416 (by omega)
            refine x_aload (np := 11) (x := 0) (by decide +kernel) rfl (x_nc_le (by decide)) ?_
            refine x_aload (np := 12) (x := 0) (by decide +kernel) rfl (x_nc_le (by decide)) ?_
            refine x_getC (np := 15) (x := 450) (f := 2) (q := (h 1 2)) (by decide +kernel) (by decide) (by decide +kernel) rfl (fun l421 => ?_)
            refine x_aloadB (i := 26) (k4 := 1) rfl (by decide) (by rw [tb_b78]; decide +kernel) ?_
            have b422 := (iv_tl_lt 26 (by decide)).1
            have b423 := iv_tl_ge 26 (by decide)
            refine x_len (by decide +kernel) (by rw [tb_y78]; exact sl_Tl) (by decide) (by rw [tb_b78]; decide +kernel) (Nat.le_trans (x_wi l11 (x_wr (by decide) x_wn)) (by decide)) ?_
            refine x_iadd (np := 20) (x := 0) (v := ((h 1 2) + (iv_tl 26))) (by decide +kernel) l11 (by omega) (by omega) (by omega) ?_
            refine x_cV (t := 6) (mj := 80) (n := 2) (rc := 8) (ml := 2) (nr := 0) (np := 23) (as := [x_r 1, iv_c ((h 1 2) + (iv_tl 26))]) (rest := []) (lo1 := [x_r 1, iv_c ((h 1 2) + (iv_tl 26))]) (by decide +kernel) (by decide) (by decide +kernel) (x_rb_of (by decide +kernel)) rfl rfl (x_wr (by decide) (x_wi (by omega) x_wn)) x_wn (by decide) rfl (c80_1n hJ  (by omega)) (fun h427 q426 => ?_)
            obtain ⟨j428, f429⟩ := q426
            have f432 := Fr.trans hF f429 (by decide)
            refine x_const (np := 24) (x := 9223372043297226753) (a := 2147483649) (by decide +kernel) (by decide) (by decide) ?_
            refine x_retI (np := 25) (x := 0) (by decide +kernel) (by decide) (Or.inr ⟨by decide +kernel, by omega, by omega⟩) ⟨_, rfl, (by decide), ?_⟩
            refine x_ifz (k := 0) (tg := 163) (np := 152) (by decide +kernel) (by decide) (by decide) (fun q433 => ?_) (fun q434 => ?_)
            · have q433 : 2147483649 = 2147483648 := q433
              exfalso; omega
            have q434 : ¬ (2147483649 = 2147483648) := q434
            refine x_aload (np := 153) (x := 0) (by decide +kernel) rfl (x_nc_le (by decide)) ?_
            have q435 : h427 62 1 = h 62 1 := f429 62 1 (by decide +kernel)
            obtain ⟨r436, q437, t438⟩ : ∃ z, (h 62 1) = z + 11 ∧ tw z := by
              rcases hJ.2.2.2.2.2.2.2 with z | z
              · exact ⟨17, by rw [z], Or.inl rfl⟩
              · exact ⟨31, by rw [z], Or.inr rfl⟩
            refine x_getR (np := 156) (x := 193) (f := 1) (q := (r436 + 11)) (by decide +kernel) (by decide) (by decide +kernel) (q435.trans q437) ?_
            refine x_const (np := 159) (x := 9223376364034327535) (a := 2147484655) (by decide +kernel) (by decide) (by decide) ?_
            refine x_nI (t := 6) (mj := 36) (n := 2) (rc := 3) (ml := 2) (nr := 0) (np := 162) (as := [x_r (r436 + 11), iv_c 2147484655]) (rest := []) (lo1 := [x_r (r436 + 11), iv_c 2147484655]) (by decide +kernel) (by decide) (by decide +kernel) (x_rb_of (tr_11_3 t438)) rfl rfl (x_wr (tn_11 t438) (x_wi (by decide) x_wn)) x_wn (by decide) rfl ?_
            refine x_aload (np := 1) (x := 0) (by decide +kernel) rfl (x_nc_le (tn_11 t438)) ?_
            have q439 : h427 (r436 + 11) 2 = h (r436 + 11) 2 := jK 0 f429 (rg_T11_2_0_1 t438) (by omega) (by omega) (by decide)
            have b440 := jB (e := 2) 0 hJ (rg_T11_2_0_1 t438) (by omega) (by omega)
            refine x_getC (np := 4) (x := 130) (f := 2) (q := (h (r436 + 11) 2)) (by decide +kernel) (by decide) (tg_11_130_2_0 t438) q439 (fun l441 => ?_)
            refine x_const (np := 7) (x := 9223373756989178256) (a := 2147484048) (by decide +kernel) (by decide) (by decide) ?_
            refine x_icmp (k := 2) (tg := 12) (np := 10) (by decide +kernel) (by decide) l441 (by decide) (fun q442 => ?_) (fun q443 => ?_)
            · have q442 : (h (r436 + 11) 2) < 2147484048 := q442
              refine x_aload (np := 13) (x := 0) (by decide +kernel) rfl (x_nc_le (tn_11 t438)) ?_
              have q444 : h427 (r436 + 11) 0 = (r436 + 12) := tf_11_0 j428 t438
              refine x_getR (np := 16) (x := 128) (f := 0) (q := (r436 + 12)) (by decide +kernel) (by decide) (tg_11_128_0_1 t438) q444 ?_
              refine x_aload (np := 17) (x := 0) (by decide +kernel) rfl (x_nc_le (tn_11 t438)) ?_
              have q445 : h427 (r436 + 11) 2 = h (r436 + 11) 2 := jK 0 f429 (rg_T11_2_0_1 t438) (by omega) (by omega) (by decide)
              refine x_getC (np := 20) (x := 130) (f := 2) (q := (h (r436 + 11) 2)) (by decide +kernel) (by decide) (tg_11_130_2_0 t438) q445 (fun l446 => ?_)
              refine x_iload (np := 21) (x := 1) (by decide +kernel) rfl (by decide) ?_
              obtain ⟨u447, q448⟩ : ∃ z, (h (r436 + 11) 2) = 2147483648 + z := ⟨(h (r436 + 11) 2) - 2147483648, by omega⟩
              refine x_ast (np := 22) (x := 0) (kd := 1) (n := 400) (i := u447) (by decide +kernel) (Or.inl rfl) (ta_12_400 t438) (by omega) (by omega) (by decide) (by decide) (fun z => absurd z (by decide)) ?_
              have j450 := jU (e := u447) (v := 2147484655) u447 j428 (rg_T12_0_1_400 t438) (by omega) (by omega) (by omega)
              have f452 := jF (e := u447) (v := 2147484655) u447 f432 (rg_T12_0_1_400 t438) (by omega) (by omega) (by decide)
              generalize e451 : x_up h427 (r436 + 12) u447 2147484655 = h449 at j450 f452 ⊢
              refine x_aload (np := 23) (x := 0) (by decide +kernel) rfl (x_nc_le (tn_11 t438)) ?_
              refine x_dup (np := 24) (x := 0) (by decide +kernel) (by have z := x_nc_le (k := (r436 + 11)) (tn_11 t438); unfold x_r; omega) ?_
              have q453 : h449 (r436 + 11) 2 = h427 (r436 + 11) 2 := by rw [← e451]; exact x_up_k tof_11_12
              have q454 : h427 (r436 + 11) 2 = h (r436 + 11) 2 := jK 0 f429 (rg_T11_2_0_1 t438) (by omega) (by omega) (by decide)
              refine x_getC (np := 27) (x := 130) (f := 2) (q := (h (r436 + 11) 2)) (by decide +kernel) (by decide) (tg_11_130_2_0 t438) (q453.trans q454) (fun l455 => ?_)
              refine x_const (np := 28) (x := 9223372043297226753) (a := 2147483649) (by decide +kernel) (by decide) (by decide) ?_
              refine x_iadd (np := 29) (x := 0) (v := (1 + (h (r436 + 11) 2))) (by decide +kernel) l441 (by decide) (by omega) (by omega) ?_
              refine x_putI (np := 32) (x := 130) (f := 2) (by decide +kernel) (tg_11_130_2_0 t438) (by omega) (Or.inl (by decide)) ?_
              have j457 := jU (e := 2) (v := (1 + (h (r436 + 11) 2))) 0 j450 (rg_T11_2_0_1 t438) (by omega) (by omega) (by omega)
              have f459 := jF (e := 2) (v := (1 + (h (r436 + 11) 2))) 0 f452 (rg_T11_2_0_1 t438) (by omega) (by omega) (by decide)
              generalize e458 : x_up h449 (r436 + 11) 2 (1 + (h (r436 + 11) 2)) = h456 at j457 f459 ⊢
              refine x_const (np := 33) (x := 9223372043297226753) (a := 2147483649) (by decide +kernel) (by decide) (by decide) ?_
              refine x_retI (np := 34) (x := 0) (by decide +kernel) (by decide) (Or.inr ⟨by decide +kernel, by omega, by omega⟩) ⟨_, rfl, (by decide), ?_⟩
              refine x_retI (np := 163) (x := 0) (by decide +kernel) (by decide) (Or.inr ⟨by decide +kernel, by omega, by omega⟩) ⟨_, rfl, (by decide), ?_⟩
              exact ⟨j457, f459, (by omega)⟩
            have q443 : ¬ ((h (r436 + 11) 2) < 2147484048) := q443
            refine x_const (np := 11) (x := 9223372039002259456) (a := 2147483648) (by decide +kernel) (by decide) (by decide) ?_
            refine x_retI (np := 12) (x := 0) (by decide +kernel) (by decide) (Or.inr ⟨by decide +kernel, by omega, by omega⟩) ⟨_, rfl, (by decide), ?_⟩
            refine x_retI (np := 163) (x := 0) (by decide +kernel) (by decide) (Or.inr ⟨by decide +kernel, by omega, by omega⟩) ⟨_, rfl, (by decide), ?_⟩
            exact ⟨j428, f432, (by omega)⟩
          have q419 : ¬ (v413 ≠ 2147483648) := q419
          refine x_const (np := 9) (x := 9223372039002259456) (a := 2147483648) (by decide +kernel) (by decide) (by decide) ?_
          refine x_retI (np := 10) (x := 0) (by decide +kernel) (by decide) (Or.inr ⟨by decide +kernel, by omega, by omega⟩) ⟨_, rfl, (by decide), ?_⟩
          refine x_ifz (k := 0) (tg := 163) (np := 152) (by decide +kernel) (by decide) (by decide) (fun q460 => ?_) (fun q461 => ?_)
          · have q460 : 2147483648 = 2147483648 := q460
            refine x_aload (np := 164) (x := 0) (by decide +kernel) rfl (x_nc_le (by decide)) ?_
            refine x_cI (t := 6) (mj := 49) (n := 1) (rc := 4) (ml := 2) (nr := 0) (np := 167) (as := [x_r 62]) (rest := []) (lo1 := [x_r 62, 147573952589676412928]) (by decide +kernel) (by decide) (by decide +kernel) (x_rb_of (by decide +kernel)) rfl rfl (x_wr (by decide) x_wn) x_wn (by decide) rfl (c49_62 hJ ) (fun v462 h465 l463 q464 => ?_)
            obtain ⟨j466, f467, b468⟩ := q464
            have f469 := Fr.trans hF f467 (by decide)
            refine x_ifz (k := 1) (tg := 172) (np := 170) (by decide +kernel) (by decide) l463 (fun q470 => ?_) (fun q471 => ?_)
            · have q470 : v462 ≠ 2147483648 := q470
              refine x_aload (np := 173) (x := 0) (by decide +kernel) rfl (x_nc_le (by decide)) ?_
              have q472 : h465 62 0 = 1 := by have z := jB (e := 0) 0 j466 rg_62_0_0_1 (by decide) (by decide); omega
              refine x_getR (np := 176) (x := 192) (f := 0) (q := 1) (by decide +kernel) (by decide) (by decide +kernel) q472 ?_
              refine x_const (np := 178) (x := 9223372296700297276) (a := 2147483708) (by decide +kernel) (by decide) (by decide) ?_
              refine x_nI (t := 6) (mj := 76) (n := 2) (rc := 8) (ml := 2) (nr := 0) (np := 181) (as := [x_r 1, iv_c 2147483708]) (rest := []) (lo1 := [x_r 1, iv_c 2147483708]) (by decide +kernel) (by decide) (by decide +kernel) (x_rb_of (by decide +kernel)) rfl rfl (x_wr (by decide) (x_wi (by decide) x_wn)) x_wn (by decide) rfl ?_
              refine x_aload (np := 1) (x := 0) (by decide +kernel) rfl (x_nc_le (by decide)) ?_
              refine x_iload (np := 2) (x := 1) (by decide +kernel) rfl (by decide) ?_
              refine x_nI (t := 6) (mj := 75) (n := 2) (rc := 8) (ml := 2) (nr := 0) (np := 5) (as := [x_r 1, iv_c 2147483708]) (rest := []) (lo1 := [x_r 1, iv_c 2147483708]) (by decide +kernel) (by decide) (by decide +kernel) (x_rb_of (by decide +kernel)) rfl rfl (x_wr (by decide) (x_wi (by decide) x_wn)) x_wn (by decide) rfl ?_
              refine x_aload (np := 1) (x := 0) (by decide +kernel) rfl (x_nc_le (by decide)) ?_
              refine x_aload (np := 2) (x := 0) (by decide +kernel) rfl (x_nc_le (by decide)) ?_
              have b473 := jB (e := 2) 0 j466 rg_1_2_0_1 (by omega) (by omega)
              refine x_getC (np := 5) (x := 450) (f := 2) (q := (h465 1 2)) (by decide +kernel) (by decide) (by decide +kernel) rfl (fun l474 => ?_)
              refine x_nI (t := 6) (mj := 81) (n := 2) (rc := 8) (ml := 2) (nr := 0) (np := 8) (as := [x_r 1, iv_c (h465 1 2)]) (rest := []) (lo1 := [x_r 1, iv_c (h465 1 2)]) (by decide +kernel) (by decide) (by decide +kernel) (x_rb_of (by decide +kernel)) rfl rfl (x_wr (by decide) (x_wi l474 x_wn)) x_wn (by decide) rfl ?_
              refine x_iload (np := 1) (x := 1) (by decide +kernel) rfl l474 ?_
              refine x_aload (np := 2) (x := 0) (by decide +kernel) rfl (x_nc_le (by decide)) ?_
              have q475 : h465 1 1 = h 1 1 := jK 0 f467 rg_1_1_0_1 (by omega) (by omega) (by decide)
              refine x_getC (np := 5) (x := 449) (f := 1) (q := (h 1 1)) (by decide +kernel) (by decide) (by decide +kernel) q475 (fun l476 => ?_)
              refine x_icmp (k := 3) (tg := 17) (np := 8) (by decide +kernel) (by decide) l474 l13 (fun q477 => ?_) (fun q478 => ?_)
              · have q477 : (h 1 1) ≤ (h465 1 2) := q477
                refine x_const (np := 18) (x := 9223372034707292159) (a := 2147483647) (by decide +kernel) (by decide) (by decide) ?_
                refine x_retI (np := 19) (x := 0) (by decide +kernel) (by decide) (Or.inl (by decide +kernel)) ⟨_, rfl, (by decide), ?_⟩
                refine x_iload (np := 9) (x := 1) (by decide +kernel) rfl (by decide) ?_
                refine x_icmp (k := 1) (tg := 16) (np := 12) (by decide +kernel) (by decide) (by decide) (by decide) (fun q479 => ?_) (fun q480 => ?_)
                · have q479 : 2147483647 ≠ 2147483708 := q479
                  refine x_const (np := 17) (x := 9223372039002259456) (a := 2147483648) (by decide +kernel) (by decide) (by decide) ?_
                  refine x_retI (np := 18) (x := 0) (by decide +kernel) (by decide) (Or.inr ⟨by decide +kernel, by omega, by omega⟩) ⟨_, rfl, (by decide), ?_⟩
                  refine x_ifz (k := 1) (tg := 10) (np := 8) (by decide +kernel) (by decide) (by decide) (fun q481 => ?_) (fun q482 => ?_)
                  · have q481 : 2147483648 ≠ 2147483648 := q481
                    exfalso; omega
                  have q482 : ¬ (2147483648 ≠ 2147483648) := q482
                  refine x_const (np := 9) (x := 9223372039002259456) (a := 2147483648) (by decide +kernel) (by decide) (by decide) ?_
                  refine x_retI (np := 10) (x := 0) (by decide +kernel) (by decide) (Or.inr ⟨by decide +kernel, by omega, by omega⟩) ⟨_, rfl, (by decide), ?_⟩
                  refine x_ifz (k := 0) (tg := 210) (np := 184) (by decide +kernel) (by decide) (by decide) (fun q483 => ?_) (fun q484 => ?_)
                  · have q483 : 2147483648 = 2147483648 := q483
                    refine x_aload (np := 211) (x := 0) (by decide +kernel) rfl (x_nc_le (by decide)) ?_
                    have q485 : h465 62 0 = 1 := by have z := jB (e := 0) 0 j466 rg_62_0_0_1 (by decide) (by decide); omega
                    refine x_getR (np := 214) (x := 192) (f := 0) (q := 1) (by decide +kernel) (by decide) (by decide +kernel) q485 ?_
                    refine x_const (np := 216) (x := 9223372305290231870) (a := 2147483710) (by decide +kernel) (by decide) (by decide) ?_
                    refine x_nI (t := 6) (mj := 76) (n := 2) (rc := 8) (ml := 2) (nr := 0) (np := 219) (as := [x_r 1, iv_c 2147483710]) (rest := []) (lo1 := [x_r 1, iv_c 2147483710]) (by decide +kernel) (by decide) (by decide +kernel) (x_rb_of (by decide +kernel)) rfl rfl (x_wr (by decide) (x_wi (by decide) x_wn)) x_wn (by decide) rfl ?_
                    refine x_aload (np := 1) (x := 0) (by decide +kernel) rfl (x_nc_le (by decide)) ?_
                    refine x_iload (np := 2) (x := 1) (by decide +kernel) rfl (by decide) ?_
                    refine x_nI (t := 6) (mj := 75) (n := 2) (rc := 8) (ml := 2) (nr := 0) (np := 5) (as := [x_r 1, iv_c 2147483710]) (rest := []) (lo1 := [x_r 1, iv_c 2147483710]) (by decide +kernel) (by decide) (by decide +kernel) (x_rb_of (by decide +kernel)) rfl rfl (x_wr (by decide) (x_wi (by decide) x_wn)) x_wn (by decide) rfl ?_
                    refine x_aload (np := 1) (x := 0) (by decide +kernel) rfl (x_nc_le (by decide)) ?_
                    refine x_aload (np := 2) (x := 0) (by decide +kernel) rfl (x_nc_le (by decide)) ?_
                    refine x_getC (np := 5) (x := 450) (f := 2) (q := (h465 1 2)) (by decide +kernel) (by decide) (by decide +kernel) rfl (fun l486 => ?_)
                    refine x_nI (t := 6) (mj := 81) (n := 2) (rc := 8) (ml := 2) (nr := 0) (np := 8) (as := [x_r 1, iv_c (h465 1 2)]) (rest := []) (lo1 := [x_r 1, iv_c (h465 1 2)]) (by decide +kernel) (by decide) (by decide +kernel) (x_rb_of (by decide +kernel)) rfl rfl (x_wr (by decide) (x_wi l474 x_wn)) x_wn (by decide) rfl ?_
                    refine x_iload (np := 1) (x := 1) (by decide +kernel) rfl l474 ?_
                    refine x_aload (np := 2) (x := 0) (by decide +kernel) rfl (x_nc_le (by decide)) ?_
                    have q487 : h465 1 1 = h 1 1 := jK 0 f467 rg_1_1_0_1 (by omega) (by omega) (by decide)
                    refine x_getC (np := 5) (x := 449) (f := 1) (q := (h 1 1)) (by decide +kernel) (by decide) (by decide +kernel) q487 (fun l488 => ?_)
                    refine x_icmp (k := 3) (tg := 17) (np := 8) (by decide +kernel) (by decide) l474 l13 (fun q489 => ?_) (fun q490 => ?_)
                    · have q489 : (h 1 1) ≤ (h465 1 2) := q489
                      refine x_const (np := 18) (x := 9223372034707292159) (a := 2147483647) (by decide +kernel) (by decide) (by decide) ?_
                      refine x_retI (np := 19) (x := 0) (by decide +kernel) (by decide) (Or.inl (by decide +kernel)) ⟨_, rfl, (by decide), ?_⟩
                      refine x_iload (np := 9) (x := 1) (by decide +kernel) rfl (by decide) ?_
                      refine x_icmp (k := 1) (tg := 16) (np := 12) (by decide +kernel) (by decide) (by decide) (by decide) (fun q491 => ?_) (fun q492 => ?_)
                      · have q491 : 2147483647 ≠ 2147483710 := q491
                        refine x_const (np := 17) (x := 9223372039002259456) (a := 2147483648) (by decide +kernel) (by decide) (by decide) ?_
                        refine x_retI (np := 18) (x := 0) (by decide +kernel) (by decide) (Or.inr ⟨by decide +kernel, by omega, by omega⟩) ⟨_, rfl, (by decide), ?_⟩
                        refine x_ifz (k := 1) (tg := 10) (np := 8) (by decide +kernel) (by decide) (by decide) (fun q493 => ?_) (fun q494 => ?_)
                        · have q493 : 2147483648 ≠ 2147483648 := q493
                          exfalso; omega
                        have q494 : ¬ (2147483648 ≠ 2147483648) := q494
                        refine x_const (np := 9) (x := 9223372039002259456) (a := 2147483648) (by decide +kernel) (by decide) (by decide) ?_
                        refine x_retI (np := 10) (x := 0) (by decide +kernel) (by decide) (Or.inr ⟨by decide +kernel, by omega, by omega⟩) ⟨_, rfl, (by decide), ?_⟩
                        refine x_ifz (k := 0) (tg := 246) (np := 222) (by decide +kernel) (by decide) (by decide) (fun q495 => ?_) (fun q496 => ?_)
                        · have q495 : 2147483648 = 2147483648 := q495
                          refine x_const (np := 247) (x := 9223372039002259456) (a := 2147483648) (by decide +kernel) (by decide) (by decide) ?_
                          refine x_retI (np := 248) (x := 0) (by decide +kernel) (by decide) (Or.inr ⟨by decide +kernel, by omega, by omega⟩) ⟨_, rfl, (by decide), ?_⟩
                          exact ⟨j466, f469, (by omega)⟩
                        have q496 : ¬ (2147483648 = 2147483648) := q496
                        exfalso; omega
                      have q492 : ¬ (2147483647 ≠ 2147483710) := q492
                      exfalso; omega
                    have q490 : ¬ ((h 1 1) ≤ (h465 1 2)) := q490
                    refine x_aload (np := 9) (x := 0) (by decide +kernel) rfl (x_nc_le (by decide)) ?_
                    have q497 : h465 1 0 = 2 := by have z := jB (e := 0) 0 j466 rg_1_0_0_1 (by decide) (by decide); omega
                    refine x_getR (np := 12) (x := 448) (f := 0) (q := 2) (by decide +kernel) (by decide) (by decide +kernel) q497 ?_
                    refine x_iload (np := 13) (x := 1) (by decide +kernel) rfl l474 ?_
                    obtain ⟨u498, q499⟩ : ∃ z, (h465 1 2) = 2147483648 + z := ⟨(h465 1 2) - 2147483648, by omega⟩
                    have q500 : h465 2 u498 = h 2 u498 := jK u498 f467 rg_2_0_1_400 (by omega) (by omega) (by decide)
                    refine x_aldC (np := 14) (x := 0) (n := 400) (i := u498) (q := (h 2 u498)) (by decide +kernel) (by decide +kernel) (by omega) (by omega) (by decide) q500 (fun l501 => ?_)
                    refine x_goto (np := 17) (x := 18) (by decide +kernel) ?_
                    refine x_retI (np := 19) (x := 0) (by decide +kernel) l501 (Or.inl (by decide +kernel)) ⟨_, rfl, l501, ?_⟩
                    refine x_iload (np := 9) (x := 1) (by decide +kernel) rfl (by decide) ?_
                    refine x_icmp (k := 1) (tg := 16) (np := 12) (by decide +kernel) (by decide) l501 (by decide) (fun q502 => ?_) (fun q503 => ?_)
                    · have q502 : (h 2 u498) ≠ 2147483710 := q502
                      refine x_const (np := 17) (x := 9223372039002259456) (a := 2147483648) (by decide +kernel) (by decide) (by decide) ?_
                      refine x_retI (np := 18) (x := 0) (by decide +kernel) (by decide) (Or.inr ⟨by decide +kernel, by omega, by omega⟩) ⟨_, rfl, (by decide), ?_⟩
                      refine x_ifz (k := 1) (tg := 10) (np := 8) (by decide +kernel) (by decide) (by decide) (fun q504 => ?_) (fun q505 => ?_)
                      · have q504 : 2147483648 ≠ 2147483648 := q504
                        exfalso; omega
                      have q505 : ¬ (2147483648 ≠ 2147483648) := q505
                      refine x_const (np := 9) (x := 9223372039002259456) (a := 2147483648) (by decide +kernel) (by decide) (by decide) ?_
                      refine x_retI (np := 10) (x := 0) (by decide +kernel) (by decide) (Or.inr ⟨by decide +kernel, by omega, by omega⟩) ⟨_, rfl, (by decide), ?_⟩
                      refine x_ifz (k := 0) (tg := 246) (np := 222) (by decide +kernel) (by decide) (by decide) (fun q506 => ?_) (fun q507 => ?_)
                      · have q506 : 2147483648 = 2147483648 := q506
                        refine x_const (np := 247) (x := 9223372039002259456) (a := 2147483648) (by decide +kernel) (by decide) (by decide) ?_
                        refine x_retI (np := 248) (x := 0) (by decide +kernel) (by decide) (Or.inr ⟨by decide +kernel, by omega, by omega⟩) ⟨_, rfl, (by decide), ?_⟩
                        exact ⟨j466, f469, (by omega)⟩
                      have q507 : ¬ (2147483648 = 2147483648) := q507
                      exfalso; omega
                    have q503 : ¬ ((h 2 u498) ≠ 2147483710) := q503
                    refine x_const (np := 13) (x := 9223372043297226753) (a := 2147483649) (by decide +kernel) (by decide) (by decide) ?_
                    refine x_goto (np := 16) (x := 17) (by decide +kernel) ?_
                    refine x_retI (np := 18) (x := 0) (by decide +kernel) (by decide) (Or.inr ⟨by decide +kernel, by omega, by omega⟩) ⟨_, rfl, (by decide), ?_⟩
                    refine x_ifz (k := 1) (tg := 10) (np := 8) (by decide +kernel) (by decide) (by decide) (fun q508 => ?_) (fun q509 => ?_)
                    · have q508 : 2147483649 ≠ 2147483648 := q508
                      refine x_aload (np := 11) (x := 0) (by decide +kernel) rfl (x_nc_le (by decide)) ?_
                      refine x_aload (np := 12) (x := 0) (by decide +kernel) rfl (x_nc_le (by decide)) ?_
                      refine x_getC (np := 15) (x := 450) (f := 2) (q := (h465 1 2)) (by decide +kernel) (by decide) (by decide +kernel) rfl (fun l510 => ?_)
                      refine x_const (np := 16) (x := 9223372043297226753) (a := 2147483649) (by decide +kernel) (by decide) (by decide) ?_
                      refine x_iadd (np := 17) (x := 0) (v := (1 + (h465 1 2))) (by decide +kernel) l474 (by decide) (by omega) (by omega) ?_
                      refine x_cV (t := 6) (mj := 80) (n := 2) (rc := 8) (ml := 2) (nr := 0) (np := 20) (as := [x_r 1, iv_c (1 + (h465 1 2))]) (rest := []) (lo1 := [x_r 1, iv_c (1 + (h465 1 2))]) (by decide +kernel) (by decide) (by decide +kernel) (x_rb_of (by decide +kernel)) rfl rfl (x_wr (by decide) (x_wi (by omega) x_wn)) x_wn (by decide) rfl (c80_1n j466  (by omega)) (fun h514 q513 => ?_)
                      obtain ⟨j515, f516⟩ := q513
                      have f519 := Fr.trans f469 f516 (by decide)
                      refine x_const (np := 21) (x := 9223372043297226753) (a := 2147483649) (by decide +kernel) (by decide) (by decide) ?_
                      refine x_retI (np := 22) (x := 0) (by decide +kernel) (by decide) (Or.inr ⟨by decide +kernel, by omega, by omega⟩) ⟨_, rfl, (by decide), ?_⟩
                      refine x_ifz (k := 0) (tg := 246) (np := 222) (by decide +kernel) (by decide) (by decide) (fun q520 => ?_) (fun q521 => ?_)
                      · have q520 : 2147483649 = 2147483648 := q520
                        exfalso; omega
                      have q521 : ¬ (2147483649 = 2147483648) := q521
                      refine x_aload (np := 223) (x := 0) (by decide +kernel) rfl (x_nc_le (by decide)) ?_
                      refine x_cI (t := 6) (mj := 49) (n := 1) (rc := 4) (ml := 2) (nr := 0) (np := 226) (as := [x_r 62]) (rest := []) (lo1 := [x_r 62, 147573952589676412928]) (by decide +kernel) (by decide) (by decide +kernel) (x_rb_of (by decide +kernel)) rfl rfl (x_wr (by decide) x_wn) x_wn (by decide) rfl (c49_62 j515 ) (fun v522 h525 l523 q524 => ?_)
                      obtain ⟨j526, f527, b528⟩ := q524
                      have f529 := Fr.trans f519 f527 (by decide)
                      refine x_ifz (k := 0) (tg := 246) (np := 229) (by decide +kernel) (by decide) l523 (fun q530 => ?_) (fun q531 => ?_)
                      · have q530 : v522 = 2147483648 := q530
                        refine x_const (np := 247) (x := 9223372039002259456) (a := 2147483648) (by decide +kernel) (by decide) (by decide) ?_
                        refine x_retI (np := 248) (x := 0) (by decide +kernel) (by decide) (Or.inr ⟨by decide +kernel, by omega, by omega⟩) ⟨_, rfl, (by decide), ?_⟩
                        exact ⟨j526, f529, (by omega)⟩
                      have q531 : ¬ (v522 = 2147483648) := q531
                      refine x_aload (np := 230) (x := 0) (by decide +kernel) rfl (x_nc_le (by decide)) ?_
                      have q532 : h525 62 1 = h514 62 1 := f527 62 1 (by decide +kernel)
                      have q533 : h514 62 1 = h465 62 1 := f516 62 1 (by decide +kernel)
                      have q534 : h465 62 1 = h 62 1 := f467 62 1 (by decide +kernel)
                      obtain ⟨r535, q536, t537⟩ : ∃ z, (h 62 1) = z + 11 ∧ tw z := by
                        rcases hJ.2.2.2.2.2.2.2 with z | z
                        · exact ⟨17, by rw [z], Or.inl rfl⟩
                        · exact ⟨31, by rw [z], Or.inr rfl⟩
                      refine x_getR (np := 233) (x := 193) (f := 1) (q := (r535 + 11)) (by decide +kernel) (by decide) (by decide +kernel) (((q532.trans q533).trans q534).trans q536) ?_
                      refine x_const (np := 236) (x := 9223380637526788050) (a := 2147485650) (by decide +kernel) (by decide) (by decide) ?_
                      refine x_nI (t := 6) (mj := 36) (n := 2) (rc := 3) (ml := 2) (nr := 0) (np := 239) (as := [x_r (r535 + 11), iv_c 2147485650]) (rest := []) (lo1 := [x_r (r535 + 11), iv_c 2147485650]) (by decide +kernel) (by decide) (by decide +kernel) (x_rb_of (tr_11_3 t537)) rfl rfl (x_wr (tn_11 t537) (x_wi (by decide) x_wn)) x_wn (by decide) rfl ?_
                      refine x_aload (np := 1) (x := 0) (by decide +kernel) rfl (x_nc_le (tn_11 t537)) ?_
                      have b538 := jB (e := 2) 0 j526 (rg_T11_2_0_1 t537) (by omega) (by omega)
                      refine x_getC (np := 4) (x := 130) (f := 2) (q := (h525 (r535 + 11) 2)) (by decide +kernel) (by decide) (tg_11_130_2_0 t537) rfl (fun l539 => ?_)
                      refine x_const (np := 7) (x := 9223373756989178256) (a := 2147484048) (by decide +kernel) (by decide) (by decide) ?_
                      refine x_icmp (k := 2) (tg := 12) (np := 10) (by decide +kernel) (by decide) l539 (by decide) (fun q540 => ?_) (fun q541 => ?_)
                      · have q540 : (h525 (r535 + 11) 2) < 2147484048 := q540
                        refine x_aload (np := 13) (x := 0) (by decide +kernel) rfl (x_nc_le (tn_11 t537)) ?_
                        have q542 : h525 (r535 + 11) 0 = (r535 + 12) := tf_11_0 j526 t537
                        refine x_getR (np := 16) (x := 128) (f := 0) (q := (r535 + 12)) (by decide +kernel) (by decide) (tg_11_128_0_1 t537) q542 ?_
                        refine x_aload (np := 17) (x := 0) (by decide +kernel) rfl (x_nc_le (tn_11 t537)) ?_
                        refine x_getC (np := 20) (x := 130) (f := 2) (q := (h525 (r535 + 11) 2)) (by decide +kernel) (by decide) (tg_11_130_2_0 t537) rfl (fun l543 => ?_)
                        refine x_iload (np := 21) (x := 1) (by decide +kernel) rfl (by decide) ?_
                        obtain ⟨u544, q545⟩ : ∃ z, (h525 (r535 + 11) 2) = 2147483648 + z := ⟨(h525 (r535 + 11) 2) - 2147483648, by omega⟩
                        refine x_ast (np := 22) (x := 0) (kd := 1) (n := 400) (i := u544) (by decide +kernel) (Or.inl rfl) (ta_12_400 t537) (by omega) (by omega) (by decide) (by decide) (fun z => absurd z (by decide)) ?_
                        have j547 := jU (e := u544) (v := 2147485650) u544 j526 (rg_T12_0_1_400 t537) (by omega) (by omega) (by omega)
                        have f549 := jF (e := u544) (v := 2147485650) u544 f529 (rg_T12_0_1_400 t537) (by omega) (by omega) (by decide)
                        generalize e548 : x_up h525 (r535 + 12) u544 2147485650 = h546 at j547 f549 ⊢
                        refine x_aload (np := 23) (x := 0) (by decide +kernel) rfl (x_nc_le (tn_11 t537)) ?_
                        refine x_dup (np := 24) (x := 0) (by decide +kernel) (by have z := x_nc_le (k := (r535 + 11)) (tn_11 t537); unfold x_r; omega) ?_
                        have q550 : h546 (r535 + 11) 2 = h525 (r535 + 11) 2 := by rw [← e548]; exact x_up_k tof_11_12
                        refine x_getC (np := 27) (x := 130) (f := 2) (q := (h525 (r535 + 11) 2)) (by decide +kernel) (by decide) (tg_11_130_2_0 t537) q550 (fun l551 => ?_)
                        refine x_const (np := 28) (x := 9223372043297226753) (a := 2147483649) (by decide +kernel) (by decide) (by decide) ?_
                        refine x_iadd (np := 29) (x := 0) (v := (1 + (h525 (r535 + 11) 2))) (by decide +kernel) l539 (by decide) (by omega) (by omega) ?_
                        refine x_putI (np := 32) (x := 130) (f := 2) (by decide +kernel) (tg_11_130_2_0 t537) (by omega) (Or.inl (by decide)) ?_
                        have j553 := jU (e := 2) (v := (1 + (h525 (r535 + 11) 2))) 0 j547 (rg_T11_2_0_1 t537) (by omega) (by omega) (by omega)
                        have f555 := jF (e := 2) (v := (1 + (h525 (r535 + 11) 2))) 0 f549 (rg_T11_2_0_1 t537) (by omega) (by omega) (by decide)
                        generalize e554 : x_up h546 (r535 + 11) 2 (1 + (h525 (r535 + 11) 2)) = h552 at j553 f555 ⊢
                        refine x_const (np := 33) (x := 9223372043297226753) (a := 2147483649) (by decide +kernel) (by decide) (by decide) ?_
                        refine x_retI (np := 34) (x := 0) (by decide +kernel) (by decide) (Or.inr ⟨by decide +kernel, by omega, by omega⟩) ⟨_, rfl, (by decide), ?_⟩
                        refine x_ifz (k := 0) (tg := 246) (np := 242) (by decide +kernel) (by decide) (by decide) (fun q556 => ?_) (fun q557 => ?_)
                        · have q556 : 2147483649 = 2147483648 := q556
                          exfalso; omega
                        have q557 : ¬ (2147483649 = 2147483648) := q557
                        refine x_const (np := 243) (x := 9223372043297226753) (a := 2147483649) (by decide +kernel) (by decide) (by decide) ?_
                        refine x_goto (np := 246) (x := 247) (by decide +kernel) ?_
                        refine x_retI (np := 248) (x := 0) (by decide +kernel) (by decide) (Or.inr ⟨by decide +kernel, by omega, by omega⟩) ⟨_, rfl, (by decide), ?_⟩
                        exact ⟨j553, f555, (by omega)⟩
                      have q541 : ¬ ((h525 (r535 + 11) 2) < 2147484048) := q541
                      refine x_const (np := 11) (x := 9223372039002259456) (a := 2147483648) (by decide +kernel) (by decide) (by decide) ?_
                      refine x_retI (np := 12) (x := 0) (by decide +kernel) (by decide) (Or.inr ⟨by decide +kernel, by omega, by omega⟩) ⟨_, rfl, (by decide), ?_⟩
                      refine x_ifz (k := 0) (tg := 246) (np := 242) (by decide +kernel) (by decide) (by decide) (fun q558 => ?_) (fun q559 => ?_)
                      · have q558 : 2147483648 = 2147483648 := q558
                        refine x_const (np := 247) (x := 9223372039002259456) (a := 2147483648) (by decide +kernel) (by decide) (by decide) ?_
                        refine x_retI (np := 248) (x := 0) (by decide +kernel) (by decide) (Or.inr ⟨by decide +kernel, by omega, by omega⟩) ⟨_, rfl, (by decide), ?_⟩
                        exact ⟨j526, f529, (by omega)⟩
                      have q559 : ¬ (2147483648 = 2147483648) := q559
                      exfalso; omega
                    have q509 : ¬ (2147483649 ≠ 2147483648) := q509
                    exfalso; omega
                  have q484 : ¬ (2147483648 = 2147483648) := q484
                  exfalso; omega
                have q480 : ¬ (2147483647 ≠ 2147483708) := q480
                exfalso; omega
              have q478 : ¬ ((h 1 1) ≤ (h465 1 2)) := q478
              refine x_aload (np := 9) (x := 0) (by decide +kernel) rfl (x_nc_le (by decide)) ?_
              have q560 : h465 1 0 = 2 := by have z := jB (e := 0) 0 j466 rg_1_0_0_1 (by decide) (by decide); omega
              refine x_getR (np := 12) (x := 448) (f := 0) (q := 2) (by decide +kernel) (by decide) (by decide +kernel) q560 ?_
              refine x_iload (np := 13) (x := 1) (by decide +kernel) rfl l474 ?_
              obtain ⟨u561, q562⟩ : ∃ z, (h465 1 2) = 2147483648 + z := ⟨(h465 1 2) - 2147483648, by omega⟩
              have q563 : h465 2 u561 = h 2 u561 := jK u561 f467 rg_2_0_1_400 (by omega) (by omega) (by decide)
              refine x_aldC (np := 14) (x := 0) (n := 400) (i := u561) (q := (h 2 u561)) (by decide +kernel) (by decide +kernel) (by omega) (by omega) (by decide) q563 (fun l564 => ?_)
              refine x_goto (np := 17) (x := 18) (by decide +kernel) ?_
              refine x_retI (np := 19) (x := 0) (by decide +kernel) l564 (Or.inl (by decide +kernel)) ⟨_, rfl, l564, ?_⟩
              refine x_iload (np := 9) (x := 1) (by decide +kernel) rfl (by decide) ?_
              refine x_icmp (k := 1) (tg := 16) (np := 12) (by decide +kernel) (by decide) l564 (by decide) (fun q565 => ?_) (fun q566 => ?_)
              · have q565 : (h 2 u561) ≠ 2147483708 := q565
                refine x_const (np := 17) (x := 9223372039002259456) (a := 2147483648) (by decide +kernel) (by decide) (by decide) ?_
                refine x_retI (np := 18) (x := 0) (by decide +kernel) (by decide) (Or.inr ⟨by decide +kernel, by omega, by omega⟩) ⟨_, rfl, (by decide), ?_⟩
                refine x_ifz (k := 1) (tg := 10) (np := 8) (by decide +kernel) (by decide) (by decide) (fun q567 => ?_) (fun q568 => ?_)
                · have q567 : 2147483648 ≠ 2147483648 := q567
                  exfalso; omega
                have q568 : ¬ (2147483648 ≠ 2147483648) := q568
                refine x_const (np := 9) (x := 9223372039002259456) (a := 2147483648) (by decide +kernel) (by decide) (by decide) ?_
                refine x_retI (np := 10) (x := 0) (by decide +kernel) (by decide) (Or.inr ⟨by decide +kernel, by omega, by omega⟩) ⟨_, rfl, (by decide), ?_⟩
                refine x_ifz (k := 0) (tg := 210) (np := 184) (by decide +kernel) (by decide) (by decide) (fun q569 => ?_) (fun q570 => ?_)
                · have q569 : 2147483648 = 2147483648 := q569
                  refine x_aload (np := 211) (x := 0) (by decide +kernel) rfl (x_nc_le (by decide)) ?_
                  have q571 : h465 62 0 = 1 := by have z := jB (e := 0) 0 j466 rg_62_0_0_1 (by decide) (by decide); omega
                  refine x_getR (np := 214) (x := 192) (f := 0) (q := 1) (by decide +kernel) (by decide) (by decide +kernel) q571 ?_
                  refine x_const (np := 216) (x := 9223372305290231870) (a := 2147483710) (by decide +kernel) (by decide) (by decide) ?_
                  refine x_nI (t := 6) (mj := 76) (n := 2) (rc := 8) (ml := 2) (nr := 0) (np := 219) (as := [x_r 1, iv_c 2147483710]) (rest := []) (lo1 := [x_r 1, iv_c 2147483710]) (by decide +kernel) (by decide) (by decide +kernel) (x_rb_of (by decide +kernel)) rfl rfl (x_wr (by decide) (x_wi (by decide) x_wn)) x_wn (by decide) rfl ?_
                  refine x_aload (np := 1) (x := 0) (by decide +kernel) rfl (x_nc_le (by decide)) ?_
                  refine x_iload (np := 2) (x := 1) (by decide +kernel) rfl (by decide) ?_
                  refine x_nI (t := 6) (mj := 75) (n := 2) (rc := 8) (ml := 2) (nr := 0) (np := 5) (as := [x_r 1, iv_c 2147483710]) (rest := []) (lo1 := [x_r 1, iv_c 2147483710]) (by decide +kernel) (by decide) (by decide +kernel) (x_rb_of (by decide +kernel)) rfl rfl (x_wr (by decide) (x_wi (by decide) x_wn)) x_wn (by decide) rfl ?_
                  refine x_aload (np := 1) (x := 0) (by decide +kernel) rfl (x_nc_le (by decide)) ?_
                  refine x_aload (np := 2) (x := 0) (by decide +kernel) rfl (x_nc_le (by decide)) ?_
                  refine x_getC (np := 5) (x := 450) (f := 2) (q := (h465 1 2)) (by decide +kernel) (by decide) (by decide +kernel) rfl (fun l572 => ?_)
                  refine x_nI (t := 6) (mj := 81) (n := 2) (rc := 8) (ml := 2) (nr := 0) (np := 8) (as := [x_r 1, iv_c (h465 1 2)]) (rest := []) (lo1 := [x_r 1, iv_c (h465 1 2)]) (by decide +kernel) (by decide) (by decide +kernel) (x_rb_of (by decide +kernel)) rfl rfl (x_wr (by decide) (x_wi l474 x_wn)) x_wn (by decide) rfl ?_
                  refine x_iload (np := 1) (x := 1) (by decide +kernel) rfl l474 ?_
                  refine x_aload (np := 2) (x := 0) (by decide +kernel) rfl (x_nc_le (by decide)) ?_
                  have q573 : h465 1 1 = h 1 1 := jK 0 f467 rg_1_1_0_1 (by omega) (by omega) (by decide)
                  refine x_getC (np := 5) (x := 449) (f := 1) (q := (h 1 1)) (by decide +kernel) (by decide) (by decide +kernel) q573 (fun l574 => ?_)
                  refine x_icmp (k := 3) (tg := 17) (np := 8) (by decide +kernel) (by decide) l474 l13 (fun q575 => ?_) (fun q576 => ?_)
                  · have q575 : (h 1 1) ≤ (h465 1 2) := q575
                    refine x_const (np := 18) (x := 9223372034707292159) (a := 2147483647) (by decide +kernel) (by decide) (by decide) ?_
                    refine x_retI (np := 19) (x := 0) (by decide +kernel) (by decide) (Or.inl (by decide +kernel)) ⟨_, rfl, (by decide), ?_⟩
                    refine x_iload (np := 9) (x := 1) (by decide +kernel) rfl (by decide) ?_
                    refine x_icmp (k := 1) (tg := 16) (np := 12) (by decide +kernel) (by decide) (by decide) (by decide) (fun q577 => ?_) (fun q578 => ?_)
                    · have q577 : 2147483647 ≠ 2147483710 := q577
                      refine x_const (np := 17) (x := 9223372039002259456) (a := 2147483648) (by decide +kernel) (by decide) (by decide) ?_
                      refine x_retI (np := 18) (x := 0) (by decide +kernel) (by decide) (Or.inr ⟨by decide +kernel, by omega, by omega⟩) ⟨_, rfl, (by decide), ?_⟩
                      refine x_ifz (k := 1) (tg := 10) (np := 8) (by decide +kernel) (by decide) (by decide) (fun q579 => ?_) (fun q580 => ?_)
                      · have q579 : 2147483648 ≠ 2147483648 := q579
                        exfalso; omega
                      have q580 : ¬ (2147483648 ≠ 2147483648) := q580
                      refine x_const (np := 9) (x := 9223372039002259456) (a := 2147483648) (by decide +kernel) (by decide) (by decide) ?_
                      refine x_retI (np := 10) (x := 0) (by decide +kernel) (by decide) (Or.inr ⟨by decide +kernel, by omega, by omega⟩) ⟨_, rfl, (by decide), ?_⟩
                      refine x_ifz (k := 0) (tg := 246) (np := 222) (by decide +kernel) (by decide) (by decide) (fun q581 => ?_) (fun q582 => ?_)
                      · have q581 : 2147483648 = 2147483648 := q581
                        refine x_const (np := 247) (x := 9223372039002259456) (a := 2147483648) (by decide +kernel) (by decide) (by decide) ?_
                        refine x_retI (np := 248) (x := 0) (by decide +kernel) (by decide) (Or.inr ⟨by decide +kernel, by omega, by omega⟩) ⟨_, rfl, (by decide), ?_⟩
                        exact ⟨j466, f469, (by omega)⟩
                      have q582 : ¬ (2147483648 = 2147483648) := q582
                      exfalso; omega
                    have q578 : ¬ (2147483647 ≠ 2147483710) := q578
                    exfalso; omega
                  have q576 : ¬ ((h 1 1) ≤ (h465 1 2)) := q576
                  refine x_aload (np := 9) (x := 0) (by decide +kernel) rfl (x_nc_le (by decide)) ?_
                  have q583 : h465 1 0 = 2 := by have z := jB (e := 0) 0 j466 rg_1_0_0_1 (by decide) (by decide); omega
                  refine x_getR (np := 12) (x := 448) (f := 0) (q := 2) (by decide +kernel) (by decide) (by decide +kernel) q583 ?_
                  refine x_iload (np := 13) (x := 1) (by decide +kernel) rfl l474 ?_
                  have q584 : h465 2 u561 = h 2 u561 := jK u561 f467 rg_2_0_1_400 (by omega) (by omega) (by decide)
                  refine x_aldC (np := 14) (x := 0) (n := 400) (i := u561) (q := (h 2 u561)) (by decide +kernel) (by decide +kernel) (by omega) (by omega) (by decide) q584 (fun l585 => ?_)
                  refine x_goto (np := 17) (x := 18) (by decide +kernel) ?_
                  refine x_retI (np := 19) (x := 0) (by decide +kernel) l564 (Or.inl (by decide +kernel)) ⟨_, rfl, l564, ?_⟩
                  refine x_iload (np := 9) (x := 1) (by decide +kernel) rfl (by decide) ?_
                  refine x_icmp (k := 1) (tg := 16) (np := 12) (by decide +kernel) (by decide) l564 (by decide) (fun q586 => ?_) (fun q587 => ?_)
                  · have q586 : (h 2 u561) ≠ 2147483710 := q586
                    refine x_const (np := 17) (x := 9223372039002259456) (a := 2147483648) (by decide +kernel) (by decide) (by decide) ?_
                    refine x_retI (np := 18) (x := 0) (by decide +kernel) (by decide) (Or.inr ⟨by decide +kernel, by omega, by omega⟩) ⟨_, rfl, (by decide), ?_⟩
                    refine x_ifz (k := 1) (tg := 10) (np := 8) (by decide +kernel) (by decide) (by decide) (fun q588 => ?_) (fun q589 => ?_)
                    · have q588 : 2147483648 ≠ 2147483648 := q588
                      exfalso; omega
                    have q589 : ¬ (2147483648 ≠ 2147483648) := q589
                    refine x_const (np := 9) (x := 9223372039002259456) (a := 2147483648) (by decide +kernel) (by decide) (by decide) ?_
                    refine x_retI (np := 10) (x := 0) (by decide +kernel) (by decide) (Or.inr ⟨by decide +kernel, by omega, by omega⟩) ⟨_, rfl, (by decide), ?_⟩
                    refine x_ifz (k := 0) (tg := 246) (np := 222) (by decide +kernel) (by decide) (by decide) (fun q590 => ?_) (fun q591 => ?_)
                    · have q590 : 2147483648 = 2147483648 := q590
                      refine x_const (np := 247) (x := 9223372039002259456) (a := 2147483648) (by decide +kernel) (by decide) (by decide) ?_
                      refine x_retI (np := 248) (x := 0) (by decide +kernel) (by decide) (Or.inr ⟨by decide +kernel, by omega, by omega⟩) ⟨_, rfl, (by decide), ?_⟩
                      exact ⟨j466, f469, (by omega)⟩
                    have q591 : ¬ (2147483648 = 2147483648) := q591
                    exfalso; omega
                  have q587 : ¬ ((h 2 u561) ≠ 2147483710) := q587
                  refine x_const (np := 13) (x := 9223372043297226753) (a := 2147483649) (by decide +kernel) (by decide) (by decide) ?_
                  refine x_goto (np := 16) (x := 17) (by decide +kernel) ?_
                  refine x_retI (np := 18) (x := 0) (by decide +kernel) (by decide) (Or.inr ⟨by decide +kernel, by omega, by omega⟩) ⟨_, rfl, (by decide), ?_⟩
                  refine x_ifz (k := 1) (tg := 10) (np := 8) (by decide +kernel) (by decide) (by decide) (fun q592 => ?_) (fun q593 => ?_)
                  · have q592 : 2147483649 ≠ 2147483648 := q592
                    refine x_aload (np := 11) (x := 0) (by decide +kernel) rfl (x_nc_le (by decide)) ?_
                    refine x_aload (np := 12) (x := 0) (by decide +kernel) rfl (x_nc_le (by decide)) ?_
                    refine x_getC (np := 15) (x := 450) (f := 2) (q := (h465 1 2)) (by decide +kernel) (by decide) (by decide +kernel) rfl (fun l594 => ?_)
                    refine x_const (np := 16) (x := 9223372043297226753) (a := 2147483649) (by decide +kernel) (by decide) (by decide) ?_
                    refine x_iadd (np := 17) (x := 0) (v := (1 + (h465 1 2))) (by decide +kernel) l474 (by decide) (by omega) (by omega) ?_
                    refine x_cV (t := 6) (mj := 80) (n := 2) (rc := 8) (ml := 2) (nr := 0) (np := 20) (as := [x_r 1, iv_c (1 + (h465 1 2))]) (rest := []) (lo1 := [x_r 1, iv_c (1 + (h465 1 2))]) (by decide +kernel) (by decide) (by decide +kernel) (x_rb_of (by decide +kernel)) rfl rfl (x_wr (by decide) (x_wi (by omega) x_wn)) x_wn (by decide) rfl (c80_1n j466  (by omega)) (fun h598 q597 => ?_)
                    obtain ⟨j599, f600⟩ := q597
                    have f603 := Fr.trans f469 f600 (by decide)
                    refine x_const (np := 21) (x := 9223372043297226753) (a := 2147483649) (by decide +kernel) (by decide) (by decide) ?_
                    refine x_retI (np := 22) (x := 0) (by decide +kernel) (by decide) (Or.inr ⟨by decide +kernel, by omega, by omega⟩) ⟨_, rfl, (by decide), ?_⟩
                    refine x_ifz (k := 0) (tg := 246) (np := 222) (by decide +kernel) (by decide) (by decide) (fun q604 => ?_) (fun q605 => ?_)
                    · have q604 : 2147483649 = 2147483648 := q604
                      exfalso; omega
                    have q605 : ¬ (2147483649 = 2147483648) := q605
                    refine x_aload (np := 223) (x := 0) (by decide +kernel) rfl (x_nc_le (by decide)) ?_
                    refine x_cI (t := 6) (mj := 49) (n := 1) (rc := 4) (ml := 2) (nr := 0) (np := 226) (as := [x_r 62]) (rest := []) (lo1 := [x_r 62, 147573952589676412928]) (by decide +kernel) (by decide) (by decide +kernel) (x_rb_of (by decide +kernel)) rfl rfl (x_wr (by decide) x_wn) x_wn (by decide) rfl (c49_62 j599 ) (fun v606 h609 l607 q608 => ?_)
                    obtain ⟨j610, f611, b612⟩ := q608
                    have f613 := Fr.trans f603 f611 (by decide)
                    refine x_ifz (k := 0) (tg := 246) (np := 229) (by decide +kernel) (by decide) l607 (fun q614 => ?_) (fun q615 => ?_)
                    · have q614 : v606 = 2147483648 := q614
                      refine x_const (np := 247) (x := 9223372039002259456) (a := 2147483648) (by decide +kernel) (by decide) (by decide) ?_
                      refine x_retI (np := 248) (x := 0) (by decide +kernel) (by decide) (Or.inr ⟨by decide +kernel, by omega, by omega⟩) ⟨_, rfl, (by decide), ?_⟩
                      exact ⟨j610, f613, (by omega)⟩
                    have q615 : ¬ (v606 = 2147483648) := q615
                    refine x_aload (np := 230) (x := 0) (by decide +kernel) rfl (x_nc_le (by decide)) ?_
                    have q616 : h609 62 1 = h598 62 1 := f611 62 1 (by decide +kernel)
                    have q617 : h598 62 1 = h465 62 1 := f600 62 1 (by decide +kernel)
                    have q618 : h465 62 1 = h 62 1 := f467 62 1 (by decide +kernel)
                    obtain ⟨r619, q620, t621⟩ : ∃ z, (h 62 1) = z + 11 ∧ tw z := by
                      rcases hJ.2.2.2.2.2.2.2 with z | z
                      · exact ⟨17, by rw [z], Or.inl rfl⟩
                      · exact ⟨31, by rw [z], Or.inr rfl⟩
                    refine x_getR (np := 233) (x := 193) (f := 1) (q := (r619 + 11)) (by decide +kernel) (by decide) (by decide +kernel) (((q616.trans q617).trans q618).trans q620) ?_
                    refine x_const (np := 236) (x := 9223380637526788050) (a := 2147485650) (by decide +kernel) (by decide) (by decide) ?_
                    refine x_nI (t := 6) (mj := 36) (n := 2) (rc := 3) (ml := 2) (nr := 0) (np := 239) (as := [x_r (r619 + 11), iv_c 2147485650]) (rest := []) (lo1 := [x_r (r619 + 11), iv_c 2147485650]) (by decide +kernel) (by decide) (by decide +kernel) (x_rb_of (tr_11_3 t621)) rfl rfl (x_wr (tn_11 t621) (x_wi (by decide) x_wn)) x_wn (by decide) rfl ?_
                    refine x_aload (np := 1) (x := 0) (by decide +kernel) rfl (x_nc_le (tn_11 t621)) ?_
                    have b622 := jB (e := 2) 0 j610 (rg_T11_2_0_1 t621) (by omega) (by omega)
                    refine x_getC (np := 4) (x := 130) (f := 2) (q := (h609 (r619 + 11) 2)) (by decide +kernel) (by decide) (tg_11_130_2_0 t621) rfl (fun l623 => ?_)
                    refine x_const (np := 7) (x := 9223373756989178256) (a := 2147484048) (by decide +kernel) (by decide) (by decide) ?_
                    refine x_icmp (k := 2) (tg := 12) (np := 10) (by decide +kernel) (by decide) l623 (by decide) (fun q624 => ?_) (fun q625 => ?_)
                    · have q624 : (h609 (r619 + 11) 2) < 2147484048 := q624
                      refine x_aload (np := 13) (x := 0) (by decide +kernel) rfl (x_nc_le (tn_11 t621)) ?_
                      have q626 : h609 (r619 + 11) 0 = (r619 + 12) := tf_11_0 j610 t621
                      refine x_getR (np := 16) (x := 128) (f := 0) (q := (r619 + 12)) (by decide +kernel) (by decide) (tg_11_128_0_1 t621) q626 ?_
                      refine x_aload (np := 17) (x := 0) (by decide +kernel) rfl (x_nc_le (tn_11 t621)) ?_
                      refine x_getC (np := 20) (x := 130) (f := 2) (q := (h609 (r619 + 11) 2)) (by decide +kernel) (by decide) (tg_11_130_2_0 t621) rfl (fun l627 => ?_)
                      refine x_iload (np := 21) (x := 1) (by decide +kernel) rfl (by decide) ?_
                      obtain ⟨u628, q629⟩ : ∃ z, (h609 (r619 + 11) 2) = 2147483648 + z := ⟨(h609 (r619 + 11) 2) - 2147483648, by omega⟩
                      refine x_ast (np := 22) (x := 0) (kd := 1) (n := 400) (i := u628) (by decide +kernel) (Or.inl rfl) (ta_12_400 t621) (by omega) (by omega) (by decide) (by decide) (fun z => absurd z (by decide)) ?_
                      have j631 := jU (e := u628) (v := 2147485650) u628 j610 (rg_T12_0_1_400 t621) (by omega) (by omega) (by omega)
                      have f633 := jF (e := u628) (v := 2147485650) u628 f613 (rg_T12_0_1_400 t621) (by omega) (by omega) (by decide)
                      generalize e632 : x_up h609 (r619 + 12) u628 2147485650 = h630 at j631 f633 ⊢
                      refine x_aload (np := 23) (x := 0) (by decide +kernel) rfl (x_nc_le (tn_11 t621)) ?_
                      refine x_dup (np := 24) (x := 0) (by decide +kernel) (by have z := x_nc_le (k := (r619 + 11)) (tn_11 t621); unfold x_r; omega) ?_
                      have q634 : h630 (r619 + 11) 2 = h609 (r619 + 11) 2 := by rw [← e632]; exact x_up_k tof_11_12
                      refine x_getC (np := 27) (x := 130) (f := 2) (q := (h609 (r619 + 11) 2)) (by decide +kernel) (by decide) (tg_11_130_2_0 t621) q634 (fun l635 => ?_)
                      refine x_const (np := 28) (x := 9223372043297226753) (a := 2147483649) (by decide +kernel) (by decide) (by decide) ?_
                      refine x_iadd (np := 29) (x := 0) (v := (1 + (h609 (r619 + 11) 2))) (by decide +kernel) l623 (by decide) (by omega) (by omega) ?_
                      refine x_putI (np := 32) (x := 130) (f := 2) (by decide +kernel) (tg_11_130_2_0 t621) (by omega) (Or.inl (by decide)) ?_
                      have j637 := jU (e := 2) (v := (1 + (h609 (r619 + 11) 2))) 0 j631 (rg_T11_2_0_1 t621) (by omega) (by omega) (by omega)
                      have f639 := jF (e := 2) (v := (1 + (h609 (r619 + 11) 2))) 0 f633 (rg_T11_2_0_1 t621) (by omega) (by omega) (by decide)
                      generalize e638 : x_up h630 (r619 + 11) 2 (1 + (h609 (r619 + 11) 2)) = h636 at j637 f639 ⊢
                      refine x_const (np := 33) (x := 9223372043297226753) (a := 2147483649) (by decide +kernel) (by decide) (by decide) ?_
                      refine x_retI (np := 34) (x := 0) (by decide +kernel) (by decide) (Or.inr ⟨by decide +kernel, by omega, by omega⟩) ⟨_, rfl, (by decide), ?_⟩
                      refine x_ifz (k := 0) (tg := 246) (np := 242) (by decide +kernel) (by decide) (by decide) (fun q640 => ?_) (fun q641 => ?_)
                      · have q640 : 2147483649 = 2147483648 := q640
                        exfalso; omega
                      have q641 : ¬ (2147483649 = 2147483648) := q641
                      refine x_const (np := 243) (x := 9223372043297226753) (a := 2147483649) (by decide +kernel) (by decide) (by decide) ?_
                      refine x_goto (np := 246) (x := 247) (by decide +kernel) ?_
                      refine x_retI (np := 248) (x := 0) (by decide +kernel) (by decide) (Or.inr ⟨by decide +kernel, by omega, by omega⟩) ⟨_, rfl, (by decide), ?_⟩
                      exact ⟨j637, f639, (by omega)⟩
                    have q625 : ¬ ((h609 (r619 + 11) 2) < 2147484048) := q625
                    refine x_const (np := 11) (x := 9223372039002259456) (a := 2147483648) (by decide +kernel) (by decide) (by decide) ?_
                    refine x_retI (np := 12) (x := 0) (by decide +kernel) (by decide) (Or.inr ⟨by decide +kernel, by omega, by omega⟩) ⟨_, rfl, (by decide), ?_⟩
                    refine x_ifz (k := 0) (tg := 246) (np := 242) (by decide +kernel) (by decide) (by decide) (fun q642 => ?_) (fun q643 => ?_)
                    · have q642 : 2147483648 = 2147483648 := q642
                      refine x_const (np := 247) (x := 9223372039002259456) (a := 2147483648) (by decide +kernel) (by decide) (by decide) ?_
                      refine x_retI (np := 248) (x := 0) (by decide +kernel) (by decide) (Or.inr ⟨by decide +kernel, by omega, by omega⟩) ⟨_, rfl, (by decide), ?_⟩
                      exact ⟨j610, f613, (by omega)⟩
                    have q643 : ¬ (2147483648 = 2147483648) := q643
                    exfalso; omega
                  have q593 : ¬ (2147483649 ≠ 2147483648) := q593
                  exfalso; omega
                have q570 : ¬ (2147483648 = 2147483648) := q570
                exfalso; omega
              have q566 : ¬ ((h 2 u561) ≠ 2147483708) := q566
              refine x_const (np := 13) (x := 9223372043297226753) (a := 2147483649) (by decide +kernel) (by decide) (by decide) ?_
              refine x_goto (np := 16) (x := 17) (by decide +kernel) ?_
              refine x_retI (np := 18) (x := 0) (by decide +kernel) (by decide) (Or.inr ⟨by decide +kernel, by omega, by omega⟩) ⟨_, rfl, (by decide), ?_⟩
              refine x_ifz (k := 1) (tg := 10) (np := 8) (by decide +kernel) (by decide) (by decide) (fun q644 => ?_) (fun q645 => ?_)
              · have q644 : 2147483649 ≠ 2147483648 := q644
                refine x_aload (np := 11) (x := 0) (by decide +kernel) rfl (x_nc_le (by decide)) ?_
                refine x_aload (np := 12) (x := 0) (by decide +kernel) rfl (x_nc_le (by decide)) ?_
                refine x_getC (np := 15) (x := 450) (f := 2) (q := (h465 1 2)) (by decide +kernel) (by decide) (by decide +kernel) rfl (fun l646 => ?_)
                refine x_const (np := 16) (x := 9223372043297226753) (a := 2147483649) (by decide +kernel) (by decide) (by decide) ?_
                refine x_iadd (np := 17) (x := 0) (v := (1 + (h465 1 2))) (by decide +kernel) l474 (by decide) (by omega) (by omega) ?_
                refine x_cV (t := 6) (mj := 80) (n := 2) (rc := 8) (ml := 2) (nr := 0) (np := 20) (as := [x_r 1, iv_c (1 + (h465 1 2))]) (rest := []) (lo1 := [x_r 1, iv_c (1 + (h465 1 2))]) (by decide +kernel) (by decide) (by decide +kernel) (x_rb_of (by decide +kernel)) rfl rfl (x_wr (by decide) (x_wi (by omega) x_wn)) x_wn (by decide) rfl (c80_1n j466  (by omega)) (fun h650 q649 => ?_)
                obtain ⟨j651, f652⟩ := q649
                have f655 := Fr.trans f469 f652 (by decide)
                refine x_const (np := 21) (x := 9223372043297226753) (a := 2147483649) (by decide +kernel) (by decide) (by decide) ?_
                refine x_retI (np := 22) (x := 0) (by decide +kernel) (by decide) (Or.inr ⟨by decide +kernel, by omega, by omega⟩) ⟨_, rfl, (by decide), ?_⟩
                refine x_ifz (k := 0) (tg := 210) (np := 184) (by decide +kernel) (by decide) (by decide) (fun q656 => ?_) (fun q657 => ?_)
                · have q656 : 2147483649 = 2147483648 := q656
                  exfalso; omega
                have q657 : ¬ (2147483649 = 2147483648) := q657
                refine x_aload (np := 185) (x := 0) (by decide +kernel) rfl (x_nc_le (by decide)) ?_
                refine x_cI (t := 6) (mj := 49) (n := 1) (rc := 4) (ml := 2) (nr := 0) (np := 188) (as := [x_r 62]) (rest := []) (lo1 := [x_r 62, 147573952589676412928]) (by decide +kernel) (by decide) (by decide +kernel) (x_rb_of (by decide +kernel)) rfl rfl (x_wr (by decide) x_wn) x_wn (by decide) rfl (c49_62 j651 ) (fun v658 h661 l659 q660 => ?_)
                obtain ⟨j662, f663, b664⟩ := q660
                have f665 := Fr.trans f655 f663 (by decide)
                refine x_ifz (k := 0) (tg := 208) (np := 191) (by decide +kernel) (by decide) l659 (fun q666 => ?_) (fun q667 => ?_)
                · have q666 : v658 = 2147483648 := q666
                  refine x_const (np := 209) (x := 9223372039002259456) (a := 2147483648) (by decide +kernel) (by decide) (by decide) ?_
                  refine x_retI (np := 210) (x := 0) (by decide +kernel) (by decide) (Or.inr ⟨by decide +kernel, by omega, by omega⟩) ⟨_, rfl, (by decide), ?_⟩
                  exact ⟨j662, f665, (by omega)⟩
                have q667 : ¬ (v658 = 2147483648) := q667
                refine x_aload (np := 192) (x := 0) (by decide +kernel) rfl (x_nc_le (by decide)) ?_
                have q668 : h661 62 1 = h650 62 1 := f663 62 1 (by decide +kernel)
                have q669 : h650 62 1 = h465 62 1 := f652 62 1 (by decide +kernel)
                have q670 : h465 62 1 = h 62 1 := f467 62 1 (by decide +kernel)
                obtain ⟨r671, q672, t673⟩ : ∃ z, (h 62 1) = z + 11 ∧ tw z := by
                  rcases hJ.2.2.2.2.2.2.2 with z | z
                  · exact ⟨17, by rw [z], Or.inl rfl⟩
                  · exact ⟨31, by rw [z], Or.inr rfl⟩
                refine x_getR (np := 195) (x := 193) (f := 1) (q := (r671 + 11)) (by decide +kernel) (by decide) (by decide +kernel) (((q668.trans q669).trans q670).trans q672) ?_
                refine x_const (np := 198) (x := 9223380633231820753) (a := 2147485649) (by decide +kernel) (by decide) (by decide) ?_
                refine x_nI (t := 6) (mj := 36) (n := 2) (rc := 3) (ml := 2) (nr := 0) (np := 201) (as := [x_r (r671 + 11), iv_c 2147485649]) (rest := []) (lo1 := [x_r (r671 + 11), iv_c 2147485649]) (by decide +kernel) (by decide) (by decide +kernel) (x_rb_of (tr_11_3 t673)) rfl rfl (x_wr (tn_11 t673) (x_wi (by decide) x_wn)) x_wn (by decide) rfl ?_
                refine x_aload (np := 1) (x := 0) (by decide +kernel) rfl (x_nc_le (tn_11 t673)) ?_
                have b674 := jB (e := 2) 0 j662 (rg_T11_2_0_1 t673) (by omega) (by omega)
                refine x_getC (np := 4) (x := 130) (f := 2) (q := (h661 (r671 + 11) 2)) (by decide +kernel) (by decide) (tg_11_130_2_0 t673) rfl (fun l675 => ?_)
                refine x_const (np := 7) (x := 9223373756989178256) (a := 2147484048) (by decide +kernel) (by decide) (by decide) ?_
                refine x_icmp (k := 2) (tg := 12) (np := 10) (by decide +kernel) (by decide) l675 (by decide) (fun q676 => ?_) (fun q677 => ?_)
                · have q676 : (h661 (r671 + 11) 2) < 2147484048 := q676
                  refine x_aload (np := 13) (x := 0) (by decide +kernel) rfl (x_nc_le (tn_11 t673)) ?_
                  have q678 : h661 (r671 + 11) 0 = (r671 + 12) := tf_11_0 j662 t673
                  refine x_getR (np := 16) (x := 128) (f := 0) (q := (r671 + 12)) (by decide +kernel) (by decide) (tg_11_128_0_1 t673) q678 ?_
                  refine x_aload (np := 17) (x := 0) (by decide +kernel) rfl (x_nc_le (tn_11 t673)) ?_
                  refine x_getC (np := 20) (x := 130) (f := 2) (q := (h661 (r671 + 11) 2)) (by decide +kernel) (by decide) (tg_11_130_2_0 t673) rfl (fun l679 => ?_)
                  refine x_iload (np := 21) (x := 1) (by decide +kernel) rfl (by decide) ?_
                  obtain ⟨u680, q681⟩ : ∃ z, (h661 (r671 + 11) 2) = 2147483648 + z := ⟨(h661 (r671 + 11) 2) - 2147483648, by omega⟩
                  refine x_ast (np := 22) (x := 0) (kd := 1) (n := 400) (i := u680) (by decide +kernel) (Or.inl rfl) (ta_12_400 t673) (by omega) (by omega) (by decide) (by decide) (fun z => absurd z (by decide)) ?_
                  have j683 := jU (e := u680) (v := 2147485649) u680 j662 (rg_T12_0_1_400 t673) (by omega) (by omega) (by omega)
                  have f685 := jF (e := u680) (v := 2147485649) u680 f665 (rg_T12_0_1_400 t673) (by omega) (by omega) (by decide)
                  generalize e684 : x_up h661 (r671 + 12) u680 2147485649 = h682 at j683 f685 ⊢
                  refine x_aload (np := 23) (x := 0) (by decide +kernel) rfl (x_nc_le (tn_11 t673)) ?_
                  refine x_dup (np := 24) (x := 0) (by decide +kernel) (by have z := x_nc_le (k := (r671 + 11)) (tn_11 t673); unfold x_r; omega) ?_
                  have q686 : h682 (r671 + 11) 2 = h661 (r671 + 11) 2 := by rw [← e684]; exact x_up_k tof_11_12
                  refine x_getC (np := 27) (x := 130) (f := 2) (q := (h661 (r671 + 11) 2)) (by decide +kernel) (by decide) (tg_11_130_2_0 t673) q686 (fun l687 => ?_)
                  refine x_const (np := 28) (x := 9223372043297226753) (a := 2147483649) (by decide +kernel) (by decide) (by decide) ?_
                  refine x_iadd (np := 29) (x := 0) (v := (1 + (h661 (r671 + 11) 2))) (by decide +kernel) l675 (by decide) (by omega) (by omega) ?_
                  refine x_putI (np := 32) (x := 130) (f := 2) (by decide +kernel) (tg_11_130_2_0 t673) (by omega) (Or.inl (by decide)) ?_
                  have j689 := jU (e := 2) (v := (1 + (h661 (r671 + 11) 2))) 0 j683 (rg_T11_2_0_1 t673) (by omega) (by omega) (by omega)
                  have f691 := jF (e := 2) (v := (1 + (h661 (r671 + 11) 2))) 0 f685 (rg_T11_2_0_1 t673) (by omega) (by omega) (by decide)
                  generalize e690 : x_up h682 (r671 + 11) 2 (1 + (h661 (r671 + 11) 2)) = h688 at j689 f691 ⊢
                  refine x_const (np := 33) (x := 9223372043297226753) (a := 2147483649) (by decide +kernel) (by decide) (by decide) ?_
                  refine x_retI (np := 34) (x := 0) (by decide +kernel) (by decide) (Or.inr ⟨by decide +kernel, by omega, by omega⟩) ⟨_, rfl, (by decide), ?_⟩
                  refine x_ifz (k := 0) (tg := 208) (np := 204) (by decide +kernel) (by decide) (by decide) (fun q692 => ?_) (fun q693 => ?_)
                  · have q692 : 2147483649 = 2147483648 := q692
                    exfalso; omega
                  have q693 : ¬ (2147483649 = 2147483648) := q693
                  refine x_const (np := 205) (x := 9223372043297226753) (a := 2147483649) (by decide +kernel) (by decide) (by decide) ?_
                  refine x_goto (np := 208) (x := 209) (by decide +kernel) ?_
                  refine x_retI (np := 210) (x := 0) (by decide +kernel) (by decide) (Or.inr ⟨by decide +kernel, by omega, by omega⟩) ⟨_, rfl, (by decide), ?_⟩
                  exact ⟨j689, f691, (by omega)⟩
                have q677 : ¬ ((h661 (r671 + 11) 2) < 2147484048) := q677
                refine x_const (np := 11) (x := 9223372039002259456) (a := 2147483648) (by decide +kernel) (by decide) (by decide) ?_
                refine x_retI (np := 12) (x := 0) (by decide +kernel) (by decide) (Or.inr ⟨by decide +kernel, by omega, by omega⟩) ⟨_, rfl, (by decide), ?_⟩
                refine x_ifz (k := 0) (tg := 208) (np := 204) (by decide +kernel) (by decide) (by decide) (fun q694 => ?_) (fun q695 => ?_)
                · have q694 : 2147483648 = 2147483648 := q694
                  refine x_const (np := 209) (x := 9223372039002259456) (a := 2147483648) (by decide +kernel) (by decide) (by decide) ?_
                  refine x_retI (np := 210) (x := 0) (by decide +kernel) (by decide) (Or.inr ⟨by decide +kernel, by omega, by omega⟩) ⟨_, rfl, (by decide), ?_⟩
                  exact ⟨j662, f665, (by omega)⟩
                have q695 : ¬ (2147483648 = 2147483648) := q695
                exfalso; omega
              have q645 : ¬ (2147483649 ≠ 2147483648) := q645
              exfalso; omega
            have q471 : ¬ (v462 ≠ 2147483648) := q471
            refine x_const (np := 171) (x := 9223372039002259456) (a := 2147483648) (by decide +kernel) (by decide) (by decide) ?_
            refine x_retI (np := 172) (x := 0) (by decide +kernel) (by decide) (Or.inr ⟨by decide +kernel, by omega, by omega⟩) ⟨_, rfl, (by decide), ?_⟩
            exact ⟨j466, f469, (by omega)⟩
          have q461 : ¬ (2147483648 = 2147483648) := q461
          exfalso; omega
        have q411 : ¬ (2147483648 = 2147483648) := q411
        exfalso; omega
      have q361 : ¬ (2147483648 = 2147483648) := q361
      exfalso; omega
    have q359 : ¬ ((h 2 u355) ≠ 2147483688) := q359
    refine x_const (np := 13) (x := 9223372043297226753) (a := 2147483649) (by decide +kernel) (by decide) (by decide) ?_
    refine x_goto (np := 16) (x := 17) (by decide +kernel) ?_
    refine x_retI (np := 18) (x := 0) (by decide +kernel) (by decide) (Or.inr ⟨by decide +kernel, by omega, by omega⟩) ⟨_, rfl, (by decide), ?_⟩
    refine x_ifz (k := 0) (tg := 117) (np := 71) (by decide +kernel) (by decide) (by decide) (fun q696 => ?_) (fun q697 => ?_)
    · have q696 : 2147483649 = 2147483648 := q696
      exfalso; omega
    have q697 : ¬ (2147483649 = 2147483648) := q697
    refine x_iload (np := 72) (x := 1) (by decide +kernel) rfl (by decide) ?_
    refine x_const (np := 74) (x := 9223372064772063238) (a := 2147483654) (by decide +kernel) (by decide) (by decide) ?_
    refine x_icmp (k := 3) (tg := 115) (np := 77) (by decide +kernel) (by decide) (by decide) (by decide) (fun q698 => ?_) (fun q699 => ?_)
    · have q698 : 2147483654 ≤ 2147483650 := q698
      exfalso; omega
    have q699 : ¬ (2147483654 ≤ 2147483650) := q699
    refine x_aload (np := 78) (x := 0) (by decide +kernel) rfl (x_nc_le (by decide)) ?_
    have q700 : h 62 0 = 1 := by have z := jB (e := 0) 0 hJ rg_62_0_0_1 (by decide) (by decide); omega
    refine x_getR (np := 81) (x := 192) (f := 0) (q := 1) (by decide +kernel) (by decide) (by decide +kernel) q700 ?_
    refine x_const (np := 83) (x := 9223372210800951336) (a := 2147483688) (by decide +kernel) (by decide) (by decide) ?_
    refine x_nI (t := 6) (mj := 76) (n := 2) (rc := 8) (ml := 2) (nr := 0) (np := 86) (as := [x_r 1, iv_c 2147483688]) (rest := []) (lo1 := [x_r 1, iv_c 2147483688]) (by decide +kernel) (by decide) (by decide +kernel) (x_rb_of (by decide +kernel)) rfl rfl (x_wr (by decide) (x_wi (by decide) x_wn)) x_wn (by decide) rfl ?_
    refine x_aload (np := 1) (x := 0) (by decide +kernel) rfl (x_nc_le (by decide)) ?_
    refine x_iload (np := 2) (x := 1) (by decide +kernel) rfl (by decide) ?_
    refine x_nI (t := 6) (mj := 75) (n := 2) (rc := 8) (ml := 2) (nr := 0) (np := 5) (as := [x_r 1, iv_c 2147483688]) (rest := []) (lo1 := [x_r 1, iv_c 2147483688]) (by decide +kernel) (by decide) (by decide +kernel) (x_rb_of (by decide +kernel)) rfl rfl (x_wr (by decide) (x_wi (by decide) x_wn)) x_wn (by decide) rfl ?_
    refine x_aload (np := 1) (x := 0) (by decide +kernel) rfl (x_nc_le (by decide)) ?_
    refine x_aload (np := 2) (x := 0) (by decide +kernel) rfl (x_nc_le (by decide)) ?_
    refine x_getC (np := 5) (x := 450) (f := 2) (q := (h 1 2)) (by decide +kernel) (by decide) (by decide +kernel) rfl (fun l701 => ?_)
    refine x_nI (t := 6) (mj := 81) (n := 2) (rc := 8) (ml := 2) (nr := 0) (np := 8) (as := [x_r 1, iv_c (h 1 2)]) (rest := []) (lo1 := [x_r 1, iv_c (h 1 2)]) (by decide +kernel) (by decide) (by decide +kernel) (x_rb_of (by decide +kernel)) rfl rfl (x_wr (by decide) (x_wi l11 x_wn)) x_wn (by decide) rfl ?_
    refine x_iload (np := 1) (x := 1) (by decide +kernel) rfl l11 ?_
    refine x_aload (np := 2) (x := 0) (by decide +kernel) rfl (x_nc_le (by decide)) ?_
    refine x_getC (np := 5) (x := 449) (f := 1) (q := (h 1 1)) (by decide +kernel) (by decide) (by decide +kernel) rfl (fun l702 => ?_)
    refine x_icmp (k := 3) (tg := 17) (np := 8) (by decide +kernel) (by decide) l11 l13 (fun q703 => ?_) (fun q704 => ?_)
    · have q703 : (h 1 1) ≤ (h 1 2) := q703
      refine x_const (np := 18) (x := 9223372034707292159) (a := 2147483647) (by decide +kernel) (by decide) (by decide) ?_
      refine x_retI (np := 19) (x := 0) (by decide +kernel) (by decide) (Or.inl (by decide +kernel)) ⟨_, rfl, (by decide), ?_⟩
      refine x_iload (np := 9) (x := 1) (by decide +kernel) rfl (by decide) ?_
      refine x_icmp (k := 1) (tg := 16) (np := 12) (by decide +kernel) (by decide) (by decide) (by decide) (fun q705 => ?_) (fun q706 => ?_)
      · have q705 : 2147483647 ≠ 2147483688 := q705
        refine x_const (np := 17) (x := 9223372039002259456) (a := 2147483648) (by decide +kernel) (by decide) (by decide) ?_
        refine x_retI (np := 18) (x := 0) (by decide +kernel) (by decide) (Or.inr ⟨by decide +kernel, by omega, by omega⟩) ⟨_, rfl, (by decide), ?_⟩
        refine x_ifz (k := 1) (tg := 10) (np := 8) (by decide +kernel) (by decide) (by decide) (fun q707 => ?_) (fun q708 => ?_)
        · have q707 : 2147483648 ≠ 2147483648 := q707
          exfalso; omega
        have q708 : ¬ (2147483648 ≠ 2147483648) := q708
        refine x_const (np := 9) (x := 9223372039002259456) (a := 2147483648) (by decide +kernel) (by decide) (by decide) ?_
        refine x_retI (np := 10) (x := 0) (by decide +kernel) (by decide) (Or.inr ⟨by decide +kernel, by omega, by omega⟩) ⟨_, rfl, (by decide), ?_⟩
        refine x_ifz (k := 0) (tg := 115) (np := 89) (by decide +kernel) (by decide) (by decide) (fun q709 => ?_) (fun q710 => ?_)
        · have q709 : 2147483648 = 2147483648 := q709
          refine x_const (np := 116) (x := 9223372039002259456) (a := 2147483648) (by decide +kernel) (by decide) (by decide) ?_
          refine x_retI (np := 117) (x := 0) (by decide +kernel) (by decide) (Or.inr ⟨by decide +kernel, by omega, by omega⟩) ⟨_, rfl, (by decide), ?_⟩
          exact ⟨hJ, hF, (by omega)⟩
        have q710 : ¬ (2147483648 = 2147483648) := q710
        exfalso; omega
      have q706 : ¬ (2147483647 ≠ 2147483688) := q706
      exfalso; omega
    have q704 : ¬ ((h 1 1) ≤ (h 1 2)) := q704
    refine x_aload (np := 9) (x := 0) (by decide +kernel) rfl (x_nc_le (by decide)) ?_
    have q711 : h 1 0 = 2 := by have z := jB (e := 0) 0 hJ rg_1_0_0_1 (by decide) (by decide); omega
    refine x_getR (np := 12) (x := 448) (f := 0) (q := 2) (by decide +kernel) (by decide) (by decide +kernel) q711 ?_
    refine x_iload (np := 13) (x := 1) (by decide +kernel) rfl l11 ?_
    refine x_aldC (np := 14) (x := 0) (n := 400) (i := u355) (q := (h 2 u355)) (by decide +kernel) (by decide +kernel) (by omega) (by omega) (by decide) rfl (fun l712 => ?_)
    refine x_goto (np := 17) (x := 18) (by decide +kernel) ?_
    refine x_retI (np := 19) (x := 0) (by decide +kernel) l357 (Or.inl (by decide +kernel)) ⟨_, rfl, l357, ?_⟩
    refine x_iload (np := 9) (x := 1) (by decide +kernel) rfl (by decide) ?_
    refine x_icmp (k := 1) (tg := 16) (np := 12) (by decide +kernel) (by decide) l357 (by decide) (fun q713 => ?_) (fun q714 => ?_)
    · have q713 : (h 2 u355) ≠ 2147483688 := q713
      exfalso; omega
    have q714 : ¬ ((h 2 u355) ≠ 2147483688) := q714
    refine x_const (np := 13) (x := 9223372043297226753) (a := 2147483649) (by decide +kernel) (by decide) (by decide) ?_
    refine x_goto (np := 16) (x := 17) (by decide +kernel) ?_
    refine x_retI (np := 18) (x := 0) (by decide +kernel) (by decide) (Or.inr ⟨by decide +kernel, by omega, by omega⟩) ⟨_, rfl, (by decide), ?_⟩
    refine x_ifz (k := 1) (tg := 10) (np := 8) (by decide +kernel) (by decide) (by decide) (fun q715 => ?_) (fun q716 => ?_)
    · have q715 : 2147483649 ≠ 2147483648 := q715
      refine x_aload (np := 11) (x := 0) (by decide +kernel) rfl (x_nc_le (by decide)) ?_
      refine x_aload (np := 12) (x := 0) (by decide +kernel) rfl (x_nc_le (by decide)) ?_
      refine x_getC (np := 15) (x := 450) (f := 2) (q := (h 1 2)) (by decide +kernel) (by decide) (by decide +kernel) rfl (fun l717 => ?_)
      refine x_const (np := 16) (x := 9223372043297226753) (a := 2147483649) (by decide +kernel) (by decide) (by decide) ?_
      refine x_iadd (np := 17) (x := 0) (v := (1 + (h 1 2))) (by decide +kernel) l11 (by decide) (by omega) (by omega) ?_
      refine x_cV (t := 6) (mj := 80) (n := 2) (rc := 8) (ml := 2) (nr := 0) (np := 20) (as := [x_r 1, iv_c (1 + (h 1 2))]) (rest := []) (lo1 := [x_r 1, iv_c (1 + (h 1 2))]) (by decide +kernel) (by decide) (by decide +kernel) (x_rb_of (by decide +kernel)) rfl rfl (x_wr (by decide) (x_wi (by omega) x_wn)) x_wn (by decide) rfl (c80_1n hJ  (by omega)) (fun h721 q720 => ?_)
      obtain ⟨j722, f723⟩ := q720
      have f726 := Fr.trans hF f723 (by decide)
      refine x_const (np := 21) (x := 9223372043297226753) (a := 2147483649) (by decide +kernel) (by decide) (by decide) ?_
      refine x_retI (np := 22) (x := 0) (by decide +kernel) (by decide) (Or.inr ⟨by decide +kernel, by omega, by omega⟩) ⟨_, rfl, (by decide), ?_⟩
      refine x_ifz (k := 0) (tg := 115) (np := 89) (by decide +kernel) (by decide) (by decide) (fun q727 => ?_) (fun q728 => ?_)
      · have q727 : 2147483649 = 2147483648 := q727
        exfalso; omega
      have q728 : ¬ (2147483649 = 2147483648) := q728
      refine x_aload (np := 90) (x := 0) (by decide +kernel) rfl (x_nc_le (by decide)) ?_
      refine x_iload (np := 91) (x := 1) (by decide +kernel) rfl (by decide) ?_
      refine x_const (np := 92) (x := 9223372043297226753) (a := 2147483649) (by decide +kernel) (by decide) (by decide) ?_
      refine x_iadd (np := 93) (x := 0) (v := 2147483651) (by decide +kernel) (by decide) (by decide) (by omega) (by omega) ?_
      refine x_cI (t := 6) (mj := 46) (n := 2) (rc := 4) (ml := 3) (nr := 0) (np := 96) (as := [x_r 62, iv_c 2147483651]) (rest := []) (lo1 := [x_r 62, iv_c 2147483651, 147573952589676412928]) (by decide +kernel) (by decide) (by decide +kernel) (x_rb_of (by decide +kernel)) rfl rfl (x_wr (by decide) (x_wi (by decide) x_wn)) x_wn (by decide) rfl (c46_62_c3 j722  ) (fun v729 h732 l730 q731 => ?_)
      obtain ⟨j733, f734, b735⟩ := q731
      have f736 := Fr.trans f726 f734 (by decide)
      refine x_ifz (k := 0) (tg := 115) (np := 99) (by decide +kernel) (by decide) l730 (fun q737 => ?_) (fun q738 => ?_)
      · have q737 : v729 = 2147483648 := q737
        refine x_const (np := 116) (x := 9223372039002259456) (a := 2147483648) (by decide +kernel) (by decide) (by decide) ?_
        refine x_retI (np := 117) (x := 0) (by decide +kernel) (by decide) (Or.inr ⟨by decide +kernel, by omega, by omega⟩) ⟨_, rfl, (by decide), ?_⟩
        exact ⟨j733, f736, (by omega)⟩
      have q738 : ¬ (v729 = 2147483648) := q738
      refine x_aload (np := 100) (x := 0) (by decide +kernel) rfl (x_nc_le (by decide)) ?_
      have q739 : h732 62 0 = 1 := by have z := jB (e := 0) 0 j733 rg_62_0_0_1 (by decide) (by decide); omega
      refine x_getR (np := 103) (x := 192) (f := 0) (q := 1) (by decide +kernel) (by decide) (by decide +kernel) q739 ?_
      refine x_const (np := 105) (x := 9223372215095918633) (a := 2147483689) (by decide +kernel) (by decide) (by decide) ?_
      refine x_nI (t := 6) (mj := 76) (n := 2) (rc := 8) (ml := 2) (nr := 0) (np := 108) (as := [x_r 1, iv_c 2147483689]) (rest := []) (lo1 := [x_r 1, iv_c 2147483689]) (by decide +kernel) (by decide) (by decide +kernel) (x_rb_of (by decide +kernel)) rfl rfl (x_wr (by decide) (x_wi (by decide) x_wn)) x_wn (by decide) rfl ?_
      refine x_aload (np := 1) (x := 0) (by decide +kernel) rfl (x_nc_le (by decide)) ?_
      refine x_iload (np := 2) (x := 1) (by decide +kernel) rfl (by decide) ?_
      refine x_nI (t := 6) (mj := 75) (n := 2) (rc := 8) (ml := 2) (nr := 0) (np := 5) (as := [x_r 1, iv_c 2147483689]) (rest := []) (lo1 := [x_r 1, iv_c 2147483689]) (by decide +kernel) (by decide) (by decide +kernel) (x_rb_of (by decide +kernel)) rfl rfl (x_wr (by decide) (x_wi (by decide) x_wn)) x_wn (by decide) rfl ?_
      refine x_aload (np := 1) (x := 0) (by decide +kernel) rfl (x_nc_le (by decide)) ?_
      refine x_aload (np := 2) (x := 0) (by decide +kernel) rfl (x_nc_le (by decide)) ?_
      have b740 := jB (e := 2) 0 j733 rg_1_2_0_1 (by omega) (by omega)
      refine x_getC (np := 5) (x := 450) (f := 2) (q := (h732 1 2)) (by decide +kernel) (by decide) (by decide +kernel) rfl (fun l741 => ?_)
      refine x_nI (t := 6) (mj := 81) (n := 2) (rc := 8) (ml := 2) (nr := 0) (np := 8) (as := [x_r 1, iv_c (h732 1 2)]) (rest := []) (lo1 := [x_r 1, iv_c (h732 1 2)]) (by decide +kernel) (by decide) (by decide +kernel) (x_rb_of (by decide +kernel)) rfl rfl (x_wr (by decide) (x_wi l741 x_wn)) x_wn (by decide) rfl ?_
      refine x_iload (np := 1) (x := 1) (by decide +kernel) rfl l741 ?_
      refine x_aload (np := 2) (x := 0) (by decide +kernel) rfl (x_nc_le (by decide)) ?_
      have q742 : h732 1 1 = h721 1 1 := jK 0 f734 rg_1_1_0_1 (by omega) (by omega) (by decide)
      have q743 : h721 1 1 = h 1 1 := jK 0 f723 rg_1_1_0_1 (by omega) (by omega) (by decide)
      refine x_getC (np := 5) (x := 449) (f := 1) (q := (h 1 1)) (by decide +kernel) (by decide) (by decide +kernel) (q742.trans q743) (fun l744 => ?_)
      refine x_icmp (k := 3) (tg := 17) (np := 8) (by decide +kernel) (by decide) l741 l13 (fun q745 => ?_) (fun q746 => ?_)
      · have q745 : (h 1 1) ≤ (h732 1 2) := q745
        refine x_const (np := 18) (x := 9223372034707292159) (a := 2147483647) (by decide +kernel) (by decide) (by decide) ?_
        refine x_retI (np := 19) (x := 0) (by decide +kernel) (by decide) (Or.inl (by decide +kernel)) ⟨_, rfl, (by decide), ?_⟩
        refine x_iload (np := 9) (x := 1) (by decide +kernel) rfl (by decide) ?_
        refine x_icmp (k := 1) (tg := 16) (np := 12) (by decide +kernel) (by decide) (by decide) (by decide) (fun q747 => ?_) (fun q748 => ?_)
        · have q747 : 2147483647 ≠ 2147483689 := q747
          refine x_const (np := 17) (x := 9223372039002259456) (a := 2147483648) (by decide +kernel) (by decide) (by decide) ?_
          refine x_retI (np := 18) (x := 0) (by decide +kernel) (by decide) (Or.inr ⟨by decide +kernel, by omega, by omega⟩) ⟨_, rfl, (by decide), ?_⟩
          refine x_ifz (k := 1) (tg := 10) (np := 8) (by decide +kernel) (by decide) (by decide) (fun q749 => ?_) (fun q750 => ?_)
          · have q749 : 2147483648 ≠ 2147483648 := q749
            exfalso; omega
          have q750 : ¬ (2147483648 ≠ 2147483648) := q750
          refine x_const (np := 9) (x := 9223372039002259456) (a := 2147483648) (by decide +kernel) (by decide) (by decide) ?_
          refine x_retI (np := 10) (x := 0) (by decide +kernel) (by decide) (Or.inr ⟨by decide +kernel, by omega, by omega⟩) ⟨_, rfl, (by decide), ?_⟩
          refine x_ifz (k := 0) (tg := 115) (np := 111) (by decide +kernel) (by decide) (by decide) (fun q751 => ?_) (fun q752 => ?_)
          · have q751 : 2147483648 = 2147483648 := q751
            refine x_const (np := 116) (x := 9223372039002259456) (a := 2147483648) (by decide +kernel) (by decide) (by decide) ?_
            refine x_retI (np := 117) (x := 0) (by decide +kernel) (by decide) (Or.inr ⟨by decide +kernel, by omega, by omega⟩) ⟨_, rfl, (by decide), ?_⟩
            exact ⟨j733, f736, (by omega)⟩
          have q752 : ¬ (2147483648 = 2147483648) := q752
          exfalso; omega
        have q748 : ¬ (2147483647 ≠ 2147483689) := q748
        exfalso; omega
      have q746 : ¬ ((h 1 1) ≤ (h732 1 2)) := q746
      refine x_aload (np := 9) (x := 0) (by decide +kernel) rfl (x_nc_le (by decide)) ?_
      have q753 : h732 1 0 = 2 := by have z := jB (e := 0) 0 j733 rg_1_0_0_1 (by decide) (by decide); omega
      refine x_getR (np := 12) (x := 448) (f := 0) (q := 2) (by decide +kernel) (by decide) (by decide +kernel) q753 ?_
      refine x_iload (np := 13) (x := 1) (by decide +kernel) rfl l741 ?_
      obtain ⟨u754, q755⟩ : ∃ z, (h732 1 2) = 2147483648 + z := ⟨(h732 1 2) - 2147483648, by omega⟩
      have q756 : h732 2 u754 = h721 2 u754 := jK u754 f734 rg_2_0_1_400 (by omega) (by omega) (by decide)
      have q757 : h721 2 u754 = h 2 u754 := jK u754 f723 rg_2_0_1_400 (by omega) (by omega) (by decide)
      refine x_aldC (np := 14) (x := 0) (n := 400) (i := u754) (q := (h 2 u754)) (by decide +kernel) (by decide +kernel) (by omega) (by omega) (by decide) (q756.trans q757) (fun l758 => ?_)
      refine x_goto (np := 17) (x := 18) (by decide +kernel) ?_
      refine x_retI (np := 19) (x := 0) (by decide +kernel) l758 (Or.inl (by decide +kernel)) ⟨_, rfl, l758, ?_⟩
      refine x_iload (np := 9) (x := 1) (by decide +kernel) rfl (by decide) ?_
      refine x_icmp (k := 1) (tg := 16) (np := 12) (by decide +kernel) (by decide) l758 (by decide) (fun q759 => ?_) (fun q760 => ?_)
      · have q759 : (h 2 u754) ≠ 2147483689 := q759
        refine x_const (np := 17) (x := 9223372039002259456) (a := 2147483648) (by decide +kernel) (by decide) (by decide) ?_
        refine x_retI (np := 18) (x := 0) (by decide +kernel) (by decide) (Or.inr ⟨by decide +kernel, by omega, by omega⟩) ⟨_, rfl, (by decide), ?_⟩
        refine x_ifz (k := 1) (tg := 10) (np := 8) (by decide +kernel) (by decide) (by decide) (fun q761 => ?_) (fun q762 => ?_)
        · have q761 : 2147483648 ≠ 2147483648 := q761
          exfalso; omega
        have q762 : ¬ (2147483648 ≠ 2147483648) := q762
        refine x_const (np := 9) (x := 9223372039002259456) (a := 2147483648) (by decide +kernel) (by decide) (by decide) ?_
        refine x_retI (np := 10) (x := 0) (by decide +kernel) (by decide) (Or.inr ⟨by decide +kernel, by omega, by omega⟩) ⟨_, rfl, (by decide), ?_⟩
        refine x_ifz (k := 0) (tg := 115) (np := 111) (by decide +kernel) (by decide) (by decide) (fun q763 => ?_) (fun q764 => ?_)
        · have q763 : 2147483648 = 2147483648 := q763
          refine x_const (np := 116) (x := 9223372039002259456) (a := 2147483648) (by decide +kernel) (by decide) (by decide) ?_
          refine x_retI (np := 117) (x := 0) (by decide +kernel) (by decide) (Or.inr ⟨by decide +kernel, by omega, by omega⟩) ⟨_, rfl, (by decide), ?_⟩
          exact ⟨j733, f736, (by omega)⟩
        have q764 : ¬ (2147483648 = 2147483648) := q764
        exfalso; omega
      have q760 : ¬ ((h 2 u754) ≠ 2147483689) := q760
      refine x_const (np := 13) (x := 9223372043297226753) (a := 2147483649) (by decide +kernel) (by decide) (by decide) ?_
      refine x_goto (np := 16) (x := 17) (by decide +kernel) ?_
      refine x_retI (np := 18) (x := 0) (by decide +kernel) (by decide) (Or.inr ⟨by decide +kernel, by omega, by omega⟩) ⟨_, rfl, (by decide), ?_⟩
      refine x_ifz (k := 1) (tg := 10) (np := 8) (by decide +kernel) (by decide) (by decide) (fun q765 => ?_) (fun q766 => ?_)
      · have q765 : 2147483649 ≠ 2147483648 := q765
        refine x_aload (np := 11) (x := 0) (by decide +kernel) rfl (x_nc_le (by decide)) ?_
        refine x_aload (np := 12) (x := 0) (by decide +kernel) rfl (x_nc_le (by decide)) ?_
        refine x_getC (np := 15) (x := 450) (f := 2) (q := (h732 1 2)) (by decide +kernel) (by decide) (by decide +kernel) rfl (fun l767 => ?_)
        refine x_const (np := 16) (x := 9223372043297226753) (a := 2147483649) (by decide +kernel) (by decide) (by decide) ?_
        refine x_iadd (np := 17) (x := 0) (v := (1 + (h732 1 2))) (by decide +kernel) l741 (by decide) (by omega) (by omega) ?_
        refine x_cV (t := 6) (mj := 80) (n := 2) (rc := 8) (ml := 2) (nr := 0) (np := 20) (as := [x_r 1, iv_c (1 + (h732 1 2))]) (rest := []) (lo1 := [x_r 1, iv_c (1 + (h732 1 2))]) (by decide +kernel) (by decide) (by decide +kernel) (x_rb_of (by decide +kernel)) rfl rfl (x_wr (by decide) (x_wi (by omega) x_wn)) x_wn (by decide) rfl (c80_1n j733  (by omega)) (fun h771 q770 => ?_)
        obtain ⟨j772, f773⟩ := q770
        have f776 := Fr.trans f736 f773 (by decide)
        refine x_const (np := 21) (x := 9223372043297226753) (a := 2147483649) (by decide +kernel) (by decide) (by decide) ?_
        refine x_retI (np := 22) (x := 0) (by decide +kernel) (by decide) (Or.inr ⟨by decide +kernel, by omega, by omega⟩) ⟨_, rfl, (by decide), ?_⟩
        refine x_ifz (k := 0) (tg := 115) (np := 111) (by decide +kernel) (by decide) (by decide) (fun q777 => ?_) (fun q778 => ?_)
        · have q777 : 2147483649 = 2147483648 := q777
          exfalso; omega
        have q778 : ¬ (2147483649 = 2147483648) := q778
        refine x_const (np := 112) (x := 9223372043297226753) (a := 2147483649) (by decide +kernel) (by decide) (by decide) ?_
        refine x_goto (np := 115) (x := 116) (by decide +kernel) ?_
        refine x_retI (np := 117) (x := 0) (by decide +kernel) (by decide) (Or.inr ⟨by decide +kernel, by omega, by omega⟩) ⟨_, rfl, (by decide), ?_⟩
        exact ⟨j772, f776, (by omega)⟩
      have q766 : ¬ (2147483649 ≠ 2147483648) := q766
      exfalso; omega
    have q716 : ¬ (2147483649 ≠ 2147483648) := q716
    exfalso; omega
  have q9 : ¬ (v2 = 2147483648) := q9
  have b779 := c5 (by omega)
  refine x_iload (np := 13) (x := 1) (by decide +kernel) rfl (by decide) ?_
  refine x_const (np := 15) (x := 9223372064772063238) (a := 2147483654) (by decide +kernel) (by decide) (by decide) ?_
  refine x_icmp (k := 3) (tg := 57) (np := 18) (by decide +kernel) (by decide) (by decide) (by decide) (fun q780 => ?_) (fun q781 => ?_)
  · have q780 : 2147483654 ≤ 2147483650 := q780
    exfalso; omega
  have q781 : ¬ (2147483654 ≤ 2147483650) := q781
  refine x_aload (np := 19) (x := 0) (by decide +kernel) rfl (x_nc_le (by decide)) ?_
  have q782 : h 62 0 = 1 := by have z := jB (e := 0) 0 hJ rg_62_0_0_1 (by decide) (by decide); omega
  refine x_getR (np := 22) (x := 192) (f := 0) (q := 1) (by decide +kernel) (by decide) (by decide +kernel) q782 ?_
  refine x_ldcB (i := 24) (idx := 71) (tx := "not") (by rw [tb_y48]; exact List.mem_of_getElem? (i := 24) rfl) (by decide) (by rw [tb_b48]; decide +kernel) ?_
  refine x_nI (t := 6) (mj := 78) (n := 2) (rc := 8) (ml := 2) (nr := 0) (np := 27) (as := [x_r 1, x_b (24 + 1)]) (rest := []) (lo1 := [x_r 1, x_b (24 + 1)]) (by decide +kernel) (by decide) (by decide +kernel) (x_rb_of (by decide +kernel)) rfl rfl (x_wr (by decide) (x_wB (by decide) x_wn)) x_wn (by decide) rfl ?_
  refine x_aload (np := 1) (x := 0) (by decide +kernel) rfl (x_nc_le (by decide)) ?_
  refine x_aloadB (i := 24) (k4 := 1) rfl (by decide) (by rw [tb_b78]; decide +kernel) ?_
  refine x_cP (t := 6) (mj := 77) (n := 2) (rc := 8) (ml := 4) (nr := 0) (np := 5) (as := [x_r 1, x_b (24 + 1)]) (rest := []) (lo1 := [x_r 1, x_b (24 + 1), 147573952589676412928, 147573952589676412928]) (by decide +kernel) (by decide) (by decide +kernel) (x_rb_of (by decide +kernel)) rfl rfl (x_wr (by decide) (x_wB (by decide) x_wn)) x_wn (by decide) rfl (c77_1_S0 hJ  (by decide)) (fun v783 l784 q785 => ?_)
  obtain ⟨b787, c786⟩ := q785
  refine x_ifz (k := 1) (tg := 10) (np := 8) (by decide +kernel) (by decide) l784 (fun q788 => ?_) (fun q789 => ?_)
  · have q788 : v783 ≠ 2147483648 := q788
    have b790 := c786 (by omega)
    refine x_aload (np := 11) (x := 0) (by decide +kernel) rfl (x_nc_le (by decide)) ?_
    refine x_aload (np := 12) (x := 0) (by decide +kernel) rfl (x_nc_le (by decide)) ?_
    refine x_getC (np := 15) (x := 450) (f := 2) (q := (h 1 2)) (by decide +kernel) (by decide) (by decide +kernel) rfl (fun l791 => ?_)
    refine x_aloadB (i := 24) (k4 := 1) rfl (by decide) (by rw [tb_b78]; decide +kernel) ?_
    have b792 := (iv_tl_lt 24 (by decide)).1
    have b793 := iv_tl_ge 24 (by decide)
    refine x_len (by decide +kernel) (by rw [tb_y78]; exact sl_Tl) (by decide) (by rw [tb_b78]; decide +kernel) (Nat.le_trans (x_wi l791 (x_wr (by decide) x_wn)) (by decide)) ?_
    refine x_iadd (np := 20) (x := 0) (v := ((h 1 2) + (iv_tl 24))) (by decide +kernel) l791 (by omega) (by omega) (by omega) ?_
    refine x_cV (t := 6) (mj := 80) (n := 2) (rc := 8) (ml := 2) (nr := 0) (np := 23) (as := [x_r 1, iv_c ((h 1 2) + (iv_tl 24))]) (rest := []) (lo1 := [x_r 1, iv_c ((h 1 2) + (iv_tl 24))]) (by decide +kernel) (by decide) (by decide +kernel) (x_rb_of (by decide +kernel)) rfl rfl (x_wr (by decide) (x_wi (by omega) x_wn)) x_wn (by decide) rfl (c80_1n hJ  (by omega)) (fun h797 q796 => ?_)
    obtain ⟨j798, f799⟩ := q796
    have f802 := Fr.trans hF f799 (by decide)
    refine x_const (np := 24) (x := 9223372043297226753) (a := 2147483649) (by decide +kernel) (by decide) (by decide) ?_
    refine x_retI (np := 25) (x := 0) (by decide +kernel) (by decide) (Or.inr ⟨by decide +kernel, by omega, by omega⟩) ⟨_, rfl, (by decide), ?_⟩
    refine x_ifz (k := 0) (tg := 57) (np := 30) (by decide +kernel) (by decide) (by decide) (fun q803 => ?_) (fun q804 => ?_)
    · have q803 : 2147483649 = 2147483648 := q803
      exfalso; omega
    have q804 : ¬ (2147483649 = 2147483648) := q804
    refine x_aload (np := 31) (x := 0) (by decide +kernel) rfl (x_nc_le (by decide)) ?_
    refine x_iload (np := 32) (x := 1) (by decide +kernel) rfl (by decide) ?_
    refine x_const (np := 33) (x := 9223372043297226753) (a := 2147483649) (by decide +kernel) (by decide) (by decide) ?_
    refine x_iadd (np := 34) (x := 0) (v := 2147483651) (by decide +kernel) (by decide) (by decide) (by omega) (by omega) ?_
    refine x_cI (t := 6) (mj := 48) (n := 2) (rc := 4) (ml := 2) (nr := 0) (np := 37) (as := [x_r 62, iv_c 2147483651]) (rest := []) (lo1 := [x_r 62, iv_c 2147483651]) (by decide +kernel) (by decide) (by decide +kernel) (x_rb_of (by decide +kernel)) rfl rfl (x_wr (by decide) (x_wi (by decide) x_wn)) x_wn (by decide) rfl (c48_62_c3 j798  ) (fun v805 h808 l806 q807 => ?_)
    obtain ⟨j809, f810, b811⟩ := q807
    have f812 := Fr.trans f802 f810 (by decide)
    refine x_ifz (k := 0) (tg := 57) (np := 40) (by decide +kernel) (by decide) l806 (fun q813 => ?_) (fun q814 => ?_)
    · have q813 : v805 = 2147483648 := q813
      refine x_const (np := 58) (x := 9223372039002259456) (a := 2147483648) (by decide +kernel) (by decide) (by decide) ?_
      refine x_retI (np := 59) (x := 0) (by decide +kernel) (by decide) (Or.inr ⟨by decide +kernel, by omega, by omega⟩) ⟨_, rfl, (by decide), ?_⟩
      exact ⟨j809, f812, (by omega)⟩
    have q814 : ¬ (v805 = 2147483648) := q814
    refine x_aload (np := 41) (x := 0) (by decide +kernel) rfl (x_nc_le (by decide)) ?_
    have q815 : h808 62 1 = h797 62 1 := f810 62 1 (by decide +kernel)
    have q816 : h797 62 1 = h 62 1 := f799 62 1 (by decide +kernel)
    obtain ⟨r817, q818, t819⟩ : ∃ z, (h 62 1) = z + 11 ∧ tw z := by
      rcases hJ.2.2.2.2.2.2.2 with z | z
      · exact ⟨17, by rw [z], Or.inl rfl⟩
      · exact ⟨31, by rw [z], Or.inr rfl⟩
    refine x_getR (np := 44) (x := 193) (f := 1) (q := (r817 + 11)) (by decide +kernel) (by decide) (by decide +kernel) ((q815.trans q816).trans q818) ?_
    refine x_const (np := 47) (x := 9223380641821755347) (a := 2147485651) (by decide +kernel) (by decide) (by decide) ?_
    refine x_nI (t := 6) (mj := 36) (n := 2) (rc := 3) (ml := 2) (nr := 0) (np := 50) (as := [x_r (r817 + 11), iv_c 2147485651]) (rest := []) (lo1 := [x_r (r817 + 11), iv_c 2147485651]) (by decide +kernel) (by decide) (by decide +kernel) (x_rb_of (tr_11_3 t819)) rfl rfl (x_wr (tn_11 t819) (x_wi (by decide) x_wn)) x_wn (by decide) rfl ?_
    refine x_aload (np := 1) (x := 0) (by decide +kernel) rfl (x_nc_le (tn_11 t819)) ?_
    have b820 := jB (e := 2) 0 j809 (rg_T11_2_0_1 t819) (by omega) (by omega)
    refine x_getC (np := 4) (x := 130) (f := 2) (q := (h808 (r817 + 11) 2)) (by decide +kernel) (by decide) (tg_11_130_2_0 t819) rfl (fun l821 => ?_)
    refine x_const (np := 7) (x := 9223373756989178256) (a := 2147484048) (by decide +kernel) (by decide) (by decide) ?_
    refine x_icmp (k := 2) (tg := 12) (np := 10) (by decide +kernel) (by decide) l821 (by decide) (fun q822 => ?_) (fun q823 => ?_)
    · have q822 : (h808 (r817 + 11) 2) < 2147484048 := q822
      refine x_aload (np := 13) (x := 0) (by decide +kernel) rfl (x_nc_le (tn_11 t819)) ?_
      have q824 : h808 (r817 + 11) 0 = (r817 + 12) := tf_11_0 j809 t819
      refine x_getR (np := 16) (x := 128) (f := 0) (q := (r817 + 12)) (by decide +kernel) (by decide) (tg_11_128_0_1 t819) q824 ?_
      refine x_aload (np := 17) (x := 0) (by decide +kernel) rfl (x_nc_le (tn_11 t819)) ?_
      refine x_getC (np := 20) (x := 130) (f := 2) (q := (h808 (r817 + 11) 2)) (by decide +kernel) (by decide) (tg_11_130_2_0 t819) rfl (fun l825 => ?_)
      refine x_iload (np := 21) (x := 1) (by decide +kernel) rfl (by decide) ?_
      obtain ⟨u826, q827⟩ : ∃ z, (h808 (r817 + 11) 2) = 2147483648 + z := ⟨(h808 (r817 + 11) 2) - 2147483648, by omega⟩
      refine x_ast (np := 22) (x := 0) (kd := 1) (n := 400) (i := u826) (by decide +kernel) (Or.inl rfl) (ta_12_400 t819) (by omega) (by omega) (by decide) (by decide) (fun z => absurd z (by decide)) ?_
      have j829 := jU (e := u826) (v := 2147485651) u826 j809 (rg_T12_0_1_400 t819) (by omega) (by omega) (by omega)
      have f831 := jF (e := u826) (v := 2147485651) u826 f812 (rg_T12_0_1_400 t819) (by omega) (by omega) (by decide)
      generalize e830 : x_up h808 (r817 + 12) u826 2147485651 = h828 at j829 f831 ⊢
      refine x_aload (np := 23) (x := 0) (by decide +kernel) rfl (x_nc_le (tn_11 t819)) ?_
      refine x_dup (np := 24) (x := 0) (by decide +kernel) (by have z := x_nc_le (k := (r817 + 11)) (tn_11 t819); unfold x_r; omega) ?_
      have q832 : h828 (r817 + 11) 2 = h808 (r817 + 11) 2 := by rw [← e830]; exact x_up_k tof_11_12
      refine x_getC (np := 27) (x := 130) (f := 2) (q := (h808 (r817 + 11) 2)) (by decide +kernel) (by decide) (tg_11_130_2_0 t819) q832 (fun l833 => ?_)
      refine x_const (np := 28) (x := 9223372043297226753) (a := 2147483649) (by decide +kernel) (by decide) (by decide) ?_
      refine x_iadd (np := 29) (x := 0) (v := (1 + (h808 (r817 + 11) 2))) (by decide +kernel) l821 (by decide) (by omega) (by omega) ?_
      refine x_putI (np := 32) (x := 130) (f := 2) (by decide +kernel) (tg_11_130_2_0 t819) (by omega) (Or.inl (by decide)) ?_
      have j835 := jU (e := 2) (v := (1 + (h808 (r817 + 11) 2))) 0 j829 (rg_T11_2_0_1 t819) (by omega) (by omega) (by omega)
      have f837 := jF (e := 2) (v := (1 + (h808 (r817 + 11) 2))) 0 f831 (rg_T11_2_0_1 t819) (by omega) (by omega) (by decide)
      generalize e836 : x_up h828 (r817 + 11) 2 (1 + (h808 (r817 + 11) 2)) = h834 at j835 f837 ⊢
      refine x_const (np := 33) (x := 9223372043297226753) (a := 2147483649) (by decide +kernel) (by decide) (by decide) ?_
      refine x_retI (np := 34) (x := 0) (by decide +kernel) (by decide) (Or.inr ⟨by decide +kernel, by omega, by omega⟩) ⟨_, rfl, (by decide), ?_⟩
      refine x_ifz (k := 0) (tg := 57) (np := 53) (by decide +kernel) (by decide) (by decide) (fun q838 => ?_) (fun q839 => ?_)
      · have q838 : 2147483649 = 2147483648 := q838
        exfalso; omega
      have q839 : ¬ (2147483649 = 2147483648) := q839
      refine x_const (np := 54) (x := 9223372043297226753) (a := 2147483649) (by decide +kernel) (by decide) (by decide) ?_
      refine x_goto (np := 57) (x := 58) (by decide +kernel) ?_
      refine x_retI (np := 59) (x := 0) (by decide +kernel) (by decide) (Or.inr ⟨by decide +kernel, by omega, by omega⟩) ⟨_, rfl, (by decide), ?_⟩
      exact ⟨j835, f837, (by omega)⟩
    have q823 : ¬ ((h808 (r817 + 11) 2) < 2147484048) := q823
    refine x_const (np := 11) (x := 9223372039002259456) (a := 2147483648) (by decide +kernel) (by decide) (by decide) ?_
    refine x_retI (np := 12) (x := 0) (by decide +kernel) (by decide) (Or.inr ⟨by decide +kernel, by omega, by omega⟩) ⟨_, rfl, (by decide), ?_⟩
    refine x_ifz (k := 0) (tg := 57) (np := 53) (by decide +kernel) (by decide) (by decide) (fun q840 => ?_) (fun q841 => ?_)
    · have q840 : 2147483648 = 2147483648 := q840
      refine x_const (np := 58) (x := 9223372039002259456) (a := 2147483648) (by decide +kernel) (by decide) (by decide) ?_
      refine x_retI (np := 59) (x := 0) (by decide +kernel) (by decide) (Or.inr ⟨by decide +kernel, by omega, by omega⟩) ⟨_, rfl, (by decide), ?_⟩
      exact ⟨j809, f812, (by omega)⟩
    have q841 : ¬ (2147483648 = 2147483648) := q841
    exfalso; omega
  have q789 : ¬ (v783 ≠ 2147483648) := q789
  refine x_const (np := 9) (x := 9223372039002259456) (a := 2147483648) (by decide +kernel) (by decide) (by decide) ?_
  refine x_retI (np := 10) (x := 0) (by decide +kernel) (by decide) (Or.inr ⟨by decide +kernel, by omega, by omega⟩) ⟨_, rfl, (by decide), ?_⟩
  refine x_ifz (k := 0) (tg := 57) (np := 30) (by decide +kernel) (by decide) (by decide) (fun q842 => ?_) (fun q843 => ?_)
  · have q842 : 2147483648 = 2147483648 := q842
    refine x_const (np := 58) (x := 9223372039002259456) (a := 2147483648) (by decide +kernel) (by decide) (by decide) ?_
    refine x_retI (np := 59) (x := 0) (by decide +kernel) (by decide) (Or.inr ⟨by decide +kernel, by omega, by omega⟩) ⟨_, rfl, (by decide), ?_⟩
    exact ⟨hJ, hF, (by omega)⟩
  have q843 : ¬ (2147483648 = 2147483648) := q843
  exfalso; omega
