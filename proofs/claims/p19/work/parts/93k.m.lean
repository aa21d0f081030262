/-! ===== methods ===== -/
set_option maxHeartbeats 0 in
/-- LentNames$CustomReader.readAll(I)Z -/
theorem c47_62_c0 {sc : Nat × Nat} {d  : Nat} {h : xh} (hJ : J h) : X sc 47 (d + 27) (xI fun r h' => J h' ∧ Fr 161 h h' ∧ (2147483648 ≤ r ∧ r ≤ 2147483649)) 0 0 0 [x_r 62, iv_c 2147483648, 147573952589676412928] [] h := by
  have hF := Fr.refl 161 h
  refine x_aload (np := 1) (x := 0) (by decide +kernel) rfl (x_nc_le (by decide)) ?_
  refine x_iload (np := 2) (x := 1) (by decide +kernel) rfl (by decide) ?_
  refine x_cI (t := 6) (mj := 48) (n := 2) (rc := 4) (ml := 2) (nr := 0) (np := 5) (as := [x_r 62, iv_c 2147483648]) (rest := []) (lo1 := [x_r 62, iv_c 2147483648]) (by decide +kernel) (by decide) (by decide +kernel) (x_rb_of (by decide +kernel)) rfl rfl (x_wr (by decide) (x_wi (by decide) x_wn)) x_wn (by decide) rfl (c48_62_c0 hJ  ) (fun v1 h4 l2 q3 => ?_)
  obtain ⟨j5, f6, b7⟩ := q3
  have f8 := Fr.trans hF f6 (by decide)
  refine x_ifz (k := 1) (tg := 10) (np := 8) (by decide +kernel) (by decide) l2 (fun q9 => ?_) (fun q10 => ?_)
  · have q9 : v1 ≠ 2147483648 := q9
    refine x_const (np := 11) (x := 9223372039002259456) (a := 2147483648) (by decide +kernel) (by decide) (by decide) ?_
    refine x_istore (np := 12) (x := 2) (lo' := [x_r 62, iv_c 2147483648, iv_c 2147483648]) (by decide +kernel) (by decide) (Nat.le_of_ble_eq_true rfl) rfl ?_
    have p1760 : ∀ (n : Nat) (v1755 : Nat) (h1757 : xh), 4294967296 - v1755 < n → (2147483648 ≤ v1755 ∧ v1755 ≤ 2147484048) → J h1757 → Fr 161 h4 h1757 → X sc 47 (d + 27) (xI fun r h' => J h' ∧ Fr 161 h h' ∧ (2147483648 ≤ r ∧ r ≤ 2147483649)) 0 0 12 [x_r 62, iv_c 2147483648, iv_c v1755] [] h1757 := by
      intro n
      induction n with
      | zero => intro v1755 h1757 q1761; exact absurd q1761 (Nat.not_lt_zero _)
      | succ n i1762 =>
        intro v1755 h1757 q1761 b1756 j1759 f1758
        have f1763 := Fr.trans f8 f1758 (by decide)
        refine x_iload (np := 13) (x := 2) (by decide +kernel) rfl (by omega) ?_
        refine x_const (np := 16) (x := 9223373756989178256) (a := 2147484048) (by decide +kernel) (by decide) (by decide) ?_
        refine x_icmp (k := 3) (tg := 60) (np := 19) (by decide +kernel) (by decide) (by omega) (by decide) (fun q1764 => ?_) (fun q1765 => ?_)
        · have q1764 : 2147484048 ≤ v1755 := q1764
          refine x_const (np := 61) (x := 9223372043297226753) (a := 2147483649) (by decide +kernel) (by decide) (by decide) ?_
          refine x_retI (np := 62) (x := 0) (by decide +kernel) (by decide) (Or.inr ⟨by decide +kernel, by omega, by omega⟩) ⟨_, rfl, (by decide), ?_⟩
          exact ⟨j1759, f1763, (by omega)⟩
        have q1765 : ¬ (2147484048 ≤ v1755) := q1765
        refine x_aload (np := 20) (x := 0) (by decide +kernel) rfl (x_nc_le (by decide)) ?_
        have q1766 : h1757 62 0 = 1 := by have z := jB (e := 0) 0 j1759 rg_62_0_0_1 (by decide) (by decide); omega
        refine x_getR (np := 23) (x := 192) (f := 0) (q := 1) (by decide +kernel) (by decide) (by decide +kernel) q1766 ?_
        refine x_ldcB (i := 31) (idx := 69) (tx := "and") (by rw [tb_y47]; exact List.mem_of_getElem? (i := 33) rfl) (by decide) (by rw [tb_b47]; decide +kernel) ?_
        refine x_nI (t := 6) (mj := 78) (n := 2) (rc := 8) (ml := 2) (nr := 0) (np := 28) (as := [x_r 1, x_b (31 + 1)]) (rest := []) (lo1 := [x_r 1, x_b (31 + 1)]) (by decide +kernel) (by decide) (by decide +kernel) (x_rb_of (by decide +kernel)) rfl rfl (x_wr (by decide) (x_wB (by decide) x_wn)) x_wn (by decide) rfl ?_
        refine x_aload (np := 1) (x := 0) (by decide +kernel) rfl (x_nc_le (by decide)) ?_
        refine x_aloadB (i := 31) (k4 := 1) rfl (by decide) (by rw [tb_b78]; decide +kernel) ?_
        refine x_cP (t := 6) (mj := 77) (n := 2) (rc := 8) (ml := 4) (nr := 0) (np := 5) (as := [x_r 1, x_b (31 + 1)]) (rest := []) (lo1 := [x_r 1, x_b (31 + 1), 147573952589676412928, 147573952589676412928]) (by decide +kernel) (by decide) (by decide +kernel) (x_rb_of (by decide +kernel)) rfl rfl (x_wr (by decide) (x_wB (by decide) x_wn)) x_wn (by decide) rfl (c77_1_S0 j1759  (by decide)) (fun v1767 l1768 q1769 => ?_)
        obtain ⟨b1771, c1770⟩ := q1769
        have b1772 := jB (e := 2) 0 j1759 rg_1_2_0_1 (by omega) (by omega)
        refine x_ifz (k := 1) (tg := 10) (np := 8) (by decide +kernel) (by decide) l1768 (fun q1773 => ?_) (fun q1774 => ?_)
        · have q1773 : v1767 ≠ 2147483648 := q1773
          have b1775 := c1770 (by omega)
          refine x_aload (np := 11) (x := 0) (by decide +kernel) rfl (x_nc_le (by decide)) ?_
          refine x_aload (np := 12) (x := 0) (by decide +kernel) rfl (x_nc_le (by decide)) ?_
          refine x_getC (np := 15) (x := 450) (f := 2) (q := (h1757 1 2)) (by decide +kernel) (by decide) (by decide +kernel) rfl (fun l1776 => ?_)
          refine x_aloadB (i := 31) (k4 := 1) rfl (by decide) (by rw [tb_b78]; decide +kernel) ?_
          have b1777 := (iv_tl_lt 31 (by decide)).1
          have b1778 := iv_tl_ge 31 (by decide)
          refine x_len (by decide +kernel) (by rw [tb_y78]; exact sl_Tl) (by decide) (by rw [tb_b78]; decide +kernel) (Nat.le_trans (x_wi l1776 (x_wr (by decide) x_wn)) (by decide)) ?_
          refine x_iadd (np := 20) (x := 0) (v := ((h1757 1 2) + (iv_tl 31))) (by decide +kernel) l1776 (by omega) (by omega) (by omega) ?_
          refine x_cV (t := 6) (mj := 80) (n := 2) (rc := 8) (ml := 2) (nr := 0) (np := 23) (as := [x_r 1, iv_c ((h1757 1 2) + (iv_tl 31))]) (rest := []) (lo1 := [x_r 1, iv_c ((h1757 1 2) + (iv_tl 31))]) (by decide +kernel) (by decide) (by decide +kernel) (x_rb_of (by decide +kernel)) rfl rfl (x_wr (by decide) (x_wi (by omega) x_wn)) x_wn (by decide) rfl (c80_1n j1759  (by omega)) (fun h1782 q1781 => ?_)
          obtain ⟨j1783, f1784⟩ := q1781
          have f1787 := Fr.trans f1763 f1784 (by decide)
          have f1788 := Fr.trans f1758 f1784 (by decide)
          refine x_const (np := 24) (x := 9223372043297226753) (a := 2147483649) (by decide +kernel) (by decide) (by decide) ?_
          refine x_retI (np := 25) (x := 0) (by decide +kernel) (by decide) (Or.inr ⟨by decide +kernel, by omega, by omega⟩) ⟨_, rfl, (by decide), ?_⟩
          refine x_ifz (k := 0) (tg := 60) (np := 31) (by decide +kernel) (by decide) (by decide) (fun q1789 => ?_) (fun q1790 => ?_)
          · have q1789 : 2147483649 = 2147483648 := q1789
            exfalso; omega
          have q1790 : ¬ (2147483649 = 2147483648) := q1790
          refine x_aload (np := 32) (x := 0) (by decide +kernel) rfl (x_nc_le (by decide)) ?_
          refine x_iload (np := 33) (x := 1) (by decide +kernel) rfl (by decide) ?_
          refine x_cI (t := 6) (mj := 48) (n := 2) (rc := 4) (ml := 2) (nr := 0) (np := 36) (as := [x_r 62, iv_c 2147483648]) (rest := []) (lo1 := [x_r 62, iv_c 2147483648]) (by decide +kernel) (by decide) (by decide +kernel) (x_rb_of (by decide +kernel)) rfl rfl (x_wr (by decide) (x_wi (by decide) x_wn)) x_wn (by decide) rfl (c48_62_c0 j1783  ) (fun v1791 h1794 l1792 q1793 => ?_)
          obtain ⟨j1795, f1796, b1797⟩ := q1793
          have f1798 := Fr.trans f1787 f1796 (by decide)
          have f1799 := Fr.trans f1788 f1796 (by decide)
          refine x_ifz (k := 0) (tg := 52) (np := 39) (by decide +kernel) (by decide) l1792 (fun q1800 => ?_) (fun q1801 => ?_)
          · have q1800 : v1791 = 2147483648 := q1800
            refine x_const (np := 53) (x := 9223372039002259456) (a := 2147483648) (by decide +kernel) (by decide) (by decide) ?_
            refine x_retI (np := 54) (x := 0) (by decide +kernel) (by decide) (Or.inr ⟨by decide +kernel, by omega, by omega⟩) ⟨_, rfl, (by decide), ?_⟩
            exact ⟨j1795, f1798, (by omega)⟩
          have q1801 : ¬ (v1791 = 2147483648) := q1801
          refine x_aload (np := 40) (x := 0) (by decide +kernel) rfl (x_nc_le (by decide)) ?_
          have q1802 : h1794 62 1 = h1782 62 1 := f1796 62 1 (by decide +kernel)
          have q1803 : h1782 62 1 = h1757 62 1 := f1784 62 1 (by decide +kernel)
          have q1804 : h1757 62 1 = h4 62 1 := f1758 62 1 (by decide +kernel)
          have q1805 : h4 62 1 = h 62 1 := f6 62 1 (by decide +kernel)
          obtain ⟨r1806, q1807, t1808⟩ : ∃ z, (h 62 1) = z + 11 ∧ tw z := by
            rcases hJ.2.2.2.2.2.2.2 with z | z
            · exact ⟨17, by rw [z], Or.inl rfl⟩
            · exact ⟨31, by rw [z], Or.inr rfl⟩
          refine x_getR (np := 43) (x := 193) (f := 1) (q := (r1806 + 11)) (by decide +kernel) (by decide) (by decide +kernel) ((((q1802.trans q1803).trans q1804).trans q1805).trans q1807) ?_
          refine x_const (np := 46) (x := 9223380646116722644) (a := 2147485652) (by decide +kernel) (by decide) (by decide) ?_
          refine x_nI (t := 6) (mj := 36) (n := 2) (rc := 3) (ml := 2) (nr := 0) (np := 49) (as := [x_r (r1806 + 11), iv_c 2147485652]) (rest := []) (lo1 := [x_r (r1806 + 11), iv_c 2147485652]) (by decide +kernel) (by decide) (by decide +kernel) (x_rb_of (tr_11_3 t1808)) rfl rfl (x_wr (tn_11 t1808) (x_wi (by decide) x_wn)) x_wn (by decide) rfl ?_
          refine x_aload (np := 1) (x := 0) (by decide +kernel) rfl (x_nc_le (tn_11 t1808)) ?_
          have b1809 := jB (e := 2) 0 j1795 (rg_T11_2_0_1 t1808) (by omega) (by omega)
          refine x_getC (np := 4) (x := 130) (f := 2) (q := (h1794 (r1806 + 11) 2)) (by decide +kernel) (by decide) (tg_11_130_2_0 t1808) rfl (fun l1810 => ?_)
          refine x_const (np := 7) (x := 9223373756989178256) (a := 2147484048) (by decide +kernel) (by decide) (by decide) ?_
          refine x_icmp (k := 2) (tg := 12) (np := 10) (by decide +kernel) (by decide) l1810 (by decide) (fun q1811 => ?_) (fun q1812 => ?_)
          · have q1811 : (h1794 (r1806 + 11) 2) < 2147484048 := q1811
            refine x_aload (np := 13) (x := 0) (by decide +kernel) rfl (x_nc_le (tn_11 t1808)) ?_
            have q1813 : h1794 (r1806 + 11) 0 = (r1806 + 12) := tf_11_0 j1795 t1808
            refine x_getR (np := 16) (x := 128) (f := 0) (q := (r1806 + 12)) (by decide +kernel) (by decide) (tg_11_128_0_1 t1808) q1813 ?_
            refine x_aload (np := 17) (x := 0) (by decide +kernel) rfl (x_nc_le (tn_11 t1808)) ?_
            refine x_getC (np := 20) (x := 130) (f := 2) (q := (h1794 (r1806 + 11) 2)) (by decide +kernel) (by decide) (tg_11_130_2_0 t1808) rfl (fun l1814 => ?_)
            refine x_iload (np := 21) (x := 1) (by decide +kernel) rfl (by decide) ?_
            obtain ⟨u1815, q1816⟩ : ∃ z, (h1794 (r1806 + 11) 2) = 2147483648 + z := ⟨(h1794 (r1806 + 11) 2) - 2147483648, by omega⟩
            refine x_ast (np := 22) (x := 0) (kd := 1) (n := 400) (i := u1815) (by decide +kernel) (Or.inl rfl) (ta_12_400 t1808) (by omega) (by omega) (by decide) (by decide) (fun z => absurd z (by decide)) ?_
            have j1818 := jU (e := u1815) (v := 2147485652) u1815 j1795 (rg_T12_0_1_400 t1808) (by omega) (by omega) (by omega)
            have f1820 := jF (e := u1815) (v := 2147485652) u1815 f1798 (rg_T12_0_1_400 t1808) (by omega) (by omega) (by decide)
            have f1821 := jF (e := u1815) (v := 2147485652) u1815 f1799 (rg_T12_0_1_400 t1808) (by omega) (by omega) (by decide)
            generalize e1819 : x_up h1794 (r1806 + 12) u1815 2147485652 = h1817 at j1818 f1820 f1821 ⊢
            refine x_aload (np := 23) (x := 0) (by decide +kernel) rfl (x_nc_le (tn_11 t1808)) ?_
            refine x_dup (np := 24) (x := 0) (by decide +kernel) (by have z := x_nc_le (k := (r1806 + 11)) (tn_11 t1808); unfold x_r; omega) ?_
            have q1822 : h1817 (r1806 + 11) 2 = h1794 (r1806 + 11) 2 := by rw [← e1819]; exact x_up_k tof_11_12
            refine x_getC (np := 27) (x := 130) (f := 2) (q := (h1794 (r1806 + 11) 2)) (by decide +kernel) (by decide) (tg_11_130_2_0 t1808) q1822 (fun l1823 => ?_)
            refine x_const (np := 28) (x := 9223372043297226753) (a := 2147483649) (by decide +kernel) (by decide) (by decide) ?_
            refine x_iadd (np := 29) (x := 0) (v := (1 + (h1794 (r1806 + 11) 2))) (by decide +kernel) l1810 (by decide) (by omega) (by omega) ?_
            refine x_putI (np := 32) (x := 130) (f := 2) (by decide +kernel) (tg_11_130_2_0 t1808) (by omega) (Or.inl (by decide)) ?_
            have j1825 := jU (e := 2) (v := (1 + (h1794 (r1806 + 11) 2))) 0 j1818 (rg_T11_2_0_1 t1808) (by omega) (by omega) (by omega)
            have f1827 := jF (e := 2) (v := (1 + (h1794 (r1806 + 11) 2))) 0 f1820 (rg_T11_2_0_1 t1808) (by omega) (by omega) (by decide)
            have f1828 := jF (e := 2) (v := (1 + (h1794 (r1806 + 11) 2))) 0 f1821 (rg_T11_2_0_1 t1808) (by omega) (by omega) (by decide)
            generalize e1826 : x_up h1817 (r1806 + 11) 2 (1 + (h1794 (r1806 + 11) 2)) = h1824 at j1825 f1827 f1828 ⊢
            refine x_const (np := 33) (x := 9223372043297226753) (a := 2147483649) (by decide +kernel) (by decide) (by decide) ?_
            refine x_retI (np := 34) (x := 0) (by decide +kernel) (by decide) (Or.inr ⟨by decide +kernel, by omega, by omega⟩) ⟨_, rfl, (by decide), ?_⟩
            refine x_ifz (k := 1) (tg := 54) (np := 52) (by decide +kernel) (by decide) (by decide) (fun q1829 => ?_) (fun q1830 => ?_)
            · have q1829 : 2147483649 ≠ 2147483648 := q1829
              refine x_iinc (np := 57) (i := 2) (j := 2147483649) (v := (1 + v1755)) (lo' := [x_r 62, iv_c 2147483648, iv_c (1 + v1755)]) (by decide +kernel) (by decide) (by decide) rfl (by omega) (by omega) (by omega) rfl ?_
              refine x_goto (np := 60) (x := 12) (by decide +kernel) ?_
              exact i1762 (1 + v1755) h1824 (by omega) (by omega) j1825 f1828
            have q1830 : ¬ (2147483649 ≠ 2147483648) := q1830
            exfalso; omega
          have q1812 : ¬ ((h1794 (r1806 + 11) 2) < 2147484048) := q1812
          refine x_const (np := 11) (x := 9223372039002259456) (a := 2147483648) (by decide +kernel) (by decide) (by decide) ?_
          refine x_retI (np := 12) (x := 0) (by decide +kernel) (by decide) (Or.inr ⟨by decide +kernel, by omega, by omega⟩) ⟨_, rfl, (by decide), ?_⟩
          refine x_ifz (k := 1) (tg := 54) (np := 52) (by decide +kernel) (by decide) (by decide) (fun q1831 => ?_) (fun q1832 => ?_)
          · have q1831 : 2147483648 ≠ 2147483648 := q1831
            exfalso; omega
          have q1832 : ¬ (2147483648 ≠ 2147483648) := q1832
          refine x_const (np := 53) (x := 9223372039002259456) (a := 2147483648) (by decide +kernel) (by decide) (by decide) ?_
          refine x_retI (np := 54) (x := 0) (by decide +kernel) (by decide) (Or.inr ⟨by decide +kernel, by omega, by omega⟩) ⟨_, rfl, (by decide), ?_⟩
          exact ⟨j1795, f1798, (by omega)⟩
        have q1774 : ¬ (v1767 ≠ 2147483648) := q1774
        refine x_const (np := 9) (x := 9223372039002259456) (a := 2147483648) (by decide +kernel) (by decide) (by decide) ?_
        refine x_retI (np := 10) (x := 0) (by decide +kernel) (by decide) (Or.inr ⟨by decide +kernel, by omega, by omega⟩) ⟨_, rfl, (by decide), ?_⟩
        refine x_ifz (k := 0) (tg := 60) (np := 31) (by decide +kernel) (by decide) (by decide) (fun q1833 => ?_) (fun q1834 => ?_)
        · have q1833 : 2147483648 = 2147483648 := q1833
          refine x_const (np := 61) (x := 9223372043297226753) (a := 2147483649) (by decide +kernel) (by decide) (by decide) ?_
          refine x_retI (np := 62) (x := 0) (by decide +kernel) (by decide) (Or.inr ⟨by decide +kernel, by omega, by omega⟩) ⟨_, rfl, (by decide), ?_⟩
          exact ⟨j1759, f1763, (by omega)⟩
        have q1834 : ¬ (2147483648 = 2147483648) := q1834
        exfalso; omega
    exact p1760 _ 2147483648 h4 (Nat.lt_succ_self _) (by omega) j5 (Fr.refl _ _)
  have q10 : ¬ (v1 ≠ 2147483648) := q10
  refine x_const (np := 9) (x := 9223372039002259456) (a := 2147483648) (by decide +kernel) (by decide) (by decide) ?_
  refine x_retI (np := 10) (x := 0) (by decide +kernel) (by decide) (Or.inr ⟨by decide +kernel, by omega, by omega⟩) ⟨_, rfl, (by decide), ?_⟩
  exact ⟨j5, f8, (by omega)⟩
set_option maxHeartbeats 0 in
/-- LentNames$CustomReader.readCondition(I)Z -/
theorem c46_62_c0 {sc : Nat × Nat} {d  : Nat} {h : xh} (hJ : J h) : X sc 46 (d + 28) (xI fun r h' => J h' ∧ Fr 161 h h' ∧ (2147483648 ≤ r ∧ r ≤ 2147483649)) 0 0 0 [x_r 62, iv_c 2147483648, 147573952589676412928] [] h := by
  have hF := Fr.refl 161 h
  refine x_aload (np := 1) (x := 0) (by decide +kernel) rfl (x_nc_le (by decide)) ?_
  refine x_iload (np := 2) (x := 1) (by decide +kernel) rfl (by decide) ?_
  refine x_cI (t := 6) (mj := 47) (n := 2) (rc := 4) (ml := 3) (nr := 0) (np := 5) (as := [x_r 62, iv_c 2147483648]) (rest := []) (lo1 := [x_r 62, iv_c 2147483648, 147573952589676412928]) (by decide +kernel) (by decide) (by decide +kernel) (x_rb_of (by decide +kernel)) rfl rfl (x_wr (by decide) (x_wi (by decide) x_wn)) x_wn (by decide) rfl (c47_62_c0 hJ  ) (fun v1 h4 l2 q3 => ?_)
  obtain ⟨j5, f6, b7⟩ := q3
  have f8 := Fr.trans hF f6 (by decide)
  refine x_ifz (k := 1) (tg := 10) (np := 8) (by decide +kernel) (by decide) l2 (fun q9 => ?_) (fun q10 => ?_)
  · have q9 : v1 ≠ 2147483648 := q9
    refine x_const (np := 11) (x := 9223372039002259456) (a := 2147483648) (by decide +kernel) (by decide) (by decide) ?_
    refine x_istore (np := 12) (x := 2) (lo' := [x_r 62, iv_c 2147483648, iv_c 2147483648]) (by decide +kernel) (by decide) (Nat.le_of_ble_eq_true rfl) rfl ?_
    have p1760 : ∀ (n : Nat) (v1755 : Nat) (h1757 : xh), 4294967296 - v1755 < n → (2147483648 ≤ v1755 ∧ v1755 ≤ 2147484048) → J h1757 → Fr 161 h4 h1757 → X sc 46 (d + 28) (xI fun r h' => J h' ∧ Fr 161 h h' ∧ (2147483648 ≤ r ∧ r ≤ 2147483649)) 0 0 12 [x_r 62, iv_c 2147483648, iv_c v1755] [] h1757 := by
      intro n
      induction n with
      | zero => intro v1755 h1757 q1761; exact absurd q1761 (Nat.not_lt_zero _)
      | succ n i1762 =>
        intro v1755 h1757 q1761 b1756 j1759 f1758
        have f1763 := Fr.trans f8 f1758 (by decide)
        refine x_iload (np := 13) (x := 2) (by decide +kernel) rfl (by omega) ?_
        refine x_const (np := 16) (x := 9223373756989178256) (a := 2147484048) (by decide +kernel) (by decide) (by decide) ?_
        refine x_icmp (k := 3) (tg := 60) (np := 19) (by decide +kernel) (by decide) (by omega) (by decide) (fun q1764 => ?_) (fun q1765 => ?_)
        · have q1764 : 2147484048 ≤ v1755 := q1764
          refine x_const (np := 61) (x := 9223372043297226753) (a := 2147483649) (by decide +kernel) (by decide) (by decide) ?_
          refine x_retI (np := 62) (x := 0) (by decide +kernel) (by decide) (Or.inr ⟨by decide +kernel, by omega, by omega⟩) ⟨_, rfl, (by decide), ?_⟩
          exact ⟨j1759, f1763, (by omega)⟩
        have q1765 : ¬ (2147484048 ≤ v1755) := q1765
        refine x_aload (np := 20) (x := 0) (by decide +kernel) rfl (x_nc_le (by decide)) ?_
        have q1766 : h1757 62 0 = 1 := by have z := jB (e := 0) 0 j1759 rg_62_0_0_1 (by decide) (by decide); omega
        refine x_getR (np := 23) (x := 192) (f := 0) (q := 1) (by decide +kernel) (by decide) (by decide +kernel) q1766 ?_
        refine x_ldcB (i := 15) (idx := 64) (tx := "or") (by rw [tb_y46]; exact List.mem_of_getElem? (i := 34) rfl) (by decide) (by rw [tb_b46]; decide +kernel) ?_
        refine x_nI (t := 6) (mj := 78) (n := 2) (rc := 8) (ml := 2) (nr := 0) (np := 28) (as := [x_r 1, x_b (15 + 1)]) (rest := []) (lo1 := [x_r 1, x_b (15 + 1)]) (by decide +kernel) (by decide) (by decide +kernel) (x_rb_of (by decide +kernel)) rfl rfl (x_wr (by decide) (x_wB (by decide) x_wn)) x_wn (by decide) rfl ?_
        refine x_aload (np := 1) (x := 0) (by decide +kernel) rfl (x_nc_le (by decide)) ?_
        refine x_aloadB (i := 15) (k4 := 1) rfl (by decide) (by rw [tb_b78]; decide +kernel) ?_
        refine x_cP (t := 6) (mj := 77) (n := 2) (rc := 8) (ml := 4) (nr := 0) (np := 5) (as := [x_r 1, x_b (15 + 1)]) (rest := []) (lo1 := [x_r 1, x_b (15 + 1), 147573952589676412928, 147573952589676412928]) (by decide +kernel) (by decide) (by decide +kernel) (x_rb_of (by decide +kernel)) rfl rfl (x_wr (by decide) (x_wB (by decide) x_wn)) x_wn (by decide) rfl (c77_1_S0 j1759  (by decide)) (fun v1767 l1768 q1769 => ?_)
        obtain ⟨b1771, c1770⟩ := q1769
        have b1772 := jB (e := 2) 0 j1759 rg_1_2_0_1 (by omega) (by omega)
        refine x_ifz (k := 1) (tg := 10) (np := 8) (by decide +kernel) (by decide) l1768 (fun q1773 => ?_) (fun q1774 => ?_)
        · have q1773 : v1767 ≠ 2147483648 := q1773
          have b1775 := c1770 (by omega)
          refine x_aload (np := 11) (x := 0) (by decide +kernel) rfl (x_nc_le (by decide)) ?_
          refine x_aload (np := 12) (x := 0) (by decide +kernel) rfl (x_nc_le (by decide)) ?_
          refine x_getC (np := 15) (x := 450) (f := 2) (q := (h1757 1 2)) (by decide +kernel) (by decide) (by decide +kernel) rfl (fun l1776 => ?_)
          refine x_aloadB (i := 15) (k4 := 1) rfl (by decide) (by rw [tb_b78]; decide +kernel) ?_
          have b1777 := (iv_tl_lt 15 (by decide)).1
          have b1778 := iv_tl_ge 15 (by decide)
          refine x_len (by decide +kernel) (by rw [tb_y78]; exact sl_Tl) (by decide) (by rw [tb_b78]; decide +kernel) (Nat.le_trans (x_wi l1776 (x_wr (by decide) x_wn)) (by decide)) ?_
          refine x_iadd (np := 20) (x := 0) (v := ((h1757 1 2) + (iv_tl 15))) (by decide +kernel) l1776 (by omega) (by omega) (by omega) ?_
          refine x_cV (t := 6) (mj := 80) (n := 2) (rc := 8) (ml := 2) (nr := 0) (np := 23) (as := [x_r 1, iv_c ((h1757 1 2) + (iv_tl 15))]) (rest := []) (lo1 := [x_r 1, iv_c ((h1757 1 2) + (iv_tl 15))]) (by decide +kernel) (by decide) (by decide +kernel) (x_rb_of (by decide +kernel)) rfl rfl (x_wr (by decide) (x_wi (by omega) x_wn)) x_wn (by decide) rfl (c80_1n j1759  (by omega)) (fun h1782 q1781 => ?_)
          obtain ⟨j1783, f1784⟩ := q1781
          have f1787 := Fr.trans f1763 f1784 (by decide)
          have f1788 := Fr.trans f1758 f1784 (by decide)
          refine x_const (np := 24) (x := 9223372043297226753) (a := 2147483649) (by decide +kernel) (by decide) (by decide) ?_
          refine x_retI (np := 25) (x := 0) (by decide +kernel) (by decide) (Or.inr ⟨by decide +kernel, by omega, by omega⟩) ⟨_, rfl, (by decide), ?_⟩
          refine x_ifz (k := 0) (tg := 60) (np := 31) (by decide +kernel) (by decide) (by decide) (fun q1789 => ?_) (fun q1790 => ?_)
          · have q1789 : 2147483649 = 2147483648 := q1789
            exfalso; omega
          have q1790 : ¬ (2147483649 = 2147483648) := q1790
          refine x_aload (np := 32) (x := 0) (by decide +kernel) rfl (x_nc_le (by decide)) ?_
          refine x_iload (np := 33) (x := 1) (by decide +kernel) rfl (by decide) ?_
          refine x_cI (t := 6) (mj := 47) (n := 2) (rc := 4) (ml := 3) (nr := 0) (np := 36) (as := [x_r 62, iv_c 2147483648]) (rest := []) (lo1 := [x_r 62, iv_c 2147483648, 147573952589676412928]) (by decide +kernel) (by decide) (by decide +kernel) (x_rb_of (by decide +kernel)) rfl rfl (x_wr (by decide) (x_wi (by decide) x_wn)) x_wn (by decide) rfl (c47_62_c0 j1783  ) (fun v1791 h1794 l1792 q1793 => ?_)
          obtain ⟨j1795, f1796, b1797⟩ := q1793
          have f1798 := Fr.trans f1787 f1796 (by decide)
          have f1799 := Fr.trans f1788 f1796 (by decide)
          refine x_ifz (k := 0) (tg := 52) (np := 39) (by decide +kernel) (by decide) l1792 (fun q1800 => ?_) (fun q1801 => ?_)
          · have q1800 : v1791 = 2147483648 := q1800
            refine x_const (np := 53) (x := 9223372039002259456) (a := 2147483648) (by decide +kernel) (by decide) (by decide) ?_
            refine x_retI (np := 54) (x := 0) (by decide +kernel) (by decide) (Or.inr ⟨by decide +kernel, by omega, by omega⟩) ⟨_, rfl, (by decide), ?_⟩
            exact ⟨j1795, f1798, (by omega)⟩
          have q1801 : ¬ (v1791 = 2147483648) := q1801
          refine x_aload (np := 40) (x := 0) (by decide +kernel) rfl (x_nc_le (by decide)) ?_
          have q1802 : h1794 62 1 = h1782 62 1 := f1796 62 1 (by decide +kernel)
          have q1803 : h1782 62 1 = h1757 62 1 := f1784 62 1 (by decide +kernel)
          have q1804 : h1757 62 1 = h4 62 1 := f1758 62 1 (by decide +kernel)
          have q1805 : h4 62 1 = h 62 1 := f6 62 1 (by decide +kernel)
          obtain ⟨r1806, q1807, t1808⟩ : ∃ z, (h 62 1) = z + 11 ∧ tw z := by
            rcases hJ.2.2.2.2.2.2.2 with z | z
            · exact ⟨17, by rw [z], Or.inl rfl⟩
            · exact ⟨31, by rw [z], Or.inr rfl⟩
          refine x_getR (np := 43) (x := 193) (f := 1) (q := (r1806 + 11)) (by decide +kernel) (by decide) (by decide +kernel) ((((q1802.trans q1803).trans q1804).trans q1805).trans q1807) ?_
          refine x_const (np := 46) (x := 9223380650411689941) (a := 2147485653) (by decide +kernel) (by decide) (by decide) ?_
          refine x_nI (t := 6) (mj := 36) (n := 2) (rc := 3) (ml := 2) (nr := 0) (np := 49) (as := [x_r (r1806 + 11), iv_c 2147485653]) (rest := []) (lo1 := [x_r (r1806 + 11), iv_c 2147485653]) (by decide +kernel) (by decide) (by decide +kernel) (x_rb_of (tr_11_3 t1808)) rfl rfl (x_wr (tn_11 t1808) (x_wi (by decide) x_wn)) x_wn (by decide) rfl ?_
          refine x_aload (np := 1) (x := 0) (by decide +kernel) rfl (x_nc_le (tn_11 t1808)) ?_
          have b1809 := jB (e := 2) 0 j1795 (rg_T11_2_0_1 t1808) (by omega) (by omega)
          refine x_getC (np := 4) (x := 130) (f := 2) (q := (h1794 (r1806 + 11) 2)) (by decide +kernel) (by decide) (tg_11_130_2_0 t1808) rfl (fun l1810 => ?_)
          refine x_const (np := 7) (x := 9223373756989178256) (a := 2147484048) (by decide +kernel) (by decide) (by decide) ?_
          refine x_icmp (k := 2) (tg := 12) (np := 10) (by decide +kernel) (by decide) l1810 (by decide) (fun q1811 => ?_) (fun q1812 => ?_)
          · have q1811 : (h1794 (r1806 + 11) 2) < 2147484048 := q1811
            refine x_aload (np := 13) (x := 0) (by decide +kernel) rfl (x_nc_le (tn_11 t1808)) ?_
            have q1813 : h1794 (r1806 + 11) 0 = (r1806 + 12) := tf_11_0 j1795 t1808
            refine x_getR (np := 16) (x := 128) (f := 0) (q := (r1806 + 12)) (by decide +kernel) (by decide) (tg_11_128_0_1 t1808) q1813 ?_
            refine x_aload (np := 17) (x := 0) (by decide +kernel) rfl (x_nc_le (tn_11 t1808)) ?_
            refine x_getC (np := 20) (x := 130) (f := 2) (q := (h1794 (r1806 + 11) 2)) (by decide +kernel) (by decide) (tg_11_130_2_0 t1808) rfl (fun l1814 => ?_)
            refine x_iload (np := 21) (x := 1) (by decide +kernel) rfl (by decide) ?_
            obtain ⟨u1815, q1816⟩ : ∃ z, (h1794 (r1806 + 11) 2) = 2147483648 + z := ⟨(h1794 (r1806 + 11) 2) - 2147483648, by omega⟩
            refine x_ast (np := 22) (x := 0) (kd := 1) (n := 400) (i := u1815) (by decide +kernel) (Or.inl rfl) (ta_12_400 t1808) (by omega) (by omega) (by decide) (by decide) (fun z => absurd z (by decide)) ?_
            have j1818 := jU (e := u1815) (v := 2147485653) u1815 j1795 (rg_T12_0_1_400 t1808) (by omega) (by omega) (by omega)
            have f1820 := jF (e := u1815) (v := 2147485653) u1815 f1798 (rg_T12_0_1_400 t1808) (by omega) (by omega) (by decide)
            have f1821 := jF (e := u1815) (v := 2147485653) u1815 f1799 (rg_T12_0_1_400 t1808) (by omega) (by omega) (by decide)
            generalize e1819 : x_up h1794 (r1806 + 12) u1815 2147485653 = h1817 at j1818 f1820 f1821 ⊢
            refine x_aload (np := 23) (x := 0) (by decide +kernel) rfl (x_nc_le (tn_11 t1808)) ?_
            refine x_dup (np := 24) (x := 0) (by decide +kernel) (by have z := x_nc_le (k := (r1806 + 11)) (tn_11 t1808); unfold x_r; omega) ?_
            have q1822 : h1817 (r1806 + 11) 2 = h1794 (r1806 + 11) 2 := by rw [← e1819]; exact x_up_k tof_11_12
            refine x_getC (np := 27) (x := 130) (f := 2) (q := (h1794 (r1806 + 11) 2)) (by decide +kernel) (by decide) (tg_11_130_2_0 t1808) q1822 (fun l1823 => ?_)
            refine x_const (np := 28) (x := 9223372043297226753) (a := 2147483649) (by decide +kernel) (by decide) (by decide) ?_
            refine x_iadd (np := 29) (x := 0) (v := (1 + (h1794 (r1806 + 11) 2))) (by decide +kernel) l1810 (by decide) (by omega) (by omega) ?_
            refine x_putI (np := 32) (x := 130) (f := 2) (by decide +kernel) (tg_11_130_2_0 t1808) (by omega) (Or.inl (by decide)) ?_
            have j1825 := jU (e := 2) (v := (1 + (h1794 (r1806 + 11) 2))) 0 j1818 (rg_T11_2_0_1 t1808) (by omega) (by omega) (by omega)
            have f1827 := jF (e := 2) (v := (1 + (h1794 (r1806 + 11) 2))) 0 f1820 (rg_T11_2_0_1 t1808) (by omega) (by omega) (by decide)
            have f1828 := jF (e := 2) (v := (1 + (h1794 (r1806 + 11) 2))) 0 f1821 (rg_T11_2_0_1 t1808) (by omega) (by omega) (by decide)
            generalize e1826 : x_up h1817 (r1806 + 11) 2 (1 + (h1794 (r1806 + 11) 2)) = h1824 at j1825 f1827 f1828 ⊢
            refine x_const (np := 33) (x := 9223372043297226753) (a := 2147483649) (by decide +kernel) (by decide) (by decide) ?_
            refine x_retI (np := 34) (x := 0) (by decide +kernel) (by decide) (Or.inr ⟨by decide +kernel, by omega, by omega⟩) ⟨_, rfl, (by decide), ?_⟩
            refine x_ifz (k := 1) (tg := 54) (np := 52) (by decide +kernel) (by decide) (by decide) (fun q1829 => ?_) (fun q1830 => ?_)
            · have q1829 : 2147483649 ≠ 2147483648 := q1829
              refine x_iinc (np := 57) (i := 2) (j := 2147483649) (v := (1 + v1755)) (lo' := [x_r 62, iv_c 2147483648, iv_c (1 + v1755)]) (by decide +kernel) (by decide) (by decide) rfl (by omega) (by omega) (by omega) rfl ?_
              refine x_goto (np := 60) (x := 12) (by decide +kernel) ?_
              exact i1762 (1 + v1755) h1824 (by omega) (by omega) j1825 f1828
            have q1830 : ¬ (2147483649 ≠ 2147483648) := q1830
            exfalso; omega
          have q1812 : ¬ ((h1794 (r1806 + 11) 2) < 2147484048) := q1812
          refine x_const (np := 11) (x := 9223372039002259456) (a := 2147483648) (by decide +kernel) (by decide) (by decide) ?_
          refine x_retI (np := 12) (x := 0) (by decide +kernel) (by decide) (Or.inr ⟨by decide +kernel, by omega, by omega⟩) ⟨_, rfl, (by decide), ?_⟩
          refine x_ifz (k := 1) (tg := 54) (np := 52) (by decide +kernel) (by decide) (by decide) (fun q1831 => ?_) (fun q1832 => ?_)
          · have q1831 : 2147483648 ≠ 2147483648 := q1831
            exfalso; omega
          have q1832 : ¬ (2147483648 ≠ 2147483648) := q1832
          refine x_const (np := 53) (x := 9223372039002259456) (a := 2147483648) (by decide +kernel) (by decide) (by decide) ?_
          refine x_retI (np := 54) (x := 0) (by decide +kernel) (by decide) (Or.inr ⟨by decide +kernel, by omega, by omega⟩) ⟨_, rfl, (by decide), ?_⟩
          exact ⟨j1795, f1798, (by omega)⟩
        have q1774 : ¬ (v1767 ≠ 2147483648) := q1774
        refine x_const (np := 9) (x := 9223372039002259456) (a := 2147483648) (by decide +kernel) (by decide) (by decide) ?_
        refine x_retI (np := 10) (x := 0) (by decide +kernel) (by decide) (Or.inr ⟨by decide +kernel, by omega, by omega⟩) ⟨_, rfl, (by decide), ?_⟩
        refine x_ifz (k := 0) (tg := 60) (np := 31) (by decide +kernel) (by decide) (by decide) (fun q1833 => ?_) (fun q1834 => ?_)
        · have q1833 : 2147483648 = 2147483648 := q1833
          refine x_const (np := 61) (x := 9223372043297226753) (a := 2147483649) (by decide +kernel) (by decide) (by decide) ?_
          refine x_retI (np := 62) (x := 0) (by decide +kernel) (by decide) (Or.inr ⟨by decide +kernel, by omega, by omega⟩) ⟨_, rfl, (by decide), ?_⟩
          exact ⟨j1759, f1763, (by omega)⟩
        have q1834 : ¬ (2147483648 = 2147483648) := q1834
        exfalso; omega
    exact p1760 _ 2147483648 h4 (Nat.lt_succ_self _) (by omega) j5 (Fr.refl _ _)
  have q10 : ¬ (v1 ≠ 2147483648) := q10
  refine x_const (np := 9) (x := 9223372039002259456) (a := 2147483648) (by decide +kernel) (by decide) (by decide) ?_
  refine x_retI (np := 10) (x := 0) (by decide +kernel) (by decide) (Or.inr ⟨by decide +kernel, by omega, by omega⟩) ⟨_, rfl, (by decide), ?_⟩
  exact ⟨j5, f8, (by omega)⟩
set_option maxHeartbeats 0 in
/-- LentNames$CustomReader.readLine()Z -/
theorem c45_62 {sc : Nat × Nat} {d  : Nat} {h : xh} (hJ : J h) : X sc 45 (d + 29) (xI fun r h' => J h' ∧ Fr 161 h h' ∧ (2147483648 ≤ r ∧ r ≤ 2147483649)) 0 0 0 [x_r 62, 147573952589676412928] [] h := by
  have hF := Fr.refl 161 h
  refine x_const (np := 3) (x := 9223380654706657238) (a := 2147485654) (by decide +kernel) (by decide) (by decide) ?_
  refine x_istore (np := 4) (x := 1) (lo' := [x_r 62, iv_c 2147485654]) (by decide +kernel) (by decide) (Nat.le_of_ble_eq_true rfl) rfl ?_
  refine x_aload (np := 5) (x := 0) (by decide +kernel) rfl (x_nc_le (by decide)) ?_
  have q1 : h 62 0 = 1 := by have z := jB (e := 0) 0 hJ rg_62_0_0_1 (by decide) (by decide); omega
  refine x_getR (np := 8) (x := 192) (f := 0) (q := 1) (by decide +kernel) (by decide) (by decide +kernel) q1 ?_
  refine x_ldcB (i := 21) (idx := 44) (tx := "refuse") (by rw [tb_y45]; exact List.mem_of_getElem? (i := 21) rfl) (by decide) (by rw [tb_b45]; decide +kernel) ?_
  refine x_nI (t := 6) (mj := 78) (n := 2) (rc := 8) (ml := 2) (nr := 0) (np := 13) (as := [x_r 1, x_b (21 + 1)]) (rest := []) (lo1 := [x_r 1, x_b (21 + 1)]) (by decide +kernel) (by decide) (by decide +kernel) (x_rb_of (by decide +kernel)) rfl rfl (x_wr (by decide) (x_wB (by decide) x_wn)) x_wn (by decide) rfl ?_
  refine x_aload (np := 1) (x := 0) (by decide +kernel) rfl (x_nc_le (by decide)) ?_
  refine x_aloadB (i := 21) (k4 := 1) rfl (by decide) (by rw [tb_b78]; decide +kernel) ?_
  refine x_cP (t := 6) (mj := 77) (n := 2) (rc := 8) (ml := 4) (nr := 0) (np := 5) (as := [x_r 1, x_b (21 + 1)]) (rest := []) (lo1 := [x_r 1, x_b (21 + 1), 147573952589676412928, 147573952589676412928]) (by decide +kernel) (by decide) (by decide +kernel) (x_rb_of (by decide +kernel)) rfl rfl (x_wr (by decide) (x_wB (by decide) x_wn)) x_wn (by decide) rfl (c77_1_S0 hJ  (by decide)) (fun v2 l3 q4 => ?_)
  obtain ⟨b6, c5⟩ := q4
  have b7 := jB (e := 2) 0 hJ rg_1_2_0_1 (by omega) (by omega)
  refine x_ifz (k := 1) (tg := 10) (np := 8) (by decide +kernel) (by decide) l3 (fun q8 => ?_) (fun q9 => ?_)
  · have q8 : v2 ≠ 2147483648 := q8
    have b10 := c5 (by omega)
    refine x_aload (np := 11) (x := 0) (by decide +kernel) rfl (x_nc_le (by decide)) ?_
    refine x_aload (np := 12) (x := 0) (by decide +kernel) rfl (x_nc_le (by decide)) ?_
    refine x_getC (np := 15) (x := 450) (f := 2) (q := (h 1 2)) (by decide +kernel) (by decide) (by decide +kernel) rfl (fun l11 => ?_)
    refine x_aloadB (i := 21) (k4 := 1) rfl (by decide) (by rw [tb_b78]; decide +kernel) ?_
    have b12 := (iv_tl_lt 21 (by decide)).1
    have b13 := iv_tl_ge 21 (by decide)
    refine x_len (by decide +kernel) (by rw [tb_y78]; exact sl_Tl) (by decide) (by rw [tb_b78]; decide +kernel) (Nat.le_trans (x_wi l11 (x_wr (by decide) x_wn)) (by decide)) ?_
    refine x_iadd (np := 20) (x := 0) (v := ((h 1 2) + (iv_tl 21))) (by decide +kernel) l11 (by omega) (by omega) (by omega) ?_
    refine x_cV (t := 6) (mj := 80) (n := 2) (rc := 8) (ml := 2) (nr := 0) (np := 23) (as := [x_r 1, iv_c ((h 1 2) + (iv_tl 21))]) (rest := []) (lo1 := [x_r 1, iv_c ((h 1 2) + (iv_tl 21))]) (by decide +kernel) (by decide) (by decide +kernel) (x_rb_of (by decide +kernel)) rfl rfl (x_wr (by decide) (x_wi (by omega) x_wn)) x_wn (by decide) rfl (c80_1n hJ  (by omega)) (fun h17 q16 => ?_)
    obtain ⟨j18, f19⟩ := q16
    have f22 := Fr.trans hF f19 (by decide)
    refine x_const (np := 24) (x := 9223372043297226753) (a := 2147483649) (by decide +kernel) (by decide) (by decide) ?_
    refine x_retI (np := 25) (x := 0) (by decide +kernel) (by decide) (Or.inr ⟨by decide +kernel, by omega, by omega⟩) ⟨_, rfl, (by decide), ?_⟩
    refine x_ifz (k := 0) (tg := 23) (np := 16) (by decide +kernel) (by decide) (by decide) (fun q23 => ?_) (fun q24 => ?_)
    · have q23 : 2147483649 = 2147483648 := q23
      exfalso; omega
    have q24 : ¬ (2147483649 = 2147483648) := q24
    refine x_const (np := 19) (x := 9223380659001624535) (a := 2147485655) (by decide +kernel) (by decide) (by decide) ?_
    refine x_istore (np := 20) (x := 1) (lo' := [x_r 62, iv_c 2147485655]) (by decide +kernel) (by decide) (Nat.le_of_ble_eq_true rfl) rfl ?_
    refine x_goto (np := 23) (x := 37) (by decide +kernel) ?_
    refine x_aload (np := 38) (x := 0) (by decide +kernel) rfl (x_nc_le (by decide)) ?_
    have q25 : h17 62 0 = 1 := by have z := jB (e := 0) 0 j18 rg_62_0_0_1 (by decide) (by decide); omega
    refine x_getR (np := 41) (x := 192) (f := 0) (q := 1) (by decide +kernel) (by decide) (by decide +kernel) q25 ?_
    refine x_ldcB (i := 23) (idx := 52) (tx := "if") (by rw [tb_y45]; exact List.mem_of_getElem? (i := 23) rfl) (by decide) (by rw [tb_b45]; decide +kernel) ?_
    refine x_nI (t := 6) (mj := 78) (n := 2) (rc := 8) (ml := 2) (nr := 0) (np := 46) (as := [x_r 1, x_b (23 + 1)]) (rest := []) (lo1 := [x_r 1, x_b (23 + 1)]) (by decide +kernel) (by decide) (by decide +kernel) (x_rb_of (by decide +kernel)) rfl rfl (x_wr (by decide) (x_wB (by decide) x_wn)) x_wn (by decide) rfl ?_
    refine x_aload (np := 1) (x := 0) (by decide +kernel) rfl (x_nc_le (by decide)) ?_
    refine x_aloadB (i := 23) (k4 := 1) rfl (by decide) (by rw [tb_b78]; decide +kernel) ?_
    refine x_cP (t := 6) (mj := 77) (n := 2) (rc := 8) (ml := 4) (nr := 0) (np := 5) (as := [x_r 1, x_b (23 + 1)]) (rest := []) (lo1 := [x_r 1, x_b (23 + 1), 147573952589676412928, 147573952589676412928]) (by decide +kernel) (by decide) (by decide +kernel) (x_rb_of (by decide +kernel)) rfl rfl (x_wr (by decide) (x_wB (by decide) x_wn)) x_wn (by decide) rfl (c77_1_S0 j18  (by decide)) (fun v26 l27 q28 => ?_)
    obtain ⟨b30, c29⟩ := q28
    have b31 := jB (e := 2) 0 j18 rg_1_2_0_1 (by omega) (by omega)
    refine x_ifz (k := 1) (tg := 10) (np := 8) (by decide +kernel) (by decide) l27 (fun q32 => ?_) (fun q33 => ?_)
    · have q32 : v26 ≠ 2147483648 := q32
      have b34 := c29 (by omega)
      refine x_aload (np := 11) (x := 0) (by decide +kernel) rfl (x_nc_le (by decide)) ?_
      refine x_aload (np := 12) (x := 0) (by decide +kernel) rfl (x_nc_le (by decide)) ?_
      refine x_getC (np := 15) (x := 450) (f := 2) (q := (h17 1 2)) (by decide +kernel) (by decide) (by decide +kernel) rfl (fun l35 => ?_)
      refine x_aloadB (i := 23) (k4 := 1) rfl (by decide) (by rw [tb_b78]; decide +kernel) ?_
      have b36 := (iv_tl_lt 23 (by decide)).1
      have b37 := iv_tl_ge 23 (by decide)
      refine x_len (by decide +kernel) (by rw [tb_y78]; exact sl_Tl) (by decide) (by rw [tb_b78]; decide +kernel) (Nat.le_trans (x_wi l35 (x_wr (by decide) x_wn)) (by decide)) ?_
      refine x_iadd (np := 20) (x := 0) (v := ((h17 1 2) + (iv_tl 23))) (by decide +kernel) l35 (by omega) (by omega) (by omega) ?_
      refine x_cV (t := 6) (mj := 80) (n := 2) (rc := 8) (ml := 2) (nr := 0) (np := 23) (as := [x_r 1, iv_c ((h17 1 2) + (iv_tl 23))]) (rest := []) (lo1 := [x_r 1, iv_c ((h17 1 2) + (iv_tl 23))]) (by decide +kernel) (by decide) (by decide +kernel) (x_rb_of (by decide +kernel)) rfl rfl (x_wr (by decide) (x_wi (by omega) x_wn)) x_wn (by decide) rfl (c80_1n j18  (by omega)) (fun h41 q40 => ?_)
      obtain ⟨j42, f43⟩ := q40
      have f46 := Fr.trans f22 f43 (by decide)
      refine x_const (np := 24) (x := 9223372043297226753) (a := 2147483649) (by decide +kernel) (by decide) (by decide) ?_
      refine x_retI (np := 25) (x := 0) (by decide +kernel) (by decide) (Or.inr ⟨by decide +kernel, by omega, by omega⟩) ⟨_, rfl, (by decide), ?_⟩
      refine x_ifz (k := 1) (tg := 77) (np := 49) (by decide +kernel) (by decide) (by decide) (fun q47 => ?_) (fun q48 => ?_)
      · have q47 : 2147483649 ≠ 2147483648 := q47
        refine x_aload (np := 78) (x := 0) (by decide +kernel) rfl (x_nc_le (by decide)) ?_
        refine x_const (np := 79) (x := 9223372039002259456) (a := 2147483648) (by decide +kernel) (by decide) (by decide) ?_
        refine x_cI (t := 6) (mj := 46) (n := 2) (rc := 4) (ml := 3) (nr := 0) (np := 82) (as := [x_r 62, iv_c 2147483648]) (rest := []) (lo1 := [x_r 62, iv_c 2147483648, 147573952589676412928]) (by decide +kernel) (by decide) (by decide +kernel) (x_rb_of (by decide +kernel)) rfl rfl (x_wr (by decide) (x_wi (by decide) x_wn)) x_wn (by decide) rfl (c46_62_c0 j42  ) (fun v49 h52 l50 q51 => ?_)
        obtain ⟨j53, f54, b55⟩ := q51
        have f56 := Fr.trans f46 f54 (by decide)
        refine x_ifz (k := 0) (tg := 100) (np := 85) (by decide +kernel) (by decide) l50 (fun q57 => ?_) (fun q58 => ?_)
        · have q57 : v49 = 2147483648 := q57
          refine x_const (np := 101) (x := 9223372039002259456) (a := 2147483648) (by decide +kernel) (by decide) (by decide) ?_
          refine x_retI (np := 102) (x := 0) (by decide +kernel) (by decide) (Or.inr ⟨by decide +kernel, by omega, by omega⟩) ⟨_, rfl, (by decide), ?_⟩
          exact ⟨j53, f56, (by omega)⟩
        have q58 : ¬ (v49 = 2147483648) := q58
        refine x_aload (np := 86) (x := 0) (by decide +kernel) rfl (x_nc_le (by decide)) ?_
        have q59 : h52 62 1 = h41 62 1 := f54 62 1 (by decide +kernel)
        have q60 : h41 62 1 = h17 62 1 := f43 62 1 (by decide +kernel)
        have q61 : h17 62 1 = h 62 1 := f19 62 1 (by decide +kernel)
        obtain ⟨r62, q63, t64⟩ : ∃ z, (h 62 1) = z + 11 ∧ tw z := by
          rcases hJ.2.2.2.2.2.2.2 with z | z
          · exact ⟨17, by rw [z], Or.inl rfl⟩
          · exact ⟨31, by rw [z], Or.inr rfl⟩
        refine x_getR (np := 89) (x := 193) (f := 1) (q := (r62 + 11)) (by decide +kernel) (by decide) (by decide +kernel) (((q59.trans q60).trans q61).trans q63) ?_
        refine x_iload (np := 90) (x := 1) (by decide +kernel) rfl (by decide) ?_
        refine x_nI (t := 6) (mj := 36) (n := 2) (rc := 3) (ml := 2) (nr := 0) (np := 93) (as := [x_r (r62 + 11), iv_c 2147485655]) (rest := []) (lo1 := [x_r (r62 + 11), iv_c 2147485655]) (by decide +kernel) (by decide) (by decide +kernel) (x_rb_of (tr_11_3 t64)) rfl rfl (x_wr (tn_11 t64) (x_wi (by decide) x_wn)) x_wn (by decide) rfl ?_
        refine x_aload (np := 1) (x := 0) (by decide +kernel) rfl (x_nc_le (tn_11 t64)) ?_
        have b65 := jB (e := 2) 0 j53 (rg_T11_2_0_1 t64) (by omega) (by omega)
        refine x_getC (np := 4) (x := 130) (f := 2) (q := (h52 (r62 + 11) 2)) (by decide +kernel) (by decide) (tg_11_130_2_0 t64) rfl (fun l66 => ?_)
        refine x_const (np := 7) (x := 9223373756989178256) (a := 2147484048) (by decide +kernel) (by decide) (by decide) ?_
        refine x_icmp (k := 2) (tg := 12) (np := 10) (by decide +kernel) (by decide) l66 (by decide) (fun q67 => ?_) (fun q68 => ?_)
        · have q67 : (h52 (r62 + 11) 2) < 2147484048 := q67
          refine x_aload (np := 13) (x := 0) (by decide +kernel) rfl (x_nc_le (tn_11 t64)) ?_
          have q69 : h52 (r62 + 11) 0 = (r62 + 12) := tf_11_0 j53 t64
          refine x_getR (np := 16) (x := 128) (f := 0) (q := (r62 + 12)) (by decide +kernel) (by decide) (tg_11_128_0_1 t64) q69 ?_
          refine x_aload (np := 17) (x := 0) (by decide +kernel) rfl (x_nc_le (tn_11 t64)) ?_
          refine x_getC (np := 20) (x := 130) (f := 2) (q := (h52 (r62 + 11) 2)) (by decide +kernel) (by decide) (tg_11_130_2_0 t64) rfl (fun l70 => ?_)
          refine x_iload (np := 21) (x := 1) (by decide +kernel) rfl (by decide) ?_
          obtain ⟨u71, q72⟩ : ∃ z, (h52 (r62 + 11) 2) = 2147483648 + z := ⟨(h52 (r62 + 11) 2) - 2147483648, by omega⟩
          refine x_ast (np := 22) (x := 0) (kd := 1) (n := 400) (i := u71) (by decide +kernel) (Or.inl rfl) (ta_12_400 t64) (by omega) (by omega) (by decide) (by decide) (fun z => absurd z (by decide)) ?_
          have j74 := jU (e := u71) (v := 2147485655) u71 j53 (rg_T12_0_1_400 t64) (by omega) (by omega) (by omega)
          have f76 := jF (e := u71) (v := 2147485655) u71 f56 (rg_T12_0_1_400 t64) (by omega) (by omega) (by decide)
          generalize e75 : x_up h52 (r62 + 12) u71 2147485655 = h73 at j74 f76 ⊢
          refine x_aload (np := 23) (x := 0) (by decide +kernel) rfl (x_nc_le (tn_11 t64)) ?_
          refine x_dup (np := 24) (x := 0) (by decide +kernel) (by have z := x_nc_le (k := (r62 + 11)) (tn_11 t64); unfold x_r; omega) ?_
          have q77 : h73 (r62 + 11) 2 = h52 (r62 + 11) 2 := by rw [← e75]; exact x_up_k tof_11_12
          refine x_getC (np := 27) (x := 130) (f := 2) (q := (h52 (r62 + 11) 2)) (by decide +kernel) (by decide) (tg_11_130_2_0 t64) q77 (fun l78 => ?_)
          refine x_const (np := 28) (x := 9223372043297226753) (a := 2147483649) (by decide +kernel) (by decide) (by decide) ?_
          refine x_iadd (np := 29) (x := 0) (v := (1 + (h52 (r62 + 11) 2))) (by decide +kernel) l66 (by decide) (by omega) (by omega) ?_
          refine x_putI (np := 32) (x := 130) (f := 2) (by decide +kernel) (tg_11_130_2_0 t64) (by omega) (Or.inl (by decide)) ?_
          have j80 := jU (e := 2) (v := (1 + (h52 (r62 + 11) 2))) 0 j74 (rg_T11_2_0_1 t64) (by omega) (by omega) (by omega)
          have f82 := jF (e := 2) (v := (1 + (h52 (r62 + 11) 2))) 0 f76 (rg_T11_2_0_1 t64) (by omega) (by omega) (by decide)
          generalize e81 : x_up h73 (r62 + 11) 2 (1 + (h52 (r62 + 11) 2)) = h79 at j80 f82 ⊢
          refine x_const (np := 33) (x := 9223372043297226753) (a := 2147483649) (by decide +kernel) (by decide) (by decide) ?_
          refine x_retI (np := 34) (x := 0) (by decide +kernel) (by decide) (Or.inr ⟨by decide +kernel, by omega, by omega⟩) ⟨_, rfl, (by decide), ?_⟩
          refine x_ifz (k := 0) (tg := 100) (np := 96) (by decide +kernel) (by decide) (by decide) (fun q83 => ?_) (fun q84 => ?_)
          · have q83 : 2147483649 = 2147483648 := q83
            exfalso; omega
          have q84 : ¬ (2147483649 = 2147483648) := q84
          refine x_const (np := 97) (x := 9223372043297226753) (a := 2147483649) (by decide +kernel) (by decide) (by decide) ?_
          refine x_goto (np := 100) (x := 101) (by decide +kernel) ?_
          refine x_retI (np := 102) (x := 0) (by decide +kernel) (by decide) (Or.inr ⟨by decide +kernel, by omega, by omega⟩) ⟨_, rfl, (by decide), ?_⟩
          exact ⟨j80, f82, (by omega)⟩
        have q68 : ¬ ((h52 (r62 + 11) 2) < 2147484048) := q68
        refine x_const (np := 11) (x := 9223372039002259456) (a := 2147483648) (by decide +kernel) (by decide) (by decide) ?_
        refine x_retI (np := 12) (x := 0) (by decide +kernel) (by decide) (Or.inr ⟨by decide +kernel, by omega, by omega⟩) ⟨_, rfl, (by decide), ?_⟩
        refine x_ifz (k := 0) (tg := 100) (np := 96) (by decide +kernel) (by decide) (by decide) (fun q85 => ?_) (fun q86 => ?_)
        · have q85 : 2147483648 = 2147483648 := q85
          refine x_const (np := 101) (x := 9223372039002259456) (a := 2147483648) (by decide +kernel) (by decide) (by decide) ?_
          refine x_retI (np := 102) (x := 0) (by decide +kernel) (by decide) (Or.inr ⟨by decide +kernel, by omega, by omega⟩) ⟨_, rfl, (by decide), ?_⟩
          exact ⟨j53, f56, (by omega)⟩
        have q86 : ¬ (2147483648 = 2147483648) := q86
        exfalso; omega
      have q48 : ¬ (2147483649 ≠ 2147483648) := q48
      exfalso; omega
    have q33 : ¬ (v26 ≠ 2147483648) := q33
    refine x_const (np := 9) (x := 9223372039002259456) (a := 2147483648) (by decide +kernel) (by decide) (by decide) ?_
    refine x_retI (np := 10) (x := 0) (by decide +kernel) (by decide) (Or.inr ⟨by decide +kernel, by omega, by omega⟩) ⟨_, rfl, (by decide), ?_⟩
    refine x_ifz (k := 1) (tg := 77) (np := 49) (by decide +kernel) (by decide) (by decide) (fun q87 => ?_) (fun q88 => ?_)
    · have q87 : 2147483648 ≠ 2147483648 := q87
      exfalso; omega
    have q88 : ¬ (2147483648 ≠ 2147483648) := q88
    refine x_aload (np := 50) (x := 0) (by decide +kernel) rfl (x_nc_le (by decide)) ?_
    have q89 : h17 62 1 = h 62 1 := f19 62 1 (by decide +kernel)
    obtain ⟨r90, q91, t92⟩ : ∃ z, (h 62 1) = z + 11 ∧ tw z := by
      rcases hJ.2.2.2.2.2.2.2 with z | z
      · exact ⟨17, by rw [z], Or.inl rfl⟩
      · exact ⟨31, by rw [z], Or.inr rfl⟩
    refine x_getR (np := 53) (x := 193) (f := 1) (q := (r90 + 11)) (by decide +kernel) (by decide) (by decide +kernel) (q89.trans q91) ?_
    refine x_const (np := 54) (x := 9223372043297226753) (a := 2147483649) (by decide +kernel) (by decide) (by decide) ?_
    refine x_nI (t := 6) (mj := 36) (n := 2) (rc := 3) (ml := 2) (nr := 0) (np := 57) (as := [x_r (r90 + 11), iv_c 2147483649]) (rest := []) (lo1 := [x_r (r90 + 11), iv_c 2147483649]) (by decide +kernel) (by decide) (by decide +kernel) (x_rb_of (tr_11_3 t92)) rfl rfl (x_wr (tn_11 t92) (x_wi (by decide) x_wn)) x_wn (by decide) rfl ?_
    refine x_aload (np := 1) (x := 0) (by decide +kernel) rfl (x_nc_le (tn_11 t92)) ?_
    have q93 : h17 (r90 + 11) 2 = h (r90 + 11) 2 := jK 0 f19 (rg_T11_2_0_1 t92) (by omega) (by omega) (by decide)
    have b94 := jB (e := 2) 0 hJ (rg_T11_2_0_1 t92) (by omega) (by omega)
    refine x_getC (np := 4) (x := 130) (f := 2) (q := (h (r90 + 11) 2)) (by decide +kernel) (by decide) (tg_11_130_2_0 t92) q93 (fun l95 => ?_)
    refine x_const (np := 7) (x := 9223373756989178256) (a := 2147484048) (by decide +kernel) (by decide) (by decide) ?_
    refine x_icmp (k := 2) (tg := 12) (np := 10) (by decide +kernel) (by decide) l95 (by decide) (fun q96 => ?_) (fun q97 => ?_)
    · have q96 : (h (r90 + 11) 2) < 2147484048 := q96
      refine x_aload (np := 13) (x := 0) (by decide +kernel) rfl (x_nc_le (tn_11 t92)) ?_
      have q98 : h17 (r90 + 11) 0 = (r90 + 12) := tf_11_0 j18 t92
      refine x_getR (np := 16) (x := 128) (f := 0) (q := (r90 + 12)) (by decide +kernel) (by decide) (tg_11_128_0_1 t92) q98 ?_
      refine x_aload (np := 17) (x := 0) (by decide +kernel) rfl (x_nc_le (tn_11 t92)) ?_
      have q99 : h17 (r90 + 11) 2 = h (r90 + 11) 2 := jK 0 f19 (rg_T11_2_0_1 t92) (by omega) (by omega) (by decide)
      refine x_getC (np := 20) (x := 130) (f := 2) (q := (h (r90 + 11) 2)) (by decide +kernel) (by decide) (tg_11_130_2_0 t92) q99 (fun l100 => ?_)
      refine x_iload (np := 21) (x := 1) (by decide +kernel) rfl (by decide) ?_
      obtain ⟨u101, q102⟩ : ∃ z, (h (r90 + 11) 2) = 2147483648 + z := ⟨(h (r90 + 11) 2) - 2147483648, by omega⟩
      refine x_ast (np := 22) (x := 0) (kd := 1) (n := 400) (i := u101) (by decide +kernel) (Or.inl rfl) (ta_12_400 t92) (by omega) (by omega) (by decide) (by decide) (fun z => absurd z (by decide)) ?_
      have j104 := jU (e := u101) (v := 2147483649) u101 j18 (rg_T12_0_1_400 t92) (by omega) (by omega) (by omega)
      have f106 := jF (e := u101) (v := 2147483649) u101 f22 (rg_T12_0_1_400 t92) (by omega) (by omega) (by decide)
      generalize e105 : x_up h17 (r90 + 12) u101 2147483649 = h103 at j104 f106 ⊢
      refine x_aload (np := 23) (x := 0) (by decide +kernel) rfl (x_nc_le (tn_11 t92)) ?_
      refine x_dup (np := 24) (x := 0) (by decide +kernel) (by have z := x_nc_le (k := (r90 + 11)) (tn_11 t92); unfold x_r; omega) ?_
      have q107 : h103 (r90 + 11) 2 = h17 (r90 + 11) 2 := by rw [← e105]; exact x_up_k tof_11_12
      have q108 : h17 (r90 + 11) 2 = h (r90 + 11) 2 := jK 0 f19 (rg_T11_2_0_1 t92) (by omega) (by omega) (by decide)
      refine x_getC (np := 27) (x := 130) (f := 2) (q := (h (r90 + 11) 2)) (by decide +kernel) (by decide) (tg_11_130_2_0 t92) (q107.trans q108) (fun l109 => ?_)
      refine x_const (np := 28) (x := 9223372043297226753) (a := 2147483649) (by decide +kernel) (by decide) (by decide) ?_
      refine x_iadd (np := 29) (x := 0) (v := (1 + (h (r90 + 11) 2))) (by decide +kernel) l95 (by decide) (by omega) (by omega) ?_
      refine x_putI (np := 32) (x := 130) (f := 2) (by decide +kernel) (tg_11_130_2_0 t92) (by omega) (Or.inl (by decide)) ?_
      have j111 := jU (e := 2) (v := (1 + (h (r90 + 11) 2))) 0 j104 (rg_T11_2_0_1 t92) (by omega) (by omega) (by omega)
      have f113 := jF (e := 2) (v := (1 + (h (r90 + 11) 2))) 0 f106 (rg_T11_2_0_1 t92) (by omega) (by omega) (by decide)
      generalize e112 : x_up h103 (r90 + 11) 2 (1 + (h (r90 + 11) 2)) = h110 at j111 f113 ⊢
      refine x_const (np := 33) (x := 9223372043297226753) (a := 2147483649) (by decide +kernel) (by decide) (by decide) ?_
      refine x_retI (np := 34) (x := 0) (by decide +kernel) (by decide) (Or.inr ⟨by decide +kernel, by omega, by omega⟩) ⟨_, rfl, (by decide), ?_⟩
      refine x_ifz (k := 0) (tg := 75) (np := 60) (by decide +kernel) (by decide) (by decide) (fun q114 => ?_) (fun q115 => ?_)
      · have q114 : 2147483649 = 2147483648 := q114
        exfalso; omega
      have q115 : ¬ (2147483649 = 2147483648) := q115
      refine x_aload (np := 61) (x := 0) (by decide +kernel) rfl (x_nc_le (by decide)) ?_
      have q116 : h110 62 1 = h103 62 1 := by rw [← e112]; exact x_up_k (Ne.symm (tne_11_62 t92))
      have q117 : h103 62 1 = h17 62 1 := by rw [← e105]; exact x_up_k (Ne.symm (tne_12_62 t92))
      have q118 : h17 62 1 = h 62 1 := f19 62 1 (by decide +kernel)
      refine x_getR (np := 64) (x := 193) (f := 1) (q := (r90 + 11)) (by decide +kernel) (by decide) (by decide +kernel) (((q116.trans q117).trans q118).trans q91) ?_
      refine x_iload (np := 65) (x := 1) (by decide +kernel) rfl (by decide) ?_
      refine x_nI (t := 6) (mj := 36) (n := 2) (rc := 3) (ml := 2) (nr := 0) (np := 68) (as := [x_r (r90 + 11), iv_c 2147485655]) (rest := []) (lo1 := [x_r (r90 + 11), iv_c 2147485655]) (by decide +kernel) (by decide) (by decide +kernel) (x_rb_of (tr_11_3 t92)) rfl rfl (x_wr (tn_11 t92) (x_wi (by decide) x_wn)) x_wn (by decide) rfl ?_
      refine x_aload (np := 1) (x := 0) (by decide +kernel) rfl (x_nc_le (tn_11 t92)) ?_
      have q119 : h110 (r90 + 11) 2 = (1 + (h (r90 + 11) 2)) := by rw [← e112]; exact x_up_at
      refine x_getC (np := 4) (x := 130) (f := 2) (q := (1 + (h (r90 + 11) 2))) (by decide +kernel) (by decide) (tg_11_130_2_0 t92) q119 (fun l120 => ?_)
      refine x_const (np := 7) (x := 9223373756989178256) (a := 2147484048) (by decide +kernel) (by decide) (by decide) ?_
      refine x_icmp (k := 2) (tg := 12) (np := 10) (by decide +kernel) (by decide) (by omega) (by decide) (fun q121 => ?_) (fun q122 => ?_)
      · have q121 : (1 + (h (r90 + 11) 2)) < 2147484048 := q121
        refine x_aload (np := 13) (x := 0) (by decide +kernel) rfl (x_nc_le (tn_11 t92)) ?_
        have q123 : h110 (r90 + 11) 0 = (r90 + 12) := tf_11_0 j111 t92
        refine x_getR (np := 16) (x := 128) (f := 0) (q := (r90 + 12)) (by decide +kernel) (by decide) (tg_11_128_0_1 t92) q123 ?_
        refine x_aload (np := 17) (x := 0) (by decide +kernel) rfl (x_nc_le (tn_11 t92)) ?_
        have q124 : h110 (r90 + 11) 2 = (1 + (h (r90 + 11) 2)) := by rw [← e112]; exact x_up_at
        refine x_getC (np := 20) (x := 130) (f := 2) (q := (1 + (h (r90 + 11) 2))) (by decide +kernel) (by decide) (tg_11_130_2_0 t92) q124 (fun l125 => ?_)
        refine x_iload (np := 21) (x := 1) (by decide +kernel) rfl (by decide) ?_
        refine x_ast (np := 22) (x := 0) (kd := 1) (n := 400) (i := (1 + u101)) (by decide +kernel) (Or.inl rfl) (ta_12_400 t92) (by omega) (by omega) (by decide) (by decide) (fun z => absurd z (by decide)) ?_
        have j127 := jU (e := (1 + u101)) (v := 2147485655) (1 + u101) j111 (rg_T12_0_1_400 t92) (by omega) (by omega) (by omega)
        have f129 := jF (e := (1 + u101)) (v := 2147485655) (1 + u101) f113 (rg_T12_0_1_400 t92) (by omega) (by omega) (by decide)
        generalize e128 : x_up h110 (r90 + 12) (1 + u101) 2147485655 = h126 at j127 f129 ⊢
        refine x_aload (np := 23) (x := 0) (by decide +kernel) rfl (x_nc_le (tn_11 t92)) ?_
        refine x_dup (np := 24) (x := 0) (by decide +kernel) (by have z := x_nc_le (k := (r90 + 11)) (tn_11 t92); unfold x_r; omega) ?_
        have q130 : h126 (r90 + 11) 2 = h110 (r90 + 11) 2 := by rw [← e128]; exact x_up_k tof_11_12
        have q131 : h110 (r90 + 11) 2 = (1 + (h (r90 + 11) 2)) := by rw [← e112]; exact x_up_at
        refine x_getC (np := 27) (x := 130) (f := 2) (q := (1 + (h (r90 + 11) 2))) (by decide +kernel) (by decide) (tg_11_130_2_0 t92) (q130.trans q131) (fun l132 => ?_)
        refine x_const (np := 28) (x := 9223372043297226753) (a := 2147483649) (by decide +kernel) (by decide) (by decide) ?_
        refine x_iadd (np := 29) (x := 0) (v := (2 + (h (r90 + 11) 2))) (by decide +kernel) (by omega) (by decide) (by omega) (by omega) ?_
        refine x_putI (np := 32) (x := 130) (f := 2) (by decide +kernel) (tg_11_130_2_0 t92) (by omega) (Or.inl (by decide)) ?_
        have j134 := jU (e := 2) (v := (2 + (h (r90 + 11) 2))) 0 j127 (rg_T11_2_0_1 t92) (by omega) (by omega) (by omega)
        have f136 := jF (e := 2) (v := (2 + (h (r90 + 11) 2))) 0 f129 (rg_T11_2_0_1 t92) (by omega) (by omega) (by decide)
        generalize e135 : x_up h126 (r90 + 11) 2 (2 + (h (r90 + 11) 2)) = h133 at j134 f136 ⊢
        refine x_const (np := 33) (x := 9223372043297226753) (a := 2147483649) (by decide +kernel) (by decide) (by decide) ?_
        refine x_retI (np := 34) (x := 0) (by decide +kernel) (by decide) (Or.inr ⟨by decide +kernel, by omega, by omega⟩) ⟨_, rfl, (by decide), ?_⟩
        refine x_ifz (k := 0) (tg := 75) (np := 71) (by decide +kernel) (by decide) (by decide) (fun q137 => ?_) (fun q138 => ?_)
        · have q137 : 2147483649 = 2147483648 := q137
          exfalso; omega
        have q138 : ¬ (2147483649 = 2147483648) := q138
        refine x_const (np := 72) (x := 9223372043297226753) (a := 2147483649) (by decide +kernel) (by decide) (by decide) ?_
        refine x_goto (np := 75) (x := 76) (by decide +kernel) ?_
        refine x_retI (np := 77) (x := 0) (by decide +kernel) (by decide) (Or.inr ⟨by decide +kernel, by omega, by omega⟩) ⟨_, rfl, (by decide), ?_⟩
        exact ⟨j134, f136, (by omega)⟩
      have q122 : ¬ ((1 + (h (r90 + 11) 2)) < 2147484048) := q122
      refine x_const (np := 11) (x := 9223372039002259456) (a := 2147483648) (by decide +kernel) (by decide) (by decide) ?_
      refine x_retI (np := 12) (x := 0) (by decide +kernel) (by decide) (Or.inr ⟨by decide +kernel, by omega, by omega⟩) ⟨_, rfl, (by decide), ?_⟩
      refine x_ifz (k := 0) (tg := 75) (np := 71) (by decide +kernel) (by decide) (by decide) (fun q139 => ?_) (fun q140 => ?_)
      · have q139 : 2147483648 = 2147483648 := q139
        refine x_const (np := 76) (x := 9223372039002259456) (a := 2147483648) (by decide +kernel) (by decide) (by decide) ?_
        refine x_retI (np := 77) (x := 0) (by decide +kernel) (by decide) (Or.inr ⟨by decide +kernel, by omega, by omega⟩) ⟨_, rfl, (by decide), ?_⟩
        exact ⟨j111, f113, (by omega)⟩
      have q140 : ¬ (2147483648 = 2147483648) := q140
      exfalso; omega
    have q97 : ¬ ((h (r90 + 11) 2) < 2147484048) := q97
    refine x_const (np := 11) (x := 9223372039002259456) (a := 2147483648) (by decide +kernel) (by decide) (by decide) ?_
    refine x_retI (np := 12) (x := 0) (by decide +kernel) (by decide) (Or.inr ⟨by decide +kernel, by omega, by omega⟩) ⟨_, rfl, (by decide), ?_⟩
    refine x_ifz (k := 0) (tg := 75) (np := 60) (by decide +kernel) (by decide) (by decide) (fun q141 => ?_) (fun q142 => ?_)
    · have q141 : 2147483648 = 2147483648 := q141
      refine x_const (np := 76) (x := 9223372039002259456) (a := 2147483648) (by decide +kernel) (by decide) (by decide) ?_
      refine x_retI (np := 77) (x := 0) (by decide +kernel) (by decide) (Or.inr ⟨by decide +kernel, by omega, by omega⟩) ⟨_, rfl, (by decide), ?_⟩
      exact ⟨j18, f22, (by omega)⟩
    have q142 : ¬ (2147483648 = 2147483648) := q142
    exfalso; omega
  have q9 : ¬ (v2 ≠ 2147483648) := q9
  refine x_const (np := 9) (x := 9223372039002259456) (a := 2147483648) (by decide +kernel) (by decide) (by decide) ?_
  refine x_retI (np := 10) (x := 0) (by decide +kernel) (by decide) (Or.inr ⟨by decide +kernel, by omega, by omega⟩) ⟨_, rfl, (by decide), ?_⟩
  refine x_ifz (k := 0) (tg := 23) (np := 16) (by decide +kernel) (by decide) (by decide) (fun q143 => ?_) (fun q144 => ?_)
  · have q143 : 2147483648 = 2147483648 := q143
    refine x_aload (np := 24) (x := 0) (by decide +kernel) rfl (x_nc_le (by decide)) ?_
    have q145 : h 62 0 = 1 := by have z := jB (e := 0) 0 hJ rg_62_0_0_1 (by decide) (by decide); omega
    refine x_getR (np := 27) (x := 192) (f := 0) (q := 1) (by decide +kernel) (by decide) (by decide +kernel) q145 ?_
    refine x_ldcB (i := 22) (idx := 50) (tx := "grant") (by rw [tb_y45]; exact List.mem_of_getElem? (i := 22) rfl) (by decide) (by rw [tb_b45]; decide +kernel) ?_
    refine x_nI (t := 6) (mj := 78) (n := 2) (rc := 8) (ml := 2) (nr := 0) (np := 32) (as := [x_r 1, x_b (22 + 1)]) (rest := []) (lo1 := [x_r 1, x_b (22 + 1)]) (by decide +kernel) (by decide) (by decide +kernel) (x_rb_of (by decide +kernel)) rfl rfl (x_wr (by decide) (x_wB (by decide) x_wn)) x_wn (by decide) rfl ?_
    refine x_aload (np := 1) (x := 0) (by decide +kernel) rfl (x_nc_le (by decide)) ?_
    refine x_aloadB (i := 22) (k4 := 1) rfl (by decide) (by rw [tb_b78]; decide +kernel) ?_
    refine x_cP (t := 6) (mj := 77) (n := 2) (rc := 8) (ml := 4) (nr := 0) (np := 5) (as := [x_r 1, x_b (22 + 1)]) (rest := []) (lo1 := [x_r 1, x_b (22 + 1), 147573952589676412928, 147573952589676412928]) (by decide +kernel) (by decide) (by decide +kernel) (x_rb_of (by decide +kernel)) rfl rfl (x_wr (by decide) (x_wB (by decide) x_wn)) x_wn (by decide) rfl (c77_1_S0 hJ  (by decide)) (fun v146 l147 q148 => ?_)
    obtain ⟨b150, c149⟩ := q148
    refine x_ifz (k := 1) (tg := 10) (np := 8) (by decide +kernel) (by decide) l147 (fun q151 => ?_) (fun q152 => ?_)
    · have q151 : v146 ≠ 2147483648 := q151
      have b153 := c149 (by omega)
      refine x_aload (np := 11) (x := 0) (by decide +kernel) rfl (x_nc_le (by decide)) ?_
      refine x_aload (np := 12) (x := 0) (by decide +kernel) rfl (x_nc_le (by decide)) ?_
      refine x_getC (np := 15) (x := 450) (f := 2) (q := (h 1 2)) (by decide +kernel) (by decide) (by decide +kernel) rfl (fun l154 => ?_)
      refine x_aloadB (i := 22) (k4 := 1) rfl (by decide) (by rw [tb_b78]; decide +kernel) ?_
      have b155 := (iv_tl_lt 22 (by decide)).1
      have b156 := iv_tl_ge 22 (by decide)
      refine x_len (by decide +kernel) (by rw [tb_y78]; exact sl_Tl) (by decide) (by rw [tb_b78]; decide +kernel) (Nat.le_trans (x_wi l154 (x_wr (by decide) x_wn)) (by decide)) ?_
      refine x_iadd (np := 20) (x := 0) (v := ((h 1 2) + (iv_tl 22))) (by decide +kernel) l154 (by omega) (by omega) (by omega) ?_
      refine x_cV (t := 6) (mj := 80) (n := 2) (rc := 8) (ml := 2) (nr := 0) (np := 23) (as := [x_r 1, iv_c ((h 1 2) + (iv_tl 22))]) (rest := []) (lo1 := [x_r 1, iv_c ((h 1 2) + (iv_tl 22))]) (by decide +kernel) (by decide) (by decide +kernel) (x_rb_of (by decide +kernel)) rfl rfl (x_wr (by decide) (x_wi (by omega) x_wn)) x_wn (by decide) rfl (c80_1n hJ  (by omega)) (fun h160 q159 => ?_)
      obtain ⟨j161, f162⟩ := q159
      have f165 := Fr.trans hF f162 (by decide)
      refine x_const (np := 24) (x := 9223372043297226753) (a := 2147483649) (by decide +kernel) (by decide) (by decide) ?_
      refine x_retI (np := 25) (x := 0) (by decide +kernel) (by decide) (Or.inr ⟨by decide +kernel, by omega, by omega⟩) ⟨_, rfl, (by decide), ?_⟩
      refine x_ifz (k := 1) (tg := 37) (np := 35) (by decide +kernel) (by decide) (by decide) (fun q166 => ?_) (fun q167 => ?_)
      · have q166 : 2147483649 ≠ 2147483648 := q166
        refine x_aload (np := 38) (x := 0) (by decide +kernel) rfl (x_nc_le (by decide)) ?_
        have q168 : h160 62 0 = 1 := by have z := jB (e := 0) 0 j161 rg_62_0_0_1 (by decide) (by decide); omega
        refine x_getR (np := 41) (x := 192) (f := 0) (q := 1) (by decide +kernel) (by decide) (by decide +kernel) q168 ?_
        refine x_ldcB (i := 23) (idx := 52) (tx := "if") (by rw [tb_y45]; exact List.mem_of_getElem? (i := 23) rfl) (by decide) (by rw [tb_b45]; decide +kernel) ?_
        refine x_nI (t := 6) (mj := 78) (n := 2) (rc := 8) (ml := 2) (nr := 0) (np := 46) (as := [x_r 1, x_b (23 + 1)]) (rest := []) (lo1 := [x_r 1, x_b (23 + 1)]) (by decide +kernel) (by decide) (by decide +kernel) (x_rb_of (by decide +kernel)) rfl rfl (x_wr (by decide) (x_wB (by decide) x_wn)) x_wn (by decide) rfl ?_
        refine x_aload (np := 1) (x := 0) (by decide +kernel) rfl (x_nc_le (by decide)) ?_
        refine x_aloadB (i := 23) (k4 := 1) rfl (by decide) (by rw [tb_b78]; decide +kernel) ?_
        refine x_cP (t := 6) (mj := 77) (n := 2) (rc := 8) (ml := 4) (nr := 0) (np := 5) (as := [x_r 1, x_b (23 + 1)]) (rest := []) (lo1 := [x_r 1, x_b (23 + 1), 147573952589676412928, 147573952589676412928]) (by decide +kernel) (by decide) (by decide +kernel) (x_rb_of (by decide +kernel)) rfl rfl (x_wr (by decide) (x_wB (by decide) x_wn)) x_wn (by decide) rfl (c77_1_S0 j161  (by decide)) (fun v169 l170 q171 => ?_)
        obtain ⟨b173, c172⟩ := q171
        have b174 := jB (e := 2) 0 j161 rg_1_2_0_1 (by omega) (by omega)
        refine x_ifz (k := 1) (tg := 10) (np := 8) (by decide +kernel) (by decide) l170 (fun q175 => ?_) (fun q176 => ?_)
        · have q175 : v169 ≠ 2147483648 := q175
          have b177 := c172 (by omega)
          refine x_aload (np := 11) (x := 0) (by decide +kernel) rfl (x_nc_le (by decide)) ?_
          refine x_aload (np := 12) (x := 0) (by decide +kernel) rfl (x_nc_le (by decide)) ?_
          refine x_getC (np := 15) (x := 450) (f := 2) (q := (h160 1 2)) (by decide +kernel) (by decide) (by decide +kernel) rfl (fun l178 => ?_)
          refine x_aloadB (i := 23) (k4 := 1) rfl (by decide) (by rw [tb_b78]; decide +kernel) ?_
          have b179 := (iv_tl_lt 23 (by decide)).1
          have b180 := iv_tl_ge 23 (by decide)
          refine x_len (by decide +kernel) (by rw [tb_y78]; exact sl_Tl) (by decide) (by rw [tb_b78]; decide +kernel) (Nat.le_trans (x_wi l178 (x_wr (by decide) x_wn)) (by decide)) ?_
          refine x_iadd (np := 20) (x := 0) (v := ((h160 1 2) + (iv_tl 23))) (by decide +kernel) l178 (by omega) (by omega) (by omega) ?_
          refine x_cV (t := 6) (mj := 80) (n := 2) (rc := 8) (ml := 2) (nr := 0) (np := 23) (as := [x_r 1, iv_c ((h160 1 2) + (iv_tl 23))]) (rest := []) (lo1 := [x_r 1, iv_c ((h160 1 2) + (iv_tl 23))]) (by decide +kernel) (by decide) (by decide +kernel) (x_rb_of (by decide +kernel)) rfl rfl (x_wr (by decide) (x_wi (by omega) x_wn)) x_wn (by decide) rfl (c80_1n j161  (by omega)) (fun h184 q183 => ?_)
          obtain ⟨j185, f186⟩ := q183
          have f189 := Fr.trans f165 f186 (by decide)
          refine x_const (np := 24) (x := 9223372043297226753) (a := 2147483649) (by decide +kernel) (by decide) (by decide) ?_
          refine x_retI (np := 25) (x := 0) (by decide +kernel) (by decide) (Or.inr ⟨by decide +kernel, by omega, by omega⟩) ⟨_, rfl, (by decide), ?_⟩
          refine x_ifz (k := 1) (tg := 77) (np := 49) (by decide +kernel) (by decide) (by decide) (fun q190 => ?_) (fun q191 => ?_)
          · have q190 : 2147483649 ≠ 2147483648 := q190
            refine x_aload (np := 78) (x := 0) (by decide +kernel) rfl (x_nc_le (by decide)) ?_
            refine x_const (np := 79) (x := 9223372039002259456) (a := 2147483648) (by decide +kernel) (by decide) (by decide) ?_
            refine x_cI (t := 6) (mj := 46) (n := 2) (rc := 4) (ml := 3) (nr := 0) (np := 82) (as := [x_r 62, iv_c 2147483648]) (rest := []) (lo1 := [x_r 62, iv_c 2147483648, 147573952589676412928]) (by decide +kernel) (by decide) (by decide +kernel) (x_rb_of (by decide +kernel)) rfl rfl (x_wr (by decide) (x_wi (by decide) x_wn)) x_wn (by decide) rfl (c46_62_c0 j185  ) (fun v192 h195 l193 q194 => ?_)
            obtain ⟨j196, f197, b198⟩ := q194
            have f199 := Fr.trans f189 f197 (by decide)
            refine x_ifz (k := 0) (tg := 100) (np := 85) (by decide +kernel) (by decide) l193 (fun q200 => ?_) (fun q201 => ?_)
            · have q200 : v192 = 2147483648 := q200
              refine x_const (np := 101) (x := 9223372039002259456) (a := 2147483648) (by decide +kernel) (by decide) (by decide) ?_
              refine x_retI (np := 102) (x := 0) (by decide +kernel) (by decide) (Or.inr ⟨by decide +kernel, by omega, by omega⟩) ⟨_, rfl, (by decide), ?_⟩
              exact ⟨j196, f199, (by omega)⟩
            have q201 : ¬ (v192 = 2147483648) := q201
            refine x_aload (np := 86) (x := 0) (by decide +kernel) rfl (x_nc_le (by decide)) ?_
            have q202 : h195 62 1 = h184 62 1 := f197 62 1 (by decide +kernel)
            have q203 : h184 62 1 = h160 62 1 := f186 62 1 (by decide +kernel)
            have q204 : h160 62 1 = h 62 1 := f162 62 1 (by decide +kernel)
            obtain ⟨r205, q206, t207⟩ : ∃ z, (h 62 1) = z + 11 ∧ tw z := by
              rcases hJ.2.2.2.2.2.2.2 with z | z
              · exact ⟨17, by rw [z], Or.inl rfl⟩
              · exact ⟨31, by rw [z], Or.inr rfl⟩
            refine x_getR (np := 89) (x := 193) (f := 1) (q := (r205 + 11)) (by decide +kernel) (by decide) (by decide +kernel) (((q202.trans q203).trans q204).trans q206) ?_
            refine x_iload (np := 90) (x := 1) (by decide +kernel) rfl (by decide) ?_
            refine x_nI (t := 6) (mj := 36) (n := 2) (rc := 3) (ml := 2) (nr := 0) (np := 93) (as := [x_r (r205 + 11), iv_c 2147485654]) (rest := []) (lo1 := [x_r (r205 + 11), iv_c 2147485654]) (by decide +kernel) (by decide) (by decide +kernel) (x_rb_of (tr_11_3 t207)) rfl rfl (x_wr (tn_11 t207) (x_wi (by decide) x_wn)) x_wn (by decide) rfl ?_
            refine x_aload (np := 1) (x := 0) (by decide +kernel) rfl (x_nc_le (tn_11 t207)) ?_
            have b208 := jB (e := 2) 0 j196 (rg_T11_2_0_1 t207) (by omega) (by omega)
            refine x_getC (np := 4) (x := 130) (f := 2) (q := (h195 (r205 + 11) 2)) (by decide +kernel) (by decide) (tg_11_130_2_0 t207) rfl (fun l209 => ?_)
            refine x_const (np := 7) (x := 9223373756989178256) (a := 2147484048) (by decide +kernel) (by decide) (by decide) ?_
            refine x_icmp (k := 2) (tg := 12) (np := 10) (by decide +kernel) (by decide) l209 (by decide) (fun q210 => ?_) (fun q211 => ?_)
            · have q210 : (h195 (r205 + 11) 2) < 2147484048 := q210
              refine x_aload (np := 13) (x := 0) (by decide +kernel) rfl (x_nc_le (tn_11 t207)) ?_
              have q212 : h195 (r205 + 11) 0 = (r205 + 12) := tf_11_0 j196 t207
              refine x_getR (np := 16) (x := 128) (f := 0) (q := (r205 + 12)) (by decide +kernel) (by decide) (tg_11_128_0_1 t207) q212 ?_
              refine x_aload (np := 17) (x := 0) (by decide +kernel) rfl (x_nc_le (tn_11 t207)) ?_
              refine x_getC (np := 20) (x := 130) (f := 2) (q := (h195 (r205 + 11) 2)) (by decide +kernel) (by decide) (tg_11_130_2_0 t207) rfl (fun l213 => ?_)
              refine x_iload (np := 21) (x := 1) (by decide +kernel) rfl (by decide) ?_
              obtain ⟨u214, q215⟩ : ∃ z, (h195 (r205 + 11) 2) = 2147483648 + z := ⟨(h195 (r205 + 11) 2) - 2147483648, by omega⟩
              refine x_ast (np := 22) (x := 0) (kd := 1) (n := 400) (i := u214) (by decide +kernel) (Or.inl rfl) (ta_12_400 t207) (by omega) (by omega) (by decide) (by decide) (fun z => absurd z (by decide)) ?_
              have j217 := jU (e := u214) (v := 2147485654) u214 j196 (rg_T12_0_1_400 t207) (by omega) (by omega) (by omega)
              have f219 := jF (e := u214) (v := 2147485654) u214 f199 (rg_T12_0_1_400 t207) (by omega) (by omega) (by decide)
              generalize e218 : x_up h195 (r205 + 12) u214 2147485654 = h216 at j217 f219 ⊢
              refine x_aload (np := 23) (x := 0) (by decide +kernel) rfl (x_nc_le (tn_11 t207)) ?_
              refine x_dup (np := 24) (x := 0) (by decide +kernel) (by have z := x_nc_le (k := (r205 + 11)) (tn_11 t207); unfold x_r; omega) ?_
              have q220 : h216 (r205 + 11) 2 = h195 (r205 + 11) 2 := by rw [← e218]; exact x_up_k tof_11_12
              refine x_getC (np := 27) (x := 130) (f := 2) (q := (h195 (r205 + 11) 2)) (by decide +kernel) (by decide) (tg_11_130_2_0 t207) q220 (fun l221 => ?_)
              refine x_const (np := 28) (x := 9223372043297226753) (a := 2147483649) (by decide +kernel) (by decide) (by decide) ?_
              refine x_iadd (np := 29) (x := 0) (v := (1 + (h195 (r205 + 11) 2))) (by decide +kernel) l209 (by decide) (by omega) (by omega) ?_
              refine x_putI (np := 32) (x := 130) (f := 2) (by decide +kernel) (tg_11_130_2_0 t207) (by omega) (Or.inl (by decide)) ?_
              have j223 := jU (e := 2) (v := (1 + (h195 (r205 + 11) 2))) 0 j217 (rg_T11_2_0_1 t207) (by omega) (by omega) (by omega)
              have f225 := jF (e := 2) (v := (1 + (h195 (r205 + 11) 2))) 0 f219 (rg_T11_2_0_1 t207) (by omega) (by omega) (by decide)
              generalize e224 : x_up h216 (r205 + 11) 2 (1 + (h195 (r205 + 11) 2)) = h222 at j223 f225 ⊢
              refine x_const (np := 33) (x := 9223372043297226753) (a := 2147483649) (by decide +kernel) (by decide) (by decide) ?_
              refine x_retI (np := 34) (x := 0) (by decide +kernel) (by decide) (Or.inr ⟨by decide +kernel, by omega, by omega⟩) ⟨_, rfl, (by decide), ?_⟩
              refine x_ifz (k := 0) (tg := 100) (np := 96) (by decide +kernel) (by decide) (by decide) (fun q226 => ?_) (fun q227 => ?_)
              · have q226 : 2147483649 = 2147483648 := q226
                exfalso; omega
              have q227 : ¬ (2147483649 = 2147483648) := q227
              refine x_const (np := 97) (x := 9223372043297226753) (a := 2147483649) (by decide +kernel) (by decide) (by decide) ?_
              refine x_goto (np := 100) (x := 101) (by decide +kernel) ?_
              refine x_retI (np := 102) (x := 0) (by decide +kernel) (by decide) (Or.inr ⟨by decide +kernel, by omega, by omega⟩) ⟨_, rfl, (by decide), ?_⟩
              exact ⟨j223, f225, (by omega)⟩
            have q211 : ¬ ((h195 (r205 + 11) 2) < 2147484048) := q211
            refine x_const (np := 11) (x := 9223372039002259456) (a := 2147483648) (by decide +kernel) (by decide) (by decide) ?_
            refine x_retI (np := 12) (x := 0) (by decide +kernel) (by decide) (Or.inr ⟨by decide +kernel, by omega, by omega⟩) ⟨_, rfl, (by decide), ?_⟩
            refine x_ifz (k := 0) (tg := 100) (np := 96) (by decide +kernel) (by decide) (by decide) (fun q228 => ?_) (fun q229 => ?_)
            · have q228 : 2147483648 = 2147483648 := q228
              refine x_const (np := 101) (x := 9223372039002259456) (a := 2147483648) (by decide +kernel) (by decide) (by decide) ?_
              refine x_retI (np := 102) (x := 0) (by decide +kernel) (by decide) (Or.inr ⟨by decide +kernel, by omega, by omega⟩) ⟨_, rfl, (by decide), ?_⟩
              exact ⟨j196, f199, (by omega)⟩
            have q229 : ¬ (2147483648 = 2147483648) := q229
            exfalso; omega
          have q191 : ¬ (2147483649 ≠ 2147483648) := q191
          exfalso; omega
        have q176 : ¬ (v169 ≠ 2147483648) := q176
        refine x_const (np := 9) (x := 9223372039002259456) (a := 2147483648) (by decide +kernel) (by decide) (by decide) ?_
        refine x_retI (np := 10) (x := 0) (by decide +kernel) (by decide) (Or.inr ⟨by decide +kernel, by omega, by omega⟩) ⟨_, rfl, (by decide), ?_⟩
        refine x_ifz (k := 1) (tg := 77) (np := 49) (by decide +kernel) (by decide) (by decide) (fun q230 => ?_) (fun q231 => ?_)
        · have q230 : 2147483648 ≠ 2147483648 := q230
          exfalso; omega
        have q231 : ¬ (2147483648 ≠ 2147483648) := q231
        refine x_aload (np := 50) (x := 0) (by decide +kernel) rfl (x_nc_le (by decide)) ?_
        have q232 : h160 62 1 = h 62 1 := f162 62 1 (by decide +kernel)
        obtain ⟨r233, q234, t235⟩ : ∃ z, (h 62 1) = z + 11 ∧ tw z := by
          rcases hJ.2.2.2.2.2.2.2 with z | z
          · exact ⟨17, by rw [z], Or.inl rfl⟩
          · exact ⟨31, by rw [z], Or.inr rfl⟩
        refine x_getR (np := 53) (x := 193) (f := 1) (q := (r233 + 11)) (by decide +kernel) (by decide) (by decide +kernel) (q232.trans q234) ?_
        refine x_const (np := 54) (x := 9223372043297226753) (a := 2147483649) (by decide +kernel) (by decide) (by decide) ?_
        refine x_nI (t := 6) (mj := 36) (n := 2) (rc := 3) (ml := 2) (nr := 0) (np := 57) (as := [x_r (r233 + 11), iv_c 2147483649]) (rest := []) (lo1 := [x_r (r233 + 11), iv_c 2147483649]) (by decide +kernel) (by decide) (by decide +kernel) (x_rb_of (tr_11_3 t235)) rfl rfl (x_wr (tn_11 t235) (x_wi (by decide) x_wn)) x_wn (by decide) rfl ?_
        refine x_aload (np := 1) (x := 0) (by decide +kernel) rfl (x_nc_le (tn_11 t235)) ?_
        have q236 : h160 (r233 + 11) 2 = h (r233 + 11) 2 := jK 0 f162 (rg_T11_2_0_1 t235) (by omega) (by omega) (by decide)
        have b237 := jB (e := 2) 0 hJ (rg_T11_2_0_1 t235) (by omega) (by omega)
        refine x_getC (np := 4) (x := 130) (f := 2) (q := (h (r233 + 11) 2)) (by decide +kernel) (by decide) (tg_11_130_2_0 t235) q236 (fun l238 => ?_)
        refine x_const (np := 7) (x := 9223373756989178256) (a := 2147484048) (by decide +kernel) (by decide) (by decide) ?_
        refine x_icmp (k := 2) (tg := 12) (np := 10) (by decide +kernel) (by decide) l238 (by decide) (fun q239 => ?_) (fun q240 => ?_)
        · have q239 : (h (r233 + 11) 2) < 2147484048 := q239
          refine x_aload (np := 13) (x := 0) (by decide +kernel) rfl (x_nc_le (tn_11 t235)) ?_
          have q241 : h160 (r233 + 11) 0 = (r233 + 12) := tf_11_0 j161 t235
          refine x_getR (np := 16) (x := 128) (f := 0) (q := (r233 + 12)) (by decide +kernel) (by decide) (tg_11_128_0_1 t235) q241 ?_
          refine x_aload (np := 17) (x := 0) (by decide +kernel) rfl (x_nc_le (tn_11 t235)) ?_
          have q242 : h160 (r233 + 11) 2 = h (r233 + 11) 2 := jK 0 f162 (rg_T11_2_0_1 t235) (by omega) (by omega) (by decide)
          refine x_getC (np := 20) (x := 130) (f := 2) (q := (h (r233 + 11) 2)) (by decide +kernel) (by decide) (tg_11_130_2_0 t235) q242 (fun l243 => ?_)
          refine x_iload (np := 21) (x := 1) (by decide +kernel) rfl (by decide) ?_
          obtain ⟨u244, q245⟩ : ∃ z, (h (r233 + 11) 2) = 2147483648 + z := ⟨(h (r233 + 11) 2) - 2147483648, by omega⟩
          refine x_ast (np := 22) (x := 0) (kd := 1) (n := 400) (i := u244) (by decide +kernel) (Or.inl rfl) (ta_12_400 t235) (by omega) (by omega) (by decide) (by decide) (fun z => absurd z (by decide)) ?_
          have j247 := jU (e := u244) (v := 2147483649) u244 j161 (rg_T12_0_1_400 t235) (by omega) (by omega) (by omega)
          have f249 := jF (e := u244) (v := 2147483649) u244 f165 (rg_T12_0_1_400 t235) (by omega) (by omega) (by decide)
          generalize e248 : x_up h160 (r233 + 12) u244 2147483649 = h246 at j247 f249 ⊢
          refine x_aload (np := 23) (x := 0) (by decide +kernel) rfl (x_nc_le (tn_11 t235)) ?_
          refine x_dup (np := 24) (x := 0) (by decide +kernel) (by have z := x_nc_le (k := (r233 + 11)) (tn_11 t235); unfold x_r; omega) ?_
          have q250 : h246 (r233 + 11) 2 = h160 (r233 + 11) 2 := by rw [← e248]; exact x_up_k tof_11_12
          have q251 : h160 (r233 + 11) 2 = h (r233 + 11) 2 := jK 0 f162 (rg_T11_2_0_1 t235) (by omega) (by omega) (by decide)
          refine x_getC (np := 27) (x := 130) (f := 2) (q := (h (r233 + 11) 2)) (by decide +kernel) (by decide) (tg_11_130_2_0 t235) (q250.trans q251) (fun l252 => ?_)
          refine x_const (np := 28) (x := 9223372043297226753) (a := 2147483649) (by decide +kernel) (by decide) (by decide) ?_
          refine x_iadd (np := 29) (x := 0) (v := (1 + (h (r233 + 11) 2))) (by decide +kernel) l238 (by decide) (by omega) (by omega) ?_
          refine x_putI (np := 32) (x := 130) (f := 2) (by decide +kernel) (tg_11_130_2_0 t235) (by omega) (Or.inl (by decide)) ?_
          have j254 := jU (e := 2) (v := (1 + (h (r233 + 11) 2))) 0 j247 (rg_T11_2_0_1 t235) (by omega) (by omega) (by omega)
          have f256 := jF (e := 2) (v := (1 + (h (r233 + 11) 2))) 0 f249 (rg_T11_2_0_1 t235) (by omega) (by omega) (by decide)
          generalize e255 : x_up h246 (r233 + 11) 2 (1 + (h (r233 + 11) 2)) = h253 at j254 f256 ⊢
          refine x_const (np := 33) (x := 9223372043297226753) (a := 2147483649) (by decide +kernel) (by decide) (by decide) ?_
          refine x_retI (np := 34) (x := 0) (by decide +kernel) (by decide) (Or.inr ⟨by decide +kernel, by omega, by omega⟩) ⟨_, rfl, (by decide), ?_⟩
          refine x_ifz (k := 0) (tg := 75) (np := 60) (by decide +kernel) (by decide) (by decide) (fun q257 => ?_) (fun q258 => ?_)
          · have q257 : 2147483649 = 2147483648 := q257
            exfalso; omega
          have q258 : ¬ (2147483649 = 2147483648) := q258
          refine x_aload (np := 61) (x := 0) (by decide +kernel) rfl (x_nc_le (by decide)) ?_
          have q259 : h253 62 1 = h246 62 1 := by rw [← e255]; exact x_up_k (Ne.symm (tne_11_62 t235))
          have q260 : h246 62 1 = h160 62 1 := by rw [← e248]; exact x_up_k (Ne.symm (tne_12_62 t235))
          have q261 : h160 62 1 = h 62 1 := f162 62 1 (by decide +kernel)
          refine x_getR (np := 64) (x := 193) (f := 1) (q := (r233 + 11)) (by decide +kernel) (by decide) (by decide +kernel) (((q259.trans q260).trans q261).trans q234) ?_
          refine x_iload (np := 65) (x := 1) (by decide +kernel) rfl (by decide) ?_
          refine x_nI (t := 6) (mj := 36) (n := 2) (rc := 3) (ml := 2) (nr := 0) (np := 68) (as := [x_r (r233 + 11), iv_c 2147485654]) (rest := []) (lo1 := [x_r (r233 + 11), iv_c 2147485654]) (by decide +kernel) (by decide) (by decide +kernel) (x_rb_of (tr_11_3 t235)) rfl rfl (x_wr (tn_11 t235) (x_wi (by decide) x_wn)) x_wn (by decide) rfl ?_
          refine x_aload (np := 1) (x := 0) (by decide +kernel) rfl (x_nc_le (tn_11 t235)) ?_
          have q262 : h253 (r233 + 11) 2 = (1 + (h (r233 + 11) 2)) := by rw [← e255]; exact x_up_at
          refine x_getC (np := 4) (x := 130) (f := 2) (q := (1 + (h (r233 + 11) 2))) (by decide +kernel) (by decide) (tg_11_130_2_0 t235) q262 (fun l263 => ?_)
          refine x_const (np := 7) (x := 9223373756989178256) (a := 2147484048) (by decide +kernel) (by decide) (by decide) ?_
          refine x_icmp (k := 2) (tg := 12) (np := 10) (by decide +kernel) (by decide) (by omega) (by decide) (fun q264 => ?_) (fun q265 => ?_)
          · have q264 : (1 + (h (r233 + 11) 2)) < 2147484048 := q264
            refine x_aload (np := 13) (x := 0) (by decide +kernel) rfl (x_nc_le (tn_11 t235)) ?_
            have q266 : h253 (r233 + 11) 0 = (r233 + 12) := tf_11_0 j254 t235
            refine x_getR (np := 16) (x := 128) (f := 0) (q := (r233 + 12)) (by decide +kernel) (by decide) (tg_11_128_0_1 t235) q266 ?_
            refine x_aload (np := 17) (x := 0) (by decide +kernel) rfl (x_nc_le (tn_11 t235)) ?_
            have q267 : h253 (r233 + 11) 2 = (1 + (h (r233 + 11) 2)) := by rw [← e255]; exact x_up_at
            refine x_getC (np := 20) (x := 130) (f := 2) (q := (1 + (h (r233 + 11) 2))) (by decide +kernel) (by decide) (tg_11_130_2_0 t235) q267 (fun l268 => ?_)
            refine x_iload (np := 21) (x := 1) (by decide +kernel) rfl (by decide) ?_
            refine x_ast (np := 22) (x := 0) (kd := 1) (n := 400) (i := (1 + u244)) (by decide +kernel) (Or.inl rfl) (ta_12_400 t235) (by omega) (by omega) (by decide) (by decide) (fun z => absurd z (by decide)) ?_
            have j270 := jU (e := (1 + u244)) (v := 2147485654) (1 + u244) j254 (rg_T12_0_1_400 t235) (by omega) (by omega) (by omega)
            have f272 := jF (e := (1 + u244)) (v := 2147485654) (1 + u244) f256 (rg_T12_0_1_400 t235) (by omega) (by omega) (by decide)
            generalize e271 : x_up h253 (r233 + 12) (1 + u244) 2147485654 = h269 at j270 f272 ⊢
            refine x_aload (np := 23) (x := 0) (by decide +kernel) rfl (x_nc_le (tn_11 t235)) ?_
            refine x_dup (np := 24) (x := 0) (by decide +kernel) (by have z := x_nc_le (k := (r233 + 11)) (tn_11 t235); unfold x_r; omega) ?_
            have q273 : h269 (r233 + 11) 2 = h253 (r233 + 11) 2 := by rw [← e271]; exact x_up_k tof_11_12
            have q274 : h253 (r233 + 11) 2 = (1 + (h (r233 + 11) 2)) := by rw [← e255]; exact x_up_at
            refine x_getC (np := 27) (x := 130) (f := 2) (q := (1 + (h (r233 + 11) 2))) (by decide +kernel) (by decide) (tg_11_130_2_0 t235) (q273.trans q274) (fun l275 => ?_)
            refine x_const (np := 28) (x := 9223372043297226753) (a := 2147483649) (by decide +kernel) (by decide) (by decide) ?_
            refine x_iadd (np := 29) (x := 0) (v := (2 + (h (r233 + 11) 2))) (by decide +kernel) (by omega) (by decide) (by omega) (by omega) ?_
            refine x_putI (np := 32) (x := 130) (f := 2) (by decide +kernel) (tg_11_130_2_0 t235) (by omega) (Or.inl (by decide)) ?_
            have j277 := jU (e := 2) (v := (2 + (h (r233 + 11) 2))) 0 j270 (rg_T11_2_0_1 t235) (by omega) (by omega) (by omega)
            have f279 := jF (e := 2) (v := (2 + (h (r233 + 11) 2))) 0 f272 (rg_T11_2_0_1 t235) (by omega) (by omega) (by decide)
            generalize e278 : x_up h269 (r233 + 11) 2 (2 + (h (r233 + 11) 2)) = h276 at j277 f279 ⊢
            refine x_const (np := 33) (x := 9223372043297226753) (a := 2147483649) (by decide +kernel) (by decide) (by decide) ?_
            refine x_retI (np := 34) (x := 0) (by decide +kernel) (by decide) (Or.inr ⟨by decide +kernel, by omega, by omega⟩) ⟨_, rfl, (by decide), ?_⟩
            refine x_ifz (k := 0) (tg := 75) (np := 71) (by decide +kernel) (by decide) (by decide) (fun q280 => ?_) (fun q281 => ?_)
            · have q280 : 2147483649 = 2147483648 := q280
              exfalso; omega
            have q281 : ¬ (2147483649 = 2147483648) := q281
            refine x_const (np := 72) (x := 9223372043297226753) (a := 2147483649) (by decide +kernel) (by decide) (by decide) ?_
            refine x_goto (np := 75) (x := 76) (by decide +kernel) ?_
            refine x_retI (np := 77) (x := 0) (by decide +kernel) (by decide) (Or.inr ⟨by decide +kernel, by omega, by omega⟩) ⟨_, rfl, (by decide), ?_⟩
            exact ⟨j277, f279, (by omega)⟩
          have q265 : ¬ ((1 + (h (r233 + 11) 2)) < 2147484048) := q265
          refine x_const (np := 11) (x := 9223372039002259456) (a := 2147483648) (by decide +kernel) (by decide) (by decide) ?_
          refine x_retI (np := 12) (x := 0) (by decide +kernel) (by decide) (Or.inr ⟨by decide +kernel, by omega, by omega⟩) ⟨_, rfl, (by decide), ?_⟩
          refine x_ifz (k := 0) (tg := 75) (np := 71) (by decide +kernel) (by decide) (by decide) (fun q282 => ?_) (fun q283 => ?_)
          · have q282 : 2147483648 = 2147483648 := q282
            refine x_const (np := 76) (x := 9223372039002259456) (a := 2147483648) (by decide +kernel) (by decide) (by decide) ?_
            refine x_retI (np := 77) (x := 0) (by decide +kernel) (by decide) (Or.inr ⟨by decide +kernel, by omega, by omega⟩) ⟨_, rfl, (by decide), ?_⟩
            exact ⟨j254, f256, (by omega)⟩
          have q283 : ¬ (2147483648 = 2147483648) := q283
          exfalso; omega
        have q240 : ¬ ((h (r233 + 11) 2) < 2147484048) := q240
        refine x_const (np := 11) (x := 9223372039002259456) (a := 2147483648) (by decide +kernel) (by decide) (by decide) ?_
        refine x_retI (np := 12) (x := 0) (by decide +kernel) (by decide) (Or.inr ⟨by decide +kernel, by omega, by omega⟩) ⟨_, rfl, (by decide), ?_⟩
        refine x_ifz (k := 0) (tg := 75) (np := 60) (by decide +kernel) (by decide) (by decide) (fun q284 => ?_) (fun q285 => ?_)
        · have q284 : 2147483648 = 2147483648 := q284
          refine x_const (np := 76) (x := 9223372039002259456) (a := 2147483648) (by decide +kernel) (by decide) (by decide) ?_
          refine x_retI (np := 77) (x := 0) (by decide +kernel) (by decide) (Or.inr ⟨by decide +kernel, by omega, by omega⟩) ⟨_, rfl, (by decide), ?_⟩
          exact ⟨j161, f165, (by omega)⟩
        have q285 : ¬ (2147483648 = 2147483648) := q285
        exfalso; omega
      have q167 : ¬ (2147483649 ≠ 2147483648) := q167
      exfalso; omega
    have q152 : ¬ (v146 ≠ 2147483648) := q152
    refine x_const (np := 9) (x := 9223372039002259456) (a := 2147483648) (by decide +kernel) (by decide) (by decide) ?_
    refine x_retI (np := 10) (x := 0) (by decide +kernel) (by decide) (Or.inr ⟨by decide +kernel, by omega, by omega⟩) ⟨_, rfl, (by decide), ?_⟩
    refine x_ifz (k := 1) (tg := 37) (np := 35) (by decide +kernel) (by decide) (by decide) (fun q286 => ?_) (fun q287 => ?_)
    · have q286 : 2147483648 ≠ 2147483648 := q286
      exfalso; omega
    have q287 : ¬ (2147483648 ≠ 2147483648) := q287
    refine x_const (np := 36) (x := 9223372039002259456) (a := 2147483648) (by decide +kernel) (by decide) (by decide) ?_
    refine x_retI (np := 37) (x := 0) (by decide +kernel) (by decide) (Or.inr ⟨by decide +kernel, by omega, by omega⟩) ⟨_, rfl, (by decide), ?_⟩
    exact ⟨hJ, hF, (by omega)⟩
  have q144 : ¬ (2147483648 = 2147483648) := q144
  exfalso; omega
set_option maxHeartbeats 0 in
/-- LentNames$CustomReader.reads(LLentNames$Custom;)Z -/
theorem c44_62_T11 {sc : Nat × Nat} {d ra1 : Nat} {h : xh} (hJ : J h) (ta1 : tw ra1) : X sc 44 (d + 30) (xI fun r h' => J h' ∧ Fr 16545 h h' ∧ (2147483648 ≤ r ∧ r ≤ 2147483649)) 0 0 0 [x_r 62, x_r (ra1 + 11), 147573952589676412928] [] h := by
  have hF := Fr.refl 16545 h
  refine x_aload (np := 1) (x := 0) (by decide +kernel) rfl (x_nc_le (by decide)) ?_
  refine x_aload (np := 2) (x := 1) (by decide +kernel) rfl (x_nc_le (tn_11 ta1)) ?_
  refine x_putR (np := 5) (x := 8385) (f := 1) (by decide +kernel) (by decide +kernel) (tn_11 ta1) (by decide) ?_
  have j2 := J_upC hJ ta1
  have f4 := Fr.up (k := 62) (i := 1) (v := (ra1 + 11)) hF (by decide +kernel)
  generalize e3 : x_up h 62 1 (ra1 + 11) = h1 at j2 f4 ⊢
  refine x_aload (np := 6) (x := 0) (by decide +kernel) rfl (x_nc_le (by decide)) ?_
  have q5 : h1 62 1 = (ra1 + 11) := by rw [← e3]; exact x_up_at
  refine x_getR (np := 9) (x := 193) (f := 1) (q := (ra1 + 11)) (by decide +kernel) (by decide) (by decide +kernel) q5 ?_
  refine x_nV (t := 6) (mj := 35) (n := 1) (rc := 3) (ml := 1) (nr := 0) (np := 12) (as := [x_r (ra1 + 11)]) (rest := []) (lo1 := [x_r (ra1 + 11)]) (by decide +kernel) (by decide) (by decide +kernel) (x_rb_of (tr_11_3 ta1)) rfl rfl (x_wr (tn_11 ta1) x_wn) x_wn (by decide) rfl ?_
  refine x_aload (np := 1) (x := 0) (by decide +kernel) rfl (x_nc_le (tn_11 ta1)) ?_
  refine x_const (np := 2) (x := 9223372039002259456) (a := 2147483648) (by decide +kernel) (by decide) (by decide) ?_
  refine x_putI (np := 5) (x := 130) (f := 2) (by decide +kernel) (tg_11_130_2_0 ta1) (by decide) (Or.inl (by decide)) ?_
  have j7 := jU (e := 2) (v := 2147483648) 0 j2 (rg_T11_2_0_1 ta1) (by omega) (by omega) (by omega)
  have f9 := jF (e := 2) (v := 2147483648) 0 f4 (rg_T11_2_0_1 ta1) (by omega) (by omega) (by decide)
  generalize e8 : x_up h1 (ra1 + 11) 2 2147483648 = h6 at j7 f9 ⊢
  refine x_aload (np := 6) (x := 0) (by decide +kernel) rfl (x_nc_le (tn_11 ta1)) ?_
  refine x_const (np := 7) (x := 9223372039002259456) (a := 2147483648) (by decide +kernel) (by decide) (by decide) ?_
  refine x_putI (np := 10) (x := 131) (f := 3) (by decide +kernel) (tg_11_131_3_0 ta1) (by decide) (Or.inl (by decide)) ?_
  have j11 := jU (e := 3) (v := 2147483648) 0 j7 (rg_T11_3_0_1 ta1) (by omega) (by omega) (by omega)
  have f13 := jF (e := 3) (v := 2147483648) 0 f9 (rg_T11_3_0_1 ta1) (by omega) (by omega) (by decide)
  generalize e12 : x_up h6 (ra1 + 11) 3 2147483648 = h10 at j11 f13 ⊢
  refine x_retV (np := 11) (x := 0) (by decide +kernel) (by decide +kernel) ⟨rfl, ?_⟩
  refine x_aload (np := 13) (x := 0) (by decide +kernel) rfl (x_nc_le (by decide)) ?_
  have q14 : h10 62 0 = 1 := by have z := jB (e := 0) 0 j11 rg_62_0_0_1 (by decide) (by decide); omega
  refine x_getR (np := 16) (x := 192) (f := 0) (q := 1) (by decide +kernel) (by decide) (by decide +kernel) q14 ?_
  refine x_nV (t := 6) (mj := 73) (n := 1) (rc := 8) (ml := 1) (nr := 0) (np := 19) (as := [x_r 1]) (rest := []) (lo1 := [x_r 1]) (by decide +kernel) (by decide) (by decide +kernel) (x_rb_of (by decide +kernel)) rfl rfl (x_wr (by decide) x_wn) x_wn (by decide) rfl ?_
  refine x_aload (np := 1) (x := 0) (by decide +kernel) rfl (x_nc_le (by decide)) ?_
  refine x_const (np := 2) (x := 9223372039002259456) (a := 2147483648) (by decide +kernel) (by decide) (by decide) ?_
  refine x_cV (t := 6) (mj := 80) (n := 2) (rc := 8) (ml := 2) (nr := 0) (np := 5) (as := [x_r 1, iv_c 2147483648]) (rest := []) (lo1 := [x_r 1, iv_c 2147483648]) (by decide +kernel) (by decide) (by decide +kernel) (x_rb_of (by decide +kernel)) rfl rfl (x_wr (by decide) (x_wi (by decide) x_wn)) x_wn (by decide) rfl (c80_1n j11  (by omega)) (fun h18 q17 => ?_)
  obtain ⟨j19, f20⟩ := q17
  have f23 := Fr.trans f13 f20 (by decide)
  refine x_retV (np := 6) (x := 0) (by decide +kernel) (by decide +kernel) ⟨rfl, ?_⟩
  refine x_aload (np := 20) (x := 0) (by decide +kernel) rfl (x_nc_le (by decide)) ?_
  have q24 : h18 62 0 = 1 := by have z := jB (e := 0) 0 j19 rg_62_0_0_1 (by decide) (by decide); omega
  refine x_getR (np := 23) (x := 192) (f := 0) (q := 1) (by decide +kernel) (by decide) (by decide +kernel) q24 ?_
  refine x_nI (t := 6) (mj := 74) (n := 1) (rc := 8) (ml := 1) (nr := 0) (np := 26) (as := [x_r 1]) (rest := []) (lo1 := [x_r 1]) (by decide +kernel) (by decide) (by decide +kernel) (x_rb_of (by decide +kernel)) rfl rfl (x_wr (by decide) x_wn) x_wn (by decide) rfl ?_
  refine x_aload (np := 1) (x := 0) (by decide +kernel) rfl (x_nc_le (by decide)) ?_
  have b25 := jB (e := 2) 0 j19 rg_1_2_0_1 (by omega) (by omega)
  refine x_getC (np := 4) (x := 450) (f := 2) (q := (h18 1 2)) (by decide +kernel) (by decide) (by decide +kernel) rfl (fun l26 => ?_)
  refine x_aload (np := 5) (x := 0) (by decide +kernel) rfl (x_nc_le (by decide)) ?_
  have q27 : h18 1 1 = h10 1 1 := jK 0 f20 rg_1_1_0_1 (by omega) (by omega) (by decide)
  have q28 : h10 1 1 = h6 1 1 := by rw [← e12]; exact x_up_k (Ne.symm (tne_11_1 ta1))
  have q29 : h6 1 1 = h1 1 1 := by rw [← e8]; exact x_up_k (Ne.symm (tne_11_1 ta1))
  have q30 : h1 1 1 = h 1 1 := by rw [← e3]; exact x_up_k (by decide)
  have b31 := jB (e := 1) 0 hJ rg_1_1_0_1 (by omega) (by omega)
  refine x_getC (np := 8) (x := 449) (f := 1) (q := (h 1 1)) (by decide +kernel) (by decide) (by decide +kernel) (((q27.trans q28).trans q29).trans q30) (fun l32 => ?_)
  refine x_icmp (k := 2) (tg := 15) (np := 11) (by decide +kernel) (by decide) l26 l32 (fun q33 => ?_) (fun q34 => ?_)
  · have q33 : (h18 1 2) < (h 1 1) := q33
    refine x_const (np := 16) (x := 9223372039002259456) (a := 2147483648) (by decide +kernel) (by decide) (by decide) ?_
    refine x_retI (np := 17) (x := 0) (by decide +kernel) (by decide) (Or.inr ⟨by decide +kernel, by omega, by omega⟩) ⟨_, rfl, (by decide), ?_⟩
    refine x_ifz (k := 0) (tg := 31) (np := 29) (by decide +kernel) (by decide) (by decide) (fun q35 => ?_) (fun q36 => ?_)
    · have q35 : 2147483648 = 2147483648 := q35
      refine x_const (np := 32) (x := 9223372043297226753) (a := 2147483649) (by decide +kernel) (by decide) (by decide) ?_
      refine x_istore (np := 33) (x := 2) (lo' := [x_r 62, x_r (ra1 + 11), iv_c 2147483649]) (by decide +kernel) (by decide) (Nat.le_of_ble_eq_true rfl) rfl ?_
      have p926 : ∀ (n : Nat) (v921 : Nat) (h923 : xh), 4294967296 - v921 < n → (2147483649 ≤ v921 ∧ v921 ≤ 2147483659) → J h923 → Fr 161 h18 h923 → X sc 44 (d + 30) (xI fun r h' => J h' ∧ Fr 16545 h h' ∧ (2147483648 ≤ r ∧ r ≤ 2147483649)) 0 0 33 [x_r 62, x_r (ra1 + 11), iv_c v921] [] h923 := by
        intro n
        induction n with
        | zero => intro v921 h923 q927; exact absurd q927 (Nat.not_lt_zero _)
        | succ n i928 =>
          intro v921 h923 q927 b922 j925 f924
          have f929 := Fr.trans f23 f924 (by decide)
          refine x_iload (np := 34) (x := 2) (by decide +kernel) rfl (by omega) ?_
          refine x_const (np := 36) (x := 9223372081951932426) (a := 2147483658) (by decide +kernel) (by decide) (by decide) ?_
          refine x_icmp (k := 4) (tg := 88) (np := 39) (by decide +kernel) (by decide) (by omega) (by decide) (fun q930 => ?_) (fun q931 => ?_)
          · have q930 : 2147483658 < v921 := q930
            refine x_const (np := 89) (x := 9223372039002259456) (a := 2147483648) (by decide +kernel) (by decide) (by decide) ?_
            refine x_retI (np := 90) (x := 0) (by decide +kernel) (by decide) (Or.inr ⟨by decide +kernel, by omega, by omega⟩) ⟨_, rfl, (by decide), ?_⟩
            exact ⟨j925, f929, (by omega)⟩
          have q931 : ¬ (2147483658 < v921) := q931
          refine x_aload (np := 40) (x := 0) (by decide +kernel) rfl (x_nc_le (by decide)) ?_
          refine x_cI (t := 6) (mj := 45) (n := 1) (rc := 4) (ml := 2) (nr := 0) (np := 43) (as := [x_r 62]) (rest := []) (lo1 := [x_r 62, 147573952589676412928]) (by decide +kernel) (by decide) (by decide +kernel) (x_rb_of (by decide +kernel)) rfl rfl (x_wr (by decide) x_wn) x_wn (by decide) rfl (c45_62 j925 ) (fun v932 h935 l933 q934 => ?_)
          obtain ⟨j936, f937, b938⟩ := q934
          have f939 := Fr.trans f929 f937 (by decide)
          have f940 := Fr.trans f924 f937 (by decide)
          refine x_ifz (k := 1) (tg := 48) (np := 46) (by decide +kernel) (by decide) l933 (fun q941 => ?_) (fun q942 => ?_)
          · have q941 : v932 ≠ 2147483648 := q941
            refine x_aload (np := 49) (x := 0) (by decide +kernel) rfl (x_nc_le (by decide)) ?_
            have q943 : h935 62 1 = h923 62 1 := f937 62 1 (by decide +kernel)
            have q944 : h923 62 1 = h18 62 1 := f924 62 1 (by decide +kernel)
            have q945 : h18 62 1 = h10 62 1 := f20 62 1 (by decide +kernel)
            have q946 : h10 62 1 = h6 62 1 := by rw [← e12]; exact x_up_k (Ne.symm (tne_11_62 ta1))
            have q947 : h6 62 1 = h1 62 1 := by rw [← e8]; exact x_up_k (Ne.symm (tne_11_62 ta1))
            have q948 : h1 62 1 = (ra1 + 11) := by rw [← e3]; exact x_up_at
            refine x_getR (np := 52) (x := 193) (f := 1) (q := (ra1 + 11)) (by decide +kernel) (by decide) (by decide +kernel) (((((q943.trans q944).trans q945).trans q946).trans q947).trans q948) ?_
            refine x_iload (np := 53) (x := 2) (by decide +kernel) rfl (by omega) ?_
            refine x_putI (np := 56) (x := 131) (f := 3) (by decide +kernel) (tg_11_131_3_0 ta1) (by omega) (Or.inl (by decide)) ?_
            have j950 := jU (e := 3) (v := v921) 0 j936 (rg_T11_3_0_1 ta1) (by omega) (by omega) (by omega)
            have f952 := jF (e := 3) (v := v921) 0 f939 (rg_T11_3_0_1 ta1) (by omega) (by omega) (by decide)
            have f953 := jF (e := 3) (v := v921) 0 f940 (rg_T11_3_0_1 ta1) (by omega) (by omega) (by decide)
            generalize e951 : x_up h935 (ra1 + 11) 3 v921 = h949 at j950 f952 f953 ⊢
            refine x_aload (np := 57) (x := 0) (by decide +kernel) rfl (x_nc_le (by decide)) ?_
            have q954 : h949 62 0 = 1 := by have z := jB (e := 0) 0 j950 rg_62_0_0_1 (by decide) (by decide); omega
            refine x_getR (np := 60) (x := 192) (f := 0) (q := 1) (by decide +kernel) (by decide) (by decide +kernel) q954 ?_
            refine x_nI (t := 6) (mj := 74) (n := 1) (rc := 8) (ml := 1) (nr := 0) (np := 63) (as := [x_r 1]) (rest := []) (lo1 := [x_r 1]) (by decide +kernel) (by decide) (by decide +kernel) (x_rb_of (by decide +kernel)) rfl rfl (x_wr (by decide) x_wn) x_wn (by decide) rfl ?_
            refine x_aload (np := 1) (x := 0) (by decide +kernel) rfl (x_nc_le (by decide)) ?_
            have q955 : h949 1 2 = h935 1 2 := by rw [← e951]; exact x_up_k (Ne.symm (tne_11_1 ta1))
            have b956 := jB (e := 2) 0 j936 rg_1_2_0_1 (by omega) (by omega)
            refine x_getC (np := 4) (x := 450) (f := 2) (q := (h935 1 2)) (by decide +kernel) (by decide) (by decide +kernel) q955 (fun l957 => ?_)
            refine x_aload (np := 5) (x := 0) (by decide +kernel) rfl (x_nc_le (by decide)) ?_
            have q958 : h949 1 1 = h935 1 1 := by rw [← e951]; exact x_up_k (Ne.symm (tne_11_1 ta1))
            have q959 : h935 1 1 = h923 1 1 := jK 0 f937 rg_1_1_0_1 (by omega) (by omega) (by decide)
            have q960 : h923 1 1 = h18 1 1 := jK 0 f924 rg_1_1_0_1 (by omega) (by omega) (by decide)
            have q961 : h18 1 1 = h10 1 1 := jK 0 f20 rg_1_1_0_1 (by omega) (by omega) (by decide)
            have q962 : h10 1 1 = h6 1 1 := by rw [← e12]; exact x_up_k (Ne.symm (tne_11_1 ta1))
            have q963 : h6 1 1 = h1 1 1 := by rw [← e8]; exact x_up_k (Ne.symm (tne_11_1 ta1))
            have q964 : h1 1 1 = h 1 1 := by rw [← e3]; exact x_up_k (by decide)
            refine x_getC (np := 8) (x := 449) (f := 1) (q := (h 1 1)) (by decide +kernel) (by decide) (by decide +kernel) ((((((q958.trans q959).trans q960).trans q961).trans q962).trans q963).trans q964) (fun l965 => ?_)
            refine x_icmp (k := 2) (tg := 15) (np := 11) (by decide +kernel) (by decide) l957 l32 (fun q966 => ?_) (fun q967 => ?_)
            · have q966 : (h935 1 2) < (h 1 1) := q966
              refine x_const (np := 16) (x := 9223372039002259456) (a := 2147483648) (by decide +kernel) (by decide) (by decide) ?_
              refine x_retI (np := 17) (x := 0) (by decide +kernel) (by decide) (Or.inr ⟨by decide +kernel, by omega, by omega⟩) ⟨_, rfl, (by decide), ?_⟩
              refine x_ifz (k := 0) (tg := 68) (np := 66) (by decide +kernel) (by decide) (by decide) (fun q968 => ?_) (fun q969 => ?_)
              · have q968 : 2147483648 = 2147483648 := q968
                refine x_aload (np := 69) (x := 0) (by decide +kernel) rfl (x_nc_le (by decide)) ?_
                have q970 : h949 62 0 = 1 := by have z := jB (e := 0) 0 j950 rg_62_0_0_1 (by decide) (by decide); omega
                refine x_getR (np := 72) (x := 192) (f := 0) (q := 1) (by decide +kernel) (by decide) (by decide +kernel) q970 ?_
                refine x_const (np := 74) (x := 9223372292405329979) (a := 2147483707) (by decide +kernel) (by decide) (by decide) ?_
                refine x_nI (t := 6) (mj := 76) (n := 2) (rc := 8) (ml := 2) (nr := 0) (np := 77) (as := [x_r 1, iv_c 2147483707]) (rest := []) (lo1 := [x_r 1, iv_c 2147483707]) (by decide +kernel) (by decide) (by decide +kernel) (x_rb_of (by decide +kernel)) rfl rfl (x_wr (by decide) (x_wi (by decide) x_wn)) x_wn (by decide) rfl ?_
                refine x_aload (np := 1) (x := 0) (by decide +kernel) rfl (x_nc_le (by decide)) ?_
                refine x_iload (np := 2) (x := 1) (by decide +kernel) rfl (by decide) ?_
                refine x_nI (t := 6) (mj := 75) (n := 2) (rc := 8) (ml := 2) (nr := 0) (np := 5) (as := [x_r 1, iv_c 2147483707]) (rest := []) (lo1 := [x_r 1, iv_c 2147483707]) (by decide +kernel) (by decide) (by decide +kernel) (x_rb_of (by decide +kernel)) rfl rfl (x_wr (by decide) (x_wi (by decide) x_wn)) x_wn (by decide) rfl ?_
                refine x_aload (np := 1) (x := 0) (by decide +kernel) rfl (x_nc_le (by decide)) ?_
                refine x_aload (np := 2) (x := 0) (by decide +kernel) rfl (x_nc_le (by decide)) ?_
                have q971 : h949 1 2 = h935 1 2 := by rw [← e951]; exact x_up_k (Ne.symm (tne_11_1 ta1))
                refine x_getC (np := 5) (x := 450) (f := 2) (q := (h935 1 2)) (by decide +kernel) (by decide) (by decide +kernel) q971 (fun l972 => ?_)
                refine x_nI (t := 6) (mj := 81) (n := 2) (rc := 8) (ml := 2) (nr := 0) (np := 8) (as := [x_r 1, iv_c (h935 1 2)]) (rest := []) (lo1 := [x_r 1, iv_c (h935 1 2)]) (by decide +kernel) (by decide) (by decide +kernel) (x_rb_of (by decide +kernel)) rfl rfl (x_wr (by decide) (x_wi l957 x_wn)) x_wn (by decide) rfl ?_
                refine x_iload (np := 1) (x := 1) (by decide +kernel) rfl l957 ?_
                refine x_aload (np := 2) (x := 0) (by decide +kernel) rfl (x_nc_le (by decide)) ?_
                have q973 : h949 1 1 = h935 1 1 := by rw [← e951]; exact x_up_k (Ne.symm (tne_11_1 ta1))
                have q974 : h935 1 1 = h923 1 1 := jK 0 f937 rg_1_1_0_1 (by omega) (by omega) (by decide)
                have q975 : h923 1 1 = h18 1 1 := jK 0 f924 rg_1_1_0_1 (by omega) (by omega) (by decide)
                have q976 : h18 1 1 = h10 1 1 := jK 0 f20 rg_1_1_0_1 (by omega) (by omega) (by decide)
                have q977 : h10 1 1 = h6 1 1 := by rw [← e12]; exact x_up_k (Ne.symm (tne_11_1 ta1))
                have q978 : h6 1 1 = h1 1 1 := by rw [← e8]; exact x_up_k (Ne.symm (tne_11_1 ta1))
                have q979 : h1 1 1 = h 1 1 := by rw [← e3]; exact x_up_k (by decide)
                refine x_getC (np := 5) (x := 449) (f := 1) (q := (h 1 1)) (by decide +kernel) (by decide) (by decide +kernel) ((((((q973.trans q974).trans q975).trans q976).trans q977).trans q978).trans q979) (fun l980 => ?_)
                refine x_icmp (k := 3) (tg := 17) (np := 8) (by decide +kernel) (by decide) l957 l32 (fun q981 => ?_) (fun q982 => ?_)
                · have q981 : (h 1 1) ≤ (h935 1 2) := q981
                  refine x_const (np := 18) (x := 9223372034707292159) (a := 2147483647) (by decide +kernel) (by decide) (by decide) ?_
                  refine x_retI (np := 19) (x := 0) (by decide +kernel) (by decide) (Or.inl (by decide +kernel)) ⟨_, rfl, (by decide), ?_⟩
                  refine x_iload (np := 9) (x := 1) (by decide +kernel) rfl (by decide) ?_
                  refine x_icmp (k := 1) (tg := 16) (np := 12) (by decide +kernel) (by decide) (by decide) (by decide) (fun q983 => ?_) (fun q984 => ?_)
                  · have q983 : 2147483647 ≠ 2147483707 := q983
                    refine x_const (np := 17) (x := 9223372039002259456) (a := 2147483648) (by decide +kernel) (by decide) (by decide) ?_
                    refine x_retI (np := 18) (x := 0) (by decide +kernel) (by decide) (Or.inr ⟨by decide +kernel, by omega, by omega⟩) ⟨_, rfl, (by decide), ?_⟩
                    refine x_ifz (k := 1) (tg := 10) (np := 8) (by decide +kernel) (by decide) (by decide) (fun q985 => ?_) (fun q986 => ?_)
                    · have q985 : 2147483648 ≠ 2147483648 := q985
                      exfalso; omega
                    have q986 : ¬ (2147483648 ≠ 2147483648) := q986
                    refine x_const (np := 9) (x := 9223372039002259456) (a := 2147483648) (by decide +kernel) (by decide) (by decide) ?_
                    refine x_retI (np := 10) (x := 0) (by decide +kernel) (by decide) (Or.inr ⟨by decide +kernel, by omega, by omega⟩) ⟨_, rfl, (by decide), ?_⟩
                    refine x_ifz (k := 1) (tg := 82) (np := 80) (by decide +kernel) (by decide) (by decide) (fun q987 => ?_) (fun q988 => ?_)
                    · have q987 : 2147483648 ≠ 2147483648 := q987
                      exfalso; omega
                    have q988 : ¬ (2147483648 ≠ 2147483648) := q988
                    refine x_const (np := 81) (x := 9223372039002259456) (a := 2147483648) (by decide +kernel) (by decide) (by decide) ?_
                    refine x_retI (np := 82) (x := 0) (by decide +kernel) (by decide) (Or.inr ⟨by decide +kernel, by omega, by omega⟩) ⟨_, rfl, (by decide), ?_⟩
                    exact ⟨j950, f952, (by omega)⟩
                  have q984 : ¬ (2147483647 ≠ 2147483707) := q984
                  exfalso; omega
                have q982 : ¬ ((h 1 1) ≤ (h935 1 2)) := q982
                refine x_aload (np := 9) (x := 0) (by decide +kernel) rfl (x_nc_le (by decide)) ?_
                have q989 : h949 1 0 = 2 := by have z := jB (e := 0) 0 j950 rg_1_0_0_1 (by decide) (by decide); omega
                refine x_getR (np := 12) (x := 448) (f := 0) (q := 2) (by decide +kernel) (by decide) (by decide +kernel) q989 ?_
                refine x_iload (np := 13) (x := 1) (by decide +kernel) rfl l957 ?_
                obtain ⟨u990, q991⟩ : ∃ z, (h935 1 2) = 2147483648 + z := ⟨(h935 1 2) - 2147483648, by omega⟩
                have q992 : h949 2 u990 = h935 2 u990 := by rw [← e951]; exact x_up_k (Ne.symm (tne_11_2 ta1))
                have q993 : h935 2 u990 = h923 2 u990 := jK u990 f937 rg_2_0_1_400 (by omega) (by omega) (by decide)
                have q994 : h923 2 u990 = h18 2 u990 := jK u990 f924 rg_2_0_1_400 (by omega) (by omega) (by decide)
                have q995 : h18 2 u990 = h10 2 u990 := jK u990 f20 rg_2_0_1_400 (by omega) (by omega) (by decide)
                have q996 : h10 2 u990 = h6 2 u990 := by rw [← e12]; exact x_up_k (Ne.symm (tne_11_2 ta1))
                have q997 : h6 2 u990 = h1 2 u990 := by rw [← e8]; exact x_up_k (Ne.symm (tne_11_2 ta1))
                have q998 : h1 2 u990 = h 2 u990 := by rw [← e3]; exact x_up_k (by decide)
                refine x_aldC (np := 14) (x := 0) (n := 400) (i := u990) (q := (h 2 u990)) (by decide +kernel) (by decide +kernel) (by omega) (by omega) (by decide) ((((((q992.trans q993).trans q994).trans q995).trans q996).trans q997).trans q998) (fun l999 => ?_)
                refine x_goto (np := 17) (x := 18) (by decide +kernel) ?_
                refine x_retI (np := 19) (x := 0) (by decide +kernel) l999 (Or.inl (by decide +kernel)) ⟨_, rfl, l999, ?_⟩
                refine x_iload (np := 9) (x := 1) (by decide +kernel) rfl (by decide) ?_
                refine x_icmp (k := 1) (tg := 16) (np := 12) (by decide +kernel) (by decide) l999 (by decide) (fun q1000 => ?_) (fun q1001 => ?_)
                · have q1000 : (h 2 u990) ≠ 2147483707 := q1000
                  refine x_const (np := 17) (x := 9223372039002259456) (a := 2147483648) (by decide +kernel) (by decide) (by decide) ?_
                  refine x_retI (np := 18) (x := 0) (by decide +kernel) (by decide) (Or.inr ⟨by decide +kernel, by omega, by omega⟩) ⟨_, rfl, (by decide), ?_⟩
                  refine x_ifz (k := 1) (tg := 10) (np := 8) (by decide +kernel) (by decide) (by decide) (fun q1002 => ?_) (fun q1003 => ?_)
                  · have q1002 : 2147483648 ≠ 2147483648 := q1002
                    exfalso; omega
                  have q1003 : ¬ (2147483648 ≠ 2147483648) := q1003
                  refine x_const (np := 9) (x := 9223372039002259456) (a := 2147483648) (by decide +kernel) (by decide) (by decide) ?_
                  refine x_retI (np := 10) (x := 0) (by decide +kernel) (by decide) (Or.inr ⟨by decide +kernel, by omega, by omega⟩) ⟨_, rfl, (by decide), ?_⟩
                  refine x_ifz (k := 1) (tg := 82) (np := 80) (by decide +kernel) (by decide) (by decide) (fun q1004 => ?_) (fun q1005 => ?_)
                  · have q1004 : 2147483648 ≠ 2147483648 := q1004
                    exfalso; omega
                  have q1005 : ¬ (2147483648 ≠ 2147483648) := q1005
                  refine x_const (np := 81) (x := 9223372039002259456) (a := 2147483648) (by decide +kernel) (by decide) (by decide) ?_
                  refine x_retI (np := 82) (x := 0) (by decide +kernel) (by decide) (Or.inr ⟨by decide +kernel, by omega, by omega⟩) ⟨_, rfl, (by decide), ?_⟩
                  exact ⟨j950, f952, (by omega)⟩
                have q1001 : ¬ ((h 2 u990) ≠ 2147483707) := q1001
                refine x_const (np := 13) (x := 9223372043297226753) (a := 2147483649) (by decide +kernel) (by decide) (by decide) ?_
                refine x_goto (np := 16) (x := 17) (by decide +kernel) ?_
                refine x_retI (np := 18) (x := 0) (by decide +kernel) (by decide) (Or.inr ⟨by decide +kernel, by omega, by omega⟩) ⟨_, rfl, (by decide), ?_⟩
                refine x_ifz (k := 1) (tg := 10) (np := 8) (by decide +kernel) (by decide) (by decide) (fun q1006 => ?_) (fun q1007 => ?_)
                · have q1006 : 2147483649 ≠ 2147483648 := q1006
                  refine x_aload (np := 11) (x := 0) (by decide +kernel) rfl (x_nc_le (by decide)) ?_
                  refine x_aload (np := 12) (x := 0) (by decide +kernel) rfl (x_nc_le (by decide)) ?_
                  have q1008 : h949 1 2 = h935 1 2 := by rw [← e951]; exact x_up_k (Ne.symm (tne_11_1 ta1))
                  refine x_getC (np := 15) (x := 450) (f := 2) (q := (h935 1 2)) (by decide +kernel) (by decide) (by decide +kernel) q1008 (fun l1009 => ?_)
                  refine x_const (np := 16) (x := 9223372043297226753) (a := 2147483649) (by decide +kernel) (by decide) (by decide) ?_
                  refine x_iadd (np := 17) (x := 0) (v := (1 + (h935 1 2))) (by decide +kernel) l957 (by decide) (by omega) (by omega) ?_
                  refine x_cV (t := 6) (mj := 80) (n := 2) (rc := 8) (ml := 2) (nr := 0) (np := 20) (as := [x_r 1, iv_c (1 + (h935 1 2))]) (rest := []) (lo1 := [x_r 1, iv_c (1 + (h935 1 2))]) (by decide +kernel) (by decide) (by decide +kernel) (x_rb_of (by decide +kernel)) rfl rfl (x_wr (by decide) (x_wi (by omega) x_wn)) x_wn (by decide) rfl (c80_1n j950  (by omega)) (fun h1013 q1012 => ?_)
                  obtain ⟨j1014, f1015⟩ := q1012
                  have f1018 := Fr.trans f952 f1015 (by decide)
                  have f1019 := Fr.trans f953 f1015 (by decide)
                  refine x_const (np := 21) (x := 9223372043297226753) (a := 2147483649) (by decide +kernel) (by decide) (by decide) ?_
                  refine x_retI (np := 22) (x := 0) (by decide +kernel) (by decide) (Or.inr ⟨by decide +kernel, by omega, by omega⟩) ⟨_, rfl, (by decide), ?_⟩
                  refine x_ifz (k := 1) (tg := 82) (np := 80) (by decide +kernel) (by decide) (by decide) (fun q1020 => ?_) (fun q1021 => ?_)
                  · have q1020 : 2147483649 ≠ 2147483648 := q1020
                    refine x_iinc (np := 85) (i := 2) (j := 2147483649) (v := (1 + v921)) (lo' := [x_r 62, x_r (ra1 + 11), iv_c (1 + v921)]) (by decide +kernel) (by decide) (by decide) rfl (by omega) (by omega) (by omega) rfl ?_
                    refine x_goto (np := 88) (x := 33) (by decide +kernel) ?_
                    exact i928 (1 + v921) h1013 (by omega) (by omega) j1014 f1019
                  have q1021 : ¬ (2147483649 ≠ 2147483648) := q1021
                  exfalso; omega
                have q1007 : ¬ (2147483649 ≠ 2147483648) := q1007
                exfalso; omega
              have q969 : ¬ (2147483648 = 2147483648) := q969
              exfalso; omega
            have q967 : ¬ ((h935 1 2) < (h 1 1)) := q967
            refine x_const (np := 12) (x := 9223372043297226753) (a := 2147483649) (by decide +kernel) (by decide) (by decide) ?_
            refine x_goto (np := 15) (x := 16) (by decide +kernel) ?_
            refine x_retI (np := 17) (x := 0) (by decide +kernel) (by decide) (Or.inr ⟨by decide +kernel, by omega, by omega⟩) ⟨_, rfl, (by decide), ?_⟩
            refine x_ifz (k := 0) (tg := 68) (np := 66) (by decide +kernel) (by decide) (by decide) (fun q1022 => ?_) (fun q1023 => ?_)
            · have q1022 : 2147483649 = 2147483648 := q1022
              exfalso; omega
            have q1023 : ¬ (2147483649 = 2147483648) := q1023
            refine x_const (np := 67) (x := 9223372043297226753) (a := 2147483649) (by decide +kernel) (by decide) (by decide) ?_
            refine x_retI (np := 68) (x := 0) (by decide +kernel) (by decide) (Or.inr ⟨by decide +kernel, by omega, by omega⟩) ⟨_, rfl, (by decide), ?_⟩
            exact ⟨j950, f952, (by omega)⟩
          have q942 : ¬ (v932 ≠ 2147483648) := q942
          refine x_const (np := 47) (x := 9223372039002259456) (a := 2147483648) (by decide +kernel) (by decide) (by decide) ?_
          refine x_retI (np := 48) (x := 0) (by decide +kernel) (by decide) (Or.inr ⟨by decide +kernel, by omega, by omega⟩) ⟨_, rfl, (by decide), ?_⟩
          exact ⟨j936, f939, (by omega)⟩
      exact p926 _ 2147483649 h18 (Nat.lt_succ_self _) (by omega) j19 (Fr.refl _ _)
    have q36 : ¬ (2147483648 = 2147483648) := q36
    exfalso; omega
  have q34 : ¬ ((h18 1 2) < (h 1 1)) := q34
  refine x_const (np := 12) (x := 9223372043297226753) (a := 2147483649) (by decide +kernel) (by decide) (by decide) ?_
  refine x_goto (np := 15) (x := 16) (by decide +kernel) ?_
  refine x_retI (np := 17) (x := 0) (by decide +kernel) (by decide) (Or.inr ⟨by decide +kernel, by omega, by omega⟩) ⟨_, rfl, (by decide), ?_⟩
  refine x_ifz (k := 0) (tg := 31) (np := 29) (by decide +kernel) (by decide) (by decide) (fun q1024 => ?_) (fun q1025 => ?_)
  · have q1024 : 2147483649 = 2147483648 := q1024
    exfalso; omega
  have q1025 : ¬ (2147483649 = 2147483648) := q1025
  refine x_const (np := 30) (x := 9223372043297226753) (a := 2147483649) (by decide +kernel) (by decide) (by decide) ?_
  refine x_retI (np := 31) (x := 0) (by decide +kernel) (by decide) (Or.inr ⟨by decide +kernel, by omega, by omega⟩) ⟨_, rfl, (by decide), ?_⟩
  exact ⟨j19, f23, (by omega)⟩
set_option maxHeartbeats 0 in
/-- LentNames.custom()I -/
theorem c108_0 {sc : Nat × Nat} {d  : Nat} {h : xh} (hJ : J h) : X sc 108 (d + 31) (xT (fun r h' => J h' ∧ Fr 140737488477883 h h' ∧ (0 ≤ r ∧ r ≤ 4294967295) ∧ (h' 1 1 = 2147483648)) (fun E h' => J h' ∧ Fr 140737488477883 h h' ∧ (E = 0) ∧ (h' 1 1 = 2147483648))) 0 0 0 [x_r 0, 147573952589676412928] [] h := by
  have hF := Fr.refl 140737488477883 h
  refine x_aload (np := 1) (x := 0) (by decide +kernel) rfl (x_nc_le (by decide)) ?_
  have t1 : tw (h 0 9) := hJ.2.2.1
  refine x_getR (np := 4) (x := 649) (f := 9) (q := (h 0 9)) (by decide +kernel) (by decide) (by decide +kernel) rfl ?_
  refine x_aload (np := 5) (x := 0) (by decide +kernel) rfl (x_nc_le (by decide)) ?_
  have t2 : tw (h 0 8) := hJ.2.1
  refine x_getR (np := 8) (x := 648) (f := 8) (q := (h 0 8)) (by decide +kernel) (by decide) (by decide +kernel) rfl ?_
  refine x_cV (t := 6) (mj := 84) (n := 2) (rc := 9) (ml := 2) (nr := 0) (np := 11) (as := [x_r (h 0 9), x_r (h 0 8)]) (rest := []) (lo1 := [x_r (h 0 9), x_r (h 0 8)]) (by decide +kernel) (by decide) (by decide +kernel) (x_rb_of (tr_0_9 t1)) rfl rfl (x_wr (tn_0 t1) (x_wr (tn_0 t2) x_wn)) x_wn (by decide) rfl (c84_T0_T0 hJ t1 t2) (fun h6 q5 => ?_)
  obtain ⟨j7, f8⟩ := q5
  have f11 := Fr.trans hF f8 (by decide)
  refine x_aload (np := 12) (x := 0) (by decide +kernel) rfl (x_nc_le (by decide)) ?_
  have q12 : h6 0 4 = 62 := by have z := jB (e := 4) 0 j7 rg_0_4_0_1 (by decide) (by decide); omega
  refine x_getR (np := 15) (x := 644) (f := 4) (q := 62) (by decide +kernel) (by decide) (by decide +kernel) q12 ?_
  refine x_aload (np := 16) (x := 0) (by decide +kernel) rfl (x_nc_le (by decide)) ?_
  have q13 : h6 0 9 = h 0 9 := f8 0 9 (by decide +kernel)
  refine x_getR (np := 19) (x := 649) (f := 9) (q := (h 0 9)) (by decide +kernel) (by decide) (by decide +kernel) q13 ?_
  have q14 : h6 (h 0 9) 6 = ((h 0 9) + 11) := tf_0_6 j7 t1
  refine x_getR (np := 22) (x := 518) (f := 6) (q := ((h 0 9) + 11)) (by decide +kernel) (by decide) (tg_0_518_6_1 t1) q14 ?_
  refine x_cI (t := 6) (mj := 44) (n := 2) (rc := 4) (ml := 3) (nr := 0) (np := 25) (as := [x_r 62, x_r ((h 0 9) + 11)]) (rest := []) (lo1 := [x_r 62, x_r ((h 0 9) + 11), 147573952589676412928]) (by decide +kernel) (by decide) (by decide +kernel) (x_rb_of (by decide +kernel)) rfl rfl (x_wr (by decide) (x_wr (tn_11 t1) x_wn)) x_wn (by decide) rfl (c44_62_T11 j7  t1) (fun v15 h18 l16 q17 => ?_)
  obtain ⟨j19, f20, b21⟩ := q17
  have f22 := Fr.trans f11 f20 (by decide)
  refine x_istore (np := 26) (x := 1) (lo' := [x_r 0, iv_c v15]) (by decide +kernel) l16 (Nat.le_of_ble_eq_true rfl) rfl ?_
  refine x_aload (np := 27) (x := 0) (by decide +kernel) rfl (x_nc_le (by decide)) ?_
  refine x_iload (np := 28) (x := 1) (by decide +kernel) rfl l16 ?_
  refine x_nV (t := 6) (mj := 141) (n := 2) (rc := 11) (ml := 2) (nr := 0) (np := 31) (as := [x_r 0, iv_c v15]) (rest := []) (lo1 := [x_r 0, iv_c v15]) (by decide +kernel) (by decide) (by decide +kernel) (x_rb_of (by decide +kernel)) rfl rfl (x_wr (by decide) (x_wi l16 x_wn)) x_wn (by decide) rfl ?_
  refine x_aload (np := 1) (x := 0) (by decide +kernel) rfl (x_nc_le (by decide)) ?_
  refine x_iload (np := 2) (x := 1) (by decide +kernel) rfl l16 ?_
  refine x_ifz (k := 0) (tg := 9) (np := 5) (by decide +kernel) (by decide) l16 (fun q23 => ?_) (fun q24 => ?_)
  · have q23 : v15 = 2147483648 := q23
    refine x_aload (np := 10) (x := 0) (by decide +kernel) rfl (x_nc_le (by decide)) ?_
    have q25 : h18 0 0 = 1 := by have z := jB (e := 0) 0 j19 rg_0_0_0_1 (by decide) (by decide); omega
    refine x_getR (np := 13) (x := 640) (f := 0) (q := 1) (by decide +kernel) (by decide) (by decide +kernel) q25 ?_
    have b26 := jB (e := 2) 0 j19 rg_1_2_0_1 (by omega) (by omega)
    refine x_getC (np := 16) (x := 450) (f := 2) (q := (h18 1 2)) (by decide +kernel) (by decide) (by decide +kernel) rfl (fun l27 => ?_)
    refine x_putI (np := 19) (x := 651) (f := 11) (by decide +kernel) (by decide +kernel) l27 (Or.inl (by decide)) ?_
    have j29 := jU (e := 11) (v := (h18 1 2)) 0 j19 rg_0_11_0_1 (by omega) (by omega) (by omega)
    have f31 := jF (e := 11) (v := (h18 1 2)) 0 f22 rg_0_11_0_1 (by omega) (by omega) (by decide)
    generalize e30 : x_up h18 0 11 (h18 1 2) = h28 at j29 f31 ⊢
    refine x_aload (np := 20) (x := 0) (by decide +kernel) rfl (x_nc_le (by decide)) ?_
    have q32 : h28 0 0 = 1 := by have z := jB (e := 0) 0 j29 rg_0_0_0_1 (by decide) (by decide); omega
    refine x_getR (np := 23) (x := 640) (f := 0) (q := 1) (by decide +kernel) (by decide) (by decide +kernel) q32 ?_
    refine x_const (np := 24) (x := 9223372039002259456) (a := 2147483648) (by decide +kernel) (by decide) (by decide) ?_
    refine x_putI (np := 27) (x := 449) (f := 1) (by decide +kernel) (by decide +kernel) (by decide) (Or.inl (by decide)) ?_
    have j34 := jU (e := 1) (v := 2147483648) 0 j29 rg_1_1_0_1 (by omega) (by omega) (by omega)
    have f36 := jF (e := 1) (v := 2147483648) 0 f31 rg_1_1_0_1 (by omega) (by omega) (by decide)
    generalize e35 : x_up h28 1 1 2147483648 = h33 at j34 f36 ⊢
    refine x_retV (np := 28) (x := 0) (by decide +kernel) (by decide +kernel) ⟨rfl, ?_⟩
    refine x_iload (np := 32) (x := 1) (by decide +kernel) rfl l16 ?_
    refine x_ifz (k := 1) (tg := 45) (np := 35) (by decide +kernel) (by decide) l16 (fun q37 => ?_) (fun q38 => ?_)
    · have q37 : v15 ≠ 2147483648 := q37
      exfalso; omega
    have q38 : ¬ (v15 ≠ 2147483648) := q38
    have q39 : h33 1 1 = 2147483648 := by rw [← e35]; exact x_up_at
    refine x_thr (np := 38) (x := 0) (by decide +kernel) (by decide +kernel) (Nat.le_trans x_wn (by decide)) (Or.inr ⟨_, rfl, ?_⟩)
    exact ⟨j34, f36, by decide, (by omega)⟩
  have q24 : ¬ (v15 = 2147483648) := q24
  refine x_const (np := 6) (x := 9223372034707292159) (a := 2147483647) (by decide +kernel) (by decide) (by decide) ?_
  refine x_goto (np := 9) (x := 16) (by decide +kernel) ?_
  refine x_putI (np := 19) (x := 651) (f := 11) (by decide +kernel) (by decide +kernel) (by decide) (Or.inl (by decide)) ?_
  have j41 := jU (e := 11) (v := 2147483647) 0 j19 rg_0_11_0_1 (by omega) (by omega) (by omega)
  have f43 := jF (e := 11) (v := 2147483647) 0 f22 rg_0_11_0_1 (by omega) (by omega) (by decide)
  generalize e42 : x_up h18 0 11 2147483647 = h40 at j41 f43 ⊢
  refine x_aload (np := 20) (x := 0) (by decide +kernel) rfl (x_nc_le (by decide)) ?_
  have q44 : h40 0 0 = 1 := by have z := jB (e := 0) 0 j41 rg_0_0_0_1 (by decide) (by decide); omega
  refine x_getR (np := 23) (x := 640) (f := 0) (q := 1) (by decide +kernel) (by decide) (by decide +kernel) q44 ?_
  refine x_const (np := 24) (x := 9223372039002259456) (a := 2147483648) (by decide +kernel) (by decide) (by decide) ?_
  refine x_putI (np := 27) (x := 449) (f := 1) (by decide +kernel) (by decide +kernel) (by decide) (Or.inl (by decide)) ?_
  have j46 := jU (e := 1) (v := 2147483648) 0 j41 rg_1_1_0_1 (by omega) (by omega) (by omega)
  have f48 := jF (e := 1) (v := 2147483648) 0 f43 rg_1_1_0_1 (by omega) (by omega) (by decide)
  generalize e47 : x_up h40 1 1 2147483648 = h45 at j46 f48 ⊢
  refine x_retV (np := 28) (x := 0) (by decide +kernel) (by decide +kernel) ⟨rfl, ?_⟩
  refine x_iload (np := 32) (x := 1) (by decide +kernel) rfl l16 ?_
  refine x_ifz (k := 1) (tg := 45) (np := 35) (by decide +kernel) (by decide) l16 (fun q49 => ?_) (fun q50 => ?_)
  · have q49 : v15 ≠ 2147483648 := q49
    refine x_aload (np := 46) (x := 0) (by decide +kernel) rfl (x_nc_le (by decide)) ?_
    refine x_nV (t := 6) (mj := 142) (n := 1) (rc := 11) (ml := 2) (nr := 0) (np := 49) (as := [x_r 0]) (rest := []) (lo1 := [x_r 0, 147573952589676412928]) (by decide +kernel) (by decide) (by decide +kernel) (x_rb_of (by decide +kernel)) rfl rfl (x_wr (by decide) x_wn) x_wn (by decide) rfl ?_
    refine x_aload (np := 1) (x := 0) (by decide +kernel) rfl (x_nc_le (by decide)) ?_
    have q51 : h45 0 8 = h40 0 8 := by rw [← e47]; exact x_up_k (by decide)
    have q52 : h40 0 8 = h18 0 8 := by rw [← e42]; exact x_up_i (by omega)
    have q53 : h18 0 8 = h6 0 8 := f20 0 8 (by decide +kernel)
    have q54 : h6 0 8 = h 0 8 := f8 0 8 (by decide +kernel)
    refine x_getR (np := 4) (x := 648) (f := 8) (q := (h 0 8)) (by decide +kernel) (by decide) (by decide +kernel) (((q51.trans q52).trans q53).trans q54) ?_
    refine x_astore (np := 5) (x := 1) (lo' := [x_r 0, x_r (h 0 8)]) (by decide +kernel) (x_nc_le (tn_0 t2)) (Nat.le_of_ble_eq_true rfl) rfl ?_
    refine x_aload (np := 6) (x := 0) (by decide +kernel) rfl (x_nc_le (by decide)) ?_
    refine x_aload (np := 7) (x := 0) (by decide +kernel) rfl (x_nc_le (by decide)) ?_
    have q55 : h45 0 9 = h40 0 9 := by rw [← e47]; exact x_up_k (by decide)
    have q56 : h40 0 9 = h18 0 9 := by rw [← e42]; exact x_up_i (by omega)
    have q57 : h18 0 9 = h6 0 9 := f20 0 9 (by decide +kernel)
    have q58 : h6 0 9 = h 0 9 := f8 0 9 (by decide +kernel)
    refine x_getR (np := 10) (x := 649) (f := 9) (q := (h 0 9)) (by decide +kernel) (by decide) (by decide +kernel) (((q55.trans q56).trans q57).trans q58) ?_
    refine x_putR (np := 13) (x := 8840) (f := 8) (by decide +kernel) (by decide +kernel) (tn_0 t1) (by decide) ?_
    have j60 := J_upW (k := 0) (i := 8) j46 t1 (by decide)
    have f62 := Fr.up (k := 0) (i := 8) (v := (h 0 9)) f48 (by decide +kernel)
    generalize e61 : x_up h45 0 8 (h 0 9) = h59 at j60 f62 ⊢
    refine x_aload (np := 14) (x := 0) (by decide +kernel) rfl (x_nc_le (by decide)) ?_
    refine x_aload (np := 15) (x := 1) (by decide +kernel) rfl (x_nc_le (tn_0 t2)) ?_
    refine x_putR (np := 18) (x := 8841) (f := 9) (by decide +kernel) (by decide +kernel) (tn_0 t2) (by decide) ?_
    have j64 := J_upW (k := 0) (i := 9) j60 t2 (by decide)
    have f66 := Fr.up (k := 0) (i := 9) (v := (h 0 8)) f62 (by decide +kernel)
    generalize e65 : x_up h59 0 9 (h 0 8) = h63 at j64 f66 ⊢
    refine x_retV (np := 19) (x := 0) (by decide +kernel) (by decide +kernel) ⟨rfl, ?_⟩
    refine x_aload (np := 50) (x := 0) (by decide +kernel) rfl (x_nc_le (by decide)) ?_
    refine x_nV (t := 6) (mj := 143) (n := 1) (rc := 11) (ml := 1) (nr := 0) (np := 53) (as := [x_r 0]) (rest := []) (lo1 := [x_r 0]) (by decide +kernel) (by decide) (by decide +kernel) (x_rb_of (by decide +kernel)) rfl rfl (x_wr (by decide) x_wn) x_wn (by decide) rfl ?_
    refine x_aload (np := 1) (x := 0) (by decide +kernel) rfl (x_nc_le (by decide)) ?_
    have q67 : h63 0 1 = 45 := by have z := jB (e := 1) 0 j64 rg_0_1_0_1 (by decide) (by decide); omega
    refine x_getR (np := 4) (x := 641) (f := 1) (q := 45) (by decide +kernel) (by decide) (by decide +kernel) q67 ?_
    refine x_aload (np := 5) (x := 0) (by decide +kernel) rfl (x_nc_le (by decide)) ?_
    have q68 : h63 0 8 = h59 0 8 := by rw [← e65]; exact x_up_i (by omega)
    have q69 : h59 0 8 = (h 0 9) := by rw [← e61]; exact x_up_at
    refine x_getR (np := 8) (x := 648) (f := 8) (q := (h 0 9)) (by decide +kernel) (by decide) (by decide +kernel) (q68.trans q69) ?_
    refine x_cV (t := 6) (mj := 4) (n := 2) (rc := 2) (ml := 3) (nr := 0) (np := 11) (as := [x_r 45, x_r (h 0 9)]) (rest := []) (lo1 := [x_r 45, x_r (h 0 9), 147573952589676412928]) (by decide +kernel) (by decide) (by decide +kernel) (x_rb_of (by decide +kernel)) rfl rfl (x_wr (by decide) (x_wr (tn_0 t1) x_wn)) x_wn (by decide) rfl (c4_45_T0 j64  t1) (fun h73 q72 => ?_)
    obtain ⟨j74, f75⟩ := q72
    have f78 := Fr.trans f66 f75 (by decide)
    refine x_aload (np := 12) (x := 0) (by decide +kernel) rfl (x_nc_le (by decide)) ?_
    have q79 : h73 0 5 = 63 := by have z := jB (e := 5) 0 j74 rg_0_5_0_1 (by decide) (by decide); omega
    refine x_getR (np := 15) (x := 645) (f := 5) (q := 63) (by decide +kernel) (by decide) (by decide +kernel) q79 ?_
    refine x_nV (t := 8) (mj := 270) (n := 1) (rc := 5) (ml := 1) (nr := 0) (np := 18) (as := [x_r 63]) (rest := []) (lo1 := [x_r 63]) (by decide +kernel) (by decide) (by decide +kernel) (x_rb_of (by decide +kernel)) rfl rfl (x_wr (by decide) x_wn) x_wn (by decide) rfl ?_
    refine x_aload (np := 1) (x := 0) (by decide +kernel) rfl (x_nc_le (by decide)) ?_
    refine x_const (np := 2) (x := 9223372039002259456) (a := 2147483648) (by decide +kernel) (by decide) (by decide) ?_
    refine x_putI (np := 5) (x := 4878) (f := 14) (by decide +kernel) (by decide +kernel) (by decide) (Or.inr ⟨by decide, by omega, by omega⟩) ?_
    have j81 := jU (e := 14) (v := 2147483648) 0 j74 rg_63_14_0_1 (by omega) (by omega) (by omega)
    have f83 := jF (e := 14) (v := 2147483648) 0 f78 rg_63_14_0_1 (by omega) (by omega) (by decide)
    generalize e82 : x_up h73 63 14 2147483648 = h80 at j81 f83 ⊢
    refine x_retV (np := 6) (x := 0) (by decide +kernel) (by decide +kernel) ⟨rfl, ?_⟩
    refine x_aload (np := 19) (x := 0) (by decide +kernel) rfl (x_nc_le (by decide)) ?_
    have q84 : h80 0 6 = 69 := by have z := jB (e := 6) 0 j81 rg_0_6_0_1 (by decide) (by decide); omega
    refine x_getR (np := 22) (x := 646) (f := 6) (q := 69) (by decide +kernel) (by decide) (by decide +kernel) q84 ?_
    refine x_nV (t := 8) (mj := 270) (n := 1) (rc := 6) (ml := 1) (nr := 0) (np := 25) (as := [x_r 69]) (rest := []) (lo1 := [x_r 69]) (by decide +kernel) (by decide) (by decide +kernel) (x_rb_of (by decide +kernel)) rfl rfl (x_wr (by decide) x_wn) x_wn (by decide) rfl ?_
    refine x_aload (np := 1) (x := 0) (by decide +kernel) rfl (x_nc_le (by decide)) ?_
    refine x_const (np := 2) (x := 9223372039002259456) (a := 2147483648) (by decide +kernel) (by decide) (by decide) ?_
    refine x_putI (np := 5) (x := 4878) (f := 14) (by decide +kernel) (by decide +kernel) (by decide) (Or.inr ⟨by decide, by omega, by omega⟩) ?_
    have j86 := jU (e := 14) (v := 2147483648) 0 j81 rg_69_14_0_1 (by omega) (by omega) (by omega)
    have f88 := jF (e := 14) (v := 2147483648) 0 f83 rg_69_14_0_1 (by omega) (by omega) (by decide)
    generalize e87 : x_up h80 69 14 2147483648 = h85 at j86 f88 ⊢
    refine x_retV (np := 6) (x := 0) (by decide +kernel) (by decide +kernel) ⟨rfl, ?_⟩
    refine x_retV (np := 26) (x := 0) (by decide +kernel) (by decide +kernel) ⟨rfl, ?_⟩
    refine x_aload (np := 54) (x := 0) (by decide +kernel) rfl (x_nc_le (by decide)) ?_
    have q89 : h85 0 8 = h80 0 8 := by rw [← e87]; exact x_up_k (by decide)
    have q90 : h80 0 8 = h73 0 8 := by rw [← e82]; exact x_up_k (by decide)
    have q91 : h73 0 8 = h63 0 8 := f75 0 8 (by decide +kernel)
    have q92 : h63 0 8 = h59 0 8 := by rw [← e65]; exact x_up_i (by omega)
    have q93 : h59 0 8 = (h 0 9) := by rw [← e61]; exact x_up_at
    refine x_getR (np := 57) (x := 648) (f := 8) (q := (h 0 9)) (by decide +kernel) (by decide) (by decide +kernel) ((((q89.trans q90).trans q91).trans q92).trans q93) ?_
    have q94 : h85 (h 0 9) 6 = ((h 0 9) + 11) := tf_0_6 j86 t1
    refine x_getR (np := 60) (x := 518) (f := 6) (q := ((h 0 9) + 11)) (by decide +kernel) (by decide) (tg_0_518_6_1 t1) q94 ?_
    have q95 : h85 ((h 0 9) + 11) 3 = h80 ((h 0 9) + 11) 3 := by rw [← e87]; exact x_up_k (tne_11_69 t1)
    have q96 : h80 ((h 0 9) + 11) 3 = h73 ((h 0 9) + 11) 3 := by rw [← e82]; exact x_up_k (tne_11_63 t1)
    have q97 : h73 ((h 0 9) + 11) 3 = h63 ((h 0 9) + 11) 3 := jK 0 f75 (rg_T11_3_0_1 t1) (by omega) (by omega) (by decide)
    have q98 : h63 ((h 0 9) + 11) 3 = h59 ((h 0 9) + 11) 3 := by rw [← e65]; exact x_up_k (tne_11_0 t1)
    have q99 : h59 ((h 0 9) + 11) 3 = h45 ((h 0 9) + 11) 3 := by rw [← e61]; exact x_up_k (tne_11_0 t1)
    have q100 : h45 ((h 0 9) + 11) 3 = h40 ((h 0 9) + 11) 3 := by rw [← e47]; exact x_up_k (tne_11_1 t1)
    have q101 : h40 ((h 0 9) + 11) 3 = h18 ((h 0 9) + 11) 3 := by rw [← e42]; exact x_up_k (tne_11_0 t1)
    refine x_getC (np := 63) (x := 131) (f := 3) (q := (h18 ((h 0 9) + 11) 3)) (by decide +kernel) (by decide) (tg_11_131_3_0 t1) ((((((q95.trans q96).trans q97).trans q98).trans q99).trans q100).trans q101) (fun l102 => ?_)
    have q103 : h85 1 1 = h80 1 1 := by rw [← e87]; exact x_up_k (by decide)
    have q104 : h80 1 1 = h73 1 1 := by rw [← e82]; exact x_up_k (by decide)
    have q105 : h73 1 1 = h63 1 1 := jK 0 f75 rg_1_1_0_1 (by omega) (by omega) (by decide)
    have q106 : h63 1 1 = h59 1 1 := by rw [← e65]; exact x_up_k (by decide)
    have q107 : h59 1 1 = h45 1 1 := by rw [← e61]; exact x_up_k (by decide)
    have q108 : h45 1 1 = 2147483648 := by rw [← e47]; exact x_up_at
    refine x_retI (np := 64) (x := 0) (by decide +kernel) l102 (Or.inl (by decide +kernel)) (Or.inl ⟨_, rfl, l102, ?_⟩)
    exact ⟨j86, f88, (by omega), (by omega)⟩
  have q50 : ¬ (v15 ≠ 2147483648) := q50
  exfalso; omega
set_option maxHeartbeats 0 in
/-- LentNames$Tape.append(I)V -/
theorem c72_1n {sc : Nat × Nat} {d a1 : Nat} {h : xh} (hJ : J h) (ba1 : 0 ≤ a1 ∧ a1 ≤ 4294967295) (hr0 : (h 1 1) + 4 ≤ 2147484048) : X sc 72 d (xV fun h' => J h' ∧ Fr 81 h h' ∧ (h' 1 1 = h 1 1 + 4)) 0 0 0 [x_r 1, iv_c a1, 147573952589676412928] [] h := by
  have la1 : a1 < 4294967296 := by omega
  have hF := Fr.refl 81 h
  have b1 := jB (e := 1) 0 hJ rg_1_1_0_1 (by omega) (by omega)
  refine x_const (np := 2) (x := 9223372142081474584) (a := 2147483672) (by decide +kernel) (by decide) (by decide) ?_
  refine x_istore (np := 3) (x := 2) (lo' := [x_r 1, iv_c a1, iv_c 2147483672]) (by decide +kernel) (by decide) (Nat.le_of_ble_eq_true rfl) rfl ?_
  have p135 : ∀ (n : Nat) (v130 : Nat) (h132 : xh), v130 < n → (1 ≤ v130 ∧ v130 ≤ 2147483672) → 8 * h132 1 1 + v130 = 8 * h 1 1 + 2147483672 → 2147483640 ≤ v130 → J h132 → Fr 80 h h132 → X sc 72 d (xV fun h' => J h' ∧ Fr 81 h h' ∧ (h' 1 1 = h 1 1 + 4)) 0 0 3 [x_r 1, iv_c a1, iv_c v130] [] h132 := by
    intro n
    induction n with
    | zero => intro v130 h132 q138; exact absurd q138 (Nat.not_lt_zero _)
    | succ n i139 =>
      intro v130 h132 q138 b131 b136 b137 j134 f133
      have f140 := Fr.trans hF f133 (by decide)
      refine x_iload (np := 4) (x := 2) (by decide +kernel) rfl (by omega) ?_
      refine x_ifz (k := 2) (tg := 49) (np := 7) (by decide +kernel) (by decide) (by omega) (fun q141 => ?_) (fun q142 => ?_)
      · have q141 : v130 < 2147483648 := q141
        have b143 := jB (e := 1) 0 j134 rg_1_1_0_1 (by omega) (by omega)
        refine x_retV (np := 50) (x := 0) (by decide +kernel) (by decide +kernel) ⟨rfl, ?_⟩
        exact ⟨j134, f140, (by omega)⟩
      have q142 : ¬ (v130 < 2147483648) := q142
      refine x_aload (np := 8) (x := 0) (by decide +kernel) rfl (x_nc_le (by decide)) ?_
      have b144 := jB (e := 1) 0 j134 rg_1_1_0_1 (by omega) (by omega)
      refine x_getC (np := 11) (x := 449) (f := 1) (q := (h132 1 1)) (by decide +kernel) (by decide) (by decide +kernel) rfl (fun l145 => ?_)
      refine x_const (np := 14) (x := 9223373756989178256) (a := 2147484048) (by decide +kernel) (by decide) (by decide) ?_
      refine x_icmp (k := 3) (tg := 49) (np := 17) (by decide +kernel) (by decide) l145 (by decide) (fun q146 => ?_) (fun q147 => ?_)
      · have q146 : 2147484048 ≤ (h132 1 1) := q146
        exfalso; omega
      have q147 : ¬ (2147484048 ≤ (h132 1 1)) := q147
      refine x_aload (np := 18) (x := 0) (by decide +kernel) rfl (x_nc_le (by decide)) ?_
      have q148 : h132 1 0 = 2 := by have z := jB (e := 0) 0 j134 rg_1_0_0_1 (by decide) (by decide); omega
      refine x_getR (np := 21) (x := 448) (f := 0) (q := 2) (by decide +kernel) (by decide) (by decide +kernel) q148 ?_
      refine x_aload (np := 22) (x := 0) (by decide +kernel) rfl (x_nc_le (by decide)) ?_
      refine x_getC (np := 25) (x := 449) (f := 1) (q := (h132 1 1)) (by decide +kernel) (by decide) (by decide +kernel) rfl (fun l149 => ?_)
      refine x_iload (np := 26) (x := 1) (by decide +kernel) rfl la1 ?_
      refine x_iload (np := 27) (x := 2) (by decide +kernel) rfl (by omega) ?_
      refine x_any (np := 28) (k9 := 4) (by decide +kernel) (by decide) la1 (by omega) (fun v150 l151 => ?_)
      refine x_const (np := 31) (x := 9223373134218920191) (a := 2147483903) (by decide +kernel) (by decide) (by decide) ?_
      refine x_mask (np := 32) (m := 8) (k9 := 256) (by decide +kernel) l151 (by decide +kernel) (by decide) (by decide) (by decide) (fun u152 l153 => ?_)
      obtain ⟨u154, q155⟩ : ∃ z, (h132 1 1) = 2147483648 + z := ⟨(h132 1 1) - 2147483648, by omega⟩
      refine x_ast (np := 33) (x := 0) (kd := 1) (n := 400) (i := u154) (by decide +kernel) (Or.inl rfl) (by decide +kernel) (by omega) (by omega) (by decide) (by omega) (fun z => absurd z (by decide)) ?_
      have j157 := jU (e := u154) (v := (2147483648 + u152)) u154 j134 rg_2_0_1_400 (by omega) (by omega) (by omega)
      have f159 := jF (e := u154) (v := (2147483648 + u152)) u154 f140 rg_2_0_1_400 (by omega) (by omega) (by decide)
      have f160 := jF (e := u154) (v := (2147483648 + u152)) u154 f133 rg_2_0_1_400 (by omega) (by omega) (by decide)
      generalize e158 : x_up h132 2 u154 (2147483648 + u152) = h156 at j157 f159 f160 ⊢
      refine x_aload (np := 34) (x := 0) (by decide +kernel) rfl (x_nc_le (by decide)) ?_
      refine x_dup (np := 35) (x := 0) (by decide +kernel) (by have z := x_nc_le (k := 1) (by decide); unfold x_r; omega) ?_
      have q161 : h156 1 1 = h132 1 1 := by rw [← e158]; exact x_up_k (by decide)
      refine x_getC (np := 38) (x := 449) (f := 1) (q := (h132 1 1)) (by decide +kernel) (by decide) (by decide +kernel) q161 (fun l162 => ?_)
      refine x_const (np := 39) (x := 9223372043297226753) (a := 2147483649) (by decide +kernel) (by decide) (by decide) ?_
      refine x_iadd (np := 40) (x := 0) (v := (1 + (h132 1 1))) (by decide +kernel) l145 (by decide) (by omega) (by omega) ?_
      refine x_putI (np := 43) (x := 449) (f := 1) (by decide +kernel) (by decide +kernel) (by omega) (Or.inl (by decide)) ?_
      have j164 := jU (e := 1) (v := (1 + (h132 1 1))) 0 j157 rg_1_1_0_1 (by omega) (by omega) (by omega)
      have f166 := jF (e := 1) (v := (1 + (h132 1 1))) 0 f159 rg_1_1_0_1 (by omega) (by omega) (by decide)
      have f167 := jF (e := 1) (v := (1 + (h132 1 1))) 0 f160 rg_1_1_0_1 (by omega) (by omega) (by decide)
      generalize e165 : x_up h156 1 1 (1 + (h132 1 1)) = h163 at j164 f166 f167 ⊢
      obtain ⟨v168, q169⟩ : ∃ z, z + 8 = v130 := ⟨v130 - 8, by omega⟩
      refine x_iinc (np := 46) (i := 2) (j := 2147483640) (v := v168) (lo' := [x_r 1, iv_c a1, iv_c v168]) (by decide +kernel) (by decide) (by decide) rfl (by omega) (by omega) (by omega) rfl ?_
      refine x_goto (np := 49) (x := 3) (by decide +kernel) ?_
      have q170 : h163 1 1 = (1 + (h132 1 1)) := by rw [← e165]; exact x_up_at
      exact i139 v168 h163 (by omega) (by omega) (by omega) (by omega) j164 f167
  exact p135 _ 2147483672 h (Nat.lt_succ_self _) (by omega) (by omega) (by omega) hJ (Fr.refl _ _)
set_option maxHeartbeats 0 in
/-- LentNames.feed(IIIII)I -/
theorem c104_0n {sc : Nat × Nat} {d a1 a2 a3 a4 a5 : Nat} {h : xh} (hJ : J h) (ba1 : 0 ≤ a1 ∧ a1 ≤ 4294967295) (ba2 : 0 ≤ a2 ∧ a2 ≤ 4294967295) (ba3 : 0 ≤ a3 ∧ a3 ≤ 4294967295) (ba4 : 0 ≤ a4 ∧ a4 ≤ 4294967295) (ba5 : 0 ≤ a5 ∧ a5 ≤ 4294967295) : X sc 104 (d + 1) (xI fun r h' => J h' ∧ Fr 81 h h' ∧ (2147483647 ≤ r ∧ r ≤ 2147484048) ∧ (h 1 1 + 20 ≤ 2147484048 → h' 1 1 = h 1 1 + 20 ∧ r = h 1 1 + 20) ∧ (2147484048 < h 1 1 + 20 → h' 1 1 = h 1 1 ∧ r = 2147483647)) 0 0 0 [x_r 0, iv_c a1, iv_c a2, iv_c a3, iv_c a4, iv_c a5] [] h := by
  have la1 : a1 < 4294967296 := by omega
  have la2 : a2 < 4294967296 := by omega
  have la3 : a3 < 4294967296 := by omega
  have la4 : a4 < 4294967296 := by omega
  have la5 : a5 < 4294967296 := by omega
  have hF := Fr.refl 81 h
  refine x_aload (np := 1) (x := 0) (by decide +kernel) rfl (x_nc_le (by decide)) ?_
  have q1 : h 0 0 = 1 := by have z := jB (e := 0) 0 hJ rg_0_0_0_1 (by decide) (by decide); omega
  refine x_getR (np := 4) (x := 640) (f := 0) (q := 1) (by decide +kernel) (by decide) (by decide +kernel) q1 ?_
  have b2 := jB (e := 1) 0 hJ rg_1_1_0_1 (by omega) (by omega)
  refine x_getC (np := 7) (x := 449) (f := 1) (q := (h 1 1)) (by decide +kernel) (by decide) (by decide +kernel) rfl (fun l3 => ?_)
  refine x_const (np := 9) (x := 9223372124901605396) (a := 2147483668) (by decide +kernel) (by decide) (by decide) ?_
  refine x_iadd (np := 10) (x := 0) (v := (20 + (h 1 1))) (by decide +kernel) l3 (by decide) (by omega) (by omega) ?_
  refine x_const (np := 13) (x := 9223373756989178256) (a := 2147484048) (by decide +kernel) (by decide) (by decide) ?_
  refine x_icmp (k := 5) (tg := 18) (np := 16) (by decide +kernel) (by decide) (by omega) (by decide) (fun q4 => ?_) (fun q5 => ?_)
  · have q4 : (20 + (h 1 1)) ≤ 2147484048 := q4
    refine x_aload (np := 19) (x := 0) (by decide +kernel) rfl (x_nc_le (by decide)) ?_
    have q6 : h 0 0 = 1 := by have z := jB (e := 0) 0 hJ rg_0_0_0_1 (by decide) (by decide); omega
    refine x_getR (np := 22) (x := 640) (f := 0) (q := 1) (by decide +kernel) (by decide) (by decide +kernel) q6 ?_
    refine x_iload (np := 23) (x := 1) (by decide +kernel) rfl la1 ?_
    refine x_cV (t := 6) (mj := 72) (n := 2) (rc := 8) (ml := 3) (nr := 0) (np := 26) (as := [x_r 1, iv_c a1]) (rest := []) (lo1 := [x_r 1, iv_c a1, 147573952589676412928]) (by decide +kernel) (by decide) (by decide +kernel) (x_rb_of (by decide +kernel)) rfl rfl (x_wr (by decide) (x_wi la1 x_wn)) x_wn (by decide) rfl (c72_1n hJ  (by omega) (by omega)) (fun h10 q9 => ?_)
    obtain ⟨j11, f12, c15⟩ := q9
    have f16 := Fr.trans hF f12 (by decide)
    have b17 := jB (e := 1) 0 j11 rg_1_1_0_1 (by omega) (by omega)
    refine x_aload (np := 27) (x := 0) (by decide +kernel) rfl (x_nc_le (by decide)) ?_
    have q18 : h10 0 0 = 1 := by have z := jB (e := 0) 0 j11 rg_0_0_0_1 (by decide) (by decide); omega
    refine x_getR (np := 30) (x := 640) (f := 0) (q := 1) (by decide +kernel) (by decide) (by decide +kernel) q18 ?_
    refine x_iload (np := 31) (x := 2) (by decide +kernel) rfl la2 ?_
    refine x_cV (t := 6) (mj := 72) (n := 2) (rc := 8) (ml := 3) (nr := 0) (np := 34) (as := [x_r 1, iv_c a2]) (rest := []) (lo1 := [x_r 1, iv_c a2, 147573952589676412928]) (by decide +kernel) (by decide) (by decide +kernel) (x_rb_of (by decide +kernel)) rfl rfl (x_wr (by decide) (x_wi la2 x_wn)) x_wn (by decide) rfl (c72_1n j11  (by omega) (by omega)) (fun h22 q21 => ?_)
    obtain ⟨j23, f24, c27⟩ := q21
    have f28 := Fr.trans f16 f24 (by decide)
    have b29 := jB (e := 1) 0 j23 rg_1_1_0_1 (by omega) (by omega)
    refine x_aload (np := 35) (x := 0) (by decide +kernel) rfl (x_nc_le (by decide)) ?_
    have q30 : h22 0 0 = 1 := by have z := jB (e := 0) 0 j23 rg_0_0_0_1 (by decide) (by decide); omega
    refine x_getR (np := 38) (x := 640) (f := 0) (q := 1) (by decide +kernel) (by decide) (by decide +kernel) q30 ?_
    refine x_iload (np := 39) (x := 3) (by decide +kernel) rfl la3 ?_
    refine x_cV (t := 6) (mj := 72) (n := 2) (rc := 8) (ml := 3) (nr := 0) (np := 42) (as := [x_r 1, iv_c a3]) (rest := []) (lo1 := [x_r 1, iv_c a3, 147573952589676412928]) (by decide +kernel) (by decide) (by decide +kernel) (x_rb_of (by decide +kernel)) rfl rfl (x_wr (by decide) (x_wi la3 x_wn)) x_wn (by decide) rfl (c72_1n j23  (by omega) (by omega)) (fun h34 q33 => ?_)
    obtain ⟨j35, f36, c39⟩ := q33
    have f40 := Fr.trans f28 f36 (by decide)
    have b41 := jB (e := 1) 0 j35 rg_1_1_0_1 (by omega) (by omega)
    refine x_aload (np := 43) (x := 0) (by decide +kernel) rfl (x_nc_le (by decide)) ?_
    have q42 : h34 0 0 = 1 := by have z := jB (e := 0) 0 j35 rg_0_0_0_1 (by decide) (by decide); omega
    refine x_getR (np := 46) (x := 640) (f := 0) (q := 1) (by decide +kernel) (by decide) (by decide +kernel) q42 ?_
    refine x_iload (np := 48) (x := 4) (by decide +kernel) rfl la4 ?_
    refine x_cV (t := 6) (mj := 72) (n := 2) (rc := 8) (ml := 3) (nr := 0) (np := 51) (as := [x_r 1, iv_c a4]) (rest := []) (lo1 := [x_r 1, iv_c a4, 147573952589676412928]) (by decide +kernel) (by decide) (by decide +kernel) (x_rb_of (by decide +kernel)) rfl rfl (x_wr (by decide) (x_wi la4 x_wn)) x_wn (by decide) rfl (c72_1n j35  (by omega) (by omega)) (fun h46 q45 => ?_)
    obtain ⟨j47, f48, c51⟩ := q45
    have f52 := Fr.trans f40 f48 (by decide)
    have b53 := jB (e := 1) 0 j47 rg_1_1_0_1 (by omega) (by omega)
    refine x_aload (np := 52) (x := 0) (by decide +kernel) rfl (x_nc_le (by decide)) ?_
    have q54 : h46 0 0 = 1 := by have z := jB (e := 0) 0 j47 rg_0_0_0_1 (by decide) (by decide); omega
    refine x_getR (np := 55) (x := 640) (f := 0) (q := 1) (by decide +kernel) (by decide) (by decide +kernel) q54 ?_
    refine x_iload (np := 57) (x := 5) (by decide +kernel) rfl la5 ?_
    refine x_cV (t := 6) (mj := 72) (n := 2) (rc := 8) (ml := 3) (nr := 0) (np := 60) (as := [x_r 1, iv_c a5]) (rest := []) (lo1 := [x_r 1, iv_c a5, 147573952589676412928]) (by decide +kernel) (by decide) (by decide +kernel) (x_rb_of (by decide +kernel)) rfl rfl (x_wr (by decide) (x_wi la5 x_wn)) x_wn (by decide) rfl (c72_1n j47  (by omega) (by omega)) (fun h58 q57 => ?_)
    obtain ⟨j59, f60, c63⟩ := q57
    have f64 := Fr.trans f52 f60 (by decide)
    have b65 := jB (e := 1) 0 j59 rg_1_1_0_1 (by omega) (by omega)
    refine x_aload (np := 61) (x := 0) (by decide +kernel) rfl (x_nc_le (by decide)) ?_
    have q66 : h58 0 0 = 1 := by have z := jB (e := 0) 0 j59 rg_0_0_0_1 (by decide) (by decide); omega
    refine x_getR (np := 64) (x := 640) (f := 0) (q := 1) (by decide +kernel) (by decide) (by decide +kernel) q66 ?_
    refine x_getC (np := 67) (x := 449) (f := 1) (q := (h58 1 1)) (by decide +kernel) (by decide) (by decide +kernel) rfl (fun l67 => ?_)
    refine x_retI (np := 68) (x := 0) (by decide +kernel) l67 (Or.inl (by decide +kernel)) ⟨_, rfl, l67, ?_⟩
    exact ⟨j59, f64, (by omega), (fun z => by omega), (fun z => by omega)⟩
  have q5 : ¬ ((20 + (h 1 1)) ≤ 2147484048) := q5
  refine x_const (np := 17) (x := 9223372034707292159) (a := 2147483647) (by decide +kernel) (by decide) (by decide) ?_
  refine x_retI (np := 18) (x := 0) (by decide +kernel) (by decide) (Or.inl (by decide +kernel)) ⟨_, rfl, (by decide), ?_⟩
  exact ⟨hJ, hF, (by omega), (fun z => by omega), (fun z => by omega)⟩
set_option maxHeartbeats 0 in
/-- LentNames.end(I)Z -/
theorem c105_0n {sc : Nat × Nat} {d a1 : Nat} {h : xh} (hJ : J h) (ba1 : 0 ≤ a1 ∧ a1 ≤ 4294967295) : X sc 105 d (xI fun r h' => J h' ∧ Fr 16 h h' ∧ (2147483648 ≤ r ∧ r ≤ 2147483649) ∧ ((a1 < 2147483648 ∨ h 1 1 < a1) → r = 2147483648 ∧ h' 1 1 = h 1 1) ∧ ((2147483648 ≤ a1 ∧ a1 ≤ h 1 1) → r = 2147483649 ∧ h' 1 1 = a1)) 0 0 0 [x_r 0, iv_c a1] [] h := by
  have la1 : a1 < 4294967296 := by omega
  have hF := Fr.refl 16 h
  refine x_iload (np := 1) (x := 1) (by decide +kernel) rfl la1 ?_
  refine x_ifz (k := 2) (tg := 15) (np := 4) (by decide +kernel) (by decide) la1 (fun q1 => ?_) (fun q2 => ?_)
  · have q1 : a1 < 2147483648 := q1
    refine x_const (np := 16) (x := 9223372039002259456) (a := 2147483648) (by decide +kernel) (by decide) (by decide) ?_
    have b3 := jB (e := 1) 0 hJ rg_1_1_0_1 (by omega) (by omega)
    refine x_retI (np := 17) (x := 0) (by decide +kernel) (by decide) (Or.inr ⟨by decide +kernel, by omega, by omega⟩) ⟨_, rfl, (by decide), ?_⟩
    exact ⟨hJ, hF, (by omega), (fun z => by omega), (fun z => by omega)⟩
  have q2 : ¬ (a1 < 2147483648) := q2
  refine x_iload (np := 5) (x := 1) (by decide +kernel) rfl la1 ?_
  refine x_aload (np := 6) (x := 0) (by decide +kernel) rfl (x_nc_le (by decide)) ?_
  have q4 : h 0 0 = 1 := by have z := jB (e := 0) 0 hJ rg_0_0_0_1 (by decide) (by decide); omega
  refine x_getR (np := 9) (x := 640) (f := 0) (q := 1) (by decide +kernel) (by decide) (by decide +kernel) q4 ?_
  have b5 := jB (e := 1) 0 hJ rg_1_1_0_1 (by omega) (by omega)
  refine x_getC (np := 12) (x := 449) (f := 1) (q := (h 1 1)) (by decide +kernel) (by decide) (by decide +kernel) rfl (fun l6 => ?_)
  refine x_icmp (k := 5) (tg := 17) (np := 15) (by decide +kernel) (by decide) la1 l6 (fun q7 => ?_) (fun q8 => ?_)
  · have q7 : a1 ≤ (h 1 1) := q7
    refine x_aload (np := 18) (x := 0) (by decide +kernel) rfl (x_nc_le (by decide)) ?_
    have q9 : h 0 0 = 1 := by have z := jB (e := 0) 0 hJ rg_0_0_0_1 (by decide) (by decide); omega
    refine x_getR (np := 21) (x := 640) (f := 0) (q := 1) (by decide +kernel) (by decide) (by decide +kernel) q9 ?_
    refine x_iload (np := 22) (x := 1) (by decide +kernel) rfl la1 ?_
    refine x_putI (np := 25) (x := 449) (f := 1) (by decide +kernel) (by decide +kernel) la1 (Or.inl (by decide)) ?_
    have j11 := jU (e := 1) (v := a1) 0 hJ rg_1_1_0_1 (by omega) (by omega) (by omega)
    have f13 := jF (e := 1) (v := a1) 0 hF rg_1_1_0_1 (by omega) (by omega) (by decide)
    generalize e12 : x_up h 1 1 a1 = h10 at j11 f13 ⊢
    refine x_const (np := 26) (x := 9223372043297226753) (a := 2147483649) (by decide +kernel) (by decide) (by decide) ?_
    have q14 : h10 1 1 = a1 := by rw [← e12]; exact x_up_at
    have q15 : h10 1 1 = a1 := by rw [← e12]; exact x_up_at
    refine x_retI (np := 27) (x := 0) (by decide +kernel) (by decide) (Or.inr ⟨by decide +kernel, by omega, by omega⟩) ⟨_, rfl, (by decide), ?_⟩
    exact ⟨j11, f13, (by omega), (fun z => by omega), (fun z => by omega)⟩
  have q8 : ¬ (a1 ≤ (h 1 1)) := q8
  refine x_const (np := 16) (x := 9223372039002259456) (a := 2147483648) (by decide +kernel) (by decide) (by decide) ?_
  refine x_retI (np := 17) (x := 0) (by decide +kernel) (by decide) (Or.inr ⟨by decide +kernel, by omega, by omega⟩) ⟨_, rfl, (by decide), ?_⟩
  exact ⟨hJ, hF, (by omega), (fun z => by omega), (fun z => by omega)⟩
