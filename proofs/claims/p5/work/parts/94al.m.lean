/-! ===== methods ===== -/
set_option maxHeartbeats 0 in
/-- LentNamesModel.readAll(Z)I -/
theorem c194_75_c0 {sc : Nat × Nat} {d  : Nat} {h : xh} {tB : Nat → Nat} {tN : Nat} (hJ : J h) (hT : Tr tB tN h) : X sc 194 (d + 29) (xI fun r h' => J h' ∧ Fr 100139009 h h' ∧ (2147483647 ≤ r ∧ r ≤ 2147483658) ∧ (h' 75 6 = 2147483648) ∧ (2147483648 ≤ r → h' 78 0 = h 78 0) ∧ (2147483648 ≤ r → h' 78 1 = h 78 1) ∧ (2147483648 ≤ r → LnS (r - 2147483648) h') ∧ Cu tB tN (rn9 r) ∧ (r = 2147483647 → CuF tB tN (h' 75 9))) 0 0 0 [x_r 75, iv_c 2147483648, 147573952589676412928] [] h := by
  have hF := Fr.refl 100139009 h
  refine x_aload (np := 1) (x := 0) (by decide +kernel) rfl (x_nc_le (by decide)) ?_
  refine x_aload (np := 2) (x := 0) (by decide +kernel) rfl (x_nc_le (by decide)) ?_
  have b1 := jB (e := 6) 0 hJ rg_75_6_0_1 (by first | decide | omega) (by first | decide | omega)
  refine x_getC (np := 5) (x := 710) (f := 6) (q := (h 75 6)) (by decide +kernel) (by decide) (by decide +kernel) rfl (fun l2 => ?_)
  refine x_putI (np := 8) (x := 712) (f := 8) (by decide +kernel) (by decide +kernel) l2 (Or.inl (by decide)) ?_
  have j4 := jU (e := 8) (v := (h 75 6)) 0 hJ rg_75_8_0_1 (by first | decide | omega) (by first | decide | omega) (by first | decide | omega)
  have f6 := jF (e := 8) (v := (h 75 6)) 0 hF rg_75_8_0_1 (by first | decide | omega) (by first | decide | omega) (by decide)
  generalize e5 : x_up h 75 8 (h 75 6) = h3 at j4 f6 ⊢
  refine x_aload (np := 9) (x := 0) (by decide +kernel) rfl (x_nc_le (by decide)) ?_
  refine x_const (np := 10) (x := 9223372039002259456) (a := 2147483648) (by decide +kernel) (by decide) (by decide) ?_
  refine x_putI (np := 13) (x := 710) (f := 6) (by decide +kernel) (by decide +kernel) (by decide) (Or.inl (by decide)) ?_
  have j8 := jU (e := 6) (v := 2147483648) 0 j4 rg_75_6_0_1 (by first | decide | omega) (by first | decide | omega) (by first | decide | omega)
  have f10 := jF (e := 6) (v := 2147483648) 0 f6 rg_75_6_0_1 (by first | decide | omega) (by first | decide | omega) (by decide)
  generalize e9 : x_up h3 75 6 2147483648 = h7 at j8 f10 ⊢
  refine x_aload (np := 14) (x := 0) (by decide +kernel) rfl (x_nc_le (by decide)) ?_
  refine x_const (np := 15) (x := 9223372039002259456) (a := 2147483648) (by decide +kernel) (by decide) (by decide) ?_
  refine x_putI (np := 18) (x := 711) (f := 7) (by decide +kernel) (by decide +kernel) (by decide) (Or.inl (by decide)) ?_
  have j12 := jU (e := 7) (v := 2147483648) 0 j8 rg_75_7_0_1 (by first | decide | omega) (by first | decide | omega) (by first | decide | omega)
  have f14 := jF (e := 7) (v := 2147483648) 0 f10 rg_75_7_0_1 (by first | decide | omega) (by first | decide | omega) (by decide)
  generalize e13 : x_up h7 75 7 2147483648 = h11 at j12 f14 ⊢
  refine x_aload (np := 19) (x := 0) (by decide +kernel) rfl (x_nc_le (by decide)) ?_
  refine x_const (np := 20) (x := 9223372039002259456) (a := 2147483648) (by decide +kernel) (by decide) (by decide) ?_
  refine x_putI (np := 23) (x := 717) (f := 13) (by decide +kernel) (by decide +kernel) (by decide) (Or.inl (by decide)) ?_
  have j16 := jU (e := 13) (v := 2147483648) 0 j12 rg_75_13_0_1 (by first | decide | omega) (by first | decide | omega) (by first | decide | omega)
  have f18 := jF (e := 13) (v := 2147483648) 0 f14 rg_75_13_0_1 (by first | decide | omega) (by first | decide | omega) (by decide)
  generalize e17 : x_up h11 75 13 2147483648 = h15 at j16 f18 ⊢
  refine x_aload (np := 24) (x := 0) (by decide +kernel) rfl (x_nc_le (by decide)) ?_
  have m25 : Tq tB tN h3 := by rw [← e5]; exact Tr.tq hT (by first | decide | omega)
  have m24 : Tq tB tN h7 := by rw [← e9]; exact Tq.oth m25 (by decide) (by decide)
  have m23 : Tq tB tN h11 := by rw [← e13]; exact Tq.oth m24 (by decide) (by decide)
  have m22 : Tq tB tN h15 := by rw [← e17]; exact Tq.oth m23 (by decide) (by decide)
  refine x_cV (t := 6) (mj := 168) (n := 1) (rc := 12) (ml := 1) (nr := 0) (np := 27) (as := [x_r 75]) (rest := []) (lo1 := [x_r 75]) (by decide +kernel) (by decide) (by decide +kernel) (x_rb_of (by decide +kernel)) rfl rfl (x_wr (by decide) x_wn) x_wn (by decide) rfl (c168_75 j16  m22) (fun h26 q21 => ?_)
  obtain ⟨j27, f28, c31, c32, c33, c34⟩ := q21
  have f35 := Fr.trans f18 f28 (by decide)
  have q36 : h15 75 7 = h11 75 7 := by rw [← e17]; exact x_up_i (by first | decide | omega)
  have q37 : h11 75 7 = 2147483648 := by rw [← e13]; exact x_up_at
  have b38 := jB (e := 7) 0 j27 rg_75_7_0_1 (by first | decide | omega) (by first | decide | omega)
  have b39 := jB (e := 9) 0 j27 rg_75_9_0_1 (by first | decide | omega) (by first | decide | omega)
  refine x_aload (np := 28) (x := 0) (by decide +kernel) rfl (x_nc_le (by decide)) ?_
  refine x_getC (np := 31) (x := 711) (f := 7) (q := (h26 75 7)) (by decide +kernel) (by decide) (by decide +kernel) rfl (fun l40 => ?_)
  refine x_aload (np := 32) (x := 0) (by decide +kernel) rfl (x_nc_le (by decide)) ?_
  have q41 : h26 75 8 = h15 75 8 := jK 0 f28 rg_75_8_0_1 (by first | decide | omega) (by first | decide | omega) (by decide)
  have q42 : h15 75 8 = h11 75 8 := by rw [← e17]; exact x_up_i (by first | decide | omega)
  have q43 : h11 75 8 = h7 75 8 := by rw [← e13]; exact x_up_i (by first | decide | omega)
  have q44 : h7 75 8 = h3 75 8 := by rw [← e9]; exact x_up_i (by first | decide | omega)
  have q45 : h3 75 8 = (h 75 6) := by rw [← e5]; exact x_up_at
  refine x_getC (np := 35) (x := 712) (f := 8) (q := (h 75 6)) (by decide +kernel) (by decide) (by decide +kernel) ((((q41.trans q42).trans q43).trans q44).trans q45) (fun l46 => ?_)
  refine x_icmp (k := 1) (tg := 40) (np := 38) (by decide +kernel) (by decide) l40 l2 (fun q47 => ?_) (fun q48 => ?_)
  · have q47 : (h26 75 7) ≠ (h 75 6) := q47
    refine x_const (np := 41) (x := 9223372039002259456) (a := 2147483648) (by decide +kernel) (by decide) (by decide) ?_
    refine x_istore (np := 42) (x := 2) (lo' := [x_r 75, iv_c 2147483648, iv_c 2147483648]) (by decide +kernel) (by decide) (Nat.le_of_ble_eq_true rfl) rfl ?_
    have p1360 : ∀ (n : Nat) (v1355 : Nat) (h1357 : xh), 4294967296 - v1355 < n → (2147483648 ≤ v1355 ∧ v1355 ≤ 2147483658) → h1357 75 13 ≤ h1357 75 7 → J h1357 → Fr 97517569 h26 h1357 → LnS (v1355 - 2147483648) h1357 → Lq tB tN v1355 (sk tB tN (h1357 75 7)) → LqF tB tN v1355 (sk tB tN (h1357 75 7)) → X sc 194 (d + 29) (xI fun r h' => J h' ∧ Fr 100139009 h h' ∧ (2147483647 ≤ r ∧ r ≤ 2147483658) ∧ (h' 75 6 = 2147483648) ∧ (2147483648 ≤ r → h' 78 0 = h 78 0) ∧ (2147483648 ≤ r → h' 78 1 = h 78 1) ∧ (2147483648 ≤ r → LnS (r - 2147483648) h') ∧ Cu tB tN (rn9 r) ∧ (r = 2147483647 → CuF tB tN (h' 75 9))) 0 0 42 [x_r 75, iv_c 2147483648, iv_c v1355] [] h1357 := by
      intro n
      induction n with
      | zero => intro v1355 h1357 q1365; exact absurd q1365 (Nat.not_lt_zero _)
      | succ n i1366 =>
        intro v1355 h1357 q1365 b1356 b1361 j1359 f1358 m1362 m1363 m1364
        have f1367 := Fr.trans f35 f1358 (by decide)
        refine x_aload (np := 43) (x := 0) (by decide +kernel) rfl (x_nc_le (by decide)) ?_
        have m1372 := Tq.fr m22 f28 (by decide) (by decide)
        have m1371 := Tq.fr m1372 f1358 (by decide) (by decide)
        refine x_cV (t := 6) (mj := 169) (n := 1) (rc := 12) (ml := 1) (nr := 0) (np := 46) (as := [x_r 75]) (rest := []) (lo1 := [x_r 75]) (by decide +kernel) (by decide) (by decide +kernel) (x_rb_of (by decide +kernel)) rfl rfl (x_wr (by decide) x_wn) x_wn (by decide) rfl (c169_75 j1359  m1371) (fun h1373 q1370 => ?_)
        obtain ⟨j1374, f1375, c1378, c1379, c1380, c1381⟩ := q1370
        have f1382 := Fr.trans f1367 f1375 (by decide)
        have f1383 := Fr.trans f1358 f1375 (by decide)
        have b1384 := jB (e := 7) 0 j1359 rg_75_7_0_1 (by first | decide | omega) (by first | decide | omega)
        have b1385 := jB (e := 9) 0 j1374 rg_75_9_0_1 (by first | decide | omega) (by first | decide | omega)
        have b1386 := jB (e := 7) 0 j1374 rg_75_7_0_1 (by first | decide | omega) (by first | decide | omega)
        refine x_iload (np := 47) (x := 2) (by decide +kernel) rfl (by first | decide | omega) ?_
        refine x_iload (np := 48) (x := 1) (by decide +kernel) rfl (by decide) ?_
        refine x_ifz (k := 0) (tg := 56) (np := 51) (by decide +kernel) (by decide) (by decide) (fun q1387 => ?_) (fun q1388 => ?_)
        · have q1387 : 2147483648 = 2147483648 := q1387
          refine x_const (np := 58) (x := 9223372081951932426) (a := 2147483658) (by decide +kernel) (by decide) (by decide) ?_
          refine x_icmp (k := 0) (tg := 83) (np := 61) (by decide +kernel) (by decide) (by first | decide | omega) (by decide) (fun q1389 => ?_) (fun q1390 => ?_)
          · have q1389 : v1355 = 2147483658 := q1389
            refine x_const (np := 84) (x := 9223372034707292159) (a := 2147483647) (by decide +kernel) (by decide) (by decide) ?_
            have q1391 : h1373 75 6 = h1357 75 6 := jK 0 f1375 rg_75_6_0_1 (by first | decide | omega) (by first | decide | omega) (by decide)
            have q1392 : h1357 75 6 = h26 75 6 := jK 0 f1358 rg_75_6_0_1 (by first | decide | omega) (by first | decide | omega) (by decide)
            have q1393 : h26 75 6 = h15 75 6 := jK 0 f28 rg_75_6_0_1 (by first | decide | omega) (by first | decide | omega) (by decide)
            have q1394 : h15 75 6 = h11 75 6 := by rw [← e17]; exact x_up_i (by first | decide | omega)
            have q1395 : h11 75 6 = h7 75 6 := by rw [← e13]; exact x_up_i (by first | decide | omega)
            have q1396 : h7 75 6 = 2147483648 := by rw [← e9]; exact x_up_at
            have b1397 := jB (e := 0) 0 hJ rg_78_0_0_1 (by first | decide | omega) (by first | decide | omega)
            have q1398 : h1373 78 0 = h1357 78 0 := jK 0 f1375 rg_78_0_0_1 (by first | decide | omega) (by first | decide | omega) (by decide)
            have q1399 : h1357 78 0 = h26 78 0 := jK 0 f1358 rg_78_0_0_1 (by first | decide | omega) (by first | decide | omega) (by decide)
            have q1400 : h26 78 0 = h15 78 0 := jK 0 f28 rg_78_0_0_1 (by first | decide | omega) (by first | decide | omega) (by decide)
            have q1401 : h15 78 0 = h11 78 0 := by rw [← e17]; exact x_up_k (by decide)
            have q1402 : h11 78 0 = h7 78 0 := by rw [← e13]; exact x_up_k (by decide)
            have q1403 : h7 78 0 = h3 78 0 := by rw [← e9]; exact x_up_k (by decide)
            have q1404 : h3 78 0 = h 78 0 := by rw [← e5]; exact x_up_k (by decide)
            have q1405 : h1373 78 1 = h1357 78 1 := jK 0 f1375 rg_78_1_0_1 (by first | decide | omega) (by first | decide | omega) (by decide)
            have q1406 : h1357 78 1 = h26 78 1 := jK 0 f1358 rg_78_1_0_1 (by first | decide | omega) (by first | decide | omega) (by decide)
            have q1407 : h26 78 1 = h15 78 1 := jK 0 f28 rg_78_1_0_1 (by first | decide | omega) (by first | decide | omega) (by decide)
            have q1408 : h15 78 1 = h11 78 1 := by rw [← e17]; exact x_up_k (by decide)
            have q1409 : h11 78 1 = h7 78 1 := by rw [← e13]; exact x_up_k (by decide)
            have q1410 : h7 78 1 = h3 78 1 := by rw [← e9]; exact x_up_k (by decide)
            have q1411 : h3 78 1 = h 78 1 := by rw [← e5]; exact x_up_k (by decide)
            refine x_retI (np := 85) (x := 0) (by decide +kernel) (by decide) (Or.inl (by decide +kernel)) ⟨_, rfl, (by decide), ?_⟩
            exact ⟨j1374, f1382, (by first | decide | omega), (by first | decide | omega), (fun z => by first | decide | omega), (fun z => by first | decide | omega), (fun z => absurd z (by first | decide | omega)), (Cu.rn0 (by first | decide | omega) (Lq.full m1363 (by first | decide | omega))), (fun _ => LqF.full m1364 (by first | decide | omega) c1380)⟩
          have q1390 : ¬ (v1355 = 2147483658) := q1390
          refine x_iload (np := 62) (x := 1) (by decide +kernel) rfl (by decide) ?_
          refine x_ifz (k := 0) (tg := 75) (np := 65) (by decide +kernel) (by decide) (by decide) (fun q1412 => ?_) (fun q1413 => ?_)
          · have q1412 : 2147483648 = 2147483648 := q1412
            refine x_aload (np := 76) (x := 0) (by decide +kernel) rfl (x_nc_le (by decide)) ?_
            refine x_iload (np := 77) (x := 2) (by decide +kernel) rfl (by first | decide | omega) ?_
            have q1414 : h1373 75 13 = h1357 75 13 := jK 0 f1375 rg_75_13_0_1 (by first | decide | omega) (by first | decide | omega) (by decide)
            have b1415 := jB (e := 13) 0 j1359 rg_75_13_0_1 (by first | decide | omega) (by first | decide | omega)
            have m1419 := Tq.fr m1371 f1375 (by decide) (by decide)
            refine x_cI (t := 6) (mj := 193) (n := 2) (rc := 12) (ml := 3) (nr := 0) (np := 80) (as := [x_r 75, iv_c v1355]) (rest := []) (lo1 := [x_r 75, iv_c v1355, 147573952589676412928]) (by decide +kernel) (by decide) (by decide +kernel) (x_rb_of (by decide +kernel)) rfl rfl (x_wr (by decide) (x_wi (by first | decide | omega) x_wn)) x_wn (by decide) rfl (c193_75 j1374  (by first | decide | omega) (by first | decide | omega) m1419 c1381) (fun v1416 h1420 l1417 q1418 => ?_)
            obtain ⟨j1421, f1422, b1423, c1424, c1425, c1426, c1427, c1428, c1429⟩ := q1418
            have f1430 := Fr.trans f1382 f1422 (by decide)
            have f1431 := Fr.trans f1383 f1422 (by decide)
            have b1432 := jB (e := 13) 0 j1421 rg_75_13_0_1 (by first | decide | omega) (by first | decide | omega)
            have b1433 := jB (e := 7) 0 j1421 rg_75_7_0_1 (by first | decide | omega) (by first | decide | omega)
            refine x_ifz (k := 1) (tg := 85) (np := 83) (by decide +kernel) (by decide) l1417 (fun q1434 => ?_) (fun q1435 => ?_)
            · have q1434 : v1416 ≠ 2147483648 := q1434
              have b1436 := c1424 (by first | decide | omega)
              obtain ⟨u1437, q1438⟩ : ∃ z, v1355 = 2147483648 + z := ⟨v1355 - 2147483648, by first | decide | omega⟩
              have m1441 : LnS (v1355 - 2147483648) h1373 := LnS.fr m1362 j1359 f1375 (by first | decide | omega) (by decide) (by decide)
              obtain ⟨g1440a, g1440b, g1440c⟩ := c1427 (by first | decide | omega)
              have m1439 : LnS (v1355 - 2147483648 + 1) h1420 := LnS.step m1441 c1426 c1425 g1440a g1440b g1440c
              refine x_aload (np := 86) (x := 0) (by decide +kernel) rfl (x_nc_le (by decide)) ?_
              have m1445 := Tq.fr m1419 f1422 (by decide) (by decide)
              refine x_cV (t := 6) (mj := 168) (n := 1) (rc := 12) (ml := 1) (nr := 0) (np := 89) (as := [x_r 75]) (rest := []) (lo1 := [x_r 75]) (by decide +kernel) (by decide) (by decide +kernel) (x_rb_of (by decide +kernel)) rfl rfl (x_wr (by decide) x_wn) x_wn (by decide) rfl (c168_75 j1421  m1445) (fun h1446 q1444 => ?_)
              obtain ⟨j1447, f1448, c1451, c1452, c1453, c1454⟩ := q1444
              have f1455 := Fr.trans f1430 f1448 (by decide)
              have f1456 := Fr.trans f1431 f1448 (by decide)
              have b1457 := jB (e := 7) 0 j1447 rg_75_7_0_1 (by first | decide | omega) (by first | decide | omega)
              have b1458 := jB (e := 9) 0 j1447 rg_75_9_0_1 (by first | decide | omega) (by first | decide | omega)
              refine x_aload (np := 90) (x := 0) (by decide +kernel) rfl (x_nc_le (by decide)) ?_
              refine x_getC (np := 93) (x := 711) (f := 7) (q := (h1446 75 7)) (by decide +kernel) (by decide) (by decide +kernel) rfl (fun l1459 => ?_)
              refine x_aload (np := 94) (x := 0) (by decide +kernel) rfl (x_nc_le (by decide)) ?_
              have q1460 : h1446 75 8 = h1420 75 8 := jK 0 f1448 rg_75_8_0_1 (by first | decide | omega) (by first | decide | omega) (by decide)
              have q1461 : h1420 75 8 = h1373 75 8 := jK 0 f1422 rg_75_8_0_1 (by first | decide | omega) (by first | decide | omega) (by decide)
              have q1462 : h1373 75 8 = h1357 75 8 := jK 0 f1375 rg_75_8_0_1 (by first | decide | omega) (by first | decide | omega) (by decide)
              have q1463 : h1357 75 8 = h26 75 8 := jK 0 f1358 rg_75_8_0_1 (by first | decide | omega) (by first | decide | omega) (by decide)
              have q1464 : h26 75 8 = h15 75 8 := jK 0 f28 rg_75_8_0_1 (by first | decide | omega) (by first | decide | omega) (by decide)
              have q1465 : h15 75 8 = h11 75 8 := by rw [← e17]; exact x_up_i (by first | decide | omega)
              have q1466 : h11 75 8 = h7 75 8 := by rw [← e13]; exact x_up_i (by first | decide | omega)
              have q1467 : h7 75 8 = h3 75 8 := by rw [← e9]; exact x_up_i (by first | decide | omega)
              have q1468 : h3 75 8 = (h 75 6) := by rw [← e5]; exact x_up_at
              refine x_getC (np := 97) (x := 712) (f := 8) (q := (h 75 6)) (by decide +kernel) (by decide) (by decide +kernel) ((((((((q1460.trans q1461).trans q1462).trans q1463).trans q1464).trans q1465).trans q1466).trans q1467).trans q1468) (fun l1469 => ?_)
              refine x_icmp (k := 1) (tg := 104) (np := 100) (by decide +kernel) (by decide) l1459 l2 (fun q1470 => ?_) (fun q1471 => ?_)
              · have q1470 : (h1446 75 7) ≠ (h 75 6) := q1470
                refine x_aload (np := 105) (x := 0) (by decide +kernel) rfl (x_nc_le (by decide)) ?_
                refine x_const (np := 107) (x := 9223372292405329979) (a := 2147483707) (by decide +kernel) (by decide) (by decide) ?_
                refine x_const (np := 109) (x := 9223372292405329979) (a := 2147483707) (by decide +kernel) (by decide) (by decide) ?_
                refine x_nI (t := 6) (mj := 167) (n := 3) (rc := 12) (ml := 3) (nr := 0) (np := 112) (as := [x_r 75, iv_c 2147483707, iv_c 2147483707]) (rest := []) (lo1 := [x_r 75, iv_c 2147483707, iv_c 2147483707]) (by decide +kernel) (by decide) (by decide +kernel) (x_rb_of (by decide +kernel)) rfl rfl (x_wr (by decide) (x_wi (by decide) (x_wi (by decide) x_wn))) x_wn (by decide) rfl ?_
                refine x_aload (np := 1) (x := 0) (by decide +kernel) rfl (x_nc_le (by decide)) ?_
                refine x_getC (np := 4) (x := 711) (f := 7) (q := (h1446 75 7)) (by decide +kernel) (by decide) (by decide +kernel) rfl (fun l1472 => ?_)
                refine x_aload (np := 5) (x := 0) (by decide +kernel) rfl (x_nc_le (by decide)) ?_
                have q1473 : h1446 75 8 = h1420 75 8 := jK 0 f1448 rg_75_8_0_1 (by first | decide | omega) (by first | decide | omega) (by decide)
                have q1474 : h1420 75 8 = h1373 75 8 := jK 0 f1422 rg_75_8_0_1 (by first | decide | omega) (by first | decide | omega) (by decide)
                have q1475 : h1373 75 8 = h1357 75 8 := jK 0 f1375 rg_75_8_0_1 (by first | decide | omega) (by first | decide | omega) (by decide)
                have q1476 : h1357 75 8 = h26 75 8 := jK 0 f1358 rg_75_8_0_1 (by first | decide | omega) (by first | decide | omega) (by decide)
                have q1477 : h26 75 8 = h15 75 8 := jK 0 f28 rg_75_8_0_1 (by first | decide | omega) (by first | decide | omega) (by decide)
                have q1478 : h15 75 8 = h11 75 8 := by rw [← e17]; exact x_up_i (by first | decide | omega)
                have q1479 : h11 75 8 = h7 75 8 := by rw [← e13]; exact x_up_i (by first | decide | omega)
                have q1480 : h7 75 8 = h3 75 8 := by rw [← e9]; exact x_up_i (by first | decide | omega)
                have q1481 : h3 75 8 = (h 75 6) := by rw [← e5]; exact x_up_at
                refine x_getC (np := 8) (x := 712) (f := 8) (q := (h 75 6)) (by decide +kernel) (by decide) (by decide +kernel) ((((((((q1473.trans q1474).trans q1475).trans q1476).trans q1477).trans q1478).trans q1479).trans q1480).trans q1481) (fun l1482 => ?_)
                refine x_icmp (k := 3) (tg := 41) (np := 11) (by decide +kernel) (by decide) l1459 l2 (fun q1483 => ?_) (fun q1484 => ?_)
                · have q1483 : (h 75 6) ≤ (h1446 75 7) := q1483
                  refine x_const (np := 42) (x := 9223372039002259456) (a := 2147483648) (by decide +kernel) (by decide) (by decide) ?_
                  refine x_retI (np := 43) (x := 0) (by decide +kernel) (by decide) (Or.inr ⟨by decide +kernel, by first | decide | omega, by first | decide | omega⟩) ⟨_, rfl, (by decide), ?_⟩
                  refine x_ifz (k := 1) (tg := 117) (np := 115) (by decide +kernel) (by decide) (by decide) (fun q1485 => ?_) (fun q1486 => ?_)
                  · have q1485 : 2147483648 ≠ 2147483648 := q1485
                    exfalso; omega
                  have q1486 : ¬ (2147483648 ≠ 2147483648) := q1486
                  refine x_const (np := 116) (x := 9223372034707292159) (a := 2147483647) (by decide +kernel) (by decide) (by decide) ?_
                  have q1487 : h1446 75 6 = h1420 75 6 := jK 0 f1448 rg_75_6_0_1 (by first | decide | omega) (by first | decide | omega) (by decide)
                  have q1488 : h1420 75 6 = h1373 75 6 := jK 0 f1422 rg_75_6_0_1 (by first | decide | omega) (by first | decide | omega) (by decide)
                  have q1489 : h1373 75 6 = h1357 75 6 := jK 0 f1375 rg_75_6_0_1 (by first | decide | omega) (by first | decide | omega) (by decide)
                  have q1490 : h1357 75 6 = h26 75 6 := jK 0 f1358 rg_75_6_0_1 (by first | decide | omega) (by first | decide | omega) (by decide)
                  have q1491 : h26 75 6 = h15 75 6 := jK 0 f28 rg_75_6_0_1 (by first | decide | omega) (by first | decide | omega) (by decide)
                  have q1492 : h15 75 6 = h11 75 6 := by rw [← e17]; exact x_up_i (by first | decide | omega)
                  have q1493 : h11 75 6 = h7 75 6 := by rw [← e13]; exact x_up_i (by first | decide | omega)
                  have q1494 : h7 75 6 = 2147483648 := by rw [← e9]; exact x_up_at
                  have b1495 := jB (e := 0) 0 hJ rg_78_0_0_1 (by first | decide | omega) (by first | decide | omega)
                  have q1496 : h1446 78 0 = h1420 78 0 := jK 0 f1448 rg_78_0_0_1 (by first | decide | omega) (by first | decide | omega) (by decide)
                  have q1497 : h1420 78 0 = h1373 78 0 := jK 0 f1422 rg_78_0_0_1 (by first | decide | omega) (by first | decide | omega) (by decide)
                  have q1498 : h1373 78 0 = h1357 78 0 := jK 0 f1375 rg_78_0_0_1 (by first | decide | omega) (by first | decide | omega) (by decide)
                  have q1499 : h1357 78 0 = h26 78 0 := jK 0 f1358 rg_78_0_0_1 (by first | decide | omega) (by first | decide | omega) (by decide)
                  have q1500 : h26 78 0 = h15 78 0 := jK 0 f28 rg_78_0_0_1 (by first | decide | omega) (by first | decide | omega) (by decide)
                  have q1501 : h15 78 0 = h11 78 0 := by rw [← e17]; exact x_up_k (by decide)
                  have q1502 : h11 78 0 = h7 78 0 := by rw [← e13]; exact x_up_k (by decide)
                  have q1503 : h7 78 0 = h3 78 0 := by rw [← e9]; exact x_up_k (by decide)
                  have q1504 : h3 78 0 = h 78 0 := by rw [← e5]; exact x_up_k (by decide)
                  have q1505 : h1446 78 1 = h1420 78 1 := jK 0 f1448 rg_78_1_0_1 (by first | decide | omega) (by first | decide | omega) (by decide)
                  have q1506 : h1420 78 1 = h1373 78 1 := jK 0 f1422 rg_78_1_0_1 (by first | decide | omega) (by first | decide | omega) (by decide)
                  have q1507 : h1373 78 1 = h1357 78 1 := jK 0 f1375 rg_78_1_0_1 (by first | decide | omega) (by first | decide | omega) (by decide)
                  have q1508 : h1357 78 1 = h26 78 1 := jK 0 f1358 rg_78_1_0_1 (by first | decide | omega) (by first | decide | omega) (by decide)
                  have q1509 : h26 78 1 = h15 78 1 := jK 0 f28 rg_78_1_0_1 (by first | decide | omega) (by first | decide | omega) (by decide)
                  have q1510 : h15 78 1 = h11 78 1 := by rw [← e17]; exact x_up_k (by decide)
                  have q1511 : h11 78 1 = h7 78 1 := by rw [← e13]; exact x_up_k (by decide)
                  have q1512 : h7 78 1 = h3 78 1 := by rw [← e9]; exact x_up_k (by decide)
                  have q1513 : h3 78 1 = h 78 1 := by rw [← e5]; exact x_up_k (by decide)
                  have q1514 : h1446 75 8 = h1420 75 8 := jK 0 f1448 rg_75_8_0_1 (by first | decide | omega) (by first | decide | omega) (by decide)
                  have q1515 : h1420 75 8 = h1373 75 8 := jK 0 f1422 rg_75_8_0_1 (by first | decide | omega) (by first | decide | omega) (by decide)
                  have q1516 : h1373 75 8 = h1357 75 8 := jK 0 f1375 rg_75_8_0_1 (by first | decide | omega) (by first | decide | omega) (by decide)
                  have q1517 : h1357 75 8 = h26 75 8 := jK 0 f1358 rg_75_8_0_1 (by first | decide | omega) (by first | decide | omega) (by decide)
                  have q1518 : h26 75 8 = h15 75 8 := jK 0 f28 rg_75_8_0_1 (by first | decide | omega) (by first | decide | omega) (by decide)
                  have q1519 : h15 75 8 = h11 75 8 := by rw [← e17]; exact x_up_i (by first | decide | omega)
                  have q1520 : h11 75 8 = h7 75 8 := by rw [← e13]; exact x_up_i (by first | decide | omega)
                  have q1521 : h7 75 8 = h3 75 8 := by rw [← e9]; exact x_up_i (by first | decide | omega)
                  have q1522 : h3 75 8 = (h 75 6) := by rw [← e5]; exact x_up_at
                  have m1524 := Tq.fr m1445 f1448 (by decide) (by decide)
                  have z1523 := m1524.1
                  have z1525 := (Eq.trans c1453 (congrArg (sk tB tN) (show h1420 75 7 = h1420 75 7 by first | decide | omega)))
                  have q1526 : h1446 75 8 = h1420 75 8 := jK 0 f1448 rg_75_8_0_1 (by first | decide | omega) (by first | decide | omega) (by decide)
                  have q1527 : h1420 75 8 = h1373 75 8 := jK 0 f1422 rg_75_8_0_1 (by first | decide | omega) (by first | decide | omega) (by decide)
                  have q1528 : h1373 75 8 = h1357 75 8 := jK 0 f1375 rg_75_8_0_1 (by first | decide | omega) (by first | decide | omega) (by decide)
                  have q1529 : h1357 75 8 = h26 75 8 := jK 0 f1358 rg_75_8_0_1 (by first | decide | omega) (by first | decide | omega) (by decide)
                  have q1530 : h26 75 8 = h15 75 8 := jK 0 f28 rg_75_8_0_1 (by first | decide | omega) (by first | decide | omega) (by decide)
                  have q1531 : h15 75 8 = h11 75 8 := by rw [← e17]; exact x_up_i (by first | decide | omega)
                  have q1532 : h11 75 8 = h7 75 8 := by rw [← e13]; exact x_up_i (by first | decide | omega)
                  have q1533 : h7 75 8 = h3 75 8 := by rw [← e9]; exact x_up_i (by first | decide | omega)
                  have q1534 : h3 75 8 = (h 75 6) := by rw [← e5]; exact x_up_at
                  have z1535 := m1524.1
                  have z1536 := (Eq.trans c1453 (congrArg (sk tB tN) (show h1420 75 7 = h1420 75 7 by first | decide | omega)))
                  refine x_retI (np := 117) (x := 0) (by decide +kernel) (by decide) (Or.inl (by decide +kernel)) ⟨_, rfl, (by decide), ?_⟩
                  exact ⟨j1447, f1455, (by first | decide | omega), (by first | decide | omega), (fun z => by first | decide | omega), (fun z => by first | decide | omega), (fun z => absurd z (by first | decide | omega)), (Cu.rn0 (by first | decide | omega) (Lq.bad m1363 (by first | decide | omega) c1428 c1380 (by first | decide | omega) (by first | decide | omega) (p2 := h1446 75 7) (fun z => by have z1 := z.1; have z2 := z.2; omega) (Eq.trans c1453 (congrArg (sk tB tN) (show h1420 75 7 = h1420 75 7 by first | decide | omega))))), (fun _ => LqF.bad m1364 (by first | decide | omega) c1428 c1380 (by first | decide | omega) (by first | decide | omega) (p2 := h1446 75 7) (fun z => by have z1 := z.1; have z2 := z.2; omega) (Eq.trans c1453 (congrArg (sk tB tN) (show h1420 75 7 = h1420 75 7 by first | decide | omega))) (Eq.trans c1454 (Eq.symm c1453)))⟩
                have q1484 : ¬ ((h 75 6) ≤ (h1446 75 7)) := q1484
                refine x_aload (np := 12) (x := 0) (by decide +kernel) rfl (x_nc_le (by decide)) ?_
                have q1537 : h1446 75 5 = 79 := by have z := jB (e := 5) 0 j1447 rg_75_5_0_1 (by decide) (by decide); omega
                refine x_getR (np := 15) (x := 709) (f := 5) (q := 79) (by decide +kernel) (by decide) (by decide +kernel) q1537 ?_
                refine x_aload (np := 16) (x := 0) (by decide +kernel) rfl (x_nc_le (by decide)) ?_
                refine x_getC (np := 19) (x := 711) (f := 7) (q := (h1446 75 7)) (by decide +kernel) (by decide) (by decide +kernel) rfl (fun l1538 => ?_)
                obtain ⟨u1539, q1540⟩ : ∃ z, (h1446 75 7) = 2147483648 + z := ⟨(h1446 75 7) - 2147483648, by first | decide | omega⟩
                have q1541 : h1446 79 u1539 = h1420 79 u1539 := jK u1539 f1448 rg_79_0_1_400 (by first | decide | omega) (by first | decide | omega) (by decide)
                have q1542 : h1420 79 u1539 = h1373 79 u1539 := jK u1539 f1422 rg_79_0_1_400 (by first | decide | omega) (by first | decide | omega) (by decide)
                have q1543 : h1373 79 u1539 = h1357 79 u1539 := jK u1539 f1375 rg_79_0_1_400 (by first | decide | omega) (by first | decide | omega) (by decide)
                have q1544 : h1357 79 u1539 = h26 79 u1539 := jK u1539 f1358 rg_79_0_1_400 (by first | decide | omega) (by first | decide | omega) (by decide)
                have q1545 : h26 79 u1539 = h15 79 u1539 := jK u1539 f28 rg_79_0_1_400 (by first | decide | omega) (by first | decide | omega) (by decide)
                have q1546 : h15 79 u1539 = h11 79 u1539 := by rw [← e17]; exact x_up_k (by decide)
                have q1547 : h11 79 u1539 = h7 79 u1539 := by rw [← e13]; exact x_up_k (by decide)
                have q1548 : h7 79 u1539 = h3 79 u1539 := by rw [← e9]; exact x_up_k (by decide)
                have q1549 : h3 79 u1539 = h 79 u1539 := by rw [← e5]; exact x_up_k (by decide)
                have b1550 := jB (e := u1539) u1539 hJ rg_79_0_1_400 (by first | decide | omega) (by first | decide | omega)
                refine x_baldC (np := 20) (x := 0) (n := 400) (i := u1539) (q := (h 79 u1539)) (by decide +kernel) (by decide +kernel) (by first | decide | omega) (by first | decide | omega) (by decide) ((((((((q1541.trans q1542).trans q1543).trans q1544).trans q1545).trans q1546).trans q1547).trans q1548).trans q1549) (fun l1551 => ?_)
                refine x_iload (np := 21) (x := 1) (by decide +kernel) rfl (by decide) ?_
                refine x_icmp (k := 2) (tg := 41) (np := 24) (by decide +kernel) (by decide) l1551 (by decide) (fun q1552 => ?_) (fun q1553 => ?_)
                · have q1552 : (h 79 u1539) < 2147483707 := q1552
                  refine x_const (np := 42) (x := 9223372039002259456) (a := 2147483648) (by decide +kernel) (by decide) (by decide) ?_
                  refine x_retI (np := 43) (x := 0) (by decide +kernel) (by decide) (Or.inr ⟨by decide +kernel, by first | decide | omega, by first | decide | omega⟩) ⟨_, rfl, (by decide), ?_⟩
                  refine x_ifz (k := 1) (tg := 117) (np := 115) (by decide +kernel) (by decide) (by decide) (fun q1554 => ?_) (fun q1555 => ?_)
                  · have q1554 : 2147483648 ≠ 2147483648 := q1554
                    exfalso; omega
                  have q1555 : ¬ (2147483648 ≠ 2147483648) := q1555
                  refine x_const (np := 116) (x := 9223372034707292159) (a := 2147483647) (by decide +kernel) (by decide) (by decide) ?_
                  have q1556 : h1446 75 6 = h1420 75 6 := jK 0 f1448 rg_75_6_0_1 (by first | decide | omega) (by first | decide | omega) (by decide)
                  have q1557 : h1420 75 6 = h1373 75 6 := jK 0 f1422 rg_75_6_0_1 (by first | decide | omega) (by first | decide | omega) (by decide)
                  have q1558 : h1373 75 6 = h1357 75 6 := jK 0 f1375 rg_75_6_0_1 (by first | decide | omega) (by first | decide | omega) (by decide)
                  have q1559 : h1357 75 6 = h26 75 6 := jK 0 f1358 rg_75_6_0_1 (by first | decide | omega) (by first | decide | omega) (by decide)
                  have q1560 : h26 75 6 = h15 75 6 := jK 0 f28 rg_75_6_0_1 (by first | decide | omega) (by first | decide | omega) (by decide)
                  have q1561 : h15 75 6 = h11 75 6 := by rw [← e17]; exact x_up_i (by first | decide | omega)
                  have q1562 : h11 75 6 = h7 75 6 := by rw [← e13]; exact x_up_i (by first | decide | omega)
                  have q1563 : h7 75 6 = 2147483648 := by rw [← e9]; exact x_up_at
                  have b1564 := jB (e := 0) 0 hJ rg_78_0_0_1 (by first | decide | omega) (by first | decide | omega)
                  have q1565 : h1446 78 0 = h1420 78 0 := jK 0 f1448 rg_78_0_0_1 (by first | decide | omega) (by first | decide | omega) (by decide)
                  have q1566 : h1420 78 0 = h1373 78 0 := jK 0 f1422 rg_78_0_0_1 (by first | decide | omega) (by first | decide | omega) (by decide)
                  have q1567 : h1373 78 0 = h1357 78 0 := jK 0 f1375 rg_78_0_0_1 (by first | decide | omega) (by first | decide | omega) (by decide)
                  have q1568 : h1357 78 0 = h26 78 0 := jK 0 f1358 rg_78_0_0_1 (by first | decide | omega) (by first | decide | omega) (by decide)
                  have q1569 : h26 78 0 = h15 78 0 := jK 0 f28 rg_78_0_0_1 (by first | decide | omega) (by first | decide | omega) (by decide)
                  have q1570 : h15 78 0 = h11 78 0 := by rw [← e17]; exact x_up_k (by decide)
                  have q1571 : h11 78 0 = h7 78 0 := by rw [← e13]; exact x_up_k (by decide)
                  have q1572 : h7 78 0 = h3 78 0 := by rw [← e9]; exact x_up_k (by decide)
                  have q1573 : h3 78 0 = h 78 0 := by rw [← e5]; exact x_up_k (by decide)
                  have q1574 : h1446 78 1 = h1420 78 1 := jK 0 f1448 rg_78_1_0_1 (by first | decide | omega) (by first | decide | omega) (by decide)
                  have q1575 : h1420 78 1 = h1373 78 1 := jK 0 f1422 rg_78_1_0_1 (by first | decide | omega) (by first | decide | omega) (by decide)
                  have q1576 : h1373 78 1 = h1357 78 1 := jK 0 f1375 rg_78_1_0_1 (by first | decide | omega) (by first | decide | omega) (by decide)
                  have q1577 : h1357 78 1 = h26 78 1 := jK 0 f1358 rg_78_1_0_1 (by first | decide | omega) (by first | decide | omega) (by decide)
                  have q1578 : h26 78 1 = h15 78 1 := jK 0 f28 rg_78_1_0_1 (by first | decide | omega) (by first | decide | omega) (by decide)
                  have q1579 : h15 78 1 = h11 78 1 := by rw [← e17]; exact x_up_k (by decide)
                  have q1580 : h11 78 1 = h7 78 1 := by rw [← e13]; exact x_up_k (by decide)
                  have q1581 : h7 78 1 = h3 78 1 := by rw [← e9]; exact x_up_k (by decide)
                  have q1582 : h3 78 1 = h 78 1 := by rw [← e5]; exact x_up_k (by decide)
                  have q1583 : h1446 75 8 = h1420 75 8 := jK 0 f1448 rg_75_8_0_1 (by first | decide | omega) (by first | decide | omega) (by decide)
                  have q1584 : h1420 75 8 = h1373 75 8 := jK 0 f1422 rg_75_8_0_1 (by first | decide | omega) (by first | decide | omega) (by decide)
                  have q1585 : h1373 75 8 = h1357 75 8 := jK 0 f1375 rg_75_8_0_1 (by first | decide | omega) (by first | decide | omega) (by decide)
                  have q1586 : h1357 75 8 = h26 75 8 := jK 0 f1358 rg_75_8_0_1 (by first | decide | omega) (by first | decide | omega) (by decide)
                  have q1587 : h26 75 8 = h15 75 8 := jK 0 f28 rg_75_8_0_1 (by first | decide | omega) (by first | decide | omega) (by decide)
                  have q1588 : h15 75 8 = h11 75 8 := by rw [← e17]; exact x_up_i (by first | decide | omega)
                  have q1589 : h11 75 8 = h7 75 8 := by rw [← e13]; exact x_up_i (by first | decide | omega)
                  have q1590 : h7 75 8 = h3 75 8 := by rw [← e9]; exact x_up_i (by first | decide | omega)
                  have q1591 : h3 75 8 = (h 75 6) := by rw [← e5]; exact x_up_at
                  have m1593 := Tq.fr m1445 f1448 (by decide) (by decide)
                  have z1592 := m1593.1
                  have q1594 : h1446 79 u1539 = h1420 79 u1539 := jK u1539 f1448 rg_79_0_1_400 (by first | decide | omega) (by first | decide | omega) (by decide)
                  have q1595 : h1420 79 u1539 = h1373 79 u1539 := jK u1539 f1422 rg_79_0_1_400 (by first | decide | omega) (by first | decide | omega) (by decide)
                  have q1596 : h1373 79 u1539 = h1357 79 u1539 := jK u1539 f1375 rg_79_0_1_400 (by first | decide | omega) (by first | decide | omega) (by decide)
                  have q1597 : h1357 79 u1539 = h26 79 u1539 := jK u1539 f1358 rg_79_0_1_400 (by first | decide | omega) (by first | decide | omega) (by decide)
                  have q1598 : h26 79 u1539 = h15 79 u1539 := jK u1539 f28 rg_79_0_1_400 (by first | decide | omega) (by first | decide | omega) (by decide)
                  have q1599 : h15 79 u1539 = h11 79 u1539 := by rw [← e17]; exact x_up_k (by decide)
                  have q1600 : h11 79 u1539 = h7 79 u1539 := by rw [← e13]; exact x_up_k (by decide)
                  have q1601 : h7 79 u1539 = h3 79 u1539 := by rw [← e9]; exact x_up_k (by decide)
                  have q1602 : h3 79 u1539 = h 79 u1539 := by rw [← e5]; exact x_up_k (by decide)
                  have z1603 := Tq.at (p := (h1446 75 7)) (u := u1539) m1593 (by first | decide | omega) (by first | decide | omega)
                  have z1604 := (Eq.trans c1453 (congrArg (sk tB tN) (show h1420 75 7 = h1420 75 7 by first | decide | omega)))
                  have q1605 : h1446 75 8 = h1420 75 8 := jK 0 f1448 rg_75_8_0_1 (by first | decide | omega) (by first | decide | omega) (by decide)
                  have q1606 : h1420 75 8 = h1373 75 8 := jK 0 f1422 rg_75_8_0_1 (by first | decide | omega) (by first | decide | omega) (by decide)
                  have q1607 : h1373 75 8 = h1357 75 8 := jK 0 f1375 rg_75_8_0_1 (by first | decide | omega) (by first | decide | omega) (by decide)
                  have q1608 : h1357 75 8 = h26 75 8 := jK 0 f1358 rg_75_8_0_1 (by first | decide | omega) (by first | decide | omega) (by decide)
                  have q1609 : h26 75 8 = h15 75 8 := jK 0 f28 rg_75_8_0_1 (by first | decide | omega) (by first | decide | omega) (by decide)
                  have q1610 : h15 75 8 = h11 75 8 := by rw [← e17]; exact x_up_i (by first | decide | omega)
                  have q1611 : h11 75 8 = h7 75 8 := by rw [← e13]; exact x_up_i (by first | decide | omega)
                  have q1612 : h7 75 8 = h3 75 8 := by rw [← e9]; exact x_up_i (by first | decide | omega)
                  have q1613 : h3 75 8 = (h 75 6) := by rw [← e5]; exact x_up_at
                  have z1614 := m1593.1
                  have q1615 : h1446 79 u1539 = h1420 79 u1539 := jK u1539 f1448 rg_79_0_1_400 (by first | decide | omega) (by first | decide | omega) (by decide)
                  have q1616 : h1420 79 u1539 = h1373 79 u1539 := jK u1539 f1422 rg_79_0_1_400 (by first | decide | omega) (by first | decide | omega) (by decide)
                  have q1617 : h1373 79 u1539 = h1357 79 u1539 := jK u1539 f1375 rg_79_0_1_400 (by first | decide | omega) (by first | decide | omega) (by decide)
                  have q1618 : h1357 79 u1539 = h26 79 u1539 := jK u1539 f1358 rg_79_0_1_400 (by first | decide | omega) (by first | decide | omega) (by decide)
                  have q1619 : h26 79 u1539 = h15 79 u1539 := jK u1539 f28 rg_79_0_1_400 (by first | decide | omega) (by first | decide | omega) (by decide)
                  have q1620 : h15 79 u1539 = h11 79 u1539 := by rw [← e17]; exact x_up_k (by decide)
                  have q1621 : h11 79 u1539 = h7 79 u1539 := by rw [← e13]; exact x_up_k (by decide)
                  have q1622 : h7 79 u1539 = h3 79 u1539 := by rw [← e9]; exact x_up_k (by decide)
                  have q1623 : h3 79 u1539 = h 79 u1539 := by rw [← e5]; exact x_up_k (by decide)
                  have z1624 := Tq.at (p := (h1446 75 7)) (u := u1539) m1593 (by first | decide | omega) (by first | decide | omega)
                  have z1625 := (Eq.trans c1453 (congrArg (sk tB tN) (show h1420 75 7 = h1420 75 7 by first | decide | omega)))
                  refine x_retI (np := 117) (x := 0) (by decide +kernel) (by decide) (Or.inl (by decide +kernel)) ⟨_, rfl, (by decide), ?_⟩
                  exact ⟨j1447, f1455, (by first | decide | omega), (by first | decide | omega), (fun z => by first | decide | omega), (fun z => by first | decide | omega), (fun z => absurd z (by first | decide | omega)), (Cu.rn0 (by first | decide | omega) (Lq.bad m1363 (by first | decide | omega) c1428 c1380 (by first | decide | omega) (by first | decide | omega) (p2 := h1446 75 7) (fun z => by have z1 := z.1; have z2 := z.2; omega) (Eq.trans c1453 (congrArg (sk tB tN) (show h1420 75 7 = h1420 75 7 by first | decide | omega))))), (fun _ => LqF.bad m1364 (by first | decide | omega) c1428 c1380 (by first | decide | omega) (by first | decide | omega) (p2 := h1446 75 7) (fun z => by have z1 := z.1; have z2 := z.2; omega) (Eq.trans c1453 (congrArg (sk tB tN) (show h1420 75 7 = h1420 75 7 by first | decide | omega))) (Eq.trans c1454 (Eq.symm c1453)))⟩
                have q1553 : ¬ ((h 79 u1539) < 2147483707) := q1553
                refine x_aload (np := 25) (x := 0) (by decide +kernel) rfl (x_nc_le (by decide)) ?_
                have q1626 : h1446 75 5 = 79 := by have z := jB (e := 5) 0 j1447 rg_75_5_0_1 (by decide) (by decide); omega
                refine x_getR (np := 28) (x := 709) (f := 5) (q := 79) (by decide +kernel) (by decide) (by decide +kernel) q1626 ?_
                refine x_aload (np := 29) (x := 0) (by decide +kernel) rfl (x_nc_le (by decide)) ?_
                refine x_getC (np := 32) (x := 711) (f := 7) (q := (h1446 75 7)) (by decide +kernel) (by decide) (by decide +kernel) rfl (fun l1627 => ?_)
                have q1628 : h1446 79 u1539 = h1420 79 u1539 := jK u1539 f1448 rg_79_0_1_400 (by first | decide | omega) (by first | decide | omega) (by decide)
                have q1629 : h1420 79 u1539 = h1373 79 u1539 := jK u1539 f1422 rg_79_0_1_400 (by first | decide | omega) (by first | decide | omega) (by decide)
                have q1630 : h1373 79 u1539 = h1357 79 u1539 := jK u1539 f1375 rg_79_0_1_400 (by first | decide | omega) (by first | decide | omega) (by decide)
                have q1631 : h1357 79 u1539 = h26 79 u1539 := jK u1539 f1358 rg_79_0_1_400 (by first | decide | omega) (by first | decide | omega) (by decide)
                have q1632 : h26 79 u1539 = h15 79 u1539 := jK u1539 f28 rg_79_0_1_400 (by first | decide | omega) (by first | decide | omega) (by decide)
                have q1633 : h15 79 u1539 = h11 79 u1539 := by rw [← e17]; exact x_up_k (by decide)
                have q1634 : h11 79 u1539 = h7 79 u1539 := by rw [← e13]; exact x_up_k (by decide)
                have q1635 : h7 79 u1539 = h3 79 u1539 := by rw [← e9]; exact x_up_k (by decide)
                have q1636 : h3 79 u1539 = h 79 u1539 := by rw [← e5]; exact x_up_k (by decide)
                refine x_baldC (np := 33) (x := 0) (n := 400) (i := u1539) (q := (h 79 u1539)) (by decide +kernel) (by decide +kernel) (by first | decide | omega) (by first | decide | omega) (by decide) ((((((((q1628.trans q1629).trans q1630).trans q1631).trans q1632).trans q1633).trans q1634).trans q1635).trans q1636) (fun l1637 => ?_)
                refine x_iload (np := 34) (x := 2) (by decide +kernel) rfl (by decide) ?_
                refine x_icmp (k := 4) (tg := 41) (np := 37) (by decide +kernel) (by decide) l1551 (by decide) (fun q1638 => ?_) (fun q1639 => ?_)
                · have q1638 : 2147483707 < (h 79 u1539) := q1638
                  refine x_const (np := 42) (x := 9223372039002259456) (a := 2147483648) (by decide +kernel) (by decide) (by decide) ?_
                  refine x_retI (np := 43) (x := 0) (by decide +kernel) (by decide) (Or.inr ⟨by decide +kernel, by first | decide | omega, by first | decide | omega⟩) ⟨_, rfl, (by decide), ?_⟩
                  refine x_ifz (k := 1) (tg := 117) (np := 115) (by decide +kernel) (by decide) (by decide) (fun q1640 => ?_) (fun q1641 => ?_)
                  · have q1640 : 2147483648 ≠ 2147483648 := q1640
                    exfalso; omega
                  have q1641 : ¬ (2147483648 ≠ 2147483648) := q1641
                  refine x_const (np := 116) (x := 9223372034707292159) (a := 2147483647) (by decide +kernel) (by decide) (by decide) ?_
                  have q1642 : h1446 75 6 = h1420 75 6 := jK 0 f1448 rg_75_6_0_1 (by first | decide | omega) (by first | decide | omega) (by decide)
                  have q1643 : h1420 75 6 = h1373 75 6 := jK 0 f1422 rg_75_6_0_1 (by first | decide | omega) (by first | decide | omega) (by decide)
                  have q1644 : h1373 75 6 = h1357 75 6 := jK 0 f1375 rg_75_6_0_1 (by first | decide | omega) (by first | decide | omega) (by decide)
                  have q1645 : h1357 75 6 = h26 75 6 := jK 0 f1358 rg_75_6_0_1 (by first | decide | omega) (by first | decide | omega) (by decide)
                  have q1646 : h26 75 6 = h15 75 6 := jK 0 f28 rg_75_6_0_1 (by first | decide | omega) (by first | decide | omega) (by decide)
                  have q1647 : h15 75 6 = h11 75 6 := by rw [← e17]; exact x_up_i (by first | decide | omega)
                  have q1648 : h11 75 6 = h7 75 6 := by rw [← e13]; exact x_up_i (by first | decide | omega)
                  have q1649 : h7 75 6 = 2147483648 := by rw [← e9]; exact x_up_at
                  have b1650 := jB (e := 0) 0 hJ rg_78_0_0_1 (by first | decide | omega) (by first | decide | omega)
                  have q1651 : h1446 78 0 = h1420 78 0 := jK 0 f1448 rg_78_0_0_1 (by first | decide | omega) (by first | decide | omega) (by decide)
                  have q1652 : h1420 78 0 = h1373 78 0 := jK 0 f1422 rg_78_0_0_1 (by first | decide | omega) (by first | decide | omega) (by decide)
                  have q1653 : h1373 78 0 = h1357 78 0 := jK 0 f1375 rg_78_0_0_1 (by first | decide | omega) (by first | decide | omega) (by decide)
                  have q1654 : h1357 78 0 = h26 78 0 := jK 0 f1358 rg_78_0_0_1 (by first | decide | omega) (by first | decide | omega) (by decide)
                  have q1655 : h26 78 0 = h15 78 0 := jK 0 f28 rg_78_0_0_1 (by first | decide | omega) (by first | decide | omega) (by decide)
                  have q1656 : h15 78 0 = h11 78 0 := by rw [← e17]; exact x_up_k (by decide)
                  have q1657 : h11 78 0 = h7 78 0 := by rw [← e13]; exact x_up_k (by decide)
                  have q1658 : h7 78 0 = h3 78 0 := by rw [← e9]; exact x_up_k (by decide)
                  have q1659 : h3 78 0 = h 78 0 := by rw [← e5]; exact x_up_k (by decide)
                  have q1660 : h1446 78 1 = h1420 78 1 := jK 0 f1448 rg_78_1_0_1 (by first | decide | omega) (by first | decide | omega) (by decide)
                  have q1661 : h1420 78 1 = h1373 78 1 := jK 0 f1422 rg_78_1_0_1 (by first | decide | omega) (by first | decide | omega) (by decide)
                  have q1662 : h1373 78 1 = h1357 78 1 := jK 0 f1375 rg_78_1_0_1 (by first | decide | omega) (by first | decide | omega) (by decide)
                  have q1663 : h1357 78 1 = h26 78 1 := jK 0 f1358 rg_78_1_0_1 (by first | decide | omega) (by first | decide | omega) (by decide)
                  have q1664 : h26 78 1 = h15 78 1 := jK 0 f28 rg_78_1_0_1 (by first | decide | omega) (by first | decide | omega) (by decide)
                  have q1665 : h15 78 1 = h11 78 1 := by rw [← e17]; exact x_up_k (by decide)
                  have q1666 : h11 78 1 = h7 78 1 := by rw [← e13]; exact x_up_k (by decide)
                  have q1667 : h7 78 1 = h3 78 1 := by rw [← e9]; exact x_up_k (by decide)
                  have q1668 : h3 78 1 = h 78 1 := by rw [← e5]; exact x_up_k (by decide)
                  have q1669 : h1446 75 8 = h1420 75 8 := jK 0 f1448 rg_75_8_0_1 (by first | decide | omega) (by first | decide | omega) (by decide)
                  have q1670 : h1420 75 8 = h1373 75 8 := jK 0 f1422 rg_75_8_0_1 (by first | decide | omega) (by first | decide | omega) (by decide)
                  have q1671 : h1373 75 8 = h1357 75 8 := jK 0 f1375 rg_75_8_0_1 (by first | decide | omega) (by first | decide | omega) (by decide)
                  have q1672 : h1357 75 8 = h26 75 8 := jK 0 f1358 rg_75_8_0_1 (by first | decide | omega) (by first | decide | omega) (by decide)
                  have q1673 : h26 75 8 = h15 75 8 := jK 0 f28 rg_75_8_0_1 (by first | decide | omega) (by first | decide | omega) (by decide)
                  have q1674 : h15 75 8 = h11 75 8 := by rw [← e17]; exact x_up_i (by first | decide | omega)
                  have q1675 : h11 75 8 = h7 75 8 := by rw [← e13]; exact x_up_i (by first | decide | omega)
                  have q1676 : h7 75 8 = h3 75 8 := by rw [← e9]; exact x_up_i (by first | decide | omega)
                  have q1677 : h3 75 8 = (h 75 6) := by rw [← e5]; exact x_up_at
                  have m1679 := Tq.fr m1445 f1448 (by decide) (by decide)
                  have z1678 := m1679.1
                  have q1680 : h1446 79 u1539 = h1420 79 u1539 := jK u1539 f1448 rg_79_0_1_400 (by first | decide | omega) (by first | decide | omega) (by decide)
                  have q1681 : h1420 79 u1539 = h1373 79 u1539 := jK u1539 f1422 rg_79_0_1_400 (by first | decide | omega) (by first | decide | omega) (by decide)
                  have q1682 : h1373 79 u1539 = h1357 79 u1539 := jK u1539 f1375 rg_79_0_1_400 (by first | decide | omega) (by first | decide | omega) (by decide)
                  have q1683 : h1357 79 u1539 = h26 79 u1539 := jK u1539 f1358 rg_79_0_1_400 (by first | decide | omega) (by first | decide | omega) (by decide)
                  have q1684 : h26 79 u1539 = h15 79 u1539 := jK u1539 f28 rg_79_0_1_400 (by first | decide | omega) (by first | decide | omega) (by decide)
                  have q1685 : h15 79 u1539 = h11 79 u1539 := by rw [← e17]; exact x_up_k (by decide)
                  have q1686 : h11 79 u1539 = h7 79 u1539 := by rw [← e13]; exact x_up_k (by decide)
                  have q1687 : h7 79 u1539 = h3 79 u1539 := by rw [← e9]; exact x_up_k (by decide)
                  have q1688 : h3 79 u1539 = h 79 u1539 := by rw [← e5]; exact x_up_k (by decide)
                  have z1689 := Tq.at (p := (h1446 75 7)) (u := u1539) m1679 (by first | decide | omega) (by first | decide | omega)
                  have z1690 := (Eq.trans c1453 (congrArg (sk tB tN) (show h1420 75 7 = h1420 75 7 by first | decide | omega)))
                  have q1691 : h1446 75 8 = h1420 75 8 := jK 0 f1448 rg_75_8_0_1 (by first | decide | omega) (by first | decide | omega) (by decide)
                  have q1692 : h1420 75 8 = h1373 75 8 := jK 0 f1422 rg_75_8_0_1 (by first | decide | omega) (by first | decide | omega) (by decide)
                  have q1693 : h1373 75 8 = h1357 75 8 := jK 0 f1375 rg_75_8_0_1 (by first | decide | omega) (by first | decide | omega) (by decide)
                  have q1694 : h1357 75 8 = h26 75 8 := jK 0 f1358 rg_75_8_0_1 (by first | decide | omega) (by first | decide | omega) (by decide)
                  have q1695 : h26 75 8 = h15 75 8 := jK 0 f28 rg_75_8_0_1 (by first | decide | omega) (by first | decide | omega) (by decide)
                  have q1696 : h15 75 8 = h11 75 8 := by rw [← e17]; exact x_up_i (by first | decide | omega)
                  have q1697 : h11 75 8 = h7 75 8 := by rw [← e13]; exact x_up_i (by first | decide | omega)
                  have q1698 : h7 75 8 = h3 75 8 := by rw [← e9]; exact x_up_i (by first | decide | omega)
                  have q1699 : h3 75 8 = (h 75 6) := by rw [← e5]; exact x_up_at
                  have z1700 := m1679.1
                  have q1701 : h1446 79 u1539 = h1420 79 u1539 := jK u1539 f1448 rg_79_0_1_400 (by first | decide | omega) (by first | decide | omega) (by decide)
                  have q1702 : h1420 79 u1539 = h1373 79 u1539 := jK u1539 f1422 rg_79_0_1_400 (by first | decide | omega) (by first | decide | omega) (by decide)
                  have q1703 : h1373 79 u1539 = h1357 79 u1539 := jK u1539 f1375 rg_79_0_1_400 (by first | decide | omega) (by first | decide | omega) (by decide)
                  have q1704 : h1357 79 u1539 = h26 79 u1539 := jK u1539 f1358 rg_79_0_1_400 (by first | decide | omega) (by first | decide | omega) (by decide)
                  have q1705 : h26 79 u1539 = h15 79 u1539 := jK u1539 f28 rg_79_0_1_400 (by first | decide | omega) (by first | decide | omega) (by decide)
                  have q1706 : h15 79 u1539 = h11 79 u1539 := by rw [← e17]; exact x_up_k (by decide)
                  have q1707 : h11 79 u1539 = h7 79 u1539 := by rw [← e13]; exact x_up_k (by decide)
                  have q1708 : h7 79 u1539 = h3 79 u1539 := by rw [← e9]; exact x_up_k (by decide)
                  have q1709 : h3 79 u1539 = h 79 u1539 := by rw [← e5]; exact x_up_k (by decide)
                  have z1710 := Tq.at (p := (h1446 75 7)) (u := u1539) m1679 (by first | decide | omega) (by first | decide | omega)
                  have z1711 := (Eq.trans c1453 (congrArg (sk tB tN) (show h1420 75 7 = h1420 75 7 by first | decide | omega)))
                  refine x_retI (np := 117) (x := 0) (by decide +kernel) (by decide) (Or.inl (by decide +kernel)) ⟨_, rfl, (by decide), ?_⟩
                  exact ⟨j1447, f1455, (by first | decide | omega), (by first | decide | omega), (fun z => by first | decide | omega), (fun z => by first | decide | omega), (fun z => absurd z (by first | decide | omega)), (Cu.rn0 (by first | decide | omega) (Lq.bad m1363 (by first | decide | omega) c1428 c1380 (by first | decide | omega) (by first | decide | omega) (p2 := h1446 75 7) (fun z => by have z1 := z.1; have z2 := z.2; omega) (Eq.trans c1453 (congrArg (sk tB tN) (show h1420 75 7 = h1420 75 7 by first | decide | omega))))), (fun _ => LqF.bad m1364 (by first | decide | omega) c1428 c1380 (by first | decide | omega) (by first | decide | omega) (p2 := h1446 75 7) (fun z => by have z1 := z.1; have z2 := z.2; omega) (Eq.trans c1453 (congrArg (sk tB tN) (show h1420 75 7 = h1420 75 7 by first | decide | omega))) (Eq.trans c1454 (Eq.symm c1453)))⟩
                have q1639 : ¬ (2147483707 < (h 79 u1539)) := q1639
                refine x_const (np := 38) (x := 9223372043297226753) (a := 2147483649) (by decide +kernel) (by decide) (by decide) ?_
                refine x_goto (np := 41) (x := 42) (by decide +kernel) ?_
                refine x_retI (np := 43) (x := 0) (by decide +kernel) (by decide) (Or.inr ⟨by decide +kernel, by first | decide | omega, by first | decide | omega⟩) ⟨_, rfl, (by decide), ?_⟩
                refine x_ifz (k := 1) (tg := 117) (np := 115) (by decide +kernel) (by decide) (by decide) (fun q1712 => ?_) (fun q1713 => ?_)
                · have q1712 : 2147483649 ≠ 2147483648 := q1712
                  refine x_aload (np := 118) (x := 0) (by decide +kernel) rfl (x_nc_le (by decide)) ?_
                  refine x_dup (np := 119) (x := 0) (by decide +kernel) (by have z := x_nc_le (k := 75) (by decide); unfold x_r; omega) ?_
                  refine x_getC (np := 122) (x := 711) (f := 7) (q := (h1446 75 7)) (by decide +kernel) (by decide) (by decide +kernel) rfl (fun l1714 => ?_)
                  refine x_const (np := 123) (x := 9223372043297226753) (a := 2147483649) (by decide +kernel) (by decide) (by decide) ?_
                  refine x_iadd (np := 124) (x := 0) (v := (1 + (h1446 75 7))) (by decide +kernel) l1459 (by decide) (by first | decide | omega) (by first | decide | omega) ?_
                  refine x_putI (np := 127) (x := 711) (f := 7) (by decide +kernel) (by decide +kernel) (by first | decide | omega) (Or.inl (by decide)) ?_
                  have j1716 := jU (e := 7) (v := (1 + (h1446 75 7))) 0 j1447 rg_75_7_0_1 (by first | decide | omega) (by first | decide | omega) (by first | decide | omega)
                  have f1718 := jF (e := 7) (v := (1 + (h1446 75 7))) 0 f1455 rg_75_7_0_1 (by first | decide | omega) (by first | decide | omega) (by decide)
                  have f1719 := jF (e := 7) (v := (1 + (h1446 75 7))) 0 f1456 rg_75_7_0_1 (by first | decide | omega) (by first | decide | omega) (by decide)
                  generalize e1717 : x_up h1446 75 7 (1 + (h1446 75 7)) = h1715 at j1716 f1718 f1719 ⊢
                  refine x_iinc (np := 130) (i := 2) (j := 2147483649) (v := (1 + v1355)) (lo' := [x_r 75, iv_c 2147483648, iv_c (1 + v1355)]) (by decide +kernel) (by decide) (by decide) rfl (by first | decide | omega) (by first | decide | omega) (by first | decide | omega) rfl ?_
                  refine x_goto (np := 133) (x := 42) (by decide +kernel) ?_
                  have b1720 := jB (e := 7) 0 hJ rg_75_7_0_1 (by first | decide | omega) (by first | decide | omega)
                  have q1721 : h1715 75 7 = (1 + (h1446 75 7)) := by rw [← e1717]; exact x_up_at
                  have b1722 := jB (e := 13) 0 hJ rg_75_13_0_1 (by first | decide | omega) (by first | decide | omega)
                  have q1723 : h1715 75 13 = h1446 75 13 := by rw [← e1717]; exact x_up_i (by first | decide | omega)
                  have q1724 : h1446 75 13 = h1420 75 13 := jK 0 f1448 rg_75_13_0_1 (by first | decide | omega) (by first | decide | omega) (by decide)
                  have m1726 : LnS (v1355 - 2147483648 + 1) h1446 := LnS.fr m1439 j1421 f1448 (by first | decide | omega) (by decide) (by decide)
                  have m1725 : LnS (v1355 - 2147483648 + 1) h1715 := by rw [← e1717]; exact LnS.oth m1726 (by decide) (by decide)
                  have q1727 : h1715 75 7 = (1 + (h1446 75 7)) := by rw [← e1717]; exact x_up_at
                  have q1728 : h1446 75 8 = h1420 75 8 := jK 0 f1448 rg_75_8_0_1 (by first | decide | omega) (by first | decide | omega) (by decide)
                  have q1729 : h1420 75 8 = h1373 75 8 := jK 0 f1422 rg_75_8_0_1 (by first | decide | omega) (by first | decide | omega) (by decide)
                  have q1730 : h1373 75 8 = h1357 75 8 := jK 0 f1375 rg_75_8_0_1 (by first | decide | omega) (by first | decide | omega) (by decide)
                  have q1731 : h1357 75 8 = h26 75 8 := jK 0 f1358 rg_75_8_0_1 (by first | decide | omega) (by first | decide | omega) (by decide)
                  have q1732 : h26 75 8 = h15 75 8 := jK 0 f28 rg_75_8_0_1 (by first | decide | omega) (by first | decide | omega) (by decide)
                  have q1733 : h15 75 8 = h11 75 8 := by rw [← e17]; exact x_up_i (by first | decide | omega)
                  have q1734 : h11 75 8 = h7 75 8 := by rw [← e13]; exact x_up_i (by first | decide | omega)
                  have q1735 : h7 75 8 = h3 75 8 := by rw [← e9]; exact x_up_i (by first | decide | omega)
                  have q1736 : h3 75 8 = (h 75 6) := by rw [← e5]; exact x_up_at
                  have m1738 := Tq.fr m1445 f1448 (by decide) (by decide)
                  have z1737 := m1738.1
                  have q1739 : h1446 79 u1539 = h1420 79 u1539 := jK u1539 f1448 rg_79_0_1_400 (by first | decide | omega) (by first | decide | omega) (by decide)
                  have q1740 : h1420 79 u1539 = h1373 79 u1539 := jK u1539 f1422 rg_79_0_1_400 (by first | decide | omega) (by first | decide | omega) (by decide)
                  have q1741 : h1373 79 u1539 = h1357 79 u1539 := jK u1539 f1375 rg_79_0_1_400 (by first | decide | omega) (by first | decide | omega) (by decide)
                  have q1742 : h1357 79 u1539 = h26 79 u1539 := jK u1539 f1358 rg_79_0_1_400 (by first | decide | omega) (by first | decide | omega) (by decide)
                  have q1743 : h26 79 u1539 = h15 79 u1539 := jK u1539 f28 rg_79_0_1_400 (by first | decide | omega) (by first | decide | omega) (by decide)
                  have q1744 : h15 79 u1539 = h11 79 u1539 := by rw [← e17]; exact x_up_k (by decide)
                  have q1745 : h11 79 u1539 = h7 79 u1539 := by rw [← e13]; exact x_up_k (by decide)
                  have q1746 : h7 79 u1539 = h3 79 u1539 := by rw [← e9]; exact x_up_k (by decide)
                  have q1747 : h3 79 u1539 = h 79 u1539 := by rw [← e5]; exact x_up_k (by decide)
                  have z1748 := Tq.at (p := (h1446 75 7)) (u := u1539) m1738 (by first | decide | omega) (by first | decide | omega)
                  have q1749 : h1715 75 7 = (1 + (h1446 75 7)) := by rw [← e1717]; exact x_up_at
                  have q1750 : h1446 75 8 = h1420 75 8 := jK 0 f1448 rg_75_8_0_1 (by first | decide | omega) (by first | decide | omega) (by decide)
                  have q1751 : h1420 75 8 = h1373 75 8 := jK 0 f1422 rg_75_8_0_1 (by first | decide | omega) (by first | decide | omega) (by decide)
                  have q1752 : h1373 75 8 = h1357 75 8 := jK 0 f1375 rg_75_8_0_1 (by first | decide | omega) (by first | decide | omega) (by decide)
                  have q1753 : h1357 75 8 = h26 75 8 := jK 0 f1358 rg_75_8_0_1 (by first | decide | omega) (by first | decide | omega) (by decide)
                  have q1754 : h26 75 8 = h15 75 8 := jK 0 f28 rg_75_8_0_1 (by first | decide | omega) (by first | decide | omega) (by decide)
                  have q1755 : h15 75 8 = h11 75 8 := by rw [← e17]; exact x_up_i (by first | decide | omega)
                  have q1756 : h11 75 8 = h7 75 8 := by rw [← e13]; exact x_up_i (by first | decide | omega)
                  have q1757 : h7 75 8 = h3 75 8 := by rw [← e9]; exact x_up_i (by first | decide | omega)
                  have q1758 : h3 75 8 = (h 75 6) := by rw [← e5]; exact x_up_at
                  have z1759 := m1738.1
                  have q1760 : h1446 79 u1539 = h1420 79 u1539 := jK u1539 f1448 rg_79_0_1_400 (by first | decide | omega) (by first | decide | omega) (by decide)
                  have q1761 : h1420 79 u1539 = h1373 79 u1539 := jK u1539 f1422 rg_79_0_1_400 (by first | decide | omega) (by first | decide | omega) (by decide)
                  have q1762 : h1373 79 u1539 = h1357 79 u1539 := jK u1539 f1375 rg_79_0_1_400 (by first | decide | omega) (by first | decide | omega) (by decide)
                  have q1763 : h1357 79 u1539 = h26 79 u1539 := jK u1539 f1358 rg_79_0_1_400 (by first | decide | omega) (by first | decide | omega) (by decide)
                  have q1764 : h26 79 u1539 = h15 79 u1539 := jK u1539 f28 rg_79_0_1_400 (by first | decide | omega) (by first | decide | omega) (by decide)
                  have q1765 : h15 79 u1539 = h11 79 u1539 := by rw [← e17]; exact x_up_k (by decide)
                  have q1766 : h11 79 u1539 = h7 79 u1539 := by rw [← e13]; exact x_up_k (by decide)
                  have q1767 : h7 79 u1539 = h3 79 u1539 := by rw [← e9]; exact x_up_k (by decide)
                  have q1768 : h3 79 u1539 = h 79 u1539 := by rw [← e5]; exact x_up_k (by decide)
                  have z1769 := Tq.at (p := (h1446 75 7)) (u := u1539) m1738 (by first | decide | omega) (by first | decide | omega)
                  exact i1366 (1 + v1355) h1715 (by first | decide | omega) (by first | decide | omega) (by first | decide | omega) j1716 f1719 (LnS.cast m1725 (by first | decide | omega)) (Lq.go m1363 (by first | decide | omega) c1428 c1380 (by first | decide | omega) (p2 := h1446 75 7) ⟨by first | decide | omega, by first | decide | omega⟩ (Eq.trans c1453 (congrArg (sk tB tN) (show h1420 75 7 = h1420 75 7 by first | decide | omega))) (q1 := sk tB tN (h1446 75 7 + 1)) rfl (by first | decide | omega) (congrArg (sk tB tN) (show h1446 75 7 + 1 = h1715 75 7 by first | decide | omega))) (LqF.go m1364 (by first | decide | omega) c1428 c1380 (by first | decide | omega) (p2 := h1446 75 7) ⟨by first | decide | omega, by first | decide | omega⟩ (Eq.trans c1453 (congrArg (sk tB tN) (show h1420 75 7 = h1420 75 7 by first | decide | omega))) (q1 := sk tB tN (h1446 75 7 + 1)) rfl (by first | decide | omega) (congrArg (sk tB tN) (show h1446 75 7 + 1 = h1715 75 7 by first | decide | omega)))
                have q1713 : ¬ (2147483649 ≠ 2147483648) := q1713
                exfalso; omega
              have q1471 : ¬ ((h1446 75 7) ≠ (h 75 6)) := q1471
              refine x_iload (np := 101) (x := 2) (by decide +kernel) rfl (by first | decide | omega) ?_
              refine x_const (np := 102) (x := 9223372043297226753) (a := 2147483649) (by decide +kernel) (by decide) (by decide) ?_
              refine x_iadd (np := 103) (x := 0) (v := (1 + v1355)) (by decide +kernel) (by first | decide | omega) (by decide) (by first | decide | omega) (by first | decide | omega) ?_
              have q1770 : h1446 75 6 = h1420 75 6 := jK 0 f1448 rg_75_6_0_1 (by first | decide | omega) (by first | decide | omega) (by decide)
              have q1771 : h1420 75 6 = h1373 75 6 := jK 0 f1422 rg_75_6_0_1 (by first | decide | omega) (by first | decide | omega) (by decide)
              have q1772 : h1373 75 6 = h1357 75 6 := jK 0 f1375 rg_75_6_0_1 (by first | decide | omega) (by first | decide | omega) (by decide)
              have q1773 : h1357 75 6 = h26 75 6 := jK 0 f1358 rg_75_6_0_1 (by first | decide | omega) (by first | decide | omega) (by decide)
              have q1774 : h26 75 6 = h15 75 6 := jK 0 f28 rg_75_6_0_1 (by first | decide | omega) (by first | decide | omega) (by decide)
              have q1775 : h15 75 6 = h11 75 6 := by rw [← e17]; exact x_up_i (by first | decide | omega)
              have q1776 : h11 75 6 = h7 75 6 := by rw [← e13]; exact x_up_i (by first | decide | omega)
              have q1777 : h7 75 6 = 2147483648 := by rw [← e9]; exact x_up_at
              have b1778 := jB (e := 0) 0 hJ rg_78_0_0_1 (by first | decide | omega) (by first | decide | omega)
              have q1779 : h1446 78 0 = h1420 78 0 := jK 0 f1448 rg_78_0_0_1 (by first | decide | omega) (by first | decide | omega) (by decide)
              have q1780 : h1420 78 0 = h1373 78 0 := jK 0 f1422 rg_78_0_0_1 (by first | decide | omega) (by first | decide | omega) (by decide)
              have q1781 : h1373 78 0 = h1357 78 0 := jK 0 f1375 rg_78_0_0_1 (by first | decide | omega) (by first | decide | omega) (by decide)
              have q1782 : h1357 78 0 = h26 78 0 := jK 0 f1358 rg_78_0_0_1 (by first | decide | omega) (by first | decide | omega) (by decide)
              have q1783 : h26 78 0 = h15 78 0 := jK 0 f28 rg_78_0_0_1 (by first | decide | omega) (by first | decide | omega) (by decide)
              have q1784 : h15 78 0 = h11 78 0 := by rw [← e17]; exact x_up_k (by decide)
              have q1785 : h11 78 0 = h7 78 0 := by rw [← e13]; exact x_up_k (by decide)
              have q1786 : h7 78 0 = h3 78 0 := by rw [← e9]; exact x_up_k (by decide)
              have q1787 : h3 78 0 = h 78 0 := by rw [← e5]; exact x_up_k (by decide)
              have q1788 : h1446 78 1 = h1420 78 1 := jK 0 f1448 rg_78_1_0_1 (by first | decide | omega) (by first | decide | omega) (by decide)
              have q1789 : h1420 78 1 = h1373 78 1 := jK 0 f1422 rg_78_1_0_1 (by first | decide | omega) (by first | decide | omega) (by decide)
              have q1790 : h1373 78 1 = h1357 78 1 := jK 0 f1375 rg_78_1_0_1 (by first | decide | omega) (by first | decide | omega) (by decide)
              have q1791 : h1357 78 1 = h26 78 1 := jK 0 f1358 rg_78_1_0_1 (by first | decide | omega) (by first | decide | omega) (by decide)
              have q1792 : h26 78 1 = h15 78 1 := jK 0 f28 rg_78_1_0_1 (by first | decide | omega) (by first | decide | omega) (by decide)
              have q1793 : h15 78 1 = h11 78 1 := by rw [← e17]; exact x_up_k (by decide)
              have q1794 : h11 78 1 = h7 78 1 := by rw [← e13]; exact x_up_k (by decide)
              have q1795 : h7 78 1 = h3 78 1 := by rw [← e9]; exact x_up_k (by decide)
              have q1796 : h3 78 1 = h 78 1 := by rw [← e5]; exact x_up_k (by decide)
              have m1797 : LnS (v1355 - 2147483648 + 1) h1446 := LnS.fr m1439 j1421 f1448 (by first | decide | omega) (by decide) (by decide)
              have q1798 : h1446 75 8 = h1420 75 8 := jK 0 f1448 rg_75_8_0_1 (by first | decide | omega) (by first | decide | omega) (by decide)
              have q1799 : h1420 75 8 = h1373 75 8 := jK 0 f1422 rg_75_8_0_1 (by first | decide | omega) (by first | decide | omega) (by decide)
              have q1800 : h1373 75 8 = h1357 75 8 := jK 0 f1375 rg_75_8_0_1 (by first | decide | omega) (by first | decide | omega) (by decide)
              have q1801 : h1357 75 8 = h26 75 8 := jK 0 f1358 rg_75_8_0_1 (by first | decide | omega) (by first | decide | omega) (by decide)
              have q1802 : h26 75 8 = h15 75 8 := jK 0 f28 rg_75_8_0_1 (by first | decide | omega) (by first | decide | omega) (by decide)
              have q1803 : h15 75 8 = h11 75 8 := by rw [← e17]; exact x_up_i (by first | decide | omega)
              have q1804 : h11 75 8 = h7 75 8 := by rw [← e13]; exact x_up_i (by first | decide | omega)
              have q1805 : h7 75 8 = h3 75 8 := by rw [← e9]; exact x_up_i (by first | decide | omega)
              have q1806 : h3 75 8 = (h 75 6) := by rw [← e5]; exact x_up_at
              have m1808 := Tq.fr m1445 f1448 (by decide) (by decide)
              have z1807 := m1808.1
              have z1809 := (Eq.trans c1453 (congrArg (sk tB tN) (show h1420 75 7 = h1420 75 7 by first | decide | omega)))
              refine x_retI (np := 104) (x := 0) (by decide +kernel) (by first | decide | omega) (Or.inl (by decide +kernel)) ⟨_, rfl, (by first | decide | omega), ?_⟩
              exact ⟨j1447, f1455, (by first | decide | omega), (by first | decide | omega), (fun z => by first | decide | omega), (fun z => by first | decide | omega), (fun _ => LnS.cast m1797 (by first | decide | omega)), (Cu.rn1 (v := (1 + v1355)) (by first | decide | omega) (by first | decide | omega) (Lq.fin m1363 (by first | decide | omega) c1428 c1380 (by first | decide | omega) (by first | decide | omega) (by first | decide | omega))), (fun z => absurd z (by first | decide | omega))⟩
            have q1435 : ¬ (v1416 ≠ 2147483648) := q1435
            refine x_const (np := 84) (x := 9223372034707292159) (a := 2147483647) (by decide +kernel) (by decide) (by decide) ?_
            have q1810 : h1420 75 6 = h1373 75 6 := jK 0 f1422 rg_75_6_0_1 (by first | decide | omega) (by first | decide | omega) (by decide)
            have q1811 : h1373 75 6 = h1357 75 6 := jK 0 f1375 rg_75_6_0_1 (by first | decide | omega) (by first | decide | omega) (by decide)
            have q1812 : h1357 75 6 = h26 75 6 := jK 0 f1358 rg_75_6_0_1 (by first | decide | omega) (by first | decide | omega) (by decide)
            have q1813 : h26 75 6 = h15 75 6 := jK 0 f28 rg_75_6_0_1 (by first | decide | omega) (by first | decide | omega) (by decide)
            have q1814 : h15 75 6 = h11 75 6 := by rw [← e17]; exact x_up_i (by first | decide | omega)
            have q1815 : h11 75 6 = h7 75 6 := by rw [← e13]; exact x_up_i (by first | decide | omega)
            have q1816 : h7 75 6 = 2147483648 := by rw [← e9]; exact x_up_at
            have b1817 := jB (e := 0) 0 hJ rg_78_0_0_1 (by first | decide | omega) (by first | decide | omega)
            have q1818 : h1420 78 0 = h1373 78 0 := jK 0 f1422 rg_78_0_0_1 (by first | decide | omega) (by first | decide | omega) (by decide)
            have q1819 : h1373 78 0 = h1357 78 0 := jK 0 f1375 rg_78_0_0_1 (by first | decide | omega) (by first | decide | omega) (by decide)
            have q1820 : h1357 78 0 = h26 78 0 := jK 0 f1358 rg_78_0_0_1 (by first | decide | omega) (by first | decide | omega) (by decide)
            have q1821 : h26 78 0 = h15 78 0 := jK 0 f28 rg_78_0_0_1 (by first | decide | omega) (by first | decide | omega) (by decide)
            have q1822 : h15 78 0 = h11 78 0 := by rw [← e17]; exact x_up_k (by decide)
            have q1823 : h11 78 0 = h7 78 0 := by rw [← e13]; exact x_up_k (by decide)
            have q1824 : h7 78 0 = h3 78 0 := by rw [← e9]; exact x_up_k (by decide)
            have q1825 : h3 78 0 = h 78 0 := by rw [← e5]; exact x_up_k (by decide)
            have q1826 : h1420 78 1 = h1373 78 1 := jK 0 f1422 rg_78_1_0_1 (by first | decide | omega) (by first | decide | omega) (by decide)
            have q1827 : h1373 78 1 = h1357 78 1 := jK 0 f1375 rg_78_1_0_1 (by first | decide | omega) (by first | decide | omega) (by decide)
            have q1828 : h1357 78 1 = h26 78 1 := jK 0 f1358 rg_78_1_0_1 (by first | decide | omega) (by first | decide | omega) (by decide)
            have q1829 : h26 78 1 = h15 78 1 := jK 0 f28 rg_78_1_0_1 (by first | decide | omega) (by first | decide | omega) (by decide)
            have q1830 : h15 78 1 = h11 78 1 := by rw [← e17]; exact x_up_k (by decide)
            have q1831 : h11 78 1 = h7 78 1 := by rw [← e13]; exact x_up_k (by decide)
            have q1832 : h7 78 1 = h3 78 1 := by rw [← e9]; exact x_up_k (by decide)
            have q1833 : h3 78 1 = h 78 1 := by rw [← e5]; exact x_up_k (by decide)
            refine x_retI (np := 85) (x := 0) (by decide +kernel) (by decide) (Or.inl (by decide +kernel)) ⟨_, rfl, (by decide), ?_⟩
            exact ⟨j1421, f1430, (by first | decide | omega), (by first | decide | omega), (fun z => by first | decide | omega), (fun z => by first | decide | omega), (fun z => absurd z (by first | decide | omega)), (Cu.rn0 (by first | decide | omega) (Lq.no m1363 (by first | decide | omega) c1428 c1380 (by first | decide | omega))), (fun _ => LqF.no m1364 (by first | decide | omega) (c1429 (by first | decide | omega)) c1380 rfl)⟩
          have q1413 : ¬ (2147483648 = 2147483648) := q1413
          exfalso; omega
        have q1388 : ¬ (2147483648 = 2147483648) := q1388
        exfalso; omega
    have b1834 := jB (e := 7) 0 hJ rg_75_7_0_1 (by first | decide | omega) (by first | decide | omega)
    have b1835 := jB (e := 13) 0 hJ rg_75_13_0_1 (by first | decide | omega) (by first | decide | omega)
    have q1836 : h26 75 13 = h15 75 13 := jK 0 f28 rg_75_13_0_1 (by first | decide | omega) (by first | decide | omega) (by decide)
    have q1837 : h15 75 13 = 2147483648 := by rw [← e17]; exact x_up_at
    have q1838 : h15 75 7 = h11 75 7 := by rw [← e17]; exact x_up_i (by first | decide | omega)
    have q1839 : h11 75 7 = 2147483648 := by rw [← e13]; exact x_up_at
    have q1840 : h26 75 8 = h15 75 8 := jK 0 f28 rg_75_8_0_1 (by first | decide | omega) (by first | decide | omega) (by decide)
    have q1841 : h15 75 8 = h11 75 8 := by rw [← e17]; exact x_up_i (by first | decide | omega)
    have q1842 : h11 75 8 = h7 75 8 := by rw [← e13]; exact x_up_i (by first | decide | omega)
    have q1843 : h7 75 8 = h3 75 8 := by rw [← e9]; exact x_up_i (by first | decide | omega)
    have q1844 : h3 75 8 = (h 75 6) := by rw [← e5]; exact x_up_at
    have m1846 := Tq.fr m22 f28 (by decide) (by decide)
    have z1845 := m1846.1
    have q1847 : h15 75 7 = h11 75 7 := by rw [← e17]; exact x_up_i (by first | decide | omega)
    have q1848 : h11 75 7 = 2147483648 := by rw [← e13]; exact x_up_at
    have q1849 : h26 75 8 = h15 75 8 := jK 0 f28 rg_75_8_0_1 (by first | decide | omega) (by first | decide | omega) (by decide)
    have q1850 : h15 75 8 = h11 75 8 := by rw [← e17]; exact x_up_i (by first | decide | omega)
    have q1851 : h11 75 8 = h7 75 8 := by rw [← e13]; exact x_up_i (by first | decide | omega)
    have q1852 : h7 75 8 = h3 75 8 := by rw [← e9]; exact x_up_i (by first | decide | omega)
    have q1853 : h3 75 8 = (h 75 6) := by rw [← e5]; exact x_up_at
    have z1854 := m1846.1
    exact p1360 _ 2147483648 h26 (Nat.lt_succ_self _) (by first | decide | omega) (by first | decide | omega) j27 (Fr.refl _ _) LnS.zero (Lq.zeroR ((show h26 75 7 = h26 75 7 by first | decide | omega).trans (Eq.trans c33 (congrArg (sk tB tN) (show h15 75 7 = 2147483648 by first | decide | omega)))) (by first | decide | omega) (by first | decide | omega) (by first | decide | omega)) (LqF.zeroR ((show h26 75 7 = h26 75 7 by first | decide | omega).trans (Eq.trans c33 (congrArg (sk tB tN) (show h15 75 7 = 2147483648 by first | decide | omega)))) (by first | decide | omega) (by first | decide | omega) (by first | decide | omega))
  have q48 : ¬ ((h26 75 7) ≠ (h 75 6)) := q48
  refine x_const (np := 39) (x := 9223372039002259456) (a := 2147483648) (by decide +kernel) (by decide) (by decide) ?_
  have q1855 : h26 75 6 = h15 75 6 := jK 0 f28 rg_75_6_0_1 (by first | decide | omega) (by first | decide | omega) (by decide)
  have q1856 : h15 75 6 = h11 75 6 := by rw [← e17]; exact x_up_i (by first | decide | omega)
  have q1857 : h11 75 6 = h7 75 6 := by rw [← e13]; exact x_up_i (by first | decide | omega)
  have q1858 : h7 75 6 = 2147483648 := by rw [← e9]; exact x_up_at
  have b1859 := jB (e := 0) 0 hJ rg_78_0_0_1 (by first | decide | omega) (by first | decide | omega)
  have q1860 : h26 78 0 = h15 78 0 := jK 0 f28 rg_78_0_0_1 (by first | decide | omega) (by first | decide | omega) (by decide)
  have q1861 : h15 78 0 = h11 78 0 := by rw [← e17]; exact x_up_k (by decide)
  have q1862 : h11 78 0 = h7 78 0 := by rw [← e13]; exact x_up_k (by decide)
  have q1863 : h7 78 0 = h3 78 0 := by rw [← e9]; exact x_up_k (by decide)
  have q1864 : h3 78 0 = h 78 0 := by rw [← e5]; exact x_up_k (by decide)
  have q1865 : h26 78 1 = h15 78 1 := jK 0 f28 rg_78_1_0_1 (by first | decide | omega) (by first | decide | omega) (by decide)
  have q1866 : h15 78 1 = h11 78 1 := by rw [← e17]; exact x_up_k (by decide)
  have q1867 : h11 78 1 = h7 78 1 := by rw [← e13]; exact x_up_k (by decide)
  have q1868 : h7 78 1 = h3 78 1 := by rw [← e9]; exact x_up_k (by decide)
  have q1869 : h3 78 1 = h 78 1 := by rw [← e5]; exact x_up_k (by decide)
  have q1870 : h15 75 7 = h11 75 7 := by rw [← e17]; exact x_up_i (by first | decide | omega)
  have q1871 : h11 75 7 = 2147483648 := by rw [← e13]; exact x_up_at
  have q1872 : h26 75 8 = h15 75 8 := jK 0 f28 rg_75_8_0_1 (by first | decide | omega) (by first | decide | omega) (by decide)
  have q1873 : h15 75 8 = h11 75 8 := by rw [← e17]; exact x_up_i (by first | decide | omega)
  have q1874 : h11 75 8 = h7 75 8 := by rw [← e13]; exact x_up_i (by first | decide | omega)
  have q1875 : h7 75 8 = h3 75 8 := by rw [← e9]; exact x_up_i (by first | decide | omega)
  have q1876 : h3 75 8 = (h 75 6) := by rw [← e5]; exact x_up_at
  have m1878 := Tq.fr m22 f28 (by decide) (by decide)
  have z1877 := m1878.1
  refine x_retI (np := 40) (x := 0) (by decide +kernel) (by decide) (Or.inl (by decide +kernel)) ⟨_, rfl, (by decide), ?_⟩
  exact ⟨j27, f35, (by first | decide | omega), (by first | decide | omega), (fun z => by first | decide | omega), (fun z => by first | decide | omega), (fun _ => LnS.zero), (Cu.nil (Eq.trans c33 (congrArg (sk tB tN) (show h15 75 7 = 2147483648 by first | decide | omega))) (by first | decide | omega) (rn1 (by first | decide | omega) (by decide))), (fun z => absurd z (by first | decide | omega))⟩
set_option maxHeartbeats 0 in
/-- LentNamesModel.custom()I -/
theorem c196_75 {sc : Nat × Nat} {d  : Nat} {h : xh} {tB : Nat → Nat} {tN : Nat} (hJ : J h) (hW : WT 76 h) (hT : Tr tB tN h) : X sc 196 (d + 30) (xI fun r h' => J h' ∧ Fr 9007199388565505 h h' ∧ (2147483648 ≤ r ∧ r ≤ 2147483658) ∧ (h' 75 6 = 2147483648) ∧ WT 76 h' ∧ Cq tB tN r (h' 75 0) ∧ Gf tB tN h') 0 0 0 [x_r 75, 147573952589676412928, 147573952589676412928] [] h := by
  have hF := Fr.refl 9007199388565505 h
  refine x_aload (np := 1) (x := 0) (by decide +kernel) rfl (x_nc_le (by decide)) ?_
  refine x_const (np := 2) (x := 9223372039002259456) (a := 2147483648) (by decide +kernel) (by decide) (by decide) ?_
  refine x_putI (np := 5) (x := 704) (f := 0) (by decide +kernel) (by decide +kernel) (by decide) (Or.inl (by decide)) ?_
  have j2 := jU (e := 0) (v := 2147483648) 0 hJ rg_75_0_0_1 (by first | decide | omega) (by first | decide | omega) (by first | decide | omega)
  have f4 := jF (e := 0) (v := 2147483648) 0 hF rg_75_0_0_1 (by first | decide | omega) (by first | decide | omega) (by decide)
  generalize e3 : x_up h 75 0 2147483648 = h1 at j2 f4 ⊢
  refine x_aload (np := 6) (x := 0) (by decide +kernel) rfl (x_nc_le (by decide)) ?_
  refine x_const (np := 7) (x := 9223372039002259456) (a := 2147483648) (by decide +kernel) (by decide) (by decide) ?_
  have m8 : Tr tB tN h1 := by rw [← e3]; exact Tr.oth hT (by decide) (by decide)
  refine x_cI (t := 6) (mj := 194) (n := 2) (rc := 12) (ml := 3) (nr := 0) (np := 10) (as := [x_r 75, iv_c 2147483648]) (rest := []) (lo1 := [x_r 75, iv_c 2147483648, 147573952589676412928]) (by decide +kernel) (by decide) (by decide +kernel) (x_rb_of (by decide +kernel)) rfl rfl (x_wr (by decide) (x_wi (by decide) x_wn)) x_wn (by decide) rfl (c194_75_c0 j2   m8) (fun v5 h9 l6 q7 => ?_)
  obtain ⟨j10, f11, b12, c13, c14, c15, c16, c17, c18⟩ := q7
  have f19 := Fr.trans f4 f11 (by decide)
  have b20 := jB (e := 6) 0 j10 rg_75_6_0_1 (by first | decide | omega) (by first | decide | omega)
  have q21 : h1 78 0 = h 78 0 := by rw [← e3]; exact x_up_k (by decide)
  have b22 := jB (e := 0) 0 hJ rg_78_0_0_1 (by first | decide | omega) (by first | decide | omega)
  have q23 : h9 78 0 = h1 78 0 := jK 0 f11 rg_78_0_0_1 (by first | decide | omega) (by first | decide | omega) (by decide)
  have q24 : h1 78 0 = h 78 0 := by rw [← e3]; exact x_up_k (by decide)
  have q25 : h1 78 1 = h 78 1 := by rw [← e3]; exact x_up_k (by decide)
  have q26 : h9 78 1 = h1 78 1 := jK 0 f11 rg_78_1_0_1 (by first | decide | omega) (by first | decide | omega) (by decide)
  have q27 : h1 78 1 = h 78 1 := by rw [← e3]; exact x_up_k (by decide)
  refine x_istore (np := 11) (x := 1) (lo' := [x_r 75, iv_c v5, 147573952589676412928]) (by decide +kernel) l6 (Nat.le_of_ble_eq_true rfl) rfl ?_
  refine x_aload (np := 12) (x := 0) (by decide +kernel) rfl (x_nc_le (by decide)) ?_
  refine x_iload (np := 13) (x := 1) (by decide +kernel) rfl l6 ?_
  refine x_ifz (k := 3) (tg := 23) (np := 16) (by decide +kernel) (by decide) l6 (fun q28 => ?_) (fun q29 => ?_)
  · have q28 : 2147483648 ≤ v5 := q28
    have b30 := c14 (by first | decide | omega)
    have b31 := c15 (by first | decide | omega)
    have m32 := c16 (by first | decide | omega)
    refine x_const (np := 24) (x := 9223372034707292159) (a := 2147483647) (by decide +kernel) (by decide) (by decide) ?_
    refine x_putI (np := 27) (x := 715) (f := 11) (by decide +kernel) (by decide +kernel) (by decide) (Or.inl (by decide)) ?_
    have j34 := jU (e := 11) (v := 2147483647) 0 j10 rg_75_11_0_1 (by first | decide | omega) (by first | decide | omega) (by first | decide | omega)
    have f36 := jF (e := 11) (v := 2147483647) 0 f19 rg_75_11_0_1 (by first | decide | omega) (by first | decide | omega) (by decide)
    generalize e35 : x_up h9 75 11 2147483647 = h33 at j34 f36 ⊢
    refine x_aload (np := 28) (x := 0) (by decide +kernel) rfl (x_nc_le (by decide)) ?_
    refine x_iload (np := 29) (x := 1) (by decide +kernel) rfl l6 ?_
    refine x_ifz (k := 3) (tg := 36) (np := 32) (by decide +kernel) (by decide) l6 (fun q37 => ?_) (fun q38 => ?_)
    · have q37 : 2147483648 ≤ v5 := q37
      refine x_const (np := 37) (x := 9223372039002259456) (a := 2147483648) (by decide +kernel) (by decide) (by decide) ?_
      refine x_const (np := 38) (x := 9223372043297226753) (a := 2147483649) (by decide +kernel) (by decide) (by decide) ?_
      refine x_nI (t := 6) (mj := 152) (n := 3) (rc := 12) (ml := 3) (nr := 0) (np := 41) (as := [x_r 75, iv_c 2147483648, iv_c 2147483649]) (rest := []) (lo1 := [x_r 75, iv_c 2147483648, iv_c 2147483649]) (by decide +kernel) (by decide) (by decide +kernel) (x_rb_of (by decide +kernel)) rfl rfl (x_wr (by decide) (x_wi (by decide) (x_wi (by decide) x_wn))) x_wn (by decide) rfl ?_
      refine x_iload (np := 1) (x := 1) (by decide +kernel) rfl (by decide) ?_
      refine x_ifz (k := 0) (tg := 9) (np := 4) (by decide +kernel) (by decide) (by decide) (fun q39 => ?_) (fun q40 => ?_)
      · have q39 : 2147483648 = 2147483648 := q39
        refine x_iload (np := 10) (x := 1) (by decide +kernel) rfl (by decide) ?_
        refine x_retI (np := 11) (x := 0) (by decide +kernel) (by decide) (Or.inr ⟨by decide +kernel, by first | decide | omega, by first | decide | omega⟩) ⟨_, rfl, (by decide), ?_⟩
        refine x_ifz (k := 0) (tg := 46) (np := 44) (by decide +kernel) (by decide) (by decide) (fun q41 => ?_) (fun q42 => ?_)
        · have q41 : 2147483648 = 2147483648 := q41
          refine x_aload (np := 47) (x := 0) (by decide +kernel) rfl (x_nc_le (by decide)) ?_
          have q43 : h33 75 1 = 76 := by have z := jB (e := 1) 0 j34 rg_75_1_0_1 (by decide) (by decide); omega
          refine x_getR (np := 50) (x := 705) (f := 1) (q := 76) (by decide +kernel) (by decide) (by decide +kernel) q43 ?_
          refine x_const (np := 53) (x := 9223376853660599393) (a := 2147484769) (by decide +kernel) (by decide) (by decide) ?_
          refine x_iload (np := 54) (x := 1) (by decide +kernel) rfl l6 ?_
          refine x_ast (np := 55) (x := 0) (kd := 1) (n := 1952) (i := 1121) (by decide +kernel) (Or.inl rfl) (by decide +kernel) (by first | decide | omega) (by first | decide | omega) (by decide) l6 (fun z => absurd z (by decide)) ?_
          have j45 := jU (e := 1121) (v := v5) 0 j34 rg_76_1121_0_1 (by first | decide | omega) (by first | decide | omega) (by first | decide | omega)
          have f47 := jF (e := 1121) (v := v5) 0 f36 rg_76_1121_0_1 (by first | decide | omega) (by first | decide | omega) (by decide)
          generalize e46 : x_up h33 76 1121 v5 = h44 at j45 f47 ⊢
          refine x_const (np := 56) (x := 9223372039002259456) (a := 2147483648) (by decide +kernel) (by decide) (by decide) ?_
          refine x_istore (np := 57) (x := 2) (lo' := [x_r 75, iv_c v5, iv_c 2147483648]) (by decide +kernel) (by decide) (Nat.le_of_ble_eq_true rfl) rfl ?_
          have p459 : ∀ (n : Nat) (v454 : Nat) (h456 : xh), 4294967296 - v454 < n → (2147483648 ≤ v454 ∧ v454 ≤ 2147484479) → J h456 → Fr 33554432 h44 h456 → Cp6 h44 h456 (v454 - 2147483648) → X sc 196 (d + 30) (xI fun r h' => J h' ∧ Fr 9007199388565505 h h' ∧ (2147483648 ≤ r ∧ r ≤ 2147483658) ∧ (h' 75 6 = 2147483648) ∧ WT 76 h' ∧ Cq tB tN r (h' 75 0) ∧ Gf tB tN h') 0 0 57 [x_r 75, iv_c v5, iv_c v454] [] h456 := by
            intro n
            induction n with
            | zero => intro v454 h456 q461; exact absurd q461 (Nat.not_lt_zero _)
            | succ n i462 =>
              intro v454 h456 q461 b455 j458 f457 m460
              have f463 := Fr.trans f47 f457 (by decide)
              refine x_iload (np := 58) (x := 2) (by decide +kernel) rfl (by first | decide | omega) ?_
              refine x_const (np := 61) (x := 9223375608120083263) (a := 2147484479) (by decide +kernel) (by decide) (by decide) ?_
              refine x_icmp (k := 3) (tg := 90) (np := 64) (by decide +kernel) (by decide) (by first | decide | omega) (by decide) (fun q464 => ?_) (fun q465 => ?_)
              · have q464 : 2147484479 ≤ v454 := q464
                refine x_aload (np := 91) (x := 0) (by decide +kernel) rfl (x_nc_le (by decide)) ?_
                have q466 : h456 75 1 = 76 := by have z := jB (e := 1) 0 j458 rg_75_1_0_1 (by decide) (by decide); omega
                refine x_getR (np := 94) (x := 705) (f := 1) (q := 76) (by decide +kernel) (by decide) (by decide +kernel) q466 ?_
                refine x_const (np := 96) (x := 9223372064772063238) (a := 2147483654) (by decide +kernel) (by decide) (by decide) ?_
                refine x_const (np := 97) (x := 9223372043297226753) (a := 2147483649) (by decide +kernel) (by decide) (by decide) ?_
                refine x_ast (np := 98) (x := 0) (kd := 1) (n := 1952) (i := 6) (by decide +kernel) (Or.inl rfl) (by decide +kernel) (by first | decide | omega) (by first | decide | omega) (by decide) (by decide) (fun z => absurd z (by decide)) ?_
                have j468 := jU (e := 6) (v := 2147483649) 0 j458 rg_76_6_0_1 (by first | decide | omega) (by first | decide | omega) (by first | decide | omega)
                have f470 := jF (e := 6) (v := 2147483649) 0 f463 rg_76_6_0_1 (by first | decide | omega) (by first | decide | omega) (by decide)
                generalize e469 : x_up h456 76 6 2147483649 = h467 at j468 f470 ⊢
                refine x_iload (np := 99) (x := 1) (by decide +kernel) rfl l6 ?_
                have q471 : h467 75 6 = h456 75 6 := by rw [← e469]; exact x_up_k (by decide)
                have q472 : h456 75 6 = h44 75 6 := jK 0 f457 rg_75_6_0_1 (by first | decide | omega) (by first | decide | omega) (by decide)
                have q473 : h44 75 6 = h33 75 6 := by rw [← e46]; exact x_up_k (by decide)
                have q474 : h33 75 6 = h9 75 6 := by rw [← e35]; exact x_up_i (by first | decide | omega)
                have m476 : LnS (v5 - 2147483648) h33 := by rw [← e35]; exact LnS.oth m32 (by decide) (by decide)
                have m475 : LnS (v5 - 2147483648) h44 := by rw [← e46]; exact LnS.up m476 (by decide)
                have q477 : h44 75 13 = h33 75 13 := by rw [← e46]; exact x_up_k (by decide)
                have q478 : h33 75 13 = h9 75 13 := by rw [← e35]; exact x_up_i (by first | decide | omega)
                have b479 := jB (e := 13) 0 j10 rg_75_13_0_1 (by first | decide | omega) (by first | decide | omega)
                have q480 : h44 76 1121 = v5 := by rw [← e46]; exact x_up_at
                have m481 : WT 76 h456 := WT.mk m475 m460 (by first | decide | omega) (by first | decide | omega) (by first | decide | omega) (by first | decide | omega)
                have m482 : WT 76 h467 := by rw [← e469]; exact WT.up m481 j458 (by first | decide | omega)
                have q483 : h467 75 0 = h456 75 0 := by rw [← e469]; exact x_up_k (by decide)
                have q484 : h456 75 0 = h44 75 0 := jK 0 f457 rg_75_0_0_1 (by first | decide | omega) (by first | decide | omega) (by decide)
                have q485 : h44 75 0 = h33 75 0 := by rw [← e46]; exact x_up_k (by decide)
                have q486 : h33 75 0 = h9 75 0 := by rw [← e35]; exact x_up_i (by first | decide | omega)
                have q487 : h9 75 0 = h1 75 0 := jK 0 f11 rg_75_0_0_1 (by first | decide | omega) (by first | decide | omega) (by decide)
                have q488 : h1 75 0 = 2147483648 := by rw [← e3]; exact x_up_at
                have q489 : h467 75 0 = h456 75 0 := by rw [← e469]; exact x_up_k (by decide)
                have q490 : h456 75 0 = h44 75 0 := jK 0 f457 rg_75_0_0_1 (by first | decide | omega) (by first | decide | omega) (by decide)
                have q491 : h44 75 0 = h33 75 0 := by rw [← e46]; exact x_up_k (by decide)
                have q492 : h33 75 0 = h9 75 0 := by rw [← e35]; exact x_up_i (by first | decide | omega)
                have q493 : h9 75 0 = h1 75 0 := jK 0 f11 rg_75_0_0_1 (by first | decide | omega) (by first | decide | omega) (by decide)
                have q494 : h1 75 0 = 2147483648 := by rw [← e3]; exact x_up_at
                have q495 : h467 75 11 = h456 75 11 := by rw [← e469]; exact x_up_k (by decide)
                have q496 : h456 75 11 = h44 75 11 := jK 0 f457 rg_75_11_0_1 (by first | decide | omega) (by first | decide | omega) (by decide)
                have q497 : h44 75 11 = h33 75 11 := by rw [← e46]; exact x_up_k (by decide)
                have q498 : h33 75 11 = 2147483647 := by rw [← e35]; exact x_up_at
                refine x_retI (np := 100) (x := 0) (by decide +kernel) l6 (Or.inl (by decide +kernel)) ⟨_, rfl, l6, ?_⟩
                exact ⟨j468, f470, (by first | decide | omega), (by first | decide | omega), m482, (Cq.yes c17 (by first | decide | omega) (by first | decide | omega) (by first | decide | omega)), ⟨(fun z => absurd z (by first | decide | omega)), fun _ => by first | decide | omega⟩⟩
              have q465 : ¬ (2147484479 ≤ v454) := q465
              refine x_aload (np := 65) (x := 0) (by decide +kernel) rfl (x_nc_le (by decide)) ?_
              have q499 : h456 75 1 = 76 := by have z := jB (e := 1) 0 j458 rg_75_1_0_1 (by decide) (by decide); omega
              refine x_getR (np := 68) (x := 705) (f := 1) (q := 76) (by decide +kernel) (by decide) (by decide +kernel) q499 ?_
              refine x_const (np := 71) (x := 9223373284542775586) (a := 2147483938) (by decide +kernel) (by decide) (by decide) ?_
              refine x_iload (np := 72) (x := 2) (by decide +kernel) rfl (by first | decide | omega) ?_
              refine x_iadd (np := 73) (x := 0) (v := (290 + v454)) (by decide +kernel) (by decide) (by first | decide | omega) (by first | decide | omega) (by first | decide | omega) ?_
              refine x_aload (np := 74) (x := 0) (by decide +kernel) rfl (x_nc_le (by decide)) ?_
              have q500 : h456 75 1 = 76 := by have z := jB (e := 1) 0 j458 rg_75_1_0_1 (by decide) (by decide); omega
              refine x_getR (np := 77) (x := 705) (f := 1) (q := 76) (by decide +kernel) (by decide) (by decide +kernel) q500 ?_
              refine x_const (np := 80) (x := 9223376853660599393) (a := 2147484769) (by decide +kernel) (by decide) (by decide) ?_
              refine x_iload (np := 81) (x := 2) (by decide +kernel) rfl (by first | decide | omega) ?_
              refine x_iadd (np := 82) (x := 0) (v := (1121 + v454)) (by decide +kernel) (by decide) (by first | decide | omega) (by first | decide | omega) (by first | decide | omega) ?_
              obtain ⟨u501, q502⟩ : ∃ z, v454 = 2147483648 + z := ⟨v454 - 2147483648, by first | decide | omega⟩
              refine x_aldC (np := 83) (x := 0) (n := 1952) (i := (1121 + u501)) (q := (h456 76 (1121 + u501))) (by decide +kernel) (by decide +kernel) (by first | decide | omega) (by first | decide | omega) (by decide) rfl (fun l503 => ?_)
              refine x_ast (np := 84) (x := 0) (kd := 1) (n := 1952) (i := (290 + u501)) (by decide +kernel) (Or.inl rfl) (by decide +kernel) (by first | decide | omega) (by first | decide | omega) (by decide) l503 (fun z => absurd z (by decide)) ?_
              have j505 := cwJ (e := (290 + u501)) (v := (h456 76 (1121 + u501))) u501 j458 j458 cw_76_290_76_1121_831 (by first | decide | omega) (by first | decide | omega) (by first | rfl | (congr 1; omega))
              have f507 := cwF (e := (290 + u501)) (v := (h456 76 (1121 + u501))) u501 f463 cw_76_290_76_1121_831 (by first | decide | omega) (by first | decide | omega) (by decide)
              have f508 := cwF (e := (290 + u501)) (v := (h456 76 (1121 + u501))) u501 f457 cw_76_290_76_1121_831 (by first | decide | omega) (by first | decide | omega) (by decide)
              generalize e506 : x_up h456 76 (290 + u501) (h456 76 (1121 + u501)) = h504 at j505 f507 f508 ⊢
              refine x_iinc (np := 87) (i := 2) (j := 2147483649) (v := (1 + v454)) (lo' := [x_r 75, iv_c v5, iv_c (1 + v454)]) (by decide +kernel) (by decide) (by decide) rfl (by first | decide | omega) (by first | decide | omega) (by first | decide | omega) rfl ?_
              refine x_goto (np := 90) (x := 57) (by decide +kernel) ?_
              have m509 : Cp6 h44 h504 ((1 + v454) - 2147483648) := by
                have e0 : v454 - 2147483648 = u501 := by first | decide | omega
                have e9 : (1 + v454) = 2147483648 + (u501 + 1) := by first | decide | omega
                have e1 : (1 + v454) - 2147483648 = u501 + 1 := by rw [e9]; exact Nat.add_sub_cancel_left _ _
                have p9 := m460
                rw [e0] at p9
                rw [e1, ← e506]
                exact Cp6.step p9 f457 (by decide) (by first | decide | omega)
              exact i462 (1 + v454) h504 (by first | decide | omega) (by first | decide | omega) j505 f508 m509
          exact p459 _ 2147483648 h44 (Nat.lt_succ_self _) (by first | decide | omega) j45 (Fr.refl _ _) Cp6.zero
        have q42 : ¬ (2147483648 = 2147483648) := q42
        exfalso; omega
      have q40 : ¬ (2147483648 = 2147483648) := q40
      exfalso; omega
    have q38 : ¬ (2147483648 ≤ v5) := q38
    exfalso; omega
  have q29 : ¬ (2147483648 ≤ v5) := q29
  refine x_aload (np := 17) (x := 0) (by decide +kernel) rfl (x_nc_le (by decide)) ?_
  have b510 := jB (e := 9) 0 j10 rg_75_9_0_1 (by first | decide | omega) (by first | decide | omega)
  refine x_getC (np := 20) (x := 713) (f := 9) (q := (h9 75 9)) (by decide +kernel) (by decide) (by decide +kernel) rfl (fun l511 => ?_)
  refine x_goto (np := 23) (x := 24) (by decide +kernel) ?_
  refine x_putI (np := 27) (x := 715) (f := 11) (by decide +kernel) (by decide +kernel) l511 (Or.inl (by decide)) ?_
  have j513 := jU (e := 11) (v := (h9 75 9)) 0 j10 rg_75_11_0_1 (by first | decide | omega) (by first | decide | omega) (by first | decide | omega)
  have f515 := jF (e := 11) (v := (h9 75 9)) 0 f19 rg_75_11_0_1 (by first | decide | omega) (by first | decide | omega) (by decide)
  generalize e514 : x_up h9 75 11 (h9 75 9) = h512 at j513 f515 ⊢
  refine x_aload (np := 28) (x := 0) (by decide +kernel) rfl (x_nc_le (by decide)) ?_
  refine x_iload (np := 29) (x := 1) (by decide +kernel) rfl l6 ?_
  refine x_ifz (k := 3) (tg := 36) (np := 32) (by decide +kernel) (by decide) l6 (fun q516 => ?_) (fun q517 => ?_)
  · have q516 : 2147483648 ≤ v5 := q516
    exfalso; omega
  have q517 : ¬ (2147483648 ≤ v5) := q517
  refine x_const (np := 33) (x := 9223372043297226753) (a := 2147483649) (by decide +kernel) (by decide) (by decide) ?_
  refine x_goto (np := 36) (x := 37) (by decide +kernel) ?_
  refine x_const (np := 38) (x := 9223372043297226753) (a := 2147483649) (by decide +kernel) (by decide) (by decide) ?_
  refine x_nI (t := 6) (mj := 152) (n := 3) (rc := 12) (ml := 3) (nr := 0) (np := 41) (as := [x_r 75, iv_c 2147483649, iv_c 2147483649]) (rest := []) (lo1 := [x_r 75, iv_c 2147483649, iv_c 2147483649]) (by decide +kernel) (by decide) (by decide +kernel) (x_rb_of (by decide +kernel)) rfl rfl (x_wr (by decide) (x_wi (by decide) (x_wi (by decide) x_wn))) x_wn (by decide) rfl ?_
  refine x_iload (np := 1) (x := 1) (by decide +kernel) rfl (by decide) ?_
  refine x_ifz (k := 0) (tg := 9) (np := 4) (by decide +kernel) (by decide) (by decide) (fun q518 => ?_) (fun q519 => ?_)
  · have q518 : 2147483649 = 2147483648 := q518
    exfalso; omega
  have q519 : ¬ (2147483649 = 2147483648) := q519
  refine x_aload (np := 5) (x := 0) (by decide +kernel) rfl (x_nc_le (by decide)) ?_
  refine x_iload (np := 6) (x := 2) (by decide +kernel) rfl (by decide) ?_
  refine x_putI (np := 9) (x := 704) (f := 0) (by decide +kernel) (by decide +kernel) (by decide) (Or.inl (by decide)) ?_
  have j521 := jU (e := 0) (v := 2147483649) 0 j513 rg_75_0_0_1 (by first | decide | omega) (by first | decide | omega) (by first | decide | omega)
  have f523 := jF (e := 0) (v := 2147483649) 0 f515 rg_75_0_0_1 (by first | decide | omega) (by first | decide | omega) (by decide)
  generalize e522 : x_up h512 75 0 2147483649 = h520 at j521 f523 ⊢
  refine x_iload (np := 10) (x := 1) (by decide +kernel) rfl (by decide) ?_
  refine x_retI (np := 11) (x := 0) (by decide +kernel) (by decide) (Or.inr ⟨by decide +kernel, by first | decide | omega, by first | decide | omega⟩) ⟨_, rfl, (by decide), ?_⟩
  refine x_ifz (k := 0) (tg := 46) (np := 44) (by decide +kernel) (by decide) (by decide) (fun q524 => ?_) (fun q525 => ?_)
  · have q524 : 2147483649 = 2147483648 := q524
    exfalso; omega
  have q525 : ¬ (2147483649 = 2147483648) := q525
  refine x_const (np := 45) (x := 9223372039002259456) (a := 2147483648) (by decide +kernel) (by decide) (by decide) ?_
  have q526 : h520 75 6 = h512 75 6 := by rw [← e522]; exact x_up_i (by first | decide | omega)
  have q527 : h512 75 6 = h9 75 6 := by rw [← e514]; exact x_up_i (by first | decide | omega)
  have m531 : WT 76 h1 := by rw [← e3]; exact WT.oth hW hJ (by decide)
  have m530 := WT.fr m531 j2 f11 (by decide)
  have m529 : WT 76 h512 := by rw [← e514]; exact WT.oth m530 j10 (by decide)
  have m528 : WT 76 h520 := by rw [← e522]; exact WT.oth m529 j513 (by decide)
  have q532 : h520 75 0 = 2147483649 := by rw [← e522]; exact x_up_at
  have q533 : h520 75 0 = 2147483649 := by rw [← e522]; exact x_up_at
  have q534 : h520 75 11 = h512 75 11 := by rw [← e522]; exact x_up_i (by first | decide | omega)
  have q535 : h512 75 11 = (h9 75 9) := by rw [← e514]; exact x_up_at
  refine x_retI (np := 46) (x := 0) (by decide +kernel) (by decide) (Or.inl (by decide +kernel)) ⟨_, rfl, (by decide), ?_⟩
  exact ⟨j521, f523, (by first | decide | omega), (by first | decide | omega), m528, (Cq.no c17 (by first | decide | omega) (by first | decide | omega) (by first | decide | omega)), ⟨fun _ => CuF.cast (c18 (by first | decide | omega)) (by first | decide | omega), fun z => absurd (by first | decide | omega) z⟩⟩
set_option maxHeartbeats 0 in
/-- LentNamesModel.people(I)V -/
theorem c197_75 {sc : Nat × Nat} {d a1 : Nat} {h : xh} (hJ : J h) (ba1 : 0 ≤ a1 ∧ a1 ≤ 4294967295) (hW : WT 76 h) : X sc 197 (d + 1) (xV fun h' => J h' ∧ Fr 562949953552385 h h' ∧ WT 76 h' ∧ Pf h h' a1) 0 0 0 [x_r 75, iv_c a1] [] h := by
  have la1 : a1 < 4294967296 := by first | decide | omega
  have hF := Fr.refl 562949953552385 h
  refine x_aload (np := 1) (x := 0) (by decide +kernel) rfl (x_nc_le (by decide)) ?_
  refine x_const (np := 2) (x := 9223372039002259456) (a := 2147483648) (by decide +kernel) (by decide) (by decide) ?_
  refine x_putI (np := 5) (x := 704) (f := 0) (by decide +kernel) (by decide +kernel) (by decide) (Or.inl (by decide)) ?_
  have j2 := jU (e := 0) (v := 2147483648) 0 hJ rg_75_0_0_1 (by first | decide | omega) (by first | decide | omega) (by first | decide | omega)
  have f4 := jF (e := 0) (v := 2147483648) 0 hF rg_75_0_0_1 (by first | decide | omega) (by first | decide | omega) (by decide)
  generalize e3 : x_up h 75 0 2147483648 = h1 at j2 f4 ⊢
  refine x_aload (np := 6) (x := 0) (by decide +kernel) rfl (x_nc_le (by decide)) ?_
  refine x_iload (np := 7) (x := 1) (by decide +kernel) rfl la1 ?_
  refine x_const (np := 8) (x := 9223372047592194050) (a := 2147483650) (by decide +kernel) (by decide) (by decide) ?_
  refine x_const (np := 10) (x := 9223372064772063238) (a := 2147483654) (by decide +kernel) (by decide) (by decide) ?_
  refine x_nI (t := 0) (mj := 153) (n := 3) (rc := 0) (ml := 3) (nr := 1) (np := 13) (as := [iv_c a1, iv_c 2147483650, iv_c 2147483654]) (rest := [x_r 75]) (lo1 := [iv_c a1, iv_c 2147483650, iv_c 2147483654]) (by decide +kernel) (by decide) (by decide +kernel) (Or.inl rfl) rfl rfl (x_wi la1 (x_wi (by decide) (x_wi (by decide) x_wn))) (x_wr (by decide) x_wn) (by decide) rfl ?_
  refine x_iload (np := 1) (x := 0) (by decide +kernel) rfl la1 ?_
  refine x_iload (np := 2) (x := 1) (by decide +kernel) rfl (by decide) ?_
  refine x_icmp (k := 2) (tg := 14) (np := 5) (by decide +kernel) (by decide) la1 (by decide) (fun q5 => ?_) (fun q6 => ?_)
  · have q5 : a1 < 2147483650 := q5
    refine x_const (np := 15) (x := 9223372039002259456) (a := 2147483648) (by decide +kernel) (by decide) (by decide) ?_
    refine x_retI (np := 16) (x := 0) (by decide +kernel) (by decide) (Or.inr ⟨by decide +kernel, by first | decide | omega, by first | decide | omega⟩) ⟨_, rfl, (by decide), ?_⟩
    refine x_ifz (k := 1) (tg := 20) (np := 16) (by decide +kernel) (by decide) (by decide) (fun q7 => ?_) (fun q8 => ?_)
    · have q7 : 2147483648 ≠ 2147483648 := q7
      exfalso; omega
    have q8 : ¬ (2147483648 ≠ 2147483648) := q8
    refine x_const (np := 17) (x := 9223372043297226753) (a := 2147483649) (by decide +kernel) (by decide) (by decide) ?_
    refine x_goto (np := 20) (x := 21) (by decide +kernel) ?_
    refine x_const (np := 22) (x := 9223372043297226753) (a := 2147483649) (by decide +kernel) (by decide) (by decide) ?_
    refine x_nI (t := 6) (mj := 152) (n := 3) (rc := 12) (ml := 3) (nr := 0) (np := 25) (as := [x_r 75, iv_c 2147483649, iv_c 2147483649]) (rest := []) (lo1 := [x_r 75, iv_c 2147483649, iv_c 2147483649]) (by decide +kernel) (by decide) (by decide +kernel) (x_rb_of (by decide +kernel)) rfl rfl (x_wr (by decide) (x_wi (by decide) (x_wi (by decide) x_wn))) x_wn (by decide) rfl ?_
    refine x_iload (np := 1) (x := 1) (by decide +kernel) rfl (by decide) ?_
    refine x_ifz (k := 0) (tg := 9) (np := 4) (by decide +kernel) (by decide) (by decide) (fun q9 => ?_) (fun q10 => ?_)
    · have q9 : 2147483649 = 2147483648 := q9
      exfalso; omega
    have q10 : ¬ (2147483649 = 2147483648) := q10
    refine x_aload (np := 5) (x := 0) (by decide +kernel) rfl (x_nc_le (by decide)) ?_
    refine x_iload (np := 6) (x := 2) (by decide +kernel) rfl (by decide) ?_
    refine x_putI (np := 9) (x := 704) (f := 0) (by decide +kernel) (by decide +kernel) (by decide) (Or.inl (by decide)) ?_
    have j12 := jU (e := 0) (v := 2147483649) 0 j2 rg_75_0_0_1 (by first | decide | omega) (by first | decide | omega) (by first | decide | omega)
    have f14 := jF (e := 0) (v := 2147483649) 0 f4 rg_75_0_0_1 (by first | decide | omega) (by first | decide | omega) (by decide)
    generalize e13 : x_up h1 75 0 2147483649 = h11 at j12 f14 ⊢
    refine x_iload (np := 10) (x := 1) (by decide +kernel) rfl (by decide) ?_
    refine x_retI (np := 11) (x := 0) (by decide +kernel) (by decide) (Or.inr ⟨by decide +kernel, by first | decide | omega, by first | decide | omega⟩) ⟨_, rfl, (by decide), ?_⟩
    refine x_ifz (k := 1) (tg := 50) (np := 28) (by decide +kernel) (by decide) (by decide) (fun q15 => ?_) (fun q16 => ?_)
    · have q15 : 2147483649 ≠ 2147483648 := q15
      have m18 : WT 76 h1 := by rw [← e3]; exact WT.oth hW hJ (by decide)
      have m17 : WT 76 h11 := by rw [← e13]; exact WT.oth m18 j2 (by decide)
      have q19 : h11 75 0 = 2147483649 := by rw [← e13]; exact x_up_at
      have b20 := jB (e := 0) 0 hJ rg_76_0_0_1 (by first | decide | omega) (by first | decide | omega)
      have q21 : h11 76 0 = h1 76 0 := by rw [← e13]; exact x_up_k (by decide)
      have q22 : h1 76 0 = h 76 0 := by rw [← e3]; exact x_up_k (by decide)
      have q23 : h11 76 1 = h1 76 1 := by rw [← e13]; exact x_up_k (by decide)
      have q24 : h1 76 1 = h 76 1 := by rw [← e3]; exact x_up_k (by decide)
      have b25 := jB (e := 2) 0 hJ rg_76_2_0_1 (by first | decide | omega) (by first | decide | omega)
      have q26 : h11 76 2 = h1 76 2 := by rw [← e13]; exact x_up_k (by decide)
      have q27 : h1 76 2 = h 76 2 := by rw [← e3]; exact x_up_k (by decide)
      have b28 := jB (e := 3) 0 hJ rg_76_3_0_1 (by first | decide | omega) (by first | decide | omega)
      have q29 : h11 76 3 = h1 76 3 := by rw [← e13]; exact x_up_k (by decide)
      have q30 : h1 76 3 = h 76 3 := by rw [← e3]; exact x_up_k (by decide)
      have b31 := jB (e := 4) 0 hJ rg_76_4_0_1 (by first | decide | omega) (by first | decide | omega)
      have q32 : h11 76 4 = h1 76 4 := by rw [← e13]; exact x_up_k (by decide)
      have q33 : h1 76 4 = h 76 4 := by rw [← e3]; exact x_up_k (by decide)
      have b34 := jB (e := 5) 0 hJ rg_76_5_0_1 (by first | decide | omega) (by first | decide | omega)
      have q35 : h11 76 5 = h1 76 5 := by rw [← e13]; exact x_up_k (by decide)
      have q36 : h1 76 5 = h 76 5 := by rw [← e3]; exact x_up_k (by decide)
      refine x_retV (np := 51) (x := 0) (by decide +kernel) (by decide +kernel) ⟨rfl, ?_⟩
      exact ⟨j12, f14, m17, ⟨(by first | decide | omega), (by first | decide | omega), (by first | decide | omega), (by first | decide | omega), (by first | decide | omega), (by first | decide | omega), (by first | decide | omega), (by first | decide | omega)⟩⟩
    have q16 : ¬ (2147483649 ≠ 2147483648) := q16
    exfalso; omega
  have q6 : ¬ (a1 < 2147483650) := q6
  refine x_iload (np := 6) (x := 0) (by decide +kernel) rfl la1 ?_
  refine x_iload (np := 7) (x := 2) (by decide +kernel) rfl (by decide) ?_
  refine x_icmp (k := 4) (tg := 14) (np := 10) (by decide +kernel) (by decide) la1 (by decide) (fun q37 => ?_) (fun q38 => ?_)
  · have q37 : 2147483654 < a1 := q37
    refine x_const (np := 15) (x := 9223372039002259456) (a := 2147483648) (by decide +kernel) (by decide) (by decide) ?_
    refine x_retI (np := 16) (x := 0) (by decide +kernel) (by decide) (Or.inr ⟨by decide +kernel, by first | decide | omega, by first | decide | omega⟩) ⟨_, rfl, (by decide), ?_⟩
    refine x_ifz (k := 1) (tg := 20) (np := 16) (by decide +kernel) (by decide) (by decide) (fun q39 => ?_) (fun q40 => ?_)
    · have q39 : 2147483648 ≠ 2147483648 := q39
      exfalso; omega
    have q40 : ¬ (2147483648 ≠ 2147483648) := q40
    refine x_const (np := 17) (x := 9223372043297226753) (a := 2147483649) (by decide +kernel) (by decide) (by decide) ?_
    refine x_goto (np := 20) (x := 21) (by decide +kernel) ?_
    refine x_const (np := 22) (x := 9223372043297226753) (a := 2147483649) (by decide +kernel) (by decide) (by decide) ?_
    refine x_nI (t := 6) (mj := 152) (n := 3) (rc := 12) (ml := 3) (nr := 0) (np := 25) (as := [x_r 75, iv_c 2147483649, iv_c 2147483649]) (rest := []) (lo1 := [x_r 75, iv_c 2147483649, iv_c 2147483649]) (by decide +kernel) (by decide) (by decide +kernel) (x_rb_of (by decide +kernel)) rfl rfl (x_wr (by decide) (x_wi (by decide) (x_wi (by decide) x_wn))) x_wn (by decide) rfl ?_
    refine x_iload (np := 1) (x := 1) (by decide +kernel) rfl (by decide) ?_
    refine x_ifz (k := 0) (tg := 9) (np := 4) (by decide +kernel) (by decide) (by decide) (fun q41 => ?_) (fun q42 => ?_)
    · have q41 : 2147483649 = 2147483648 := q41
      exfalso; omega
    have q42 : ¬ (2147483649 = 2147483648) := q42
    refine x_aload (np := 5) (x := 0) (by decide +kernel) rfl (x_nc_le (by decide)) ?_
    refine x_iload (np := 6) (x := 2) (by decide +kernel) rfl (by decide) ?_
    refine x_putI (np := 9) (x := 704) (f := 0) (by decide +kernel) (by decide +kernel) (by decide) (Or.inl (by decide)) ?_
    have j44 := jU (e := 0) (v := 2147483649) 0 j2 rg_75_0_0_1 (by first | decide | omega) (by first | decide | omega) (by first | decide | omega)
    have f46 := jF (e := 0) (v := 2147483649) 0 f4 rg_75_0_0_1 (by first | decide | omega) (by first | decide | omega) (by decide)
    generalize e45 : x_up h1 75 0 2147483649 = h43 at j44 f46 ⊢
    refine x_iload (np := 10) (x := 1) (by decide +kernel) rfl (by decide) ?_
    refine x_retI (np := 11) (x := 0) (by decide +kernel) (by decide) (Or.inr ⟨by decide +kernel, by first | decide | omega, by first | decide | omega⟩) ⟨_, rfl, (by decide), ?_⟩
    refine x_ifz (k := 1) (tg := 50) (np := 28) (by decide +kernel) (by decide) (by decide) (fun q47 => ?_) (fun q48 => ?_)
    · have q47 : 2147483649 ≠ 2147483648 := q47
      have m50 : WT 76 h1 := by rw [← e3]; exact WT.oth hW hJ (by decide)
      have m49 : WT 76 h43 := by rw [← e45]; exact WT.oth m50 j2 (by decide)
      have q51 : h43 75 0 = 2147483649 := by rw [← e45]; exact x_up_at
      have b52 := jB (e := 0) 0 hJ rg_76_0_0_1 (by first | decide | omega) (by first | decide | omega)
      have q53 : h43 76 0 = h1 76 0 := by rw [← e45]; exact x_up_k (by decide)
      have q54 : h1 76 0 = h 76 0 := by rw [← e3]; exact x_up_k (by decide)
      have q55 : h43 76 1 = h1 76 1 := by rw [← e45]; exact x_up_k (by decide)
      have q56 : h1 76 1 = h 76 1 := by rw [← e3]; exact x_up_k (by decide)
      have b57 := jB (e := 2) 0 hJ rg_76_2_0_1 (by first | decide | omega) (by first | decide | omega)
      have q58 : h43 76 2 = h1 76 2 := by rw [← e45]; exact x_up_k (by decide)
      have q59 : h1 76 2 = h 76 2 := by rw [← e3]; exact x_up_k (by decide)
      have b60 := jB (e := 3) 0 hJ rg_76_3_0_1 (by first | decide | omega) (by first | decide | omega)
      have q61 : h43 76 3 = h1 76 3 := by rw [← e45]; exact x_up_k (by decide)
      have q62 : h1 76 3 = h 76 3 := by rw [← e3]; exact x_up_k (by decide)
      have b63 := jB (e := 4) 0 hJ rg_76_4_0_1 (by first | decide | omega) (by first | decide | omega)
      have q64 : h43 76 4 = h1 76 4 := by rw [← e45]; exact x_up_k (by decide)
      have q65 : h1 76 4 = h 76 4 := by rw [← e3]; exact x_up_k (by decide)
      have b66 := jB (e := 5) 0 hJ rg_76_5_0_1 (by first | decide | omega) (by first | decide | omega)
      have q67 : h43 76 5 = h1 76 5 := by rw [← e45]; exact x_up_k (by decide)
      have q68 : h1 76 5 = h 76 5 := by rw [← e3]; exact x_up_k (by decide)
      refine x_retV (np := 51) (x := 0) (by decide +kernel) (by decide +kernel) ⟨rfl, ?_⟩
      exact ⟨j44, f46, m49, ⟨(by first | decide | omega), (by first | decide | omega), (by first | decide | omega), (by first | decide | omega), (by first | decide | omega), (by first | decide | omega), (by first | decide | omega), (by first | decide | omega)⟩⟩
    have q48 : ¬ (2147483649 ≠ 2147483648) := q48
    exfalso; omega
  have q38 : ¬ (2147483654 < a1) := q38
  refine x_const (np := 11) (x := 9223372043297226753) (a := 2147483649) (by decide +kernel) (by decide) (by decide) ?_
  refine x_goto (np := 14) (x := 15) (by decide +kernel) ?_
  refine x_retI (np := 16) (x := 0) (by decide +kernel) (by decide) (Or.inr ⟨by decide +kernel, by first | decide | omega, by first | decide | omega⟩) ⟨_, rfl, (by decide), ?_⟩
  refine x_ifz (k := 1) (tg := 20) (np := 16) (by decide +kernel) (by decide) (by decide) (fun q69 => ?_) (fun q70 => ?_)
  · have q69 : 2147483649 ≠ 2147483648 := q69
    refine x_const (np := 21) (x := 9223372039002259456) (a := 2147483648) (by decide +kernel) (by decide) (by decide) ?_
    refine x_const (np := 22) (x := 9223372043297226753) (a := 2147483649) (by decide +kernel) (by decide) (by decide) ?_
    refine x_nI (t := 6) (mj := 152) (n := 3) (rc := 12) (ml := 3) (nr := 0) (np := 25) (as := [x_r 75, iv_c 2147483648, iv_c 2147483649]) (rest := []) (lo1 := [x_r 75, iv_c 2147483648, iv_c 2147483649]) (by decide +kernel) (by decide) (by decide +kernel) (x_rb_of (by decide +kernel)) rfl rfl (x_wr (by decide) (x_wi (by decide) (x_wi (by decide) x_wn))) x_wn (by decide) rfl ?_
    refine x_iload (np := 1) (x := 1) (by decide +kernel) rfl (by decide) ?_
    refine x_ifz (k := 0) (tg := 9) (np := 4) (by decide +kernel) (by decide) (by decide) (fun q71 => ?_) (fun q72 => ?_)
    · have q71 : 2147483648 = 2147483648 := q71
      refine x_iload (np := 10) (x := 1) (by decide +kernel) rfl (by decide) ?_
      refine x_retI (np := 11) (x := 0) (by decide +kernel) (by decide) (Or.inr ⟨by decide +kernel, by first | decide | omega, by first | decide | omega⟩) ⟨_, rfl, (by decide), ?_⟩
      refine x_ifz (k := 1) (tg := 50) (np := 28) (by decide +kernel) (by decide) (by decide) (fun q73 => ?_) (fun q74 => ?_)
      · have q73 : 2147483648 ≠ 2147483648 := q73
        exfalso; omega
      have q74 : ¬ (2147483648 ≠ 2147483648) := q74
      refine x_aload (np := 29) (x := 0) (by decide +kernel) rfl (x_nc_le (by decide)) ?_
      refine x_aload (np := 30) (x := 0) (by decide +kernel) rfl (x_nc_le (by decide)) ?_
      have q75 : h1 75 1 = 76 := by have z := jB (e := 1) 0 j2 rg_75_1_0_1 (by decide) (by decide); omega
      refine x_getR (np := 33) (x := 705) (f := 1) (q := 76) (by decide +kernel) (by decide) (by decide +kernel) q75 ?_
      refine x_const (np := 34) (x := 9223372043297226753) (a := 2147483649) (by decide +kernel) (by decide) (by decide) ?_
      have q76 : h1 76 1 = h 76 1 := by rw [← e3]; exact x_up_k (by decide)
      refine x_aldC (np := 35) (x := 0) (n := 1952) (i := 1) (q := (h 76 1)) (by decide +kernel) (by decide +kernel) (by first | decide | omega) (by first | decide | omega) (by decide) q76 (fun l77 => ?_)
      refine x_ifz (k := 5) (tg := 42) (np := 38) (by decide +kernel) (by decide) l77 (fun q78 => ?_) (fun q79 => ?_)
      · have q78 : (h 76 1) ≤ 2147483648 := q78
        refine x_const (np := 43) (x := 9223372039002259456) (a := 2147483648) (by decide +kernel) (by decide) (by decide) ?_
        refine x_const (np := 44) (x := 9223372047592194050) (a := 2147483650) (by decide +kernel) (by decide) (by decide) ?_
        refine x_nI (t := 6) (mj := 152) (n := 3) (rc := 12) (ml := 3) (nr := 0) (np := 47) (as := [x_r 75, iv_c 2147483648, iv_c 2147483650]) (rest := []) (lo1 := [x_r 75, iv_c 2147483648, iv_c 2147483650]) (by decide +kernel) (by decide) (by decide +kernel) (x_rb_of (by decide +kernel)) rfl rfl (x_wr (by decide) (x_wi (by decide) (x_wi (by decide) x_wn))) x_wn (by decide) rfl ?_
        refine x_iload (np := 1) (x := 1) (by decide +kernel) rfl (by decide) ?_
        refine x_ifz (k := 0) (tg := 9) (np := 4) (by decide +kernel) (by decide) (by decide) (fun q80 => ?_) (fun q81 => ?_)
        · have q80 : 2147483648 = 2147483648 := q80
          refine x_iload (np := 10) (x := 1) (by decide +kernel) rfl (by decide) ?_
          refine x_retI (np := 11) (x := 0) (by decide +kernel) (by decide) (Or.inr ⟨by decide +kernel, by first | decide | omega, by first | decide | omega⟩) ⟨_, rfl, (by decide), ?_⟩
          refine x_ifz (k := 0) (tg := 51) (np := 50) (by decide +kernel) (by decide) (by decide) (fun q82 => ?_) (fun q83 => ?_)
          · have q82 : 2147483648 = 2147483648 := q82
            refine x_aload (np := 52) (x := 0) (by decide +kernel) rfl (x_nc_le (by decide)) ?_
            have q84 : h1 75 1 = 76 := by have z := jB (e := 1) 0 j2 rg_75_1_0_1 (by decide) (by decide); omega
            refine x_getR (np := 55) (x := 705) (f := 1) (q := 76) (by decide +kernel) (by decide) (by decide +kernel) q84 ?_
            refine x_const (np := 56) (x := 9223372039002259456) (a := 2147483648) (by decide +kernel) (by decide) (by decide) ?_
            refine x_iload (np := 57) (x := 1) (by decide +kernel) rfl la1 ?_
            refine x_ast (np := 58) (x := 0) (kd := 1) (n := 1952) (i := 0) (by decide +kernel) (Or.inl rfl) (by decide +kernel) (by first | decide | omega) (by first | decide | omega) (by decide) la1 (fun z => absurd z (by decide)) ?_
            have j86 := jU (e := 0) (v := a1) 0 j2 rg_76_0_0_1 (by first | decide | omega) (by first | decide | omega) (by first | decide | omega)
            have f88 := jF (e := 0) (v := a1) 0 f4 rg_76_0_0_1 (by first | decide | omega) (by first | decide | omega) (by decide)
            generalize e87 : x_up h1 76 0 a1 = h85 at j86 f88 ⊢
            have m90 : WT 76 h1 := by rw [← e3]; exact WT.oth hW hJ (by decide)
            have m89 : WT 76 h85 := by rw [← e87]; exact WT.up m90 j2 (by first | decide | omega)
            have q91 : h85 75 0 = h1 75 0 := by rw [← e87]; exact x_up_k (by decide)
            have q92 : h1 75 0 = 2147483648 := by rw [← e3]; exact x_up_at
            have b93 := jB (e := 0) 0 hJ rg_76_0_0_1 (by first | decide | omega) (by first | decide | omega)
            have q94 : h85 76 0 = a1 := by rw [← e87]; exact x_up_at
            have q95 : h85 76 1 = h1 76 1 := by rw [← e87]; exact x_up_i (by first | decide | omega)
            have q96 : h1 76 1 = h 76 1 := by rw [← e3]; exact x_up_k (by decide)
            have b97 := jB (e := 2) 0 hJ rg_76_2_0_1 (by first | decide | omega) (by first | decide | omega)
            have q98 : h85 76 2 = h1 76 2 := by rw [← e87]; exact x_up_i (by first | decide | omega)
            have q99 : h1 76 2 = h 76 2 := by rw [← e3]; exact x_up_k (by decide)
            have b100 := jB (e := 3) 0 hJ rg_76_3_0_1 (by first | decide | omega) (by first | decide | omega)
            have q101 : h85 76 3 = h1 76 3 := by rw [← e87]; exact x_up_i (by first | decide | omega)
            have q102 : h1 76 3 = h 76 3 := by rw [← e3]; exact x_up_k (by decide)
            have b103 := jB (e := 4) 0 hJ rg_76_4_0_1 (by first | decide | omega) (by first | decide | omega)
            have q104 : h85 76 4 = h1 76 4 := by rw [← e87]; exact x_up_i (by first | decide | omega)
            have q105 : h1 76 4 = h 76 4 := by rw [← e3]; exact x_up_k (by decide)
            have b106 := jB (e := 5) 0 hJ rg_76_5_0_1 (by first | decide | omega) (by first | decide | omega)
            have q107 : h85 76 5 = h1 76 5 := by rw [← e87]; exact x_up_i (by first | decide | omega)
            have q108 : h1 76 5 = h 76 5 := by rw [← e3]; exact x_up_k (by decide)
            refine x_retV (np := 59) (x := 0) (by decide +kernel) (by decide +kernel) ⟨rfl, ?_⟩
            exact ⟨j86, f88, m89, ⟨(by first | decide | omega), (by first | decide | omega), (by first | decide | omega), (by first | decide | omega), (by first | decide | omega), (by first | decide | omega), (by first | decide | omega), (by first | decide | omega)⟩⟩
          have q83 : ¬ (2147483648 = 2147483648) := q83
          exfalso; omega
        have q81 : ¬ (2147483648 = 2147483648) := q81
        exfalso; omega
      have q79 : ¬ ((h 76 1) ≤ 2147483648) := q79
      refine x_const (np := 39) (x := 9223372043297226753) (a := 2147483649) (by decide +kernel) (by decide) (by decide) ?_
      refine x_goto (np := 42) (x := 43) (by decide +kernel) ?_
      refine x_const (np := 44) (x := 9223372047592194050) (a := 2147483650) (by decide +kernel) (by decide) (by decide) ?_
      refine x_nI (t := 6) (mj := 152) (n := 3) (rc := 12) (ml := 3) (nr := 0) (np := 47) (as := [x_r 75, iv_c 2147483649, iv_c 2147483650]) (rest := []) (lo1 := [x_r 75, iv_c 2147483649, iv_c 2147483650]) (by decide +kernel) (by decide) (by decide +kernel) (x_rb_of (by decide +kernel)) rfl rfl (x_wr (by decide) (x_wi (by decide) (x_wi (by decide) x_wn))) x_wn (by decide) rfl ?_
      refine x_iload (np := 1) (x := 1) (by decide +kernel) rfl (by decide) ?_
      refine x_ifz (k := 0) (tg := 9) (np := 4) (by decide +kernel) (by decide) (by decide) (fun q109 => ?_) (fun q110 => ?_)
      · have q109 : 2147483649 = 2147483648 := q109
        exfalso; omega
      have q110 : ¬ (2147483649 = 2147483648) := q110
      refine x_aload (np := 5) (x := 0) (by decide +kernel) rfl (x_nc_le (by decide)) ?_
      refine x_iload (np := 6) (x := 2) (by decide +kernel) rfl (by decide) ?_
      refine x_putI (np := 9) (x := 704) (f := 0) (by decide +kernel) (by decide +kernel) (by decide) (Or.inl (by decide)) ?_
      have j112 := jU (e := 0) (v := 2147483650) 0 j2 rg_75_0_0_1 (by first | decide | omega) (by first | decide | omega) (by first | decide | omega)
      have f114 := jF (e := 0) (v := 2147483650) 0 f4 rg_75_0_0_1 (by first | decide | omega) (by first | decide | omega) (by decide)
      generalize e113 : x_up h1 75 0 2147483650 = h111 at j112 f114 ⊢
      refine x_iload (np := 10) (x := 1) (by decide +kernel) rfl (by decide) ?_
      refine x_retI (np := 11) (x := 0) (by decide +kernel) (by decide) (Or.inr ⟨by decide +kernel, by first | decide | omega, by first | decide | omega⟩) ⟨_, rfl, (by decide), ?_⟩
      refine x_ifz (k := 0) (tg := 51) (np := 50) (by decide +kernel) (by decide) (by decide) (fun q115 => ?_) (fun q116 => ?_)
      · have q115 : 2147483649 = 2147483648 := q115
        exfalso; omega
      have q116 : ¬ (2147483649 = 2147483648) := q116
      have m118 : WT 76 h1 := by rw [← e3]; exact WT.oth hW hJ (by decide)
      have m117 : WT 76 h111 := by rw [← e113]; exact WT.oth m118 j2 (by decide)
      have q119 : h111 75 0 = 2147483650 := by rw [← e113]; exact x_up_at
      have b120 := jB (e := 0) 0 hJ rg_76_0_0_1 (by first | decide | omega) (by first | decide | omega)
      have q121 : h111 76 0 = h1 76 0 := by rw [← e113]; exact x_up_k (by decide)
      have q122 : h1 76 0 = h 76 0 := by rw [← e3]; exact x_up_k (by decide)
      have q123 : h111 76 1 = h1 76 1 := by rw [← e113]; exact x_up_k (by decide)
      have q124 : h1 76 1 = h 76 1 := by rw [← e3]; exact x_up_k (by decide)
      have b125 := jB (e := 2) 0 hJ rg_76_2_0_1 (by first | decide | omega) (by first | decide | omega)
      have q126 : h111 76 2 = h1 76 2 := by rw [← e113]; exact x_up_k (by decide)
      have q127 : h1 76 2 = h 76 2 := by rw [← e3]; exact x_up_k (by decide)
      have b128 := jB (e := 3) 0 hJ rg_76_3_0_1 (by first | decide | omega) (by first | decide | omega)
      have q129 : h111 76 3 = h1 76 3 := by rw [← e113]; exact x_up_k (by decide)
      have q130 : h1 76 3 = h 76 3 := by rw [← e3]; exact x_up_k (by decide)
      have b131 := jB (e := 4) 0 hJ rg_76_4_0_1 (by first | decide | omega) (by first | decide | omega)
      have q132 : h111 76 4 = h1 76 4 := by rw [← e113]; exact x_up_k (by decide)
      have q133 : h1 76 4 = h 76 4 := by rw [← e3]; exact x_up_k (by decide)
      have b134 := jB (e := 5) 0 hJ rg_76_5_0_1 (by first | decide | omega) (by first | decide | omega)
      have q135 : h111 76 5 = h1 76 5 := by rw [← e113]; exact x_up_k (by decide)
      have q136 : h1 76 5 = h 76 5 := by rw [← e3]; exact x_up_k (by decide)
      refine x_retV (np := 51) (x := 0) (by decide +kernel) (by decide +kernel) ⟨rfl, ?_⟩
      exact ⟨j112, f114, m117, ⟨(by first | decide | omega), (by first | decide | omega), (by first | decide | omega), (by first | decide | omega), (by first | decide | omega), (by first | decide | omega), (by first | decide | omega), (by first | decide | omega)⟩⟩
    have q72 : ¬ (2147483648 = 2147483648) := q72
    exfalso; omega
  have q70 : ¬ (2147483649 ≠ 2147483648) := q70
  exfalso; omega
set_option maxHeartbeats 0 in
/-- LentNamesModel.endsTo(III)V -/
theorem c205_75 {sc : Nat × Nat} {d a1 a2 a3 n0 : Nat} {h : xh} (hJ : J h) (ba1 : 2147483648 ≤ a1 ∧ a1 ≤ 2147483653) (ba2 : 2147483648 ≤ a2 ∧ a2 ≤ 2147483668) (ba3 : 2147483648 ≤ a3 ∧ a3 ≤ 2147483659) (hM : MB 6 n0 h) : X sc 205 d (xV fun h' => J h' ∧ Fr 42949672961 h h' ∧ MB 6 n0 h' ∧ (∀ u, a1 = 2147483648 + u → h' 83 u ≤ a2)) 0 0 0 [x_r 75, iv_c a1, iv_c a2, iv_c a3] [] h := by
  have la1 : a1 < 4294967296 := by first | decide | omega
  have la2 : a2 < 4294967296 := by first | decide | omega
  have la3 : a3 < 4294967296 := by first | decide | omega
  have hF := Fr.refl 42949672961 h
  obtain ⟨u1, q2⟩ : ∃ z, a1 = 2147483648 + z := ⟨a1 - 2147483648, by first | decide | omega⟩
  have p78 : ∀ (n : Nat) (h75 : xh), h75 83 u1 < n → J h75 → Fr 42949672960 h h75 → MB 6 n0 h75 → X sc 205 d (xV fun h' => J h' ∧ Fr 42949672961 h h' ∧ MB 6 n0 h' ∧ (∀ u, a1 = 2147483648 + u → h' 83 u ≤ a2)) 0 0 0 [x_r 75, iv_c a1, iv_c a2, iv_c a3] [] h75 := by
    intro n
    induction n with
    | zero => intro h75 q80; exact absurd q80 (Nat.not_lt_zero _)
    | succ n i81 =>
      intro h75 q80 j77 f76 m79
      have f82 := Fr.trans hF f76 (by decide)
      refine x_aload (np := 1) (x := 0) (by decide +kernel) rfl (x_nc_le (by decide)) ?_
      have q83 : h75 75 16 = 83 := by have z := jB (e := 16) 0 j77 rg_75_16_0_1 (by decide) (by decide); omega
      refine x_getR (np := 4) (x := 720) (f := 16) (q := 83) (by decide +kernel) (by decide) (by decide +kernel) q83 ?_
      refine x_iload (np := 5) (x := 1) (by decide +kernel) rfl la1 ?_
      have b84 := jB (e := u1) u1 j77 rg_83_0_1_6 (by first | decide | omega) (by first | decide | omega)
      refine x_aldC (np := 6) (x := 0) (n := 6) (i := u1) (q := (h75 83 u1)) (by decide +kernel) (by decide +kernel) (by first | decide | omega) (by first | decide | omega) (by decide) rfl (fun l85 => ?_)
      refine x_iload (np := 7) (x := 2) (by decide +kernel) rfl la2 ?_
      refine x_icmp (k := 5) (tg := 45) (np := 10) (by decide +kernel) (by decide) l85 la2 (fun q86 => ?_) (fun q87 => ?_)
      · have q86 : (h75 83 u1) ≤ a2 := q86
        refine x_retV (np := 46) (x := 0) (by decide +kernel) (by decide +kernel) ⟨rfl, ?_⟩
        have p88 : ∀ u, a1 = 2147483648 + u → h75 83 u ≤ a2 := fun u e => by
          have z : u = u1 := by first | decide | omega
          rw [z]
          omega
        exact ⟨j77, f82, m79, p88⟩
      have q87 : ¬ ((h75 83 u1) ≤ a2) := q87
      refine x_aload (np := 11) (x := 0) (by decide +kernel) rfl (x_nc_le (by decide)) ?_
      have q89 : h75 75 16 = 83 := by have z := jB (e := 16) 0 j77 rg_75_16_0_1 (by decide) (by decide); omega
      refine x_getR (np := 14) (x := 720) (f := 16) (q := 83) (by decide +kernel) (by decide) (by decide +kernel) q89 ?_
      refine x_iload (np := 15) (x := 1) (by decide +kernel) rfl la1 ?_
      refine x_dup2 (np := 16) (x := 0) (by decide +kernel) (by have z := (iw_c_lt (a := a1) la1).1; omega) (by have z := x_nc_le (k := 83) (by decide); unfold x_r; omega) ?_
      refine x_aldC (np := 17) (x := 0) (n := 6) (i := u1) (q := (h75 83 u1)) (by decide +kernel) (by decide +kernel) (by first | decide | omega) (by first | decide | omega) (by decide) rfl (fun l90 => ?_)
      refine x_const (np := 18) (x := 9223372043297226753) (a := 2147483649) (by decide +kernel) (by decide) (by decide) ?_
      obtain ⟨v91, q92⟩ : ∃ z, z + 2147483649 = (h75 83 u1) + 2147483648 := ⟨(h75 83 u1) + 2147483648 - 2147483649, by first | decide | omega⟩
      refine x_isub (np := 19) (x := 0) (v := v91) (by decide +kernel) l85 (by decide) (by first | decide | omega) (by first | decide | omega) ?_
      refine x_ast (np := 20) (x := 0) (kd := 1) (n := 6) (i := u1) (by decide +kernel) (Or.inl rfl) (by decide +kernel) (by first | decide | omega) (by first | decide | omega) (by decide) (by first | decide | omega) (fun z => absurd z (by decide)) ?_
      have j94 := jU (e := u1) (v := v91) u1 j77 rg_83_0_1_6 (by first | decide | omega) (by first | decide | omega) (by first | decide | omega)
      have f96 := jF (e := u1) (v := v91) u1 f82 rg_83_0_1_6 (by first | decide | omega) (by first | decide | omega) (by decide)
      have f97 := jF (e := u1) (v := v91) u1 f76 rg_83_0_1_6 (by first | decide | omega) (by first | decide | omega) (by decide)
      have m98 := MB.up (e := u1) (v := v91) m79 (by have z := m79 u1 (by first | decide | omega); omega)
      generalize e95 : x_up h75 83 u1 v91 = h93 at j94 f96 f97 m98 ⊢
      refine x_aload (np := 21) (x := 0) (by decide +kernel) rfl (x_nc_le (by decide)) ?_
      have q99 : h93 75 22 = 89 := by have z := jB (e := 22) 0 j94 rg_75_22_0_1 (by decide) (by decide); omega
      refine x_getR (np := 24) (x := 726) (f := 22) (q := 89) (by decide +kernel) (by decide) (by decide +kernel) q99 ?_
      refine x_aload (np := 25) (x := 0) (by decide +kernel) rfl (x_nc_le (by decide)) ?_
      have q100 : h93 75 17 = 84 := by have z := jB (e := 17) 0 j94 rg_75_17_0_1 (by decide) (by decide); omega
      refine x_getR (np := 28) (x := 721) (f := 17) (q := 84) (by decide +kernel) (by decide) (by decide +kernel) q100 ?_
      refine x_const (np := 30) (x := 9223372124901605396) (a := 2147483668) (by decide +kernel) (by decide) (by decide) ?_
      refine x_iload (np := 31) (x := 1) (by decide +kernel) rfl la1 ?_
      refine x_imul (np := 32) (x := 0) (i := 20) (j := u1) (v := (2147483648 + 20 * u1)) (by decide +kernel) (by first | decide | omega) (by first | decide | omega) (by first | decide | omega) (by first | decide | omega) (by decide) la1 ?_
      refine x_aload (np := 33) (x := 0) (by decide +kernel) rfl (x_nc_le (by decide)) ?_
      have q102 : h93 75 16 = 83 := by have z := jB (e := 16) 0 j94 rg_75_16_0_1 (by decide) (by decide); omega
      refine x_getR (np := 36) (x := 720) (f := 16) (q := 83) (by decide +kernel) (by decide) (by decide +kernel) q102 ?_
      refine x_iload (np := 37) (x := 1) (by decide +kernel) rfl la1 ?_
      have q103 : h93 83 u1 = v91 := by rw [← e95]; exact x_up_at
      refine x_aldC (np := 38) (x := 0) (n := 6) (i := u1) (q := v91) (by decide +kernel) (by decide +kernel) (by first | decide | omega) (by first | decide | omega) (by decide) q103 (fun l104 => ?_)
      refine x_iadd (np := 39) (x := 0) (v := (20 * u1 + v91)) (by decide +kernel) (by first | decide | omega) l104 (by first | decide | omega) (by first | decide | omega) ?_
      obtain ⟨u105, q106⟩ : ∃ z, v91 = 2147483648 + z := ⟨v91 - 2147483648, by first | decide | omega⟩
      have q107 : h93 84 (20 * u1 + u105) = h75 84 (20 * u1 + u105) := by rw [← e95]; exact x_up_k (by decide)
      have q108 : h75 84 (20 * u1 + u105) = h 84 (20 * u1 + u105) := jK (20 * u1 + u105) f76 rg_84_0_1_120 (by first | decide | omega) (by first | decide | omega) (by decide)
      have b109 := jB (e := (20 * u1 + u105)) (20 * u1 + u105) hJ rg_84_0_1_120 (by first | decide | omega) (by first | decide | omega)
      refine x_aldC (np := 40) (x := 0) (n := 120) (i := (20 * u1 + u105)) (q := ((h 84 (20 * u1 + u105)))) (by decide +kernel) (by decide +kernel) (by first | decide | omega) (by first | decide | omega) (by decide) (q107.trans q108) (fun l110 => ?_)
      refine x_iload (np := 41) (x := 3) (by decide +kernel) rfl la3 ?_
      obtain ⟨u111, q112⟩ : ∃ z, ((h 84 (20 * u1 + u105))) = 2147483648 + z := ⟨((h 84 (20 * u1 + u105))) - 2147483648, by first | decide | omega⟩
      refine x_ast (np := 42) (x := 0) (kd := 1) (n := 20) (i := u111) (by decide +kernel) (Or.inl rfl) (by decide +kernel) (by first | decide | omega) (by first | decide | omega) (by decide) la3 (fun z => absurd z (by decide)) ?_
      have j114 := jU (e := u111) (v := a3) u111 j94 rg_89_0_1_20 (by first | decide | omega) (by first | decide | omega) (by first | decide | omega)
      have f116 := jF (e := u111) (v := a3) u111 f96 rg_89_0_1_20 (by first | decide | omega) (by first | decide | omega) (by decide)
      have f117 := jF (e := u111) (v := a3) u111 f97 rg_89_0_1_20 (by first | decide | omega) (by first | decide | omega) (by decide)
      have m118 := MB.oth (q := 89) (e := u111) (v := a3) m98 (by decide)
      generalize e115 : x_up h93 89 u111 a3 = h113 at j114 f116 f117 m118 ⊢
      refine x_goto (np := 45) (x := 0) (by decide +kernel) ?_
      have q119 : h113 83 u1 = h93 83 u1 := by rw [← e115]; exact x_up_k (by decide)
      have q120 : h93 83 u1 = v91 := by rw [← e95]; exact x_up_at
      exact i81  h113 (by first | decide | omega) j114 f117 m118
  exact p78 _  h (Nat.lt_succ_self _) hJ (Fr.refl _ _) hM
set_option maxHeartbeats 0 in
/-- LentNamesModel.ends(II)V -/
theorem c206_75 {sc : Nat × Nat} {d a1 a2 n0 : Nat} {h : xh} (hJ : J h) (ba1 : 2147483648 ≤ a1 ∧ a1 ≤ 2147483653) (ba2 : 2147483648 ≤ a2 ∧ a2 ≤ 2147483659) (hM : MB 6 n0 h) : X sc 206 (d + 2) (xV fun h' => J h' ∧ Fr 42949672961 h h' ∧ MB 6 n0 h') 0 0 0 [x_r 75, iv_c a1, iv_c a2, 147573952589676412928] [] h := by
  have la1 : a1 < 4294967296 := by first | decide | omega
  have la2 : a2 < 4294967296 := by first | decide | omega
  have hF := Fr.refl 42949672961 h
  refine x_const (np := 1) (x := 9223372039002259456) (a := 2147483648) (by decide +kernel) (by decide) (by decide) ?_
  refine x_istore (np := 2) (x := 3) (lo' := [x_r 75, iv_c a1, iv_c a2, iv_c 2147483648]) (by decide +kernel) (by decide) (Nat.le_of_ble_eq_true rfl) rfl ?_
  have p513 : ∀ (n : Nat) (v511 : Nat), 4294967296 - v511 < n → (2147483648 ≤ v511 ∧ v511 ≤ 2147483668) → X sc 206 (d + 2) (xV fun h' => J h' ∧ Fr 42949672961 h h' ∧ MB 6 n0 h') 0 0 2 [x_r 75, iv_c a1, iv_c a2, iv_c v511] [] h := by
    intro n
    induction n with
    | zero => intro v511 q514; exact absurd q514 (Nat.not_lt_zero _)
    | succ n i515 =>
      intro v511 q514 b512
      refine x_iload (np := 3) (x := 3) (by decide +kernel) rfl (by first | decide | omega) ?_
      refine x_aload (np := 4) (x := 0) (by decide +kernel) rfl (x_nc_le (by decide)) ?_
      have q516 : h 75 16 = 83 := by have z := jB (e := 16) 0 hJ rg_75_16_0_1 (by decide) (by decide); omega
      refine x_getR (np := 7) (x := 720) (f := 16) (q := 83) (by decide +kernel) (by decide) (by decide +kernel) q516 ?_
      refine x_iload (np := 8) (x := 1) (by decide +kernel) rfl la1 ?_
      obtain ⟨u517, q518⟩ : ∃ z, a1 = 2147483648 + z := ⟨a1 - 2147483648, by first | decide | omega⟩
      have b519 := jB (e := u517) u517 hJ rg_83_0_1_6 (by first | decide | omega) (by first | decide | omega)
      refine x_aldC (np := 9) (x := 0) (n := 6) (i := u517) (q := (h 83 u517)) (by decide +kernel) (by decide +kernel) (by first | decide | omega) (by first | decide | omega) (by decide) rfl (fun l520 => ?_)
      refine x_icmp (k := 3) (tg := 37) (np := 12) (by decide +kernel) (by decide) (by first | decide | omega) l520 (fun q521 => ?_) (fun q522 => ?_)
      · have q521 : (h 83 u517) ≤ v511 := q521
        refine x_aload (np := 38) (x := 0) (by decide +kernel) rfl (x_nc_le (by decide)) ?_
        refine x_iload (np := 39) (x := 1) (by decide +kernel) rfl la1 ?_
        refine x_iload (np := 40) (x := 3) (by decide +kernel) rfl (by first | decide | omega) ?_
        refine x_iload (np := 41) (x := 2) (by decide +kernel) rfl la2 ?_
        refine x_cV (t := 6) (mj := 205) (n := 4) (rc := 12) (ml := 4) (nr := 0) (np := 44) (as := [x_r 75, iv_c a1, iv_c v511, iv_c a2]) (rest := []) (lo1 := [x_r 75, iv_c a1, iv_c v511, iv_c a2]) (by decide +kernel) (by decide) (by decide +kernel) (x_rb_of (by decide +kernel)) rfl rfl (x_wr (by decide) (x_wi la1 (x_wi (by first | decide | omega) (x_wi la2 x_wn)))) x_wn (by decide) rfl (c205_75 (n0 := n0) hJ  (by first | decide | omega) (by first | decide | omega) (by first | decide | omega)  hM) (fun h526 q525 => ?_)
        obtain ⟨j527, f528, m530, p529⟩ := q525
        have b531 := p529 u517 (by first | decide | omega)
        have f532 := Fr.trans hF f528 (by decide)
        refine x_retV (np := 45) (x := 0) (by decide +kernel) (by decide +kernel) ⟨rfl, ?_⟩
        exact ⟨j527, f532, m530⟩
      have q522 : ¬ ((h 83 u517) ≤ v511) := q522
      refine x_aload (np := 13) (x := 0) (by decide +kernel) rfl (x_nc_le (by decide)) ?_
      refine x_aload (np := 14) (x := 0) (by decide +kernel) rfl (x_nc_le (by decide)) ?_
      have q533 : h 75 17 = 84 := by have z := jB (e := 17) 0 hJ rg_75_17_0_1 (by decide) (by decide); omega
      refine x_getR (np := 17) (x := 721) (f := 17) (q := 84) (by decide +kernel) (by decide) (by decide +kernel) q533 ?_
      refine x_const (np := 19) (x := 9223372124901605396) (a := 2147483668) (by decide +kernel) (by decide) (by decide) ?_
      refine x_iload (np := 20) (x := 1) (by decide +kernel) rfl la1 ?_
      refine x_imul (np := 21) (x := 0) (i := 20) (j := u517) (v := (2147483648 + 20 * u517)) (by decide +kernel) (by first | decide | omega) (by first | decide | omega) (by first | decide | omega) (by first | decide | omega) (by decide) la1 ?_
      refine x_iload (np := 22) (x := 3) (by decide +kernel) rfl (by first | decide | omega) ?_
      refine x_iadd (np := 23) (x := 0) (v := (20 * u517 + v511)) (by decide +kernel) (by first | decide | omega) (by first | decide | omega) (by first | decide | omega) (by first | decide | omega) ?_
      obtain ⟨u535, q536⟩ : ∃ z, v511 = 2147483648 + z := ⟨v511 - 2147483648, by first | decide | omega⟩
      have b537 := jB (e := (20 * u517 + u535)) (20 * u517 + u535) hJ rg_84_0_1_120 (by first | decide | omega) (by first | decide | omega)
      refine x_aldC (np := 24) (x := 0) (n := 120) (i := (20 * u517 + u535)) (q := ((h 84 (20 * u517 + u535)))) (by decide +kernel) (by decide +kernel) (by first | decide | omega) (by first | decide | omega) (by decide) rfl (fun l538 => ?_)
      refine x_nI (t := 6) (mj := 201) (n := 2) (rc := 12) (ml := 2) (nr := 0) (np := 27) (as := [x_r 75, iv_c ((h 84 (20 * u517 + u535)))]) (rest := []) (lo1 := [x_r 75, iv_c ((h 84 (20 * u517 + u535)))]) (by decide +kernel) (by decide) (by decide +kernel) (x_rb_of (by decide +kernel)) rfl rfl (x_wr (by decide) (x_wi l538 x_wn)) x_wn (by decide) rfl ?_
      refine x_aload (np := 1) (x := 0) (by decide +kernel) rfl (x_nc_le (by decide)) ?_
      refine x_iload (np := 2) (x := 1) (by decide +kernel) rfl l538 ?_
      refine x_const (np := 3) (x := 9223372047592194050) (a := 2147483650) (by decide +kernel) (by decide) (by decide) ?_
      refine x_nI (t := 6) (mj := 161) (n := 3) (rc := 12) (ml := 3) (nr := 0) (np := 6) (as := [x_r 75, iv_c ((h 84 (20 * u517 + u535))), iv_c 2147483650]) (rest := []) (lo1 := [x_r 75, iv_c ((h 84 (20 * u517 + u535))), iv_c 2147483650]) (by decide +kernel) (by decide) (by decide +kernel) (x_rb_of (by decide +kernel)) rfl rfl (x_wr (by decide) (x_wi l538 (x_wi (by decide) x_wn))) x_wn (by decide) rfl ?_
      refine x_aload (np := 1) (x := 0) (by decide +kernel) rfl (x_nc_le (by decide)) ?_
      have q539 : h 75 1 = 76 := by have z := jB (e := 1) 0 hJ rg_75_1_0_1 (by decide) (by decide); omega
      refine x_getR (np := 4) (x := 705) (f := 1) (q := 76) (by decide +kernel) (by decide) (by decide +kernel) q539 ?_
      refine x_const (np := 6) (x := 9223372124901605396) (a := 2147483668) (by decide +kernel) (by decide) (by decide) ?_
      refine x_const (np := 8) (x := 9223372069067030535) (a := 2147483655) (by decide +kernel) (by decide) (by decide) ?_
      refine x_iload (np := 9) (x := 1) (by decide +kernel) rfl l538 ?_
      obtain ⟨u540, q541⟩ : ∃ z, ((h 84 (20 * u517 + u535))) = 2147483648 + z := ⟨((h 84 (20 * u517 + u535))) - 2147483648, by first | decide | omega⟩
      refine x_imul (np := 10) (x := 0) (i := 7) (j := u540) (v := (2147483648 + 7 * u540)) (by decide +kernel) (by first | decide | omega) (by first | decide | omega) (by first | decide | omega) (by first | decide | omega) (by decide) l538 ?_
      refine x_iadd (np := 11) (x := 0) (v := (2147483668 + 7 * u540)) (by decide +kernel) (by decide) (by first | decide | omega) (by first | decide | omega) (by first | decide | omega) ?_
      refine x_iload (np := 12) (x := 2) (by decide +kernel) rfl (by decide) ?_
      refine x_iadd (np := 13) (x := 0) (v := (2147483670 + 7 * u540)) (by decide +kernel) (by first | decide | omega) (by decide) (by first | decide | omega) (by first | decide | omega) ?_
      refine x_aldC (np := 14) (x := 0) (n := 1952) (i := (22 + 7 * u540)) (q := ((h 76 (22 + 7 * u540)))) (by decide +kernel) (by decide +kernel) (by first | decide | omega) (by first | decide | omega) (by decide) rfl (fun l543 => ?_)
      refine x_retI (np := 15) (x := 0) (by decide +kernel) l543 (Or.inl (by decide +kernel)) ⟨_, rfl, l543, ?_⟩
      refine x_aload (np := 7) (x := 0) (by decide +kernel) rfl (x_nc_le (by decide)) ?_
      refine x_iload (np := 8) (x := 1) (by decide +kernel) rfl l538 ?_
      refine x_const (np := 9) (x := 9223372051887161347) (a := 2147483651) (by decide +kernel) (by decide) (by decide) ?_
      refine x_nI (t := 6) (mj := 161) (n := 3) (rc := 12) (ml := 3) (nr := 1) (np := 12) (as := [x_r 75, iv_c ((h 84 (20 * u517 + u535))), iv_c 2147483651]) (rest := [iv_c ((h 76 (22 + 7 * u540)))]) (lo1 := [x_r 75, iv_c ((h 84 (20 * u517 + u535))), iv_c 2147483651]) (by decide +kernel) (by decide) (by decide +kernel) (x_rb_of (by decide +kernel)) rfl rfl (x_wr (by decide) (x_wi l538 (x_wi (by decide) x_wn))) (x_wi l543 x_wn) (by decide) rfl ?_
      refine x_aload (np := 1) (x := 0) (by decide +kernel) rfl (x_nc_le (by decide)) ?_
      have q544 : h 75 1 = 76 := by have z := jB (e := 1) 0 hJ rg_75_1_0_1 (by decide) (by decide); omega
      refine x_getR (np := 4) (x := 705) (f := 1) (q := 76) (by decide +kernel) (by decide) (by decide +kernel) q544 ?_
      refine x_const (np := 6) (x := 9223372124901605396) (a := 2147483668) (by decide +kernel) (by decide) (by decide) ?_
      refine x_const (np := 8) (x := 9223372069067030535) (a := 2147483655) (by decide +kernel) (by decide) (by decide) ?_
      refine x_iload (np := 9) (x := 1) (by decide +kernel) rfl l538 ?_
      refine x_imul (np := 10) (x := 0) (i := 7) (j := u540) (v := (2147483648 + 7 * u540)) (by decide +kernel) (by first | decide | omega) (by first | decide | omega) (by first | decide | omega) (by first | decide | omega) (by decide) l538 ?_
      refine x_iadd (np := 11) (x := 0) (v := (2147483668 + 7 * u540)) (by decide +kernel) (by decide) (by first | decide | omega) (by first | decide | omega) (by first | decide | omega) ?_
      refine x_iload (np := 12) (x := 2) (by decide +kernel) rfl (by decide) ?_
      refine x_iadd (np := 13) (x := 0) (v := (2147483671 + 7 * u540)) (by decide +kernel) (by first | decide | omega) (by decide) (by first | decide | omega) (by first | decide | omega) ?_
      refine x_aldC (np := 14) (x := 0) (n := 1952) (i := (23 + 7 * u540)) (q := ((h 76 (23 + 7 * u540)))) (by decide +kernel) (by decide +kernel) (by first | decide | omega) (by first | decide | omega) (by decide) rfl (fun l546 => ?_)
      refine x_retI (np := 15) (x := 0) (by decide +kernel) l546 (Or.inl (by decide +kernel)) ⟨_, rfl, l546, ?_⟩
      refine x_addA (by rw [tb_b201]; decide +kernel) l543 l546 (fun v547 l548 => ?_)
      refine x_const (np := 14) (x := 9223372043297226753) (a := 2147483649) (by decide +kernel) (by decide) (by decide) ?_
      refine x_subA (by rw [tb_b201]; decide +kernel) l548 (by decide) (fun v549 l550 => ?_)
      refine x_aload (np := 16) (x := 0) (by decide +kernel) rfl (x_nc_le (by decide)) ?_
      refine x_iload (np := 17) (x := 1) (by decide +kernel) rfl l538 ?_
      refine x_const (np := 19) (x := 9223372064772063238) (a := 2147483654) (by decide +kernel) (by decide) (by decide) ?_
      refine x_nI (t := 6) (mj := 161) (n := 3) (rc := 12) (ml := 3) (nr := 1) (np := 22) (as := [x_r 75, iv_c ((h 84 (20 * u517 + u535))), iv_c 2147483654]) (rest := [iv_c v549]) (lo1 := [x_r 75, iv_c ((h 84 (20 * u517 + u535))), iv_c 2147483654]) (by decide +kernel) (by decide) (by decide +kernel) (x_rb_of (by decide +kernel)) rfl rfl (x_wr (by decide) (x_wi l538 (x_wi (by decide) x_wn))) (x_wi l550 x_wn) (by decide) rfl ?_
      refine x_aload (np := 1) (x := 0) (by decide +kernel) rfl (x_nc_le (by decide)) ?_
      have q551 : h 75 1 = 76 := by have z := jB (e := 1) 0 hJ rg_75_1_0_1 (by decide) (by decide); omega
      refine x_getR (np := 4) (x := 705) (f := 1) (q := 76) (by decide +kernel) (by decide) (by decide +kernel) q551 ?_
      refine x_const (np := 6) (x := 9223372124901605396) (a := 2147483668) (by decide +kernel) (by decide) (by decide) ?_
      refine x_const (np := 8) (x := 9223372069067030535) (a := 2147483655) (by decide +kernel) (by decide) (by decide) ?_
      refine x_iload (np := 9) (x := 1) (by decide +kernel) rfl l538 ?_
      refine x_imul (np := 10) (x := 0) (i := 7) (j := u540) (v := (2147483648 + 7 * u540)) (by decide +kernel) (by first | decide | omega) (by first | decide | omega) (by first | decide | omega) (by first | decide | omega) (by decide) l538 ?_
      refine x_iadd (np := 11) (x := 0) (v := (2147483668 + 7 * u540)) (by decide +kernel) (by decide) (by first | decide | omega) (by first | decide | omega) (by first | decide | omega) ?_
      refine x_iload (np := 12) (x := 2) (by decide +kernel) rfl (by decide) ?_
      refine x_iadd (np := 13) (x := 0) (v := (2147483674 + 7 * u540)) (by decide +kernel) (by first | decide | omega) (by decide) (by first | decide | omega) (by first | decide | omega) ?_
      refine x_aldC (np := 14) (x := 0) (n := 1952) (i := (26 + 7 * u540)) (q := ((h 76 (26 + 7 * u540)))) (by decide +kernel) (by decide +kernel) (by first | decide | omega) (by first | decide | omega) (by decide) rfl (fun l553 => ?_)
      refine x_retI (np := 15) (x := 0) (by decide +kernel) l553 (Or.inl (by decide +kernel)) ⟨_, rfl, l553, ?_⟩
      refine x_addA (by rw [tb_b201]; decide +kernel) l550 l553 (fun v554 l555 => ?_)
      refine x_retI (np := 24) (x := 0) (by decide +kernel) l555 (Or.inl (by decide +kernel)) ⟨_, rfl, l555, ?_⟩
      refine x_iload (np := 28) (x := 2) (by decide +kernel) rfl la2 ?_
      refine x_icmp (k := 2) (tg := 37) (np := 31) (by decide +kernel) (by decide) l555 la2 (fun q556 => ?_) (fun q557 => ?_)
      · have q556 : v554 < a2 := q556
        refine x_aload (np := 38) (x := 0) (by decide +kernel) rfl (x_nc_le (by decide)) ?_
        refine x_iload (np := 39) (x := 1) (by decide +kernel) rfl la1 ?_
        refine x_iload (np := 40) (x := 3) (by decide +kernel) rfl (by first | decide | omega) ?_
        refine x_iload (np := 41) (x := 2) (by decide +kernel) rfl la2 ?_
        refine x_cV (t := 6) (mj := 205) (n := 4) (rc := 12) (ml := 4) (nr := 0) (np := 44) (as := [x_r 75, iv_c a1, iv_c v511, iv_c a2]) (rest := []) (lo1 := [x_r 75, iv_c a1, iv_c v511, iv_c a2]) (by decide +kernel) (by decide) (by decide +kernel) (x_rb_of (by decide +kernel)) rfl rfl (x_wr (by decide) (x_wi la1 (x_wi (by first | decide | omega) (x_wi la2 x_wn)))) x_wn (by decide) rfl (c205_75 (n0 := n0) hJ  (by first | decide | omega) (by first | decide | omega) (by first | decide | omega)  hM) (fun h561 q560 => ?_)
        obtain ⟨j562, f563, m565, p564⟩ := q560
        have b566 := p564 u517 (by first | decide | omega)
        have f567 := Fr.trans hF f563 (by decide)
        refine x_retV (np := 45) (x := 0) (by decide +kernel) (by decide +kernel) ⟨rfl, ?_⟩
        exact ⟨j562, f567, m565⟩
      have q557 : ¬ (v554 < a2) := q557
      refine x_iinc (np := 34) (i := 3) (j := 2147483649) (v := (1 + v511)) (lo' := [x_r 75, iv_c a1, iv_c a2, iv_c (1 + v511)]) (by decide +kernel) (by decide) (by decide) rfl (by first | decide | omega) (by first | decide | omega) (by first | decide | omega) rfl ?_
      refine x_goto (np := 37) (x := 2) (by decide +kernel) ?_
      exact i515 (1 + v511) (by first | decide | omega) (by first | decide | omega)
  exact p513 _ 2147483648 (Nat.lt_succ_self _) (by first | decide | omega)
set_option maxHeartbeats 0 in
/-- LentNamesModel.isOver(II)Z -/
theorem c202_75 {sc : Nat × Nat} {d a1 a2 : Nat} {h : xh} (hJ : J h) (ba1 : 2147483648 ≤ a1 ∧ a1 ≤ 2147483667) (ba2 : 2147483648 ≤ a2 ∧ a2 ≤ 2147483659) : X sc 202 (d + 1) (xI fun r h' => h' = h ∧ (2147483648 ≤ r ∧ r ≤ 2147483649)) 0 0 0 [x_r 75, iv_c a1, iv_c a2] [] h := by
  have la1 : a1 < 4294967296 := by first | decide | omega
  have la2 : a2 < 4294967296 := by first | decide | omega
  refine x_aload (np := 1) (x := 0) (by decide +kernel) rfl (x_nc_le (by decide)) ?_
  refine x_iload (np := 2) (x := 1) (by decide +kernel) rfl la1 ?_
  refine x_const (np := 3) (x := 9223372047592194050) (a := 2147483650) (by decide +kernel) (by decide) (by decide) ?_
  refine x_nI (t := 6) (mj := 161) (n := 3) (rc := 12) (ml := 3) (nr := 0) (np := 6) (as := [x_r 75, iv_c a1, iv_c 2147483650]) (rest := []) (lo1 := [x_r 75, iv_c a1, iv_c 2147483650]) (by decide +kernel) (by decide) (by decide +kernel) (x_rb_of (by decide +kernel)) rfl rfl (x_wr (by decide) (x_wi la1 (x_wi (by decide) x_wn))) x_wn (by decide) rfl ?_
  refine x_aload (np := 1) (x := 0) (by decide +kernel) rfl (x_nc_le (by decide)) ?_
  have q1 : h 75 1 = 76 := by have z := jB (e := 1) 0 hJ rg_75_1_0_1 (by decide) (by decide); omega
  refine x_getR (np := 4) (x := 705) (f := 1) (q := 76) (by decide +kernel) (by decide) (by decide +kernel) q1 ?_
  refine x_const (np := 6) (x := 9223372124901605396) (a := 2147483668) (by decide +kernel) (by decide) (by decide) ?_
  refine x_const (np := 8) (x := 9223372069067030535) (a := 2147483655) (by decide +kernel) (by decide) (by decide) ?_
  refine x_iload (np := 9) (x := 1) (by decide +kernel) rfl la1 ?_
  obtain ⟨u2, q3⟩ : ∃ z, a1 = 2147483648 + z := ⟨a1 - 2147483648, by first | decide | omega⟩
  refine x_imul (np := 10) (x := 0) (i := 7) (j := u2) (v := (2147483648 + 7 * u2)) (by decide +kernel) (by first | decide | omega) (by first | decide | omega) (by first | decide | omega) (by first | decide | omega) (by decide) la1 ?_
  refine x_iadd (np := 11) (x := 0) (v := (2147483668 + 7 * u2)) (by decide +kernel) (by decide) (by first | decide | omega) (by first | decide | omega) (by first | decide | omega) ?_
  refine x_iload (np := 12) (x := 2) (by decide +kernel) rfl (by decide) ?_
  refine x_iadd (np := 13) (x := 0) (v := (2147483670 + 7 * u2)) (by decide +kernel) (by first | decide | omega) (by decide) (by first | decide | omega) (by first | decide | omega) ?_
  refine x_aldC (np := 14) (x := 0) (n := 1952) (i := (22 + 7 * u2)) (q := ((h 76 (22 + 7 * u2)))) (by decide +kernel) (by decide +kernel) (by first | decide | omega) (by first | decide | omega) (by decide) rfl (fun l5 => ?_)
  refine x_retI (np := 15) (x := 0) (by decide +kernel) l5 (Or.inl (by decide +kernel)) ⟨_, rfl, l5, ?_⟩
  refine x_aload (np := 7) (x := 0) (by decide +kernel) rfl (x_nc_le (by decide)) ?_
  refine x_iload (np := 8) (x := 1) (by decide +kernel) rfl la1 ?_
  refine x_const (np := 9) (x := 9223372051887161347) (a := 2147483651) (by decide +kernel) (by decide) (by decide) ?_
  refine x_nI (t := 6) (mj := 161) (n := 3) (rc := 12) (ml := 3) (nr := 1) (np := 12) (as := [x_r 75, iv_c a1, iv_c 2147483651]) (rest := [iv_c ((h 76 (22 + 7 * u2)))]) (lo1 := [x_r 75, iv_c a1, iv_c 2147483651]) (by decide +kernel) (by decide) (by decide +kernel) (x_rb_of (by decide +kernel)) rfl rfl (x_wr (by decide) (x_wi la1 (x_wi (by decide) x_wn))) (x_wi l5 x_wn) (by decide) rfl ?_
  refine x_aload (np := 1) (x := 0) (by decide +kernel) rfl (x_nc_le (by decide)) ?_
  have q6 : h 75 1 = 76 := by have z := jB (e := 1) 0 hJ rg_75_1_0_1 (by decide) (by decide); omega
  refine x_getR (np := 4) (x := 705) (f := 1) (q := 76) (by decide +kernel) (by decide) (by decide +kernel) q6 ?_
  refine x_const (np := 6) (x := 9223372124901605396) (a := 2147483668) (by decide +kernel) (by decide) (by decide) ?_
  refine x_const (np := 8) (x := 9223372069067030535) (a := 2147483655) (by decide +kernel) (by decide) (by decide) ?_
  refine x_iload (np := 9) (x := 1) (by decide +kernel) rfl la1 ?_
  refine x_imul (np := 10) (x := 0) (i := 7) (j := u2) (v := (2147483648 + 7 * u2)) (by decide +kernel) (by first | decide | omega) (by first | decide | omega) (by first | decide | omega) (by first | decide | omega) (by decide) la1 ?_
  refine x_iadd (np := 11) (x := 0) (v := (2147483668 + 7 * u2)) (by decide +kernel) (by decide) (by first | decide | omega) (by first | decide | omega) (by first | decide | omega) ?_
  refine x_iload (np := 12) (x := 2) (by decide +kernel) rfl (by decide) ?_
  refine x_iadd (np := 13) (x := 0) (v := (2147483671 + 7 * u2)) (by decide +kernel) (by first | decide | omega) (by decide) (by first | decide | omega) (by first | decide | omega) ?_
  refine x_aldC (np := 14) (x := 0) (n := 1952) (i := (23 + 7 * u2)) (q := ((h 76 (23 + 7 * u2)))) (by decide +kernel) (by decide +kernel) (by first | decide | omega) (by first | decide | omega) (by decide) rfl (fun l8 => ?_)
  refine x_retI (np := 15) (x := 0) (by decide +kernel) l8 (Or.inl (by decide +kernel)) ⟨_, rfl, l8, ?_⟩
  refine x_addA (by rw [tb_b202]; decide +kernel) l5 l8 (fun v9 l10 => ?_)
  refine x_const (np := 14) (x := 9223372043297226753) (a := 2147483649) (by decide +kernel) (by decide) (by decide) ?_
  refine x_subA (by rw [tb_b202]; decide +kernel) l10 (by decide) (fun v11 l12 => ?_)
  refine x_iload (np := 16) (x := 2) (by decide +kernel) rfl la2 ?_
  refine x_icmp (k := 3) (tg := 23) (np := 19) (by decide +kernel) (by decide) l12 la2 (fun q13 => ?_) (fun q14 => ?_)
  · have q13 : a2 ≤ v11 := q13
    refine x_const (np := 24) (x := 9223372039002259456) (a := 2147483648) (by decide +kernel) (by decide) (by decide) ?_
    refine x_retI (np := 25) (x := 0) (by decide +kernel) (by decide) (Or.inr ⟨by decide +kernel, by first | decide | omega, by first | decide | omega⟩) ⟨_, rfl, (by decide), ?_⟩
    exact ⟨rfl, (by first | decide | omega)⟩
  have q14 : ¬ (a2 ≤ v11) := q14
  refine x_const (np := 20) (x := 9223372043297226753) (a := 2147483649) (by decide +kernel) (by decide) (by decide) ?_
  refine x_goto (np := 23) (x := 24) (by decide +kernel) ?_
  refine x_retI (np := 25) (x := 0) (by decide +kernel) (by decide) (Or.inr ⟨by decide +kernel, by first | decide | omega, by first | decide | omega⟩) ⟨_, rfl, (by decide), ?_⟩
  exact ⟨rfl, (by first | decide | omega)⟩
set_option maxHeartbeats 0 in
/-- LentNamesModel.isRight(II)Z -/
theorem c204_75 {sc : Nat × Nat} {d a1 a2 : Nat} {h : xh} (hJ : J h) (ba1 : 2147483648 ≤ a1 ∧ a1 ≤ 2147483653) (ba2 : 2147483648 ≤ a2 ∧ a2 ≤ 2147483659) : X sc 204 (d + 2) (xI fun r h' => h' = h ∧ (2147483648 ≤ r ∧ r ≤ 2147483649)) 0 0 0 [x_r 75, iv_c a1, iv_c a2, 147573952589676412928, 147573952589676412928] [] h := by
  have la1 : a1 < 4294967296 := by first | decide | omega
  have la2 : a2 < 4294967296 := by first | decide | omega
  refine x_const (np := 1) (x := 9223372043297226753) (a := 2147483649) (by decide +kernel) (by decide) (by decide) ?_
  refine x_istore (np := 2) (x := 3) (lo' := [x_r 75, iv_c a1, iv_c a2, iv_c 2147483649, 147573952589676412928]) (by decide +kernel) (by decide) (Nat.le_of_ble_eq_true rfl) rfl ?_
  refine x_const (np := 3) (x := 9223372039002259456) (a := 2147483648) (by decide +kernel) (by decide) (by decide) ?_
  refine x_istore (np := 5) (x := 4) (lo' := [x_r 75, iv_c a1, iv_c a2, iv_c 2147483649, iv_c 2147483648]) (by decide +kernel) (by decide) (Nat.le_of_ble_eq_true rfl) rfl ?_
  have p365 : ∀ (n : Nat) (v361 : Nat) (v363 : Nat), 4294967296 - v363 < n → (2147483648 ≤ v361 ∧ v361 ≤ 2147483649) → (2147483648 ≤ v363 ∧ v363 ≤ 2147483668) → X sc 204 (d + 2) (xI fun r h' => h' = h ∧ (2147483648 ≤ r ∧ r ≤ 2147483649)) 0 0 5 [x_r 75, iv_c a1, iv_c a2, iv_c v361, iv_c v363] [] h := by
    intro n
    induction n with
    | zero => intro v361 v363 q366; exact absurd q366 (Nat.not_lt_zero _)
    | succ n i367 =>
      intro v361 v363 q366 b362 b364
      refine x_iload (np := 7) (x := 4) (by decide +kernel) rfl (by first | decide | omega) ?_
      refine x_aload (np := 8) (x := 0) (by decide +kernel) rfl (x_nc_le (by decide)) ?_
      have q368 : h 75 16 = 83 := by have z := jB (e := 16) 0 hJ rg_75_16_0_1 (by decide) (by decide); omega
      refine x_getR (np := 11) (x := 720) (f := 16) (q := 83) (by decide +kernel) (by decide) (by decide +kernel) q368 ?_
      refine x_iload (np := 12) (x := 1) (by decide +kernel) rfl la1 ?_
      obtain ⟨u369, q370⟩ : ∃ z, a1 = 2147483648 + z := ⟨a1 - 2147483648, by first | decide | omega⟩
      have b371 := jB (e := u369) u369 hJ rg_83_0_1_6 (by first | decide | omega) (by first | decide | omega)
      refine x_aldC (np := 13) (x := 0) (n := 6) (i := u369) (q := (h 83 u369)) (by decide +kernel) (by decide +kernel) (by first | decide | omega) (by first | decide | omega) (by decide) rfl (fun l372 => ?_)
      refine x_icmp (k := 3) (tg := 52) (np := 16) (by decide +kernel) (by decide) (by first | decide | omega) l372 (fun q373 => ?_) (fun q374 => ?_)
      · have q373 : (h 83 u369) ≤ v363 := q373
        refine x_iload (np := 53) (x := 3) (by decide +kernel) rfl (by first | decide | omega) ?_
        refine x_retI (np := 54) (x := 0) (by decide +kernel) (by first | decide | omega) (Or.inr ⟨by decide +kernel, by first | decide | omega, by first | decide | omega⟩) ⟨_, rfl, (by first | decide | omega), ?_⟩
        exact ⟨rfl, (by first | decide | omega)⟩
      have q374 : ¬ ((h 83 u369) ≤ v363) := q374
      refine x_iload (np := 17) (x := 3) (by decide +kernel) rfl (by first | decide | omega) ?_
      refine x_ifz (k := 0) (tg := 44) (np := 20) (by decide +kernel) (by decide) (by first | decide | omega) (fun q375 => ?_) (fun q376 => ?_)
      · have q375 : v361 = 2147483648 := q375
        refine x_const (np := 45) (x := 9223372039002259456) (a := 2147483648) (by decide +kernel) (by decide) (by decide) ?_
        refine x_istore (np := 46) (x := 3) (lo' := [x_r 75, iv_c a1, iv_c a2, iv_c 2147483648, iv_c v363]) (by decide +kernel) (by decide) (Nat.le_of_ble_eq_true rfl) rfl ?_
        refine x_iinc (np := 49) (i := 4) (j := 2147483649) (v := (1 + v363)) (lo' := [x_r 75, iv_c a1, iv_c a2, iv_c 2147483648, iv_c (1 + v363)]) (by decide +kernel) (by decide) (by decide) rfl (by first | decide | omega) (by first | decide | omega) (by first | decide | omega) rfl ?_
        refine x_goto (np := 52) (x := 5) (by decide +kernel) ?_
        exact i367 2147483648 (1 + v363) (by first | decide | omega) (by first | decide | omega) (by first | decide | omega)
      have q376 : ¬ (v361 = 2147483648) := q376
      refine x_aload (np := 21) (x := 0) (by decide +kernel) rfl (x_nc_le (by decide)) ?_
      refine x_aload (np := 22) (x := 0) (by decide +kernel) rfl (x_nc_le (by decide)) ?_
      have q377 : h 75 17 = 84 := by have z := jB (e := 17) 0 hJ rg_75_17_0_1 (by decide) (by decide); omega
      refine x_getR (np := 25) (x := 721) (f := 17) (q := 84) (by decide +kernel) (by decide) (by decide +kernel) q377 ?_
      refine x_const (np := 27) (x := 9223372124901605396) (a := 2147483668) (by decide +kernel) (by decide) (by decide) ?_
      refine x_iload (np := 28) (x := 1) (by decide +kernel) rfl la1 ?_
      refine x_imul (np := 29) (x := 0) (i := 20) (j := u369) (v := (2147483648 + 20 * u369)) (by decide +kernel) (by first | decide | omega) (by first | decide | omega) (by first | decide | omega) (by first | decide | omega) (by decide) la1 ?_
      refine x_iload (np := 31) (x := 4) (by decide +kernel) rfl (by first | decide | omega) ?_
      refine x_iadd (np := 32) (x := 0) (v := (20 * u369 + v363)) (by decide +kernel) (by first | decide | omega) (by first | decide | omega) (by first | decide | omega) (by first | decide | omega) ?_
      obtain ⟨u379, q380⟩ : ∃ z, v363 = 2147483648 + z := ⟨v363 - 2147483648, by first | decide | omega⟩
      have b381 := jB (e := (20 * u369 + u379)) (20 * u369 + u379) hJ rg_84_0_1_120 (by first | decide | omega) (by first | decide | omega)
      refine x_aldC (np := 33) (x := 0) (n := 120) (i := (20 * u369 + u379)) (q := ((h 84 (20 * u369 + u379)))) (by decide +kernel) (by decide +kernel) (by first | decide | omega) (by first | decide | omega) (by decide) rfl (fun l382 => ?_)
      refine x_iload (np := 34) (x := 2) (by decide +kernel) rfl la2 ?_
      refine x_cP (t := 6) (mj := 202) (n := 3) (rc := 12) (ml := 3) (nr := 0) (np := 37) (as := [x_r 75, iv_c ((h 84 (20 * u369 + u379))), iv_c a2]) (rest := []) (lo1 := [x_r 75, iv_c ((h 84 (20 * u369 + u379))), iv_c a2]) (by decide +kernel) (by decide) (by decide +kernel) (x_rb_of (by decide +kernel)) rfl rfl (x_wr (by decide) (x_wi l382 (x_wi la2 x_wn))) x_wn (by decide) rfl (c202_75 hJ  (by first | decide | omega) (by first | decide | omega)) (fun v383 l384 q385 => ?_)
      refine x_ifz (k := 1) (tg := 44) (np := 40) (by decide +kernel) (by decide) l384 (fun q386 => ?_) (fun q387 => ?_)
      · have q386 : v383 ≠ 2147483648 := q386
        refine x_const (np := 45) (x := 9223372039002259456) (a := 2147483648) (by decide +kernel) (by decide) (by decide) ?_
        refine x_istore (np := 46) (x := 3) (lo' := [x_r 75, iv_c a1, iv_c a2, iv_c 2147483648, iv_c v363]) (by decide +kernel) (by decide) (Nat.le_of_ble_eq_true rfl) rfl ?_
        refine x_iinc (np := 49) (i := 4) (j := 2147483649) (v := (1 + v363)) (lo' := [x_r 75, iv_c a1, iv_c a2, iv_c 2147483648, iv_c (1 + v363)]) (by decide +kernel) (by decide) (by decide) rfl (by first | decide | omega) (by first | decide | omega) (by first | decide | omega) rfl ?_
        refine x_goto (np := 52) (x := 5) (by decide +kernel) ?_
        exact i367 2147483648 (1 + v363) (by first | decide | omega) (by first | decide | omega) (by first | decide | omega)
      have q387 : ¬ (v383 ≠ 2147483648) := q387
      refine x_const (np := 41) (x := 9223372043297226753) (a := 2147483649) (by decide +kernel) (by decide) (by decide) ?_
      refine x_goto (np := 44) (x := 45) (by decide +kernel) ?_
      refine x_istore (np := 46) (x := 3) (lo' := [x_r 75, iv_c a1, iv_c a2, iv_c 2147483649, iv_c v363]) (by decide +kernel) (by decide) (Nat.le_of_ble_eq_true rfl) rfl ?_
      refine x_iinc (np := 49) (i := 4) (j := 2147483649) (v := (1 + v363)) (lo' := [x_r 75, iv_c a1, iv_c a2, iv_c 2147483649, iv_c (1 + v363)]) (by decide +kernel) (by decide) (by decide) rfl (by first | decide | omega) (by first | decide | omega) (by first | decide | omega) rfl ?_
      refine x_goto (np := 52) (x := 5) (by decide +kernel) ?_
      exact i367 2147483649 (1 + v363) (by first | decide | omega) (by first | decide | omega) (by first | decide | omega)
  exact p365 _ 2147483649 2147483648 (Nat.lt_succ_self _) (by first | decide | omega) (by first | decide | omega)
set_option maxHeartbeats 0 in
/-- LentNamesModel.holder(I)I -/
theorem c203_75 {sc : Nat × Nat} {d a1 : Nat} {h : xh} (hJ : J h) (ba1 : 2147483648 ≤ a1 ∧ a1 ≤ 2147483653) : X sc 203 (d + 1) (xI fun r h' => h' = h ∧ (2147483648 ≤ r ∧ r ≤ 2147483653)) 0 0 0 [x_r 75, iv_c a1] [] h := by
  have la1 : a1 < 4294967296 := by first | decide | omega
  refine x_aload (np := 1) (x := 0) (by decide +kernel) rfl (x_nc_le (by decide)) ?_
  have q1 : h 75 16 = 83 := by have z := jB (e := 16) 0 hJ rg_75_16_0_1 (by decide) (by decide); omega
  refine x_getR (np := 4) (x := 720) (f := 16) (q := 83) (by decide +kernel) (by decide) (by decide +kernel) q1 ?_
  refine x_iload (np := 5) (x := 1) (by decide +kernel) rfl la1 ?_
  obtain ⟨u2, q3⟩ : ∃ z, a1 = 2147483648 + z := ⟨a1 - 2147483648, by first | decide | omega⟩
  have b4 := jB (e := u2) u2 hJ rg_83_0_1_6 (by first | decide | omega) (by first | decide | omega)
  refine x_aldC (np := 6) (x := 0) (n := 6) (i := u2) (q := (h 83 u2)) (by decide +kernel) (by decide +kernel) (by first | decide | omega) (by first | decide | omega) (by decide) rfl (fun l5 => ?_)
  refine x_ifz (k := 1) (tg := 13) (np := 9) (by decide +kernel) (by decide) l5 (fun q6 => ?_) (fun q7 => ?_)
  · have q6 : (h 83 u2) ≠ 2147483648 := q6
    refine x_aload (np := 14) (x := 0) (by decide +kernel) rfl (x_nc_le (by decide)) ?_
    refine x_aload (np := 15) (x := 0) (by decide +kernel) rfl (x_nc_le (by decide)) ?_
    have q8 : h 75 17 = 84 := by have z := jB (e := 17) 0 hJ rg_75_17_0_1 (by decide) (by decide); omega
    refine x_getR (np := 18) (x := 721) (f := 17) (q := 84) (by decide +kernel) (by decide) (by decide +kernel) q8 ?_
    refine x_const (np := 20) (x := 9223372124901605396) (a := 2147483668) (by decide +kernel) (by decide) (by decide) ?_
    refine x_iload (np := 21) (x := 1) (by decide +kernel) rfl la1 ?_
    refine x_imul (np := 22) (x := 0) (i := 20) (j := u2) (v := (2147483648 + 20 * u2)) (by decide +kernel) (by first | decide | omega) (by first | decide | omega) (by first | decide | omega) (by first | decide | omega) (by decide) la1 ?_
    refine x_aload (np := 23) (x := 0) (by decide +kernel) rfl (x_nc_le (by decide)) ?_
    have q10 : h 75 16 = 83 := by have z := jB (e := 16) 0 hJ rg_75_16_0_1 (by decide) (by decide); omega
    refine x_getR (np := 26) (x := 720) (f := 16) (q := 83) (by decide +kernel) (by decide) (by decide +kernel) q10 ?_
    refine x_iload (np := 27) (x := 1) (by decide +kernel) rfl la1 ?_
    refine x_aldC (np := 28) (x := 0) (n := 6) (i := u2) (q := (h 83 u2)) (by decide +kernel) (by decide +kernel) (by first | decide | omega) (by first | decide | omega) (by decide) rfl (fun l11 => ?_)
    refine x_iadd (np := 29) (x := 0) (v := (20 * u2 + (h 83 u2))) (by decide +kernel) (by first | decide | omega) l5 (by first | decide | omega) (by first | decide | omega) ?_
    refine x_const (np := 30) (x := 9223372043297226753) (a := 2147483649) (by decide +kernel) (by decide) (by decide) ?_
    obtain ⟨v12, q13⟩ : ∃ z, z + 2147483649 = (20 * u2 + (h 83 u2)) + 2147483648 := ⟨(20 * u2 + (h 83 u2)) + 2147483648 - 2147483649, by first | decide | omega⟩
    refine x_isub (np := 31) (x := 0) (v := v12) (by decide +kernel) (by first | decide | omega) (by decide) (by first | decide | omega) (by first | decide | omega) ?_
    obtain ⟨u14, q15⟩ : ∃ z, v12 = 2147483648 + z := ⟨v12 - 2147483648, by first | decide | omega⟩
    have b16 := jB (e := u14) u14 hJ rg_84_0_1_120 (by first | decide | omega) (by first | decide | omega)
    refine x_aldC (np := 32) (x := 0) (n := 120) (i := u14) (q := (h 84 u14)) (by decide +kernel) (by decide +kernel) (by first | decide | omega) (by first | decide | omega) (by decide) rfl (fun l17 => ?_)
    refine x_const (np := 33) (x := 9223372043297226753) (a := 2147483649) (by decide +kernel) (by decide) (by decide) ?_
    refine x_nI (t := 6) (mj := 161) (n := 3) (rc := 12) (ml := 3) (nr := 0) (np := 36) (as := [x_r 75, iv_c (h 84 u14), iv_c 2147483649]) (rest := []) (lo1 := [x_r 75, iv_c (h 84 u14), iv_c 2147483649]) (by decide +kernel) (by decide) (by decide +kernel) (x_rb_of (by decide +kernel)) rfl rfl (x_wr (by decide) (x_wi l17 (x_wi (by decide) x_wn))) x_wn (by decide) rfl ?_
    refine x_aload (np := 1) (x := 0) (by decide +kernel) rfl (x_nc_le (by decide)) ?_
    have q18 : h 75 1 = 76 := by have z := jB (e := 1) 0 hJ rg_75_1_0_1 (by decide) (by decide); omega
    refine x_getR (np := 4) (x := 705) (f := 1) (q := 76) (by decide +kernel) (by decide) (by decide +kernel) q18 ?_
    refine x_const (np := 6) (x := 9223372124901605396) (a := 2147483668) (by decide +kernel) (by decide) (by decide) ?_
    refine x_const (np := 8) (x := 9223372069067030535) (a := 2147483655) (by decide +kernel) (by decide) (by decide) ?_
    refine x_iload (np := 9) (x := 1) (by decide +kernel) rfl l17 ?_
    obtain ⟨u19, q20⟩ : ∃ z, (h 84 u14) = 2147483648 + z := ⟨(h 84 u14) - 2147483648, by first | decide | omega⟩
    refine x_imul (np := 10) (x := 0) (i := 7) (j := u19) (v := (2147483648 + 7 * u19)) (by decide +kernel) (by first | decide | omega) (by first | decide | omega) (by first | decide | omega) (by first | decide | omega) (by decide) l17 ?_
    refine x_iadd (np := 11) (x := 0) (v := (2147483668 + 7 * u19)) (by decide +kernel) (by decide) (by first | decide | omega) (by first | decide | omega) (by first | decide | omega) ?_
    refine x_iload (np := 12) (x := 2) (by decide +kernel) rfl (by decide) ?_
    refine x_iadd (np := 13) (x := 0) (v := (2147483669 + 7 * u19)) (by decide +kernel) (by first | decide | omega) (by decide) (by first | decide | omega) (by first | decide | omega) ?_
    have b22 := jB (e := (21 + 7 * u19)) u19 hJ rg_76_21_7_20 (by first | decide | omega) (by first | decide | omega)
    refine x_aldC (np := 14) (x := 0) (n := 1952) (i := (21 + 7 * u19)) (q := ((h 76 (21 + 7 * u19)))) (by decide +kernel) (by decide +kernel) (by first | decide | omega) (by first | decide | omega) (by decide) rfl (fun l23 => ?_)
    refine x_retI (np := 15) (x := 0) (by decide +kernel) l23 (Or.inl (by decide +kernel)) ⟨_, rfl, l23, ?_⟩
    refine x_retI (np := 37) (x := 0) (by decide +kernel) l23 (Or.inl (by decide +kernel)) ⟨_, rfl, l23, ?_⟩
    exact ⟨rfl, (by first | decide | omega)⟩
  have q7 : ¬ ((h 83 u2) ≠ 2147483648) := q7
  refine x_iload (np := 10) (x := 1) (by decide +kernel) rfl la1 ?_
  refine x_goto (np := 13) (x := 36) (by decide +kernel) ?_
  refine x_retI (np := 37) (x := 0) (by decide +kernel) la1 (Or.inl (by decide +kernel)) ⟨_, rfl, la1, ?_⟩
  exact ⟨rfl, (by first | decide | omega)⟩
set_option maxHeartbeats 0 in
/-- LentNamesModel.alive(II)Z -/
theorem c200_75 {sc : Nat × Nat} {d a1 a2 : Nat} {h : xh} (hJ : J h) (ba1 : 2147483648 ≤ a1 ∧ a1 ≤ 2147483653) (ba2 : 2147483648 ≤ a2 ∧ a2 ≤ 2147483659) : X sc 200 d (xI fun r h' => h' = h ∧ (2147483648 ≤ r ∧ r ≤ 2147483649)) 0 0 0 [x_r 75, iv_c a1, iv_c a2] [] h := by
  have la1 : a1 < 4294967296 := by first | decide | omega
  have la2 : a2 < 4294967296 := by first | decide | omega
  refine x_aload (np := 1) (x := 0) (by decide +kernel) rfl (x_nc_le (by decide)) ?_
  have q1 : h 75 1 = 76 := by have z := jB (e := 1) 0 hJ rg_75_1_0_1 (by decide) (by decide); omega
  refine x_getR (np := 4) (x := 705) (f := 1) (q := 76) (by decide +kernel) (by decide) (by decide +kernel) q1 ?_
  refine x_const (np := 6) (x := 9223372073361997832) (a := 2147483656) (by decide +kernel) (by decide) (by decide) ?_
  refine x_iload (np := 7) (x := 1) (by decide +kernel) rfl la1 ?_
  refine x_iadd (np := 8) (x := 0) (v := (8 + a1)) (by decide +kernel) (by decide) la1 (by first | decide | omega) (by first | decide | omega) ?_
  obtain ⟨u2, q3⟩ : ∃ z, a1 = 2147483648 + z := ⟨a1 - 2147483648, by first | decide | omega⟩
  refine x_aldC (np := 9) (x := 0) (n := 1952) (i := (8 + u2)) (q := (h 76 (8 + u2))) (by decide +kernel) (by decide +kernel) (by first | decide | omega) (by first | decide | omega) (by decide) rfl (fun l4 => ?_)
  refine x_iload (np := 10) (x := 2) (by decide +kernel) rfl la2 ?_
  refine x_icmp (k := 5) (tg := 17) (np := 13) (by decide +kernel) (by decide) l4 la2 (fun q5 => ?_) (fun q6 => ?_)
  · have q5 : (h 76 (8 + u2)) ≤ a2 := q5
    refine x_const (np := 18) (x := 9223372039002259456) (a := 2147483648) (by decide +kernel) (by decide) (by decide) ?_
    refine x_retI (np := 19) (x := 0) (by decide +kernel) (by decide) (Or.inr ⟨by decide +kernel, by first | decide | omega, by first | decide | omega⟩) ⟨_, rfl, (by decide), ?_⟩
    exact ⟨rfl, (by first | decide | omega)⟩
  have q6 : ¬ ((h 76 (8 + u2)) ≤ a2) := q6
  refine x_const (np := 14) (x := 9223372043297226753) (a := 2147483649) (by decide +kernel) (by decide) (by decide) ?_
  refine x_goto (np := 17) (x := 18) (by decide +kernel) ?_
  refine x_retI (np := 19) (x := 0) (by decide +kernel) (by decide) (Or.inr ⟨by decide +kernel, by first | decide | omega, by first | decide | omega⟩) ⟨_, rfl, (by decide), ?_⟩
  exact ⟨rfl, (by first | decide | omega)⟩
set_option maxHeartbeats 0 in
/-- LentNamesModel.judges(II)V -/
theorem c207_75 {sc : Nat × Nat} {d a1 a2 n0 : Nat} {h : xh} (hJ : J h) (ba1 : 2147483648 ≤ a1 ∧ a1 ≤ 2147483653) (ba2 : 2147483648 ≤ a2 ∧ a2 ≤ 2147483659) (hM : MB 6 n0 h) : X sc 207 (d + 3) (xV fun h' => J h' ∧ Fr 42949672961 h h' ∧ MB 6 n0 h') 0 0 0 [x_r 75, iv_c a1, iv_c a2] [] h := by
  have la1 : a1 < 4294967296 := by first | decide | omega
  have la2 : a2 < 4294967296 := by first | decide | omega
  have hF := Fr.refl 42949672961 h
  obtain ⟨u1, q2⟩ : ∃ z, a1 = 2147483648 + z := ⟨a1 - 2147483648, by first | decide | omega⟩
  have p105 : ∀ (n : Nat) (h102 : xh), h102 83 u1 < n → J h102 → Fr 42949672961 h h102 → MB 6 n0 h102 → X sc 207 (d + 3) (xV fun h' => J h' ∧ Fr 42949672961 h h' ∧ MB 6 n0 h') 0 0 0 [x_r 75, iv_c a1, iv_c a2] [] h102 := by
    intro n
    induction n with
    | zero => intro h102 q107; exact absurd q107 (Nat.not_lt_zero _)
    | succ n i108 =>
      intro h102 q107 j104 f103 m106
      have f109 := Fr.trans hF f103 (by decide)
      refine x_aload (np := 1) (x := 0) (by decide +kernel) rfl (x_nc_le (by decide)) ?_
      have q110 : h102 75 16 = 83 := by have z := jB (e := 16) 0 j104 rg_75_16_0_1 (by decide) (by decide); omega
      refine x_getR (np := 4) (x := 720) (f := 16) (q := 83) (by decide +kernel) (by decide) (by decide +kernel) q110 ?_
      refine x_iload (np := 5) (x := 1) (by decide +kernel) rfl la1 ?_
      have b111 := jB (e := u1) u1 j104 rg_83_0_1_6 (by first | decide | omega) (by first | decide | omega)
      refine x_aldC (np := 6) (x := 0) (n := 6) (i := u1) (q := (h102 83 u1)) (by decide +kernel) (by decide +kernel) (by first | decide | omega) (by first | decide | omega) (by decide) rfl (fun l112 => ?_)
      refine x_ifz (k := 5) (tg := 48) (np := 9) (by decide +kernel) (by decide) l112 (fun q113 => ?_) (fun q114 => ?_)
      · have q113 : (h102 83 u1) ≤ 2147483648 := q113
        refine x_retV (np := 49) (x := 0) (by decide +kernel) (by decide +kernel) ⟨rfl, ?_⟩
        exact ⟨j104, f109, m106⟩
      have q114 : ¬ ((h102 83 u1) ≤ 2147483648) := q114
      refine x_aload (np := 10) (x := 0) (by decide +kernel) rfl (x_nc_le (by decide)) ?_
      refine x_iload (np := 11) (x := 1) (by decide +kernel) rfl la1 ?_
      refine x_iload (np := 12) (x := 2) (by decide +kernel) rfl la2 ?_
      refine x_cP (t := 6) (mj := 204) (n := 3) (rc := 12) (ml := 5) (nr := 0) (np := 15) (as := [x_r 75, iv_c a1, iv_c a2]) (rest := []) (lo1 := [x_r 75, iv_c a1, iv_c a2, 147573952589676412928, 147573952589676412928]) (by decide +kernel) (by decide) (by decide +kernel) (x_rb_of (by decide +kernel)) rfl rfl (x_wr (by decide) (x_wi la1 (x_wi la2 x_wn))) x_wn (by decide) rfl (c204_75 j104  (by first | decide | omega) (by first | decide | omega)) (fun v115 l116 q117 => ?_)
      refine x_ifz (k := 0) (tg := 31) (np := 18) (by decide +kernel) (by decide) l116 (fun q118 => ?_) (fun q119 => ?_)
      · have q118 : v115 = 2147483648 := q118
        refine x_aload (np := 32) (x := 0) (by decide +kernel) rfl (x_nc_le (by decide)) ?_
        refine x_iload (np := 33) (x := 1) (by decide +kernel) rfl la1 ?_
        refine x_aload (np := 34) (x := 0) (by decide +kernel) rfl (x_nc_le (by decide)) ?_
        have q120 : h102 75 16 = 83 := by have z := jB (e := 16) 0 j104 rg_75_16_0_1 (by decide) (by decide); omega
        refine x_getR (np := 37) (x := 720) (f := 16) (q := 83) (by decide +kernel) (by decide) (by decide +kernel) q120 ?_
        refine x_iload (np := 38) (x := 1) (by decide +kernel) rfl la1 ?_
        refine x_aldC (np := 39) (x := 0) (n := 6) (i := u1) (q := (h102 83 u1)) (by decide +kernel) (by decide +kernel) (by first | decide | omega) (by first | decide | omega) (by decide) rfl (fun l121 => ?_)
        refine x_const (np := 40) (x := 9223372043297226753) (a := 2147483649) (by decide +kernel) (by decide) (by decide) ?_
        obtain ⟨v122, q123⟩ : ∃ z, z + 2147483649 = (h102 83 u1) + 2147483648 := ⟨(h102 83 u1) + 2147483648 - 2147483649, by first | decide | omega⟩
        refine x_isub (np := 41) (x := 0) (v := v122) (by decide +kernel) l112 (by decide) (by first | decide | omega) (by first | decide | omega) ?_
        refine x_iload (np := 42) (x := 2) (by decide +kernel) rfl la2 ?_
        refine x_cV (t := 6) (mj := 205) (n := 4) (rc := 12) (ml := 4) (nr := 0) (np := 45) (as := [x_r 75, iv_c a1, iv_c v122, iv_c a2]) (rest := []) (lo1 := [x_r 75, iv_c a1, iv_c v122, iv_c a2]) (by decide +kernel) (by decide) (by decide +kernel) (x_rb_of (by decide +kernel)) rfl rfl (x_wr (by decide) (x_wi la1 (x_wi (by first | decide | omega) (x_wi la2 x_wn)))) x_wn (by decide) rfl (c205_75 (n0 := n0) j104  (by first | decide | omega) (by first | decide | omega) (by first | decide | omega)  m106) (fun h127 q126 => ?_)
        obtain ⟨j128, f129, m131, p130⟩ := q126
        have b132 := p130 u1 (by first | decide | omega)
        have f133 := Fr.trans f109 f129 (by decide)
        have f134 := Fr.trans f103 f129 (by decide)
        refine x_goto (np := 48) (x := 0) (by decide +kernel) ?_
        exact i108  h127 (by first | decide | omega) j128 f134 m131
      have q119 : ¬ (v115 = 2147483648) := q119
      refine x_aload (np := 19) (x := 0) (by decide +kernel) rfl (x_nc_le (by decide)) ?_
      refine x_aload (np := 20) (x := 0) (by decide +kernel) rfl (x_nc_le (by decide)) ?_
      refine x_iload (np := 21) (x := 1) (by decide +kernel) rfl la1 ?_
      refine x_cP (t := 6) (mj := 203) (n := 2) (rc := 12) (ml := 2) (nr := 1) (np := 24) (as := [x_r 75, iv_c a1]) (rest := [x_r 75]) (lo1 := [x_r 75, iv_c a1]) (by decide +kernel) (by decide) (by decide +kernel) (x_rb_of (by decide +kernel)) rfl rfl (x_wr (by decide) (x_wi la1 x_wn)) (x_wr (by decide) x_wn) (by decide) rfl (c203_75 j104  (by first | decide | omega)) (fun v135 l136 q137 => ?_)
      refine x_iload (np := 25) (x := 2) (by decide +kernel) rfl la2 ?_
      refine x_cP (t := 6) (mj := 200) (n := 3) (rc := 12) (ml := 3) (nr := 0) (np := 28) (as := [x_r 75, iv_c v135, iv_c a2]) (rest := []) (lo1 := [x_r 75, iv_c v135, iv_c a2]) (by decide +kernel) (by decide) (by decide +kernel) (x_rb_of (by decide +kernel)) rfl rfl (x_wr (by decide) (x_wi l136 (x_wi la2 x_wn))) x_wn (by decide) rfl (c200_75 j104  (by first | decide | omega) (by first | decide | omega)) (fun v138 l139 q140 => ?_)
      refine x_ifz (k := 1) (tg := 48) (np := 31) (by decide +kernel) (by decide) l139 (fun q141 => ?_) (fun q142 => ?_)
      · have q141 : v138 ≠ 2147483648 := q141
        refine x_retV (np := 49) (x := 0) (by decide +kernel) (by decide +kernel) ⟨rfl, ?_⟩
        exact ⟨j104, f109, m106⟩
      have q142 : ¬ (v138 ≠ 2147483648) := q142
      refine x_aload (np := 32) (x := 0) (by decide +kernel) rfl (x_nc_le (by decide)) ?_
      refine x_iload (np := 33) (x := 1) (by decide +kernel) rfl la1 ?_
      refine x_aload (np := 34) (x := 0) (by decide +kernel) rfl (x_nc_le (by decide)) ?_
      have q143 : h102 75 16 = 83 := by have z := jB (e := 16) 0 j104 rg_75_16_0_1 (by decide) (by decide); omega
      refine x_getR (np := 37) (x := 720) (f := 16) (q := 83) (by decide +kernel) (by decide) (by decide +kernel) q143 ?_
      refine x_iload (np := 38) (x := 1) (by decide +kernel) rfl la1 ?_
      refine x_aldC (np := 39) (x := 0) (n := 6) (i := u1) (q := (h102 83 u1)) (by decide +kernel) (by decide +kernel) (by first | decide | omega) (by first | decide | omega) (by decide) rfl (fun l144 => ?_)
      refine x_const (np := 40) (x := 9223372043297226753) (a := 2147483649) (by decide +kernel) (by decide) (by decide) ?_
      obtain ⟨v145, q146⟩ : ∃ z, z + 2147483649 = (h102 83 u1) + 2147483648 := ⟨(h102 83 u1) + 2147483648 - 2147483649, by first | decide | omega⟩
      refine x_isub (np := 41) (x := 0) (v := v145) (by decide +kernel) l112 (by decide) (by first | decide | omega) (by first | decide | omega) ?_
      refine x_iload (np := 42) (x := 2) (by decide +kernel) rfl la2 ?_
      refine x_cV (t := 6) (mj := 205) (n := 4) (rc := 12) (ml := 4) (nr := 0) (np := 45) (as := [x_r 75, iv_c a1, iv_c v145, iv_c a2]) (rest := []) (lo1 := [x_r 75, iv_c a1, iv_c v145, iv_c a2]) (by decide +kernel) (by decide) (by decide +kernel) (x_rb_of (by decide +kernel)) rfl rfl (x_wr (by decide) (x_wi la1 (x_wi (by first | decide | omega) (x_wi la2 x_wn)))) x_wn (by decide) rfl (c205_75 (n0 := n0) j104  (by first | decide | omega) (by first | decide | omega) (by first | decide | omega)  m106) (fun h150 q149 => ?_)
      obtain ⟨j151, f152, m154, p153⟩ := q149
      have b155 := p153 u1 (by first | decide | omega)
      have f156 := Fr.trans f109 f152 (by decide)
      have f157 := Fr.trans f103 f152 (by decide)
      refine x_goto (np := 48) (x := 0) (by decide +kernel) ?_
      exact i108  h150 (by first | decide | omega) j151 f157 m154
  exact p105 _  h (Nat.lt_succ_self _) hJ (Fr.refl _ _) hM
set_option maxHeartbeats 0 in
/-- LentNamesModel.bornBy(II)I -/
theorem c208_75 {sc : Nat × Nat} {d a1 a2 : Nat} {h : xh} (hJ : J h) (ba1 : 2147483648 ≤ a1 ∧ a1 ≤ 2147483653) (ba2 : 2147483648 ≤ a2 ∧ a2 ≤ 2147483659) : X sc 208 (d + 2) (xI fun r h' => h' = h ∧ (0 ≤ r ∧ r ≤ 4294967295)) 0 0 0 [x_r 75, iv_c a1, iv_c a2, 147573952589676412928, 147573952589676412928] [] h := by
  have la1 : a1 < 4294967296 := by first | decide | omega
  have la2 : a2 < 4294967296 := by first | decide | omega
  refine x_const (np := 1) (x := 9223372039002259456) (a := 2147483648) (by decide +kernel) (by decide) (by decide) ?_
  refine x_istore (np := 2) (x := 3) (lo' := [x_r 75, iv_c a1, iv_c a2, iv_c 2147483648, 147573952589676412928]) (by decide +kernel) (by decide) (Nat.le_of_ble_eq_true rfl) rfl ?_
  refine x_const (np := 3) (x := 9223372039002259456) (a := 2147483648) (by decide +kernel) (by decide) (by decide) ?_
  refine x_istore (np := 5) (x := 4) (lo' := [x_r 75, iv_c a1, iv_c a2, iv_c 2147483648, iv_c 2147483648]) (by decide +kernel) (by decide) (Nat.le_of_ble_eq_true rfl) rfl ?_
  have p598 : ∀ (n : Nat) (v594 : Nat) (v596 : Nat), 4294967296 - v596 < n → (0 ≤ v594 ∧ v594 ≤ 4294967295) → (2147483648 ≤ v596 ∧ v596 ≤ 2147483654) → X sc 208 (d + 2) (xI fun r h' => h' = h ∧ (0 ≤ r ∧ r ≤ 4294967295)) 0 0 5 [x_r 75, iv_c a1, iv_c a2, iv_c v594, iv_c v596] [] h := by
    intro n
    induction n with
    | zero => intro v594 v596 q599; exact absurd q599 (Nat.not_lt_zero _)
    | succ n i600 =>
      intro v594 v596 q599 b595 b597
      refine x_iload (np := 7) (x := 4) (by decide +kernel) rfl (by first | decide | omega) ?_
      refine x_aload (np := 8) (x := 0) (by decide +kernel) rfl (x_nc_le (by decide)) ?_
      refine x_nI (t := 6) (mj := 157) (n := 1) (rc := 12) (ml := 1) (nr := 1) (np := 11) (as := [x_r 75]) (rest := [iv_c v596]) (lo1 := [x_r 75]) (by decide +kernel) (by decide) (by decide +kernel) (x_rb_of (by decide +kernel)) rfl rfl (x_wr (by decide) x_wn) (x_wi (by first | decide | omega) x_wn) (by decide) rfl ?_
      refine x_aload (np := 1) (x := 0) (by decide +kernel) rfl (x_nc_le (by decide)) ?_
      have q601 : h 75 1 = 76 := by have z := jB (e := 1) 0 hJ rg_75_1_0_1 (by decide) (by decide); omega
      refine x_getR (np := 4) (x := 705) (f := 1) (q := 76) (by decide +kernel) (by decide) (by decide +kernel) q601 ?_
      refine x_const (np := 5) (x := 9223372039002259456) (a := 2147483648) (by decide +kernel) (by decide) (by decide) ?_
      have b602 := jB (e := 0) 0 hJ rg_76_0_0_1 (by first | decide | omega) (by first | decide | omega)
      refine x_aldC (np := 6) (x := 0) (n := 1952) (i := 0) (q := (h 76 0)) (by decide +kernel) (by decide +kernel) (by first | decide | omega) (by first | decide | omega) (by decide) rfl (fun l603 => ?_)
      refine x_retI (np := 7) (x := 0) (by decide +kernel) l603 (Or.inl (by decide +kernel)) ⟨_, rfl, l603, ?_⟩
      refine x_icmp (k := 3) (tg := 47) (np := 14) (by decide +kernel) (by decide) (by first | decide | omega) l603 (fun q604 => ?_) (fun q605 => ?_)
      · have q604 : (h 76 0) ≤ v596 := q604
        refine x_iload (np := 48) (x := 3) (by decide +kernel) rfl (by first | decide | omega) ?_
        refine x_retI (np := 49) (x := 0) (by decide +kernel) (by first | decide | omega) (Or.inl (by decide +kernel)) ⟨_, rfl, (by first | decide | omega), ?_⟩
        exact ⟨rfl, (by first | decide | omega)⟩
      have q605 : ¬ ((h 76 0) ≤ v596) := q605
      refine x_iload (np := 15) (x := 3) (by decide +kernel) rfl (by first | decide | omega) ?_
      refine x_aload (np := 16) (x := 0) (by decide +kernel) rfl (x_nc_le (by decide)) ?_
      refine x_iload (np := 18) (x := 4) (by decide +kernel) rfl (by first | decide | omega) ?_
      refine x_cP (t := 6) (mj := 203) (n := 2) (rc := 12) (ml := 2) (nr := 1) (np := 21) (as := [x_r 75, iv_c v596]) (rest := [iv_c v594]) (lo1 := [x_r 75, iv_c v596]) (by decide +kernel) (by decide) (by decide +kernel) (x_rb_of (by decide +kernel)) rfl rfl (x_wr (by decide) (x_wi (by first | decide | omega) x_wn)) (x_wi (by first | decide | omega) x_wn) (by decide) rfl (c203_75 hJ  (by first | decide | omega)) (fun v606 l607 q608 => ?_)
      refine x_iload (np := 22) (x := 1) (by decide +kernel) rfl la1 ?_
      refine x_icmp (k := 1) (tg := 38) (np := 25) (by decide +kernel) (by decide) l607 la1 (fun q609 => ?_) (fun q610 => ?_)
      · have q609 : v606 ≠ a1 := q609
        refine x_const (np := 39) (x := 9223372039002259456) (a := 2147483648) (by decide +kernel) (by decide) (by decide) ?_
        refine x_iadd (np := 40) (x := 0) (v := v594) (by decide +kernel) (by first | decide | omega) (by decide) (by first | decide | omega) (by first | decide | omega) ?_
        refine x_istore (np := 41) (x := 3) (lo' := [x_r 75, iv_c a1, iv_c a2, iv_c v594, iv_c v596]) (by decide +kernel) (by first | decide | omega) (Nat.le_of_ble_eq_true rfl) rfl ?_
        refine x_iinc (np := 44) (i := 4) (j := 2147483649) (v := (1 + v596)) (lo' := [x_r 75, iv_c a1, iv_c a2, iv_c v594, iv_c (1 + v596)]) (by decide +kernel) (by decide) (by decide) rfl (by first | decide | omega) (by first | decide | omega) (by first | decide | omega) rfl ?_
        refine x_goto (np := 47) (x := 5) (by decide +kernel) ?_
        exact i600 v594 (1 + v596) (by first | decide | omega) (by first | decide | omega) (by first | decide | omega)
      have q610 : ¬ (v606 ≠ a1) := q610
      refine x_aload (np := 26) (x := 0) (by decide +kernel) rfl (x_nc_le (by decide)) ?_
      refine x_iload (np := 27) (x := 1) (by decide +kernel) rfl la1 ?_
      refine x_iload (np := 28) (x := 2) (by decide +kernel) rfl la2 ?_
      refine x_cP (t := 6) (mj := 200) (n := 3) (rc := 12) (ml := 3) (nr := 1) (np := 31) (as := [x_r 75, iv_c a1, iv_c a2]) (rest := [iv_c v594]) (lo1 := [x_r 75, iv_c a1, iv_c a2]) (by decide +kernel) (by decide) (by decide +kernel) (x_rb_of (by decide +kernel)) rfl rfl (x_wr (by decide) (x_wi la1 (x_wi la2 x_wn))) (x_wi (by first | decide | omega) x_wn) (by decide) rfl (c200_75 hJ  (by first | decide | omega) (by first | decide | omega)) (fun v611 l612 q613 => ?_)
      refine x_ifz (k := 0) (tg := 38) (np := 34) (by decide +kernel) (by decide) l612 (fun q614 => ?_) (fun q615 => ?_)
      · have q614 : v611 = 2147483648 := q614
        refine x_const (np := 39) (x := 9223372039002259456) (a := 2147483648) (by decide +kernel) (by decide) (by decide) ?_
        refine x_iadd (np := 40) (x := 0) (v := v594) (by decide +kernel) (by first | decide | omega) (by decide) (by first | decide | omega) (by first | decide | omega) ?_
        refine x_istore (np := 41) (x := 3) (lo' := [x_r 75, iv_c a1, iv_c a2, iv_c v594, iv_c v596]) (by decide +kernel) (by first | decide | omega) (Nat.le_of_ble_eq_true rfl) rfl ?_
        refine x_iinc (np := 44) (i := 4) (j := 2147483649) (v := (1 + v596)) (lo' := [x_r 75, iv_c a1, iv_c a2, iv_c v594, iv_c (1 + v596)]) (by decide +kernel) (by decide) (by decide) rfl (by first | decide | omega) (by first | decide | omega) (by first | decide | omega) rfl ?_
        refine x_goto (np := 47) (x := 5) (by decide +kernel) ?_
        exact i600 v594 (1 + v596) (by first | decide | omega) (by first | decide | omega) (by first | decide | omega)
      have q615 : ¬ (v611 = 2147483648) := q615
      refine x_const (np := 35) (x := 9223372043297226753) (a := 2147483649) (by decide +kernel) (by decide) (by decide) ?_
      refine x_goto (np := 38) (x := 39) (by decide +kernel) ?_
      refine x_addA (by rw [tb_b208]; decide +kernel) (by first | decide | omega) (by decide) (fun v616 l617 => ?_)
      refine x_istore (np := 41) (x := 3) (lo' := [x_r 75, iv_c a1, iv_c a2, iv_c v616, iv_c v596]) (by decide +kernel) l617 (Nat.le_of_ble_eq_true rfl) rfl ?_
      refine x_iinc (np := 44) (i := 4) (j := 2147483649) (v := (1 + v596)) (lo' := [x_r 75, iv_c a1, iv_c a2, iv_c v616, iv_c (1 + v596)]) (by decide +kernel) (by decide) (by decide) rfl (by first | decide | omega) (by first | decide | omega) (by first | decide | omega) rfl ?_
      refine x_goto (np := 47) (x := 5) (by decide +kernel) ?_
      exact i600 v616 (1 + v596) (by first | decide | omega) (by first | decide | omega) (by first | decide | omega)
  exact p598 _ 2147483648 2147483648 (Nat.lt_succ_self _) (by first | decide | omega) (by first | decide | omega)
set_option maxHeartbeats 0 in
/-- LentNamesModel.holdsLine(I)Z -/
theorem c198_75 {sc : Nat × Nat} {d a1 : Nat} {h : xh} (hJ : J h) (ba1 : 2147483648 ≤ a1 ∧ a1 ≤ 2147483657) (hr0 : a1 < (h 76 290)) (hW : WT 76 h) : X sc 198 d (xI fun r h' => J h' ∧ Fr 4294967296 h h' ∧ (2147483648 ≤ r ∧ r ≤ 2147483649)) 0 0 0 [x_r 75, iv_c a1, 147573952589676412928, 147573952589676412928, 147573952589676412928, 147573952589676412928, 147573952589676412928, 147573952589676412928, 147573952589676412928] [] h := by
  have la1 : a1 < 4294967296 := by first | decide | omega
  have hF := Fr.refl 4294967296 h
  have b1 := jB (e := 290) 0 hJ rg_76_290_0_1 (by first | decide | omega) (by first | decide | omega)
  refine x_const (np := 1) (x := 9223372039002259456) (a := 2147483648) (by decide +kernel) (by decide) (by decide) ?_
  refine x_istore (np := 2) (x := 2) (lo' := [x_r 75, iv_c a1, iv_c 2147483648, 147573952589676412928, 147573952589676412928, 147573952589676412928, 147573952589676412928, 147573952589676412928, 147573952589676412928]) (by decide +kernel) (by decide) (Nat.le_of_ble_eq_true rfl) rfl ?_
  refine x_const (np := 5) (x := 9223373288837742883) (a := 2147483939) (by decide +kernel) (by decide) (by decide) ?_
  refine x_const (np := 6) (x := 9223372051887161347) (a := 2147483651) (by decide +kernel) (by decide) (by decide) ?_
  refine x_iload (np := 7) (x := 1) (by decide +kernel) rfl la1 ?_
  obtain ⟨u2, q3⟩ : ∃ z, a1 = 2147483648 + z := ⟨a1 - 2147483648, by first | decide | omega⟩
  refine x_imul (np := 8) (x := 0) (i := 3) (j := u2) (v := (2147483648 + 3 * u2)) (by decide +kernel) (by first | decide | omega) (by first | decide | omega) (by first | decide | omega) (by first | decide | omega) (by decide) la1 ?_
  refine x_iadd (np := 9) (x := 0) (v := (2147483939 + 3 * u2)) (by decide +kernel) (by decide) (by first | decide | omega) (by first | decide | omega) (by first | decide | omega) ?_
  refine x_istore (np := 10) (x := 3) (lo' := [x_r 75, iv_c a1, iv_c 2147483648, iv_c (2147483939 + 3 * u2), 147573952589676412928, 147573952589676412928, 147573952589676412928, 147573952589676412928, 147573952589676412928]) (by decide +kernel) (by first | decide | omega) (Nat.le_of_ble_eq_true rfl) rfl ?_
  refine x_aload (np := 11) (x := 0) (by decide +kernel) rfl (x_nc_le (by decide)) ?_
  have q5 : h 75 1 = 76 := by have z := jB (e := 1) 0 hJ rg_75_1_0_1 (by decide) (by decide); omega
  refine x_getR (np := 14) (x := 705) (f := 1) (q := 76) (by decide +kernel) (by decide) (by decide +kernel) q5 ?_
  refine x_iload (np := 15) (x := 3) (by decide +kernel) rfl (by first | decide | omega) ?_
  refine x_const (np := 16) (x := 9223372043297226753) (a := 2147483649) (by decide +kernel) (by decide) (by decide) ?_
  refine x_iadd (np := 17) (x := 0) (v := (2147483940 + 3 * u2)) (by decide +kernel) (by first | decide | omega) (by decide) (by first | decide | omega) (by first | decide | omega) ?_
  have b6 := jB (e := (292 + 3 * u2)) u2 hJ rg_76_292_3_10 (by first | decide | omega) (by first | decide | omega)
  refine x_aldC (np := 18) (x := 0) (n := 1952) (i := (292 + 3 * u2)) (q := ((h 76 (292 + 3 * u2)))) (by decide +kernel) (by decide +kernel) (by first | decide | omega) (by first | decide | omega) (by decide) rfl (fun l7 => ?_)
  refine x_istore (np := 20) (x := 4) (lo' := [x_r 75, iv_c a1, iv_c 2147483648, iv_c (2147483939 + 3 * u2), iv_c ((h 76 (292 + 3 * u2))), 147573952589676412928, 147573952589676412928, 147573952589676412928, 147573952589676412928]) (by decide +kernel) l7 (Nat.le_of_ble_eq_true rfl) rfl ?_
  have p5149 : ∀ (n : Nat) (v5138 : Nat) (v5140 : Nat) (w5142 : Nat) (w5143 : Nat) (w5144 : Nat) (w5145 : Nat) (h5146 : xh), 4294967296 - v5140 < n → (2147483648 ≤ v5138 ∧ v5138 ≤ 2147484048) → (2147483648 ≤ v5140 ∧ v5140 ≤ 2147484048) → v5138 ≤ v5140 → J h5146 → Fr 4294967296 h h5146 → Hl h (h 76 (293 + 3 * u2)) v5140 v5138 → X sc 198 d (xI fun r h' => J h' ∧ Fr 4294967296 h h' ∧ (2147483648 ≤ r ∧ r ≤ 2147483649)) 0 0 20 [x_r 75, iv_c a1, iv_c v5138, iv_c (2147483939 + 3 * u2), iv_c v5140, w5142, w5143, w5144, w5145] [] h5146 := by
    intro n
    induction n with
    | zero => intro v5138 v5140 w5142 w5143 w5144 w5145 h5146 q5152; exact absurd q5152 (Nat.not_lt_zero _)
    | succ n i5153 =>
      intro v5138 v5140 w5142 w5143 w5144 w5145 h5146 q5152 b5139 b5141 b5150 j5148 f5147 m5151
      have f5154 := Fr.trans hF f5147 (by decide)
      refine x_iload (np := 22) (x := 4) (by decide +kernel) rfl (by first | decide | omega) ?_
      refine x_aload (np := 23) (x := 0) (by decide +kernel) rfl (x_nc_le (by decide)) ?_
      have q5155 : h5146 75 1 = 76 := by have z := jB (e := 1) 0 j5148 rg_75_1_0_1 (by decide) (by decide); omega
      refine x_getR (np := 26) (x := 705) (f := 1) (q := 76) (by decide +kernel) (by decide) (by decide +kernel) q5155 ?_
      refine x_iload (np := 27) (x := 3) (by decide +kernel) rfl (by first | decide | omega) ?_
      refine x_const (np := 28) (x := 9223372047592194050) (a := 2147483650) (by decide +kernel) (by decide) (by decide) ?_
      refine x_iadd (np := 29) (x := 0) (v := (2147483941 + 3 * u2)) (by decide +kernel) (by first | decide | omega) (by decide) (by first | decide | omega) (by first | decide | omega) ?_
      have q5156 : h5146 76 (293 + 3 * u2) = h 76 (293 + 3 * u2) := jK u2 f5147 rg_76_293_3_10 (by first | decide | omega) (by first | decide | omega) (by decide)
      have b5157 := jB (e := (293 + 3 * u2)) u2 hJ rg_76_293_3_10 (by first | decide | omega) (by first | decide | omega)
      refine x_aldC (np := 30) (x := 0) (n := 1952) (i := (293 + 3 * u2)) (q := ((h 76 (293 + 3 * u2)))) (by decide +kernel) (by decide +kernel) (by first | decide | omega) (by first | decide | omega) (by decide) q5156 (fun l5158 => ?_)
      refine x_icmp (k := 3) (tg := 270) (np := 33) (by decide +kernel) (by decide) (by first | decide | omega) l5158 (fun q5159 => ?_) (fun q5160 => ?_)
      · have q5159 : ((h 76 (293 + 3 * u2))) ≤ v5140 := q5159
        refine x_iload (np := 271) (x := 2) (by decide +kernel) rfl (by first | decide | omega) ?_
        refine x_ifz (k := 0) (tg := 284) (np := 274) (by decide +kernel) (by decide) (by first | decide | omega) (fun q5161 => ?_) (fun q5162 => ?_)
        · have q5161 : v5138 = 2147483648 := q5161
          refine x_const (np := 285) (x := 9223372043297226753) (a := 2147483649) (by decide +kernel) (by decide) (by decide) ?_
          refine x_goto (np := 288) (x := 289) (by decide +kernel) ?_
          refine x_retI (np := 290) (x := 0) (by decide +kernel) (by decide) (Or.inr ⟨by decide +kernel, by first | decide | omega, by first | decide | omega⟩) ⟨_, rfl, (by decide), ?_⟩
          exact ⟨j5148, f5154, (by first | decide | omega)⟩
        have q5162 : ¬ (v5138 = 2147483648) := q5162
        refine x_aload (np := 275) (x := 0) (by decide +kernel) rfl (x_nc_le (by decide)) ?_
        have q5163 : h5146 75 15 = 82 := by have z := jB (e := 15) 0 j5148 rg_75_15_0_1 (by decide) (by decide); omega
        refine x_getR (np := 278) (x := 719) (f := 15) (q := 82) (by decide +kernel) (by decide) (by decide +kernel) q5163 ?_
        refine x_const (np := 279) (x := 9223372039002259456) (a := 2147483648) (by decide +kernel) (by decide) (by decide) ?_
        refine x_aldC (np := 280) (x := 0) (n := 400) (i := 0) (q := (h5146 82 0)) (by decide +kernel) (by decide +kernel) (by first | decide | omega) (by first | decide | omega) (by decide) rfl (fun l5164 => ?_)
        refine x_const (np := 281) (x := 9223372043297226753) (a := 2147483649) (by decide +kernel) (by decide) (by decide) ?_
        refine x_icmp (k := 1) (tg := 288) (np := 284) (by decide +kernel) (by decide) l5164 (by decide) (fun q5165 => ?_) (fun q5166 => ?_)
        · have q5165 : (h5146 82 0) ≠ 2147483649 := q5165
          refine x_const (np := 289) (x := 9223372039002259456) (a := 2147483648) (by decide +kernel) (by decide) (by decide) ?_
          refine x_retI (np := 290) (x := 0) (by decide +kernel) (by decide) (Or.inr ⟨by decide +kernel, by first | decide | omega, by first | decide | omega⟩) ⟨_, rfl, (by decide), ?_⟩
          exact ⟨j5148, f5154, (by first | decide | omega)⟩
        have q5166 : ¬ ((h5146 82 0) ≠ 2147483649) := q5166
        refine x_const (np := 285) (x := 9223372043297226753) (a := 2147483649) (by decide +kernel) (by decide) (by decide) ?_
        refine x_goto (np := 288) (x := 289) (by decide +kernel) ?_
        refine x_retI (np := 290) (x := 0) (by decide +kernel) (by decide) (Or.inr ⟨by decide +kernel, by first | decide | omega, by first | decide | omega⟩) ⟨_, rfl, (by decide), ?_⟩
        exact ⟨j5148, f5154, (by first | decide | omega)⟩
      have q5160 : ¬ (((h 76 (293 + 3 * u2))) ≤ v5140) := q5160
      refine x_aload (np := 34) (x := 0) (by decide +kernel) rfl (x_nc_le (by decide)) ?_
      have q5167 : h5146 75 1 = 76 := by have z := jB (e := 1) 0 j5148 rg_75_1_0_1 (by decide) (by decide); omega
      refine x_getR (np := 37) (x := 705) (f := 1) (q := 76) (by decide +kernel) (by decide) (by decide +kernel) q5167 ?_
      refine x_const (np := 40) (x := 9223373417686761793) (a := 2147483969) (by decide +kernel) (by decide) (by decide) ?_
      refine x_const (np := 41) (x := 9223372047592194050) (a := 2147483650) (by decide +kernel) (by decide) (by decide) ?_
      refine x_iload (np := 43) (x := 4) (by decide +kernel) rfl (by first | decide | omega) ?_
      obtain ⟨u5168, q5169⟩ : ∃ z, v5140 = 2147483648 + z := ⟨v5140 - 2147483648, by first | decide | omega⟩
      refine x_imul (np := 44) (x := 0) (i := 2) (j := u5168) (v := (2147483648 + 2 * u5168)) (by decide +kernel) (by first | decide | omega) (by first | decide | omega) (by first | decide | omega) (by first | decide | omega) (by decide) (by first | decide | omega) ?_
      refine x_iadd (np := 45) (x := 0) (v := (2147483969 + 2 * u5168)) (by decide +kernel) (by decide) (by first | decide | omega) (by first | decide | omega) (by first | decide | omega) ?_
      have q5171 : h5146 76 (321 + 2 * u5168) = h 76 (321 + 2 * u5168) := jK u5168 f5147 rg_76_321_2_400 (by first | decide | omega) (by first | decide | omega) (by decide)
      have b5172 := jB (e := (321 + 2 * u5168)) u5168 hJ rg_76_321_2_400 (by first | decide | omega) (by first | decide | omega)
      refine x_aldC (np := 46) (x := 0) (n := 1952) (i := (321 + 2 * u5168)) (q := ((h 76 (321 + 2 * u5168)))) (by decide +kernel) (by decide +kernel) (by first | decide | omega) (by first | decide | omega) (by decide) q5171 (fun l5173 => ?_)
      refine x_istore (np := 48) (x := 5) (lo' := [x_r 75, iv_c a1, iv_c v5138, iv_c (2147483939 + 3 * u2), iv_c v5140, iv_c ((h 76 (321 + 2 * u5168))), w5143, w5144, w5145]) (by decide +kernel) l5173 (Nat.le_of_ble_eq_true rfl) rfl ?_
      refine x_iload (np := 50) (x := 5) (by decide +kernel) rfl l5173 ?_
      refine x_const (np := 52) (x := 9223372073361997832) (a := 2147483656) (by decide +kernel) (by decide) (by decide) ?_
      refine x_icmp (k := 4) (tg := 99) (np := 55) (by decide +kernel) (by decide) l5173 (by decide) (fun q5174 => ?_) (fun q5175 => ?_)
      · have q5174 : 2147483656 < ((h 76 (321 + 2 * u5168))) := q5174
        refine x_iload (np := 101) (x := 5) (by decide +kernel) rfl l5173 ?_
        refine x_const (np := 103) (x := 9223372090541867020) (a := 2147483660) (by decide +kernel) (by decide) (by decide) ?_
        refine x_icmp (k := 1) (tg := 127) (np := 106) (by decide +kernel) (by decide) l5173 (by decide) (fun q5176 => ?_) (fun q5177 => ?_)
        · have q5176 : ((h 76 (321 + 2 * u5168))) ≠ 2147483660 := q5176
          obtain ⟨b5178, m5179⟩ := Hl.bin (u := u5168) m5151 (by first | decide | omega) (by first | decide | omega) (by first | decide | omega) (by first | decide | omega) (by first | decide | omega)
          obtain ⟨v5180, q5181⟩ : ∃ z, z + 1 = v5138 := ⟨v5138 - 1, by first | decide | omega⟩
          refine x_iinc (np := 130) (i := 2) (j := 2147483647) (v := v5180) (lo' := [x_r 75, iv_c a1, iv_c v5180, iv_c (2147483939 + 3 * u2), iv_c v5140, iv_c ((h 76 (321 + 2 * u5168))), w5143, w5144, w5145]) (by decide +kernel) (by decide) (by decide) rfl (by first | decide | omega) (by first | decide | omega) (by first | decide | omega) rfl ?_
          refine x_aload (np := 131) (x := 0) (by decide +kernel) rfl (x_nc_le (by decide)) ?_
          have q5182 : h5146 75 15 = 82 := by have z := jB (e := 15) 0 j5148 rg_75_15_0_1 (by decide) (by decide); omega
          refine x_getR (np := 134) (x := 719) (f := 15) (q := 82) (by decide +kernel) (by decide) (by decide +kernel) q5182 ?_
          refine x_iload (np := 135) (x := 2) (by decide +kernel) rfl (by first | decide | omega) ?_
          refine x_const (np := 136) (x := 9223372043297226753) (a := 2147483649) (by decide +kernel) (by decide) (by decide) ?_
          obtain ⟨v5183, q5184⟩ : ∃ z, z + 2147483649 = v5180 + 2147483648 := ⟨v5180 + 2147483648 - 2147483649, by first | decide | omega⟩
          refine x_isub (np := 137) (x := 0) (v := v5183) (by decide +kernel) (by first | decide | omega) (by decide) (by first | decide | omega) (by first | decide | omega) ?_
          obtain ⟨u5185, q5186⟩ : ∃ z, v5183 = 2147483648 + z := ⟨v5183 - 2147483648, by first | decide | omega⟩
          refine x_aldC (np := 138) (x := 0) (n := 400) (i := u5185) (q := (h5146 82 u5185)) (by decide +kernel) (by decide +kernel) (by first | decide | omega) (by first | decide | omega) (by decide) rfl (fun l5187 => ?_)
          refine x_istore (np := 140) (x := 6) (lo' := [x_r 75, iv_c a1, iv_c v5180, iv_c (2147483939 + 3 * u2), iv_c v5140, iv_c ((h 76 (321 + 2 * u5168))), iv_c (h5146 82 u5185), w5144, w5145]) (by decide +kernel) l5187 (Nat.le_of_ble_eq_true rfl) rfl ?_
          refine x_aload (np := 141) (x := 0) (by decide +kernel) rfl (x_nc_le (by decide)) ?_
          have q5188 : h5146 75 15 = 82 := by have z := jB (e := 15) 0 j5148 rg_75_15_0_1 (by decide) (by decide); omega
          refine x_getR (np := 144) (x := 719) (f := 15) (q := 82) (by decide +kernel) (by decide) (by decide +kernel) q5188 ?_
          refine x_iload (np := 145) (x := 2) (by decide +kernel) rfl (by first | decide | omega) ?_
          obtain ⟨u5189, q5190⟩ : ∃ z, v5180 = 2147483648 + z := ⟨v5180 - 2147483648, by first | decide | omega⟩
          refine x_aldC (np := 146) (x := 0) (n := 400) (i := u5189) (q := (h5146 82 u5189)) (by decide +kernel) (by decide +kernel) (by first | decide | omega) (by first | decide | omega) (by decide) rfl (fun l5191 => ?_)
          refine x_istore (np := 148) (x := 7) (lo' := [x_r 75, iv_c a1, iv_c v5180, iv_c (2147483939 + 3 * u2), iv_c v5140, iv_c ((h 76 (321 + 2 * u5168))), iv_c (h5146 82 u5185), iv_c (h5146 82 u5189), w5145]) (by decide +kernel) l5191 (Nat.le_of_ble_eq_true rfl) rfl ?_
          refine x_iload (np := 150) (x := 5) (by decide +kernel) rfl l5173 ?_
          refine x_const (np := 152) (x := 9223372081951932426) (a := 2147483658) (by decide +kernel) (by decide) (by decide) ?_
          refine x_icmp (k := 1) (tg := 170) (np := 155) (by decide +kernel) (by decide) l5173 (by decide) (fun q5192 => ?_) (fun q5193 => ?_)
          · have q5192 : ((h 76 (321 + 2 * u5168))) ≠ 2147483658 := q5192
            refine x_iload (np := 172) (x := 5) (by decide +kernel) rfl l5173 ?_
            refine x_const (np := 174) (x := 9223372086246899723) (a := 2147483659) (by decide +kernel) (by decide) (by decide) ?_
            refine x_icmp (k := 1) (tg := 192) (np := 177) (by decide +kernel) (by decide) l5173 (by decide) (fun q5194 => ?_) (fun q5195 => ?_)
            · have q5194 : ((h 76 (321 + 2 * u5168))) ≠ 2147483659 := q5194
              refine x_iload (np := 194) (x := 5) (by decide +kernel) rfl l5173 ?_
              refine x_const (np := 196) (x := 9223372094836834317) (a := 2147483661) (by decide +kernel) (by decide) (by decide) ?_
              refine x_icmp (k := 1) (tg := 216) (np := 199) (by decide +kernel) (by decide) l5173 (by decide) (fun q5196 => ?_) (fun q5197 => ?_)
              · have q5196 : ((h 76 (321 + 2 * u5168))) ≠ 2147483661 := q5196
                refine x_iload (np := 218) (x := 6) (by decide +kernel) rfl l5187 ?_
                refine x_iload (np := 220) (x := 7) (by decide +kernel) rfl l5191 ?_
                refine x_addA (by rw [tb_b198]; decide +kernel) l5187 l5191 (fun v5198 l5199 => ?_)
                refine x_ifz (k := 5) (tg := 228) (np := 224) (by decide +kernel) (by decide) l5199 (fun q5200 => ?_) (fun q5201 => ?_)
                · have q5200 : v5198 ≤ 2147483648 := q5200
                  refine x_const (np := 229) (x := 9223372039002259456) (a := 2147483648) (by decide +kernel) (by decide) (by decide) ?_
                  refine x_istore (np := 231) (x := 8) (lo' := [x_r 75, iv_c a1, iv_c v5180, iv_c (2147483939 + 3 * u2), iv_c v5140, iv_c ((h 76 (321 + 2 * u5168))), iv_c (h5146 82 u5185), iv_c (h5146 82 u5189), iv_c 2147483648]) (by decide +kernel) (by decide) (Nat.le_of_ble_eq_true rfl) rfl ?_
                  refine x_aload (np := 232) (x := 0) (by decide +kernel) rfl (x_nc_le (by decide)) ?_
                  have q5202 : h5146 75 15 = 82 := by have z := jB (e := 15) 0 j5148 rg_75_15_0_1 (by decide) (by decide); omega
                  refine x_getR (np := 235) (x := 719) (f := 15) (q := 82) (by decide +kernel) (by decide) (by decide +kernel) q5202 ?_
                  refine x_iload (np := 236) (x := 2) (by decide +kernel) rfl (by first | decide | omega) ?_
                  refine x_const (np := 237) (x := 9223372043297226753) (a := 2147483649) (by decide +kernel) (by decide) (by decide) ?_
                  obtain ⟨v5203, q5204⟩ : ∃ z, z + 2147483649 = v5180 + 2147483648 := ⟨v5180 + 2147483648 - 2147483649, by first | decide | omega⟩
                  refine x_isub (np := 238) (x := 0) (v := v5203) (by decide +kernel) (by first | decide | omega) (by decide) (by first | decide | omega) (by first | decide | omega) ?_
                  refine x_iload (np := 240) (x := 5) (by decide +kernel) rfl l5173 ?_
                  refine x_const (np := 242) (x := 9223372077656965129) (a := 2147483657) (by decide +kernel) (by decide) (by decide) ?_
                  refine x_icmp (k := 1) (tg := 253) (np := 245) (by decide +kernel) (by decide) l5173 (by decide) (fun q5205 => ?_) (fun q5206 => ?_)
                  · have q5205 : ((h 76 (321 + 2 * u5168))) ≠ 2147483657 := q5205
                    refine x_iload (np := 255) (x := 8) (by decide +kernel) rfl (by decide) ?_
                    refine x_ifz (k := 0) (tg := 262) (np := 258) (by decide +kernel) (by decide) (by decide) (fun q5207 => ?_) (fun q5208 => ?_)
                    · have q5207 : 2147483648 = 2147483648 := q5207
                      refine x_const (np := 263) (x := 9223372039002259456) (a := 2147483648) (by decide +kernel) (by decide) (by decide) ?_
                      obtain ⟨u5209, q5210⟩ : ∃ z, v5203 = 2147483648 + z := ⟨v5203 - 2147483648, by first | decide | omega⟩
                      refine x_ast (np := 264) (x := 0) (kd := 1) (n := 400) (i := u5209) (by decide +kernel) (Or.inl rfl) (by decide +kernel) (by first | decide | omega) (by first | decide | omega) (by decide) (by decide) (fun z => absurd z (by decide)) ?_
                      have j5212 := jU (e := u5209) (v := 2147483648) u5209 j5148 rg_82_0_1_400 (by first | decide | omega) (by first | decide | omega) (by first | decide | omega)
                      have f5214 := jF (e := u5209) (v := 2147483648) u5209 f5154 rg_82_0_1_400 (by first | decide | omega) (by first | decide | omega) (by decide)
                      have f5215 := jF (e := u5209) (v := 2147483648) u5209 f5147 rg_82_0_1_400 (by first | decide | omega) (by first | decide | omega) (by decide)
                      generalize e5213 : x_up h5146 82 u5209 2147483648 = h5211 at j5212 f5214 f5215 ⊢
                      refine x_iinc (np := 267) (i := 4) (j := 2147483649) (v := (1 + v5140)) (lo' := [x_r 75, iv_c a1, iv_c v5180, iv_c (2147483939 + 3 * u2), iv_c (1 + v5140), iv_c ((h 76 (321 + 2 * u5168))), iv_c (h5146 82 u5185), iv_c (h5146 82 u5189), iv_c 2147483648]) (by decide +kernel) (by decide) (by decide) rfl (by first | decide | omega) (by first | decide | omega) (by first | decide | omega) rfl ?_
                      refine x_goto (np := 270) (x := 20) (by decide +kernel) ?_
                      exact i5153 v5180 (1 + v5140) (iv_c ((h 76 (321 + 2 * u5168)))) (iv_c (h5146 82 u5185)) (iv_c (h5146 82 u5189)) (iv_c 2147483648) h5211 (by first | decide | omega) (by first | decide | omega) (by first | decide | omega) (by first | decide | omega) j5212 f5215 (Hl.cast m5179 (by first | decide | omega) (by first | decide | omega))
                    have q5208 : ¬ (2147483648 = 2147483648) := q5208
                    exfalso; omega
                  have q5206 : ¬ (((h 76 (321 + 2 * u5168))) ≠ 2147483657) := q5206
                  refine x_iload (np := 247) (x := 6) (by decide +kernel) rfl l5187 ?_
                  refine x_iload (np := 249) (x := 7) (by decide +kernel) rfl l5191 ?_
                  refine x_addA (by rw [tb_b198]; decide +kernel) l5187 l5191 (fun v5216 l5217 => ?_)
                  refine x_goto (np := 253) (x := 263) (by decide +kernel) ?_
                  obtain ⟨u5218, q5219⟩ : ∃ z, v5203 = 2147483648 + z := ⟨v5203 - 2147483648, by first | decide | omega⟩
                  refine x_ast (np := 264) (x := 0) (kd := 1) (n := 400) (i := u5218) (by decide +kernel) (Or.inl rfl) (by decide +kernel) (by first | decide | omega) (by first | decide | omega) (by decide) l5217 (fun z => absurd z (by decide)) ?_
                  have j5221 := jU (e := u5218) (v := v5216) u5218 j5148 rg_82_0_1_400 (by first | decide | omega) (by first | decide | omega) (by first | decide | omega)
                  have f5223 := jF (e := u5218) (v := v5216) u5218 f5154 rg_82_0_1_400 (by first | decide | omega) (by first | decide | omega) (by decide)
                  have f5224 := jF (e := u5218) (v := v5216) u5218 f5147 rg_82_0_1_400 (by first | decide | omega) (by first | decide | omega) (by decide)
                  generalize e5222 : x_up h5146 82 u5218 v5216 = h5220 at j5221 f5223 f5224 ⊢
                  refine x_iinc (np := 267) (i := 4) (j := 2147483649) (v := (1 + v5140)) (lo' := [x_r 75, iv_c a1, iv_c v5180, iv_c (2147483939 + 3 * u2), iv_c (1 + v5140), iv_c ((h 76 (321 + 2 * u5168))), iv_c (h5146 82 u5185), iv_c (h5146 82 u5189), iv_c 2147483648]) (by decide +kernel) (by decide) (by decide) rfl (by first | decide | omega) (by first | decide | omega) (by first | decide | omega) rfl ?_
                  refine x_goto (np := 270) (x := 20) (by decide +kernel) ?_
                  exact i5153 v5180 (1 + v5140) (iv_c ((h 76 (321 + 2 * u5168)))) (iv_c (h5146 82 u5185)) (iv_c (h5146 82 u5189)) (iv_c 2147483648) h5220 (by first | decide | omega) (by first | decide | omega) (by first | decide | omega) (by first | decide | omega) j5221 f5224 (Hl.cast m5179 (by first | decide | omega) (by first | decide | omega))
                have q5201 : ¬ (v5198 ≤ 2147483648) := q5201
                refine x_const (np := 225) (x := 9223372043297226753) (a := 2147483649) (by decide +kernel) (by decide) (by decide) ?_
                refine x_goto (np := 228) (x := 229) (by decide +kernel) ?_
                refine x_istore (np := 231) (x := 8) (lo' := [x_r 75, iv_c a1, iv_c v5180, iv_c (2147483939 + 3 * u2), iv_c v5140, iv_c ((h 76 (321 + 2 * u5168))), iv_c (h5146 82 u5185), iv_c (h5146 82 u5189), iv_c 2147483649]) (by decide +kernel) (by decide) (Nat.le_of_ble_eq_true rfl) rfl ?_
                refine x_aload (np := 232) (x := 0) (by decide +kernel) rfl (x_nc_le (by decide)) ?_
                have q5225 : h5146 75 15 = 82 := by have z := jB (e := 15) 0 j5148 rg_75_15_0_1 (by decide) (by decide); omega
                refine x_getR (np := 235) (x := 719) (f := 15) (q := 82) (by decide +kernel) (by decide) (by decide +kernel) q5225 ?_
                refine x_iload (np := 236) (x := 2) (by decide +kernel) rfl (by first | decide | omega) ?_
                refine x_const (np := 237) (x := 9223372043297226753) (a := 2147483649) (by decide +kernel) (by decide) (by decide) ?_
                obtain ⟨v5226, q5227⟩ : ∃ z, z + 2147483649 = v5180 + 2147483648 := ⟨v5180 + 2147483648 - 2147483649, by first | decide | omega⟩
                refine x_isub (np := 238) (x := 0) (v := v5226) (by decide +kernel) (by first | decide | omega) (by decide) (by first | decide | omega) (by first | decide | omega) ?_
                refine x_iload (np := 240) (x := 5) (by decide +kernel) rfl l5173 ?_
                refine x_const (np := 242) (x := 9223372077656965129) (a := 2147483657) (by decide +kernel) (by decide) (by decide) ?_
                refine x_icmp (k := 1) (tg := 253) (np := 245) (by decide +kernel) (by decide) l5173 (by decide) (fun q5228 => ?_) (fun q5229 => ?_)
                · have q5228 : ((h 76 (321 + 2 * u5168))) ≠ 2147483657 := q5228
                  refine x_iload (np := 255) (x := 8) (by decide +kernel) rfl (by decide) ?_
                  refine x_ifz (k := 0) (tg := 262) (np := 258) (by decide +kernel) (by decide) (by decide) (fun q5230 => ?_) (fun q5231 => ?_)
                  · have q5230 : 2147483649 = 2147483648 := q5230
                    exfalso; omega
                  have q5231 : ¬ (2147483649 = 2147483648) := q5231
                  refine x_const (np := 259) (x := 9223372043297226753) (a := 2147483649) (by decide +kernel) (by decide) (by decide) ?_
                  refine x_goto (np := 262) (x := 263) (by decide +kernel) ?_
                  obtain ⟨u5232, q5233⟩ : ∃ z, v5226 = 2147483648 + z := ⟨v5226 - 2147483648, by first | decide | omega⟩
                  refine x_ast (np := 264) (x := 0) (kd := 1) (n := 400) (i := u5232) (by decide +kernel) (Or.inl rfl) (by decide +kernel) (by first | decide | omega) (by first | decide | omega) (by decide) (by decide) (fun z => absurd z (by decide)) ?_
                  have j5235 := jU (e := u5232) (v := 2147483649) u5232 j5148 rg_82_0_1_400 (by first | decide | omega) (by first | decide | omega) (by first | decide | omega)
                  have f5237 := jF (e := u5232) (v := 2147483649) u5232 f5154 rg_82_0_1_400 (by first | decide | omega) (by first | decide | omega) (by decide)
                  have f5238 := jF (e := u5232) (v := 2147483649) u5232 f5147 rg_82_0_1_400 (by first | decide | omega) (by first | decide | omega) (by decide)
                  generalize e5236 : x_up h5146 82 u5232 2147483649 = h5234 at j5235 f5237 f5238 ⊢
                  refine x_iinc (np := 267) (i := 4) (j := 2147483649) (v := (1 + v5140)) (lo' := [x_r 75, iv_c a1, iv_c v5180, iv_c (2147483939 + 3 * u2), iv_c (1 + v5140), iv_c ((h 76 (321 + 2 * u5168))), iv_c (h5146 82 u5185), iv_c (h5146 82 u5189), iv_c 2147483649]) (by decide +kernel) (by decide) (by decide) rfl (by first | decide | omega) (by first | decide | omega) (by first | decide | omega) rfl ?_
                  refine x_goto (np := 270) (x := 20) (by decide +kernel) ?_
                  exact i5153 v5180 (1 + v5140) (iv_c ((h 76 (321 + 2 * u5168)))) (iv_c (h5146 82 u5185)) (iv_c (h5146 82 u5189)) (iv_c 2147483649) h5234 (by first | decide | omega) (by first | decide | omega) (by first | decide | omega) (by first | decide | omega) j5235 f5238 (Hl.cast m5179 (by first | decide | omega) (by first | decide | omega))
                have q5229 : ¬ (((h 76 (321 + 2 * u5168))) ≠ 2147483657) := q5229
                refine x_iload (np := 247) (x := 6) (by decide +kernel) rfl l5187 ?_
                refine x_iload (np := 249) (x := 7) (by decide +kernel) rfl l5191 ?_
                refine x_addA (by rw [tb_b198]; decide +kernel) l5187 l5191 (fun v5239 l5240 => ?_)
                refine x_goto (np := 253) (x := 263) (by decide +kernel) ?_
                obtain ⟨u5241, q5242⟩ : ∃ z, v5226 = 2147483648 + z := ⟨v5226 - 2147483648, by first | decide | omega⟩
                refine x_ast (np := 264) (x := 0) (kd := 1) (n := 400) (i := u5241) (by decide +kernel) (Or.inl rfl) (by decide +kernel) (by first | decide | omega) (by first | decide | omega) (by decide) l5240 (fun z => absurd z (by decide)) ?_
                have j5244 := jU (e := u5241) (v := v5239) u5241 j5148 rg_82_0_1_400 (by first | decide | omega) (by first | decide | omega) (by first | decide | omega)
                have f5246 := jF (e := u5241) (v := v5239) u5241 f5154 rg_82_0_1_400 (by first | decide | omega) (by first | decide | omega) (by decide)
                have f5247 := jF (e := u5241) (v := v5239) u5241 f5147 rg_82_0_1_400 (by first | decide | omega) (by first | decide | omega) (by decide)
                generalize e5245 : x_up h5146 82 u5241 v5239 = h5243 at j5244 f5246 f5247 ⊢
                refine x_iinc (np := 267) (i := 4) (j := 2147483649) (v := (1 + v5140)) (lo' := [x_r 75, iv_c a1, iv_c v5180, iv_c (2147483939 + 3 * u2), iv_c (1 + v5140), iv_c ((h 76 (321 + 2 * u5168))), iv_c (h5146 82 u5185), iv_c (h5146 82 u5189), iv_c 2147483649]) (by decide +kernel) (by decide) (by decide) rfl (by first | decide | omega) (by first | decide | omega) (by first | decide | omega) rfl ?_
                refine x_goto (np := 270) (x := 20) (by decide +kernel) ?_
                exact i5153 v5180 (1 + v5140) (iv_c ((h 76 (321 + 2 * u5168)))) (iv_c (h5146 82 u5185)) (iv_c (h5146 82 u5189)) (iv_c 2147483649) h5243 (by first | decide | omega) (by first | decide | omega) (by first | decide | omega) (by first | decide | omega) j5244 f5247 (Hl.cast m5179 (by first | decide | omega) (by first | decide | omega))
              have q5197 : ¬ (((h 76 (321 + 2 * u5168))) ≠ 2147483661) := q5197
              refine x_iload (np := 201) (x := 6) (by decide +kernel) rfl l5187 ?_
              refine x_iload (np := 203) (x := 7) (by decide +kernel) rfl l5191 ?_
              refine x_addA (by rw [tb_b198]; decide +kernel) l5187 l5191 (fun v5248 l5249 => ?_)
              refine x_const (np := 205) (x := 9223372047592194050) (a := 2147483650) (by decide +kernel) (by decide) (by decide) ?_
              refine x_icmp (k := 1) (tg := 212) (np := 208) (by decide +kernel) (by decide) l5249 (by decide) (fun q5250 => ?_) (fun q5251 => ?_)
              · have q5250 : v5248 ≠ 2147483650 := q5250
                refine x_const (np := 213) (x := 9223372039002259456) (a := 2147483648) (by decide +kernel) (by decide) (by decide) ?_
                refine x_goto (np := 216) (x := 229) (by decide +kernel) ?_
                refine x_istore (np := 231) (x := 8) (lo' := [x_r 75, iv_c a1, iv_c v5180, iv_c (2147483939 + 3 * u2), iv_c v5140, iv_c ((h 76 (321 + 2 * u5168))), iv_c (h5146 82 u5185), iv_c (h5146 82 u5189), iv_c 2147483648]) (by decide +kernel) (by decide) (Nat.le_of_ble_eq_true rfl) rfl ?_
                refine x_aload (np := 232) (x := 0) (by decide +kernel) rfl (x_nc_le (by decide)) ?_
                have q5252 : h5146 75 15 = 82 := by have z := jB (e := 15) 0 j5148 rg_75_15_0_1 (by decide) (by decide); omega
                refine x_getR (np := 235) (x := 719) (f := 15) (q := 82) (by decide +kernel) (by decide) (by decide +kernel) q5252 ?_
                refine x_iload (np := 236) (x := 2) (by decide +kernel) rfl (by first | decide | omega) ?_
                refine x_const (np := 237) (x := 9223372043297226753) (a := 2147483649) (by decide +kernel) (by decide) (by decide) ?_
                obtain ⟨v5253, q5254⟩ : ∃ z, z + 2147483649 = v5180 + 2147483648 := ⟨v5180 + 2147483648 - 2147483649, by first | decide | omega⟩
                refine x_isub (np := 238) (x := 0) (v := v5253) (by decide +kernel) (by first | decide | omega) (by decide) (by first | decide | omega) (by first | decide | omega) ?_
                refine x_iload (np := 240) (x := 5) (by decide +kernel) rfl l5173 ?_
                refine x_const (np := 242) (x := 9223372077656965129) (a := 2147483657) (by decide +kernel) (by decide) (by decide) ?_
                refine x_icmp (k := 1) (tg := 253) (np := 245) (by decide +kernel) (by decide) l5173 (by decide) (fun q5255 => ?_) (fun q5256 => ?_)
                · have q5255 : ((h 76 (321 + 2 * u5168))) ≠ 2147483657 := q5255
                  refine x_iload (np := 255) (x := 8) (by decide +kernel) rfl (by decide) ?_
                  refine x_ifz (k := 0) (tg := 262) (np := 258) (by decide +kernel) (by decide) (by decide) (fun q5257 => ?_) (fun q5258 => ?_)
                  · have q5257 : 2147483648 = 2147483648 := q5257
                    refine x_const (np := 263) (x := 9223372039002259456) (a := 2147483648) (by decide +kernel) (by decide) (by decide) ?_
                    obtain ⟨u5259, q5260⟩ : ∃ z, v5253 = 2147483648 + z := ⟨v5253 - 2147483648, by first | decide | omega⟩
                    refine x_ast (np := 264) (x := 0) (kd := 1) (n := 400) (i := u5259) (by decide +kernel) (Or.inl rfl) (by decide +kernel) (by first | decide | omega) (by first | decide | omega) (by decide) (by decide) (fun z => absurd z (by decide)) ?_
                    have j5262 := jU (e := u5259) (v := 2147483648) u5259 j5148 rg_82_0_1_400 (by first | decide | omega) (by first | decide | omega) (by first | decide | omega)
                    have f5264 := jF (e := u5259) (v := 2147483648) u5259 f5154 rg_82_0_1_400 (by first | decide | omega) (by first | decide | omega) (by decide)
                    have f5265 := jF (e := u5259) (v := 2147483648) u5259 f5147 rg_82_0_1_400 (by first | decide | omega) (by first | decide | omega) (by decide)
                    generalize e5263 : x_up h5146 82 u5259 2147483648 = h5261 at j5262 f5264 f5265 ⊢
                    refine x_iinc (np := 267) (i := 4) (j := 2147483649) (v := (1 + v5140)) (lo' := [x_r 75, iv_c a1, iv_c v5180, iv_c (2147483939 + 3 * u2), iv_c (1 + v5140), iv_c ((h 76 (321 + 2 * u5168))), iv_c (h5146 82 u5185), iv_c (h5146 82 u5189), iv_c 2147483648]) (by decide +kernel) (by decide) (by decide) rfl (by first | decide | omega) (by first | decide | omega) (by first | decide | omega) rfl ?_
                    refine x_goto (np := 270) (x := 20) (by decide +kernel) ?_
                    exact i5153 v5180 (1 + v5140) (iv_c ((h 76 (321 + 2 * u5168)))) (iv_c (h5146 82 u5185)) (iv_c (h5146 82 u5189)) (iv_c 2147483648) h5261 (by first | decide | omega) (by first | decide | omega) (by first | decide | omega) (by first | decide | omega) j5262 f5265 (Hl.cast m5179 (by first | decide | omega) (by first | decide | omega))
                  have q5258 : ¬ (2147483648 = 2147483648) := q5258
                  exfalso; omega
                have q5256 : ¬ (((h 76 (321 + 2 * u5168))) ≠ 2147483657) := q5256
                exfalso; omega
              have q5251 : ¬ (v5248 ≠ 2147483650) := q5251
              refine x_const (np := 209) (x := 9223372043297226753) (a := 2147483649) (by decide +kernel) (by decide) (by decide) ?_
              refine x_goto (np := 212) (x := 229) (by decide +kernel) ?_
              refine x_istore (np := 231) (x := 8) (lo' := [x_r 75, iv_c a1, iv_c v5180, iv_c (2147483939 + 3 * u2), iv_c v5140, iv_c ((h 76 (321 + 2 * u5168))), iv_c (h5146 82 u5185), iv_c (h5146 82 u5189), iv_c 2147483649]) (by decide +kernel) (by decide) (Nat.le_of_ble_eq_true rfl) rfl ?_
              refine x_aload (np := 232) (x := 0) (by decide +kernel) rfl (x_nc_le (by decide)) ?_
              have q5266 : h5146 75 15 = 82 := by have z := jB (e := 15) 0 j5148 rg_75_15_0_1 (by decide) (by decide); omega
              refine x_getR (np := 235) (x := 719) (f := 15) (q := 82) (by decide +kernel) (by decide) (by decide +kernel) q5266 ?_
              refine x_iload (np := 236) (x := 2) (by decide +kernel) rfl (by first | decide | omega) ?_
              refine x_const (np := 237) (x := 9223372043297226753) (a := 2147483649) (by decide +kernel) (by decide) (by decide) ?_
              obtain ⟨v5267, q5268⟩ : ∃ z, z + 2147483649 = v5180 + 2147483648 := ⟨v5180 + 2147483648 - 2147483649, by first | decide | omega⟩
              refine x_isub (np := 238) (x := 0) (v := v5267) (by decide +kernel) (by first | decide | omega) (by decide) (by first | decide | omega) (by first | decide | omega) ?_
              refine x_iload (np := 240) (x := 5) (by decide +kernel) rfl l5173 ?_
              refine x_const (np := 242) (x := 9223372077656965129) (a := 2147483657) (by decide +kernel) (by decide) (by decide) ?_
              refine x_icmp (k := 1) (tg := 253) (np := 245) (by decide +kernel) (by decide) l5173 (by decide) (fun q5269 => ?_) (fun q5270 => ?_)
              · have q5269 : ((h 76 (321 + 2 * u5168))) ≠ 2147483657 := q5269
                refine x_iload (np := 255) (x := 8) (by decide +kernel) rfl (by decide) ?_
                refine x_ifz (k := 0) (tg := 262) (np := 258) (by decide +kernel) (by decide) (by decide) (fun q5271 => ?_) (fun q5272 => ?_)
                · have q5271 : 2147483649 = 2147483648 := q5271
                  exfalso; omega
                have q5272 : ¬ (2147483649 = 2147483648) := q5272
                refine x_const (np := 259) (x := 9223372043297226753) (a := 2147483649) (by decide +kernel) (by decide) (by decide) ?_
                refine x_goto (np := 262) (x := 263) (by decide +kernel) ?_
                obtain ⟨u5273, q5274⟩ : ∃ z, v5267 = 2147483648 + z := ⟨v5267 - 2147483648, by first | decide | omega⟩
                refine x_ast (np := 264) (x := 0) (kd := 1) (n := 400) (i := u5273) (by decide +kernel) (Or.inl rfl) (by decide +kernel) (by first | decide | omega) (by first | decide | omega) (by decide) (by decide) (fun z => absurd z (by decide)) ?_
                have j5276 := jU (e := u5273) (v := 2147483649) u5273 j5148 rg_82_0_1_400 (by first | decide | omega) (by first | decide | omega) (by first | decide | omega)
                have f5278 := jF (e := u5273) (v := 2147483649) u5273 f5154 rg_82_0_1_400 (by first | decide | omega) (by first | decide | omega) (by decide)
                have f5279 := jF (e := u5273) (v := 2147483649) u5273 f5147 rg_82_0_1_400 (by first | decide | omega) (by first | decide | omega) (by decide)
                generalize e5277 : x_up h5146 82 u5273 2147483649 = h5275 at j5276 f5278 f5279 ⊢
                refine x_iinc (np := 267) (i := 4) (j := 2147483649) (v := (1 + v5140)) (lo' := [x_r 75, iv_c a1, iv_c v5180, iv_c (2147483939 + 3 * u2), iv_c (1 + v5140), iv_c ((h 76 (321 + 2 * u5168))), iv_c (h5146 82 u5185), iv_c (h5146 82 u5189), iv_c 2147483649]) (by decide +kernel) (by decide) (by decide) rfl (by first | decide | omega) (by first | decide | omega) (by first | decide | omega) rfl ?_
                refine x_goto (np := 270) (x := 20) (by decide +kernel) ?_
                exact i5153 v5180 (1 + v5140) (iv_c ((h 76 (321 + 2 * u5168)))) (iv_c (h5146 82 u5185)) (iv_c (h5146 82 u5189)) (iv_c 2147483649) h5275 (by first | decide | omega) (by first | decide | omega) (by first | decide | omega) (by first | decide | omega) j5276 f5279 (Hl.cast m5179 (by first | decide | omega) (by first | decide | omega))
              have q5270 : ¬ (((h 76 (321 + 2 * u5168))) ≠ 2147483657) := q5270
              exfalso; omega
            have q5195 : ¬ (((h 76 (321 + 2 * u5168))) ≠ 2147483659) := q5195
            refine x_iload (np := 179) (x := 6) (by decide +kernel) rfl l5187 ?_
            refine x_iload (np := 181) (x := 7) (by decide +kernel) rfl l5191 ?_
            refine x_icmp (k := 5) (tg := 188) (np := 184) (by decide +kernel) (by decide) l5187 l5191 (fun q5280 => ?_) (fun q5281 => ?_)
            · have q5280 : (h5146 82 u5185) ≤ (h5146 82 u5189) := q5280
              refine x_const (np := 189) (x := 9223372039002259456) (a := 2147483648) (by decide +kernel) (by decide) (by decide) ?_
              refine x_goto (np := 192) (x := 229) (by decide +kernel) ?_
              refine x_istore (np := 231) (x := 8) (lo' := [x_r 75, iv_c a1, iv_c v5180, iv_c (2147483939 + 3 * u2), iv_c v5140, iv_c ((h 76 (321 + 2 * u5168))), iv_c (h5146 82 u5185), iv_c (h5146 82 u5189), iv_c 2147483648]) (by decide +kernel) (by decide) (Nat.le_of_ble_eq_true rfl) rfl ?_
              refine x_aload (np := 232) (x := 0) (by decide +kernel) rfl (x_nc_le (by decide)) ?_
              have q5282 : h5146 75 15 = 82 := by have z := jB (e := 15) 0 j5148 rg_75_15_0_1 (by decide) (by decide); omega
              refine x_getR (np := 235) (x := 719) (f := 15) (q := 82) (by decide +kernel) (by decide) (by decide +kernel) q5282 ?_
              refine x_iload (np := 236) (x := 2) (by decide +kernel) rfl (by first | decide | omega) ?_
              refine x_const (np := 237) (x := 9223372043297226753) (a := 2147483649) (by decide +kernel) (by decide) (by decide) ?_
              obtain ⟨v5283, q5284⟩ : ∃ z, z + 2147483649 = v5180 + 2147483648 := ⟨v5180 + 2147483648 - 2147483649, by first | decide | omega⟩
              refine x_isub (np := 238) (x := 0) (v := v5283) (by decide +kernel) (by first | decide | omega) (by decide) (by first | decide | omega) (by first | decide | omega) ?_
              refine x_iload (np := 240) (x := 5) (by decide +kernel) rfl l5173 ?_
              refine x_const (np := 242) (x := 9223372077656965129) (a := 2147483657) (by decide +kernel) (by decide) (by decide) ?_
              refine x_icmp (k := 1) (tg := 253) (np := 245) (by decide +kernel) (by decide) l5173 (by decide) (fun q5285 => ?_) (fun q5286 => ?_)
              · have q5285 : ((h 76 (321 + 2 * u5168))) ≠ 2147483657 := q5285
                refine x_iload (np := 255) (x := 8) (by decide +kernel) rfl (by decide) ?_
                refine x_ifz (k := 0) (tg := 262) (np := 258) (by decide +kernel) (by decide) (by decide) (fun q5287 => ?_) (fun q5288 => ?_)
                · have q5287 : 2147483648 = 2147483648 := q5287
                  refine x_const (np := 263) (x := 9223372039002259456) (a := 2147483648) (by decide +kernel) (by decide) (by decide) ?_
                  obtain ⟨u5289, q5290⟩ : ∃ z, v5283 = 2147483648 + z := ⟨v5283 - 2147483648, by first | decide | omega⟩
                  refine x_ast (np := 264) (x := 0) (kd := 1) (n := 400) (i := u5289) (by decide +kernel) (Or.inl rfl) (by decide +kernel) (by first | decide | omega) (by first | decide | omega) (by decide) (by decide) (fun z => absurd z (by decide)) ?_
                  have j5292 := jU (e := u5289) (v := 2147483648) u5289 j5148 rg_82_0_1_400 (by first | decide | omega) (by first | decide | omega) (by first | decide | omega)
                  have f5294 := jF (e := u5289) (v := 2147483648) u5289 f5154 rg_82_0_1_400 (by first | decide | omega) (by first | decide | omega) (by decide)
                  have f5295 := jF (e := u5289) (v := 2147483648) u5289 f5147 rg_82_0_1_400 (by first | decide | omega) (by first | decide | omega) (by decide)
                  generalize e5293 : x_up h5146 82 u5289 2147483648 = h5291 at j5292 f5294 f5295 ⊢
                  refine x_iinc (np := 267) (i := 4) (j := 2147483649) (v := (1 + v5140)) (lo' := [x_r 75, iv_c a1, iv_c v5180, iv_c (2147483939 + 3 * u2), iv_c (1 + v5140), iv_c ((h 76 (321 + 2 * u5168))), iv_c (h5146 82 u5185), iv_c (h5146 82 u5189), iv_c 2147483648]) (by decide +kernel) (by decide) (by decide) rfl (by first | decide | omega) (by first | decide | omega) (by first | decide | omega) rfl ?_
                  refine x_goto (np := 270) (x := 20) (by decide +kernel) ?_
                  exact i5153 v5180 (1 + v5140) (iv_c ((h 76 (321 + 2 * u5168)))) (iv_c (h5146 82 u5185)) (iv_c (h5146 82 u5189)) (iv_c 2147483648) h5291 (by first | decide | omega) (by first | decide | omega) (by first | decide | omega) (by first | decide | omega) j5292 f5295 (Hl.cast m5179 (by first | decide | omega) (by first | decide | omega))
                have q5288 : ¬ (2147483648 = 2147483648) := q5288
                exfalso; omega
              have q5286 : ¬ (((h 76 (321 + 2 * u5168))) ≠ 2147483657) := q5286
              exfalso; omega
            have q5281 : ¬ ((h5146 82 u5185) ≤ (h5146 82 u5189)) := q5281
            refine x_const (np := 185) (x := 9223372043297226753) (a := 2147483649) (by decide +kernel) (by decide) (by decide) ?_
            refine x_goto (np := 188) (x := 229) (by decide +kernel) ?_
            refine x_istore (np := 231) (x := 8) (lo' := [x_r 75, iv_c a1, iv_c v5180, iv_c (2147483939 + 3 * u2), iv_c v5140, iv_c ((h 76 (321 + 2 * u5168))), iv_c (h5146 82 u5185), iv_c (h5146 82 u5189), iv_c 2147483649]) (by decide +kernel) (by decide) (Nat.le_of_ble_eq_true rfl) rfl ?_
            refine x_aload (np := 232) (x := 0) (by decide +kernel) rfl (x_nc_le (by decide)) ?_
            have q5296 : h5146 75 15 = 82 := by have z := jB (e := 15) 0 j5148 rg_75_15_0_1 (by decide) (by decide); omega
            refine x_getR (np := 235) (x := 719) (f := 15) (q := 82) (by decide +kernel) (by decide) (by decide +kernel) q5296 ?_
            refine x_iload (np := 236) (x := 2) (by decide +kernel) rfl (by first | decide | omega) ?_
            refine x_const (np := 237) (x := 9223372043297226753) (a := 2147483649) (by decide +kernel) (by decide) (by decide) ?_
            obtain ⟨v5297, q5298⟩ : ∃ z, z + 2147483649 = v5180 + 2147483648 := ⟨v5180 + 2147483648 - 2147483649, by first | decide | omega⟩
            refine x_isub (np := 238) (x := 0) (v := v5297) (by decide +kernel) (by first | decide | omega) (by decide) (by first | decide | omega) (by first | decide | omega) ?_
            refine x_iload (np := 240) (x := 5) (by decide +kernel) rfl l5173 ?_
            refine x_const (np := 242) (x := 9223372077656965129) (a := 2147483657) (by decide +kernel) (by decide) (by decide) ?_
            refine x_icmp (k := 1) (tg := 253) (np := 245) (by decide +kernel) (by decide) l5173 (by decide) (fun q5299 => ?_) (fun q5300 => ?_)
            · have q5299 : ((h 76 (321 + 2 * u5168))) ≠ 2147483657 := q5299
              refine x_iload (np := 255) (x := 8) (by decide +kernel) rfl (by decide) ?_
              refine x_ifz (k := 0) (tg := 262) (np := 258) (by decide +kernel) (by decide) (by decide) (fun q5301 => ?_) (fun q5302 => ?_)
              · have q5301 : 2147483649 = 2147483648 := q5301
                exfalso; omega
              have q5302 : ¬ (2147483649 = 2147483648) := q5302
              refine x_const (np := 259) (x := 9223372043297226753) (a := 2147483649) (by decide +kernel) (by decide) (by decide) ?_
              refine x_goto (np := 262) (x := 263) (by decide +kernel) ?_
              obtain ⟨u5303, q5304⟩ : ∃ z, v5297 = 2147483648 + z := ⟨v5297 - 2147483648, by first | decide | omega⟩
              refine x_ast (np := 264) (x := 0) (kd := 1) (n := 400) (i := u5303) (by decide +kernel) (Or.inl rfl) (by decide +kernel) (by first | decide | omega) (by first | decide | omega) (by decide) (by decide) (fun z => absurd z (by decide)) ?_
              have j5306 := jU (e := u5303) (v := 2147483649) u5303 j5148 rg_82_0_1_400 (by first | decide | omega) (by first | decide | omega) (by first | decide | omega)
              have f5308 := jF (e := u5303) (v := 2147483649) u5303 f5154 rg_82_0_1_400 (by first | decide | omega) (by first | decide | omega) (by decide)
              have f5309 := jF (e := u5303) (v := 2147483649) u5303 f5147 rg_82_0_1_400 (by first | decide | omega) (by first | decide | omega) (by decide)
              generalize e5307 : x_up h5146 82 u5303 2147483649 = h5305 at j5306 f5308 f5309 ⊢
              refine x_iinc (np := 267) (i := 4) (j := 2147483649) (v := (1 + v5140)) (lo' := [x_r 75, iv_c a1, iv_c v5180, iv_c (2147483939 + 3 * u2), iv_c (1 + v5140), iv_c ((h 76 (321 + 2 * u5168))), iv_c (h5146 82 u5185), iv_c (h5146 82 u5189), iv_c 2147483649]) (by decide +kernel) (by decide) (by decide) rfl (by first | decide | omega) (by first | decide | omega) (by first | decide | omega) rfl ?_
              refine x_goto (np := 270) (x := 20) (by decide +kernel) ?_
              exact i5153 v5180 (1 + v5140) (iv_c ((h 76 (321 + 2 * u5168)))) (iv_c (h5146 82 u5185)) (iv_c (h5146 82 u5189)) (iv_c 2147483649) h5305 (by first | decide | omega) (by first | decide | omega) (by first | decide | omega) (by first | decide | omega) j5306 f5309 (Hl.cast m5179 (by first | decide | omega) (by first | decide | omega))
            have q5300 : ¬ (((h 76 (321 + 2 * u5168))) ≠ 2147483657) := q5300
            exfalso; omega
          have q5193 : ¬ (((h 76 (321 + 2 * u5168))) ≠ 2147483658) := q5193
          refine x_iload (np := 157) (x := 6) (by decide +kernel) rfl l5187 ?_
          refine x_iload (np := 159) (x := 7) (by decide +kernel) rfl l5191 ?_
          refine x_icmp (k := 3) (tg := 166) (np := 162) (by decide +kernel) (by decide) l5187 l5191 (fun q5310 => ?_) (fun q5311 => ?_)
          · have q5310 : (h5146 82 u5189) ≤ (h5146 82 u5185) := q5310
            refine x_const (np := 167) (x := 9223372039002259456) (a := 2147483648) (by decide +kernel) (by decide) (by decide) ?_
            refine x_goto (np := 170) (x := 229) (by decide +kernel) ?_
            refine x_istore (np := 231) (x := 8) (lo' := [x_r 75, iv_c a1, iv_c v5180, iv_c (2147483939 + 3 * u2), iv_c v5140, iv_c ((h 76 (321 + 2 * u5168))), iv_c (h5146 82 u5185), iv_c (h5146 82 u5189), iv_c 2147483648]) (by decide +kernel) (by decide) (Nat.le_of_ble_eq_true rfl) rfl ?_
            refine x_aload (np := 232) (x := 0) (by decide +kernel) rfl (x_nc_le (by decide)) ?_
            have q5312 : h5146 75 15 = 82 := by have z := jB (e := 15) 0 j5148 rg_75_15_0_1 (by decide) (by decide); omega
            refine x_getR (np := 235) (x := 719) (f := 15) (q := 82) (by decide +kernel) (by decide) (by decide +kernel) q5312 ?_
            refine x_iload (np := 236) (x := 2) (by decide +kernel) rfl (by first | decide | omega) ?_
            refine x_const (np := 237) (x := 9223372043297226753) (a := 2147483649) (by decide +kernel) (by decide) (by decide) ?_
            obtain ⟨v5313, q5314⟩ : ∃ z, z + 2147483649 = v5180 + 2147483648 := ⟨v5180 + 2147483648 - 2147483649, by first | decide | omega⟩
            refine x_isub (np := 238) (x := 0) (v := v5313) (by decide +kernel) (by first | decide | omega) (by decide) (by first | decide | omega) (by first | decide | omega) ?_
            refine x_iload (np := 240) (x := 5) (by decide +kernel) rfl l5173 ?_
            refine x_const (np := 242) (x := 9223372077656965129) (a := 2147483657) (by decide +kernel) (by decide) (by decide) ?_
            refine x_icmp (k := 1) (tg := 253) (np := 245) (by decide +kernel) (by decide) l5173 (by decide) (fun q5315 => ?_) (fun q5316 => ?_)
            · have q5315 : ((h 76 (321 + 2 * u5168))) ≠ 2147483657 := q5315
              refine x_iload (np := 255) (x := 8) (by decide +kernel) rfl (by decide) ?_
              refine x_ifz (k := 0) (tg := 262) (np := 258) (by decide +kernel) (by decide) (by decide) (fun q5317 => ?_) (fun q5318 => ?_)
              · have q5317 : 2147483648 = 2147483648 := q5317
                refine x_const (np := 263) (x := 9223372039002259456) (a := 2147483648) (by decide +kernel) (by decide) (by decide) ?_
                obtain ⟨u5319, q5320⟩ : ∃ z, v5313 = 2147483648 + z := ⟨v5313 - 2147483648, by first | decide | omega⟩
                refine x_ast (np := 264) (x := 0) (kd := 1) (n := 400) (i := u5319) (by decide +kernel) (Or.inl rfl) (by decide +kernel) (by first | decide | omega) (by first | decide | omega) (by decide) (by decide) (fun z => absurd z (by decide)) ?_
                have j5322 := jU (e := u5319) (v := 2147483648) u5319 j5148 rg_82_0_1_400 (by first | decide | omega) (by first | decide | omega) (by first | decide | omega)
                have f5324 := jF (e := u5319) (v := 2147483648) u5319 f5154 rg_82_0_1_400 (by first | decide | omega) (by first | decide | omega) (by decide)
                have f5325 := jF (e := u5319) (v := 2147483648) u5319 f5147 rg_82_0_1_400 (by first | decide | omega) (by first | decide | omega) (by decide)
                generalize e5323 : x_up h5146 82 u5319 2147483648 = h5321 at j5322 f5324 f5325 ⊢
                refine x_iinc (np := 267) (i := 4) (j := 2147483649) (v := (1 + v5140)) (lo' := [x_r 75, iv_c a1, iv_c v5180, iv_c (2147483939 + 3 * u2), iv_c (1 + v5140), iv_c ((h 76 (321 + 2 * u5168))), iv_c (h5146 82 u5185), iv_c (h5146 82 u5189), iv_c 2147483648]) (by decide +kernel) (by decide) (by decide) rfl (by first | decide | omega) (by first | decide | omega) (by first | decide | omega) rfl ?_
                refine x_goto (np := 270) (x := 20) (by decide +kernel) ?_
                exact i5153 v5180 (1 + v5140) (iv_c ((h 76 (321 + 2 * u5168)))) (iv_c (h5146 82 u5185)) (iv_c (h5146 82 u5189)) (iv_c 2147483648) h5321 (by first | decide | omega) (by first | decide | omega) (by first | decide | omega) (by first | decide | omega) j5322 f5325 (Hl.cast m5179 (by first | decide | omega) (by first | decide | omega))
              have q5318 : ¬ (2147483648 = 2147483648) := q5318
              exfalso; omega
            have q5316 : ¬ (((h 76 (321 + 2 * u5168))) ≠ 2147483657) := q5316
            exfalso; omega
          have q5311 : ¬ ((h5146 82 u5189) ≤ (h5146 82 u5185)) := q5311
          refine x_const (np := 163) (x := 9223372043297226753) (a := 2147483649) (by decide +kernel) (by decide) (by decide) ?_
          refine x_goto (np := 166) (x := 229) (by decide +kernel) ?_
          refine x_istore (np := 231) (x := 8) (lo' := [x_r 75, iv_c a1, iv_c v5180, iv_c (2147483939 + 3 * u2), iv_c v5140, iv_c ((h 76 (321 + 2 * u5168))), iv_c (h5146 82 u5185), iv_c (h5146 82 u5189), iv_c 2147483649]) (by decide +kernel) (by decide) (Nat.le_of_ble_eq_true rfl) rfl ?_
          refine x_aload (np := 232) (x := 0) (by decide +kernel) rfl (x_nc_le (by decide)) ?_
          have q5326 : h5146 75 15 = 82 := by have z := jB (e := 15) 0 j5148 rg_75_15_0_1 (by decide) (by decide); omega
          refine x_getR (np := 235) (x := 719) (f := 15) (q := 82) (by decide +kernel) (by decide) (by decide +kernel) q5326 ?_
          refine x_iload (np := 236) (x := 2) (by decide +kernel) rfl (by first | decide | omega) ?_
          refine x_const (np := 237) (x := 9223372043297226753) (a := 2147483649) (by decide +kernel) (by decide) (by decide) ?_
          obtain ⟨v5327, q5328⟩ : ∃ z, z + 2147483649 = v5180 + 2147483648 := ⟨v5180 + 2147483648 - 2147483649, by first | decide | omega⟩
          refine x_isub (np := 238) (x := 0) (v := v5327) (by decide +kernel) (by first | decide | omega) (by decide) (by first | decide | omega) (by first | decide | omega) ?_
          refine x_iload (np := 240) (x := 5) (by decide +kernel) rfl l5173 ?_
          refine x_const (np := 242) (x := 9223372077656965129) (a := 2147483657) (by decide +kernel) (by decide) (by decide) ?_
          refine x_icmp (k := 1) (tg := 253) (np := 245) (by decide +kernel) (by decide) l5173 (by decide) (fun q5329 => ?_) (fun q5330 => ?_)
          · have q5329 : ((h 76 (321 + 2 * u5168))) ≠ 2147483657 := q5329
            refine x_iload (np := 255) (x := 8) (by decide +kernel) rfl (by decide) ?_
            refine x_ifz (k := 0) (tg := 262) (np := 258) (by decide +kernel) (by decide) (by decide) (fun q5331 => ?_) (fun q5332 => ?_)
            · have q5331 : 2147483649 = 2147483648 := q5331
              exfalso; omega
            have q5332 : ¬ (2147483649 = 2147483648) := q5332
            refine x_const (np := 259) (x := 9223372043297226753) (a := 2147483649) (by decide +kernel) (by decide) (by decide) ?_
            refine x_goto (np := 262) (x := 263) (by decide +kernel) ?_
            obtain ⟨u5333, q5334⟩ : ∃ z, v5327 = 2147483648 + z := ⟨v5327 - 2147483648, by first | decide | omega⟩
            refine x_ast (np := 264) (x := 0) (kd := 1) (n := 400) (i := u5333) (by decide +kernel) (Or.inl rfl) (by decide +kernel) (by first | decide | omega) (by first | decide | omega) (by decide) (by decide) (fun z => absurd z (by decide)) ?_
            have j5336 := jU (e := u5333) (v := 2147483649) u5333 j5148 rg_82_0_1_400 (by first | decide | omega) (by first | decide | omega) (by first | decide | omega)
            have f5338 := jF (e := u5333) (v := 2147483649) u5333 f5154 rg_82_0_1_400 (by first | decide | omega) (by first | decide | omega) (by decide)
            have f5339 := jF (e := u5333) (v := 2147483649) u5333 f5147 rg_82_0_1_400 (by first | decide | omega) (by first | decide | omega) (by decide)
            generalize e5337 : x_up h5146 82 u5333 2147483649 = h5335 at j5336 f5338 f5339 ⊢
            refine x_iinc (np := 267) (i := 4) (j := 2147483649) (v := (1 + v5140)) (lo' := [x_r 75, iv_c a1, iv_c v5180, iv_c (2147483939 + 3 * u2), iv_c (1 + v5140), iv_c ((h 76 (321 + 2 * u5168))), iv_c (h5146 82 u5185), iv_c (h5146 82 u5189), iv_c 2147483649]) (by decide +kernel) (by decide) (by decide) rfl (by first | decide | omega) (by first | decide | omega) (by first | decide | omega) rfl ?_
            refine x_goto (np := 270) (x := 20) (by decide +kernel) ?_
            exact i5153 v5180 (1 + v5140) (iv_c ((h 76 (321 + 2 * u5168)))) (iv_c (h5146 82 u5185)) (iv_c (h5146 82 u5189)) (iv_c 2147483649) h5335 (by first | decide | omega) (by first | decide | omega) (by first | decide | omega) (by first | decide | omega) j5336 f5339 (Hl.cast m5179 (by first | decide | omega) (by first | decide | omega))
          have q5330 : ¬ (((h 76 (321 + 2 * u5168))) ≠ 2147483657) := q5330
          exfalso; omega
        have q5177 : ¬ (((h 76 (321 + 2 * u5168))) ≠ 2147483660) := q5177
        obtain ⟨b5340, m5341⟩ := Hl.not (u := u5168) m5151 (by first | decide | omega) (by first | decide | omega) (by first | decide | omega) (by first | decide | omega) (by first | decide | omega)
        refine x_aload (np := 107) (x := 0) (by decide +kernel) rfl (x_nc_le (by decide)) ?_
        have q5342 : h5146 75 15 = 82 := by have z := jB (e := 15) 0 j5148 rg_75_15_0_1 (by decide) (by decide); omega
        refine x_getR (np := 110) (x := 719) (f := 15) (q := 82) (by decide +kernel) (by decide) (by decide +kernel) q5342 ?_
        refine x_iload (np := 111) (x := 2) (by decide +kernel) rfl (by first | decide | omega) ?_
        refine x_const (np := 112) (x := 9223372043297226753) (a := 2147483649) (by decide +kernel) (by decide) (by decide) ?_
        obtain ⟨v5343, q5344⟩ : ∃ z, z + 2147483649 = v5138 + 2147483648 := ⟨v5138 + 2147483648 - 2147483649, by first | decide | omega⟩
        refine x_isub (np := 113) (x := 0) (v := v5343) (by decide +kernel) (by first | decide | omega) (by decide) (by first | decide | omega) (by first | decide | omega) ?_
        refine x_const (np := 114) (x := 9223372043297226753) (a := 2147483649) (by decide +kernel) (by decide) (by decide) ?_
        refine x_aload (np := 115) (x := 0) (by decide +kernel) rfl (x_nc_le (by decide)) ?_
        have q5345 : h5146 75 15 = 82 := by have z := jB (e := 15) 0 j5148 rg_75_15_0_1 (by decide) (by decide); omega
        refine x_getR (np := 118) (x := 719) (f := 15) (q := 82) (by decide +kernel) (by decide) (by decide +kernel) q5345 ?_
        refine x_iload (np := 119) (x := 2) (by decide +kernel) rfl (by first | decide | omega) ?_
        refine x_const (np := 120) (x := 9223372043297226753) (a := 2147483649) (by decide +kernel) (by decide) (by decide) ?_
        obtain ⟨v5346, q5347⟩ : ∃ z, z + 2147483649 = v5138 + 2147483648 := ⟨v5138 + 2147483648 - 2147483649, by first | decide | omega⟩
        refine x_isub (np := 121) (x := 0) (v := v5346) (by decide +kernel) (by first | decide | omega) (by decide) (by first | decide | omega) (by first | decide | omega) ?_
        obtain ⟨u5348, q5349⟩ : ∃ z, v5346 = 2147483648 + z := ⟨v5346 - 2147483648, by first | decide | omega⟩
        refine x_aldC (np := 122) (x := 0) (n := 400) (i := u5348) (q := (h5146 82 u5348)) (by decide +kernel) (by decide +kernel) (by first | decide | omega) (by first | decide | omega) (by decide) rfl (fun l5350 => ?_)
        refine x_subA (by rw [tb_b198]; decide +kernel) (by decide) l5350 (fun v5351 l5352 => ?_)
        obtain ⟨u5353, q5354⟩ : ∃ z, v5343 = 2147483648 + z := ⟨v5343 - 2147483648, by first | decide | omega⟩
        refine x_ast (np := 124) (x := 0) (kd := 1) (n := 400) (i := u5353) (by decide +kernel) (Or.inl rfl) (by decide +kernel) (by first | decide | omega) (by first | decide | omega) (by decide) l5352 (fun z => absurd z (by decide)) ?_
        have j5356 := jU (e := u5353) (v := v5351) u5353 j5148 rg_82_0_1_400 (by first | decide | omega) (by first | decide | omega) (by first | decide | omega)
        have f5358 := jF (e := u5353) (v := v5351) u5353 f5154 rg_82_0_1_400 (by first | decide | omega) (by first | decide | omega) (by decide)
        have f5359 := jF (e := u5353) (v := v5351) u5353 f5147 rg_82_0_1_400 (by first | decide | omega) (by first | decide | omega) (by decide)
        generalize e5357 : x_up h5146 82 u5353 v5351 = h5355 at j5356 f5358 f5359 ⊢
        refine x_goto (np := 127) (x := 264) (by decide +kernel) ?_
        refine x_iinc (np := 267) (i := 4) (j := 2147483649) (v := (1 + v5140)) (lo' := [x_r 75, iv_c a1, iv_c v5138, iv_c (2147483939 + 3 * u2), iv_c (1 + v5140), iv_c ((h 76 (321 + 2 * u5168))), w5143, w5144, w5145]) (by decide +kernel) (by decide) (by decide) rfl (by first | decide | omega) (by first | decide | omega) (by first | decide | omega) rfl ?_
        refine x_goto (np := 270) (x := 20) (by decide +kernel) ?_
        exact i5153 v5138 (1 + v5140) (iv_c ((h 76 (321 + 2 * u5168)))) w5143 w5144 w5145 h5355 (by first | decide | omega) (by first | decide | omega) (by first | decide | omega) (by first | decide | omega) j5356 f5359 (Hl.cast m5341 (by first | decide | omega) (by first | decide | omega))
      have q5175 : ¬ (2147483656 < ((h 76 (321 + 2 * u5168)))) := q5175
      obtain ⟨b5360, m5361⟩ := Hl.push (u := u5168) m5151 (by first | decide | omega) (by first | decide | omega) (by first | decide | omega) (by first | decide | omega)
      refine x_aload (np := 56) (x := 0) (by decide +kernel) rfl (x_nc_le (by decide)) ?_
      have q5362 : h5146 75 15 = 82 := by have z := jB (e := 15) 0 j5148 rg_75_15_0_1 (by decide) (by decide); omega
      refine x_getR (np := 59) (x := 719) (f := 15) (q := 82) (by decide +kernel) (by decide) (by decide +kernel) q5362 ?_
      refine x_iload (np := 60) (x := 2) (by decide +kernel) rfl (by first | decide | omega) ?_
      refine x_iload (np := 62) (x := 5) (by decide +kernel) rfl l5173 ?_
      refine x_const (np := 64) (x := 9223372073361997832) (a := 2147483656) (by decide +kernel) (by decide) (by decide) ?_
      refine x_icmp (k := 1) (tg := 85) (np := 67) (by decide +kernel) (by decide) l5173 (by decide) (fun q5363 => ?_) (fun q5364 => ?_)
      · have q5363 : ((h 76 (321 + 2 * u5168))) ≠ 2147483656 := q5363
        refine x_aload (np := 86) (x := 0) (by decide +kernel) rfl (x_nc_le (by decide)) ?_
        have q5365 : h5146 75 14 = 81 := by have z := jB (e := 14) 0 j5148 rg_75_14_0_1 (by decide) (by decide); omega
        refine x_getR (np := 89) (x := 718) (f := 14) (q := 81) (by decide +kernel) (by decide) (by decide +kernel) q5365 ?_
        refine x_iload (np := 91) (x := 5) (by decide +kernel) rfl l5173 ?_
        obtain ⟨u5366, q5367⟩ : ∃ z, ((h 76 (321 + 2 * u5168))) = 2147483648 + z := ⟨((h 76 (321 + 2 * u5168))) - 2147483648, by first | decide | omega⟩
        have q5368 : h5146 81 u5366 = h 81 u5366 := jK u5366 f5147 rg_81_0_1_8 (by first | decide | omega) (by first | decide | omega) (by decide)
        refine x_aldC (np := 92) (x := 0) (n := 8) (i := u5366) (q := (h 81 u5366)) (by decide +kernel) (by decide +kernel) (by first | decide | omega) (by first | decide | omega) (by decide) q5368 (fun l5369 => ?_)
        obtain ⟨u5370, q5371⟩ : ∃ z, v5138 = 2147483648 + z := ⟨v5138 - 2147483648, by first | decide | omega⟩
        refine x_ast (np := 93) (x := 0) (kd := 1) (n := 400) (i := u5370) (by decide +kernel) (Or.inl rfl) (by decide +kernel) (by first | decide | omega) (by first | decide | omega) (by decide) l5369 (fun z => absurd z (by decide)) ?_
        have j5373 := jU (e := u5370) (v := (h 81 u5366)) u5370 j5148 rg_82_0_1_400 (by first | decide | omega) (by first | decide | omega) (by first | decide | omega)
        have f5375 := jF (e := u5370) (v := (h 81 u5366)) u5370 f5154 rg_82_0_1_400 (by first | decide | omega) (by first | decide | omega) (by decide)
        have f5376 := jF (e := u5370) (v := (h 81 u5366)) u5370 f5147 rg_82_0_1_400 (by first | decide | omega) (by first | decide | omega) (by decide)
        generalize e5374 : x_up h5146 82 u5370 (h 81 u5366) = h5372 at j5373 f5375 f5376 ⊢
        refine x_iinc (np := 96) (i := 2) (j := 2147483649) (v := (1 + v5138)) (lo' := [x_r 75, iv_c a1, iv_c (1 + v5138), iv_c (2147483939 + 3 * u2), iv_c v5140, iv_c ((h 76 (321 + 2 * u5168))), w5143, w5144, w5145]) (by decide +kernel) (by decide) (by decide) rfl (by first | decide | omega) (by first | decide | omega) (by first | decide | omega) rfl ?_
        refine x_goto (np := 99) (x := 264) (by decide +kernel) ?_
        refine x_iinc (np := 267) (i := 4) (j := 2147483649) (v := (1 + v5140)) (lo' := [x_r 75, iv_c a1, iv_c (1 + v5138), iv_c (2147483939 + 3 * u2), iv_c (1 + v5140), iv_c ((h 76 (321 + 2 * u5168))), w5143, w5144, w5145]) (by decide +kernel) (by decide) (by decide) rfl (by first | decide | omega) (by first | decide | omega) (by first | decide | omega) rfl ?_
        refine x_goto (np := 270) (x := 20) (by decide +kernel) ?_
        exact i5153 (1 + v5138) (1 + v5140) (iv_c ((h 76 (321 + 2 * u5168)))) w5143 w5144 w5145 h5372 (by first | decide | omega) (by first | decide | omega) (by first | decide | omega) (by first | decide | omega) j5373 f5376 (Hl.cast m5361 (by first | decide | omega) (by first | decide | omega))
      have q5364 : ¬ (((h 76 (321 + 2 * u5168))) ≠ 2147483656) := q5364
      refine x_aload (np := 68) (x := 0) (by decide +kernel) rfl (x_nc_le (by decide)) ?_
      have q5377 : h5146 75 1 = 76 := by have z := jB (e := 1) 0 j5148 rg_75_1_0_1 (by decide) (by decide); omega
      refine x_getR (np := 71) (x := 705) (f := 1) (q := 76) (by decide +kernel) (by decide) (by decide +kernel) q5377 ?_
      refine x_const (np := 74) (x := 9223373417686761793) (a := 2147483969) (by decide +kernel) (by decide) (by decide) ?_
      refine x_const (np := 75) (x := 9223372047592194050) (a := 2147483650) (by decide +kernel) (by decide) (by decide) ?_
      refine x_iload (np := 77) (x := 4) (by decide +kernel) rfl (by first | decide | omega) ?_
      refine x_imul (np := 78) (x := 0) (i := 2) (j := u5168) (v := (2147483648 + 2 * u5168)) (by decide +kernel) (by first | decide | omega) (by first | decide | omega) (by first | decide | omega) (by first | decide | omega) (by decide) (by first | decide | omega) ?_
      refine x_iadd (np := 79) (x := 0) (v := (2147483969 + 2 * u5168)) (by decide +kernel) (by decide) (by first | decide | omega) (by first | decide | omega) (by first | decide | omega) ?_
      refine x_const (np := 80) (x := 9223372043297226753) (a := 2147483649) (by decide +kernel) (by decide) (by decide) ?_
      refine x_iadd (np := 81) (x := 0) (v := (2147483970 + 2 * u5168)) (by decide +kernel) (by first | decide | omega) (by decide) (by first | decide | omega) (by first | decide | omega) ?_
      have q5379 : h5146 76 (322 + 2 * u5168) = h 76 (322 + 2 * u5168) := jK u5168 f5147 rg_76_322_2_400 (by first | decide | omega) (by first | decide | omega) (by decide)
      refine x_aldC (np := 82) (x := 0) (n := 1952) (i := (322 + 2 * u5168)) (q := ((h 76 (322 + 2 * u5168)))) (by decide +kernel) (by decide +kernel) (by first | decide | omega) (by first | decide | omega) (by decide) q5379 (fun l5380 => ?_)
      refine x_goto (np := 85) (x := 92) (by decide +kernel) ?_
      obtain ⟨u5381, q5382⟩ : ∃ z, v5138 = 2147483648 + z := ⟨v5138 - 2147483648, by first | decide | omega⟩
      refine x_ast (np := 93) (x := 0) (kd := 1) (n := 400) (i := u5381) (by decide +kernel) (Or.inl rfl) (by decide +kernel) (by first | decide | omega) (by first | decide | omega) (by decide) l5380 (fun z => absurd z (by decide)) ?_
      have j5384 := jU (e := u5381) (v := ((h 76 (322 + 2 * u5168)))) u5381 j5148 rg_82_0_1_400 (by first | decide | omega) (by first | decide | omega) (by first | decide | omega)
      have f5386 := jF (e := u5381) (v := ((h 76 (322 + 2 * u5168)))) u5381 f5154 rg_82_0_1_400 (by first | decide | omega) (by first | decide | omega) (by decide)
      have f5387 := jF (e := u5381) (v := ((h 76 (322 + 2 * u5168)))) u5381 f5147 rg_82_0_1_400 (by first | decide | omega) (by first | decide | omega) (by decide)
      generalize e5385 : x_up h5146 82 u5381 ((h 76 (322 + 2 * u5168))) = h5383 at j5384 f5386 f5387 ⊢
      refine x_iinc (np := 96) (i := 2) (j := 2147483649) (v := (1 + v5138)) (lo' := [x_r 75, iv_c a1, iv_c (1 + v5138), iv_c (2147483939 + 3 * u2), iv_c v5140, iv_c ((h 76 (321 + 2 * u5168))), w5143, w5144, w5145]) (by decide +kernel) (by decide) (by decide) rfl (by first | decide | omega) (by first | decide | omega) (by first | decide | omega) rfl ?_
      refine x_goto (np := 99) (x := 264) (by decide +kernel) ?_
      refine x_iinc (np := 267) (i := 4) (j := 2147483649) (v := (1 + v5140)) (lo' := [x_r 75, iv_c a1, iv_c (1 + v5138), iv_c (2147483939 + 3 * u2), iv_c (1 + v5140), iv_c ((h 76 (321 + 2 * u5168))), w5143, w5144, w5145]) (by decide +kernel) (by decide) (by decide) rfl (by first | decide | omega) (by first | decide | omega) (by first | decide | omega) rfl ?_
      refine x_goto (np := 270) (x := 20) (by decide +kernel) ?_
      exact i5153 (1 + v5138) (1 + v5140) (iv_c ((h 76 (321 + 2 * u5168)))) w5143 w5144 w5145 h5383 (by first | decide | omega) (by first | decide | omega) (by first | decide | omega) (by first | decide | omega) j5384 f5387 (Hl.cast m5361 (by first | decide | omega) (by first | decide | omega))
  have b5388 := jB (e := (293 + 3 * u2)) u2 hJ rg_76_293_3_10 (by first | decide | omega) (by first | decide | omega)
  exact p5149 _ 2147483648 ((h 76 (292 + 3 * u2))) 147573952589676412928 147573952589676412928 147573952589676412928 147573952589676412928 h (Nat.lt_succ_self _) (by first | decide | omega) (by first | decide | omega) (by first | decide | omega) hJ (Fr.refl _ _) (WT.hl (u := u2) hW (by first | decide | omega) (by first | decide | omega) (by first | decide | omega))
