/-! ===== methods ===== -/
set_option maxHeartbeats 0 in
/-- LentNamesModel.readAll(Z)I -/
theorem c194_75_c0n {sc : Nat × Nat} {d  : Nat} {h : xh} {tB : Nat → Nat} {tN : Nat} (hJ : J h) (hT : Tr tB tN h) : X sc 194 (d + 29) (xI fun r h' => J h' ∧ Fr 100139009 h h' ∧ (2147483647 ≤ r ∧ r ≤ 2147483658) ∧ (h' 75 6 = 2147483648) ∧ (2147483648 ≤ r → LnS (r - 2147483648) h') ∧ Cu tB tN (rn9 r)) 0 0 0 [x_r 75, iv_c 2147483648, 147573952589676412928] [] h := by
  have hF := Fr.refl 100139009 h
  refine x_aload (np := 1) (x := 0) (by decide +kernel) rfl (x_nc_le (by decide)) ?_
  refine x_aload (np := 2) (x := 0) (by decide +kernel) rfl (x_nc_le (by decide)) ?_
  have b1 := jB (e := 6) 0 hJ rg_75_6_0_1 (by omega) (by omega)
  refine x_getC (np := 5) (x := 710) (f := 6) (q := (h 75 6)) (by decide +kernel) (by decide) (by decide +kernel) rfl (fun l2 => ?_)
  refine x_putI (np := 8) (x := 712) (f := 8) (by decide +kernel) (by decide +kernel) l2 (Or.inl (by decide)) ?_
  have j4 := jU (e := 8) (v := (h 75 6)) 0 hJ rg_75_8_0_1 (by omega) (by omega) (by omega)
  have f6 := jF (e := 8) (v := (h 75 6)) 0 hF rg_75_8_0_1 (by omega) (by omega) (by decide)
  generalize e5 : x_up h 75 8 (h 75 6) = h3 at j4 f6 ⊢
  refine x_aload (np := 9) (x := 0) (by decide +kernel) rfl (x_nc_le (by decide)) ?_
  refine x_const (np := 10) (x := 9223372039002259456) (a := 2147483648) (by decide +kernel) (by decide) (by decide) ?_
  refine x_putI (np := 13) (x := 710) (f := 6) (by decide +kernel) (by decide +kernel) (by decide) (Or.inl (by decide)) ?_
  have j8 := jU (e := 6) (v := 2147483648) 0 j4 rg_75_6_0_1 (by omega) (by omega) (by omega)
  have f10 := jF (e := 6) (v := 2147483648) 0 f6 rg_75_6_0_1 (by omega) (by omega) (by decide)
  generalize e9 : x_up h3 75 6 2147483648 = h7 at j8 f10 ⊢
  refine x_aload (np := 14) (x := 0) (by decide +kernel) rfl (x_nc_le (by decide)) ?_
  refine x_const (np := 15) (x := 9223372039002259456) (a := 2147483648) (by decide +kernel) (by decide) (by decide) ?_
  refine x_putI (np := 18) (x := 711) (f := 7) (by decide +kernel) (by decide +kernel) (by decide) (Or.inl (by decide)) ?_
  have j12 := jU (e := 7) (v := 2147483648) 0 j8 rg_75_7_0_1 (by omega) (by omega) (by omega)
  have f14 := jF (e := 7) (v := 2147483648) 0 f10 rg_75_7_0_1 (by omega) (by omega) (by decide)
  generalize e13 : x_up h7 75 7 2147483648 = h11 at j12 f14 ⊢
  refine x_aload (np := 19) (x := 0) (by decide +kernel) rfl (x_nc_le (by decide)) ?_
  refine x_const (np := 20) (x := 9223372039002259456) (a := 2147483648) (by decide +kernel) (by decide) (by decide) ?_
  refine x_putI (np := 23) (x := 717) (f := 13) (by decide +kernel) (by decide +kernel) (by decide) (Or.inl (by decide)) ?_
  have j16 := jU (e := 13) (v := 2147483648) 0 j12 rg_75_13_0_1 (by omega) (by omega) (by omega)
  have f18 := jF (e := 13) (v := 2147483648) 0 f14 rg_75_13_0_1 (by omega) (by omega) (by decide)
  generalize e17 : x_up h11 75 13 2147483648 = h15 at j16 f18 ⊢
  refine x_aload (np := 24) (x := 0) (by decide +kernel) rfl (x_nc_le (by decide)) ?_
  have m25 : Tq tB tN h3 := by rw [← e5]; exact Tr.tq hT (by omega)
  have m24 : Tq tB tN h7 := by rw [← e9]; exact Tq.oth m25 (by decide) (by decide)
  have m23 : Tq tB tN h11 := by rw [← e13]; exact Tq.oth m24 (by decide) (by decide)
  have m22 : Tq tB tN h15 := by rw [← e17]; exact Tq.oth m23 (by decide) (by decide)
  refine x_cV (t := 6) (mj := 168) (n := 1) (rc := 12) (ml := 1) (nr := 0) (np := 27) (as := [x_r 75]) (rest := []) (lo1 := [x_r 75]) (by decide +kernel) (by decide) (by decide +kernel) (x_rb_of (by decide +kernel)) rfl rfl (x_wr (by decide) x_wn) x_wn (by decide) rfl (c168_75n j16  m22) (fun h26 q21 => ?_)
  obtain ⟨j27, f28, c31, c32, c33⟩ := q21
  have f34 := Fr.trans f18 f28 (by decide)
  have q35 : h15 75 7 = h11 75 7 := by rw [← e17]; exact x_up_i (by omega)
  have q36 : h11 75 7 = 2147483648 := by rw [← e13]; exact x_up_at
  have b37 := jB (e := 7) 0 j27 rg_75_7_0_1 (by omega) (by omega)
  have b38 := jB (e := 9) 0 j27 rg_75_9_0_1 (by omega) (by omega)
  refine x_aload (np := 28) (x := 0) (by decide +kernel) rfl (x_nc_le (by decide)) ?_
  refine x_getC (np := 31) (x := 711) (f := 7) (q := (h26 75 7)) (by decide +kernel) (by decide) (by decide +kernel) rfl (fun l39 => ?_)
  refine x_aload (np := 32) (x := 0) (by decide +kernel) rfl (x_nc_le (by decide)) ?_
  have q40 : h26 75 8 = h15 75 8 := jK 0 f28 rg_75_8_0_1 (by omega) (by omega) (by decide)
  have q41 : h15 75 8 = h11 75 8 := by rw [← e17]; exact x_up_i (by omega)
  have q42 : h11 75 8 = h7 75 8 := by rw [← e13]; exact x_up_i (by omega)
  have q43 : h7 75 8 = h3 75 8 := by rw [← e9]; exact x_up_i (by omega)
  have q44 : h3 75 8 = (h 75 6) := by rw [← e5]; exact x_up_at
  refine x_getC (np := 35) (x := 712) (f := 8) (q := (h 75 6)) (by decide +kernel) (by decide) (by decide +kernel) ((((q40.trans q41).trans q42).trans q43).trans q44) (fun l45 => ?_)
  refine x_icmp (k := 1) (tg := 40) (np := 38) (by decide +kernel) (by decide) l39 l2 (fun q46 => ?_) (fun q47 => ?_)
  · have q46 : (h26 75 7) ≠ (h 75 6) := q46
    refine x_const (np := 41) (x := 9223372039002259456) (a := 2147483648) (by decide +kernel) (by decide) (by decide) ?_
    refine x_istore (np := 42) (x := 2) (lo' := [x_r 75, iv_c 2147483648, iv_c 2147483648]) (by decide +kernel) (by decide) (Nat.le_of_ble_eq_true rfl) rfl ?_
    have p1341 : ∀ (n : Nat) (v1336 : Nat) (h1338 : xh), 4294967296 - v1336 < n → (2147483648 ≤ v1336 ∧ v1336 ≤ 2147483658) → h1338 75 13 ≤ h1338 75 7 → J h1338 → Fr 97517569 h26 h1338 → LnS (v1336 - 2147483648) h1338 → Lq tB tN v1336 (sk tB tN (h1338 75 7)) → X sc 194 (d + 29) (xI fun r h' => J h' ∧ Fr 100139009 h h' ∧ (2147483647 ≤ r ∧ r ≤ 2147483658) ∧ (h' 75 6 = 2147483648) ∧ (2147483648 ≤ r → LnS (r - 2147483648) h') ∧ Cu tB tN (rn9 r)) 0 0 42 [x_r 75, iv_c 2147483648, iv_c v1336] [] h1338 := by
      intro n
      induction n with
      | zero => intro v1336 h1338 q1345; exact absurd q1345 (Nat.not_lt_zero _)
      | succ n i1346 =>
        intro v1336 h1338 q1345 b1337 b1342 j1340 f1339 m1343 m1344
        have f1347 := Fr.trans f34 f1339 (by decide)
        refine x_aload (np := 43) (x := 0) (by decide +kernel) rfl (x_nc_le (by decide)) ?_
        have m1352 := Tq.fr m22 f28 (by decide) (by decide)
        have m1351 := Tq.fr m1352 f1339 (by decide) (by decide)
        refine x_cV (t := 6) (mj := 169) (n := 1) (rc := 12) (ml := 1) (nr := 0) (np := 46) (as := [x_r 75]) (rest := []) (lo1 := [x_r 75]) (by decide +kernel) (by decide) (by decide +kernel) (x_rb_of (by decide +kernel)) rfl rfl (x_wr (by decide) x_wn) x_wn (by decide) rfl (c169_75n j1340  m1351) (fun h1353 q1350 => ?_)
        obtain ⟨j1354, f1355, c1358, c1359, c1360, c1361⟩ := q1350
        have f1362 := Fr.trans f1347 f1355 (by decide)
        have f1363 := Fr.trans f1339 f1355 (by decide)
        have b1364 := jB (e := 7) 0 j1340 rg_75_7_0_1 (by omega) (by omega)
        have b1365 := jB (e := 9) 0 j1354 rg_75_9_0_1 (by omega) (by omega)
        have b1366 := jB (e := 7) 0 j1354 rg_75_7_0_1 (by omega) (by omega)
        refine x_iload (np := 47) (x := 2) (by decide +kernel) rfl (by omega) ?_
        refine x_iload (np := 48) (x := 1) (by decide +kernel) rfl (by decide) ?_
        refine x_ifz (k := 0) (tg := 56) (np := 51) (by decide +kernel) (by decide) (by decide) (fun q1367 => ?_) (fun q1368 => ?_)
        · have q1367 : 2147483648 = 2147483648 := q1367
          refine x_const (np := 58) (x := 9223372081951932426) (a := 2147483658) (by decide +kernel) (by decide) (by decide) ?_
          refine x_icmp (k := 0) (tg := 83) (np := 61) (by decide +kernel) (by decide) (by omega) (by decide) (fun q1369 => ?_) (fun q1370 => ?_)
          · have q1369 : v1336 = 2147483658 := q1369
            refine x_const (np := 84) (x := 9223372034707292159) (a := 2147483647) (by decide +kernel) (by decide) (by decide) ?_
            have q1371 : h1353 75 6 = h1338 75 6 := jK 0 f1355 rg_75_6_0_1 (by omega) (by omega) (by decide)
            have q1372 : h1338 75 6 = h26 75 6 := jK 0 f1339 rg_75_6_0_1 (by omega) (by omega) (by decide)
            have q1373 : h26 75 6 = h15 75 6 := jK 0 f28 rg_75_6_0_1 (by omega) (by omega) (by decide)
            have q1374 : h15 75 6 = h11 75 6 := by rw [← e17]; exact x_up_i (by omega)
            have q1375 : h11 75 6 = h7 75 6 := by rw [← e13]; exact x_up_i (by omega)
            have q1376 : h7 75 6 = 2147483648 := by rw [← e9]; exact x_up_at
            refine x_retI (np := 85) (x := 0) (by decide +kernel) (by decide) (Or.inl (by decide +kernel)) ⟨_, rfl, (by decide), ?_⟩
            exact ⟨j1354, f1362, (by omega), (by omega), (fun z => absurd z (by omega)), (Cu.rn0 (by omega) (Lq.full m1344 (by omega)))⟩
          have q1370 : ¬ (v1336 = 2147483658) := q1370
          refine x_iload (np := 62) (x := 1) (by decide +kernel) rfl (by decide) ?_
          refine x_ifz (k := 0) (tg := 75) (np := 65) (by decide +kernel) (by decide) (by decide) (fun q1377 => ?_) (fun q1378 => ?_)
          · have q1377 : 2147483648 = 2147483648 := q1377
            refine x_aload (np := 76) (x := 0) (by decide +kernel) rfl (x_nc_le (by decide)) ?_
            refine x_iload (np := 77) (x := 2) (by decide +kernel) rfl (by omega) ?_
            have q1379 : h1353 75 13 = h1338 75 13 := jK 0 f1355 rg_75_13_0_1 (by omega) (by omega) (by decide)
            have b1380 := jB (e := 13) 0 j1340 rg_75_13_0_1 (by omega) (by omega)
            have m1384 := Tq.fr m1351 f1355 (by decide) (by decide)
            refine x_cI (t := 6) (mj := 193) (n := 2) (rc := 12) (ml := 3) (nr := 0) (np := 80) (as := [x_r 75, iv_c v1336]) (rest := []) (lo1 := [x_r 75, iv_c v1336, 147573952589676412928]) (by decide +kernel) (by decide) (by decide +kernel) (x_rb_of (by decide +kernel)) rfl rfl (x_wr (by decide) (x_wi (by omega) x_wn)) x_wn (by decide) rfl (c193_75n j1354  (by omega) (by omega) m1384 c1361) (fun v1381 h1385 l1382 q1383 => ?_)
            obtain ⟨j1386, f1387, b1388, c1389, c1390, c1391, c1392, c1393⟩ := q1383
            have f1394 := Fr.trans f1362 f1387 (by decide)
            have f1395 := Fr.trans f1363 f1387 (by decide)
            have b1396 := jB (e := 13) 0 j1386 rg_75_13_0_1 (by omega) (by omega)
            have b1397 := jB (e := 7) 0 j1386 rg_75_7_0_1 (by omega) (by omega)
            refine x_ifz (k := 1) (tg := 85) (np := 83) (by decide +kernel) (by decide) l1382 (fun q1398 => ?_) (fun q1399 => ?_)
            · have q1398 : v1381 ≠ 2147483648 := q1398
              have b1400 := c1389 (by omega)
              obtain ⟨u1401, q1402⟩ : ∃ z, v1336 = 2147483648 + z := ⟨v1336 - 2147483648, by omega⟩
              have m1405 : LnS (v1336 - 2147483648) h1353 := LnS.fr m1343 j1340 f1355 (by omega) (by decide) (by decide)
              obtain ⟨g1404a, g1404b, g1404c⟩ := c1392 (by omega)
              have m1403 : LnS (v1336 - 2147483648 + 1) h1385 := LnS.step m1405 c1391 c1390 g1404a g1404b g1404c
              refine x_aload (np := 86) (x := 0) (by decide +kernel) rfl (x_nc_le (by decide)) ?_
              have m1409 := Tq.fr m1384 f1387 (by decide) (by decide)
              refine x_cV (t := 6) (mj := 168) (n := 1) (rc := 12) (ml := 1) (nr := 0) (np := 89) (as := [x_r 75]) (rest := []) (lo1 := [x_r 75]) (by decide +kernel) (by decide) (by decide +kernel) (x_rb_of (by decide +kernel)) rfl rfl (x_wr (by decide) x_wn) x_wn (by decide) rfl (c168_75n j1386  m1409) (fun h1410 q1408 => ?_)
              obtain ⟨j1411, f1412, c1415, c1416, c1417⟩ := q1408
              have f1418 := Fr.trans f1394 f1412 (by decide)
              have f1419 := Fr.trans f1395 f1412 (by decide)
              have b1420 := jB (e := 7) 0 j1411 rg_75_7_0_1 (by omega) (by omega)
              have b1421 := jB (e := 9) 0 j1411 rg_75_9_0_1 (by omega) (by omega)
              refine x_aload (np := 90) (x := 0) (by decide +kernel) rfl (x_nc_le (by decide)) ?_
              refine x_getC (np := 93) (x := 711) (f := 7) (q := (h1410 75 7)) (by decide +kernel) (by decide) (by decide +kernel) rfl (fun l1422 => ?_)
              refine x_aload (np := 94) (x := 0) (by decide +kernel) rfl (x_nc_le (by decide)) ?_
              have q1423 : h1410 75 8 = h1385 75 8 := jK 0 f1412 rg_75_8_0_1 (by omega) (by omega) (by decide)
              have q1424 : h1385 75 8 = h1353 75 8 := jK 0 f1387 rg_75_8_0_1 (by omega) (by omega) (by decide)
              have q1425 : h1353 75 8 = h1338 75 8 := jK 0 f1355 rg_75_8_0_1 (by omega) (by omega) (by decide)
              have q1426 : h1338 75 8 = h26 75 8 := jK 0 f1339 rg_75_8_0_1 (by omega) (by omega) (by decide)
              have q1427 : h26 75 8 = h15 75 8 := jK 0 f28 rg_75_8_0_1 (by omega) (by omega) (by decide)
              have q1428 : h15 75 8 = h11 75 8 := by rw [← e17]; exact x_up_i (by omega)
              have q1429 : h11 75 8 = h7 75 8 := by rw [← e13]; exact x_up_i (by omega)
              have q1430 : h7 75 8 = h3 75 8 := by rw [← e9]; exact x_up_i (by omega)
              have q1431 : h3 75 8 = (h 75 6) := by rw [← e5]; exact x_up_at
              refine x_getC (np := 97) (x := 712) (f := 8) (q := (h 75 6)) (by decide +kernel) (by decide) (by decide +kernel) ((((((((q1423.trans q1424).trans q1425).trans q1426).trans q1427).trans q1428).trans q1429).trans q1430).trans q1431) (fun l1432 => ?_)
              refine x_icmp (k := 1) (tg := 104) (np := 100) (by decide +kernel) (by decide) l1422 l2 (fun q1433 => ?_) (fun q1434 => ?_)
              · have q1433 : (h1410 75 7) ≠ (h 75 6) := q1433
                refine x_aload (np := 105) (x := 0) (by decide +kernel) rfl (x_nc_le (by decide)) ?_
                refine x_const (np := 107) (x := 9223372292405329979) (a := 2147483707) (by decide +kernel) (by decide) (by decide) ?_
                refine x_const (np := 109) (x := 9223372292405329979) (a := 2147483707) (by decide +kernel) (by decide) (by decide) ?_
                refine x_nI (t := 6) (mj := 167) (n := 3) (rc := 12) (ml := 3) (nr := 0) (np := 112) (as := [x_r 75, iv_c 2147483707, iv_c 2147483707]) (rest := []) (lo1 := [x_r 75, iv_c 2147483707, iv_c 2147483707]) (by decide +kernel) (by decide) (by decide +kernel) (x_rb_of (by decide +kernel)) rfl rfl (x_wr (by decide) (x_wi (by decide) (x_wi (by decide) x_wn))) x_wn (by decide) rfl ?_
                refine x_aload (np := 1) (x := 0) (by decide +kernel) rfl (x_nc_le (by decide)) ?_
                refine x_getC (np := 4) (x := 711) (f := 7) (q := (h1410 75 7)) (by decide +kernel) (by decide) (by decide +kernel) rfl (fun l1435 => ?_)
                refine x_aload (np := 5) (x := 0) (by decide +kernel) rfl (x_nc_le (by decide)) ?_
                have q1436 : h1410 75 8 = h1385 75 8 := jK 0 f1412 rg_75_8_0_1 (by omega) (by omega) (by decide)
                have q1437 : h1385 75 8 = h1353 75 8 := jK 0 f1387 rg_75_8_0_1 (by omega) (by omega) (by decide)
                have q1438 : h1353 75 8 = h1338 75 8 := jK 0 f1355 rg_75_8_0_1 (by omega) (by omega) (by decide)
                have q1439 : h1338 75 8 = h26 75 8 := jK 0 f1339 rg_75_8_0_1 (by omega) (by omega) (by decide)
                have q1440 : h26 75 8 = h15 75 8 := jK 0 f28 rg_75_8_0_1 (by omega) (by omega) (by decide)
                have q1441 : h15 75 8 = h11 75 8 := by rw [← e17]; exact x_up_i (by omega)
                have q1442 : h11 75 8 = h7 75 8 := by rw [← e13]; exact x_up_i (by omega)
                have q1443 : h7 75 8 = h3 75 8 := by rw [← e9]; exact x_up_i (by omega)
                have q1444 : h3 75 8 = (h 75 6) := by rw [← e5]; exact x_up_at
                refine x_getC (np := 8) (x := 712) (f := 8) (q := (h 75 6)) (by decide +kernel) (by decide) (by decide +kernel) ((((((((q1436.trans q1437).trans q1438).trans q1439).trans q1440).trans q1441).trans q1442).trans q1443).trans q1444) (fun l1445 => ?_)
                refine x_icmp (k := 3) (tg := 41) (np := 11) (by decide +kernel) (by decide) l1422 l2 (fun q1446 => ?_) (fun q1447 => ?_)
                · have q1446 : (h 75 6) ≤ (h1410 75 7) := q1446
                  refine x_const (np := 42) (x := 9223372039002259456) (a := 2147483648) (by decide +kernel) (by decide) (by decide) ?_
                  refine x_retI (np := 43) (x := 0) (by decide +kernel) (by decide) (Or.inr ⟨by decide +kernel, by omega, by omega⟩) ⟨_, rfl, (by decide), ?_⟩
                  refine x_ifz (k := 1) (tg := 117) (np := 115) (by decide +kernel) (by decide) (by decide) (fun q1448 => ?_) (fun q1449 => ?_)
                  · have q1448 : 2147483648 ≠ 2147483648 := q1448
                    exfalso; omega
                  have q1449 : ¬ (2147483648 ≠ 2147483648) := q1449
                  refine x_const (np := 116) (x := 9223372034707292159) (a := 2147483647) (by decide +kernel) (by decide) (by decide) ?_
                  have q1450 : h1410 75 6 = h1385 75 6 := jK 0 f1412 rg_75_6_0_1 (by omega) (by omega) (by decide)
                  have q1451 : h1385 75 6 = h1353 75 6 := jK 0 f1387 rg_75_6_0_1 (by omega) (by omega) (by decide)
                  have q1452 : h1353 75 6 = h1338 75 6 := jK 0 f1355 rg_75_6_0_1 (by omega) (by omega) (by decide)
                  have q1453 : h1338 75 6 = h26 75 6 := jK 0 f1339 rg_75_6_0_1 (by omega) (by omega) (by decide)
                  have q1454 : h26 75 6 = h15 75 6 := jK 0 f28 rg_75_6_0_1 (by omega) (by omega) (by decide)
                  have q1455 : h15 75 6 = h11 75 6 := by rw [← e17]; exact x_up_i (by omega)
                  have q1456 : h11 75 6 = h7 75 6 := by rw [← e13]; exact x_up_i (by omega)
                  have q1457 : h7 75 6 = 2147483648 := by rw [← e9]; exact x_up_at
                  have q1458 : h1410 75 8 = h1385 75 8 := jK 0 f1412 rg_75_8_0_1 (by omega) (by omega) (by decide)
                  have q1459 : h1385 75 8 = h1353 75 8 := jK 0 f1387 rg_75_8_0_1 (by omega) (by omega) (by decide)
                  have q1460 : h1353 75 8 = h1338 75 8 := jK 0 f1355 rg_75_8_0_1 (by omega) (by omega) (by decide)
                  have q1461 : h1338 75 8 = h26 75 8 := jK 0 f1339 rg_75_8_0_1 (by omega) (by omega) (by decide)
                  have q1462 : h26 75 8 = h15 75 8 := jK 0 f28 rg_75_8_0_1 (by omega) (by omega) (by decide)
                  have q1463 : h15 75 8 = h11 75 8 := by rw [← e17]; exact x_up_i (by omega)
                  have q1464 : h11 75 8 = h7 75 8 := by rw [← e13]; exact x_up_i (by omega)
                  have q1465 : h7 75 8 = h3 75 8 := by rw [← e9]; exact x_up_i (by omega)
                  have q1466 : h3 75 8 = (h 75 6) := by rw [← e5]; exact x_up_at
                  have m1468 := Tq.fr m1409 f1412 (by decide) (by decide)
                  have z1467 := m1468.1
                  have z1469 := (Eq.trans c1417 (congrArg (sk tB tN) (show h1385 75 7 = h1385 75 7 by omega)))
                  refine x_retI (np := 117) (x := 0) (by decide +kernel) (by decide) (Or.inl (by decide +kernel)) ⟨_, rfl, (by decide), ?_⟩
                  exact ⟨j1411, f1418, (by omega), (by omega), (fun z => absurd z (by omega)), (Cu.rn0 (by omega) (Lq.bad m1344 (by omega) c1393 c1360 (by omega) (by omega) (p2 := h1410 75 7) (fun z => by have z1 := z.1; have z2 := z.2; omega) (Eq.trans c1417 (congrArg (sk tB tN) (show h1385 75 7 = h1385 75 7 by omega)))))⟩
                have q1447 : ¬ ((h 75 6) ≤ (h1410 75 7)) := q1447
                refine x_aload (np := 12) (x := 0) (by decide +kernel) rfl (x_nc_le (by decide)) ?_
                have q1470 : h1410 75 5 = 79 := by have z := jB (e := 5) 0 j1411 rg_75_5_0_1 (by decide) (by decide); omega
                refine x_getR (np := 15) (x := 709) (f := 5) (q := 79) (by decide +kernel) (by decide) (by decide +kernel) q1470 ?_
                refine x_aload (np := 16) (x := 0) (by decide +kernel) rfl (x_nc_le (by decide)) ?_
                refine x_getC (np := 19) (x := 711) (f := 7) (q := (h1410 75 7)) (by decide +kernel) (by decide) (by decide +kernel) rfl (fun l1471 => ?_)
                obtain ⟨u1472, q1473⟩ : ∃ z, (h1410 75 7) = 2147483648 + z := ⟨(h1410 75 7) - 2147483648, by omega⟩
                have q1474 : h1410 79 u1472 = h1385 79 u1472 := jK u1472 f1412 rg_79_0_1_400 (by omega) (by omega) (by decide)
                have q1475 : h1385 79 u1472 = h1353 79 u1472 := jK u1472 f1387 rg_79_0_1_400 (by omega) (by omega) (by decide)
                have q1476 : h1353 79 u1472 = h1338 79 u1472 := jK u1472 f1355 rg_79_0_1_400 (by omega) (by omega) (by decide)
                have q1477 : h1338 79 u1472 = h26 79 u1472 := jK u1472 f1339 rg_79_0_1_400 (by omega) (by omega) (by decide)
                have q1478 : h26 79 u1472 = h15 79 u1472 := jK u1472 f28 rg_79_0_1_400 (by omega) (by omega) (by decide)
                have q1479 : h15 79 u1472 = h11 79 u1472 := by rw [← e17]; exact x_up_k (by decide)
                have q1480 : h11 79 u1472 = h7 79 u1472 := by rw [← e13]; exact x_up_k (by decide)
                have q1481 : h7 79 u1472 = h3 79 u1472 := by rw [← e9]; exact x_up_k (by decide)
                have q1482 : h3 79 u1472 = h 79 u1472 := by rw [← e5]; exact x_up_k (by decide)
                have b1483 := jB (e := u1472) u1472 hJ rg_79_0_1_400 (by omega) (by omega)
                refine x_baldC (np := 20) (x := 0) (n := 400) (i := u1472) (q := (h 79 u1472)) (by decide +kernel) (by decide +kernel) (by omega) (by omega) (by decide) ((((((((q1474.trans q1475).trans q1476).trans q1477).trans q1478).trans q1479).trans q1480).trans q1481).trans q1482) (fun l1484 => ?_)
                refine x_iload (np := 21) (x := 1) (by decide +kernel) rfl (by decide) ?_
                refine x_icmp (k := 2) (tg := 41) (np := 24) (by decide +kernel) (by decide) l1484 (by decide) (fun q1485 => ?_) (fun q1486 => ?_)
                · have q1485 : (h 79 u1472) < 2147483707 := q1485
                  refine x_const (np := 42) (x := 9223372039002259456) (a := 2147483648) (by decide +kernel) (by decide) (by decide) ?_
                  refine x_retI (np := 43) (x := 0) (by decide +kernel) (by decide) (Or.inr ⟨by decide +kernel, by omega, by omega⟩) ⟨_, rfl, (by decide), ?_⟩
                  refine x_ifz (k := 1) (tg := 117) (np := 115) (by decide +kernel) (by decide) (by decide) (fun q1487 => ?_) (fun q1488 => ?_)
                  · have q1487 : 2147483648 ≠ 2147483648 := q1487
                    exfalso; omega
                  have q1488 : ¬ (2147483648 ≠ 2147483648) := q1488
                  refine x_const (np := 116) (x := 9223372034707292159) (a := 2147483647) (by decide +kernel) (by decide) (by decide) ?_
                  have q1489 : h1410 75 6 = h1385 75 6 := jK 0 f1412 rg_75_6_0_1 (by omega) (by omega) (by decide)
                  have q1490 : h1385 75 6 = h1353 75 6 := jK 0 f1387 rg_75_6_0_1 (by omega) (by omega) (by decide)
                  have q1491 : h1353 75 6 = h1338 75 6 := jK 0 f1355 rg_75_6_0_1 (by omega) (by omega) (by decide)
                  have q1492 : h1338 75 6 = h26 75 6 := jK 0 f1339 rg_75_6_0_1 (by omega) (by omega) (by decide)
                  have q1493 : h26 75 6 = h15 75 6 := jK 0 f28 rg_75_6_0_1 (by omega) (by omega) (by decide)
                  have q1494 : h15 75 6 = h11 75 6 := by rw [← e17]; exact x_up_i (by omega)
                  have q1495 : h11 75 6 = h7 75 6 := by rw [← e13]; exact x_up_i (by omega)
                  have q1496 : h7 75 6 = 2147483648 := by rw [← e9]; exact x_up_at
                  have q1497 : h1410 75 8 = h1385 75 8 := jK 0 f1412 rg_75_8_0_1 (by omega) (by omega) (by decide)
                  have q1498 : h1385 75 8 = h1353 75 8 := jK 0 f1387 rg_75_8_0_1 (by omega) (by omega) (by decide)
                  have q1499 : h1353 75 8 = h1338 75 8 := jK 0 f1355 rg_75_8_0_1 (by omega) (by omega) (by decide)
                  have q1500 : h1338 75 8 = h26 75 8 := jK 0 f1339 rg_75_8_0_1 (by omega) (by omega) (by decide)
                  have q1501 : h26 75 8 = h15 75 8 := jK 0 f28 rg_75_8_0_1 (by omega) (by omega) (by decide)
                  have q1502 : h15 75 8 = h11 75 8 := by rw [← e17]; exact x_up_i (by omega)
                  have q1503 : h11 75 8 = h7 75 8 := by rw [← e13]; exact x_up_i (by omega)
                  have q1504 : h7 75 8 = h3 75 8 := by rw [← e9]; exact x_up_i (by omega)
                  have q1505 : h3 75 8 = (h 75 6) := by rw [← e5]; exact x_up_at
                  have m1507 := Tq.fr m1409 f1412 (by decide) (by decide)
                  have z1506 := m1507.1
                  have q1508 : h1410 79 u1472 = h1385 79 u1472 := jK u1472 f1412 rg_79_0_1_400 (by omega) (by omega) (by decide)
                  have q1509 : h1385 79 u1472 = h1353 79 u1472 := jK u1472 f1387 rg_79_0_1_400 (by omega) (by omega) (by decide)
                  have q1510 : h1353 79 u1472 = h1338 79 u1472 := jK u1472 f1355 rg_79_0_1_400 (by omega) (by omega) (by decide)
                  have q1511 : h1338 79 u1472 = h26 79 u1472 := jK u1472 f1339 rg_79_0_1_400 (by omega) (by omega) (by decide)
                  have q1512 : h26 79 u1472 = h15 79 u1472 := jK u1472 f28 rg_79_0_1_400 (by omega) (by omega) (by decide)
                  have q1513 : h15 79 u1472 = h11 79 u1472 := by rw [← e17]; exact x_up_k (by decide)
                  have q1514 : h11 79 u1472 = h7 79 u1472 := by rw [← e13]; exact x_up_k (by decide)
                  have q1515 : h7 79 u1472 = h3 79 u1472 := by rw [← e9]; exact x_up_k (by decide)
                  have q1516 : h3 79 u1472 = h 79 u1472 := by rw [← e5]; exact x_up_k (by decide)
                  have z1517 := Tq.at (p := (h1410 75 7)) (u := u1472) m1507 (by omega) (by omega)
                  have z1518 := (Eq.trans c1417 (congrArg (sk tB tN) (show h1385 75 7 = h1385 75 7 by omega)))
                  refine x_retI (np := 117) (x := 0) (by decide +kernel) (by decide) (Or.inl (by decide +kernel)) ⟨_, rfl, (by decide), ?_⟩
                  exact ⟨j1411, f1418, (by omega), (by omega), (fun z => absurd z (by omega)), (Cu.rn0 (by omega) (Lq.bad m1344 (by omega) c1393 c1360 (by omega) (by omega) (p2 := h1410 75 7) (fun z => by have z1 := z.1; have z2 := z.2; omega) (Eq.trans c1417 (congrArg (sk tB tN) (show h1385 75 7 = h1385 75 7 by omega)))))⟩
                have q1486 : ¬ ((h 79 u1472) < 2147483707) := q1486
                refine x_aload (np := 25) (x := 0) (by decide +kernel) rfl (x_nc_le (by decide)) ?_
                have q1519 : h1410 75 5 = 79 := by have z := jB (e := 5) 0 j1411 rg_75_5_0_1 (by decide) (by decide); omega
                refine x_getR (np := 28) (x := 709) (f := 5) (q := 79) (by decide +kernel) (by decide) (by decide +kernel) q1519 ?_
                refine x_aload (np := 29) (x := 0) (by decide +kernel) rfl (x_nc_le (by decide)) ?_
                refine x_getC (np := 32) (x := 711) (f := 7) (q := (h1410 75 7)) (by decide +kernel) (by decide) (by decide +kernel) rfl (fun l1520 => ?_)
                have q1521 : h1410 79 u1472 = h1385 79 u1472 := jK u1472 f1412 rg_79_0_1_400 (by omega) (by omega) (by decide)
                have q1522 : h1385 79 u1472 = h1353 79 u1472 := jK u1472 f1387 rg_79_0_1_400 (by omega) (by omega) (by decide)
                have q1523 : h1353 79 u1472 = h1338 79 u1472 := jK u1472 f1355 rg_79_0_1_400 (by omega) (by omega) (by decide)
                have q1524 : h1338 79 u1472 = h26 79 u1472 := jK u1472 f1339 rg_79_0_1_400 (by omega) (by omega) (by decide)
                have q1525 : h26 79 u1472 = h15 79 u1472 := jK u1472 f28 rg_79_0_1_400 (by omega) (by omega) (by decide)
                have q1526 : h15 79 u1472 = h11 79 u1472 := by rw [← e17]; exact x_up_k (by decide)
                have q1527 : h11 79 u1472 = h7 79 u1472 := by rw [← e13]; exact x_up_k (by decide)
                have q1528 : h7 79 u1472 = h3 79 u1472 := by rw [← e9]; exact x_up_k (by decide)
                have q1529 : h3 79 u1472 = h 79 u1472 := by rw [← e5]; exact x_up_k (by decide)
                refine x_baldC (np := 33) (x := 0) (n := 400) (i := u1472) (q := (h 79 u1472)) (by decide +kernel) (by decide +kernel) (by omega) (by omega) (by decide) ((((((((q1521.trans q1522).trans q1523).trans q1524).trans q1525).trans q1526).trans q1527).trans q1528).trans q1529) (fun l1530 => ?_)
                refine x_iload (np := 34) (x := 2) (by decide +kernel) rfl (by decide) ?_
                refine x_icmp (k := 4) (tg := 41) (np := 37) (by decide +kernel) (by decide) l1484 (by decide) (fun q1531 => ?_) (fun q1532 => ?_)
                · have q1531 : 2147483707 < (h 79 u1472) := q1531
                  refine x_const (np := 42) (x := 9223372039002259456) (a := 2147483648) (by decide +kernel) (by decide) (by decide) ?_
                  refine x_retI (np := 43) (x := 0) (by decide +kernel) (by decide) (Or.inr ⟨by decide +kernel, by omega, by omega⟩) ⟨_, rfl, (by decide), ?_⟩
                  refine x_ifz (k := 1) (tg := 117) (np := 115) (by decide +kernel) (by decide) (by decide) (fun q1533 => ?_) (fun q1534 => ?_)
                  · have q1533 : 2147483648 ≠ 2147483648 := q1533
                    exfalso; omega
                  have q1534 : ¬ (2147483648 ≠ 2147483648) := q1534
                  refine x_const (np := 116) (x := 9223372034707292159) (a := 2147483647) (by decide +kernel) (by decide) (by decide) ?_
                  have q1535 : h1410 75 6 = h1385 75 6 := jK 0 f1412 rg_75_6_0_1 (by omega) (by omega) (by decide)
                  have q1536 : h1385 75 6 = h1353 75 6 := jK 0 f1387 rg_75_6_0_1 (by omega) (by omega) (by decide)
                  have q1537 : h1353 75 6 = h1338 75 6 := jK 0 f1355 rg_75_6_0_1 (by omega) (by omega) (by decide)
                  have q1538 : h1338 75 6 = h26 75 6 := jK 0 f1339 rg_75_6_0_1 (by omega) (by omega) (by decide)
                  have q1539 : h26 75 6 = h15 75 6 := jK 0 f28 rg_75_6_0_1 (by omega) (by omega) (by decide)
                  have q1540 : h15 75 6 = h11 75 6 := by rw [← e17]; exact x_up_i (by omega)
                  have q1541 : h11 75 6 = h7 75 6 := by rw [← e13]; exact x_up_i (by omega)
                  have q1542 : h7 75 6 = 2147483648 := by rw [← e9]; exact x_up_at
                  have q1543 : h1410 75 8 = h1385 75 8 := jK 0 f1412 rg_75_8_0_1 (by omega) (by omega) (by decide)
                  have q1544 : h1385 75 8 = h1353 75 8 := jK 0 f1387 rg_75_8_0_1 (by omega) (by omega) (by decide)
                  have q1545 : h1353 75 8 = h1338 75 8 := jK 0 f1355 rg_75_8_0_1 (by omega) (by omega) (by decide)
                  have q1546 : h1338 75 8 = h26 75 8 := jK 0 f1339 rg_75_8_0_1 (by omega) (by omega) (by decide)
                  have q1547 : h26 75 8 = h15 75 8 := jK 0 f28 rg_75_8_0_1 (by omega) (by omega) (by decide)
                  have q1548 : h15 75 8 = h11 75 8 := by rw [← e17]; exact x_up_i (by omega)
                  have q1549 : h11 75 8 = h7 75 8 := by rw [← e13]; exact x_up_i (by omega)
                  have q1550 : h7 75 8 = h3 75 8 := by rw [← e9]; exact x_up_i (by omega)
                  have q1551 : h3 75 8 = (h 75 6) := by rw [← e5]; exact x_up_at
                  have m1553 := Tq.fr m1409 f1412 (by decide) (by decide)
                  have z1552 := m1553.1
                  have q1554 : h1410 79 u1472 = h1385 79 u1472 := jK u1472 f1412 rg_79_0_1_400 (by omega) (by omega) (by decide)
                  have q1555 : h1385 79 u1472 = h1353 79 u1472 := jK u1472 f1387 rg_79_0_1_400 (by omega) (by omega) (by decide)
                  have q1556 : h1353 79 u1472 = h1338 79 u1472 := jK u1472 f1355 rg_79_0_1_400 (by omega) (by omega) (by decide)
                  have q1557 : h1338 79 u1472 = h26 79 u1472 := jK u1472 f1339 rg_79_0_1_400 (by omega) (by omega) (by decide)
                  have q1558 : h26 79 u1472 = h15 79 u1472 := jK u1472 f28 rg_79_0_1_400 (by omega) (by omega) (by decide)
                  have q1559 : h15 79 u1472 = h11 79 u1472 := by rw [← e17]; exact x_up_k (by decide)
                  have q1560 : h11 79 u1472 = h7 79 u1472 := by rw [← e13]; exact x_up_k (by decide)
                  have q1561 : h7 79 u1472 = h3 79 u1472 := by rw [← e9]; exact x_up_k (by decide)
                  have q1562 : h3 79 u1472 = h 79 u1472 := by rw [← e5]; exact x_up_k (by decide)
                  have z1563 := Tq.at (p := (h1410 75 7)) (u := u1472) m1553 (by omega) (by omega)
                  have z1564 := (Eq.trans c1417 (congrArg (sk tB tN) (show h1385 75 7 = h1385 75 7 by omega)))
                  refine x_retI (np := 117) (x := 0) (by decide +kernel) (by decide) (Or.inl (by decide +kernel)) ⟨_, rfl, (by decide), ?_⟩
                  exact ⟨j1411, f1418, (by omega), (by omega), (fun z => absurd z (by omega)), (Cu.rn0 (by omega) (Lq.bad m1344 (by omega) c1393 c1360 (by omega) (by omega) (p2 := h1410 75 7) (fun z => by have z1 := z.1; have z2 := z.2; omega) (Eq.trans c1417 (congrArg (sk tB tN) (show h1385 75 7 = h1385 75 7 by omega)))))⟩
                have q1532 : ¬ (2147483707 < (h 79 u1472)) := q1532
                refine x_const (np := 38) (x := 9223372043297226753) (a := 2147483649) (by decide +kernel) (by decide) (by decide) ?_
                refine x_goto (np := 41) (x := 42) (by decide +kernel) ?_
                refine x_retI (np := 43) (x := 0) (by decide +kernel) (by decide) (Or.inr ⟨by decide +kernel, by omega, by omega⟩) ⟨_, rfl, (by decide), ?_⟩
                refine x_ifz (k := 1) (tg := 117) (np := 115) (by decide +kernel) (by decide) (by decide) (fun q1565 => ?_) (fun q1566 => ?_)
                · have q1565 : 2147483649 ≠ 2147483648 := q1565
                  refine x_aload (np := 118) (x := 0) (by decide +kernel) rfl (x_nc_le (by decide)) ?_
                  refine x_dup (np := 119) (x := 0) (by decide +kernel) (by have z := x_nc_le (k := 75) (by decide); unfold x_r; omega) ?_
                  refine x_getC (np := 122) (x := 711) (f := 7) (q := (h1410 75 7)) (by decide +kernel) (by decide) (by decide +kernel) rfl (fun l1567 => ?_)
                  refine x_const (np := 123) (x := 9223372043297226753) (a := 2147483649) (by decide +kernel) (by decide) (by decide) ?_
                  refine x_iadd (np := 124) (x := 0) (v := (1 + (h1410 75 7))) (by decide +kernel) l1422 (by decide) (by omega) (by omega) ?_
                  refine x_putI (np := 127) (x := 711) (f := 7) (by decide +kernel) (by decide +kernel) (by omega) (Or.inl (by decide)) ?_
                  have j1569 := jU (e := 7) (v := (1 + (h1410 75 7))) 0 j1411 rg_75_7_0_1 (by omega) (by omega) (by omega)
                  have f1571 := jF (e := 7) (v := (1 + (h1410 75 7))) 0 f1418 rg_75_7_0_1 (by omega) (by omega) (by decide)
                  have f1572 := jF (e := 7) (v := (1 + (h1410 75 7))) 0 f1419 rg_75_7_0_1 (by omega) (by omega) (by decide)
                  generalize e1570 : x_up h1410 75 7 (1 + (h1410 75 7)) = h1568 at j1569 f1571 f1572 ⊢
                  refine x_iinc (np := 130) (i := 2) (j := 2147483649) (v := (1 + v1336)) (lo' := [x_r 75, iv_c 2147483648, iv_c (1 + v1336)]) (by decide +kernel) (by decide) (by decide) rfl (by omega) (by omega) (by omega) rfl ?_
                  refine x_goto (np := 133) (x := 42) (by decide +kernel) ?_
                  have b1573 := jB (e := 7) 0 hJ rg_75_7_0_1 (by omega) (by omega)
                  have q1574 : h1568 75 7 = (1 + (h1410 75 7)) := by rw [← e1570]; exact x_up_at
                  have b1575 := jB (e := 13) 0 hJ rg_75_13_0_1 (by omega) (by omega)
                  have q1576 : h1568 75 13 = h1410 75 13 := by rw [← e1570]; exact x_up_i (by omega)
                  have q1577 : h1410 75 13 = h1385 75 13 := jK 0 f1412 rg_75_13_0_1 (by omega) (by omega) (by decide)
                  have m1579 : LnS (v1336 - 2147483648 + 1) h1410 := LnS.fr m1403 j1386 f1412 (by omega) (by decide) (by decide)
                  have m1578 : LnS (v1336 - 2147483648 + 1) h1568 := by rw [← e1570]; exact LnS.oth m1579 (by decide) (by decide)
                  have q1580 : h1568 75 7 = (1 + (h1410 75 7)) := by rw [← e1570]; exact x_up_at
                  have q1581 : h1410 75 8 = h1385 75 8 := jK 0 f1412 rg_75_8_0_1 (by omega) (by omega) (by decide)
                  have q1582 : h1385 75 8 = h1353 75 8 := jK 0 f1387 rg_75_8_0_1 (by omega) (by omega) (by decide)
                  have q1583 : h1353 75 8 = h1338 75 8 := jK 0 f1355 rg_75_8_0_1 (by omega) (by omega) (by decide)
                  have q1584 : h1338 75 8 = h26 75 8 := jK 0 f1339 rg_75_8_0_1 (by omega) (by omega) (by decide)
                  have q1585 : h26 75 8 = h15 75 8 := jK 0 f28 rg_75_8_0_1 (by omega) (by omega) (by decide)
                  have q1586 : h15 75 8 = h11 75 8 := by rw [← e17]; exact x_up_i (by omega)
                  have q1587 : h11 75 8 = h7 75 8 := by rw [← e13]; exact x_up_i (by omega)
                  have q1588 : h7 75 8 = h3 75 8 := by rw [← e9]; exact x_up_i (by omega)
                  have q1589 : h3 75 8 = (h 75 6) := by rw [← e5]; exact x_up_at
                  have m1591 := Tq.fr m1409 f1412 (by decide) (by decide)
                  have z1590 := m1591.1
                  have q1592 : h1410 79 u1472 = h1385 79 u1472 := jK u1472 f1412 rg_79_0_1_400 (by omega) (by omega) (by decide)
                  have q1593 : h1385 79 u1472 = h1353 79 u1472 := jK u1472 f1387 rg_79_0_1_400 (by omega) (by omega) (by decide)
                  have q1594 : h1353 79 u1472 = h1338 79 u1472 := jK u1472 f1355 rg_79_0_1_400 (by omega) (by omega) (by decide)
                  have q1595 : h1338 79 u1472 = h26 79 u1472 := jK u1472 f1339 rg_79_0_1_400 (by omega) (by omega) (by decide)
                  have q1596 : h26 79 u1472 = h15 79 u1472 := jK u1472 f28 rg_79_0_1_400 (by omega) (by omega) (by decide)
                  have q1597 : h15 79 u1472 = h11 79 u1472 := by rw [← e17]; exact x_up_k (by decide)
                  have q1598 : h11 79 u1472 = h7 79 u1472 := by rw [← e13]; exact x_up_k (by decide)
                  have q1599 : h7 79 u1472 = h3 79 u1472 := by rw [← e9]; exact x_up_k (by decide)
                  have q1600 : h3 79 u1472 = h 79 u1472 := by rw [← e5]; exact x_up_k (by decide)
                  have z1601 := Tq.at (p := (h1410 75 7)) (u := u1472) m1591 (by omega) (by omega)
                  exact i1346 (1 + v1336) h1568 (by omega) (by omega) (by omega) j1569 f1572 (LnS.cast m1578 (by omega)) (Lq.go m1344 (by omega) c1393 c1360 (by omega) (p2 := h1410 75 7) ⟨by omega, by omega⟩ (Eq.trans c1417 (congrArg (sk tB tN) (show h1385 75 7 = h1385 75 7 by omega))) (q1 := sk tB tN (h1410 75 7 + 1)) rfl (by omega) (congrArg (sk tB tN) (show h1410 75 7 + 1 = h1568 75 7 by omega)))
                have q1566 : ¬ (2147483649 ≠ 2147483648) := q1566
                exfalso; omega
              have q1434 : ¬ ((h1410 75 7) ≠ (h 75 6)) := q1434
              refine x_iload (np := 101) (x := 2) (by decide +kernel) rfl (by omega) ?_
              refine x_const (np := 102) (x := 9223372043297226753) (a := 2147483649) (by decide +kernel) (by decide) (by decide) ?_
              refine x_iadd (np := 103) (x := 0) (v := (1 + v1336)) (by decide +kernel) (by omega) (by decide) (by omega) (by omega) ?_
              have q1602 : h1410 75 6 = h1385 75 6 := jK 0 f1412 rg_75_6_0_1 (by omega) (by omega) (by decide)
              have q1603 : h1385 75 6 = h1353 75 6 := jK 0 f1387 rg_75_6_0_1 (by omega) (by omega) (by decide)
              have q1604 : h1353 75 6 = h1338 75 6 := jK 0 f1355 rg_75_6_0_1 (by omega) (by omega) (by decide)
              have q1605 : h1338 75 6 = h26 75 6 := jK 0 f1339 rg_75_6_0_1 (by omega) (by omega) (by decide)
              have q1606 : h26 75 6 = h15 75 6 := jK 0 f28 rg_75_6_0_1 (by omega) (by omega) (by decide)
              have q1607 : h15 75 6 = h11 75 6 := by rw [← e17]; exact x_up_i (by omega)
              have q1608 : h11 75 6 = h7 75 6 := by rw [← e13]; exact x_up_i (by omega)
              have q1609 : h7 75 6 = 2147483648 := by rw [← e9]; exact x_up_at
              have m1610 : LnS (v1336 - 2147483648 + 1) h1410 := LnS.fr m1403 j1386 f1412 (by omega) (by decide) (by decide)
              have q1611 : h1410 75 8 = h1385 75 8 := jK 0 f1412 rg_75_8_0_1 (by omega) (by omega) (by decide)
              have q1612 : h1385 75 8 = h1353 75 8 := jK 0 f1387 rg_75_8_0_1 (by omega) (by omega) (by decide)
              have q1613 : h1353 75 8 = h1338 75 8 := jK 0 f1355 rg_75_8_0_1 (by omega) (by omega) (by decide)
              have q1614 : h1338 75 8 = h26 75 8 := jK 0 f1339 rg_75_8_0_1 (by omega) (by omega) (by decide)
              have q1615 : h26 75 8 = h15 75 8 := jK 0 f28 rg_75_8_0_1 (by omega) (by omega) (by decide)
              have q1616 : h15 75 8 = h11 75 8 := by rw [← e17]; exact x_up_i (by omega)
              have q1617 : h11 75 8 = h7 75 8 := by rw [← e13]; exact x_up_i (by omega)
              have q1618 : h7 75 8 = h3 75 8 := by rw [← e9]; exact x_up_i (by omega)
              have q1619 : h3 75 8 = (h 75 6) := by rw [← e5]; exact x_up_at
              have m1621 := Tq.fr m1409 f1412 (by decide) (by decide)
              have z1620 := m1621.1
              have z1622 := (Eq.trans c1417 (congrArg (sk tB tN) (show h1385 75 7 = h1385 75 7 by omega)))
              refine x_retI (np := 104) (x := 0) (by decide +kernel) (by omega) (Or.inl (by decide +kernel)) ⟨_, rfl, (by omega), ?_⟩
              exact ⟨j1411, f1418, (by omega), (by omega), (fun _ => LnS.cast m1610 (by omega)), (Cu.rn1 (v := (1 + v1336)) (by omega) (by omega) (Lq.fin m1344 (by omega) c1393 c1360 (by omega) (by omega) (by omega)))⟩
            have q1399 : ¬ (v1381 ≠ 2147483648) := q1399
            refine x_const (np := 84) (x := 9223372034707292159) (a := 2147483647) (by decide +kernel) (by decide) (by decide) ?_
            have q1623 : h1385 75 6 = h1353 75 6 := jK 0 f1387 rg_75_6_0_1 (by omega) (by omega) (by decide)
            have q1624 : h1353 75 6 = h1338 75 6 := jK 0 f1355 rg_75_6_0_1 (by omega) (by omega) (by decide)
            have q1625 : h1338 75 6 = h26 75 6 := jK 0 f1339 rg_75_6_0_1 (by omega) (by omega) (by decide)
            have q1626 : h26 75 6 = h15 75 6 := jK 0 f28 rg_75_6_0_1 (by omega) (by omega) (by decide)
            have q1627 : h15 75 6 = h11 75 6 := by rw [← e17]; exact x_up_i (by omega)
            have q1628 : h11 75 6 = h7 75 6 := by rw [← e13]; exact x_up_i (by omega)
            have q1629 : h7 75 6 = 2147483648 := by rw [← e9]; exact x_up_at
            refine x_retI (np := 85) (x := 0) (by decide +kernel) (by decide) (Or.inl (by decide +kernel)) ⟨_, rfl, (by decide), ?_⟩
            exact ⟨j1386, f1394, (by omega), (by omega), (fun z => absurd z (by omega)), (Cu.rn0 (by omega) (Lq.no m1344 (by omega) c1393 c1360 (by omega)))⟩
          have q1378 : ¬ (2147483648 = 2147483648) := q1378
          exfalso; omega
        have q1368 : ¬ (2147483648 = 2147483648) := q1368
        exfalso; omega
    have b1630 := jB (e := 7) 0 hJ rg_75_7_0_1 (by omega) (by omega)
    have b1631 := jB (e := 13) 0 hJ rg_75_13_0_1 (by omega) (by omega)
    have q1632 : h26 75 13 = h15 75 13 := jK 0 f28 rg_75_13_0_1 (by omega) (by omega) (by decide)
    have q1633 : h15 75 13 = 2147483648 := by rw [← e17]; exact x_up_at
    have q1634 : h15 75 7 = h11 75 7 := by rw [← e17]; exact x_up_i (by omega)
    have q1635 : h11 75 7 = 2147483648 := by rw [← e13]; exact x_up_at
    have q1636 : h26 75 8 = h15 75 8 := jK 0 f28 rg_75_8_0_1 (by omega) (by omega) (by decide)
    have q1637 : h15 75 8 = h11 75 8 := by rw [← e17]; exact x_up_i (by omega)
    have q1638 : h11 75 8 = h7 75 8 := by rw [← e13]; exact x_up_i (by omega)
    have q1639 : h7 75 8 = h3 75 8 := by rw [← e9]; exact x_up_i (by omega)
    have q1640 : h3 75 8 = (h 75 6) := by rw [← e5]; exact x_up_at
    have m1642 := Tq.fr m22 f28 (by decide) (by decide)
    have z1641 := m1642.1
    exact p1341 _ 2147483648 h26 (Nat.lt_succ_self _) (by omega) (by omega) j27 (Fr.refl _ _) LnS.zero (Lq.zeroR ((show h26 75 7 = h26 75 7 by omega).trans (Eq.trans c33 (congrArg (sk tB tN) (show h15 75 7 = 2147483648 by omega)))) (by omega) (by omega) (by omega))
  have q47 : ¬ ((h26 75 7) ≠ (h 75 6)) := q47
  refine x_const (np := 39) (x := 9223372039002259456) (a := 2147483648) (by decide +kernel) (by decide) (by decide) ?_
  have q1643 : h26 75 6 = h15 75 6 := jK 0 f28 rg_75_6_0_1 (by omega) (by omega) (by decide)
  have q1644 : h15 75 6 = h11 75 6 := by rw [← e17]; exact x_up_i (by omega)
  have q1645 : h11 75 6 = h7 75 6 := by rw [← e13]; exact x_up_i (by omega)
  have q1646 : h7 75 6 = 2147483648 := by rw [← e9]; exact x_up_at
  have q1647 : h15 75 7 = h11 75 7 := by rw [← e17]; exact x_up_i (by omega)
  have q1648 : h11 75 7 = 2147483648 := by rw [← e13]; exact x_up_at
  have q1649 : h26 75 8 = h15 75 8 := jK 0 f28 rg_75_8_0_1 (by omega) (by omega) (by decide)
  have q1650 : h15 75 8 = h11 75 8 := by rw [← e17]; exact x_up_i (by omega)
  have q1651 : h11 75 8 = h7 75 8 := by rw [← e13]; exact x_up_i (by omega)
  have q1652 : h7 75 8 = h3 75 8 := by rw [← e9]; exact x_up_i (by omega)
  have q1653 : h3 75 8 = (h 75 6) := by rw [← e5]; exact x_up_at
  have m1655 := Tq.fr m22 f28 (by decide) (by decide)
  have z1654 := m1655.1
  refine x_retI (np := 40) (x := 0) (by decide +kernel) (by decide) (Or.inl (by decide +kernel)) ⟨_, rfl, (by decide), ?_⟩
  exact ⟨j27, f34, (by omega), (by omega), (fun _ => LnS.zero), (Cu.nil (Eq.trans c33 (congrArg (sk tB tN) (show h15 75 7 = 2147483648 by omega))) (by omega) (rn1 (by omega) (by decide)))⟩
set_option maxHeartbeats 0 in
/-- LentNamesModel.custom()I -/
theorem c196_75n {sc : Nat × Nat} {d  : Nat} {h : xh} {tB : Nat → Nat} {tN : Nat} (hJ : J h) (hW : WT 76 h) (hT : Tr tB tN h) : X sc 196 (d + 30) (xI fun r h' => J h' ∧ Fr 133824513 h h' ∧ (2147483648 ≤ r ∧ r ≤ 2147483658) ∧ (h' 75 6 = 2147483648) ∧ WT 76 h' ∧ Cq tB tN r (h' 75 0)) 0 0 0 [x_r 75, 147573952589676412928, 147573952589676412928] [] h := by
  have hF := Fr.refl 133824513 h
  refine x_aload (np := 1) (x := 0) (by decide +kernel) rfl (x_nc_le (by decide)) ?_
  refine x_const (np := 2) (x := 9223372039002259456) (a := 2147483648) (by decide +kernel) (by decide) (by decide) ?_
  refine x_putI (np := 5) (x := 704) (f := 0) (by decide +kernel) (by decide +kernel) (by decide) (Or.inl (by decide)) ?_
  have j2 := jU (e := 0) (v := 2147483648) 0 hJ rg_75_0_0_1 (by omega) (by omega) (by omega)
  have f4 := jF (e := 0) (v := 2147483648) 0 hF rg_75_0_0_1 (by omega) (by omega) (by decide)
  generalize e3 : x_up h 75 0 2147483648 = h1 at j2 f4 ⊢
  refine x_aload (np := 6) (x := 0) (by decide +kernel) rfl (x_nc_le (by decide)) ?_
  refine x_const (np := 7) (x := 9223372039002259456) (a := 2147483648) (by decide +kernel) (by decide) (by decide) ?_
  have m8 : Tr tB tN h1 := by rw [← e3]; exact Tr.oth hT (by decide) (by decide)
  refine x_cI (t := 6) (mj := 194) (n := 2) (rc := 12) (ml := 3) (nr := 0) (np := 10) (as := [x_r 75, iv_c 2147483648]) (rest := []) (lo1 := [x_r 75, iv_c 2147483648, 147573952589676412928]) (by decide +kernel) (by decide) (by decide +kernel) (x_rb_of (by decide +kernel)) rfl rfl (x_wr (by decide) (x_wi (by decide) x_wn)) x_wn (by decide) rfl (c194_75_c0n j2   m8) (fun v5 h9 l6 q7 => ?_)
  obtain ⟨j10, f11, b12, c13, c14, c15⟩ := q7
  have f16 := Fr.trans f4 f11 (by decide)
  have b17 := jB (e := 6) 0 j10 rg_75_6_0_1 (by omega) (by omega)
  refine x_istore (np := 11) (x := 1) (lo' := [x_r 75, iv_c v5, 147573952589676412928]) (by decide +kernel) l6 (Nat.le_of_ble_eq_true rfl) rfl ?_
  refine x_aload (np := 12) (x := 0) (by decide +kernel) rfl (x_nc_le (by decide)) ?_
  refine x_iload (np := 13) (x := 1) (by decide +kernel) rfl l6 ?_
  refine x_ifz (k := 3) (tg := 23) (np := 16) (by decide +kernel) (by decide) l6 (fun q18 => ?_) (fun q19 => ?_)
  · have q18 : 2147483648 ≤ v5 := q18
    have m20 := c14 (by omega)
    refine x_const (np := 24) (x := 9223372034707292159) (a := 2147483647) (by decide +kernel) (by decide) (by decide) ?_
    refine x_putI (np := 27) (x := 715) (f := 11) (by decide +kernel) (by decide +kernel) (by decide) (Or.inl (by decide)) ?_
    have j22 := jU (e := 11) (v := 2147483647) 0 j10 rg_75_11_0_1 (by omega) (by omega) (by omega)
    have f24 := jF (e := 11) (v := 2147483647) 0 f16 rg_75_11_0_1 (by omega) (by omega) (by decide)
    generalize e23 : x_up h9 75 11 2147483647 = h21 at j22 f24 ⊢
    refine x_aload (np := 28) (x := 0) (by decide +kernel) rfl (x_nc_le (by decide)) ?_
    refine x_iload (np := 29) (x := 1) (by decide +kernel) rfl l6 ?_
    refine x_ifz (k := 3) (tg := 36) (np := 32) (by decide +kernel) (by decide) l6 (fun q25 => ?_) (fun q26 => ?_)
    · have q25 : 2147483648 ≤ v5 := q25
      refine x_const (np := 37) (x := 9223372039002259456) (a := 2147483648) (by decide +kernel) (by decide) (by decide) ?_
      refine x_const (np := 38) (x := 9223372043297226753) (a := 2147483649) (by decide +kernel) (by decide) (by decide) ?_
      refine x_nI (t := 6) (mj := 152) (n := 3) (rc := 12) (ml := 3) (nr := 0) (np := 41) (as := [x_r 75, iv_c 2147483648, iv_c 2147483649]) (rest := []) (lo1 := [x_r 75, iv_c 2147483648, iv_c 2147483649]) (by decide +kernel) (by decide) (by decide +kernel) (x_rb_of (by decide +kernel)) rfl rfl (x_wr (by decide) (x_wi (by decide) (x_wi (by decide) x_wn))) x_wn (by decide) rfl ?_
      refine x_iload (np := 1) (x := 1) (by decide +kernel) rfl (by decide) ?_
      refine x_ifz (k := 0) (tg := 9) (np := 4) (by decide +kernel) (by decide) (by decide) (fun q27 => ?_) (fun q28 => ?_)
      · have q27 : 2147483648 = 2147483648 := q27
        refine x_iload (np := 10) (x := 1) (by decide +kernel) rfl (by decide) ?_
        refine x_retI (np := 11) (x := 0) (by decide +kernel) (by decide) (Or.inr ⟨by decide +kernel, by omega, by omega⟩) ⟨_, rfl, (by decide), ?_⟩
        refine x_ifz (k := 0) (tg := 46) (np := 44) (by decide +kernel) (by decide) (by decide) (fun q29 => ?_) (fun q30 => ?_)
        · have q29 : 2147483648 = 2147483648 := q29
          refine x_aload (np := 47) (x := 0) (by decide +kernel) rfl (x_nc_le (by decide)) ?_
          have q31 : h21 75 1 = 76 := by have z := jB (e := 1) 0 j22 rg_75_1_0_1 (by decide) (by decide); omega
          refine x_getR (np := 50) (x := 705) (f := 1) (q := 76) (by decide +kernel) (by decide) (by decide +kernel) q31 ?_
          refine x_const (np := 53) (x := 9223376853660599393) (a := 2147484769) (by decide +kernel) (by decide) (by decide) ?_
          refine x_iload (np := 54) (x := 1) (by decide +kernel) rfl l6 ?_
          refine x_ast (np := 55) (x := 0) (kd := 1) (n := 1952) (i := 1121) (by decide +kernel) (Or.inl rfl) (by decide +kernel) (by omega) (by omega) (by decide) l6 (fun z => absurd z (by decide)) ?_
          have j33 := jU (e := 1121) (v := v5) 0 j22 rg_76_1121_0_1 (by omega) (by omega) (by omega)
          have f35 := jF (e := 1121) (v := v5) 0 f24 rg_76_1121_0_1 (by omega) (by omega) (by decide)
          generalize e34 : x_up h21 76 1121 v5 = h32 at j33 f35 ⊢
          refine x_const (np := 56) (x := 9223372039002259456) (a := 2147483648) (by decide +kernel) (by decide) (by decide) ?_
          refine x_istore (np := 57) (x := 2) (lo' := [x_r 75, iv_c v5, iv_c 2147483648]) (by decide +kernel) (by decide) (Nat.le_of_ble_eq_true rfl) rfl ?_
          have p447 : ∀ (n : Nat) (v442 : Nat) (h444 : xh), 4294967296 - v442 < n → (2147483648 ≤ v442 ∧ v442 ≤ 2147484479) → J h444 → Fr 33554432 h32 h444 → Cp6 h32 h444 (v442 - 2147483648) → X sc 196 (d + 30) (xI fun r h' => J h' ∧ Fr 133824513 h h' ∧ (2147483648 ≤ r ∧ r ≤ 2147483658) ∧ (h' 75 6 = 2147483648) ∧ WT 76 h' ∧ Cq tB tN r (h' 75 0)) 0 0 57 [x_r 75, iv_c v5, iv_c v442] [] h444 := by
            intro n
            induction n with
            | zero => intro v442 h444 q449; exact absurd q449 (Nat.not_lt_zero _)
            | succ n i450 =>
              intro v442 h444 q449 b443 j446 f445 m448
              have f451 := Fr.trans f35 f445 (by decide)
              refine x_iload (np := 58) (x := 2) (by decide +kernel) rfl (by omega) ?_
              refine x_const (np := 61) (x := 9223375608120083263) (a := 2147484479) (by decide +kernel) (by decide) (by decide) ?_
              refine x_icmp (k := 3) (tg := 90) (np := 64) (by decide +kernel) (by decide) (by omega) (by decide) (fun q452 => ?_) (fun q453 => ?_)
              · have q452 : 2147484479 ≤ v442 := q452
                refine x_aload (np := 91) (x := 0) (by decide +kernel) rfl (x_nc_le (by decide)) ?_
                have q454 : h444 75 1 = 76 := by have z := jB (e := 1) 0 j446 rg_75_1_0_1 (by decide) (by decide); omega
                refine x_getR (np := 94) (x := 705) (f := 1) (q := 76) (by decide +kernel) (by decide) (by decide +kernel) q454 ?_
                refine x_const (np := 96) (x := 9223372064772063238) (a := 2147483654) (by decide +kernel) (by decide) (by decide) ?_
                refine x_const (np := 97) (x := 9223372043297226753) (a := 2147483649) (by decide +kernel) (by decide) (by decide) ?_
                refine x_ast (np := 98) (x := 0) (kd := 1) (n := 1952) (i := 6) (by decide +kernel) (Or.inl rfl) (by decide +kernel) (by omega) (by omega) (by decide) (by decide) (fun z => absurd z (by decide)) ?_
                have j456 := jU (e := 6) (v := 2147483649) 0 j446 rg_76_6_0_1 (by omega) (by omega) (by omega)
                have f458 := jF (e := 6) (v := 2147483649) 0 f451 rg_76_6_0_1 (by omega) (by omega) (by decide)
                generalize e457 : x_up h444 76 6 2147483649 = h455 at j456 f458 ⊢
                refine x_iload (np := 99) (x := 1) (by decide +kernel) rfl l6 ?_
                have q459 : h455 75 6 = h444 75 6 := by rw [← e457]; exact x_up_k (by decide)
                have q460 : h444 75 6 = h32 75 6 := jK 0 f445 rg_75_6_0_1 (by omega) (by omega) (by decide)
                have q461 : h32 75 6 = h21 75 6 := by rw [← e34]; exact x_up_k (by decide)
                have q462 : h21 75 6 = h9 75 6 := by rw [← e23]; exact x_up_i (by omega)
                have m464 : LnS (v5 - 2147483648) h21 := by rw [← e23]; exact LnS.oth m20 (by decide) (by decide)
                have m463 : LnS (v5 - 2147483648) h32 := by rw [← e34]; exact LnS.up m464 (by decide)
                have q465 : h32 75 13 = h21 75 13 := by rw [← e34]; exact x_up_k (by decide)
                have q466 : h21 75 13 = h9 75 13 := by rw [← e23]; exact x_up_i (by omega)
                have b467 := jB (e := 13) 0 j10 rg_75_13_0_1 (by omega) (by omega)
                have q468 : h32 76 1121 = v5 := by rw [← e34]; exact x_up_at
                have m469 : WT 76 h444 := WT.mk m463 m448 (by omega) (by omega) (by omega) (by omega)
                have m470 : WT 76 h455 := by rw [← e457]; exact WT.up m469 j446 (by omega)
                have q471 : h455 75 0 = h444 75 0 := by rw [← e457]; exact x_up_k (by decide)
                have q472 : h444 75 0 = h32 75 0 := jK 0 f445 rg_75_0_0_1 (by omega) (by omega) (by decide)
                have q473 : h32 75 0 = h21 75 0 := by rw [← e34]; exact x_up_k (by decide)
                have q474 : h21 75 0 = h9 75 0 := by rw [← e23]; exact x_up_i (by omega)
                have q475 : h9 75 0 = h1 75 0 := jK 0 f11 rg_75_0_0_1 (by omega) (by omega) (by decide)
                have q476 : h1 75 0 = 2147483648 := by rw [← e3]; exact x_up_at
                refine x_retI (np := 100) (x := 0) (by decide +kernel) l6 (Or.inl (by decide +kernel)) ⟨_, rfl, l6, ?_⟩
                exact ⟨j456, f458, (by omega), (by omega), m470, (Cq.yes c15 (by omega) (by omega) (by omega))⟩
              have q453 : ¬ (2147484479 ≤ v442) := q453
              refine x_aload (np := 65) (x := 0) (by decide +kernel) rfl (x_nc_le (by decide)) ?_
              have q477 : h444 75 1 = 76 := by have z := jB (e := 1) 0 j446 rg_75_1_0_1 (by decide) (by decide); omega
              refine x_getR (np := 68) (x := 705) (f := 1) (q := 76) (by decide +kernel) (by decide) (by decide +kernel) q477 ?_
              refine x_const (np := 71) (x := 9223373284542775586) (a := 2147483938) (by decide +kernel) (by decide) (by decide) ?_
              refine x_iload (np := 72) (x := 2) (by decide +kernel) rfl (by omega) ?_
              refine x_iadd (np := 73) (x := 0) (v := (290 + v442)) (by decide +kernel) (by decide) (by omega) (by omega) (by omega) ?_
              refine x_aload (np := 74) (x := 0) (by decide +kernel) rfl (x_nc_le (by decide)) ?_
              have q478 : h444 75 1 = 76 := by have z := jB (e := 1) 0 j446 rg_75_1_0_1 (by decide) (by decide); omega
              refine x_getR (np := 77) (x := 705) (f := 1) (q := 76) (by decide +kernel) (by decide) (by decide +kernel) q478 ?_
              refine x_const (np := 80) (x := 9223376853660599393) (a := 2147484769) (by decide +kernel) (by decide) (by decide) ?_
              refine x_iload (np := 81) (x := 2) (by decide +kernel) rfl (by omega) ?_
              refine x_iadd (np := 82) (x := 0) (v := (1121 + v442)) (by decide +kernel) (by decide) (by omega) (by omega) (by omega) ?_
              obtain ⟨u479, q480⟩ : ∃ z, v442 = 2147483648 + z := ⟨v442 - 2147483648, by omega⟩
              refine x_aldC (np := 83) (x := 0) (n := 1952) (i := (1121 + u479)) (q := (h444 76 (1121 + u479))) (by decide +kernel) (by decide +kernel) (by omega) (by omega) (by decide) rfl (fun l481 => ?_)
              refine x_ast (np := 84) (x := 0) (kd := 1) (n := 1952) (i := (290 + u479)) (by decide +kernel) (Or.inl rfl) (by decide +kernel) (by omega) (by omega) (by decide) l481 (fun z => absurd z (by decide)) ?_
              have j483 := cwJ (e := (290 + u479)) (v := (h444 76 (1121 + u479))) u479 j446 j446 cw_76_290_76_1121_831 (by omega) (by omega) (by first | rfl | (congr 1; omega))
              have f485 := cwF (e := (290 + u479)) (v := (h444 76 (1121 + u479))) u479 f451 cw_76_290_76_1121_831 (by omega) (by omega) (by decide)
              have f486 := cwF (e := (290 + u479)) (v := (h444 76 (1121 + u479))) u479 f445 cw_76_290_76_1121_831 (by omega) (by omega) (by decide)
              generalize e484 : x_up h444 76 (290 + u479) (h444 76 (1121 + u479)) = h482 at j483 f485 f486 ⊢
              refine x_iinc (np := 87) (i := 2) (j := 2147483649) (v := (1 + v442)) (lo' := [x_r 75, iv_c v5, iv_c (1 + v442)]) (by decide +kernel) (by decide) (by decide) rfl (by omega) (by omega) (by omega) rfl ?_
              refine x_goto (np := 90) (x := 57) (by decide +kernel) ?_
              have m487 : Cp6 h32 h482 ((1 + v442) - 2147483648) := by
                have e0 : v442 - 2147483648 = u479 := by omega
                have e9 : (1 + v442) = 2147483648 + (u479 + 1) := by omega
                have e1 : (1 + v442) - 2147483648 = u479 + 1 := by rw [e9]; exact Nat.add_sub_cancel_left _ _
                have p9 := m448
                rw [e0] at p9
                rw [e1, ← e484]
                exact Cp6.step p9 f445 (by decide) (by omega)
              exact i450 (1 + v442) h482 (by omega) (by omega) j483 f486 m487
          exact p447 _ 2147483648 h32 (Nat.lt_succ_self _) (by omega) j33 (Fr.refl _ _) Cp6.zero
        have q30 : ¬ (2147483648 = 2147483648) := q30
        exfalso; omega
      have q28 : ¬ (2147483648 = 2147483648) := q28
      exfalso; omega
    have q26 : ¬ (2147483648 ≤ v5) := q26
    exfalso; omega
  have q19 : ¬ (2147483648 ≤ v5) := q19
  refine x_aload (np := 17) (x := 0) (by decide +kernel) rfl (x_nc_le (by decide)) ?_
  have b488 := jB (e := 9) 0 j10 rg_75_9_0_1 (by omega) (by omega)
  refine x_getC (np := 20) (x := 713) (f := 9) (q := (h9 75 9)) (by decide +kernel) (by decide) (by decide +kernel) rfl (fun l489 => ?_)
  refine x_goto (np := 23) (x := 24) (by decide +kernel) ?_
  refine x_putI (np := 27) (x := 715) (f := 11) (by decide +kernel) (by decide +kernel) l489 (Or.inl (by decide)) ?_
  have j491 := jU (e := 11) (v := (h9 75 9)) 0 j10 rg_75_11_0_1 (by omega) (by omega) (by omega)
  have f493 := jF (e := 11) (v := (h9 75 9)) 0 f16 rg_75_11_0_1 (by omega) (by omega) (by decide)
  generalize e492 : x_up h9 75 11 (h9 75 9) = h490 at j491 f493 ⊢
  refine x_aload (np := 28) (x := 0) (by decide +kernel) rfl (x_nc_le (by decide)) ?_
  refine x_iload (np := 29) (x := 1) (by decide +kernel) rfl l6 ?_
  refine x_ifz (k := 3) (tg := 36) (np := 32) (by decide +kernel) (by decide) l6 (fun q494 => ?_) (fun q495 => ?_)
  · have q494 : 2147483648 ≤ v5 := q494
    exfalso; omega
  have q495 : ¬ (2147483648 ≤ v5) := q495
  refine x_const (np := 33) (x := 9223372043297226753) (a := 2147483649) (by decide +kernel) (by decide) (by decide) ?_
  refine x_goto (np := 36) (x := 37) (by decide +kernel) ?_
  refine x_const (np := 38) (x := 9223372043297226753) (a := 2147483649) (by decide +kernel) (by decide) (by decide) ?_
  refine x_nI (t := 6) (mj := 152) (n := 3) (rc := 12) (ml := 3) (nr := 0) (np := 41) (as := [x_r 75, iv_c 2147483649, iv_c 2147483649]) (rest := []) (lo1 := [x_r 75, iv_c 2147483649, iv_c 2147483649]) (by decide +kernel) (by decide) (by decide +kernel) (x_rb_of (by decide +kernel)) rfl rfl (x_wr (by decide) (x_wi (by decide) (x_wi (by decide) x_wn))) x_wn (by decide) rfl ?_
  refine x_iload (np := 1) (x := 1) (by decide +kernel) rfl (by decide) ?_
  refine x_ifz (k := 0) (tg := 9) (np := 4) (by decide +kernel) (by decide) (by decide) (fun q496 => ?_) (fun q497 => ?_)
  · have q496 : 2147483649 = 2147483648 := q496
    exfalso; omega
  have q497 : ¬ (2147483649 = 2147483648) := q497
  refine x_aload (np := 5) (x := 0) (by decide +kernel) rfl (x_nc_le (by decide)) ?_
  refine x_iload (np := 6) (x := 2) (by decide +kernel) rfl (by decide) ?_
  refine x_putI (np := 9) (x := 704) (f := 0) (by decide +kernel) (by decide +kernel) (by decide) (Or.inl (by decide)) ?_
  have j499 := jU (e := 0) (v := 2147483649) 0 j491 rg_75_0_0_1 (by omega) (by omega) (by omega)
  have f501 := jF (e := 0) (v := 2147483649) 0 f493 rg_75_0_0_1 (by omega) (by omega) (by decide)
  generalize e500 : x_up h490 75 0 2147483649 = h498 at j499 f501 ⊢
  refine x_iload (np := 10) (x := 1) (by decide +kernel) rfl (by decide) ?_
  refine x_retI (np := 11) (x := 0) (by decide +kernel) (by decide) (Or.inr ⟨by decide +kernel, by omega, by omega⟩) ⟨_, rfl, (by decide), ?_⟩
  refine x_ifz (k := 0) (tg := 46) (np := 44) (by decide +kernel) (by decide) (by decide) (fun q502 => ?_) (fun q503 => ?_)
  · have q502 : 2147483649 = 2147483648 := q502
    exfalso; omega
  have q503 : ¬ (2147483649 = 2147483648) := q503
  refine x_const (np := 45) (x := 9223372039002259456) (a := 2147483648) (by decide +kernel) (by decide) (by decide) ?_
  have q504 : h498 75 6 = h490 75 6 := by rw [← e500]; exact x_up_i (by omega)
  have q505 : h490 75 6 = h9 75 6 := by rw [← e492]; exact x_up_i (by omega)
  have m509 : WT 76 h1 := by rw [← e3]; exact WT.oth hW hJ (by decide)
  have m508 := WT.fr m509 j2 f11 (by decide)
  have m507 : WT 76 h490 := by rw [← e492]; exact WT.oth m508 j10 (by decide)
  have m506 : WT 76 h498 := by rw [← e500]; exact WT.oth m507 j491 (by decide)
  have q510 : h498 75 0 = 2147483649 := by rw [← e500]; exact x_up_at
  refine x_retI (np := 46) (x := 0) (by decide +kernel) (by decide) (Or.inl (by decide +kernel)) ⟨_, rfl, (by decide), ?_⟩
  exact ⟨j499, f501, (by omega), (by omega), m506, (Cq.no c15 (by omega) (by omega) (by omega))⟩
set_option maxHeartbeats 0 in
/-- LentNamesLaw.custom(LLentNames;[J)I -/
theorem c296_0_97n {sc : Nat × Nat} {d  : Nat} {h : xh} {tB : Nat → Nat} {tN : Nat} (hJ : J h) (hT : Tp tB tN h) : X sc 296 (d + 32) (xI fun r h' => J h' ∧ Fr 211106232655547 h h' ∧ (2147483648 ≤ r ∧ r ≤ 2147483649) ∧ (h' 1 1 = 2147483648) ∧ ((r = 2147483648 ∧ Cu tB tN (some (h' 97 0))) ∨ (r = 2147483649 ∧ Cu tB tN none))) 0 0 0 [x_r 0, x_r 97, 147573952589676412928] [] h := by
  have hF := Fr.refl 211106232655547 h
  refine x_aload (np := 1) (x := 1) (by decide +kernel) rfl (x_nc_le (by decide)) ?_
  refine x_const (np := 2) (x := 9223372039002259456) (a := 2147483648) (by decide +kernel) (by decide) (by decide) ?_
  refine x_aload (np := 3) (x := 0) (by decide +kernel) rfl (x_nc_le (by decide)) ?_
  refine x_cT (t := 6) (mj := 108) (n := 1) (rc := 11) (ml := 2) (cc := 1) (ss := 6) (nr := 2) (np := 6) (as := [x_r 0]) (rest := [iv_c 2147483648, x_r 97]) (lo1 := [x_r 0, 147573952589676412928]) (by decide +kernel) (by decide) (by decide +kernel) (x_rb_of (by decide +kernel)) rfl rfl (x_wr (by decide) x_wn) (x_wi (by decide) (x_wr (by decide) x_wn)) (by decide) rfl (c108_0n hJ  hT) (fun v3 h6 l4 q5 => ?_) (fun E8 h9 q7 => ?_)
  · obtain ⟨j10, f11, b12, c13, c1⟩ := q5
    have f14 := Fr.trans hF f11 (by decide)
    have b15 := jB (e := 1) 0 j10 rg_1_1_0_1 (by omega) (by omega)
    refine x_i2l (np := 7) (x := 0) (by decide +kernel) l4 ?_
    refine x_last (np := 8) (x := 0) (n := 1) (i := 0) (by decide +kernel) (by decide) (by decide +kernel) (by decide +kernel) (by omega) (by omega) (by decide) l4 ?_
    have j17 := jU (e := 0) (v := v3) 0 j10 rg_97_0_1_1 (by omega) (by omega) (by omega)
    have f19 := jF (e := 0) (v := v3) 0 f14 rg_97_0_1_1 (by omega) (by omega) (by decide)
    generalize e18 : x_up h6 97 0 v3 = h16 at j17 f19 ⊢
    refine x_goto (np := 11) (x := 14) (by decide +kernel) ?_
    refine x_const (np := 15) (x := 9223372039002259456) (a := 2147483648) (by decide +kernel) (by decide) (by decide) ?_
    have q20 : h16 1 1 = h6 1 1 := by rw [← e18]; exact x_up_k (by decide)
    have q21 : h16 97 0 = v3 := by rw [← e18]; exact x_up_at
    refine x_retI (np := 16) (x := 0) (by decide +kernel) (by decide) (Or.inl (by decide +kernel)) ⟨_, rfl, (by decide), ?_⟩
    exact ⟨j17, f19, (by omega), (by omega), (Or.inl ⟨by omega, Cu.cs c1 (by omega)⟩)⟩
  obtain ⟨j22, f23, e24, c25, c2⟩ := q7
  have f26 := Fr.trans hF f23 (by decide)
  have b27 := jB (e := 1) 0 j22 rg_1_1_0_1 (by omega) (by omega)
  rcases e24 with rfl
  · refine ⟨11, fun _ _ => rfl, ?_⟩
    refine x_astE (np := 12) (x := 2) (lo' := [x_r 0, x_r 97, 55340232221128654850]) (by decide +kernel) (Nat.le_of_ble_eq_true rfl) rfl ?_
    refine x_const (np := 13) (x := 9223372043297226753) (a := 2147483649) (by decide +kernel) (by decide) (by decide) ?_
    have q28 : h9 97 0 = h 97 0 := jK 0 f23 rg_97_0_1_1 (by omega) (by omega) (by decide)
    refine x_retI (np := 14) (x := 0) (by decide +kernel) (by decide) (Or.inl (by decide +kernel)) ⟨_, rfl, (by decide), ?_⟩
    exact ⟨j22, f26, (by omega), (by omega), (Or.inr ⟨by omega, c2⟩)⟩
