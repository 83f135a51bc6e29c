/-! ===== the law: calls, 4 ===== -/
section LWai
variable {g : GG} {T : Nat → Nat × Nat} {R : Nat → Nat → Option Nat} {V A B : Nat → Nat → Int} {J : Nat → Nat → Int64} {z k n : Nat} {o fw fr r f b ou N i : Nat} {σ : Nat → Nat} {xs t : Nat → Int} {tp : Nat} {h : Bool} {a m : Nat} {H K : Nat → Nat → Nat → Int} {wr pl tr : Int} {Q : Option Value → Mem → Prop}
theorem l_stands (hJ : LJ T R V z b o r ou N xs fw fr σ f t tp h A B a m H K wr pl tr) (hx : ∀ j, R32 (xs j)) (hi : i + 6 ≤ N) (hN : N ≤ 3072) (hnx : ∀ M, LN b o r ou N xs M → X g mL_law 1710 [.ref b, .ref o, .ref r, .ref ou, .int (iI (i : Int)), jk, jk] [] M k n Q) : X g mL_law 1314 [.ref b, .ref o, .ref r, .ref ou, .int (iI (i : Int)), jk, jk] [] (T, iV V, R, J, z) k n Q := by
  have hT10 := hJ.1.1.1.1
  obtain ⟨lo, hlo⟩ : ∃ lo : Bool, lo = decide (¬ xs (i + 2) = 0) := ⟨_, rfl⟩
  by_cases hc : stOk h A (xs (i + 1))
  · skip
    refine x_aload_n dL_law_1314 rfl ?_
    refine y_arg 1 dL_law_1315 dL_law_1316 dL_law_1318 dL_law_1319 dL_law_1320 rfl rfl hJ.2.2.2.2.2.1 rfl (by omega) (by omega) ?_
    rw [hJ.2.2.2.2.2.2.1]
    refine y_arg 2 dL_law_1321 dL_law_1322 dL_law_1324 dL_law_1325 dL_law_1326 rfl rfl hJ.2.2.2.2.2.1 rfl (by omega) (by omega) ?_
    rw [hJ.2.2.2.2.2.2.1]
    have kk10 : X g mL_law 1335 [.ref b, .ref o, .ref r, .ref ou, .int (iI (i : Int)), jk, jk] (.int (iI (bI lo)) :: .int (iI (xs (i + 1))) :: .ref o :: []) (T, iV V, R, J, z) k n Q := by
      refine x_callV (As := [_, _]) (mc := 0) (ms := 0) (z := mX10_stands) (ci := 10) dL_law_1335 lL_174 oX10_stands (by decide) hT10 rfl rfl (Nat.le_of_ble_eq_true rfl) (Nat.le_of_ble_eq_true rfl) rfl (f_stands (g := g) (J := J) (z := z) (k := 0) (n := 0) (lo := lo) hJ.1 hc) (fun v M1 hq => ?_)
      obtain ⟨rfl, V1, R1, fw1, fr1, σ1, rfl, hI1, hD1, hB1⟩ := LJ_c hJ hq
      refine (show X _ _ 1338 _ [.long _] _ _ _ _ from ?_)
      have hT12 := hD1.1.1
      have hk := k_stands (g := g) (J := J) (z := z) (k := 0) (n := 0) (V := V1) (lo := lo) hD1 hc
      rw [pB_self (fun _ _ => rfl)] at hk
      generalize lI (stdA A (rn A B (B 0 0) (B 0 1) 4) (xs (i + 1)).toNat lo) = vv at hk ⊢
      refine x_aload_n dL_law_1338 rfl ?_
      refine y_arg 1 dL_law_1339 dL_law_1340 dL_law_1342 dL_law_1343 dL_law_1344 rfl rfl hB1.2.2.1 rfl (by omega) (by omega) ?_
      rw [hB1.2.2.2.1]
      refine y_arg 2 dL_law_1345 dL_law_1346 dL_law_1348 dL_law_1349 dL_law_1350 rfl rfl hB1.2.2.1 rfl (by omega) (by omega) ?_
      rw [hB1.2.2.2.1]
      have kk12 : X g mL_law 1359 [.ref b, .ref o, .ref r, .ref ou, .int (iI (i : Int)), jk, jk] (.int (iI (bI lo)) :: .int (iI (xs (i + 1))) :: .ref r :: [.long vv]) (T, iV V1, R1, J, z) k n Q := by
        refine x_callV (As := [_, _]) (mc := 0) (ms := 0) (z := mX12_stands) (ci := 12) dL_law_1359 lL_178 oX12_stands (by decide) hT12 rfl rfl (Nat.le_of_ble_eq_true rfl) (Nat.le_of_ble_eq_true rfl) rfl (hk) (fun v M1 hq => ?_)
        obtain ⟨rfl, V2, rfl, hJ2⟩ := LJ_d hI1 hB1 id (by decide) hq
        refine (show X _ _ 1362 _ [.long _, .long _] _ _ _ _ from ?_)
        refine x_lcmp dL_law_1362 ?_
        rw [lg_cmp_self]
        refine y_if_eq 1710 dL_law_1363 (by decide) ⟨by decide, by decide⟩ (fun _ => hnx _ (LN_of hJ2)) (fun q => absurd rfl q)
      refine y_if_eq 1358 dL_law_1351 (by decide) (hx (i + 2)) (fun q => ?_) (fun q => ?_)
      · refine y_iconst dL_law_1358 ?_
        have e : lo = false := by rw [hlo]; exact decide_eq_false (fun c => c q)
        rw [e] at kk12
        exact kk12
      · refine y_iconst dL_law_1354 ?_
        refine x_goto 1359 dL_law_1355 (by decide) ?_
        have e : lo = true := by rw [hlo]; exact decide_eq_true q
        rw [e] at kk12
        exact kk12
    refine y_if_eq 1334 dL_law_1327 (by decide) (hx (i + 2)) (fun q => ?_) (fun q => ?_)
    · refine y_iconst dL_law_1334 ?_
      have e : lo = false := by rw [hlo]; exact decide_eq_false (fun c => c q)
      rw [e] at kk10
      exact kk10
    · refine y_iconst dL_law_1330 ?_
      refine x_goto 1335 dL_law_1331 (by decide) ?_
      have e : lo = true := by rw [hlo]; exact decide_eq_true q
      rw [e] at kk10
      exact kk10
  · skip
    refine x_aload_n dL_law_1314 rfl ?_
    refine y_arg 1 dL_law_1315 dL_law_1316 dL_law_1318 dL_law_1319 dL_law_1320 rfl rfl hJ.2.2.2.2.2.1 rfl (by omega) (by omega) ?_
    rw [hJ.2.2.2.2.2.2.1]
    refine y_arg 2 dL_law_1321 dL_law_1322 dL_law_1324 dL_law_1325 dL_law_1326 rfl rfl hJ.2.2.2.2.2.1 rfl (by omega) (by omega) ?_
    rw [hJ.2.2.2.2.2.2.1]
    have kk10 : X g mL_law 1335 [.ref b, .ref o, .ref r, .ref ou, .int (iI (i : Int)), jk, jk] (.int (iI (bI lo)) :: .int (iI (xs (i + 1))) :: .ref o :: []) (T, iV V, R, J, z) k n Q := by
      refine x_callV (As := [_, _]) (mc := 0) (ms := 0) (z := mX10_stands) (ci := 10) dL_law_1335 lL_174 oX10_stands (by decide) hT10 rfl rfl (Nat.le_of_ble_eq_true rfl) (Nat.le_of_ble_eq_true rfl) rfl (f_stands0 (g := g) (J := J) (z := z) (k := 0) (n := 0) (y := bI lo) hJ.1 (hx (i + 1)) hc) (fun v M1 hq => ?_)
      obtain ⟨rfl, V1, R1, fw1, fr1, σ1, rfl, hI1, hD1, hB1⟩ := LJ_c hJ hq
      refine (show X _ _ 1338 _ [.long _] _ _ _ _ from ?_)
      have hT12 := hD1.1.1
      have hk := k_stands0 (g := g) (J := J) (z := z) (k := 0) (n := 0) (V := V1) (y := bI lo) hD1 (hx (i + 1)) hc
      rw [pB_self (fun _ _ => rfl)] at hk
      generalize lI (-1) = vv at hk ⊢
      refine x_aload_n dL_law_1338 rfl ?_
      refine y_arg 1 dL_law_1339 dL_law_1340 dL_law_1342 dL_law_1343 dL_law_1344 rfl rfl hB1.2.2.1 rfl (by omega) (by omega) ?_
      rw [hB1.2.2.2.1]
      refine y_arg 2 dL_law_1345 dL_law_1346 dL_law_1348 dL_law_1349 dL_law_1350 rfl rfl hB1.2.2.1 rfl (by omega) (by omega) ?_
      rw [hB1.2.2.2.1]
      have kk12 : X g mL_law 1359 [.ref b, .ref o, .ref r, .ref ou, .int (iI (i : Int)), jk, jk] (.int (iI (bI lo)) :: .int (iI (xs (i + 1))) :: .ref r :: [.long vv]) (T, iV V1, R1, J, z) k n Q := by
        refine x_callV (As := [_, _]) (mc := 0) (ms := 0) (z := mX12_stands) (ci := 12) dL_law_1359 lL_178 oX12_stands (by decide) hT12 rfl rfl (Nat.le_of_ble_eq_true rfl) (Nat.le_of_ble_eq_true rfl) rfl (hk) (fun v M1 hq => ?_)
        obtain ⟨rfl, V2, rfl, hJ2⟩ := LJ_d hI1 hB1 id (by first | exact hJ.2.2.1 | exact yTr_r | exact pyTr_r | exact rTr_r | exact sTr_r | decide | (repeat' split) <;> decide) hq
        refine (show X _ _ 1362 _ [.long _, .long _] _ _ _ _ from ?_)
        refine x_lcmp dL_law_1362 ?_
        rw [lg_cmp_self]
        refine y_if_eq 1710 dL_law_1363 (by decide) ⟨by decide, by decide⟩ (fun _ => hnx _ (LN_of hJ2)) (fun q => absurd rfl q)
      refine y_if_eq 1358 dL_law_1351 (by decide) (hx (i + 2)) (fun q => ?_) (fun q => ?_)
      · refine y_iconst dL_law_1358 ?_
        have e : lo = false := by rw [hlo]; exact decide_eq_false (fun c => c q)
        rw [e] at kk12
        exact kk12
      · refine y_iconst dL_law_1354 ?_
        refine x_goto 1359 dL_law_1355 (by decide) ?_
        have e : lo = true := by rw [hlo]; exact decide_eq_true q
        rw [e] at kk12
        exact kk12
    refine y_if_eq 1334 dL_law_1327 (by decide) (hx (i + 2)) (fun q => ?_) (fun q => ?_)
    · refine y_iconst dL_law_1334 ?_
      have e : lo = false := by rw [hlo]; exact decide_eq_false (fun c => c q)
      rw [e] at kk10
      exact kk10
    · refine y_iconst dL_law_1330 ?_
      refine x_goto 1335 dL_law_1331 (by decide) ?_
      have e : lo = true := by rw [hlo]; exact decide_eq_true q
      rw [e] at kk10
      exact kk10
theorem l_mean (hJ : LJ T R V z b o r ou N xs fw fr σ f t tp h A B a m H K wr pl tr) (hx : ∀ j, R32 (xs j)) (hi : i + 6 ≤ N) (hN : N ≤ 3072) (hnx : ∀ M, LN b o r ou N xs M → X g mL_law 1710 [.ref b, .ref o, .ref r, .ref ou, .int (iI (i : Int)), jk, jk] [] M k n Q) : X g mL_law 1368 [.ref b, .ref o, .ref r, .ref ou, .int (iI (i : Int)), jk, jk] [] (T, iV V, R, J, z) k n Q := by
  have hT10 := hJ.1.1.1.1
  by_cases hc : noP h A (xs (i + 1)) = false ∧ meanOk (xs (i + 2)) (xs (i + 3))
  · skip
    refine x_aload_n dL_law_1368 rfl ?_
    refine y_arg 1 dL_law_1369 dL_law_1370 dL_law_1372 dL_law_1373 dL_law_1374 rfl rfl hJ.2.2.2.2.2.1 rfl (by omega) (by omega) ?_
    rw [hJ.2.2.2.2.2.2.1]
    refine y_arg 2 dL_law_1375 dL_law_1376 dL_law_1378 dL_law_1379 dL_law_1380 rfl rfl hJ.2.2.2.2.2.1 rfl (by omega) (by omega) ?_
    rw [hJ.2.2.2.2.2.2.1]
    refine y_arg 3 dL_law_1381 dL_law_1382 dL_law_1384 dL_law_1385 dL_law_1386 rfl rfl hJ.2.2.2.2.2.1 rfl (by omega) (by omega) ?_
    rw [hJ.2.2.2.2.2.2.1]
    refine x_callV (As := [_, _, _]) (mc := 0) (ms := 0) (z := mX10_mean) (ci := 10) dL_law_1387 lL_179 oX10_mean (by decide) hT10 rfl rfl (Nat.le_of_ble_eq_true rfl) (Nat.le_of_ble_eq_true rfl) rfl (f_mean (g := g) (J := J) (z := z) (k := 0) (n := 0) hJ.1 (hx (i + 1)) hc.1 hc.2) (fun v M1 hq => ?_)
    obtain ⟨rfl, V1, R1, fw1, fr1, σ1, rfl, hI1, hD1, hB1⟩ := LJ_c hJ hq
    refine (show X _ _ 1390 _ [.int _] _ _ _ _ from ?_)
    have hT12 := hD1.1.1
    refine x_aload_n dL_law_1390 rfl ?_
    refine y_arg 1 dL_law_1391 dL_law_1392 dL_law_1394 dL_law_1395 dL_law_1396 rfl rfl hB1.2.2.1 rfl (by omega) (by omega) ?_
    rw [hB1.2.2.2.1]
    refine y_arg 2 dL_law_1397 dL_law_1398 dL_law_1400 dL_law_1401 dL_law_1402 rfl rfl hB1.2.2.1 rfl (by omega) (by omega) ?_
    rw [hB1.2.2.2.1]
    refine y_arg 3 dL_law_1403 dL_law_1404 dL_law_1406 dL_law_1407 dL_law_1408 rfl rfl hB1.2.2.1 rfl (by omega) (by omega) ?_
    rw [hB1.2.2.2.1]
    have hk := k_mean (g := g) (J := J) (z := z) (k := 0) (n := 0) (V := V1) hD1 (hx (i + 1)) hc.1 hc.2
    rw [pB_self (fun _ _ => rfl)] at hk
    refine x_callV (As := [_, _, _]) (mc := 0) (ms := 0) (z := mX12_mean) (ci := 12) dL_law_1409 lL_183 oX12_mean (by decide) hT12 rfl rfl (Nat.le_of_ble_eq_true rfl) (Nat.le_of_ble_eq_true rfl) rfl (hk) (fun v M1 hq => ?_)
    obtain ⟨rfl, V2, rfl, hJ2⟩ := LJ_d hI1 hB1 (id) (by first | exact hJ.2.2.1 | exact yTr_r | exact pyTr_r | exact rTr_r | exact sTr_r | decide | (repeat' split) <;> decide) hq
    refine (show X _ _ 1412 _ [.int _, .int _] _ _ _ _ from ?_)
    refine x_icmp_eq 1710 dL_law_1412 (by decide) (fun _ => ?_) (fun q => absurd (rfl) q)
    exact hnx _ (LN_of hJ2)
  · skip
    refine x_aload_n dL_law_1368 rfl ?_
    refine y_arg 1 dL_law_1369 dL_law_1370 dL_law_1372 dL_law_1373 dL_law_1374 rfl rfl hJ.2.2.2.2.2.1 rfl (by omega) (by omega) ?_
    rw [hJ.2.2.2.2.2.2.1]
    refine y_arg 2 dL_law_1375 dL_law_1376 dL_law_1378 dL_law_1379 dL_law_1380 rfl rfl hJ.2.2.2.2.2.1 rfl (by omega) (by omega) ?_
    rw [hJ.2.2.2.2.2.2.1]
    refine y_arg 3 dL_law_1381 dL_law_1382 dL_law_1384 dL_law_1385 dL_law_1386 rfl rfl hJ.2.2.2.2.2.1 rfl (by omega) (by omega) ?_
    rw [hJ.2.2.2.2.2.2.1]
    refine x_callV (As := [_, _, _]) (mc := 0) (ms := 0) (z := mX10_mean) (ci := 10) dL_law_1387 lL_179 oX10_mean (by decide) hT10 rfl rfl (Nat.le_of_ble_eq_true rfl) (Nat.le_of_ble_eq_true rfl) rfl (f_mean0 (g := g) (J := J) (z := z) (k := 0) (n := 0) hJ.1 (hx (i + 1)) (hx (i + 2)) (hx (i + 3)) hc) (fun v M1 hq => ?_)
    obtain ⟨rfl, V1, R1, fw1, fr1, σ1, rfl, hI1, hD1, hB1⟩ := LJ_c hJ hq
    refine (show X _ _ 1390 _ [.int _] _ _ _ _ from ?_)
    have hT12 := hD1.1.1
    refine x_aload_n dL_law_1390 rfl ?_
    refine y_arg 1 dL_law_1391 dL_law_1392 dL_law_1394 dL_law_1395 dL_law_1396 rfl rfl hB1.2.2.1 rfl (by omega) (by omega) ?_
    rw [hB1.2.2.2.1]
    refine y_arg 2 dL_law_1397 dL_law_1398 dL_law_1400 dL_law_1401 dL_law_1402 rfl rfl hB1.2.2.1 rfl (by omega) (by omega) ?_
    rw [hB1.2.2.2.1]
    refine y_arg 3 dL_law_1403 dL_law_1404 dL_law_1406 dL_law_1407 dL_law_1408 rfl rfl hB1.2.2.1 rfl (by omega) (by omega) ?_
    rw [hB1.2.2.2.1]
    have hk := k_mean0 (g := g) (J := J) (z := z) (k := 0) (n := 0) (V := V1) hD1 (hx (i + 1)) (hx (i + 2)) (hx (i + 3)) hc
    rw [pB_self (fun _ _ => rfl)] at hk
    refine x_callV (As := [_, _, _]) (mc := 0) (ms := 0) (z := mX12_mean) (ci := 12) dL_law_1409 lL_183 oX12_mean (by decide) hT12 rfl rfl (Nat.le_of_ble_eq_true rfl) (Nat.le_of_ble_eq_true rfl) rfl (hk) (fun v M1 hq => ?_)
    obtain ⟨rfl, V2, rfl, hJ2⟩ := LJ_d hI1 hB1 (id) (by first | exact hJ.2.2.1 | exact yTr_r | exact pyTr_r | exact rTr_r | exact sTr_r | decide | (repeat' split) <;> decide) hq
    refine (show X _ _ 1412 _ [.int _, .int _] _ _ _ _ from ?_)
    refine x_icmp_eq 1710 dL_law_1412 (by decide) (fun _ => ?_) (fun q => absurd (rfl) q)
    exact hnx _ (LN_of hJ2)
theorem l_buy (hJ : LJ T R V z b o r ou N xs fw fr σ f t tp h A B a m H K wr pl tr) (hx : ∀ j, R32 (xs j)) (hi : i + 6 ≤ N) (hN : N ≤ 3072) (hnx : ∀ M, LN b o r ou N xs M → X g mL_law 1710 [.ref b, .ref o, .ref r, .ref ou, .int (iI (i : Int)), jk, jk] [] M k n Q) : X g mL_law 1417 [.ref b, .ref o, .ref r, .ref ou, .int (iI (i : Int)), jk, jk] [] (T, iV V, R, J, z) k n Q := by
  have hT10 := hJ.1.1.1.1
  obtain ⟨hA, hB, hR0⟩ := LJ_ok hJ
  by_cases hc : noPr h A (xs (i + 2)) (xs (i + 3)) = false ∧ ¬ buyBad A (xs (i + 1)) (xs (i + 4)) ∧ B 0 2 < 8
  · have hh0 := (noP_f (noPr_f hc.1).1).1
    have hVH := (LJ_pos hJ hh0).2.1
    refine x_aload_n dL_law_1417 rfl ?_
    refine y_arg 1 dL_law_1418 dL_law_1419 dL_law_1421 dL_law_1422 dL_law_1423 rfl rfl hJ.2.2.2.2.2.1 rfl (by omega) (by omega) ?_
    rw [hJ.2.2.2.2.2.2.1]
    refine y_arg 2 dL_law_1424 dL_law_1425 dL_law_1427 dL_law_1428 dL_law_1429 rfl rfl hJ.2.2.2.2.2.1 rfl (by omega) (by omega) ?_
    rw [hJ.2.2.2.2.2.2.1]
    refine y_arg 3 dL_law_1430 dL_law_1431 dL_law_1433 dL_law_1434 dL_law_1435 rfl rfl hJ.2.2.2.2.2.1 rfl (by omega) (by omega) ?_
    rw [hJ.2.2.2.2.2.2.1]
    refine y_arg 4 dL_law_1436 dL_law_1437 dL_law_1439 dL_law_1440 dL_law_1441 rfl rfl hJ.2.2.2.2.2.1 rfl (by omega) (by omega) ?_
    rw [hJ.2.2.2.2.2.2.1]
    refine x_callV (As := [_, _, _, _]) (mc := 0) (ms := 0) (z := mX10_buy) (ci := 10) dL_law_1442 lL_184 oX10_buy (by decide) hT10 rfl rfl (Nat.le_of_ble_eq_true rfl) (Nat.le_of_ble_eq_true rfl) rfl (f_buy (g := g) (J := J) (z := z) (k := 0) (n := 0) hJ.1 (hx (i + 1)) (hx (i + 2)) (hx (i + 3)) (hx (i + 4)) hc.1 hc.2.1 hc.2.2) (fun v M1 hq => ?_)
    obtain ⟨rfl, V1, R1, fw1, fr1, σ1, rfl, hI1, hD1, hB1⟩ := LJ_c hJ hq
    refine (show X _ _ 1445 _ [.int _] _ _ _ _ from ?_)
    have hT12 := hD1.1.1
    refine x_aload_n dL_law_1445 rfl ?_
    refine y_arg 1 dL_law_1446 dL_law_1447 dL_law_1449 dL_law_1450 dL_law_1451 rfl rfl hB1.2.2.1 rfl (by omega) (by omega) ?_
    rw [hB1.2.2.2.1]
    refine y_arg 2 dL_law_1452 dL_law_1453 dL_law_1455 dL_law_1456 dL_law_1457 rfl rfl hB1.2.2.1 rfl (by omega) (by omega) ?_
    rw [hB1.2.2.2.1]
    refine y_arg 3 dL_law_1458 dL_law_1459 dL_law_1461 dL_law_1462 dL_law_1463 rfl rfl hB1.2.2.1 rfl (by omega) (by omega) ?_
    rw [hB1.2.2.2.1]
    refine y_arg 4 dL_law_1464 dL_law_1465 dL_law_1467 dL_law_1468 dL_law_1469 rfl rfl hB1.2.2.1 rfl (by omega) (by omega) ?_
    rw [hB1.2.2.2.1]
    have hk := k_buy (g := g) (J := J) (z := z) (k := 0) (n := 0) (V := V1) hD1 (hx (i + 1)) (hx (i + 2)) (hx (i + 3)) (hx (i + 4)) hc.1 hc.2.1 hc.2.2 hVH hI1.2.2.2.2.2.1.2.2.2
    rw [pB_self (fun _ _ => rfl)] at hk
    refine x_callV (As := [_, _, _, _]) (mc := 0) (ms := 0) (z := mX12_buy) (ci := 12) dL_law_1470 lL_188 oX12_buy (by decide) hT12 rfl rfl (Nat.le_of_ble_eq_true rfl) (Nat.le_of_ble_eq_true rfl) rfl (hk) (fun v M1 hq => ?_)
    obtain ⟨rfl, V2, rfl, hJ2⟩ := LJ_d hI1 hB1 (fun _ => hh0) (by decide) hq
    refine (show X _ _ 1473 _ [.int _, .int _] _ _ _ _ from ?_)
    refine x_icmp_eq 1710 dL_law_1473 (by decide) (fun _ => ?_) (fun q => absurd (rfl) q)
    exact hnx _ (LN_of hJ2)
  · obtain ⟨tr9, t1, t2, t3, hf⟩ := f_buy0 (g := g) (J := J) (z := z) (k := 0) (n := 0) hJ.1 (hx (i + 1)) (hx (i + 2)) (hx (i + 3)) (hx (i + 4)) hc
    have htr9 : 0 ≤ tr9 ∧ tr9 ≤ 6 := by
      cases q1 : noPr h A (xs (i + 2)) (xs (i + 3))
      · by_cases q2 : buyBad A (xs (i + 1)) (xs (i + 4))
        · rw [t2 q1 q2]; decide
        · rw [t3 q1 q2]; decide
      · rw [t1 q1]; decide
    refine x_aload_n dL_law_1417 rfl ?_
    refine y_arg 1 dL_law_1418 dL_law_1419 dL_law_1421 dL_law_1422 dL_law_1423 rfl rfl hJ.2.2.2.2.2.1 rfl (by omega) (by omega) ?_
    rw [hJ.2.2.2.2.2.2.1]
    refine y_arg 2 dL_law_1424 dL_law_1425 dL_law_1427 dL_law_1428 dL_law_1429 rfl rfl hJ.2.2.2.2.2.1 rfl (by omega) (by omega) ?_
    rw [hJ.2.2.2.2.2.2.1]
    refine y_arg 3 dL_law_1430 dL_law_1431 dL_law_1433 dL_law_1434 dL_law_1435 rfl rfl hJ.2.2.2.2.2.1 rfl (by omega) (by omega) ?_
    rw [hJ.2.2.2.2.2.2.1]
    refine y_arg 4 dL_law_1436 dL_law_1437 dL_law_1439 dL_law_1440 dL_law_1441 rfl rfl hJ.2.2.2.2.2.1 rfl (by omega) (by omega) ?_
    rw [hJ.2.2.2.2.2.2.1]
    refine x_callV (As := [_, _, _, _]) (mc := 0) (ms := 0) (z := mX10_buy) (ci := 10) dL_law_1442 lL_184 oX10_buy (by decide) hT10 rfl rfl (Nat.le_of_ble_eq_true rfl) (Nat.le_of_ble_eq_true rfl) rfl (hf) (fun v M1 hq => ?_)
    obtain ⟨rfl, V1, R1, fw1, fr1, σ1, rfl, hI1, hD1, hB1⟩ := LJ_c hJ hq
    refine (show X _ _ 1445 _ [.int _] _ _ _ _ from ?_)
    have hT12 := hD1.1.1
    refine x_aload_n dL_law_1445 rfl ?_
    refine y_arg 1 dL_law_1446 dL_law_1447 dL_law_1449 dL_law_1450 dL_law_1451 rfl rfl hB1.2.2.1 rfl (by omega) (by omega) ?_
    rw [hB1.2.2.2.1]
    refine y_arg 2 dL_law_1452 dL_law_1453 dL_law_1455 dL_law_1456 dL_law_1457 rfl rfl hB1.2.2.1 rfl (by omega) (by omega) ?_
    rw [hB1.2.2.2.1]
    refine y_arg 3 dL_law_1458 dL_law_1459 dL_law_1461 dL_law_1462 dL_law_1463 rfl rfl hB1.2.2.1 rfl (by omega) (by omega) ?_
    rw [hB1.2.2.2.1]
    refine y_arg 4 dL_law_1464 dL_law_1465 dL_law_1467 dL_law_1468 dL_law_1469 rfl rfl hB1.2.2.1 rfl (by omega) (by omega) ?_
    rw [hB1.2.2.2.1]
    have hk := k_buy0 (g := g) (J := J) (z := z) (k := 0) (n := 0) (V := V1) hD1 (hx (i + 1)) (hx (i + 2)) (hx (i + 3)) (hx (i + 4)) hc t1 t2 t3
    rw [pB_self (fun _ _ => rfl)] at hk
    refine x_callV (As := [_, _, _, _]) (mc := 0) (ms := 0) (z := mX12_buy) (ci := 12) dL_law_1470 lL_188 oX12_buy (by decide) hT12 rfl rfl (Nat.le_of_ble_eq_true rfl) (Nat.le_of_ble_eq_true rfl) rfl (hk) (fun v M1 hq => ?_)
    obtain ⟨rfl, V2, rfl, hJ2⟩ := LJ_d hI1 hB1 (id) htr9 hq
    refine (show X _ _ 1473 _ [.int _, .int _] _ _ _ _ from ?_)
    refine x_icmp_eq 1710 dL_law_1473 (by decide) (fun _ => ?_) (fun q => absurd (rfl) q)
    exact hnx _ (LN_of hJ2)
theorem l_death (hJ : LJ T R V z b o r ou N xs fw fr σ f t tp h A B a m H K wr pl tr) (hx : ∀ j, R32 (xs j)) (hi : i + 6 ≤ N) (hN : N ≤ 3072) (hnx : ∀ M, LN b o r ou N xs M → X g mL_law 1710 [.ref b, .ref o, .ref r, .ref ou, .int (iI (i : Int)), jk, jk] [] M k n Q) : X g mL_law 1478 [.ref b, .ref o, .ref r, .ref ou, .int (iI (i : Int)), jk, jk] [] (T, iV V, R, J, z) k n Q := by
  have hT10 := hJ.1.1.1.1
  obtain ⟨hA, hB, hR0⟩ := LJ_ok hJ
  by_cases hc : noP h A (xs (i + 1)) = false ∧ ((xs (i + 2)) = -2 ∨ noY A (xs (i + 2)) = false) ∧ B 1 (xs (i + 1)).toNat ≠ (xs (i + 2))
  · skip
    have hh0 := (noP_f hc.1).1
    have hVH := (LJ_pos hJ hh0).2.1
    refine x_aload_n dL_law_1478 rfl ?_
    refine y_arg 1 dL_law_1479 dL_law_1480 dL_law_1482 dL_law_1483 dL_law_1484 rfl rfl hJ.2.2.2.2.2.1 rfl (by omega) (by omega) ?_
    rw [hJ.2.2.2.2.2.2.1]
    refine y_arg 2 dL_law_1485 dL_law_1486 dL_law_1488 dL_law_1489 dL_law_1490 rfl rfl hJ.2.2.2.2.2.1 rfl (by omega) (by omega) ?_
    rw [hJ.2.2.2.2.2.2.1]
    refine x_callV (As := [_, _]) (mc := 0) (ms := 0) (z := mX10_death) (ci := 10) dL_law_1491 lL_189 oX10_death (by decide) hT10 rfl rfl (Nat.le_of_ble_eq_true rfl) (Nat.le_of_ble_eq_true rfl) rfl (f_death (g := g) (J := J) (z := z) (k := 0) (n := 0) hJ.1 (hx (i + 1)) (hx (i + 2)) hc.1 hc.2.1 hc.2.2) (fun v M1 hq => ?_)
    obtain ⟨rfl, V1, R1, fw1, fr1, σ1, rfl, hI1, hD1, hB1⟩ := LJ_c hJ hq
    refine (show X _ _ 1494 _ [.int _] _ _ _ _ from ?_)
    have hT12 := hD1.1.1
    refine x_aload_n dL_law_1494 rfl ?_
    refine y_arg 1 dL_law_1495 dL_law_1496 dL_law_1498 dL_law_1499 dL_law_1500 rfl rfl hB1.2.2.1 rfl (by omega) (by omega) ?_
    rw [hB1.2.2.2.1]
    refine y_arg 2 dL_law_1501 dL_law_1502 dL_law_1504 dL_law_1505 dL_law_1506 rfl rfl hB1.2.2.1 rfl (by omega) (by omega) ?_
    rw [hB1.2.2.2.1]
    have hk := k_death (g := g) (J := J) (z := z) (k := 0) (n := 0) (V := V1) hD1 (hx (i + 1)) (hx (i + 2)) hc.1 hc.2.1 hc.2.2 hVH hI1.2.2.2.2.2.1.2.2.2
    rw [pB_self (fun _ _ => rfl)] at hk
    refine x_callV (As := [_, _]) (mc := 0) (ms := 0) (z := mX12_death) (ci := 12) dL_law_1507 lL_193 oX12_death (by decide) hT12 rfl rfl (Nat.le_of_ble_eq_true rfl) (Nat.le_of_ble_eq_true rfl) rfl (hk) (fun v M1 hq => ?_)
    obtain ⟨rfl, V2, rfl, hJ2⟩ := LJ_d hI1 hB1 (fun _ => hh0) (by decide) hq
    refine (show X _ _ 1510 _ [.int _, .int _] _ _ _ _ from ?_)
    refine x_icmp_eq 1710 dL_law_1510 (by decide) (fun _ => ?_) (fun q => absurd (rfl) q)
    exact hnx _ (LN_of hJ2)
  · skip
    refine x_aload_n dL_law_1478 rfl ?_
    refine y_arg 1 dL_law_1479 dL_law_1480 dL_law_1482 dL_law_1483 dL_law_1484 rfl rfl hJ.2.2.2.2.2.1 rfl (by omega) (by omega) ?_
    rw [hJ.2.2.2.2.2.2.1]
    refine y_arg 2 dL_law_1485 dL_law_1486 dL_law_1488 dL_law_1489 dL_law_1490 rfl rfl hJ.2.2.2.2.2.1 rfl (by omega) (by omega) ?_
    rw [hJ.2.2.2.2.2.2.1]
    refine x_callV (As := [_, _]) (mc := 0) (ms := 0) (z := mX10_death) (ci := 10) dL_law_1491 lL_189 oX10_death (by decide) hT10 rfl rfl (Nat.le_of_ble_eq_true rfl) (Nat.le_of_ble_eq_true rfl) rfl (f_death0 (g := g) (J := J) (z := z) (k := 0) (n := 0) hJ.1 (hx (i + 1)) (hx (i + 2)) hc) (fun v M1 hq => ?_)
    obtain ⟨rfl, V1, R1, fw1, fr1, σ1, rfl, hI1, hD1, hB1⟩ := LJ_c hJ hq
    refine (show X _ _ 1494 _ [.int _] _ _ _ _ from ?_)
    have hT12 := hD1.1.1
    refine x_aload_n dL_law_1494 rfl ?_
    refine y_arg 1 dL_law_1495 dL_law_1496 dL_law_1498 dL_law_1499 dL_law_1500 rfl rfl hB1.2.2.1 rfl (by omega) (by omega) ?_
    rw [hB1.2.2.2.1]
    refine y_arg 2 dL_law_1501 dL_law_1502 dL_law_1504 dL_law_1505 dL_law_1506 rfl rfl hB1.2.2.1 rfl (by omega) (by omega) ?_
    rw [hB1.2.2.2.1]
    have hk := k_death0 (g := g) (J := J) (z := z) (k := 0) (n := 0) (V := V1) hD1 (hx (i + 1)) (hx (i + 2)) hc
    rw [pB_self (fun _ _ => rfl)] at hk
    refine x_callV (As := [_, _]) (mc := 0) (ms := 0) (z := mX12_death) (ci := 12) dL_law_1507 lL_193 oX12_death (by decide) hT12 rfl rfl (Nat.le_of_ble_eq_true rfl) (Nat.le_of_ble_eq_true rfl) rfl (hk) (fun v M1 hq => ?_)
    obtain ⟨rfl, V2, rfl, hJ2⟩ := LJ_d hI1 hB1 (id) (by first | exact hJ.2.2.1 | exact yTr_r | exact pyTr_r | exact rTr_r | exact sTr_r | decide | (repeat' split) <;> decide) hq
    refine (show X _ _ 1510 _ [.int _, .int _] _ _ _ _ from ?_)
    refine x_icmp_eq 1710 dL_law_1510 (by decide) (fun _ => ?_) (fun q => absurd (rfl) q)
    exact hnx _ (LN_of hJ2)
theorem l_law (hJ : LJ T R V z b o r ou N xs fw fr σ f t tp h A B a m H K wr pl tr) (hx : ∀ j, R32 (xs j)) (hi : i + 6 ≤ N) (hN : N ≤ 3072) (hnx : ∀ M, LN b o r ou N xs M → X g mL_law 1710 [.ref b, .ref o, .ref r, .ref ou, .int (iI (i : Int)), jk, jk] [] M k n Q) : X g mL_law 1515 [.ref b, .ref o, .ref r, .ref ou, .int (iI (i : Int)), jk, jk] [] (T, iV V, R, J, z) k n Q := by
  have hT10 := hJ.1.1.1.1
  obtain ⟨hA, hB, hR0⟩ := LJ_ok hJ
  by_cases hc : h = true ∧ 0 ≤ (xs (i + 1)) ∧ (xs (i + 1)) < 5 ∧ B 0 0 ≠ (xs (i + 1))
  · skip
    obtain ⟨rfl, hc2⟩ := id hc
    have hVH := (LJ_pos hJ rfl).2.1
    refine x_aload_n dL_law_1515 rfl ?_
    refine y_arg 1 dL_law_1516 dL_law_1517 dL_law_1519 dL_law_1520 dL_law_1521 rfl rfl hJ.2.2.2.2.2.1 rfl (by omega) (by omega) ?_
    rw [hJ.2.2.2.2.2.2.1]
    refine x_callV (As := [_]) (mc := 0) (ms := 0) (z := mX10_law) (ci := 10) dL_law_1522 lL_194 oX10_law (by decide) hT10 rfl rfl (Nat.le_of_ble_eq_true rfl) (Nat.le_of_ble_eq_true rfl) rfl (f_law (g := g) (J := J) (z := z) (k := 0) (n := 0) hJ.1 ⟨hc.2.1, hc.2.2.1⟩ hc.2.2.2) (fun v M1 hq => ?_)
    obtain ⟨rfl, V1, R1, fw1, fr1, σ1, rfl, hI1, hD1, hB1⟩ := LJ_c hJ hq
    refine (show X _ _ 1525 _ [.int _] _ _ _ _ from ?_)
    have hT12 := hD1.1.1
    refine x_aload_n dL_law_1525 rfl ?_
    refine y_arg 1 dL_law_1526 dL_law_1527 dL_law_1529 dL_law_1530 dL_law_1531 rfl rfl hB1.2.2.1 rfl (by omega) (by omega) ?_
    rw [hB1.2.2.2.1]
    have hk := k_law (g := g) (J := J) (z := z) (k := 0) (n := 0) (V := V1) hD1 ⟨hc.2.1, hc.2.2.1⟩ hc.2.2.2 hVH hI1.2.2.2.2.2.1.2.2.2
    rw [pB_self (fun _ _ => rfl)] at hk
    refine x_callV (As := [_]) (mc := 0) (ms := 0) (z := mX12_law) (ci := 12) dL_law_1532 lL_198 oX12_law (by decide) hT12 rfl rfl (Nat.le_of_ble_eq_true rfl) (Nat.le_of_ble_eq_true rfl) rfl (hk) (fun v M1 hq => ?_)
    obtain ⟨rfl, V2, rfl, hJ2⟩ := LJ_d hI1 hB1 (id) (by decide) hq
    refine (show X _ _ 1535 _ [.int _, .int _] _ _ _ _ from ?_)
    refine x_icmp_eq 1710 dL_law_1535 (by decide) (fun _ => ?_) (fun q => absurd (rfl) q)
    exact hnx _ (LN_of hJ2)
  · skip
    refine x_aload_n dL_law_1515 rfl ?_
    refine y_arg 1 dL_law_1516 dL_law_1517 dL_law_1519 dL_law_1520 dL_law_1521 rfl rfl hJ.2.2.2.2.2.1 rfl (by omega) (by omega) ?_
    rw [hJ.2.2.2.2.2.2.1]
    refine x_callV (As := [_]) (mc := 0) (ms := 0) (z := mX10_law) (ci := 10) dL_law_1522 lL_194 oX10_law (by decide) hT10 rfl rfl (Nat.le_of_ble_eq_true rfl) (Nat.le_of_ble_eq_true rfl) rfl (f_law0 (g := g) (J := J) (z := z) (k := 0) (n := 0) hJ.1 (hx (i + 1)) hc) (fun v M1 hq => ?_)
    obtain ⟨rfl, V1, R1, fw1, fr1, σ1, rfl, hI1, hD1, hB1⟩ := LJ_c hJ hq
    refine (show X _ _ 1525 _ [.int _] _ _ _ _ from ?_)
    have hT12 := hD1.1.1
    refine x_aload_n dL_law_1525 rfl ?_
    refine y_arg 1 dL_law_1526 dL_law_1527 dL_law_1529 dL_law_1530 dL_law_1531 rfl rfl hB1.2.2.1 rfl (by omega) (by omega) ?_
    rw [hB1.2.2.2.1]
    have hk := k_law0 (g := g) (J := J) (z := z) (k := 0) (n := 0) (V := V1) hD1 (hx (i + 1)) hc
    rw [pB_self (fun _ _ => rfl)] at hk
    refine x_callV (As := [_]) (mc := 0) (ms := 0) (z := mX12_law) (ci := 12) dL_law_1532 lL_198 oX12_law (by decide) hT12 rfl rfl (Nat.le_of_ble_eq_true rfl) (Nat.le_of_ble_eq_true rfl) rfl (hk) (fun v M1 hq => ?_)
    obtain ⟨rfl, V2, rfl, hJ2⟩ := LJ_d hI1 hB1 (id) (by first | exact hJ.2.2.1 | exact yTr_r | exact pyTr_r | exact rTr_r | exact sTr_r | decide | (repeat' split) <;> decide) hq
    refine (show X _ _ 1535 _ [.int _, .int _] _ _ _ _ from ?_)
    refine x_icmp_eq 1710 dL_law_1535 (by decide) (fun _ => ?_) (fun q => absurd (rfl) q)
    exact hnx _ (LN_of hJ2)
theorem l_seed (hJ : LJ T R V z b o r ou N xs fw fr σ f t tp h A B a m H K wr pl tr) (hx : ∀ j, R32 (xs j)) (hi : i + 6 ≤ N) (hN : N ≤ 3072) (hnx : ∀ M, LN b o r ou N xs M → X g mL_law 1710 [.ref b, .ref o, .ref r, .ref ou, .int (iI (i : Int)), jk, jk] [] M k n Q) : X g mL_law 1540 [.ref b, .ref o, .ref r, .ref ou, .int (iI (i : Int)), jk, jk] [] (T, iV V, R, J, z) k n Q := by
  have hT10 := hJ.1.1.1.1
  obtain ⟨hA, hB, hR0⟩ := LJ_ok hJ
  by_cases hc : h = true ∧ 0 ≤ (xs (i + 1)) ∧ (xs (i + 1)) < 65537
  · skip
    obtain ⟨rfl, hc2⟩ := id hc
    refine x_aload_n dL_law_1540 rfl ?_
    refine y_arg 1 dL_law_1541 dL_law_1542 dL_law_1544 dL_law_1545 dL_law_1546 rfl rfl hJ.2.2.2.2.2.1 rfl (by omega) (by omega) ?_
    rw [hJ.2.2.2.2.2.2.1]
    refine x_callV (As := [_]) (mc := 0) (ms := 0) (z := mX10_seed) (ci := 10) dL_law_1547 lL_199 oX10_seed (by decide) hT10 rfl rfl (Nat.le_of_ble_eq_true rfl) (Nat.le_of_ble_eq_true rfl) rfl (f_seed (g := g) (J := J) (z := z) (k := 0) (n := 0) hJ.1 hc.2) (fun v M1 hq => ?_)
    obtain ⟨rfl, V1, R1, fw1, fr1, σ1, rfl, hI1, hD1, hB1⟩ := LJ_c hJ hq
    refine (show X _ _ 1550 _ [.int _] _ _ _ _ from ?_)
    have hT12 := hD1.1.1
    refine x_aload_n dL_law_1550 rfl ?_
    refine y_arg 1 dL_law_1551 dL_law_1552 dL_law_1554 dL_law_1555 dL_law_1556 rfl rfl hB1.2.2.1 rfl (by omega) (by omega) ?_
    rw [hB1.2.2.2.1]
    have hk := k_seed (g := g) (J := J) (z := z) (k := 0) (n := 0) (V := V1) hD1 hc.2 hI1.2.2.2.2.2.1.2.2.2
    rw [pB_self (fun _ _ => rfl)] at hk
    refine x_callV (As := [_]) (mc := 0) (ms := 0) (z := mX12_seed) (ci := 12) dL_law_1557 lL_202 oX12_seed (by decide) hT12 rfl rfl (Nat.le_of_ble_eq_true rfl) (Nat.le_of_ble_eq_true rfl) rfl (hk) (fun v M1 hq => ?_)
    obtain ⟨rfl, V2, rfl, hJ2⟩ := LJ_d hI1 hB1 (id) (by decide) hq
    refine (show X _ _ 1560 _ [.int _, .int _] _ _ _ _ from ?_)
    refine x_icmp_eq 1710 dL_law_1560 (by decide) (fun _ => ?_) (fun q => absurd (rfl) q)
    exact hnx _ (LN_of hJ2)
  · skip
    refine x_aload_n dL_law_1540 rfl ?_
    refine y_arg 1 dL_law_1541 dL_law_1542 dL_law_1544 dL_law_1545 dL_law_1546 rfl rfl hJ.2.2.2.2.2.1 rfl (by omega) (by omega) ?_
    rw [hJ.2.2.2.2.2.2.1]
    refine x_callV (As := [_]) (mc := 0) (ms := 0) (z := mX10_seed) (ci := 10) dL_law_1547 lL_199 oX10_seed (by decide) hT10 rfl rfl (Nat.le_of_ble_eq_true rfl) (Nat.le_of_ble_eq_true rfl) rfl (f_seed0 (g := g) (J := J) (z := z) (k := 0) (n := 0) hJ.1 (hx (i + 1)) hc) (fun v M1 hq => ?_)
    obtain ⟨rfl, V1, R1, fw1, fr1, σ1, rfl, hI1, hD1, hB1⟩ := LJ_c hJ hq
    refine (show X _ _ 1550 _ [.int _] _ _ _ _ from ?_)
    have hT12 := hD1.1.1
    refine x_aload_n dL_law_1550 rfl ?_
    refine y_arg 1 dL_law_1551 dL_law_1552 dL_law_1554 dL_law_1555 dL_law_1556 rfl rfl hB1.2.2.1 rfl (by omega) (by omega) ?_
    rw [hB1.2.2.2.1]
    have hk := k_seed0 (g := g) (J := J) (z := z) (k := 0) (n := 0) (V := V1) hD1 (hx (i + 1)) hc
    rw [pB_self (fun _ _ => rfl)] at hk
    refine x_callV (As := [_]) (mc := 0) (ms := 0) (z := mX12_seed) (ci := 12) dL_law_1557 lL_202 oX12_seed (by decide) hT12 rfl rfl (Nat.le_of_ble_eq_true rfl) (Nat.le_of_ble_eq_true rfl) rfl (hk) (fun v M1 hq => ?_)
    obtain ⟨rfl, V2, rfl, hJ2⟩ := LJ_d hI1 hB1 (id) (by first | exact hJ.2.2.1 | exact yTr_r | exact pyTr_r | exact rTr_r | exact sTr_r | decide | (repeat' split) <;> decide) hq
    refine (show X _ _ 1560 _ [.int _, .int _] _ _ _ _ from ?_)
    refine x_icmp_eq 1710 dL_law_1560 (by decide) (fun _ => ?_) (fun q => absurd (rfl) q)
    exact hnx _ (LN_of hJ2)
theorem l_undo (hJ : LJ T R V z b o r ou N xs fw fr σ f t tp h A B a m H K wr pl tr) (hx : ∀ j, R32 (xs j)) (hi : i + 6 ≤ N) (hN : N ≤ 3072) (hnx : ∀ M, LN b o r ou N xs M → X g mL_law 1710 [.ref b, .ref o, .ref r, .ref ou, .int (iI (i : Int)), jk, jk] [] M k n Q) : X g mL_law 1565 [.ref b, .ref o, .ref r, .ref ou, .int (iI (i : Int)), jk, jk] [] (T, iV V, R, J, z) k n Q := by
  have hT10 := hJ.1.1.1.1
  by_cases hc : a = 0
  · subst hc
    refine x_aload_n dL_law_1565 rfl ?_
    refine x_callV (As := []) (mc := 0) (ms := 0) (z := mX10_undo) (ci := 10) dL_law_1566 lL_203 oX10_undo (by decide) hT10 rfl rfl (Nat.le_of_ble_eq_true rfl) (Nat.le_of_ble_eq_true rfl) rfl (f_undo0 (g := g) (J := J) (z := z) (k := 0) (n := 0) hJ.1) (fun v M1 hq => ?_)
    obtain ⟨rfl, V1, R1, fw1, fr1, σ1, rfl, hI1, hD1, hB1⟩ := LJ_c hJ hq
    refine (show X _ _ 1569 _ [.int _] _ _ _ _ from ?_)
    have hT12 := hD1.1.1
    refine x_aload_n dL_law_1569 rfl ?_
    have hk := k_undo0 (g := g) (J := J) (z := z) (k := 0) (n := 0) (V := V1) hD1
    rw [pB_self (fun _ _ => rfl)] at hk
    refine x_callV (As := []) (mc := 0) (ms := 0) (z := mX12_undo) (ci := 12) dL_law_1570 lL_207 oX12_undo (by decide) hT12 rfl rfl (Nat.le_of_ble_eq_true rfl) (Nat.le_of_ble_eq_true rfl) rfl (hk) (fun v M1 hq => ?_)
    obtain ⟨rfl, V2, rfl, hJ2⟩ := LJ_d hI1 hB1 (id) (by decide) hq
    refine (show X _ _ 1573 _ [.int _, .int _] _ _ _ _ from ?_)
    refine x_icmp_eq 1710 dL_law_1573 (by decide) (fun _ => ?_) (fun q => absurd (rfl) q)
    exact hnx _ (LN_of hJ2)
  · obtain ⟨c, rfl⟩ : ∃ c, a = c + 1 := ⟨a - 1, by omega⟩
    have hh0 : h = true := by
      cases h
      · have := (hJ.1.2.2.2.2.2.2.2.2.2 rfl).2.2.1; omega
      · rfl
    have hVH := (LJ_pos hJ hh0).2.1
    refine x_aload_n dL_law_1565 rfl ?_
    refine x_callV (As := []) (mc := 0) (ms := 0) (z := mX10_undo) (ci := 10) dL_law_1566 lL_203 oX10_undo (by decide) hT10 rfl rfl (Nat.le_of_ble_eq_true rfl) (Nat.le_of_ble_eq_true rfl) rfl (f_undo (g := g) (J := J) (z := z) (k := 0) (n := 0) hJ.1) (fun v M1 hq => ?_)
    obtain ⟨rfl, V1, R1, fw1, fr1, σ1, rfl, hI1, hD1, hB1⟩ := LJ_c hJ hq
    refine (show X _ _ 1569 _ [.int _] _ _ _ _ from ?_)
    have hT12 := hD1.1.1
    refine x_aload_n dL_law_1569 rfl ?_
    have hk := k_undo (g := g) (J := J) (z := z) (k := 0) (n := 0) (V := V1) hD1 hVH
    rw [pB_self (fun _ _ => rfl)] at hk
    refine x_callV (As := []) (mc := 0) (ms := 0) (z := mX12_undo) (ci := 12) dL_law_1570 lL_207 oX12_undo (by decide) hT12 rfl rfl (Nat.le_of_ble_eq_true rfl) (Nat.le_of_ble_eq_true rfl) rfl (hk) (fun v M1 hq => ?_)
    obtain ⟨rfl, V2, rfl, hJ2⟩ := LJ_d hI1 hB1 (fun _ => hh0) (by decide) hq
    refine (show X _ _ 1573 _ [.int _, .int _] _ _ _ _ from ?_)
    refine x_icmp_eq 1710 dL_law_1573 (by decide) (fun _ => ?_) (fun q => absurd (rfl) q)
    exact hnx _ (LN_of hJ2)
theorem l_mark (hJ : LJ T R V z b o r ou N xs fw fr σ f t tp h A B a m H K wr pl tr) (hx : ∀ j, R32 (xs j)) (hi : i + 6 ≤ N) (hN : N ≤ 3072) (hnx : ∀ M, LN b o r ou N xs M → X g mL_law 1710 [.ref b, .ref o, .ref r, .ref ou, .int (iI (i : Int)), jk, jk] [] M k n Q) : X g mL_law 1578 [.ref b, .ref o, .ref r, .ref ou, .int (iI (i : Int)), jk, jk] [] (T, iV V, R, J, z) k n Q := by
  have hT10 := hJ.1.1.1.1
  by_cases hc : h = true ∧ m < 3
  · obtain ⟨rfl, hc2⟩ := hc
    have hVK := (LJ_pos hJ rfl).2.2
    refine x_aload_n dL_law_1578 rfl ?_
    refine x_callV (As := []) (mc := 0) (ms := 0) (z := mX10_mark) (ci := 10) dL_law_1579 lL_208 oX10_mark (by decide) hT10 rfl rfl (Nat.le_of_ble_eq_true rfl) (Nat.le_of_ble_eq_true rfl) rfl (f_mark (g := g) (J := J) (z := z) (k := 0) (n := 0) hJ.1 hc2) (fun v M1 hq => ?_)
    obtain ⟨rfl, V1, R1, fw1, fr1, σ1, rfl, hI1, hD1, hB1⟩ := LJ_c hJ hq
    refine (show X _ _ 1582 _ [.int _] _ _ _ _ from ?_)
    have hT12 := hD1.1.1
    refine x_aload_n dL_law_1582 rfl ?_
    have hk := k_mark (g := g) (J := J) (z := z) (k := 0) (n := 0) (V := V1) hD1 hc2 hVK
    rw [pB_self (fun _ _ => rfl)] at hk
    refine x_callV (As := []) (mc := 0) (ms := 0) (z := mX12_mark) (ci := 12) dL_law_1583 lL_211 oX12_mark (by decide) hT12 rfl rfl (Nat.le_of_ble_eq_true rfl) (Nat.le_of_ble_eq_true rfl) rfl (hk) (fun v M1 hq => ?_)
    obtain ⟨rfl, V2, rfl, hJ2⟩ := LJ_d hI1 hB1 (id) (by decide) hq
    refine (show X _ _ 1586 _ [.int _, .int _] _ _ _ _ from ?_)
    refine x_icmp_eq 1710 dL_law_1586 (by decide) (fun _ => ?_) (fun q => absurd (rfl) q)
    exact hnx _ (LN_of hJ2)
  · skip
    refine x_aload_n dL_law_1578 rfl ?_
    refine x_callV (As := []) (mc := 0) (ms := 0) (z := mX10_mark) (ci := 10) dL_law_1579 lL_208 oX10_mark (by decide) hT10 rfl rfl (Nat.le_of_ble_eq_true rfl) (Nat.le_of_ble_eq_true rfl) rfl (f_mark0 (g := g) (J := J) (z := z) (k := 0) (n := 0) hJ.1 hc) (fun v M1 hq => ?_)
    obtain ⟨rfl, V1, R1, fw1, fr1, σ1, rfl, hI1, hD1, hB1⟩ := LJ_c hJ hq
    refine (show X _ _ 1582 _ [.int _] _ _ _ _ from ?_)
    have hT12 := hD1.1.1
    refine x_aload_n dL_law_1582 rfl ?_
    have hk := k_mark0 (g := g) (J := J) (z := z) (k := 0) (n := 0) (V := V1) hD1 hc
    rw [pB_self (fun _ _ => rfl)] at hk
    refine x_callV (As := []) (mc := 0) (ms := 0) (z := mX12_mark) (ci := 12) dL_law_1583 lL_211 oX12_mark (by decide) hT12 rfl rfl (Nat.le_of_ble_eq_true rfl) (Nat.le_of_ble_eq_true rfl) rfl (hk) (fun v M1 hq => ?_)
    obtain ⟨rfl, V2, rfl, hJ2⟩ := LJ_d hI1 hB1 (id) (by first | exact hJ.2.2.1 | exact yTr_r | exact pyTr_r | exact rTr_r | exact sTr_r | decide | (repeat' split) <;> decide) hq
    refine (show X _ _ 1586 _ [.int _, .int _] _ _ _ _ from ?_)
    refine x_icmp_eq 1710 dL_law_1586 (by decide) (fun _ => ?_) (fun q => absurd (rfl) q)
    exact hnx _ (LN_of hJ2)
theorem l_back (hJ : LJ T R V z b o r ou N xs fw fr σ f t tp h A B a m H K wr pl tr) (hx : ∀ j, R32 (xs j)) (hi : i + 6 ≤ N) (hN : N ≤ 3072) (hnx : ∀ M, LN b o r ou N xs M → X g mL_law 1710 [.ref b, .ref o, .ref r, .ref ou, .int (iI (i : Int)), jk, jk] [] M k n Q) : X g mL_law 1591 [.ref b, .ref o, .ref r, .ref ou, .int (iI (i : Int)), jk, jk] [] (T, iV V, R, J, z) k n Q := by
  have hT10 := hJ.1.1.1.1
  by_cases hc : 0 ≤ (xs (i + 1)) ∧ (xs (i + 1)) < (m : Int)
  · obtain ⟨c, hcc⟩ : ∃ c : Nat, xs (i + 1) = (c : Int) := ⟨(xs (i + 1)).toNat, (Int.toNat_of_nonneg hc.1).symm⟩
    have hcm : c < m := by omega
    have hh0 : h = true := by
      cases h
      · have := (hJ.1.2.2.2.2.2.2.2.2.2 rfl).2.2.2; omega
      · rfl
    have hVK := (LJ_pos hJ hh0).2.2
    refine x_aload_n dL_law_1591 rfl ?_
    refine y_arg 1 dL_law_1592 dL_law_1593 dL_law_1595 dL_law_1596 dL_law_1597 rfl rfl hJ.2.2.2.2.2.1 rfl (by omega) (by omega) ?_
    rw [hJ.2.2.2.2.2.2.1, hcc]
    refine x_callV (As := [_]) (mc := 0) (ms := 0) (z := mX10_back) (ci := 10) dL_law_1598 lL_212 oX10_back (by decide) hT10 rfl rfl (Nat.le_of_ble_eq_true rfl) (Nat.le_of_ble_eq_true rfl) rfl (f_back (g := g) (J := J) (z := z) (k := 0) (n := 0) hJ.1 hcm) (fun v M1 hq => ?_)
    obtain ⟨rfl, V1, R1, fw1, fr1, σ1, rfl, hI1, hD1, hB1⟩ := LJ_c hJ hq
    refine (show X _ _ 1601 _ [.int _] _ _ _ _ from ?_)
    have hT12 := hD1.1.1
    refine x_aload_n dL_law_1601 rfl ?_
    refine y_arg 1 dL_law_1602 dL_law_1603 dL_law_1605 dL_law_1606 dL_law_1607 rfl rfl hB1.2.2.1 rfl (by omega) (by omega) ?_
    rw [hB1.2.2.2.1, hcc]
    have hk := k_back (g := g) (J := J) (z := z) (k := 0) (n := 0) (V := V1) hD1 hcm hVK
    rw [pB_self (fun _ _ => rfl)] at hk
    refine x_callV (As := [_]) (mc := 0) (ms := 0) (z := mX12_back) (ci := 12) dL_law_1608 lL_215 oX12_back (by decide) hT12 rfl rfl (Nat.le_of_ble_eq_true rfl) (Nat.le_of_ble_eq_true rfl) rfl (hk) (fun v M1 hq => ?_)
    obtain ⟨rfl, V2, rfl, hJ2⟩ := LJ_d hI1 hB1 (fun _ => hh0) (by decide) hq
    refine (show X _ _ 1611 _ [.int _, .int _] _ _ _ _ from ?_)
    refine x_icmp_eq 1710 dL_law_1611 (by decide) (fun _ => ?_) (fun q => absurd (rfl) q)
    exact hnx _ (LN_of hJ2)
  · skip
    refine x_aload_n dL_law_1591 rfl ?_
    refine y_arg 1 dL_law_1592 dL_law_1593 dL_law_1595 dL_law_1596 dL_law_1597 rfl rfl hJ.2.2.2.2.2.1 rfl (by omega) (by omega) ?_
    rw [hJ.2.2.2.2.2.2.1]
    refine x_callV (As := [_]) (mc := 0) (ms := 0) (z := mX10_back) (ci := 10) dL_law_1598 lL_212 oX10_back (by decide) hT10 rfl rfl (Nat.le_of_ble_eq_true rfl) (Nat.le_of_ble_eq_true rfl) rfl (f_back0 (g := g) (J := J) (z := z) (k := 0) (n := 0) hJ.1 (hx (i + 1)) (by omega)) (fun v M1 hq => ?_)
    obtain ⟨rfl, V1, R1, fw1, fr1, σ1, rfl, hI1, hD1, hB1⟩ := LJ_c hJ hq
    refine (show X _ _ 1601 _ [.int _] _ _ _ _ from ?_)
    have hT12 := hD1.1.1
    refine x_aload_n dL_law_1601 rfl ?_
    refine y_arg 1 dL_law_1602 dL_law_1603 dL_law_1605 dL_law_1606 dL_law_1607 rfl rfl hB1.2.2.1 rfl (by omega) (by omega) ?_
    rw [hB1.2.2.2.1]
    have hk := k_back0 (g := g) (J := J) (z := z) (k := 0) (n := 0) (V := V1) hD1 (hx (i + 1)) (by omega)
    rw [pB_self (fun _ _ => rfl)] at hk
    refine x_callV (As := [_]) (mc := 0) (ms := 0) (z := mX12_back) (ci := 12) dL_law_1608 lL_215 oX12_back (by decide) hT12 rfl rfl (Nat.le_of_ble_eq_true rfl) (Nat.le_of_ble_eq_true rfl) rfl (hk) (fun v M1 hq => ?_)
    obtain ⟨rfl, V2, rfl, hJ2⟩ := LJ_d hI1 hB1 (id) (by decide) hq
    refine (show X _ _ 1611 _ [.int _, .int _] _ _ _ _ from ?_)
    refine x_icmp_eq 1710 dL_law_1611 (by decide) (fun _ => ?_) (fun q => absurd (rfl) q)
    exact hnx _ (LN_of hJ2)
theorem l_led (hJ : LJ T R V z b o r ou N xs fw fr σ f t tp h A B a m H K wr pl tr) (hx : ∀ j, R32 (xs j)) (hi : i + 6 ≤ N) (hN : N ≤ 3072) (hnx : ∀ M, LN b o r ou N xs M → X g mL_law 1710 [.ref b, .ref o, .ref r, .ref ou, .int (iI (i : Int)), jk, jk] [] M k n Q) : X g mL_law 1616 [.ref b, .ref o, .ref r, .ref ou, .int (iI (i : Int)), jk, jk] [] (T, iV V, R, J, z) (k + 1) (n + 6) Q := by
  have hT10 := hJ.1.1.1.1
  obtain ⟨Ni, Wi, hNi, hAn⟩ := LJ_an hJ
  obtain ⟨hA, hB, hR0⟩ := LJ_ok hJ
  have hou := hJ.2.2.2.2.2.2.2
  have hT12 := hJ.2.1.1.1
  have hd9 := ledV_b hJ.1 (xs (i + 1))
  have rest : ∀ (J' : Nat → Nat → Int64) (z' : Nat) (q5 : Int), z ≤ z' → (q5 = 0 ∨ q5 = 1) → (q5 = 0 → 0 ≤ ledV h A V o (xs (i + 1)) ∧ J' ou 0 = (iI (ledV h A V o (xs (i + 1)))).toInt64) → (q5 = 1 → ledV h A V o (xs (i + 1)) < 0) → X g mL_law 1627 [.ref b, .ref o, .ref r, .ref ou, .int (iI (i : Int)), jk, jk] [.int (iI q5)] (T, iV V, R, J', z') k n Q := by
    intro J' z' q5 hz h5 h50 h51
    have hJ1 : LJ T R V z' b o r ou N xs fw fr σ f t tp h A B a m H K wr pl tr := ⟨hJ.1, hJ.2.1, hJ.2.2.1, ⟨hJ.2.2.2.1.1, hJ.2.2.2.1.2.1, hJ.2.2.2.1.2.2.1, Nat.lt_of_lt_of_le hJ.2.2.2.1.2.2.2 hz⟩, fun q => ⟨(hJ.2.2.2.2.1 q).1, Nat.le_trans (hJ.2.2.2.2.1 q).2 hz⟩, hJ.2.2.2.2.2⟩
    obtain ⟨xv, hxv, hk⟩ : ∃ xv : Int, ledV h A V o (xs (i + 1)) = xv ∧ X g mX12_led 0 [.ref r, .int (iI (xs (i + 1))), jk, jk] [] (T, iV (pB V r 24 (fun j => V (r + j))), R, J', z') 0 0 (LdQ T R J' z' V r f xv t tp h A B a m H K wr pl tr) := by
      cases h
      · exact ⟨-2, rfl, k_led0 hJ.2.1⟩
      · exact ⟨_, (if_pos rfl).trans (an_led hA hB (hR0 Wi) (hAn rfl) _), k_led hJ.2.1 (hx _) hNi⟩
    rw [pB_self (fun _ _ => rfl)] at hk
    rw [hxv] at h50 h51 hd9
    refine x_istore (L' := [.ref b, .ref o, .ref r, .ref ou, .int (iI (i : Int)), .int (iI q5), jk]) dL_law_1627 (by decide) rfl rfl ?_
    refine x_aload_n dL_law_1629 rfl ?_
    refine y_arg 1 dL_law_1630 dL_law_1631 dL_law_1633 dL_law_1634 dL_law_1635 rfl rfl hJ.2.2.2.2.2.1 rfl (by omega) (by omega) ?_
    rw [hJ.2.2.2.2.2.2.1]
    refine x_callV (As := [_]) (mc := 0) (ms := 0) (z := mX12_led) (ci := 12) dL_law_1636 lL_221 oX12_led (by decide) hT12 rfl rfl (Nat.le_of_ble_eq_true rfl) (Nat.le_of_ble_eq_true rfl) rfl hk (fun v M1 hq => ?_)
    obtain ⟨E2, rfl, hD2, hv⟩ := hq
    have hcases : ∃ vi th : Int, v = some (.int (iI vi)) ∧ E2 0 0 = th ∧ (th = 0 ∨ th = 1) ∧ th = q5 ∧ (th = 0 → vi = xv) := by
      rcases hv with ⟨v1, v2, v3⟩ | ⟨v1, v2, v3⟩
      · refine ⟨xv, 0, v2, v3, Or.inl rfl, ?_, fun _ => rfl⟩
        rcases h5 with h5 | h5
        · exact h5.symm
        · have := h51 h5; omega
      · refine ⟨0, 1, v2, v3, Or.inr rfl, ?_, fun q => by cases q⟩
        rcases h5 with h5 | h5
        · have := (h50 h5).1; omega
        · exact h5.symm
    obtain ⟨vi, th, rfl, hth, hth1, rfl, hvi⟩ := hcases
    refine (show X _ _ 1639 _ [.int _] _ _ _ _ from ?_)
    refine x_istore (L' := [.ref b, .ref o, .ref r, .ref ou, .int (iI (i : Int)), .int (iI th), .int (iI vi)]) dL_law_1639 (by decide) rfl rfl ?_
    refine x_aload_n dL_law_1641 rfl ?_
    refine x_callV (As := []) (mc := 0) (ms := 0) (z := mX12_thrown) (ci := 12) dL_law_1642 lL_222 oX12_thrown (by decide) hT12 rfl rfl (Nat.le_of_ble_eq_true rfl) (Nat.le_of_ble_eq_true rfl) rfl (k_thrown hD2.1 hth) (k_I ?_)
    refine (show X _ _ 1645 _ [.int _] _ _ _ _ from ?_)
    refine x_iload dL_law_1645 rfl ?_
    refine x_icmp_eq 1652 dL_law_1647 (by decide) (fun _ => ?_) (fun q => absurd rfl q)
    obtain ⟨-, V2, hV2, hJ2⟩ := LJ_d (J := J') (v0 := none) (v := none) (M := (T, iV (pB V r 24 E2), R, J', z')) hJ1.1 hJ1.2.2.2 id hJ1.2.2.1 ⟨rfl, E2, rfl, hD2⟩
    rw [hV2]
    have hou2 := hJ2.2.2.2.2.2.2.2
    have fin : X g mL_law 1710 [.ref b, .ref o, .ref r, .ref ou, .int (iI (i : Int)), .int (iI th), .int (iI vi)] [] (T, iV V2, R, J', z') k n Q := XL_jk (hnx _ (LN_of hJ2))
    refine x_iload dL_law_1652 rfl ?_
    refine y_if_ne 1669 dL_law_1654 (by decide) ⟨by omega, by omega⟩ (fun _ => ?_) (fun q => ?_)
    · exact x_goto 1710 dL_law_1669 (by decide) fin
    refine x_aload_n dL_law_1657 rfl ?_
    refine y_iconst dL_law_1658 ?_
    refine x_lald (p := 0) (N := 1) dL_law_1659 hou2 rfl (by decide) (by decide) ?_
    refine x_iload dL_law_1660 rfl ?_
    refine x_i2l dL_law_1662 ?_
    refine x_lcmp dL_law_1663 ?_
    rw [show ((T, iV V2, R, J', z') : Mem).2.2.2.1 ou 0 = (iI vi).toInt64 from by rw [hvi q]; exact (h50 q).2, lg_cmp_self]
    refine y_if_eq 1669 dL_law_1664 (by decide) ⟨by decide, by decide⟩ (fun _ => x_goto 1710 dL_law_1669 (by decide) fin) (fun q => absurd rfl q)
  refine x_aload_n dL_law_1616 rfl ?_
  refine y_arg 1 dL_law_1617 dL_law_1618 dL_law_1620 dL_law_1621 dL_law_1622 rfl rfl hJ.2.2.2.2.2.1 rfl (by omega) (by omega) ?_
  rw [hJ.2.2.2.2.2.2.1]
  refine x_aload_n dL_law_1623 rfl ?_
  refine x_led (k := k) (n := n) hJ.1 (hx _) hou dL_law_1624 (by decide) (fun q => ?_) (fun q z9 hz9 => ?_)
  · exact rest _ z 0 (Nat.le_refl _) (Or.inl rfl) (fun _ => ⟨q, by rw [u2_s, u1_s]⟩) (fun c => by cases c)
  · exact rest J z9 1 hz9 (Or.inr rfl) (fun c => by cases c) (fun _ => q)
end LWai
