/-! ===== the law: calls, 2 ===== -/
section LWag
variable {g : GG} {T : Nat → Nat × Nat} {R : Nat → Nat → Option Nat} {V A B : Nat → Nat → Int} {J : Nat → Nat → Int64} {z k n : Nat} {o fw fr r f b ou N i : Nat} {σ : Nat → Nat} {xs t : Nat → Int} {tp : Nat} {h : Bool} {a m : Nat} {H K : Nat → Nat → Nat → Int} {wr pl tr : Int} {Q : Option Value → Mem → Prop}
theorem l_elder (hJ : LJ T R V z b o r ou N xs fw fr σ f t tp h A B a m H K wr pl tr) (hx : ∀ j, R32 (xs j)) (hi : i + 6 ≤ N) (hN : N ≤ 3072) (hnx : ∀ M, LN b o r ou N xs M → X g mL_law 1710 [.ref b, .ref o, .ref r, .ref ou, .int (iI (i : Int)), jk, jk] [] M k n Q) : X g mL_law 479 [.ref b, .ref o, .ref r, .ref ou, .int (iI (i : Int)), jk, jk] [] (T, iV V, R, J, z) k n Q := by
  have hT10 := hJ.1.1.1.1
  obtain ⟨Ni, Wi, hNi, hAn⟩ := LJ_an hJ
  obtain ⟨hA, hB, hR0⟩ := LJ_ok hJ
  refine x_aload_n dL_law_479 rfl ?_
  refine y_arg 1 dL_law_480 dL_law_481 dL_law_483 dL_law_484 dL_law_485 rfl rfl hJ.2.2.2.2.2.1 rfl (by omega) (by omega) ?_
  rw [hJ.2.2.2.2.2.2.1]
  refine x_callV (As := [_]) (mc := 0) (ms := 0) (z := mX10_elder) (ci := 10) dL_law_486 lL_50 oX10_elder (by decide) hT10 rfl rfl (Nat.le_of_ble_eq_true rfl) (Nat.le_of_ble_eq_true rfl) rfl (f_elder (g := g) (J := J) (z := z) (k := 0) (n := 0) hJ.1 (hx (i + 1))) (fun v M1 hq => ?_)
  obtain ⟨rfl, V1, R1, fw1, fr1, σ1, rfl, hI1, hD1, hB1⟩ := LJ_c hJ hq
  refine (show X _ _ 489 _ [.int _] _ _ _ _ from ?_)
  have hT12 := hD1.1.1
  refine x_aload_n dL_law_489 rfl ?_
  refine y_arg 1 dL_law_490 dL_law_491 dL_law_493 dL_law_494 dL_law_495 rfl rfl hB1.2.2.1 rfl (by omega) (by omega) ?_
  rw [hB1.2.2.2.1]
  have hk := k_elder (g := g) (J := J) (z := z) (k := 0) (n := 0) (V := V1) hD1 (hx (i + 1)) (Wi := Wi) hNi
  rw [pB_self (fun _ _ => rfl)] at hk
  refine x_callV (As := [_]) (mc := 0) (ms := 0) (z := mX12_elder) (ci := 12) dL_law_496 lL_53 oX12_elder (by decide) hT12 rfl rfl (Nat.le_of_ble_eq_true rfl) (Nat.le_of_ble_eq_true rfl) rfl (hk) (fun v M1 hq => ?_)
  obtain ⟨rfl, V2, rfl, hJ2⟩ := LJ_d hI1 hB1 (id) (by first | exact hJ.2.2.1 | exact yTr_r | exact pyTr_r | exact rTr_r | exact sTr_r | decide | (repeat' split) <;> decide) hq
  refine (show X _ _ 499 _ [.int _, .int _] _ _ _ _ from ?_)
  refine x_icmp_eq 1710 dL_law_499 (by decide) (fun _ => ?_) (fun q => absurd (congrArg iI (e_elder hAn)) q)
  exact hnx _ (LN_of hJ2)
theorem l_empty (hJ : LJ T R V z b o r ou N xs fw fr σ f t tp h A B a m H K wr pl tr) (hx : ∀ j, R32 (xs j)) (hi : i + 6 ≤ N) (hN : N ≤ 3072) (hnx : ∀ M, LN b o r ou N xs M → X g mL_law 1710 [.ref b, .ref o, .ref r, .ref ou, .int (iI (i : Int)), jk, jk] [] M k n Q) : X g mL_law 504 [.ref b, .ref o, .ref r, .ref ou, .int (iI (i : Int)), jk, jk] [] (T, iV V, R, J, z) k n Q := by
  have hT10 := hJ.1.1.1.1
  obtain ⟨Ni, Wi, hNi, hAn⟩ := LJ_an hJ
  obtain ⟨hA, hB, hR0⟩ := LJ_ok hJ
  refine x_aload_n dL_law_504 rfl ?_
  refine y_arg 1 dL_law_505 dL_law_506 dL_law_508 dL_law_509 dL_law_510 rfl rfl hJ.2.2.2.2.2.1 rfl (by omega) (by omega) ?_
  rw [hJ.2.2.2.2.2.2.1]
  refine x_callV (As := [_]) (mc := 0) (ms := 0) (z := mX10_empty) (ci := 10) dL_law_511 lL_54 oX10_empty (by decide) hT10 rfl rfl (Nat.le_of_ble_eq_true rfl) (Nat.le_of_ble_eq_true rfl) rfl (f_empty (g := g) (J := J) (z := z) (k := 0) (n := 0) hJ.1 (hx (i + 1))) (fun v M1 hq => ?_)
  obtain ⟨rfl, V1, R1, fw1, fr1, σ1, rfl, hI1, hD1, hB1⟩ := LJ_c hJ hq
  refine (show X _ _ 514 _ [.int _] _ _ _ _ from ?_)
  have hT12 := hD1.1.1
  refine x_aload_n dL_law_514 rfl ?_
  refine y_arg 1 dL_law_515 dL_law_516 dL_law_518 dL_law_519 dL_law_520 rfl rfl hB1.2.2.1 rfl (by omega) (by omega) ?_
  rw [hB1.2.2.2.1]
  have hk := k_empty (g := g) (J := J) (z := z) (k := 0) (n := 0) (V := V1) hD1 (hx (i + 1)) (Wi := Wi) hNi
  rw [pB_self (fun _ _ => rfl)] at hk
  refine x_callV (As := [_]) (mc := 0) (ms := 0) (z := mX12_empty) (ci := 12) dL_law_521 lL_57 oX12_empty (by decide) hT12 rfl rfl (Nat.le_of_ble_eq_true rfl) (Nat.le_of_ble_eq_true rfl) rfl (hk) (fun v M1 hq => ?_)
  obtain ⟨rfl, V2, rfl, hJ2⟩ := LJ_d hI1 hB1 (id) (by first | exact hJ.2.2.1 | exact yTr_r | exact pyTr_r | exact rTr_r | exact sTr_r | decide | (repeat' split) <;> decide) hq
  refine (show X _ _ 524 _ [.int _, .int _] _ _ _ _ from ?_)
  refine x_icmp_eq 1710 dL_law_524 (by decide) (fun _ => ?_) (fun q => absurd (congrArg iI (e_empty hAn)) q)
  exact hnx _ (LN_of hJ2)
theorem l_there (hJ : LJ T R V z b o r ou N xs fw fr σ f t tp h A B a m H K wr pl tr) (hx : ∀ j, R32 (xs j)) (hi : i + 6 ≤ N) (hN : N ≤ 3072) (hnx : ∀ M, LN b o r ou N xs M → X g mL_law 1710 [.ref b, .ref o, .ref r, .ref ou, .int (iI (i : Int)), jk, jk] [] M k n Q) : X g mL_law 529 [.ref b, .ref o, .ref r, .ref ou, .int (iI (i : Int)), jk, jk] [] (T, iV V, R, J, z) k n Q := by
  have hT10 := hJ.1.1.1.1
  obtain ⟨Ni, Wi, hNi, hAn⟩ := LJ_an hJ
  obtain ⟨hA, hB, hR0⟩ := LJ_ok hJ
  refine x_aload_n dL_law_529 rfl ?_
  refine y_arg 1 dL_law_530 dL_law_531 dL_law_533 dL_law_534 dL_law_535 rfl rfl hJ.2.2.2.2.2.1 rfl (by omega) (by omega) ?_
  rw [hJ.2.2.2.2.2.2.1]
  refine x_callV (As := [_]) (mc := 0) (ms := 0) (z := mX10_there) (ci := 10) dL_law_536 lL_58 oX10_there (by decide) hT10 rfl rfl (Nat.le_of_ble_eq_true rfl) (Nat.le_of_ble_eq_true rfl) rfl (f_there (g := g) (J := J) (z := z) (k := 0) (n := 0) hJ.1 (hx (i + 1))) (fun v M1 hq => ?_)
  obtain ⟨rfl, V1, R1, fw1, fr1, σ1, rfl, hI1, hD1, hB1⟩ := LJ_c hJ hq
  refine (show X _ _ 539 _ [.int _] _ _ _ _ from ?_)
  have hT12 := hD1.1.1
  refine x_aload_n dL_law_539 rfl ?_
  refine y_arg 1 dL_law_540 dL_law_541 dL_law_543 dL_law_544 dL_law_545 rfl rfl hB1.2.2.1 rfl (by omega) (by omega) ?_
  rw [hB1.2.2.2.1]
  have hk := k_there (g := g) (J := J) (z := z) (k := 0) (n := 0) (V := V1) hD1 (hx (i + 1)) (Wi := Wi) hNi
  rw [pB_self (fun _ _ => rfl)] at hk
  refine x_callV (As := [_]) (mc := 0) (ms := 0) (z := mX12_there) (ci := 12) dL_law_546 lL_61 oX12_there (by decide) hT12 rfl rfl (Nat.le_of_ble_eq_true rfl) (Nat.le_of_ble_eq_true rfl) rfl (hk) (fun v M1 hq => ?_)
  obtain ⟨rfl, V2, rfl, hJ2⟩ := LJ_d hI1 hB1 (id) (by first | exact hJ.2.2.1 | exact yTr_r | exact pyTr_r | exact rTr_r | exact sTr_r | decide | (repeat' split) <;> decide) hq
  refine (show X _ _ 549 _ [.int _, .int _] _ _ _ _ from ?_)
  refine x_icmp_eq 1710 dL_law_549 (by decide) (fun _ => ?_) (fun q => absurd (congrArg iI (e_there hAn)) q)
  exact hnx _ (LN_of hJ2)
theorem l_can (hJ : LJ T R V z b o r ou N xs fw fr σ f t tp h A B a m H K wr pl tr) (hx : ∀ j, R32 (xs j)) (hi : i + 6 ≤ N) (hN : N ≤ 3072) (hnx : ∀ M, LN b o r ou N xs M → X g mL_law 1710 [.ref b, .ref o, .ref r, .ref ou, .int (iI (i : Int)), jk, jk] [] M k n Q) : X g mL_law 554 [.ref b, .ref o, .ref r, .ref ou, .int (iI (i : Int)), jk, jk] [] (T, iV V, R, J, z) k n Q := by
  have hT10 := hJ.1.1.1.1
  obtain ⟨Ni, Wi, hNi, hAn⟩ := LJ_an hJ
  obtain ⟨hA, hB, hR0⟩ := LJ_ok hJ
  refine x_aload_n dL_law_554 rfl ?_
  refine y_arg 1 dL_law_555 dL_law_556 dL_law_558 dL_law_559 dL_law_560 rfl rfl hJ.2.2.2.2.2.1 rfl (by omega) (by omega) ?_
  rw [hJ.2.2.2.2.2.2.1]
  refine x_callV (As := [_]) (mc := 0) (ms := 0) (z := mX10_can) (ci := 10) dL_law_561 lL_62 oX10_can (by decide) hT10 rfl rfl (Nat.le_of_ble_eq_true rfl) (Nat.le_of_ble_eq_true rfl) rfl (f_can (g := g) (J := J) (z := z) (k := 0) (n := 0) hJ.1 (hx (i + 1))) (fun v M1 hq => ?_)
  obtain ⟨rfl, V1, R1, fw1, fr1, σ1, rfl, hI1, hD1, hB1⟩ := LJ_c hJ hq
  refine (show X _ _ 564 _ [.int _] _ _ _ _ from ?_)
  have hT12 := hD1.1.1
  refine x_aload_n dL_law_564 rfl ?_
  refine y_arg 1 dL_law_565 dL_law_566 dL_law_568 dL_law_569 dL_law_570 rfl rfl hB1.2.2.1 rfl (by omega) (by omega) ?_
  rw [hB1.2.2.2.1]
  have hk := k_can (g := g) (J := J) (z := z) (k := 0) (n := 0) (V := V1) hD1 (hx (i + 1)) (Wi := Wi) hNi
  rw [pB_self (fun _ _ => rfl)] at hk
  refine x_callV (As := [_]) (mc := 0) (ms := 0) (z := mX12_can) (ci := 12) dL_law_571 lL_65 oX12_can (by decide) hT12 rfl rfl (Nat.le_of_ble_eq_true rfl) (Nat.le_of_ble_eq_true rfl) rfl (hk) (fun v M1 hq => ?_)
  obtain ⟨rfl, V2, rfl, hJ2⟩ := LJ_d hI1 hB1 (id) (by first | exact hJ.2.2.1 | exact yTr_r | exact pyTr_r | exact rTr_r | exact sTr_r | decide | (repeat' split) <;> decide) hq
  refine (show X _ _ 574 _ [.int _, .int _] _ _ _ _ from ?_)
  refine x_icmp_eq 1710 dL_law_574 (by decide) (fun _ => ?_) (fun q => absurd (congrArg iI (e_can hAn)) q)
  exact hnx _ (LN_of hJ2)
theorem l_turnsOf (hJ : LJ T R V z b o r ou N xs fw fr σ f t tp h A B a m H K wr pl tr) (hx : ∀ j, R32 (xs j)) (hi : i + 6 ≤ N) (hN : N ≤ 3072) (hnx : ∀ M, LN b o r ou N xs M → X g mL_law 1710 [.ref b, .ref o, .ref r, .ref ou, .int (iI (i : Int)), jk, jk] [] M k n Q) : X g mL_law 616 [.ref b, .ref o, .ref r, .ref ou, .int (iI (i : Int)), jk, jk] [] (T, iV V, R, J, z) k n Q := by
  have hT10 := hJ.1.1.1.1
  obtain ⟨Ni, Wi, hNi, hAn⟩ := LJ_an hJ
  obtain ⟨hA, hB, hR0⟩ := LJ_ok hJ
  refine x_aload_n dL_law_616 rfl ?_
  refine y_arg 1 dL_law_617 dL_law_618 dL_law_620 dL_law_621 dL_law_622 rfl rfl hJ.2.2.2.2.2.1 rfl (by omega) (by omega) ?_
  rw [hJ.2.2.2.2.2.2.1]
  refine y_arg 2 dL_law_623 dL_law_624 dL_law_626 dL_law_627 dL_law_628 rfl rfl hJ.2.2.2.2.2.1 rfl (by omega) (by omega) ?_
  rw [hJ.2.2.2.2.2.2.1]
  refine x_callV (As := [_, _]) (mc := 0) (ms := 0) (z := mX10_turnsOf) (ci := 10) dL_law_629 lL_70 oX10_turnsOf (by decide) hT10 rfl rfl (Nat.le_of_ble_eq_true rfl) (Nat.le_of_ble_eq_true rfl) rfl (f_turnsOf (g := g) (J := J) (z := z) (k := 0) (n := 0) hJ.1 (hx (i + 1)) (hx (i + 2))) (fun v M1 hq => ?_)
  obtain ⟨rfl, V1, R1, fw1, fr1, σ1, rfl, hI1, hD1, hB1⟩ := LJ_c hJ hq
  refine (show X _ _ 632 _ [.int _] _ _ _ _ from ?_)
  have hT12 := hD1.1.1
  refine x_aload_n dL_law_632 rfl ?_
  refine y_arg 1 dL_law_633 dL_law_634 dL_law_636 dL_law_637 dL_law_638 rfl rfl hB1.2.2.1 rfl (by omega) (by omega) ?_
  rw [hB1.2.2.2.1]
  refine y_arg 2 dL_law_639 dL_law_640 dL_law_642 dL_law_643 dL_law_644 rfl rfl hB1.2.2.1 rfl (by omega) (by omega) ?_
  rw [hB1.2.2.2.1]
  have hk := k_turnsOf (g := g) (J := J) (z := z) (k := 0) (n := 0) (V := V1) hD1 (hx (i + 1)) (hx (i + 2)) (Wi := Wi) hNi
  rw [pB_self (fun _ _ => rfl)] at hk
  refine x_callV (As := [_, _]) (mc := 0) (ms := 0) (z := mX12_turnsOf) (ci := 12) dL_law_645 lL_73 oX12_turnsOf (by decide) hT12 rfl rfl (Nat.le_of_ble_eq_true rfl) (Nat.le_of_ble_eq_true rfl) rfl (hk) (fun v M1 hq => ?_)
  obtain ⟨rfl, V2, rfl, hJ2⟩ := LJ_d hI1 hB1 (id) (by first | exact hJ.2.2.1 | exact yTr_r | exact pyTr_r | exact rTr_r | exact sTr_r | decide | (repeat' split) <;> decide) hq
  refine (show X _ _ 648 _ [.int _, .int _] _ _ _ _ from ?_)
  refine x_icmp_eq 1710 dL_law_648 (by decide) (fun _ => ?_) (fun q => absurd (congrArg iI (e_turnsOf hA hB (hR0 Wi) hAn)) q)
  exact hnx _ (LN_of hJ2)
theorem l_strength (hJ : LJ T R V z b o r ou N xs fw fr σ f t tp h A B a m H K wr pl tr) (hx : ∀ j, R32 (xs j)) (hi : i + 6 ≤ N) (hN : N ≤ 3072) (hnx : ∀ M, LN b o r ou N xs M → X g mL_law 1710 [.ref b, .ref o, .ref r, .ref ou, .int (iI (i : Int)), jk, jk] [] M k n Q) : X g mL_law 653 [.ref b, .ref o, .ref r, .ref ou, .int (iI (i : Int)), jk, jk] [] (T, iV V, R, J, z) k n Q := by
  have hT10 := hJ.1.1.1.1
  obtain ⟨Ni, Wi, hNi, hAn⟩ := LJ_an hJ
  obtain ⟨hA, hB, hR0⟩ := LJ_ok hJ
  refine x_aload_n dL_law_653 rfl ?_
  refine y_arg 1 dL_law_654 dL_law_655 dL_law_657 dL_law_658 dL_law_659 rfl rfl hJ.2.2.2.2.2.1 rfl (by omega) (by omega) ?_
  rw [hJ.2.2.2.2.2.2.1]
  refine y_arg 2 dL_law_660 dL_law_661 dL_law_663 dL_law_664 dL_law_665 rfl rfl hJ.2.2.2.2.2.1 rfl (by omega) (by omega) ?_
  rw [hJ.2.2.2.2.2.2.1]
  refine x_callV (As := [_, _]) (mc := 0) (ms := 0) (z := mX10_strength) (ci := 10) dL_law_666 lL_74 oX10_strength (by decide) hT10 rfl rfl (Nat.le_of_ble_eq_true rfl) (Nat.le_of_ble_eq_true rfl) rfl (f_strength (g := g) (J := J) (z := z) (k := 0) (n := 0) hJ.1 (hx (i + 1)) (hx (i + 2))) (fun v M1 hq => ?_)
  obtain ⟨rfl, V1, R1, fw1, fr1, σ1, rfl, hI1, hD1, hB1⟩ := LJ_c hJ hq
  refine (show X _ _ 669 _ [.int _] _ _ _ _ from ?_)
  have hT12 := hD1.1.1
  refine x_aload_n dL_law_669 rfl ?_
  refine y_arg 1 dL_law_670 dL_law_671 dL_law_673 dL_law_674 dL_law_675 rfl rfl hB1.2.2.1 rfl (by omega) (by omega) ?_
  rw [hB1.2.2.2.1]
  refine y_arg 2 dL_law_676 dL_law_677 dL_law_679 dL_law_680 dL_law_681 rfl rfl hB1.2.2.1 rfl (by omega) (by omega) ?_
  rw [hB1.2.2.2.1]
  have hk := k_strength (g := g) (J := J) (z := z) (k := 0) (n := 0) (V := V1) hD1 (hx (i + 1)) (hx (i + 2)) (Wi := Wi) hNi
  rw [pB_self (fun _ _ => rfl)] at hk
  refine x_callV (As := [_, _]) (mc := 0) (ms := 0) (z := mX12_strength) (ci := 12) dL_law_682 lL_77 oX12_strength (by decide) hT12 rfl rfl (Nat.le_of_ble_eq_true rfl) (Nat.le_of_ble_eq_true rfl) rfl (hk) (fun v M1 hq => ?_)
  obtain ⟨rfl, V2, rfl, hJ2⟩ := LJ_d hI1 hB1 (id) (by first | exact hJ.2.2.1 | exact yTr_r | exact pyTr_r | exact rTr_r | exact sTr_r | decide | (repeat' split) <;> decide) hq
  refine (show X _ _ 685 _ [.int _, .int _] _ _ _ _ from ?_)
  refine x_icmp_eq 1710 dL_law_685 (by decide) (fun _ => ?_) (fun q => absurd (congrArg iI (e_strength hA hB (hR0 Wi) hAn)) q)
  exact hnx _ (LN_of hJ2)
theorem l_knows (hJ : LJ T R V z b o r ou N xs fw fr σ f t tp h A B a m H K wr pl tr) (hx : ∀ j, R32 (xs j)) (hi : i + 6 ≤ N) (hN : N ≤ 3072) (hnx : ∀ M, LN b o r ou N xs M → X g mL_law 1710 [.ref b, .ref o, .ref r, .ref ou, .int (iI (i : Int)), jk, jk] [] M k n Q) : X g mL_law 690 [.ref b, .ref o, .ref r, .ref ou, .int (iI (i : Int)), jk, jk] [] (T, iV V, R, J, z) k n Q := by
  have hT10 := hJ.1.1.1.1
  obtain ⟨Ni, Wi, hNi, hAn⟩ := LJ_an hJ
  obtain ⟨hA, hB, hR0⟩ := LJ_ok hJ
  refine x_aload_n dL_law_690 rfl ?_
  refine y_arg 1 dL_law_691 dL_law_692 dL_law_694 dL_law_695 dL_law_696 rfl rfl hJ.2.2.2.2.2.1 rfl (by omega) (by omega) ?_
  rw [hJ.2.2.2.2.2.2.1]
  refine y_arg 2 dL_law_697 dL_law_698 dL_law_700 dL_law_701 dL_law_702 rfl rfl hJ.2.2.2.2.2.1 rfl (by omega) (by omega) ?_
  rw [hJ.2.2.2.2.2.2.1]
  refine x_callV (As := [_, _]) (mc := 0) (ms := 0) (z := mX10_knows) (ci := 10) dL_law_703 lL_78 oX10_knows (by decide) hT10 rfl rfl (Nat.le_of_ble_eq_true rfl) (Nat.le_of_ble_eq_true rfl) rfl (f_knows (g := g) (J := J) (z := z) (k := 0) (n := 0) hJ.1 (hx (i + 1)) (hx (i + 2))) (fun v M1 hq => ?_)
  obtain ⟨rfl, V1, R1, fw1, fr1, σ1, rfl, hI1, hD1, hB1⟩ := LJ_c hJ hq
  refine (show X _ _ 706 _ [.int _] _ _ _ _ from ?_)
  have hT12 := hD1.1.1
  refine x_aload_n dL_law_706 rfl ?_
  refine y_arg 1 dL_law_707 dL_law_708 dL_law_710 dL_law_711 dL_law_712 rfl rfl hB1.2.2.1 rfl (by omega) (by omega) ?_
  rw [hB1.2.2.2.1]
  refine y_arg 2 dL_law_713 dL_law_714 dL_law_716 dL_law_717 dL_law_718 rfl rfl hB1.2.2.1 rfl (by omega) (by omega) ?_
  rw [hB1.2.2.2.1]
  have hk := k_knows (g := g) (J := J) (z := z) (k := 0) (n := 0) (V := V1) hD1 (hx (i + 1)) (hx (i + 2)) (Wi := Wi) hNi
  rw [pB_self (fun _ _ => rfl)] at hk
  refine x_callV (As := [_, _]) (mc := 0) (ms := 0) (z := mX12_knows) (ci := 12) dL_law_719 lL_81 oX12_knows (by decide) hT12 rfl rfl (Nat.le_of_ble_eq_true rfl) (Nat.le_of_ble_eq_true rfl) rfl (hk) (fun v M1 hq => ?_)
  obtain ⟨rfl, V2, rfl, hJ2⟩ := LJ_d hI1 hB1 (id) (by first | exact hJ.2.2.1 | exact yTr_r | exact pyTr_r | exact rTr_r | exact sTr_r | decide | (repeat' split) <;> decide) hq
  refine (show X _ _ 722 _ [.int _, .int _] _ _ _ _ from ?_)
  refine x_icmp_eq 1710 dL_law_722 (by decide) (fun _ => ?_) (fun q => absurd (congrArg iI (e_knows hA hAn)) q)
  exact hnx _ (LN_of hJ2)
theorem l_box (hJ : LJ T R V z b o r ou N xs fw fr σ f t tp h A B a m H K wr pl tr) (hx : ∀ j, R32 (xs j)) (hi : i + 6 ≤ N) (hN : N ≤ 3072) (hnx : ∀ M, LN b o r ou N xs M → X g mL_law 1710 [.ref b, .ref o, .ref r, .ref ou, .int (iI (i : Int)), jk, jk] [] M k n Q) : X g mL_law 727 [.ref b, .ref o, .ref r, .ref ou, .int (iI (i : Int)), jk, jk] [] (T, iV V, R, J, z) k n Q := by
  have hT10 := hJ.1.1.1.1
  obtain ⟨Ni, Wi, hNi, hAn⟩ := LJ_an hJ
  obtain ⟨hA, hB, hR0⟩ := LJ_ok hJ
  refine x_aload_n dL_law_727 rfl ?_
  refine y_arg 1 dL_law_728 dL_law_729 dL_law_731 dL_law_732 dL_law_733 rfl rfl hJ.2.2.2.2.2.1 rfl (by omega) (by omega) ?_
  rw [hJ.2.2.2.2.2.2.1]
  refine x_callV (As := [_]) (mc := 0) (ms := 0) (z := mX10_box) (ci := 10) dL_law_734 lL_82 oX10_box (by decide) hT10 rfl rfl (Nat.le_of_ble_eq_true rfl) (Nat.le_of_ble_eq_true rfl) rfl (f_box (g := g) (J := J) (z := z) (k := 0) (n := 0) hJ.1 (hx (i + 1))) (fun v M1 hq => ?_)
  obtain ⟨rfl, V1, R1, fw1, fr1, σ1, rfl, hI1, hD1, hB1⟩ := LJ_c hJ hq
  refine (show X _ _ 737 _ [.int _] _ _ _ _ from ?_)
  have hT12 := hD1.1.1
  refine x_aload_n dL_law_737 rfl ?_
  refine y_arg 1 dL_law_738 dL_law_739 dL_law_741 dL_law_742 dL_law_743 rfl rfl hB1.2.2.1 rfl (by omega) (by omega) ?_
  rw [hB1.2.2.2.1]
  have hk := k_box (g := g) (J := J) (z := z) (k := 0) (n := 0) (V := V1) hD1 (hx (i + 1)) (Wi := Wi) hNi
  rw [pB_self (fun _ _ => rfl)] at hk
  refine x_callV (As := [_]) (mc := 0) (ms := 0) (z := mX12_box) (ci := 12) dL_law_744 lL_85 oX12_box (by decide) hT12 rfl rfl (Nat.le_of_ble_eq_true rfl) (Nat.le_of_ble_eq_true rfl) rfl (hk) (fun v M1 hq => ?_)
  obtain ⟨rfl, V2, rfl, hJ2⟩ := LJ_d hI1 hB1 (id) (by first | exact hJ.2.2.1 | exact yTr_r | exact pyTr_r | exact rTr_r | exact sTr_r | decide | (repeat' split) <;> decide) hq
  refine (show X _ _ 747 _ [.int _, .int _] _ _ _ _ from ?_)
  refine x_icmp_eq 1710 dL_law_747 (by decide) (fun _ => ?_) (fun q => absurd (congrArg iI (e_box hAn)) q)
  exact hnx _ (LN_of hJ2)
theorem l_kept (hJ : LJ T R V z b o r ou N xs fw fr σ f t tp h A B a m H K wr pl tr) (hx : ∀ j, R32 (xs j)) (hi : i + 6 ≤ N) (hN : N ≤ 3072) (hnx : ∀ M, LN b o r ou N xs M → X g mL_law 1710 [.ref b, .ref o, .ref r, .ref ou, .int (iI (i : Int)), jk, jk] [] M k n Q) : X g mL_law 752 [.ref b, .ref o, .ref r, .ref ou, .int (iI (i : Int)), jk, jk] [] (T, iV V, R, J, z) k n Q := by
  have hT10 := hJ.1.1.1.1
  obtain ⟨Ni, Wi, hNi, hAn⟩ := LJ_an hJ
  obtain ⟨hA, hB, hR0⟩ := LJ_ok hJ
  refine x_aload_n dL_law_752 rfl ?_
  refine y_arg 1 dL_law_753 dL_law_754 dL_law_756 dL_law_757 dL_law_758 rfl rfl hJ.2.2.2.2.2.1 rfl (by omega) (by omega) ?_
  rw [hJ.2.2.2.2.2.2.1]
  refine y_arg 2 dL_law_759 dL_law_760 dL_law_762 dL_law_763 dL_law_764 rfl rfl hJ.2.2.2.2.2.1 rfl (by omega) (by omega) ?_
  rw [hJ.2.2.2.2.2.2.1]
  refine x_callV (As := [_, _]) (mc := 0) (ms := 0) (z := mX10_kept) (ci := 10) dL_law_765 lL_86 oX10_kept (by decide) hT10 rfl rfl (Nat.le_of_ble_eq_true rfl) (Nat.le_of_ble_eq_true rfl) rfl (f_kept (g := g) (J := J) (z := z) (k := 0) (n := 0) hJ.1 (hx (i + 1)) (hx (i + 2))) (fun v M1 hq => ?_)
  obtain ⟨rfl, V1, R1, fw1, fr1, σ1, rfl, hI1, hD1, hB1⟩ := LJ_c hJ hq
  refine (show X _ _ 768 _ [.int _] _ _ _ _ from ?_)
  have hT12 := hD1.1.1
  refine x_aload_n dL_law_768 rfl ?_
  refine y_arg 1 dL_law_769 dL_law_770 dL_law_772 dL_law_773 dL_law_774 rfl rfl hB1.2.2.1 rfl (by omega) (by omega) ?_
  rw [hB1.2.2.2.1]
  refine y_arg 2 dL_law_775 dL_law_776 dL_law_778 dL_law_779 dL_law_780 rfl rfl hB1.2.2.1 rfl (by omega) (by omega) ?_
  rw [hB1.2.2.2.1]
  have hk := k_kept (g := g) (J := J) (z := z) (k := 0) (n := 0) (V := V1) hD1 (hx (i + 1)) (hx (i + 2)) (Wi := Wi) hNi
  rw [pB_self (fun _ _ => rfl)] at hk
  refine x_callV (As := [_, _]) (mc := 0) (ms := 0) (z := mX12_kept) (ci := 12) dL_law_781 lL_89 oX12_kept (by decide) hT12 rfl rfl (Nat.le_of_ble_eq_true rfl) (Nat.le_of_ble_eq_true rfl) rfl (hk) (fun v M1 hq => ?_)
  obtain ⟨rfl, V2, rfl, hJ2⟩ := LJ_d hI1 hB1 (id) (by first | exact hJ.2.2.1 | exact yTr_r | exact pyTr_r | exact rTr_r | exact sTr_r | decide | (repeat' split) <;> decide) hq
  refine (show X _ _ 784 _ [.int _, .int _] _ _ _ _ from ?_)
  refine x_icmp_eq 1710 dL_law_784 (by decide) (fun _ => ?_) (fun q => absurd (congrArg iI (e_kept hA hAn)) q)
  exact hnx _ (LN_of hJ2)
theorem l_harm (hJ : LJ T R V z b o r ou N xs fw fr σ f t tp h A B a m H K wr pl tr) (hx : ∀ j, R32 (xs j)) (hi : i + 6 ≤ N) (hN : N ≤ 3072) (hnx : ∀ M, LN b o r ou N xs M → X g mL_law 1710 [.ref b, .ref o, .ref r, .ref ou, .int (iI (i : Int)), jk, jk] [] M k n Q) : X g mL_law 789 [.ref b, .ref o, .ref r, .ref ou, .int (iI (i : Int)), jk, jk] [] (T, iV V, R, J, z) k n Q := by
  have hT10 := hJ.1.1.1.1
  obtain ⟨Ni, Wi, hNi, hAn⟩ := LJ_an hJ
  obtain ⟨hA, hB, hR0⟩ := LJ_ok hJ
  refine x_aload_n dL_law_789 rfl ?_
  refine y_arg 1 dL_law_790 dL_law_791 dL_law_793 dL_law_794 dL_law_795 rfl rfl hJ.2.2.2.2.2.1 rfl (by omega) (by omega) ?_
  rw [hJ.2.2.2.2.2.2.1]
  refine x_callV (As := [_]) (mc := 0) (ms := 0) (z := mX10_harm) (ci := 10) dL_law_796 lL_90 oX10_harm (by decide) hT10 rfl rfl (Nat.le_of_ble_eq_true rfl) (Nat.le_of_ble_eq_true rfl) rfl (f_harm (g := g) (J := J) (z := z) (k := 0) (n := 0) hJ.1 (hx (i + 1))) (fun v M1 hq => ?_)
  obtain ⟨rfl, V1, R1, fw1, fr1, σ1, rfl, hI1, hD1, hB1⟩ := LJ_c hJ hq
  refine (show X _ _ 799 _ [.int _] _ _ _ _ from ?_)
  have hT12 := hD1.1.1
  refine x_aload_n dL_law_799 rfl ?_
  refine y_arg 1 dL_law_800 dL_law_801 dL_law_803 dL_law_804 dL_law_805 rfl rfl hB1.2.2.1 rfl (by omega) (by omega) ?_
  rw [hB1.2.2.2.1]
  have hk := k_harm (g := g) (J := J) (z := z) (k := 0) (n := 0) (V := V1) hD1 (hx (i + 1)) (Wi := Wi) hNi
  rw [pB_self (fun _ _ => rfl)] at hk
  refine x_callV (As := [_]) (mc := 0) (ms := 0) (z := mX12_harm) (ci := 12) dL_law_806 lL_93 oX12_harm (by decide) hT12 rfl rfl (Nat.le_of_ble_eq_true rfl) (Nat.le_of_ble_eq_true rfl) rfl (hk) (fun v M1 hq => ?_)
  obtain ⟨rfl, V2, rfl, hJ2⟩ := LJ_d hI1 hB1 (id) (by first | exact hJ.2.2.1 | exact yTr_r | exact pyTr_r | exact rTr_r | exact sTr_r | decide | (repeat' split) <;> decide) hq
  refine (show X _ _ 809 _ [.int _, .int _] _ _ _ _ from ?_)
  refine x_icmp_eq 1710 dL_law_809 (by decide) (fun _ => ?_) (fun q => absurd (congrArg iI (e_harm hAn)) q)
  exact hnx _ (LN_of hJ2)
theorem l_harmAll (hJ : LJ T R V z b o r ou N xs fw fr σ f t tp h A B a m H K wr pl tr) (hx : ∀ j, R32 (xs j)) (hi : i + 6 ≤ N) (hN : N ≤ 3072) (hnx : ∀ M, LN b o r ou N xs M → X g mL_law 1710 [.ref b, .ref o, .ref r, .ref ou, .int (iI (i : Int)), jk, jk] [] M k n Q) : X g mL_law 814 [.ref b, .ref o, .ref r, .ref ou, .int (iI (i : Int)), jk, jk] [] (T, iV V, R, J, z) k n Q := by
  have hT10 := hJ.1.1.1.1
  obtain ⟨Ni, Wi, hNi, hAn⟩ := LJ_an hJ
  obtain ⟨hA, hB, hR0⟩ := LJ_ok hJ
  refine x_aload_n dL_law_814 rfl ?_
  refine x_callV (As := []) (mc := 0) (ms := 0) (z := mX10_harmAll) (ci := 10) dL_law_815 lL_94 oX10_harmAll (by decide) hT10 rfl rfl (Nat.le_of_ble_eq_true rfl) (Nat.le_of_ble_eq_true rfl) rfl (f_harmAll (g := g) (J := J) (z := z) (k := 0) (n := 0) hJ.1) (fun v M1 hq => ?_)
  obtain ⟨rfl, V1, R1, fw1, fr1, σ1, rfl, hI1, hD1, hB1⟩ := LJ_c hJ hq
  refine (show X _ _ 818 _ [.int _] _ _ _ _ from ?_)
  have hT12 := hD1.1.1
  refine x_aload_n dL_law_818 rfl ?_
  have hk := k_harmAll (g := g) (J := J) (z := z) (k := 0) (n := 0) (V := V1) hD1  (Wi := Wi) hNi
  rw [pB_self (fun _ _ => rfl)] at hk
  refine x_callV (As := []) (mc := 0) (ms := 0) (z := mX12_harmAll) (ci := 12) dL_law_819 lL_97 oX12_harmAll (by decide) hT12 rfl rfl (Nat.le_of_ble_eq_true rfl) (Nat.le_of_ble_eq_true rfl) rfl (hk) (fun v M1 hq => ?_)
  obtain ⟨rfl, V2, rfl, hJ2⟩ := LJ_d hI1 hB1 (id) (by first | exact hJ.2.2.1 | exact yTr_r | exact pyTr_r | exact rTr_r | exact sTr_r | decide | (repeat' split) <;> decide) hq
  refine (show X _ _ 822 _ [.int _, .int _] _ _ _ _ from ?_)
  refine x_icmp_eq 1710 dL_law_822 (by decide) (fun _ => ?_) (fun q => absurd (congrArg iI (e_harmAll hAn)) q)
  exact hnx _ (LN_of hJ2)
theorem l_harmOf (hJ : LJ T R V z b o r ou N xs fw fr σ f t tp h A B a m H K wr pl tr) (hx : ∀ j, R32 (xs j)) (hi : i + 6 ≤ N) (hN : N ≤ 3072) (hnx : ∀ M, LN b o r ou N xs M → X g mL_law 1710 [.ref b, .ref o, .ref r, .ref ou, .int (iI (i : Int)), jk, jk] [] M k n Q) : X g mL_law 827 [.ref b, .ref o, .ref r, .ref ou, .int (iI (i : Int)), jk, jk] [] (T, iV V, R, J, z) k n Q := by
  have hT10 := hJ.1.1.1.1
  obtain ⟨Ni, Wi, hNi, hAn⟩ := LJ_an hJ
  obtain ⟨hA, hB, hR0⟩ := LJ_ok hJ
  refine x_aload_n dL_law_827 rfl ?_
  refine y_arg 1 dL_law_828 dL_law_829 dL_law_831 dL_law_832 dL_law_833 rfl rfl hJ.2.2.2.2.2.1 rfl (by omega) (by omega) ?_
  rw [hJ.2.2.2.2.2.2.1]
  refine x_callV (As := [_]) (mc := 0) (ms := 0) (z := mX10_harmOf) (ci := 10) dL_law_834 lL_98 oX10_harmOf (by decide) hT10 rfl rfl (Nat.le_of_ble_eq_true rfl) (Nat.le_of_ble_eq_true rfl) rfl (f_harmOf (g := g) (J := J) (z := z) (k := 0) (n := 0) hJ.1 (hx (i + 1))) (fun v M1 hq => ?_)
  obtain ⟨rfl, V1, R1, fw1, fr1, σ1, rfl, hI1, hD1, hB1⟩ := LJ_c hJ hq
  refine (show X _ _ 837 _ [.int _] _ _ _ _ from ?_)
  have hT12 := hD1.1.1
  refine x_aload_n dL_law_837 rfl ?_
  refine y_arg 1 dL_law_838 dL_law_839 dL_law_841 dL_law_842 dL_law_843 rfl rfl hB1.2.2.1 rfl (by omega) (by omega) ?_
  rw [hB1.2.2.2.1]
  have hk := k_harmOf (g := g) (J := J) (z := z) (k := 0) (n := 0) (V := V1) hD1 (hx (i + 1)) (Wi := Wi) hNi
  rw [pB_self (fun _ _ => rfl)] at hk
  refine x_callV (As := [_]) (mc := 0) (ms := 0) (z := mX12_harmOf) (ci := 12) dL_law_844 lL_101 oX12_harmOf (by decide) hT12 rfl rfl (Nat.le_of_ble_eq_true rfl) (Nat.le_of_ble_eq_true rfl) rfl (hk) (fun v M1 hq => ?_)
  obtain ⟨rfl, V2, rfl, hJ2⟩ := LJ_d hI1 hB1 (id) (by first | exact hJ.2.2.1 | exact yTr_r | exact pyTr_r | exact rTr_r | exact sTr_r | decide | (repeat' split) <;> decide) hq
  refine (show X _ _ 847 _ [.int _, .int _] _ _ _ _ from ?_)
  refine x_icmp_eq 1710 dL_law_847 (by decide) (fun _ => ?_) (fun q => absurd (congrArg iI (e_harmOf hA hB (hR0 Wi) hAn)) q)
  exact hnx _ (LN_of hJ2)
theorem l_purse (hJ : LJ T R V z b o r ou N xs fw fr σ f t tp h A B a m H K wr pl tr) (hx : ∀ j, R32 (xs j)) (hi : i + 6 ≤ N) (hN : N ≤ 3072) (hnx : ∀ M, LN b o r ou N xs M → X g mL_law 1710 [.ref b, .ref o, .ref r, .ref ou, .int (iI (i : Int)), jk, jk] [] M k n Q) : X g mL_law 852 [.ref b, .ref o, .ref r, .ref ou, .int (iI (i : Int)), jk, jk] [] (T, iV V, R, J, z) k n Q := by
  have hT10 := hJ.1.1.1.1
  obtain ⟨Ni, Wi, hNi, hAn⟩ := LJ_an hJ
  obtain ⟨hA, hB, hR0⟩ := LJ_ok hJ
  refine x_aload_n dL_law_852 rfl ?_
  refine y_arg 1 dL_law_853 dL_law_854 dL_law_856 dL_law_857 dL_law_858 rfl rfl hJ.2.2.2.2.2.1 rfl (by omega) (by omega) ?_
  rw [hJ.2.2.2.2.2.2.1]
  refine x_callV (As := [_]) (mc := 0) (ms := 0) (z := mX10_purse) (ci := 10) dL_law_859 lL_102 oX10_purse (by decide) hT10 rfl rfl (Nat.le_of_ble_eq_true rfl) (Nat.le_of_ble_eq_true rfl) rfl (f_purse (g := g) (J := J) (z := z) (k := 0) (n := 0) hJ.1 (hx (i + 1))) (fun v M1 hq => ?_)
  obtain ⟨rfl, V1, R1, fw1, fr1, σ1, rfl, hI1, hD1, hB1⟩ := LJ_c hJ hq
  refine (show X _ _ 862 _ [.int _] _ _ _ _ from ?_)
  have hT12 := hD1.1.1
  refine x_aload_n dL_law_862 rfl ?_
  refine y_arg 1 dL_law_863 dL_law_864 dL_law_866 dL_law_867 dL_law_868 rfl rfl hB1.2.2.1 rfl (by omega) (by omega) ?_
  rw [hB1.2.2.2.1]
  have hk := k_purse (g := g) (J := J) (z := z) (k := 0) (n := 0) (V := V1) hD1 (hx (i + 1)) (Wi := Wi) hNi
  rw [pB_self (fun _ _ => rfl)] at hk
  refine x_callV (As := [_]) (mc := 0) (ms := 0) (z := mX12_purse) (ci := 12) dL_law_869 lL_105 oX12_purse (by decide) hT12 rfl rfl (Nat.le_of_ble_eq_true rfl) (Nat.le_of_ble_eq_true rfl) rfl (hk) (fun v M1 hq => ?_)
  obtain ⟨rfl, V2, rfl, hJ2⟩ := LJ_d hI1 hB1 (id) (by first | exact hJ.2.2.1 | exact yTr_r | exact pyTr_r | exact rTr_r | exact sTr_r | decide | (repeat' split) <;> decide) hq
  refine (show X _ _ 872 _ [.int _, .int _] _ _ _ _ from ?_)
  refine x_icmp_eq 1710 dL_law_872 (by decide) (fun _ => ?_) (fun q => absurd (congrArg iI (e_purse hAn)) q)
  exact hnx _ (LN_of hJ2)
theorem l_first (hJ : LJ T R V z b o r ou N xs fw fr σ f t tp h A B a m H K wr pl tr) (hx : ∀ j, R32 (xs j)) (hi : i + 6 ≤ N) (hN : N ≤ 3072) (hnx : ∀ M, LN b o r ou N xs M → X g mL_law 1710 [.ref b, .ref o, .ref r, .ref ou, .int (iI (i : Int)), jk, jk] [] M k n Q) : X g mL_law 877 [.ref b, .ref o, .ref r, .ref ou, .int (iI (i : Int)), jk, jk] [] (T, iV V, R, J, z) k n Q := by
  have hT10 := hJ.1.1.1.1
  obtain ⟨Ni, Wi, hNi, hAn⟩ := LJ_an hJ
  obtain ⟨hA, hB, hR0⟩ := LJ_ok hJ
  refine x_aload_n dL_law_877 rfl ?_
  refine y_arg 1 dL_law_878 dL_law_879 dL_law_881 dL_law_882 dL_law_883 rfl rfl hJ.2.2.2.2.2.1 rfl (by omega) (by omega) ?_
  rw [hJ.2.2.2.2.2.2.1]
  refine x_callV (As := [_]) (mc := 0) (ms := 0) (z := mX10_first) (ci := 10) dL_law_884 lL_106 oX10_first (by decide) hT10 rfl rfl (Nat.le_of_ble_eq_true rfl) (Nat.le_of_ble_eq_true rfl) rfl (f_first (g := g) (J := J) (z := z) (k := 0) (n := 0) hJ.1 (hx (i + 1))) (fun v M1 hq => ?_)
  obtain ⟨rfl, V1, R1, fw1, fr1, σ1, rfl, hI1, hD1, hB1⟩ := LJ_c hJ hq
  refine (show X _ _ 887 _ [.int _] _ _ _ _ from ?_)
  have hT12 := hD1.1.1
  refine x_aload_n dL_law_887 rfl ?_
  refine y_arg 1 dL_law_888 dL_law_889 dL_law_891 dL_law_892 dL_law_893 rfl rfl hB1.2.2.1 rfl (by omega) (by omega) ?_
  rw [hB1.2.2.2.1]
  have hk := k_first (g := g) (J := J) (z := z) (k := 0) (n := 0) (V := V1) hD1 (hx (i + 1)) (Wi := Wi) hNi
  rw [pB_self (fun _ _ => rfl)] at hk
  refine x_callV (As := [_]) (mc := 0) (ms := 0) (z := mX12_first) (ci := 12) dL_law_894 lL_109 oX12_first (by decide) hT12 rfl rfl (Nat.le_of_ble_eq_true rfl) (Nat.le_of_ble_eq_true rfl) rfl (hk) (fun v M1 hq => ?_)
  obtain ⟨rfl, V2, rfl, hJ2⟩ := LJ_d hI1 hB1 (id) (by first | exact hJ.2.2.1 | exact yTr_r | exact pyTr_r | exact rTr_r | exact sTr_r | decide | (repeat' split) <;> decide) hq
  refine (show X _ _ 897 _ [.int _, .int _] _ _ _ _ from ?_)
  refine x_icmp_eq 1710 dL_law_897 (by decide) (fun _ => ?_) (fun q => absurd (congrArg iI (e_first hAn)) q)
  exact hnx _ (LN_of hJ2)
theorem l_last (hJ : LJ T R V z b o r ou N xs fw fr σ f t tp h A B a m H K wr pl tr) (hx : ∀ j, R32 (xs j)) (hi : i + 6 ≤ N) (hN : N ≤ 3072) (hnx : ∀ M, LN b o r ou N xs M → X g mL_law 1710 [.ref b, .ref o, .ref r, .ref ou, .int (iI (i : Int)), jk, jk] [] M k n Q) : X g mL_law 902 [.ref b, .ref o, .ref r, .ref ou, .int (iI (i : Int)), jk, jk] [] (T, iV V, R, J, z) k n Q := by
  have hT10 := hJ.1.1.1.1
  obtain ⟨Ni, Wi, hNi, hAn⟩ := LJ_an hJ
  obtain ⟨hA, hB, hR0⟩ := LJ_ok hJ
  refine x_aload_n dL_law_902 rfl ?_
  refine y_arg 1 dL_law_903 dL_law_904 dL_law_906 dL_law_907 dL_law_908 rfl rfl hJ.2.2.2.2.2.1 rfl (by omega) (by omega) ?_
  rw [hJ.2.2.2.2.2.2.1]
  refine x_callV (As := [_]) (mc := 0) (ms := 0) (z := mX10_last) (ci := 10) dL_law_909 lL_110 oX10_last (by decide) hT10 rfl rfl (Nat.le_of_ble_eq_true rfl) (Nat.le_of_ble_eq_true rfl) rfl (f_last (g := g) (J := J) (z := z) (k := 0) (n := 0) hJ.1 (hx (i + 1))) (fun v M1 hq => ?_)
  obtain ⟨rfl, V1, R1, fw1, fr1, σ1, rfl, hI1, hD1, hB1⟩ := LJ_c hJ hq
  refine (show X _ _ 912 _ [.int _] _ _ _ _ from ?_)
  have hT12 := hD1.1.1
  refine x_aload_n dL_law_912 rfl ?_
  refine y_arg 1 dL_law_913 dL_law_914 dL_law_916 dL_law_917 dL_law_918 rfl rfl hB1.2.2.1 rfl (by omega) (by omega) ?_
  rw [hB1.2.2.2.1]
  have hk := k_last (g := g) (J := J) (z := z) (k := 0) (n := 0) (V := V1) hD1 (hx (i + 1)) (Wi := Wi) hNi
  rw [pB_self (fun _ _ => rfl)] at hk
  refine x_callV (As := [_]) (mc := 0) (ms := 0) (z := mX12_last) (ci := 12) dL_law_919 lL_113 oX12_last (by decide) hT12 rfl rfl (Nat.le_of_ble_eq_true rfl) (Nat.le_of_ble_eq_true rfl) rfl (hk) (fun v M1 hq => ?_)
  obtain ⟨rfl, V2, rfl, hJ2⟩ := LJ_d hI1 hB1 (id) (by first | exact hJ.2.2.1 | exact yTr_r | exact pyTr_r | exact rTr_r | exact sTr_r | decide | (repeat' split) <;> decide) hq
  refine (show X _ _ 922 _ [.int _, .int _] _ _ _ _ from ?_)
  refine x_icmp_eq 1710 dL_law_922 (by decide) (fun _ => ?_) (fun q => absurd (congrArg iI (e_last hAn)) q)
  exact hnx _ (LN_of hJ2)
theorem l_fair (hJ : LJ T R V z b o r ou N xs fw fr σ f t tp h A B a m H K wr pl tr) (hx : ∀ j, R32 (xs j)) (hi : i + 6 ≤ N) (hN : N ≤ 3072) (hnx : ∀ M, LN b o r ou N xs M → X g mL_law 1710 [.ref b, .ref o, .ref r, .ref ou, .int (iI (i : Int)), jk, jk] [] M k n Q) : X g mL_law 927 [.ref b, .ref o, .ref r, .ref ou, .int (iI (i : Int)), jk, jk] [] (T, iV V, R, J, z) k n Q := by
  have hT10 := hJ.1.1.1.1
  obtain ⟨Ni, Wi, hNi, hAn⟩ := LJ_an hJ
  obtain ⟨hA, hB, hR0⟩ := LJ_ok hJ
  refine x_aload_n dL_law_927 rfl ?_
  refine x_callV (As := []) (mc := 0) (ms := 0) (z := mX10_fair) (ci := 10) dL_law_928 lL_114 oX10_fair (by decide) hT10 rfl rfl (Nat.le_of_ble_eq_true rfl) (Nat.le_of_ble_eq_true rfl) rfl (f_fair (g := g) (J := J) (z := z) (k := 0) (n := 0) hJ.1) (fun v M1 hq => ?_)
  obtain ⟨rfl, V1, R1, fw1, fr1, σ1, rfl, hI1, hD1, hB1⟩ := LJ_c hJ hq
  refine (show X _ _ 931 _ [.int _] _ _ _ _ from ?_)
  have hT12 := hD1.1.1
  refine x_aload_n dL_law_931 rfl ?_
  have hk := k_fair (g := g) (J := J) (z := z) (k := 0) (n := 0) (V := V1) hD1  (Wi := Wi) hNi
  rw [pB_self (fun _ _ => rfl)] at hk
  refine x_callV (As := []) (mc := 0) (ms := 0) (z := mX12_fair) (ci := 12) dL_law_932 lL_117 oX12_fair (by decide) hT12 rfl rfl (Nat.le_of_ble_eq_true rfl) (Nat.le_of_ble_eq_true rfl) rfl (hk) (fun v M1 hq => ?_)
  obtain ⟨rfl, V2, rfl, hJ2⟩ := LJ_d hI1 hB1 (id) (by first | exact hJ.2.2.1 | exact yTr_r | exact pyTr_r | exact rTr_r | exact sTr_r | decide | (repeat' split) <;> decide) hq
  refine (show X _ _ 935 _ [.int _, .int _] _ _ _ _ from ?_)
  refine x_icmp_eq 1710 dL_law_935 (by decide) (fun _ => ?_) (fun q => absurd (congrArg iI (e_fair hAn)) q)
  exact hnx _ (LN_of hJ2)
theorem l_deaths (hJ : LJ T R V z b o r ou N xs fw fr σ f t tp h A B a m H K wr pl tr) (hx : ∀ j, R32 (xs j)) (hi : i + 6 ≤ N) (hN : N ≤ 3072) (hnx : ∀ M, LN b o r ou N xs M → X g mL_law 1710 [.ref b, .ref o, .ref r, .ref ou, .int (iI (i : Int)), jk, jk] [] M k n Q) : X g mL_law 940 [.ref b, .ref o, .ref r, .ref ou, .int (iI (i : Int)), jk, jk] [] (T, iV V, R, J, z) k n Q := by
  have hT10 := hJ.1.1.1.1
  obtain ⟨Ni, Wi, hNi, hAn⟩ := LJ_an hJ
  obtain ⟨hA, hB, hR0⟩ := LJ_ok hJ
  refine x_aload_n dL_law_940 rfl ?_
  refine x_callV (As := []) (mc := 0) (ms := 0) (z := mX10_deaths) (ci := 10) dL_law_941 lL_118 oX10_deaths (by decide) hT10 rfl rfl (Nat.le_of_ble_eq_true rfl) (Nat.le_of_ble_eq_true rfl) rfl (f_deaths (g := g) (J := J) (z := z) (k := 0) (n := 0) hJ.1) (fun v M1 hq => ?_)
  obtain ⟨rfl, V1, R1, fw1, fr1, σ1, rfl, hI1, hD1, hB1⟩ := LJ_c hJ hq
  refine (show X _ _ 944 _ [.int _] _ _ _ _ from ?_)
  have hT12 := hD1.1.1
  refine x_aload_n dL_law_944 rfl ?_
  have hk := k_deaths (g := g) (J := J) (z := z) (k := 0) (n := 0) (V := V1) hD1  (Wi := Wi) hNi
  rw [pB_self (fun _ _ => rfl)] at hk
  refine x_callV (As := []) (mc := 0) (ms := 0) (z := mX12_deaths) (ci := 12) dL_law_945 lL_121 oX12_deaths (by decide) hT12 rfl rfl (Nat.le_of_ble_eq_true rfl) (Nat.le_of_ble_eq_true rfl) rfl (hk) (fun v M1 hq => ?_)
  obtain ⟨rfl, V2, rfl, hJ2⟩ := LJ_d hI1 hB1 (id) (by first | exact hJ.2.2.1 | exact yTr_r | exact pyTr_r | exact rTr_r | exact sTr_r | decide | (repeat' split) <;> decide) hq
  refine (show X _ _ 948 _ [.int _, .int _] _ _ _ _ from ?_)
  refine x_icmp_eq 1710 dL_law_948 (by decide) (fun _ => ?_) (fun q => absurd (congrArg iI (e_deaths hAn)) q)
  exact hnx _ (LN_of hJ2)
theorem l_soonest (hJ : LJ T R V z b o r ou N xs fw fr σ f t tp h A B a m H K wr pl tr) (hx : ∀ j, R32 (xs j)) (hi : i + 6 ≤ N) (hN : N ≤ 3072) (hnx : ∀ M, LN b o r ou N xs M → X g mL_law 1710 [.ref b, .ref o, .ref r, .ref ou, .int (iI (i : Int)), jk, jk] [] M k n Q) : X g mL_law 953 [.ref b, .ref o, .ref r, .ref ou, .int (iI (i : Int)), jk, jk] [] (T, iV V, R, J, z) k n Q := by
  have hT10 := hJ.1.1.1.1
  obtain ⟨Ni, Wi, hNi, hAn⟩ := LJ_an hJ
  obtain ⟨hA, hB, hR0⟩ := LJ_ok hJ
  refine x_aload_n dL_law_953 rfl ?_
  refine y_arg 1 dL_law_954 dL_law_955 dL_law_957 dL_law_958 dL_law_959 rfl rfl hJ.2.2.2.2.2.1 rfl (by omega) (by omega) ?_
  rw [hJ.2.2.2.2.2.2.1]
  refine y_arg 2 dL_law_960 dL_law_961 dL_law_963 dL_law_964 dL_law_965 rfl rfl hJ.2.2.2.2.2.1 rfl (by omega) (by omega) ?_
  rw [hJ.2.2.2.2.2.2.1]
  refine x_callV (As := [_, _]) (mc := 0) (ms := 0) (z := mX10_soonest) (ci := 10) dL_law_966 lL_122 oX10_soonest (by decide) hT10 rfl rfl (Nat.le_of_ble_eq_true rfl) (Nat.le_of_ble_eq_true rfl) rfl (f_soonest (g := g) (J := J) (z := z) (k := 0) (n := 0) hJ.1 (hx (i + 1)) (hx (i + 2))) (fun v M1 hq => ?_)
  obtain ⟨rfl, V1, R1, fw1, fr1, σ1, rfl, hI1, hD1, hB1⟩ := LJ_c hJ hq
  refine (show X _ _ 969 _ [.int _] _ _ _ _ from ?_)
  have hT12 := hD1.1.1
  refine x_aload_n dL_law_969 rfl ?_
  refine y_arg 1 dL_law_970 dL_law_971 dL_law_973 dL_law_974 dL_law_975 rfl rfl hB1.2.2.1 rfl (by omega) (by omega) ?_
  rw [hB1.2.2.2.1]
  refine y_arg 2 dL_law_976 dL_law_977 dL_law_979 dL_law_980 dL_law_981 rfl rfl hB1.2.2.1 rfl (by omega) (by omega) ?_
  rw [hB1.2.2.2.1]
  have hk := k_soonest (g := g) (J := J) (z := z) (k := 0) (n := 0) (V := V1) hD1 (hx (i + 1)) (hx (i + 2)) (Wi := Wi) hNi
  rw [pB_self (fun _ _ => rfl)] at hk
  refine x_callV (As := [_, _]) (mc := 0) (ms := 0) (z := mX12_soonest) (ci := 12) dL_law_982 lL_125 oX12_soonest (by decide) hT12 rfl rfl (Nat.le_of_ble_eq_true rfl) (Nat.le_of_ble_eq_true rfl) rfl (hk) (fun v M1 hq => ?_)
  obtain ⟨rfl, V2, rfl, hJ2⟩ := LJ_d hI1 hB1 (id) (by first | exact hJ.2.2.1 | exact yTr_r | exact pyTr_r | exact rTr_r | exact sTr_r | decide | (repeat' split) <;> decide) hq
  refine (show X _ _ 985 _ [.int _, .int _] _ _ _ _ from ?_)
  refine x_icmp_eq 1710 dL_law_985 (by decide) (fun _ => ?_) (fun q => absurd (congrArg iI (e_soonest hA hAn)) q)
  exact hnx _ (LN_of hJ2)
theorem l_know (hJ : LJ T R V z b o r ou N xs fw fr σ f t tp h A B a m H K wr pl tr) (hx : ∀ j, R32 (xs j)) (hi : i + 6 ≤ N) (hN : N ≤ 3072) (hnx : ∀ M, LN b o r ou N xs M → X g mL_law 1710 [.ref b, .ref o, .ref r, .ref ou, .int (iI (i : Int)), jk, jk] [] M k n Q) : X g mL_law 990 [.ref b, .ref o, .ref r, .ref ou, .int (iI (i : Int)), jk, jk] [] (T, iV V, R, J, z) k n Q := by
  have hT10 := hJ.1.1.1.1
  obtain ⟨Ni, Wi, hNi, hAn⟩ := LJ_an hJ
  obtain ⟨hA, hB, hR0⟩ := LJ_ok hJ
  refine x_aload_n dL_law_990 rfl ?_
  refine y_arg 1 dL_law_991 dL_law_992 dL_law_994 dL_law_995 dL_law_996 rfl rfl hJ.2.2.2.2.2.1 rfl (by omega) (by omega) ?_
  rw [hJ.2.2.2.2.2.2.1]
  refine x_callV (As := [_]) (mc := 0) (ms := 0) (z := mX10_know) (ci := 10) dL_law_997 lL_126 oX10_know (by decide) hT10 rfl rfl (Nat.le_of_ble_eq_true rfl) (Nat.le_of_ble_eq_true rfl) rfl (f_know (g := g) (J := J) (z := z) (k := 0) (n := 0) hJ.1 (hx (i + 1))) (fun v M1 hq => ?_)
  obtain ⟨rfl, V1, R1, fw1, fr1, σ1, rfl, hI1, hD1, hB1⟩ := LJ_c hJ hq
  refine (show X _ _ 1000 _ [.int _] _ _ _ _ from ?_)
  have hT12 := hD1.1.1
  refine x_aload_n dL_law_1000 rfl ?_
  refine y_arg 1 dL_law_1001 dL_law_1002 dL_law_1004 dL_law_1005 dL_law_1006 rfl rfl hB1.2.2.1 rfl (by omega) (by omega) ?_
  rw [hB1.2.2.2.1]
  have hk := k_know (g := g) (J := J) (z := z) (k := 0) (n := 0) (V := V1) hD1 (hx (i + 1)) (Wi := Wi) hNi
  rw [pB_self (fun _ _ => rfl)] at hk
  refine x_callV (As := [_]) (mc := 0) (ms := 0) (z := mX12_know) (ci := 12) dL_law_1007 lL_129 oX12_know (by decide) hT12 rfl rfl (Nat.le_of_ble_eq_true rfl) (Nat.le_of_ble_eq_true rfl) rfl (hk) (fun v M1 hq => ?_)
  obtain ⟨rfl, V2, rfl, hJ2⟩ := LJ_d hI1 hB1 (id) (by first | exact hJ.2.2.1 | exact yTr_r | exact pyTr_r | exact rTr_r | exact sTr_r | decide | (repeat' split) <;> decide) hq
  refine (show X _ _ 1010 _ [.int _, .int _] _ _ _ _ from ?_)
  refine x_icmp_eq 1710 dL_law_1010 (by decide) (fun _ => ?_) (fun q => absurd (congrArg iI (e_know hAn)) q)
  exact hnx _ (LN_of hJ2)
end LWag
