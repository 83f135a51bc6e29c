/-! ===== the class's face: what is looked up by the year ===== -/
section C65
variable {g : GG} {T : Nat → Nat × Nat} {V A B : Nat → Nat → Int} {R : Nat → Nat → Option Nat} {J : Nat → Nat → Int64} {z k n : Nat} {o fw fr : Nat} {σ : Nat → Nat} {t : Nat → Int} {tp : Nat} {h : Bool} {a m : Nat} {H K : Nat → Nat → Nat → Int} {wr pl tr : Int}
theorem f_fault (hI : CI T R V o fw fr σ t tp h A B a m H K wr pl tr) : X g mX10_fault 0 [.ref o] [] (T, iV V, R, J, z) k n (CQ T R J z V o (some (.int (iI (wr)))) t tp h A B a m H K wr pl (tr)) := by
  have hI0 := hI
  obtain ⟨hC, ⟨p6, p7⟩, ⟨r1, r2, r4, r9⟩, -⟩ := hI
  obtain ⟨⟨c0, c1, -⟩, ⟨⟨s0, -⟩, -⟩, -⟩ := hC
  refine x_aload_n dX10_fault_0 rfl ?_
  refine x_gr dX10_fault_1 fX10_12 (by first | assumption) (fun _ _ _ => rfl) (by first | assumption) ?_
  refine y_gi dX10_fault_4 fX10_103 (by first | assumption) (fun _ _ _ => rfl) ?_
  refine (show X _ _ 7 _ _ _ _ _ _ from ?_)
  refine X.val r1 ?_
  exact x_ireturn dX10_fault_7 rfl (CQ_id hI0 _)
theorem f_trouble (hI : CI T R V o fw fr σ t tp h A B a m H K wr pl tr) : X g mX10_trouble 0 [.ref o] [] (T, iV V, R, J, z) k n (CQ T R J z V o (some (.int (iI (tr)))) t tp h A B a m H K wr pl (tr)) := by
  have hI0 := hI
  obtain ⟨hC, ⟨p6, p7⟩, -⟩ := hI
  obtain ⟨⟨c0, -⟩, -⟩ := hC
  refine x_aload_n dX10_trouble_0 rfl ?_
  refine y_gi dX10_trouble_1 fX10_57 (by first | assumption) (fun _ _ _ => rfl) ?_
  refine (show X _ _ 4 _ _ _ _ _ _ from ?_)
  refine X.val p7 ?_
  exact x_ireturn dX10_trouble_4 rfl (CQ_id hI0 _)
theorem f_where (hI : CI T R V o fw fr σ t tp h A B a m H K wr pl tr) (htr : R32 tr) : X g mX10_where 0 [.ref o] [] (T, iV V, R, J, z) k n (CQ T R J z V o (some (.int (iI (if tr = 4 then pl else -1)))) t tp h A B a m H K wr pl (tr)) := by
  have hI0 := hI
  obtain ⟨hC, ⟨p6, p7⟩, ⟨r1, r2, r4, r9⟩, -⟩ := hI
  obtain ⟨⟨c0, c1, -⟩, ⟨⟨s0, -⟩, -⟩, -⟩ := hC
  obtain ⟨t1, t2⟩ := htr
  refine x_aload_n dX10_where_0 rfl ?_
  refine y_gi dX10_where_1 fX10_57 (by first | assumption) (fun _ _ _ => rfl) ?_
  refine (show X _ _ 4 _ _ _ _ _ _ from ?_)
  refine X.val p7 ?_
  refine y_iconst dX10_where_4 ?_
  refine (show X _ _ 5 _ _ _ _ _ _ from ?_)
  refine y_icmp_ne 18 dX10_where_5 (by decide) ⟨by omega, by omega⟩ ⟨by omega, by omega⟩ (fun e => ?_) (fun e => ?_)
  · rw [if_neg e]
    refine y_iconst dX10_where_18 ?_
    refine (show X _ _ 19 _ _ _ _ _ _ from ?_)
    exact x_ireturn dX10_where_19 rfl (CQ_id hI0 _)
  · rw [if_pos e]
    refine x_aload_n dX10_where_8 rfl ?_
    refine x_gr dX10_where_9 fX10_12 (by first | assumption) (fun _ _ _ => rfl) (by first | assumption) ?_
    refine y_gi dX10_where_12 fX10_106 (by first | assumption) (fun _ _ _ => rfl) ?_
    refine (show X _ _ 15 _ _ _ _ _ _ from ?_)
    refine X.val r2 ?_
    refine x_goto 19 dX10_where_15 (by decide) ?_
    refine (show X _ _ 19 _ _ _ _ _ _ from ?_)
    exact x_ireturn dX10_where_19 rfl (CQ_id hI0 _)
theorem f_elder {y : Int} (hI : CI T R V o fw fr σ t tp h A B a m H K wr pl tr) (hy : R32 y) : X g mX10_elder 0 [.ref o, .int (iI y), jk] [] (T, iV V, R, J, z) k n (CQ T R J z V o (some (.int (iI (if yTr h A y = 0 then V (o + 167) y.toNat else -1)))) t tp h A B a m H K wr pl (yTr h A y)) := by
  have hI0 := hI
  obtain ⟨hC, ⟨p6, p7⟩, -, -, -, ⟨f1, f2, f3, f4⟩, -⟩ := hI
  have hyt := c_yearTrouble (g := g) (J := J) (z := z) (k := 0) (n := 0) hC p6 f1 f3 hy
  have hrf := c_refuse (g := g) (J := J) (z := z) (k := 0) (n := 0) (V := V) (x := yTr h A y) hC
  have hgr := fun x => c_grant (g := g) (J := J) (z := z) (k := 0) (n := 0) (V := V) (x := x) hC
  obtain ⟨⟨c0, c1, c2, c3, c4, c5, c6⟩, -, -, -, hU, -⟩ := hC
  obtain ⟨u0, u1', u2', u3'⟩ := hU.1
  obtain ⟨v1, v2, v3, v4, v5, v6, v7⟩ := hU.2.1
  have ru := hU.2.2.2.1
  have ru0 := ru.1.1
  have ru1 : R (o + 155 + 8) 14 = some (o + 155 + 8 + 4) := ru.2.1.2.2.2
  have hTe : T (o + 155 + 8 + 4) = (1, 24) := ru.2.2.2.2.2
  have hA0 := f3.1
  have hyb : yTr h A y = 0 ∨ yTr h A y = 1 ∨ yTr h A y = 2 := by unfold yTr; (repeat' split) <;> simp
  have hy0 : yTr h A y = 0 → 0 ≤ y ∧ y < A 0 0 := fun e => by
    unfold yTr at e
    split at e
    · split at e
      · omega
      · rename_i e1
        have e2 := of_decide_eq_false (Bool.eq_false_iff.mpr e1)
        omega
    · omega
  refine x_aload_n dX10_elder_0 rfl ?_
  refine x_iload_n dX10_elder_1 rfl ?_
  refine (show X _ _ 2 _ _ _ _ _ _ from ?_)
  refine x_callV (As := [_]) (mc := 0) (ms := 0) (z := mX10_yearTrouble) (ci := 10) dX10_elder_2 lX10_135 oX10_yearTrouble (by decide) (by first | assumption) rfl rfl (Nat.le_of_ble_eq_true rfl) (Nat.le_of_ble_eq_true rfl) rfl (hyt) (k_I ?_)
  refine (show X _ _ 5 _ _ _ _ _ _ from ?_)
  refine x_istore_n dX10_elder_5 (by decide) rfl rfl ?_
  refine x_iload_n dX10_elder_6 rfl ?_
  refine (show X _ _ 7 _ _ _ _ _ _ from ?_)
  refine y_if_eq 18 dX10_elder_7 (by decide) ⟨by omega, by omega⟩ (fun e => ?_) (fun e => ?_)
  rotate_left
  · rw [if_neg e]
    refine x_aload_n dX10_elder_10 rfl ?_
    refine x_iload_n dX10_elder_11 rfl ?_
    refine (show X _ _ 12 _ _ _ _ _ _ from ?_)
    refine x_callV (As := [_]) (mc := 0) (ms := 0) (z := mX10_refuse) (ci := 10) dX10_elder_12 lX10_68 oX10_refuse (by decide) (by first | assumption) rfl rfl (Nat.le_of_ble_eq_true rfl) (Nat.le_of_ble_eq_true rfl) rfl (hrf) (k_I ?_)
    refine (show X _ _ 15 _ _ _ _ _ _ from ?_)
    refine x_goto 34 dX10_elder_15 (by decide) ?_
    refine (show X _ _ 34 _ _ _ _ _ _ from ?_)
    exact x_ireturn dX10_elder_34 rfl (CQ_tr hI0 _ _)
  · rw [if_pos e, e]
    have hy1 := hy0 e
    refine x_aload_n dX10_elder_18 rfl ?_
    refine x_aload_n dX10_elder_19 rfl ?_
    refine x_gr dX10_elder_20 fX10_35 (by first | assumption) (fun _ _ _ => rfl) (by first | assumption) ?_
    refine x_gr dX10_elder_23 fX10_138 (by first | assumption) (fun _ _ _ => rfl) (by first | assumption) ?_
    refine x_gr dX10_elder_26 fX10_141 (by first | assumption) (fun _ _ _ => rfl) (by first | assumption) ?_
    refine x_iload_n dX10_elder_29 rfl ?_
    refine (show X _ _ 30 _ _ _ _ _ _ from ?_)
    refine y_iald y.toNat dX10_elder_30 hTe (by omega) (by omega) (by decide) ?_
    refine (show X _ _ 31 _ _ _ _ _ _ from ?_)
    refine x_callV (As := [_]) (mc := 0) (ms := 0) (z := mX10_grant) (ci := 10) dX10_elder_31 lX10_116 oX10_grant (by decide) (by first | assumption) rfl rfl (Nat.le_of_ble_eq_true rfl) (Nat.le_of_ble_eq_true rfl) rfl (hgr _) (k_I ?_)
    refine (show X _ _ 34 _ _ _ _ _ _ from ?_)
    exact x_ireturn dX10_elder_34 rfl (CQ_tr hI0 _ _)
theorem f_there {y : Int} (hI : CI T R V o fw fr σ t tp h A B a m H K wr pl tr) (hy : R32 y) : X g mX10_there 0 [.ref o, .int (iI y), jk] [] (T, iV V, R, J, z) k n (CQ T R J z V o (some (.int (iI (if yTr h A y = 0 then V (o + 156) y.toNat else -1)))) t tp h A B a m H K wr pl (yTr h A y)) := by
  have hI0 := hI
  obtain ⟨hC, ⟨p6, p7⟩, -, -, -, ⟨f1, f2, f3, f4⟩, -⟩ := hI
  have hyt := c_yearTrouble (g := g) (J := J) (z := z) (k := 0) (n := 0) hC p6 f1 f3 hy
  have hrf := c_refuse (g := g) (J := J) (z := z) (k := 0) (n := 0) (V := V) (x := yTr h A y) hC
  have hgr := fun x => c_grant (g := g) (J := J) (z := z) (k := 0) (n := 0) (V := V) (x := x) hC
  obtain ⟨⟨c0, c1, c2, c3, c4, c5, c6⟩, -, -, -, hU, -⟩ := hC
  obtain ⟨u0, u1', u2', u3'⟩ := hU.1
  obtain ⟨v1, v2, v3, v4, v5, v6, v7⟩ := hU.2.1
  have hTe : T (o + 155 + 1) = (1, 24) := by first | exact hU.2.2.1.1 | exact hU.2.2.1.2.1 | exact hU.2.2.1.2.2.1 | exact hU.2.2.1.2.2.2.1 | exact hU.2.2.1.2.2.2.2.1
  have hA0 := f3.1
  have hyb : yTr h A y = 0 ∨ yTr h A y = 1 ∨ yTr h A y = 2 := by unfold yTr; (repeat' split) <;> simp
  have hy0 : yTr h A y = 0 → 0 ≤ y ∧ y < A 0 0 := fun e => by
    unfold yTr at e
    split at e
    · split at e
      · omega
      · rename_i e1
        have e2 := of_decide_eq_false (Bool.eq_false_iff.mpr e1)
        omega
    · omega
  refine x_aload_n dX10_there_0 rfl ?_
  refine x_iload_n dX10_there_1 rfl ?_
  refine (show X _ _ 2 _ _ _ _ _ _ from ?_)
  refine x_callV (As := [_]) (mc := 0) (ms := 0) (z := mX10_yearTrouble) (ci := 10) dX10_there_2 lX10_135 oX10_yearTrouble (by decide) (by first | assumption) rfl rfl (Nat.le_of_ble_eq_true rfl) (Nat.le_of_ble_eq_true rfl) rfl (hyt) (k_I ?_)
  refine (show X _ _ 5 _ _ _ _ _ _ from ?_)
  refine x_istore_n dX10_there_5 (by decide) rfl rfl ?_
  refine x_iload_n dX10_there_6 rfl ?_
  refine (show X _ _ 7 _ _ _ _ _ _ from ?_)
  refine y_if_eq 18 dX10_there_7 (by decide) ⟨by omega, by omega⟩ (fun e => ?_) (fun e => ?_)
  rotate_left
  · rw [if_neg e]
    refine x_aload_n dX10_there_10 rfl ?_
    refine x_iload_n dX10_there_11 rfl ?_
    refine (show X _ _ 12 _ _ _ _ _ _ from ?_)
    refine x_callV (As := [_]) (mc := 0) (ms := 0) (z := mX10_refuse) (ci := 10) dX10_there_12 lX10_68 oX10_refuse (by decide) (by first | assumption) rfl rfl (Nat.le_of_ble_eq_true rfl) (Nat.le_of_ble_eq_true rfl) rfl (hrf) (k_I ?_)
    refine (show X _ _ 15 _ _ _ _ _ _ from ?_)
    refine x_goto 31 dX10_there_15 (by decide) ?_
    refine (show X _ _ 31 _ _ _ _ _ _ from ?_)
    exact x_ireturn dX10_there_31 rfl (CQ_tr hI0 _ _)
  · rw [if_pos e, e]
    have hy1 := hy0 e
    refine x_aload_n dX10_there_18 rfl ?_
    refine x_aload_n dX10_there_19 rfl ?_
    refine x_gr dX10_there_20 fX10_35 (by first | assumption) (fun _ _ _ => rfl) (by first | assumption) ?_
    refine x_gr dX10_there_23 fX10_147 (by first | assumption) (fun _ _ _ => rfl) (by first | assumption) ?_
    refine x_iload_n dX10_there_26 rfl ?_
    refine (show X _ _ 27 _ _ _ _ _ _ from ?_)
    refine y_iald y.toNat dX10_there_27 hTe (by omega) (by omega) (by decide) ?_
    refine (show X _ _ 28 _ _ _ _ _ _ from ?_)
    refine x_callV (As := [_]) (mc := 0) (ms := 0) (z := mX10_grant) (ci := 10) dX10_there_28 lX10_116 oX10_grant (by decide) (by first | assumption) rfl rfl (Nat.le_of_ble_eq_true rfl) (Nat.le_of_ble_eq_true rfl) rfl (hgr _) (k_I ?_)
    refine (show X _ _ 31 _ _ _ _ _ _ from ?_)
    exact x_ireturn dX10_there_31 rfl (CQ_tr hI0 _ _)
theorem f_can {y : Int} (hI : CI T R V o fw fr σ t tp h A B a m H K wr pl tr) (hy : R32 y) : X g mX10_can 0 [.ref o, .int (iI y), jk] [] (T, iV V, R, J, z) k n (CQ T R J z V o (some (.int (iI (if yTr h A y = 0 then V (o + 157) y.toNat else -1)))) t tp h A B a m H K wr pl (yTr h A y)) := by
  have hI0 := hI
  obtain ⟨hC, ⟨p6, p7⟩, -, -, -, ⟨f1, f2, f3, f4⟩, -⟩ := hI
  have hyt := c_yearTrouble (g := g) (J := J) (z := z) (k := 0) (n := 0) hC p6 f1 f3 hy
  have hrf := c_refuse (g := g) (J := J) (z := z) (k := 0) (n := 0) (V := V) (x := yTr h A y) hC
  have hgr := fun x => c_grant (g := g) (J := J) (z := z) (k := 0) (n := 0) (V := V) (x := x) hC
  obtain ⟨⟨c0, c1, c2, c3, c4, c5, c6⟩, -, -, -, hU, -⟩ := hC
  obtain ⟨u0, u1', u2', u3'⟩ := hU.1
  obtain ⟨v1, v2, v3, v4, v5, v6, v7⟩ := hU.2.1
  have hTe : T (o + 155 + 2) = (1, 24) := by first | exact hU.2.2.1.1 | exact hU.2.2.1.2.1 | exact hU.2.2.1.2.2.1 | exact hU.2.2.1.2.2.2.1 | exact hU.2.2.1.2.2.2.2.1
  have hA0 := f3.1
  have hyb : yTr h A y = 0 ∨ yTr h A y = 1 ∨ yTr h A y = 2 := by unfold yTr; (repeat' split) <;> simp
  have hy0 : yTr h A y = 0 → 0 ≤ y ∧ y < A 0 0 := fun e => by
    unfold yTr at e
    split at e
    · split at e
      · omega
      · rename_i e1
        have e2 := of_decide_eq_false (Bool.eq_false_iff.mpr e1)
        omega
    · omega
  refine x_aload_n dX10_can_0 rfl ?_
  refine x_iload_n dX10_can_1 rfl ?_
  refine (show X _ _ 2 _ _ _ _ _ _ from ?_)
  refine x_callV (As := [_]) (mc := 0) (ms := 0) (z := mX10_yearTrouble) (ci := 10) dX10_can_2 lX10_135 oX10_yearTrouble (by decide) (by first | assumption) rfl rfl (Nat.le_of_ble_eq_true rfl) (Nat.le_of_ble_eq_true rfl) rfl (hyt) (k_I ?_)
  refine (show X _ _ 5 _ _ _ _ _ _ from ?_)
  refine x_istore_n dX10_can_5 (by decide) rfl rfl ?_
  refine x_iload_n dX10_can_6 rfl ?_
  refine (show X _ _ 7 _ _ _ _ _ _ from ?_)
  refine y_if_eq 18 dX10_can_7 (by decide) ⟨by omega, by omega⟩ (fun e => ?_) (fun e => ?_)
  rotate_left
  · rw [if_neg e]
    refine x_aload_n dX10_can_10 rfl ?_
    refine x_iload_n dX10_can_11 rfl ?_
    refine (show X _ _ 12 _ _ _ _ _ _ from ?_)
    refine x_callV (As := [_]) (mc := 0) (ms := 0) (z := mX10_refuse) (ci := 10) dX10_can_12 lX10_68 oX10_refuse (by decide) (by first | assumption) rfl rfl (Nat.le_of_ble_eq_true rfl) (Nat.le_of_ble_eq_true rfl) rfl (hrf) (k_I ?_)
    refine (show X _ _ 15 _ _ _ _ _ _ from ?_)
    refine x_goto 31 dX10_can_15 (by decide) ?_
    refine (show X _ _ 31 _ _ _ _ _ _ from ?_)
    exact x_ireturn dX10_can_31 rfl (CQ_tr hI0 _ _)
  · rw [if_pos e, e]
    have hy1 := hy0 e
    refine x_aload_n dX10_can_18 rfl ?_
    refine x_aload_n dX10_can_19 rfl ?_
    refine x_gr dX10_can_20 fX10_35 (by first | assumption) (fun _ _ _ => rfl) (by first | assumption) ?_
    refine x_gr dX10_can_23 fX10_150 (by first | assumption) (fun _ _ _ => rfl) (by first | assumption) ?_
    refine x_iload_n dX10_can_26 rfl ?_
    refine (show X _ _ 27 _ _ _ _ _ _ from ?_)
    refine y_iald y.toNat dX10_can_27 hTe (by omega) (by omega) (by decide) ?_
    refine (show X _ _ 28 _ _ _ _ _ _ from ?_)
    refine x_callV (As := [_]) (mc := 0) (ms := 0) (z := mX10_grant) (ci := 10) dX10_can_28 lX10_116 oX10_grant (by decide) (by first | assumption) rfl rfl (Nat.le_of_ble_eq_true rfl) (Nat.le_of_ble_eq_true rfl) rfl (hgr _) (k_I ?_)
    refine (show X _ _ 31 _ _ _ _ _ _ from ?_)
    exact x_ireturn dX10_can_31 rfl (CQ_tr hI0 _ _)
theorem f_empty {y : Int} (hI : CI T R V o fw fr σ t tp h A B a m H K wr pl tr) (hy : R32 y) : X g mX10_empty 0 [.ref o, .int (iI y), jk] [] (T, iV V, R, J, z) k n (CQ T R J z V o (some (.int (iI (if yTr h A y = 0 then V (o + 158) y.toNat else -1)))) t tp h A B a m H K wr pl (yTr h A y)) := by
  have hI0 := hI
  obtain ⟨hC, ⟨p6, p7⟩, -, -, -, ⟨f1, f2, f3, f4⟩, -⟩ := hI
  have hyt := c_yearTrouble (g := g) (J := J) (z := z) (k := 0) (n := 0) hC p6 f1 f3 hy
  have hrf := c_refuse (g := g) (J := J) (z := z) (k := 0) (n := 0) (V := V) (x := yTr h A y) hC
  have hgr := fun x => c_grant (g := g) (J := J) (z := z) (k := 0) (n := 0) (V := V) (x := x) hC
  obtain ⟨⟨c0, c1, c2, c3, c4, c5, c6⟩, -, -, -, hU, -⟩ := hC
  obtain ⟨u0, u1', u2', u3'⟩ := hU.1
  obtain ⟨v1, v2, v3, v4, v5, v6, v7⟩ := hU.2.1
  have hTe : T (o + 155 + 3) = (1, 24) := by first | exact hU.2.2.1.1 | exact hU.2.2.1.2.1 | exact hU.2.2.1.2.2.1 | exact hU.2.2.1.2.2.2.1 | exact hU.2.2.1.2.2.2.2.1
  have hA0 := f3.1
  have hyb : yTr h A y = 0 ∨ yTr h A y = 1 ∨ yTr h A y = 2 := by unfold yTr; (repeat' split) <;> simp
  have hy0 : yTr h A y = 0 → 0 ≤ y ∧ y < A 0 0 := fun e => by
    unfold yTr at e
    split at e
    · split at e
      · omega
      · rename_i e1
        have e2 := of_decide_eq_false (Bool.eq_false_iff.mpr e1)
        omega
    · omega
  refine x_aload_n dX10_empty_0 rfl ?_
  refine x_iload_n dX10_empty_1 rfl ?_
  refine (show X _ _ 2 _ _ _ _ _ _ from ?_)
  refine x_callV (As := [_]) (mc := 0) (ms := 0) (z := mX10_yearTrouble) (ci := 10) dX10_empty_2 lX10_135 oX10_yearTrouble (by decide) (by first | assumption) rfl rfl (Nat.le_of_ble_eq_true rfl) (Nat.le_of_ble_eq_true rfl) rfl (hyt) (k_I ?_)
  refine (show X _ _ 5 _ _ _ _ _ _ from ?_)
  refine x_istore_n dX10_empty_5 (by decide) rfl rfl ?_
  refine x_iload_n dX10_empty_6 rfl ?_
  refine (show X _ _ 7 _ _ _ _ _ _ from ?_)
  refine y_if_eq 18 dX10_empty_7 (by decide) ⟨by omega, by omega⟩ (fun e => ?_) (fun e => ?_)
  rotate_left
  · rw [if_neg e]
    refine x_aload_n dX10_empty_10 rfl ?_
    refine x_iload_n dX10_empty_11 rfl ?_
    refine (show X _ _ 12 _ _ _ _ _ _ from ?_)
    refine x_callV (As := [_]) (mc := 0) (ms := 0) (z := mX10_refuse) (ci := 10) dX10_empty_12 lX10_68 oX10_refuse (by decide) (by first | assumption) rfl rfl (Nat.le_of_ble_eq_true rfl) (Nat.le_of_ble_eq_true rfl) rfl (hrf) (k_I ?_)
    refine (show X _ _ 15 _ _ _ _ _ _ from ?_)
    refine x_goto 31 dX10_empty_15 (by decide) ?_
    refine (show X _ _ 31 _ _ _ _ _ _ from ?_)
    exact x_ireturn dX10_empty_31 rfl (CQ_tr hI0 _ _)
  · rw [if_pos e, e]
    have hy1 := hy0 e
    refine x_aload_n dX10_empty_18 rfl ?_
    refine x_aload_n dX10_empty_19 rfl ?_
    refine x_gr dX10_empty_20 fX10_35 (by first | assumption) (fun _ _ _ => rfl) (by first | assumption) ?_
    refine x_gr dX10_empty_23 fX10_144 (by first | assumption) (fun _ _ _ => rfl) (by first | assumption) ?_
    refine x_iload_n dX10_empty_26 rfl ?_
    refine (show X _ _ 27 _ _ _ _ _ _ from ?_)
    refine y_iald y.toNat dX10_empty_27 hTe (by omega) (by omega) (by decide) ?_
    refine (show X _ _ 28 _ _ _ _ _ _ from ?_)
    refine x_callV (As := [_]) (mc := 0) (ms := 0) (z := mX10_grant) (ci := 10) dX10_empty_28 lX10_116 oX10_grant (by decide) (by first | assumption) rfl rfl (Nat.le_of_ble_eq_true rfl) (Nat.le_of_ble_eq_true rfl) rfl (hgr _) (k_I ?_)
    refine (show X _ _ 31 _ _ _ _ _ _ from ?_)
    exact x_ireturn dX10_empty_31 rfl (CQ_tr hI0 _ _)
theorem f_harm {y : Int} (hI : CI T R V o fw fr σ t tp h A B a m H K wr pl tr) (hy : R32 y) : X g mX10_harm 0 [.ref o, .int (iI y), jk] [] (T, iV V, R, J, z) k n (CQ T R J z V o (some (.int (iI (if yTr h A y = 0 then V (o + 159) y.toNat else -1)))) t tp h A B a m H K wr pl (yTr h A y)) := by
  have hI0 := hI
  obtain ⟨hC, ⟨p6, p7⟩, -, -, -, ⟨f1, f2, f3, f4⟩, -⟩ := hI
  have hyt := c_yearTrouble (g := g) (J := J) (z := z) (k := 0) (n := 0) hC p6 f1 f3 hy
  have hrf := c_refuse (g := g) (J := J) (z := z) (k := 0) (n := 0) (V := V) (x := yTr h A y) hC
  have hgr := fun x => c_grant (g := g) (J := J) (z := z) (k := 0) (n := 0) (V := V) (x := x) hC
  obtain ⟨⟨c0, c1, c2, c3, c4, c5, c6⟩, -, -, -, hU, -⟩ := hC
  obtain ⟨u0, u1', u2', u3'⟩ := hU.1
  obtain ⟨v1, v2, v3, v4, v5, v6, v7⟩ := hU.2.1
  have hTe : T (o + 155 + 4) = (1, 24) := by first | exact hU.2.2.1.1 | exact hU.2.2.1.2.1 | exact hU.2.2.1.2.2.1 | exact hU.2.2.1.2.2.2.1 | exact hU.2.2.1.2.2.2.2.1
  have hA0 := f3.1
  have hyb : yTr h A y = 0 ∨ yTr h A y = 1 ∨ yTr h A y = 2 := by unfold yTr; (repeat' split) <;> simp
  have hy0 : yTr h A y = 0 → 0 ≤ y ∧ y < A 0 0 := fun e => by
    unfold yTr at e
    split at e
    · split at e
      · omega
      · rename_i e1
        have e2 := of_decide_eq_false (Bool.eq_false_iff.mpr e1)
        omega
    · omega
  refine x_aload_n dX10_harm_0 rfl ?_
  refine x_iload_n dX10_harm_1 rfl ?_
  refine (show X _ _ 2 _ _ _ _ _ _ from ?_)
  refine x_callV (As := [_]) (mc := 0) (ms := 0) (z := mX10_yearTrouble) (ci := 10) dX10_harm_2 lX10_135 oX10_yearTrouble (by decide) (by first | assumption) rfl rfl (Nat.le_of_ble_eq_true rfl) (Nat.le_of_ble_eq_true rfl) rfl (hyt) (k_I ?_)
  refine (show X _ _ 5 _ _ _ _ _ _ from ?_)
  refine x_istore_n dX10_harm_5 (by decide) rfl rfl ?_
  refine x_iload_n dX10_harm_6 rfl ?_
  refine (show X _ _ 7 _ _ _ _ _ _ from ?_)
  refine y_if_eq 18 dX10_harm_7 (by decide) ⟨by omega, by omega⟩ (fun e => ?_) (fun e => ?_)
  rotate_left
  · rw [if_neg e]
    refine x_aload_n dX10_harm_10 rfl ?_
    refine x_iload_n dX10_harm_11 rfl ?_
    refine (show X _ _ 12 _ _ _ _ _ _ from ?_)
    refine x_callV (As := [_]) (mc := 0) (ms := 0) (z := mX10_refuse) (ci := 10) dX10_harm_12 lX10_68 oX10_refuse (by decide) (by first | assumption) rfl rfl (Nat.le_of_ble_eq_true rfl) (Nat.le_of_ble_eq_true rfl) rfl (hrf) (k_I ?_)
    refine (show X _ _ 15 _ _ _ _ _ _ from ?_)
    refine x_goto 31 dX10_harm_15 (by decide) ?_
    refine (show X _ _ 31 _ _ _ _ _ _ from ?_)
    exact x_ireturn dX10_harm_31 rfl (CQ_tr hI0 _ _)
  · rw [if_pos e, e]
    have hy1 := hy0 e
    refine x_aload_n dX10_harm_18 rfl ?_
    refine x_aload_n dX10_harm_19 rfl ?_
    refine x_gr dX10_harm_20 fX10_35 (by first | assumption) (fun _ _ _ => rfl) (by first | assumption) ?_
    refine x_gr dX10_harm_23 fX10_176 (by first | assumption) (fun _ _ _ => rfl) (by first | assumption) ?_
    refine x_iload_n dX10_harm_26 rfl ?_
    refine (show X _ _ 27 _ _ _ _ _ _ from ?_)
    refine y_iald y.toNat dX10_harm_27 hTe (by omega) (by omega) (by decide) ?_
    refine (show X _ _ 28 _ _ _ _ _ _ from ?_)
    refine x_callV (As := [_]) (mc := 0) (ms := 0) (z := mX10_grant) (ci := 10) dX10_harm_28 lX10_116 oX10_grant (by decide) (by first | assumption) rfl rfl (Nat.le_of_ble_eq_true rfl) (Nat.le_of_ble_eq_true rfl) rfl (hgr _) (k_I ?_)
    refine (show X _ _ 31 _ _ _ _ _ _ from ?_)
    exact x_ireturn dX10_harm_31 rfl (CQ_tr hI0 _ _)
theorem f_box {y : Int} (hI : CI T R V o fw fr σ t tp h A B a m H K wr pl tr) (hy : R32 y) : X g mX10_box 0 [.ref o, .int (iI y), jk] [] (T, iV V, R, J, z) k n (CQ T R J z V o (some (.int (iI (if yTr h A y = 0 then V (o + 160) y.toNat else -1)))) t tp h A B a m H K wr pl (yTr h A y)) := by
  have hI0 := hI
  obtain ⟨hC, ⟨p6, p7⟩, -, -, -, ⟨f1, f2, f3, f4⟩, -⟩ := hI
  have hyt := c_yearTrouble (g := g) (J := J) (z := z) (k := 0) (n := 0) hC p6 f1 f3 hy
  have hrf := c_refuse (g := g) (J := J) (z := z) (k := 0) (n := 0) (V := V) (x := yTr h A y) hC
  have hgr := fun x => c_grant (g := g) (J := J) (z := z) (k := 0) (n := 0) (V := V) (x := x) hC
  obtain ⟨⟨c0, c1, c2, c3, c4, c5, c6⟩, -, -, -, hU, -⟩ := hC
  obtain ⟨u0, u1', u2', u3'⟩ := hU.1
  obtain ⟨v1, v2, v3, v4, v5, v6, v7⟩ := hU.2.1
  have hTe : T (o + 155 + 5) = (1, 24) := by first | exact hU.2.2.1.1 | exact hU.2.2.1.2.1 | exact hU.2.2.1.2.2.1 | exact hU.2.2.1.2.2.2.1 | exact hU.2.2.1.2.2.2.2.1
  have hA0 := f3.1
  have hyb : yTr h A y = 0 ∨ yTr h A y = 1 ∨ yTr h A y = 2 := by unfold yTr; (repeat' split) <;> simp
  have hy0 : yTr h A y = 0 → 0 ≤ y ∧ y < A 0 0 := fun e => by
    unfold yTr at e
    split at e
    · split at e
      · omega
      · rename_i e1
        have e2 := of_decide_eq_false (Bool.eq_false_iff.mpr e1)
        omega
    · omega
  refine x_aload_n dX10_box_0 rfl ?_
  refine x_iload_n dX10_box_1 rfl ?_
  refine (show X _ _ 2 _ _ _ _ _ _ from ?_)
  refine x_callV (As := [_]) (mc := 0) (ms := 0) (z := mX10_yearTrouble) (ci := 10) dX10_box_2 lX10_135 oX10_yearTrouble (by decide) (by first | assumption) rfl rfl (Nat.le_of_ble_eq_true rfl) (Nat.le_of_ble_eq_true rfl) rfl (hyt) (k_I ?_)
  refine (show X _ _ 5 _ _ _ _ _ _ from ?_)
  refine x_istore_n dX10_box_5 (by decide) rfl rfl ?_
  refine x_iload_n dX10_box_6 rfl ?_
  refine (show X _ _ 7 _ _ _ _ _ _ from ?_)
  refine y_if_eq 18 dX10_box_7 (by decide) ⟨by omega, by omega⟩ (fun e => ?_) (fun e => ?_)
  rotate_left
  · rw [if_neg e]
    refine x_aload_n dX10_box_10 rfl ?_
    refine x_iload_n dX10_box_11 rfl ?_
    refine (show X _ _ 12 _ _ _ _ _ _ from ?_)
    refine x_callV (As := [_]) (mc := 0) (ms := 0) (z := mX10_refuse) (ci := 10) dX10_box_12 lX10_68 oX10_refuse (by decide) (by first | assumption) rfl rfl (Nat.le_of_ble_eq_true rfl) (Nat.le_of_ble_eq_true rfl) rfl (hrf) (k_I ?_)
    refine (show X _ _ 15 _ _ _ _ _ _ from ?_)
    refine x_goto 31 dX10_box_15 (by decide) ?_
    refine (show X _ _ 31 _ _ _ _ _ _ from ?_)
    exact x_ireturn dX10_box_31 rfl (CQ_tr hI0 _ _)
  · rw [if_pos e, e]
    have hy1 := hy0 e
    refine x_aload_n dX10_box_18 rfl ?_
    refine x_aload_n dX10_box_19 rfl ?_
    refine x_gr dX10_box_20 fX10_35 (by first | assumption) (fun _ _ _ => rfl) (by first | assumption) ?_
    refine x_gr dX10_box_23 fX10_163 (by first | assumption) (fun _ _ _ => rfl) (by first | assumption) ?_
    refine x_iload_n dX10_box_26 rfl ?_
    refine (show X _ _ 27 _ _ _ _ _ _ from ?_)
    refine y_iald y.toNat dX10_box_27 hTe (by omega) (by omega) (by decide) ?_
    refine (show X _ _ 28 _ _ _ _ _ _ from ?_)
    refine x_callV (As := [_]) (mc := 0) (ms := 0) (z := mX10_grant) (ci := 10) dX10_box_28 lX10_116 oX10_grant (by decide) (by first | assumption) rfl rfl (Nat.le_of_ble_eq_true rfl) (Nat.le_of_ble_eq_true rfl) rfl (hgr _) (k_I ?_)
    refine (show X _ _ 31 _ _ _ _ _ _ from ?_)
    exact x_ireturn dX10_box_31 rfl (CQ_tr hI0 _ _)
end C65
