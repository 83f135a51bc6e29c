/-! ===== the class's face: kept ===== -/
section C70
variable {g : GG} {T : Nat → Nat × Nat} {V V' A B : Nat → Nat → Int} {R : Nat → Nat → Option Nat} {J : Nat → Nat → Int64} {z k n : Nat} {o fw fr : Nat} {σ : Nat → Nat} {t : Nat → Int} {tp : Nat} {h : Bool} {a m : Nat} {H K : Nat → Nat → Nat → Int} {wr pl tr : Int}
theorem f_kept {s y : Int} (hI : CI T R V o fw fr σ t tp h A B a m H K wr pl tr) (hs : R32 s) (hy : R32 y) : X g mX10_kept 0 [.ref o, .int (iI s), .int (iI y), jk] [] (T, iV V, R, J, z) k n (CQ T R J z V o (some (.int (iI (if noS h A s = true then -1 else if noY A y = true then -1 else if (V (o + 160) y.toNat).toNat.testBit s.toNat = true then V (o + 162) (8 * y.toNat + s.toNat) else -2)))) t tp h A B a m H K wr pl (if noS h A s = true then 1 else if noY A y = true then 2 else 0)) := by
  have hno := an_no hI
  have hny := c_isNoYear (g := g) (J := J) (z := z) (k := 0) (n := 0) (p := y) hI.1 hI.2.2.2.2.2.1.1 hI.2.2.2.2.2.1.2.2.1 hy
  have hI0 := hI
  have hel := an_el hI
  obtain ⟨hC, ⟨p6, p7⟩, -, -, -, ⟨f1, f2, f3, f4⟩, -⟩ := hI
  have hnp := fun (p : Int) hp => c_isNoPerson (g := g) (J := J) (z := z) (k := 0) (n := 0) (p := p) hC p6 f1 f3 hp
  have hns := fun (p : Int) hp => c_isNoSecret (g := g) (J := J) (z := z) (k := 0) (n := 0) (p := p) hC p6 f1 f3 hp
  have hpy := fun (p y : Int) hp hy => c_personYearTrouble (g := g) (J := J) (z := z) (k := 0) (n := 0) (p := p) (y := y) hC p6 f1 f3 hp hy
  have hrf := fun x => c_refuse (g := g) (J := J) (z := z) (k := 0) (n := 0) (V := V) (x := x) hC
  have hgr := fun x => c_grant (g := g) (J := J) (z := z) (k := 0) (n := 0) (V := V) (x := x) hC
  have hsep := hC.2.2.2.2.2.2.2
  obtain ⟨⟨c0, c1, c2, c3, c4, c5, c6⟩, -, ⟨⟨w0, w1, w2, w3⟩, hFS, -⟩, -, hU, -⟩ := hC
  have hf0 := hFS.1
  obtain ⟨fR9, fR10, fR11, fR12, fR13, fR14⟩ := hFS.2.1
  obtain ⟨fT1, fT12, fT25, fT34, fT43, fT44⟩ := hFS.2.2.1
  obtain ⟨u0, u1', u2', u3'⟩ := hU.1
  obtain ⟨v1, v2, v3, v4, v5, v6, v7⟩ := hU.2.1
  have hT6 : T (o + 155 + 6) = (1, 240) := hU.2.2.1.2.2.2.2.2.1
  have ru := hU.2.2.2.1
  have ru0 := ru.1.1
  have ru2 : R (o + 155 + 8) 13 = some (o + 155 + 8 + 3) := ru.2.1.2.2.1
  have ru3 : T (o + 155 + 8 + 3) = (1, 10) := ru.2.2.2.2.1
  have hA0 := f3.1
  have hA3 := f3.2.2.2.1
  have hA6 := f3.2.2.2.2.2.2.1
  have hns := hns s hs
  have hT5 : T (o + 155 + 5) = (1, 24) := hU.2.2.1.2.2.2.2.1
  have hT7 : T (o + 155 + 7) = (1, 192) := hU.2.2.1.2.2.2.2.2.2
  refine x_aload_n dX10_kept_0 rfl ?_
  refine x_iload_n dX10_kept_1 rfl ?_
  refine (show X _ _ 2 _ _ _ _ _ _ from ?_)
  refine x_callV (As := [_]) (mc := 0) (ms := 0) (z := mX10_isNoSecret) (ci := 10) dX10_kept_2 lX10_129 oX10_isNoSecret (by decide) (by first | assumption) rfl rfl (Nat.le_of_ble_eq_true rfl) (Nat.le_of_ble_eq_true rfl) rfl (hns) (k_I ?_)
  refine (show X _ _ 5 _ _ _ _ _ _ from ?_)
  refine y_ifb_eq 14 dX10_kept_5 (by decide) (fun e => ?_) (fun e => ?_)
  rotate_left
  · rw [if_pos e, if_pos e]
    refine x_aload_n dX10_kept_8 rfl ?_
    refine y_iconst dX10_kept_9 ?_
    refine (show X _ _ 10 _ _ _ _ _ _ from ?_)
    refine x_callV (As := [_]) (mc := 0) (ms := 0) (z := mX10_refuse) (ci := 10) dX10_kept_10 lX10_68 oX10_refuse (by decide) (by first | assumption) rfl rfl (Nat.le_of_ble_eq_true rfl) (Nat.le_of_ble_eq_true rfl) rfl (hrf _) (k_I ?_)
    refine (show X _ _ 13 _ _ _ _ _ _ from ?_)
    exact x_ireturn dX10_kept_13 rfl (CQ_tr hI0 _ _)
  have en : ¬ noS h A s = true := by rw [e]; decide
  rw [if_neg en, if_neg en]
  refine x_aload_n dX10_kept_14 rfl ?_
  refine x_iload_n dX10_kept_15 rfl ?_
  refine (show X _ _ 16 _ _ _ _ _ _ from ?_)
  refine x_callV (As := [_]) (mc := 0) (ms := 0) (z := mX10_isNoYear) (ci := 10) dX10_kept_16 lX10_166 oX10_isNoYear (by decide) (by first | assumption) rfl rfl (Nat.le_of_ble_eq_true rfl) (Nat.le_of_ble_eq_true rfl) rfl (hny) (k_I ?_)
  refine (show X _ _ 19 _ _ _ _ _ _ from ?_)
  refine y_ifb_eq 28 dX10_kept_19 (by decide) (fun e1 => ?_) (fun e1 => ?_)
  rotate_left
  · rw [if_pos e1, if_pos e1]
    refine x_aload_n dX10_kept_22 rfl ?_
    refine y_iconst dX10_kept_23 ?_
    refine (show X _ _ 24 _ _ _ _ _ _ from ?_)
    refine x_callV (As := [_]) (mc := 0) (ms := 0) (z := mX10_refuse) (ci := 10) dX10_kept_24 lX10_68 oX10_refuse (by decide) (by first | assumption) rfl rfl (Nat.le_of_ble_eq_true rfl) (Nat.le_of_ble_eq_true rfl) rfl (hrf _) (k_I ?_)
    refine (show X _ _ 27 _ _ _ _ _ _ from ?_)
    exact x_ireturn dX10_kept_27 rfl (CQ_tr hI0 _ _)
  have en1 : ¬ noY A y = true := by rw [e1]; decide
  rw [if_neg en1, if_neg en1]
  have e2 := noS_f e
  have e3 : 0 ≤ y ∧ y < A 0 0 := Classical.byContradiction fun c => (of_decide_eq_false e1) c
  have hb5 := (hno e2.1 y.toNat (show y.toNat < (A 0 0).toNat by omega)).1
  have es : ((s.toNat : Nat) : Int) = s := Int.toNat_of_nonneg e2.2.1
  have hh := c_has g (V (o + 160) y.toNat).toNat s.toNat (T, iV V, R, J, z) 0 0 (by have : V (o + 160) y.toNat < 256 := hb5.2; omega) (by omega)
  rw [es] at hh
  refine x_aload_n dX10_kept_28 rfl ?_
  refine x_gr dX10_kept_29 fX10_35 (by first | assumption) (fun _ _ _ => rfl) (by first | assumption) ?_
  refine x_gr dX10_kept_32 fX10_163 (by first | assumption) (fun _ _ _ => rfl) (by first | assumption) ?_
  refine x_iload_n dX10_kept_35 rfl ?_
  refine y_iald (y.toNat) dX10_kept_36 (by first | assumption) (by first | rfl | omega) (by omega) (by decide) ?_
  refine (show X _ _ 37 _ _ _ _ _ _ from ?_)
  refine X.val (b := ((V (o + 160) y.toNat).toNat : Int)) (Int.toNat_of_nonneg hb5.1).symm ?_
  refine x_iload_n dX10_kept_37 rfl ?_
  refine (show X _ _ 38 _ _ _ _ _ _ from ?_)
  refine x_callS (As := [_, _]) (mc := 0) (ms := 0) (z := mX10_has) dX10_kept_38 lX10_169 oX10_has (by decide) rfl (Nat.le_of_ble_eq_true rfl) (Nat.le_of_ble_eq_true rfl) rfl (hh) (k_I ?_)
  refine (show X _ _ 41 _ _ _ _ _ _ from ?_)
  refine x_istore_n dX10_kept_41 (by decide) rfl rfl ?_
  refine x_aload_n dX10_kept_42 rfl ?_
  refine x_iload_n dX10_kept_43 rfl ?_
  refine (show X _ _ 44 _ _ _ _ _ _ from ?_)
  refine y_ifb_eq 64 dX10_kept_44 (by decide) (fun e4 => ?_) (fun e4 => ?_)
  · rw [if_neg (by rw [e4]; decide)]
    refine y_bipush dX10_kept_64 rfl ?_
    refine (show X _ _ 66 _ _ _ _ _ _ from ?_)
    refine x_callV (As := [_]) (mc := 0) (ms := 0) (z := mX10_grant) (ci := 10) dX10_kept_66 lX10_116 oX10_grant (by decide) (by first | assumption) rfl rfl (Nat.le_of_ble_eq_true rfl) (Nat.le_of_ble_eq_true rfl) rfl (hgr _) (k_I ?_)
    refine (show X _ _ 69 _ _ _ _ _ _ from ?_)
    exact x_ireturn dX10_kept_69 rfl (CQ_tr hI0 _ _)
  · rw [if_pos e4]
    refine x_aload_n dX10_kept_47 rfl ?_
    refine x_gr dX10_kept_48 fX10_35 (by first | assumption) (fun _ _ _ => rfl) (by first | assumption) ?_
    refine x_gr dX10_kept_51 fX10_173 (by first | assumption) (fun _ _ _ => rfl) (by first | assumption) ?_
    refine x_iload_n dX10_kept_54 rfl ?_
    refine y_bipush dX10_kept_55 rfl ?_
    refine y_imul dX10_kept_57 ?_
    refine x_iload_n dX10_kept_58 rfl ?_
    refine y_iadd dX10_kept_59 ?_
    refine (show X _ _ 60 _ _ _ _ _ _ from ?_)
    refine y_iald (8 * y.toNat + s.toNat) dX10_kept_60 (by first | assumption) (by first | rfl | omega) (by omega) (by decide) ?_
    refine x_goto 66 dX10_kept_61 (by decide) ?_
    refine (show X _ _ 66 _ _ _ _ _ _ from ?_)
    refine x_callV (As := [_]) (mc := 0) (ms := 0) (z := mX10_grant) (ci := 10) dX10_kept_66 lX10_116 oX10_grant (by decide) (by first | assumption) rfl rfl (Nat.le_of_ble_eq_true rfl) (Nat.le_of_ble_eq_true rfl) rfl (hgr _) (k_I ?_)
    refine (show X _ _ 69 _ _ _ _ _ _ from ?_)
    exact x_ireturn dX10_kept_69 rfl (CQ_tr hI0 _ _)
end C70
