/-! ===== the reference: kept, soonest, as told, size ===== -/
section C98
variable {g : GG} {T : Nat → Nat × Nat} {V E A B Wi Ni : Nat → Nat → Int} {R : Nat → Nat → Option Nat} {J : Nat → Nat → Int64} {z k n : Nat} {r f : Nat} {t : Nat → Int} {tp : Nat} {h : Bool} {a m : Nat} {H K : Nat → Nat → Nat → Int} {wr pl tr : Int}
theorem k_kept {s y : Int} (hI : DI T R V r f E t tp h A B a m H K wr pl tr) (hs : R32 s) (hy : R32 y) (hNi : NOk Ni) : X g mX12_kept 0 [.ref r, .int (iI s), .int (iI y), jk] [] (T, iV (pB V r 24 E), R, J, z) k n (DQ T R J z V r f (some (.int (iI (if noS h A s = true then -1 else if noY A y = true then -1 else if (nTo A B (rBeg A Wi (B 0 0) (B 0 1)) (nBeg A Ni) (y.toNat + 1) 0 1).toNat.testBit s.toNat = true then nTo A B (rBeg A Wi (B 0 0) (B 0 1)) (nBeg A Ni) (y.toNat + 1) 2 s.toNat else -2)))) t tp h A B a m H K wr pl (if noS h A s = true then 1 else if noY A y = true then 2 else 0)) := by
  have hM := hI.1
  have hI1 := DI_sc hI (Sc_th hI 0)
  have hip := k_isSecret (g := g) (J := J) (z := z) (k := 0) (n := 0) (p := s) hI1 hs
  have hrf := fun x => k_refused (g := g) (V := V) (E := u2 E 0 0 0) (J := J) (z := z) (k := 0) (n := 0) (x := x) hM
  cases e : noS h A s
  rotate_left
  · rw [e] at hip
    have hak := k_asksY0 (g := g) (J := J) (z := z) (k := 0) (n := 0) (b := !true) hI1 hy (fun c => by cases c.2.1)
    rw [if_neg (fun c => by cases c.2)] at hak
    rw [if_pos rfl, if_pos rfl]
    obtain ⟨m0, ⟨-, -, -, -, -, -, -, m23, -, -, -, -, -, m29, -, -, -, -, -, -, -, -, -⟩, ⟨-, -, -, -, -, -, -, mk8, -, -, -, -, -, mk14, -, -, -, -, -, -, -, -, -⟩⟩ := id hM
    refine x_aload_n dX12_kept_0 rfl ?_
    refine y_iconst dX12_kept_1 ?_
    refine b_pi0 (r := r) (m := 24) dX12_kept_2 (pX12_85 _) (by first | assumption) (fun _ _ _ => rfl) rfl rfl (by decide) ?_
    refine x_aload_n dX12_kept_5 rfl ?_
    refine x_aload_n dX12_kept_6 rfl ?_
    refine x_iload_n dX12_kept_7 rfl ?_
    refine (show X _ _ 8 _ _ _ _ _ _ from ?_)
    refine x_callV (As := [_]) (mc := 0) (ms := 0) (z := mX12_isSecretNumber) (ci := 12) dX12_kept_8 lX12_516 oX12_isSecretNumber (by decide) (by first | assumption) rfl rfl (Nat.le_of_ble_eq_true rfl) (Nat.le_of_ble_eq_true rfl) rfl (hip) (k_I ?_)
    refine (show X _ _ 11 _ _ _ _ _ _ from ?_)
    refine x_iload_n dX12_kept_11 rfl ?_
    refine (show X _ _ 12 _ _ _ _ _ _ from ?_)
    refine x_callV (As := [_, _]) (mc := 0) (ms := 0) (z := mX12_asksYear) (ci := 12) dX12_kept_12 lX12_519 oX12_asksYear (by decide) (by first | assumption) rfl rfl (Nat.le_of_ble_eq_true rfl) (Nat.le_of_ble_eq_true rfl) rfl (hak) (k_I ?_)
    refine (show X _ _ 15 _ _ _ _ _ _ from ?_)
    refine x_istore_n dX12_kept_15 (by decide) rfl rfl ?_
    refine x_iload_n dX12_kept_16 rfl ?_
    refine (show X _ _ 17 _ _ _ _ _ _ from ?_)
    refine y_if_le 26 dX12_kept_17 (by decide) ⟨by omega, by omega⟩ (fun c => ?_) (fun c => ?_)
    · exact absurd c (by decide)
    refine x_aload_n dX12_kept_20 rfl ?_
    refine x_iload_n dX12_kept_21 rfl ?_
    refine (show X _ _ 22 _ _ _ _ _ _ from ?_)
    refine x_callV (As := [_]) (mc := 0) (ms := 0) (z := mX12_refused) (ci := 12) dX12_kept_22 lX12_91 oX12_refused (by decide) (by first | assumption) rfl rfl (Nat.le_of_ble_eq_true rfl) (Nat.le_of_ble_eq_true rfl) rfl (hrf _) (k_I ?_)
    refine (show X _ _ 25 _ _ _ _ _ _ from ?_)
    exact x_ireturn dX12_kept_25 rfl (DQ_tr hI1 1 (by decide) _)
  rw [e] at hip
  obtain ⟨rfl, e3, e4⟩ := noS_f e
  rw [if_neg (show ¬ (false = true) by decide), if_neg (show ¬ (false = true) by decide)]
  cases e1 : noY A y
  rotate_left
  · have hak := k_asksY0 (g := g) (J := J) (z := z) (k := 0) (n := 0) (b := !false) hI1 hy (fun c => by rw [e1] at c; cases c.2.2)
    rw [if_pos ⟨rfl, rfl⟩] at hak
    rw [if_pos rfl, if_pos rfl]
    obtain ⟨m0, ⟨-, -, -, -, -, -, -, m23, -, -, -, -, -, m29, -, -, -, -, -, -, -, -, -⟩, ⟨-, -, -, -, -, -, -, mk8, -, -, -, -, -, mk14, -, -, -, -, -, -, -, -, -⟩⟩ := id hM
    refine x_aload_n dX12_kept_0 rfl ?_
    refine y_iconst dX12_kept_1 ?_
    refine b_pi0 (r := r) (m := 24) dX12_kept_2 (pX12_85 _) (by first | assumption) (fun _ _ _ => rfl) rfl rfl (by decide) ?_
    refine x_aload_n dX12_kept_5 rfl ?_
    refine x_aload_n dX12_kept_6 rfl ?_
    refine x_iload_n dX12_kept_7 rfl ?_
    refine (show X _ _ 8 _ _ _ _ _ _ from ?_)
    refine x_callV (As := [_]) (mc := 0) (ms := 0) (z := mX12_isSecretNumber) (ci := 12) dX12_kept_8 lX12_516 oX12_isSecretNumber (by decide) (by first | assumption) rfl rfl (Nat.le_of_ble_eq_true rfl) (Nat.le_of_ble_eq_true rfl) rfl (hip) (k_I ?_)
    refine (show X _ _ 11 _ _ _ _ _ _ from ?_)
    refine x_iload_n dX12_kept_11 rfl ?_
    refine (show X _ _ 12 _ _ _ _ _ _ from ?_)
    refine x_callV (As := [_, _]) (mc := 0) (ms := 0) (z := mX12_asksYear) (ci := 12) dX12_kept_12 lX12_519 oX12_asksYear (by decide) (by first | assumption) rfl rfl (Nat.le_of_ble_eq_true rfl) (Nat.le_of_ble_eq_true rfl) rfl (hak) (k_I ?_)
    refine (show X _ _ 15 _ _ _ _ _ _ from ?_)
    refine x_istore_n dX12_kept_15 (by decide) rfl rfl ?_
    refine x_iload_n dX12_kept_16 rfl ?_
    refine (show X _ _ 17 _ _ _ _ _ _ from ?_)
    refine y_if_le 26 dX12_kept_17 (by decide) ⟨by omega, by omega⟩ (fun c => ?_) (fun c => ?_)
    · exact absurd c (by decide)
    refine x_aload_n dX12_kept_20 rfl ?_
    refine x_iload_n dX12_kept_21 rfl ?_
    refine (show X _ _ 22 _ _ _ _ _ _ from ?_)
    refine x_callV (As := [_]) (mc := 0) (ms := 0) (z := mX12_refused) (ci := 12) dX12_kept_22 lX12_91 oX12_refused (by decide) (by first | assumption) rfl rfl (Nat.le_of_ble_eq_true rfl) (Nat.le_of_ble_eq_true rfl) rfl (hrf _) (k_I ?_)
    refine (show X _ _ 25 _ _ _ _ _ _ from ?_)
    exact x_ireturn dX12_kept_25 rfl (DQ_tr hI1 2 (by decide) _)
  rw [if_neg (show ¬ (false = true) by decide), if_neg (show ¬ (false = true) by decide)]
  have hak := k_asksY (g := g) (J := J) (z := z) (k := 0) (n := 0) (Wi := Wi) (Ni := Ni) hI1 hy e1 hNi
  have hgo := fun (E' : Nat → Nat → Int) x => k_good (g := g) (V := V) (E := E') (J := J) (z := z) (k := 0) (n := 0) (x := x) hM
  obtain ⟨⟨hf, hG, hF, hap⟩, ⟨hA, hB, hY4, -⟩, -⟩ := hI.2.2.2.2.2.2 rfl
  have eS := fS8 hA
  have eY := fY24 hA
  have hyy := noY_f e1
  have hyn : y.toNat < fY A := by omega
  have hok := nTo_ok hA hB (rBeg_ok (W := Wi) hA hB.1 hB.2.1) (nBeg_ok hA hNi) (y.toNat + 1)
  have hbt := fun (E' : Nat → Nat → Int) => c_bit g (nTo A B (rBeg A Wi (B 0 0) (B 0 1)) (nBeg A Ni) (y.toNat + 1) 0 1).toNat s.toNat (T, iV (pB V r 24 E'), R, J, z) 0 0 (by have := hok.1; omega) (by omega)
  rw [Int.toNat_of_nonneg e3] at hbt
  obtain ⟨m0, ⟨-, -, -, -, -, -, -, m23, -, -, -, -, -, m29, -, -, -, -, -, -, -, -, -⟩, ⟨-, -, -, -, -, -, -, mk8, -, -, -, -, -, mk14, -, -, -, -, -, -, -, -, -⟩⟩ := id hM
  refine x_aload_n dX12_kept_0 rfl ?_
  refine y_iconst dX12_kept_1 ?_
  refine b_pi0 (r := r) (m := 24) dX12_kept_2 (pX12_85 _) (by first | assumption) (fun _ _ _ => rfl) rfl rfl (by decide) ?_
  refine x_aload_n dX12_kept_5 rfl ?_
  refine x_aload_n dX12_kept_6 rfl ?_
  refine x_iload_n dX12_kept_7 rfl ?_
  refine (show X _ _ 8 _ _ _ _ _ _ from ?_)
  refine x_callV (As := [_]) (mc := 0) (ms := 0) (z := mX12_isSecretNumber) (ci := 12) dX12_kept_8 lX12_516 oX12_isSecretNumber (by decide) (by first | assumption) rfl rfl (Nat.le_of_ble_eq_true rfl) (Nat.le_of_ble_eq_true rfl) rfl (hip) (k_I ?_)
  refine (show X _ _ 11 _ _ _ _ _ _ from ?_)
  refine x_iload_n dX12_kept_11 rfl ?_
  refine (show X _ _ 12 _ _ _ _ _ _ from ?_)
  refine x_callV (As := [_, _]) (mc := 0) (ms := 0) (z := mX12_asksYear) (ci := 12) dX12_kept_12 lX12_519 oX12_asksYear (by decide) (by first | assumption) rfl rfl (Nat.le_of_ble_eq_true rfl) (Nat.le_of_ble_eq_true rfl) rfl (hak) (fun v M1 hq => ?_)
  obtain ⟨rfl, E', rfl, hq⟩ := hq
  refine (show X _ _ 15 _ [.int (iI 0)] _ _ _ _ from ?_)
  have hI2 := DI_sc hI1 (RnQ_sc hI1 hq)
  obtain ⟨⟨hRM, hNM, hrc, hhd, -⟩, -⟩ := hq
  obtain ⟨⟨-, -, c3, -⟩, -, -, c6⟩ := hrc y.toNat hyn
  have c6 := c6 s.toNat (by omega)
  generalize nTo A B (rBeg A Wi (B 0 0) (B 0 1)) (nBeg A Ni) (y.toNat + 1) = N at *
  refine x_istore_n dX12_kept_15 (by decide) rfl rfl ?_
  refine x_iload_n dX12_kept_16 rfl ?_
  refine (show X _ _ 17 _ _ _ _ _ _ from ?_)
  refine y_if_le 26 dX12_kept_17 (by decide) ⟨by omega, by omega⟩ (fun c => ?_) (fun c => ?_)
  rotate_left
  · exact absurd c (by decide)
  refine x_aload_n dX12_kept_26 rfl ?_
  refine x_aload_n dX12_kept_27 rfl ?_
  refine x_gr dX12_kept_28 fX12_36 (by first | assumption) (fun _ _ _ => rfl) (by first | assumption) ?_
  refine x_iload_n dX12_kept_31 rfl ?_
  refine b_iald (r := r) (m := 24) (j := 8) (y.toNat) dX12_kept_32 (by first | assumption) (by first | rfl | omega) (by omega) (by decide) (by decide) ?_
  refine (show X _ _ 33 _ _ _ _ _ _ from ?_)
  refine X.val (b := ((N 0 1).toNat : Int)) (by rw [c3]; have := hok.1; omega) ?_
  refine x_iload_n dX12_kept_33 rfl ?_
  refine (show X _ _ 34 _ _ _ _ _ _ from ?_)
  refine x_callS (As := [_, _]) (mc := 0) (ms := 0) (z := mX12_bit) dX12_kept_34 lX12_386 oX12_bit (by decide) rfl (Nat.le_of_ble_eq_true rfl) (Nat.le_of_ble_eq_true rfl) rfl (hbt E') (k_I ?_)
  refine (show X _ _ 37 _ _ _ _ _ _ from ?_)
  refine y_ifb_eq 54 dX12_kept_37 (by decide) (fun h1 => ?_) (fun h1 => ?_)
  · rw [if_neg (by rw [h1]; decide)]
    refine y_bipush dX12_kept_54 rfl ?_
    refine (show X _ _ 56 _ _ _ _ _ _ from ?_)
    refine x_callV (As := [_]) (mc := 0) (ms := 0) (z := mX12_good) (ci := 12) dX12_kept_56 lX12_95 oX12_good (by decide) (by first | assumption) rfl rfl (Nat.le_of_ble_eq_true rfl) (Nat.le_of_ble_eq_true rfl) rfl (hgo _ _) (k_I ?_)
    refine (show X _ _ 59 _ _ _ _ _ _ from ?_)
    exact x_ireturn dX12_kept_59 rfl (DQ_tr hI2 0 (by decide) _)
  · rw [if_pos h1]
    refine x_aload_n dX12_kept_40 rfl ?_
    refine x_gr dX12_kept_41 fX12_55 (by first | assumption) (fun _ _ _ => rfl) (by first | assumption) ?_
    refine y_bipush dX12_kept_44 rfl ?_
    refine x_iload_n dX12_kept_46 rfl ?_
    refine y_imul dX12_kept_47 ?_
    refine x_iload_n dX12_kept_48 rfl ?_
    refine y_iadd dX12_kept_49 ?_
    refine b_iald (r := r) (m := 24) (j := 14) (8 * y.toNat + s.toNat) dX12_kept_50 (by first | assumption) (by first | rfl | omega) (by omega) (by decide) (by decide) ?_
    refine (show X _ _ 51 _ _ _ _ _ _ from ?_)
    refine X.val (c6 h1) ?_
    refine x_goto 56 dX12_kept_51 (by decide) ?_
    refine (show X _ _ 56 _ _ _ _ _ _ from ?_)
    refine x_callV (As := [_]) (mc := 0) (ms := 0) (z := mX12_good) (ci := 12) dX12_kept_56 lX12_95 oX12_good (by decide) (by first | assumption) rfl rfl (Nat.le_of_ble_eq_true rfl) (Nat.le_of_ble_eq_true rfl) rfl (hgo _ _) (k_I ?_)
    refine (show X _ _ 59 _ _ _ _ _ _ from ?_)
    exact x_ireturn dX12_kept_59 rfl (DQ_tr hI2 0 (by decide) _)
theorem k_soonest {s p : Int} (hI : DI T R V r f E t tp h A B a m H K wr pl tr) (hs : R32 s) (hp : R32 p) (hNi : NOk Ni) : X g mX12_soonest 0 [.ref r, .int (iI s), .int (iI p), jk] [] (T, iV (pB V r 24 E), R, J, z) k n (DQ T R J z V r f (some (.int (iI (if noS h A s = true ∨ noP h A p = true then -1 else fiC (fun y => (nTo A B (rBeg A Wi (B 0 0) (B 0 1)) (nBeg A Ni) (y + 1) 1 p.toNat).toNat.testBit s.toNat) (fY A) 0)))) t tp h A B a m H K wr pl (if noS h A s = true ∨ noP h A p = true then 1 else 0)) := by
  have hM := hI.1
  have hI1 := DI_sc hI (Sc_th hI 0)
  have his := k_isSecret (g := g) (J := J) (z := z) (k := 0) (n := 0) (p := s) hI1 hs
  have hip := k_isPerson (g := g) (J := J) (z := z) (k := 0) (n := 0) (p := p) hI1 hp
  have hrf := k_refused (g := g) (V := V) (E := u2 E 0 0 0) (J := J) (z := z) (k := 0) (n := 0) (x := 1) hM
  by_cases e : noS h A s = true ∨ noP h A p = true
  · have hak := k_asks0 (g := g) (J := J) (z := z) (k := 0) (n := 0) (b := false) hI1 (fun c => by cases c.2)
    rw [if_pos e, if_pos e]
    obtain ⟨m0, ⟨-, -, -, -, -, -, -, -, -, -, -, -, m28, -, -, -, -, -, -, -, -, -, -⟩, ⟨-, -, -, -, -, -, -, -, -, -, -, -, mk13, -, -, -, -, -, -, -, -, -, -⟩⟩ := id hM
    have fin : X g mX12_soonest 26 [.ref r, .int (iI s), .int (iI p), jk] [.ref r] (T, iV (pB V r 24 (u2 E 0 0 0)), R, J, z) k n (DQ T R J z V r f (some (.int (iI (-1)))) t tp h A B a m H K wr pl (1)) := by
      refine y_iconst dX12_soonest_26 ?_
      refine (show X _ _ 27 _ _ _ _ _ _ from ?_)
      refine X.val (b := bI false) rfl ?_
      refine x_callV (As := [_]) (mc := 0) (ms := 0) (z := mX12_asks) (ci := 12) dX12_soonest_27 lX12_523 oX12_asks (by decide) (by first | assumption) rfl rfl (Nat.le_of_ble_eq_true rfl) (Nat.le_of_ble_eq_true rfl) rfl (hak) (k_I ?_)
      refine (show X _ _ 30 _ _ _ _ _ _ from ?_)
      refine y_ifb_ne 39 dX12_soonest_30 (by decide) (fun c => ?_) (fun c => ?_)
      · cases c
      refine x_aload_n dX12_soonest_33 rfl ?_
      refine y_iconst dX12_soonest_34 ?_
      refine (show X _ _ 35 _ _ _ _ _ _ from ?_)
      refine x_callV (As := [_]) (mc := 0) (ms := 0) (z := mX12_refused) (ci := 12) dX12_soonest_35 lX12_91 oX12_refused (by decide) (by first | assumption) rfl rfl (Nat.le_of_ble_eq_true rfl) (Nat.le_of_ble_eq_true rfl) rfl (hrf) (k_I ?_)
      refine (show X _ _ 38 _ _ _ _ _ _ from ?_)
      exact x_ireturn dX12_soonest_38 rfl (DQ_tr hI1 1 (by decide) _)
    refine x_aload_n dX12_soonest_0 rfl ?_
    refine y_iconst dX12_soonest_1 ?_
    refine b_pi0 (r := r) (m := 24) dX12_soonest_2 (pX12_85 _) (by first | assumption) (fun _ _ _ => rfl) rfl rfl (by decide) ?_
    refine x_aload_n dX12_soonest_5 rfl ?_
    refine x_aload_n dX12_soonest_6 rfl ?_
    refine x_iload_n dX12_soonest_7 rfl ?_
    refine (show X _ _ 8 _ _ _ _ _ _ from ?_)
    refine x_callV (As := [_]) (mc := 0) (ms := 0) (z := mX12_isSecretNumber) (ci := 12) dX12_soonest_8 lX12_516 oX12_isSecretNumber (by decide) (by first | assumption) rfl rfl (Nat.le_of_ble_eq_true rfl) (Nat.le_of_ble_eq_true rfl) rfl (his) (k_I ?_)
    refine (show X _ _ 11 _ _ _ _ _ _ from ?_)
    refine y_ifb_eq 26 dX12_soonest_11 (by decide) (fun c1 => ?_) (fun c1 => ?_)
    · exact fin
    refine x_aload_n dX12_soonest_14 rfl ?_
    refine x_iload_n dX12_soonest_15 rfl ?_
    refine (show X _ _ 16 _ _ _ _ _ _ from ?_)
    refine x_callV (As := [_]) (mc := 0) (ms := 0) (z := mX12_isPerson) (ci := 12) dX12_soonest_16 lX12_513 oX12_isPerson (by decide) (by first | assumption) rfl rfl (Nat.le_of_ble_eq_true rfl) (Nat.le_of_ble_eq_true rfl) rfl (hip) (k_I ?_)
    refine (show X _ _ 19 _ _ _ _ _ _ from ?_)
    refine y_ifb_eq 26 dX12_soonest_19 (by decide) (fun c2 => ?_) (fun c2 => ?_)
    · exact fin
    · exfalso
      rcases e with e | e
      · rw [e] at c1; cases c1
      · rw [e] at c2; cases c2
  have e1 : noS h A s = false := by
    cases c : noS h A s
    · rfl
    · exact absurd (Or.inl c) e
  have e2 : noP h A p = false := by
    cases c : noP h A p
    · rfl
    · exact absurd (Or.inr c) e
  rw [e1] at his
  rw [e2] at hip
  rw [if_neg e, if_neg e]
  obtain ⟨rfl, e3, e4⟩ := noS_f e1
  obtain ⟨-, e5, e6⟩ := noP_f e2
  have hak := k_asks (g := g) (J := J) (z := z) (k := 0) (n := 0) (Wi := Wi) (Ni := Ni) hI1 hNi
  have hgo := fun (E' : Nat → Nat → Int) x => k_good (g := g) (V := V) (E := E') (J := J) (z := z) (k := 0) (n := 0) (x := x) hM
  obtain ⟨⟨hf, hG, hF, hap⟩, ⟨hA, hB, hY4, -⟩, -⟩ := hI.2.2.2.2.2.2 rfl
  have eP := fP10 hA
  have eS := fS8 hA
  have eY := fY24 hA
  have hok := fun i => nTo_ok hA hB (rBeg_ok (W := Wi) hA hB.1 hB.2.1) (nBeg_ok hA hNi) i
  have hbt := fun (E' : Nat → Nat → Int) i => c_bit g (nTo A B (rBeg A Wi (B 0 0) (B 0 1)) (nBeg A Ni) (i + 1) 1 p.toNat).toNat s.toNat (T, iV (pB V r 24 E'), R, J, z) 0 0 (by have := (hok (i + 1)).2.1 p.toNat (by omega); omega) (by omega)
  rw [Int.toNat_of_nonneg e3] at hbt
  obtain ⟨m0, ⟨-, -, -, -, -, -, -, -, -, -, -, -, m28, -, -, -, -, -, -, -, -, -, -⟩, ⟨-, -, -, -, -, -, -, -, -, -, -, -, mk13, -, -, -, -, -, -, -, -, -, -⟩⟩ := id hM
  have g0 := hG.1
  have e0 := hF.1 0 (by decide)
  unfold apF at hap
  refine x_aload_n dX12_soonest_0 rfl ?_
  refine y_iconst dX12_soonest_1 ?_
  refine b_pi0 (r := r) (m := 24) dX12_soonest_2 (pX12_85 _) (by first | assumption) (fun _ _ _ => rfl) rfl rfl (by decide) ?_
  refine x_aload_n dX12_soonest_5 rfl ?_
  refine x_aload_n dX12_soonest_6 rfl ?_
  refine x_iload_n dX12_soonest_7 rfl ?_
  refine (show X _ _ 8 _ _ _ _ _ _ from ?_)
  refine x_callV (As := [_]) (mc := 0) (ms := 0) (z := mX12_isSecretNumber) (ci := 12) dX12_soonest_8 lX12_516 oX12_isSecretNumber (by decide) (by first | assumption) rfl rfl (Nat.le_of_ble_eq_true rfl) (Nat.le_of_ble_eq_true rfl) rfl (his) (k_I ?_)
  refine (show X _ _ 11 _ _ _ _ _ _ from ?_)
  refine y_ifb_eq 26 dX12_soonest_11 (by decide) (fun c1 => ?_) (fun c1 => ?_)
  · cases c1
  refine x_aload_n dX12_soonest_14 rfl ?_
  refine x_iload_n dX12_soonest_15 rfl ?_
  refine (show X _ _ 16 _ _ _ _ _ _ from ?_)
  refine x_callV (As := [_]) (mc := 0) (ms := 0) (z := mX12_isPerson) (ci := 12) dX12_soonest_16 lX12_513 oX12_isPerson (by decide) (by first | assumption) rfl rfl (Nat.le_of_ble_eq_true rfl) (Nat.le_of_ble_eq_true rfl) rfl (hip) (k_I ?_)
  refine (show X _ _ 19 _ _ _ _ _ _ from ?_)
  refine y_ifb_eq 26 dX12_soonest_19 (by decide) (fun c2 => ?_) (fun c2 => ?_)
  · cases c2
  refine y_iconst dX12_soonest_22 ?_
  refine x_goto 27 dX12_soonest_23 (by decide) ?_
  refine (show X _ _ 27 _ _ _ _ _ _ from ?_)
  refine X.val (b := bI true) rfl ?_
  refine x_callV (As := [_]) (mc := 0) (ms := 0) (z := mX12_asks) (ci := 12) dX12_soonest_27 lX12_523 oX12_asks (by decide) (by first | assumption) rfl rfl (Nat.le_of_ble_eq_true rfl) (Nat.le_of_ble_eq_true rfl) rfl (hak) (fun v M1 hq => ?_)
  obtain ⟨rfl, E', rfl, hq⟩ := hq
  refine (show X _ _ 30 _ [.int (iI (bI true))] _ _ _ _ from ?_)
  have hI2 := DI_sc hI1 (RnQ_sc hI1 hq)
  obtain ⟨⟨hRM, hNM, hrc, hhd, -⟩, -⟩ := hq
  refine y_ifb_ne 39 dX12_soonest_30 (by decide) (fun c3 => ?_) (fun c3 => ?_)
  rotate_left
  · cases c3
  generalize nTo A B (rBeg A Wi (B 0 0) (B 0 1)) (nBeg A Ni) = Ns at *
  refine y_iconst dX12_soonest_39 ?_
  refine x_istore_n dX12_soonest_40 (by decide) rfl rfl ?_
  refine (show X _ _ 41 _ _ _ _ _ _ from ?_)
  refine loopN (P := fun i => fiC (fun y => (Ns (y + 1) 1 p.toNat).toNat.testBit s.toNat) (fY A) 0 = fiC (fun y => (Ns (y + 1) 1 p.toNat).toNat.testBit s.toNat) (fY A - i) i → X g mX12_soonest 41 [.ref r, .int (iI s), .int (iI p), .int (iI (i : Int))] [] (T, iV (pB V r 24 E'), R, J, z) k n (DQ T R J z V r f (some (.int (iI (fiC (fun y => (Ns (y + 1) 1 p.toNat).toNat.testBit s.toNat) (fY A) 0)))) t tp true A B a m H K wr pl (0))) (fY A) ?_ (fun i hi ih => ?_) rfl
  · intro he
    rw [he, Nat.sub_self]
    refine x_iload_n dX12_soonest_41 rfl ?_
    refine x_aload_n dX12_soonest_42 rfl ?_
    refine x_gr dX12_soonest_43 fX12_409 (by first | assumption) (fun _ _ _ => rfl) (by first | assumption) ?_
    refine b_gio (r := r) (m := 24) dX12_soonest_46 fX12_176 (by first | assumption) (fun _ _ _ => rfl) (by omega) ?_
    refine (show X _ _ 49 _ _ _ _ _ _ from ?_)
    refine X.val e0 ?_
    refine y_icmp_ge 82 dX12_soonest_49 (by decide) ⟨by omega, by omega⟩ ⟨by omega, by omega⟩ (fun h1 => ?_) (fun h1 => ?_)
    rotate_left
    · omega
    refine x_aload_n dX12_soonest_82 rfl ?_
    refine y_bipush dX12_soonest_83 rfl ?_
    refine (show X _ _ 85 _ _ _ _ _ _ from ?_)
    refine x_callV (As := [_]) (mc := 0) (ms := 0) (z := mX12_good) (ci := 12) dX12_soonest_85 lX12_95 oX12_good (by decide) (by first | assumption) rfl rfl (Nat.le_of_ble_eq_true rfl) (Nat.le_of_ble_eq_true rfl) rfl (hgo _ _) (k_I ?_)
    refine (show X _ _ 88 _ _ _ _ _ _ from ?_)
    exact x_ireturn dX12_soonest_88 rfl (DQ_tr hI2 0 (by decide) _)
  · intro he
    have es : fiC (fun y => (Ns (y + 1) 1 p.toNat).toNat.testBit s.toNat) (fY A - i) i = if (Ns (i + 1) 1 p.toNat).toNat.testBit s.toNat = true then (i : Int) else fiC (fun y => (Ns (y + 1) 1 p.toNat).toNat.testBit s.toNat) (fY A - (i + 1)) (i + 1) := by
      rw [show fY A - i = (fY A - (i + 1)) + 1 by omega]; rfl
    have c5 := (hrc i hi).2.2.1 p.toNat (by omega)
    refine x_iload_n dX12_soonest_41 rfl ?_
    refine x_aload_n dX12_soonest_42 rfl ?_
    refine x_gr dX12_soonest_43 fX12_409 (by first | assumption) (fun _ _ _ => rfl) (by first | assumption) ?_
    refine b_gio (r := r) (m := 24) dX12_soonest_46 fX12_176 (by first | assumption) (fun _ _ _ => rfl) (by omega) ?_
    refine (show X _ _ 49 _ _ _ _ _ _ from ?_)
    refine X.val e0 ?_
    refine y_icmp_ge 82 dX12_soonest_49 (by decide) ⟨by omega, by omega⟩ ⟨by omega, by omega⟩ (fun h1 => ?_) (fun h1 => ?_)
    · omega
    refine x_aload_n dX12_soonest_52 rfl ?_
    refine x_gr dX12_soonest_53 fX12_52 (by first | assumption) (fun _ _ _ => rfl) (by first | assumption) ?_
    refine y_bipush dX12_soonest_56 rfl ?_
    refine x_iload_n dX12_soonest_58 rfl ?_
    refine y_imul dX12_soonest_59 ?_
    refine x_iload_n dX12_soonest_60 rfl ?_
    refine y_iadd dX12_soonest_61 ?_
    refine b_iald (r := r) (m := 24) (j := 13) (10 * i + p.toNat) dX12_soonest_62 (by first | assumption) (by first | rfl | omega) (by omega) (by decide) (by decide) ?_
    refine (show X _ _ 63 _ _ _ _ _ _ from ?_)
    refine X.val (b := ((Ns (i + 1) 1 p.toNat).toNat : Int)) (by rw [c5]; have := (hok (i + 1)).2.1 p.toNat (by omega); omega) ?_
    refine x_iload_n dX12_soonest_63 rfl ?_
    refine (show X _ _ 64 _ _ _ _ _ _ from ?_)
    refine x_callS (As := [_, _]) (mc := 0) (ms := 0) (z := mX12_bit) dX12_soonest_64 lX12_386 oX12_bit (by decide) rfl (Nat.le_of_ble_eq_true rfl) (Nat.le_of_ble_eq_true rfl) rfl (hbt E' i) (k_I ?_)
    refine (show X _ _ 67 _ _ _ _ _ _ from ?_)
    refine y_ifb_eq 76 dX12_soonest_67 (by decide) (fun h2 => ?_) (fun h2 => ?_)
    · rw [es, if_neg (by rw [h2]; decide)] at he
      refine y_iinc dX12_soonest_76 rfl (by decide) rfl rfl ?_
      refine x_goto 41 dX12_soonest_79 (by decide) ?_
      refine (show X _ _ 41 _ _ _ _ _ _ from ?_)
      exact ih he
    · rw [es, if_pos h2] at he
      rw [he]
      refine x_aload_n dX12_soonest_70 rfl ?_
      refine x_iload_n dX12_soonest_71 rfl ?_
      refine (show X _ _ 72 _ _ _ _ _ _ from ?_)
      refine x_callV (As := [_]) (mc := 0) (ms := 0) (z := mX12_good) (ci := 12) dX12_soonest_72 lX12_95 oX12_good (by decide) (by first | assumption) rfl rfl (Nat.le_of_ble_eq_true rfl) (Nat.le_of_ble_eq_true rfl) rfl (hgo _ _) (k_I ?_)
      refine (show X _ _ 75 _ _ _ _ _ _ from ?_)
      exact x_ireturn dX12_soonest_75 rfl (DQ_tr hI2 0 (by decide) _)
theorem k_secret {p : Int} (hI : DI T R V r f E t tp h A B a m H K wr pl tr) (hp : R32 p) : X g mX12_secret 0 [.ref r, .int (iI p)] [] (T, iV (pB V r 24 E), R, J, z) k n (DQ T R J z V r f (some (.int (iI (if noS h A p = true then -1 else A 16 p.toNat)))) t tp h A B a m H K wr pl (if noS h A p = true then 1 else 0)) := by
  have hM := hI.1
  have hI1 := DI_sc hI (Sc_th hI 0)
  have hip := k_isSecret (g := g) (J := J) (z := z) (k := 0) (n := 0) (p := p) hI1 hp
  cases e : noS h A p
  rotate_left
  · rw [e] at hip
    have hrf := k_refused (g := g) (V := V) (E := u2 E 0 0 0) (J := J) (z := z) (k := 0) (n := 0) (x := 1) hM
    rw [if_pos rfl, if_pos rfl]
    obtain ⟨m0, -, -⟩ := id hM
    refine x_aload_n dX12_secret_0 rfl ?_
    refine y_iconst dX12_secret_1 ?_
    refine b_pi0 (r := r) (m := 24) dX12_secret_2 (pX12_85 _) (by first | assumption) (fun _ _ _ => rfl) rfl rfl (by decide) ?_
    refine x_aload_n dX12_secret_5 rfl ?_
    refine x_iload_n dX12_secret_6 rfl ?_
    refine (show X _ _ 7 _ _ _ _ _ _ from ?_)
    refine x_callV (As := [_]) (mc := 0) (ms := 0) (z := mX12_isSecretNumber) (ci := 12) dX12_secret_7 lX12_516 oX12_isSecretNumber (by decide) (by first | assumption) rfl rfl (Nat.le_of_ble_eq_true rfl) (Nat.le_of_ble_eq_true rfl) rfl (hip) (k_I ?_)
    refine (show X _ _ 10 _ _ _ _ _ _ from ?_)
    refine y_ifb_eq 29 dX12_secret_10 (by decide) (fun c => ?_) (fun c => ?_)
    rotate_left
    · cases c
    refine x_aload_n dX12_secret_29 rfl ?_
    refine y_iconst dX12_secret_30 ?_
    refine (show X _ _ 31 _ _ _ _ _ _ from ?_)
    refine x_callV (As := [_]) (mc := 0) (ms := 0) (z := mX12_refused) (ci := 12) dX12_secret_31 lX12_91 oX12_refused (by decide) (by first | assumption) rfl rfl (Nat.le_of_ble_eq_true rfl) (Nat.le_of_ble_eq_true rfl) rfl (hrf) (k_I ?_)
    refine (show X _ _ 34 _ _ _ _ _ _ from ?_)
    exact x_ireturn dX12_secret_34 rfl (DQ_tr hI1 1 (by decide) _)
  · obtain ⟨rfl, e3, e4⟩ := noS_f e
    rw [e] at hip
    have hgo := k_good (g := g) (V := V) (E := u2 E 0 0 0) (J := J) (z := z) (k := 0) (n := 0) (x := A 16 p.toNat) hM
    obtain ⟨⟨hf, hG, hF, hap⟩, ⟨hA, hB, hY4, -⟩, -⟩ := hI.2.2.2.2.2.2 rfl
    have eS := fS8 hA
    rw [if_neg (by decide), if_neg (by decide)]
    obtain ⟨m0, -, -⟩ := id hM
    obtain ⟨g0, ⟨-, -, -, -, -, -, -, -, -, -, -, -, -, -, -, g25, -, -, -, -, -, -, -⟩, ⟨-, -, -, -, -, -, -, -, -, -, -, -, -, -, -, gk16, -, -, -, -, -, -, -⟩⟩ := id hG
    unfold apF at hap
    refine x_aload_n dX12_secret_0 rfl ?_
    refine y_iconst dX12_secret_1 ?_
    refine b_pi0 (r := r) (m := 24) dX12_secret_2 (pX12_85 _) (by first | assumption) (fun _ _ _ => rfl) rfl rfl (by decide) ?_
    refine x_aload_n dX12_secret_5 rfl ?_
    refine x_iload_n dX12_secret_6 rfl ?_
    refine (show X _ _ 7 _ _ _ _ _ _ from ?_)
    refine x_callV (As := [_]) (mc := 0) (ms := 0) (z := mX12_isSecretNumber) (ci := 12) dX12_secret_7 lX12_516 oX12_isSecretNumber (by decide) (by first | assumption) rfl rfl (Nat.le_of_ble_eq_true rfl) (Nat.le_of_ble_eq_true rfl) rfl (hip) (k_I ?_)
    refine (show X _ _ 10 _ _ _ _ _ _ from ?_)
    refine y_ifb_eq 29 dX12_secret_10 (by decide) (fun c => ?_) (fun c => ?_)
    · cases c
    refine x_aload_n dX12_secret_13 rfl ?_
    refine x_aload_n dX12_secret_14 rfl ?_
    refine x_gr dX12_secret_15 fX12_409 (by first | assumption) (fun _ _ _ => rfl) (by first | assumption) ?_
    refine x_gr dX12_secret_18 fX12_378 (by first | assumption) (fun _ _ _ => rfl) (by first | assumption) ?_
    refine x_iload_n dX12_secret_21 rfl ?_
    refine b_ialo (r := r) (m := 24) (p.toNat) dX12_secret_22 (by first | assumption) (by first | rfl | omega) (by omega) (by decide) (by omega) ?_
    refine (show X _ _ 23 _ _ _ _ _ _ from ?_)
    refine X.val (hF.2.2.2.2.1 p.toNat (by omega)) ?_
    refine x_callV (As := [_]) (mc := 0) (ms := 0) (z := mX12_good) (ci := 12) dX12_secret_23 lX12_95 oX12_good (by decide) (by first | assumption) rfl rfl (Nat.le_of_ble_eq_true rfl) (Nat.le_of_ble_eq_true rfl) rfl (hgo) (k_I ?_)
    refine (show X _ _ 26 _ _ _ _ _ _ from ?_)
    refine x_goto 34 dX12_secret_26 (by decide) ?_
    refine (show X _ _ 34 _ _ _ _ _ _ from ?_)
    exact x_ireturn dX12_secret_34 rfl (DQ_tr hI1 0 (by decide) _)
theorem k_fault (hI : DI T R V r f E t tp h A B a m H K wr pl tr) : X g mX12_fault 0 [.ref r] [] (T, iV (pB V r 24 E), R, J, z) k n (DQ T R J z V r f (some (.int (iI (wr)))) t tp h A B a m H K wr pl (tr)) := by
  have hM := hI.1
  have hI1 := DI_sc hI (Sc_th hI 0)
  obtain ⟨m0, -, -⟩ := id hM
  refine x_aload_n dX12_fault_0 rfl ?_
  refine y_iconst dX12_fault_1 ?_
  refine b_pi0 (r := r) (m := 24) dX12_fault_2 (pX12_85 _) (by first | assumption) (fun _ _ _ => rfl) rfl rfl (by decide) ?_
  refine x_aload_n dX12_fault_5 rfl ?_
  refine b_gi0 (r := r) (m := 24) dX12_fault_6 fX12_139 (by first | assumption) (fun _ _ _ => rfl) (by decide) ?_
  refine (show X _ _ 9 _ _ _ _ _ _ from ?_)
  refine X.val hI1.2.1.2.2 ?_
  exact x_ireturn dX12_fault_9 rfl (DQ_id hI1 _)
theorem k_where (hI : DI T R V r f E t tp h A B a m H K wr pl tr) : X g mX12_where 0 [.ref r] [] (T, iV (pB V r 24 E), R, J, z) k n (DQ T R J z V r f (some (.int (iI (if tr = 4 then pl else -1)))) t tp h A B a m H K wr pl (tr)) := by
  have hM := hI.1
  have hI1 := DI_sc hI (Sc_th hI 0)
  obtain ⟨m0, -, -⟩ := id hM
  refine x_aload_n dX12_where_0 rfl ?_
  refine y_iconst dX12_where_1 ?_
  refine b_pi0 (r := r) (m := 24) dX12_where_2 (pX12_85 _) (by first | assumption) (fun _ _ _ => rfl) rfl rfl (by decide) ?_
  refine x_aload_n dX12_where_5 rfl ?_
  refine b_gi0 (r := r) (m := 24) dX12_where_6 fX12_9 (by first | assumption) (fun _ _ _ => rfl) (by decide) ?_
  refine (show X _ _ 9 _ _ _ _ _ _ from ?_)
  refine X.val hI1.2.1.2.1 ?_
  exact x_ireturn dX12_where_9 rfl (DQ_id hI1 _)
theorem k_trouble (hI : DI T R V r f E t tp h A B a m H K wr pl tr) : X g mX12_trouble 0 [.ref r] [] (T, iV (pB V r 24 E), R, J, z) k n (DQ T R J z V r f (some (.int (iI (tr)))) t tp h A B a m H K wr pl (tr)) := by
  have hM := hI.1
  have hI1 := DI_sc hI (Sc_th hI 0)
  obtain ⟨m0, -, -⟩ := id hM
  refine x_aload_n dX12_trouble_0 rfl ?_
  refine y_iconst dX12_trouble_1 ?_
  refine b_pi0 (r := r) (m := 24) dX12_trouble_2 (pX12_85 _) (by first | assumption) (fun _ _ _ => rfl) rfl rfl (by decide) ?_
  refine x_aload_n dX12_trouble_5 rfl ?_
  refine b_gi0 (r := r) (m := 24) dX12_trouble_6 fX12_88 (by first | assumption) (fun _ _ _ => rfl) (by decide) ?_
  refine (show X _ _ 9 _ _ _ _ _ _ from ?_)
  refine X.val hI1.2.1.1 ?_
  exact x_ireturn dX12_trouble_9 rfl (DQ_id hI1 _)
end C98
