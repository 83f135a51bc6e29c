/-! ===== the reference: other laws, trades ===== -/
section Em
variable {A B W : Nat → Nat → Int}
theorem tk_e {y : Nat} (who : Int) : takeT A W y who 0 10 = W 0 10 + (if W 0 6 = 0 then 0 else 1) := by
  have h1 : tk1 W y who 0 10 = W 0 10 + (if W 0 6 = 0 then 0 else 1) := by
    unfold tk1
    rw [u2_s, u1_n (by decide)]
    by_cases h : W 0 6 = 0
    · rw [if_pos h, if_pos h, u2_n (by decide)]; omega
    · rw [if_neg h, if_neg h, u2_s, u1_s]
  unfold takeT
  split
  rotate_left
  · exact h1
  generalize who.toNat = p
  unfold tkT
  generalize tk1 W y who = U at *
  have h3 : tk3 A (tk2 A U y p) p 0 10 = U 0 10 := by
    have h2 : tk2 A U y p 0 10 = U 0 10 := by
      unfold tk2
      rw [u2_s, u1_n (by decide), u2_n (by decide), u2_n (by decide), u2_s, u1_n (by decide)]
    unfold tk3
    split
    · rw [u2_n (by decide)]; exact h2
    · exact h2
  generalize tk3 A (tk2 A U y p) p = U3 at *
  unfold tk4
  split
  · rw [h3, h1]
  · rw [u2_s, u1_n (by decide), u2_s, u1_n (by decide), u2_s, u1_n (by decide), h3, h1]
theorem ps_e {y : Nat} : passY A B W y 0 10 = W 0 10 + (if W 0 6 = 0 then 0 else 1) := by
  unfold passY
  rw [tk_e, sold_row 0 (by decide), yrW_row 0 10 (by omega), yrW_row 0 6 (by omega)]
/-- how many years stood empty -/
def emS (Ws : Nat → Nat → Nat → Int) (m : Nat) : Int := lp m (fun y c => c + (if Ws y 0 6 = 0 then 0 else 1)) 0
theorem em_run (h : W 0 10 = 0) : ∀ m, runTo A B W m 0 10 = emS (runTo A B W) m
  | 0 => h
  | m + 1 => by
    show passY A B (runTo A B W m) m 0 10 = emS (runTo A B W) m + _
    rw [ps_e, em_run h m]
theorem beg_10 {lw sd : Int} : rBeg A W lw sd 0 10 = 0 := by
  unfold rBeg
  rw [(rBeg_row (A := A) (W := W) (lw := lw) (sd := sd) (fP A)).1 10]
  unfold beg0
  simp (discharger := decide) only [u2_s, u1_s, u1_n]
end Em
section C9a
variable {g : GG} {T : Nat → Nat × Nat} {V E A B Wi Ni : Nat → Nat → Int} {R : Nat → Nat → Option Nat} {J : Nat → Nat → Int64} {z k n : Nat} {r f : Nat} {t : Nat → Int} {tp : Nat} {h : Bool} {a m : Nat} {H K : Nat → Nat → Nat → Int} {wr pl tr : Int}
theorem NOk_0 : NOk A0 := ⟨⟨by decide, by decide⟩, fun _ _ => ⟨by show (0 : Int) ≤ 0; decide, by show (0 : Int) < 256; decide⟩, fun _ _ => ⟨by show (0 : Int) ≤ 0; decide, by show (0 : Int) < 1024; decide⟩⟩
theorem k_emptyYears {Ws : Nat → Nat → Nat → Int} (hM : MSh T R r) (hf : R r 3 = some f) (hG : FMS T R f) (hF : FMC V f A) (hA : VA A) (hap : apF f r) (h10 : ∀ i, i < fY A → E 10 i = bI (decide (Ws i 0 6 ≠ 0))) : X g mX12_emptyYears 0 [.ref r, jk, jk] [] (T, iV (pB V r 24 E), R, J, z) k n (rI (iI (emS Ws (fY A))) (T, iV (pB V r 24 E), R, J, z)) := by
  have eY := fY24 hA
  obtain ⟨m0, ⟨-, -, -, -, -, -, -, -, -, m25, -, -, -, -, -, -, -, -, -, -, -, -, -⟩, ⟨-, -, -, -, -, -, -, -, -, mk10, -, -, -, -, -, -, -, -, -, -, -, -, -⟩⟩ := id hM
  obtain ⟨g0, -, -⟩ := id hG
  have e0 := hF.1 0 (by decide)
  unfold apF at hap
  refine y_iconst dX12_emptyYears_0 ?_
  refine x_istore_n dX12_emptyYears_1 (by decide) rfl rfl ?_
  refine y_iconst dX12_emptyYears_2 ?_
  refine x_istore_n dX12_emptyYears_3 (by decide) rfl rfl ?_
  refine (show X _ _ 4 _ _ _ _ _ _ from ?_)
  refine loopN (P := fun i => X g mX12_emptyYears 4 [.ref r, .int (iI (emS Ws i)), .int (iI (i : Int))] [] (T, iV (pB V r 24 E), R, J, z) k n (rI (iI (emS Ws (fY A))) (T, iV (pB V r 24 E), R, J, z))) (fY A) ?_ (fun i hi ih => ?_)
  · refine x_iload_n dX12_emptyYears_4 rfl ?_
    refine x_aload_n dX12_emptyYears_5 rfl ?_
    refine x_gr dX12_emptyYears_6 fX12_409 (by first | assumption) (fun _ _ _ => rfl) (by first | assumption) ?_
    refine b_gio (r := r) (m := 24) dX12_emptyYears_9 fX12_176 (by first | assumption) (fun _ _ _ => rfl) (by omega) ?_
    refine (show X _ _ 12 _ _ _ _ _ _ from ?_)
    refine X.val e0 ?_
    refine y_icmp_ge 38 dX12_emptyYears_12 (by decide) ⟨by omega, by omega⟩ ⟨by omega, by omega⟩ (fun h1 => ?_) (fun h1 => ?_)
    rotate_left
    · omega
    refine x_iload_n dX12_emptyYears_38 rfl ?_
    refine (show X _ _ 39 _ _ _ _ _ _ from ?_)
    exact x_ireturn dX12_emptyYears_39 rfl ⟨rfl, rfl⟩
  · have es : emS Ws (i + 1) = emS Ws i + (if Ws i 0 6 = 0 then 0 else 1) := rfl
    rw [es] at ih
    refine x_iload_n dX12_emptyYears_4 rfl ?_
    refine x_aload_n dX12_emptyYears_5 rfl ?_
    refine x_gr dX12_emptyYears_6 fX12_409 (by first | assumption) (fun _ _ _ => rfl) (by first | assumption) ?_
    refine b_gio (r := r) (m := 24) dX12_emptyYears_9 fX12_176 (by first | assumption) (fun _ _ _ => rfl) (by omega) ?_
    refine (show X _ _ 12 _ _ _ _ _ _ from ?_)
    refine X.val e0 ?_
    refine y_icmp_ge 38 dX12_emptyYears_12 (by decide) ⟨by omega, by omega⟩ ⟨by omega, by omega⟩ (fun h1 => ?_) (fun h1 => ?_)
    · omega
    refine x_iload_n dX12_emptyYears_15 rfl ?_
    refine x_aload_n dX12_emptyYears_16 rfl ?_
    refine x_gr dX12_emptyYears_17 fX12_42 (by first | assumption) (fun _ _ _ => rfl) (by first | assumption) ?_
    refine x_iload_n dX12_emptyYears_20 rfl ?_
    refine b_zald (r := r) (m := 24) (j := 10) (i) dX12_emptyYears_21 (by first | assumption) (by first | rfl | omega) (by omega) (by decide) (by decide) ?_
    refine (show X _ _ 22 _ _ _ _ _ _ from ?_)
    refine X.val (h10 i hi) ?_
    refine y_ifb_eq 29 dX12_emptyYears_22 (by decide) (fun h2 => ?_) (fun h2 => ?_)
    · rw [if_pos (Classical.byContradiction fun d => (of_decide_eq_false h2) d)] at ih
      refine y_iconst dX12_emptyYears_29 ?_
      refine y_iadd dX12_emptyYears_30 ?_
      refine x_istore_n dX12_emptyYears_31 (by decide) rfl rfl ?_
      refine y_iinc dX12_emptyYears_32 rfl (by decide) rfl rfl ?_
      refine x_goto 4 dX12_emptyYears_35 (by decide) ?_
      refine (show X _ _ 4 _ _ _ _ _ _ from ?_)
      exact ih
    · rw [if_neg (of_decide_eq_true h2)] at ih
      refine y_iconst dX12_emptyYears_25 ?_
      refine x_goto 30 dX12_emptyYears_26 (by decide) ?_
      refine y_iadd dX12_emptyYears_30 ?_
      refine x_istore_n dX12_emptyYears_31 (by decide) rfl rfl ?_
      refine y_iinc dX12_emptyYears_32 rfl (by decide) rfl rfl ?_
      refine x_goto 4 dX12_emptyYears_35 (by decide) ?_
      refine (show X _ _ 4 _ _ _ _ _ _ from ?_)
      exact ih
theorem k_by {lw wh : Int} (hI : DI T R V r f E t tp true A B a m H K wr pl tr) (hl : 0 ≤ lw ∧ lw ≤ 4) (hw : 0 ≤ wh ∧ wh ≤ 3) : X g mX12_by 0 [.ref r, .int (iI lw), .int (iI wh)] [] (T, iV (pB V r 24 E), R, J, z) k n (fun v M => v = some (.int (iI (mes A B lw wh))) ∧ ∃ E', M = (T, iV (pB V r 24 E'), R, J, z) ∧ Sc E E') := by
  have hM := hI.1
  obtain ⟨⟨hf, hG, hF, hap⟩, ⟨hA, hB, hY4, -⟩, hv, -⟩ := hI.2.2.2.2.2.2 rfl
  have hrb := k_runsBy (g := g) (J := J) (z := z) (k := 0) (n := 0) (Wi := A0) (Ni := A0) (lw := lw) (sd := B 0 1) hI hl hB.2.1 NOk_0
  unfold mes
  obtain ⟨m0, ⟨-, m15, -, -, -, -, -, -, -, -, -, -, -, -, -, -, -, -, -, -, -, -, -⟩, ⟨-, mk2, -, -, -, -, -, -, -, -, -, -, -, -, -, -, -, -, -, -, -, -, -⟩⟩ := id hM
  refine x_aload_n dX12_by_0 rfl ?_
  refine x_iload_n dX12_by_1 rfl ?_
  refine x_aload_n dX12_by_2 rfl ?_
  refine x_gr dX12_by_3 fX12_17 (by first | assumption) (fun _ _ _ => rfl) (by first | assumption) ?_
  refine y_iconst dX12_by_6 ?_
  refine b_iald (r := r) (m := 24) (j := 2) (1) dX12_by_7 (by first | assumption) (by first | rfl | omega) (by omega) (by decide) (by decide) ?_
  refine (show X _ _ 8 _ _ _ _ _ _ from ?_)
  refine X.val hv.2.1 ?_
  refine x_callV (As := [_, _]) (mc := 0) (ms := 0) (z := mX12_runsBy) (ci := 12) dX12_by_8 lX12_417 oX12_runsBy (by decide) (by first | assumption) rfl rfl (Nat.le_of_ble_eq_true rfl) (Nat.le_of_ble_eq_true rfl) rfl (hrb) (fun v M1 hq => ?_)
  obtain ⟨rfl, E', rfl, hq⟩ := hq
  refine (show X _ _ 11 _ [] _ _ _ _ from ?_)
  have hsc := RnQ_sc hI hq
  obtain ⟨⟨hRM, hNM, hrc, hhd, -⟩, h6⟩ := hq
  have hfa := k_fairNow (g := g) (J := J) (z := z) (k := 0) (n := 0) hM hf hG hF hA hB hap (by omega) hRM h6
  have hem := k_emptyYears (g := g) (J := J) (z := z) (k := 0) (n := 0) (E := E') (Ws := runTo A B (rBeg A A0 lw (B 0 1))) hM hf hG hF hA hap (fun i hi => (hrc i hi).1.2.2.2.2)
  rw [← em_run beg_10] at hem
  refine x_iload_n dX12_by_11 rfl ?_
  refine (show X _ _ 12 _ _ _ _ _ _ from ?_)
  refine y_if_ne 22 dX12_by_12 (by decide) ⟨by omega, by omega⟩ (fun c0 => ?_) (fun c0 => ?_)
  rotate_left
  · rw [if_pos c0]
    refine x_aload_n dX12_by_15 rfl ?_
    refine b_gi0 (r := r) (m := 24) dX12_by_16 fX12_437 (by first | assumption) (fun _ _ _ => rfl) (by decide) ?_
    refine (show X _ _ 19 _ _ _ _ _ _ from ?_)
    refine X.val hRM.1.2.2.2.1 ?_
    refine x_goto 50 dX12_by_19 (by decide) ?_
    refine (show X _ _ 50 _ _ _ _ _ _ from ?_)
    exact x_ireturn dX12_by_50 rfl ⟨rfl, E', rfl, hsc⟩
  rw [if_neg c0]
  refine x_iload_n dX12_by_22 rfl ?_
  refine y_iconst dX12_by_23 ?_
  refine (show X _ _ 24 _ _ _ _ _ _ from ?_)
  refine y_icmp_ne 34 dX12_by_24 (by decide) ⟨by omega, by omega⟩ ⟨by omega, by omega⟩ (fun c1 => ?_) (fun c1 => ?_)
  rotate_left
  · rw [if_pos c1]
    refine x_aload_n dX12_by_27 rfl ?_
    refine b_gi0 (r := r) (m := 24) dX12_by_28 fX12_434 (by first | assumption) (fun _ _ _ => rfl) (by decide) ?_
    refine (show X _ _ 31 _ _ _ _ _ _ from ?_)
    refine X.val hRM.1.2.2.1 ?_
    refine x_goto 50 dX12_by_31 (by decide) ?_
    refine (show X _ _ 50 _ _ _ _ _ _ from ?_)
    exact x_ireturn dX12_by_50 rfl ⟨rfl, E', rfl, hsc⟩
  rw [if_neg c1]
  refine x_iload_n dX12_by_34 rfl ?_
  refine y_iconst dX12_by_35 ?_
  refine (show X _ _ 36 _ _ _ _ _ _ from ?_)
  refine y_icmp_ne 46 dX12_by_36 (by decide) ⟨by omega, by omega⟩ ⟨by omega, by omega⟩ (fun c2 => ?_) (fun c2 => ?_)
  rotate_left
  · rw [if_pos c2]
    refine x_aload_n dX12_by_39 rfl ?_
    refine (show X _ _ 40 _ _ _ _ _ _ from ?_)
    refine x_callV (As := []) (mc := 0) (ms := 0) (z := mX12_fairNow) (ci := 12) dX12_by_40 lX12_530 oX12_fairNow (by decide) (by first | assumption) rfl rfl (Nat.le_of_ble_eq_true rfl) (Nat.le_of_ble_eq_true rfl) rfl (hfa) (k_I ?_)
    refine (show X _ _ 43 _ _ _ _ _ _ from ?_)
    refine x_goto 50 dX12_by_43 (by decide) ?_
    refine (show X _ _ 50 _ _ _ _ _ _ from ?_)
    exact x_ireturn dX12_by_50 rfl ⟨rfl, E', rfl, hsc⟩
  rw [if_neg c2]
  refine x_aload_n dX12_by_46 rfl ?_
  refine (show X _ _ 47 _ _ _ _ _ _ from ?_)
  refine x_callV (As := []) (mc := 0) (ms := 0) (z := mX12_emptyYears) (ci := 12) dX12_by_47 lX12_533 oX12_emptyYears (by decide) (by first | assumption) rfl rfl (Nat.le_of_ble_eq_true rfl) (Nat.le_of_ble_eq_true rfl) rfl (hem) (k_I ?_)
  refine (show X _ _ 50 _ _ _ _ _ _ from ?_)
  exact x_ireturn dX12_by_50 rfl ⟨rfl, E', rfl, hsc⟩
theorem k_byLaw {lw wh : Int} (hI : DI T R V r f E t tp h A B a m H K wr pl tr) (hl : R32 lw) (hw : R32 wh) : X g mX12_byLaw 0 [.ref r, .int (iI lw), .int (iI wh)] [] (T, iV (pB V r 24 E), R, J, z) k n (DQ T R J z V r f (some (.int (iI (if h = true ∧ (0 ≤ lw ∧ lw < 5) ∧ (0 ≤ wh ∧ wh < 4) then mes A B lw wh else -1)))) t tp h A B a m H K wr pl (if h = true ∧ (0 ≤ lw ∧ lw < 5) ∧ (0 ≤ wh ∧ wh < 4) then 0 else 1)) := by
  have hM := hI.1
  have hI1 := DI_sc hI (Sc_th hI 0)
  have hrf := k_refused (g := g) (V := V) (E := u2 E 0 0 0) (J := J) (z := z) (k := 0) (n := 0) (x := 1) hM
  have hi1 := c_in (g := g) (k := 0) (n := 0) (x := lw) (lo := 0) (hi := 4) (M := (T, iV (pB V r 24 (u2 E 0 0 0)), R, J, z)) hl ⟨by decide, by decide⟩ ⟨by decide, by decide⟩
  have hi2 := c_in (g := g) (k := 0) (n := 0) (x := wh) (lo := 0) (hi := 3) (M := (T, iV (pB V r 24 (u2 E 0 0 0)), R, J, z)) hw ⟨by decide, by decide⟩ ⟨by decide, by decide⟩
  have bad : ¬ (h = true ∧ (0 ≤ lw ∧ lw < 5) ∧ (0 ≤ wh ∧ wh < 4)) → X g mX12_byLaw 43 [.ref r, .int (iI lw), .int (iI wh)] [] (T, iV (pB V r 24 (u2 E 0 0 0)), R, J, z) k n (DQ T R J z V r f (some (.int (iI (if h = true ∧ (0 ≤ lw ∧ lw < 5) ∧ (0 ≤ wh ∧ wh < 4) then mes A B lw wh else -1)))) t tp h A B a m H K wr pl (if h = true ∧ (0 ≤ lw ∧ lw < 5) ∧ (0 ≤ wh ∧ wh < 4) then 0 else 1)) := by
    intro e
    rw [if_neg e, if_neg e]
    obtain ⟨m0, -, -⟩ := id hM
    refine x_aload_n dX12_byLaw_43 rfl ?_
    refine y_iconst dX12_byLaw_44 ?_
    refine (show X _ _ 45 _ _ _ _ _ _ from ?_)
    refine x_callV (As := [_]) (mc := 0) (ms := 0) (z := mX12_refused) (ci := 12) dX12_byLaw_45 lX12_91 oX12_refused (by decide) (by first | assumption) rfl rfl (Nat.le_of_ble_eq_true rfl) (Nat.le_of_ble_eq_true rfl) rfl (hrf) (k_I ?_)
    refine (show X _ _ 48 _ _ _ _ _ _ from ?_)
    exact x_ireturn dX12_byLaw_48 rfl (DQ_tr hI1 1 (by decide) _)
  obtain ⟨-, -, -, -, -, d1, d2⟩ := id hI
  cases h
  · have hn := (d1 rfl).1
    obtain ⟨m0, -, -⟩ := id hM
    refine x_aload_n dX12_byLaw_0 rfl ?_
    refine y_iconst dX12_byLaw_1 ?_
    refine b_pi0 (r := r) (m := 24) dX12_byLaw_2 (pX12_85 _) (by first | assumption) (fun _ _ _ => rfl) rfl rfl (by decide) ?_
    refine x_aload_n dX12_byLaw_5 rfl ?_
    refine (show X _ _ 6 _ _ _ _ _ _ from ?_)
    refine x_gn dX12_byLaw_6 fX12_409 (by first | assumption) (fun _ _ _ => rfl) (by first | assumption) ?_
    refine (show X _ _ 9 _ _ _ _ _ _ from ?_)
    refine x_ifnull_n 43 dX12_byLaw_9 (by decide) ?_
    refine (show X _ _ 43 _ _ _ _ _ _ from ?_)
    exact bad (fun c => by cases c.1)
  obtain ⟨⟨hf, -⟩, -⟩ := d2 rfl
  obtain ⟨m0, -, -⟩ := id hM
  refine x_aload_n dX12_byLaw_0 rfl ?_
  refine y_iconst dX12_byLaw_1 ?_
  refine b_pi0 (r := r) (m := 24) dX12_byLaw_2 (pX12_85 _) (by first | assumption) (fun _ _ _ => rfl) rfl rfl (by decide) ?_
  refine x_aload_n dX12_byLaw_5 rfl ?_
  refine x_gr dX12_byLaw_6 fX12_409 (by first | assumption) (fun _ _ _ => rfl) (by first | assumption) ?_
  refine (show X _ _ 9 _ _ _ _ _ _ from ?_)
  refine x_ifnull_r dX12_byLaw_9 ?_
  refine (show X _ _ 12 _ _ _ _ _ _ from ?_)
  refine x_iload_n dX12_byLaw_12 rfl ?_
  refine y_iconst dX12_byLaw_13 ?_
  refine y_iconst dX12_byLaw_14 ?_
  refine (show X _ _ 15 _ _ _ _ _ _ from ?_)
  refine x_callS (As := [_, _, _]) (mc := 0) (ms := 0) (z := mX12_in) dX12_byLaw_15 lX12_160 oX12_in (by decide) rfl (Nat.le_of_ble_eq_true rfl) (Nat.le_of_ble_eq_true rfl) rfl (hi1) (k_I ?_)
  refine (show X _ _ 18 _ _ _ _ _ _ from ?_)
  refine y_ifb_eq 43 dX12_byLaw_18 (by decide) (fun c1 => ?_) (fun c1 => ?_)
  · have := of_decide_eq_false c1
    exact bad (fun c => by omega)
  have c1 := of_decide_eq_true c1
  refine x_iload_n dX12_byLaw_21 rfl ?_
  refine y_iconst dX12_byLaw_22 ?_
  refine y_iconst dX12_byLaw_23 ?_
  refine (show X _ _ 24 _ _ _ _ _ _ from ?_)
  refine x_callS (As := [_, _, _]) (mc := 0) (ms := 0) (z := mX12_in) dX12_byLaw_24 lX12_160 oX12_in (by decide) rfl (Nat.le_of_ble_eq_true rfl) (Nat.le_of_ble_eq_true rfl) rfl (hi2) (k_I ?_)
  refine (show X _ _ 27 _ _ _ _ _ _ from ?_)
  refine y_ifb_eq 43 dX12_byLaw_27 (by decide) (fun c2 => ?_) (fun c2 => ?_)
  · have := of_decide_eq_false c2
    exact bad (fun c => by omega)
  have c2 := of_decide_eq_true c2
  have e : true = true ∧ (0 ≤ lw ∧ lw < 5) ∧ (0 ≤ wh ∧ wh < 4) := ⟨rfl, by omega, by omega⟩
  rw [if_pos e, if_pos e]
  have hby := k_by (g := g) (J := J) (z := z) (k := 0) (n := 0) (lw := lw) (wh := wh) hI1 c1 c2
  refine x_aload_n dX12_byLaw_30 rfl ?_
  refine x_aload_n dX12_byLaw_31 rfl ?_
  refine x_iload_n dX12_byLaw_32 rfl ?_
  refine x_iload_n dX12_byLaw_33 rfl ?_
  refine (show X _ _ 34 _ _ _ _ _ _ from ?_)
  refine x_callV (As := [_, _]) (mc := 0) (ms := 0) (z := mX12_by) (ci := 12) dX12_byLaw_34 lX12_536 oX12_by (by decide) (by first | assumption) rfl rfl (Nat.le_of_ble_eq_true rfl) (Nat.le_of_ble_eq_true rfl) rfl (hby) (fun v M1 hq => ?_)
  obtain ⟨rfl, E', rfl, hq⟩ := hq
  refine (show X _ _ 37 _ [.int (iI (mes A B lw wh)), .ref r] _ _ _ _ from ?_)
  have hgo := k_good (g := g) (V := V) (E := E') (J := J) (z := z) (k := 0) (n := 0) (x := mes A B lw wh) hM
  refine x_callV (As := [_]) (mc := 0) (ms := 0) (z := mX12_good) (ci := 12) dX12_byLaw_37 lX12_95 oX12_good (by decide) (by first | assumption) rfl rfl (Nat.le_of_ble_eq_true rfl) (Nat.le_of_ble_eq_true rfl) rfl (hgo) (k_I ?_)
  refine (show X _ _ 40 _ _ _ _ _ _ from ?_)
  refine x_goto 48 dX12_byLaw_40 (by decide) ?_
  refine (show X _ _ 48 _ _ _ _ _ _ from ?_)
  exact x_ireturn dX12_byLaw_48 rfl (DQ_tr (DI_sc hI1 hq) 0 (by decide) _)
theorem k_bestLaw {wh : Int} (hI : DI T R V r f E t tp h A B a m H K wr pl tr) (hw : R32 wh) : X g mX12_bestLaw 0 [.ref r, .int (iI wh), jk, jk, jk, jk] [] (T, iV (pB V r 24 E), R, J, z) k n (DQ T R J z V r f (some (.int (iI (if h = true ∧ (0 ≤ wh ∧ wh < 4) then (bl A B wh 4).1 else -1)))) t tp h A B a m H K wr pl (if h = true ∧ (0 ≤ wh ∧ wh < 4) then 0 else 1)) := by
  have hM := hI.1
  have hI1 := DI_sc hI (Sc_th hI 0)
  have hrf := k_refused (g := g) (V := V) (E := u2 E 0 0 0) (J := J) (z := z) (k := 0) (n := 0) (x := 1) hM
  have hi2 := c_in (g := g) (k := 0) (n := 0) (x := wh) (lo := 0) (hi := 3) (M := (T, iV (pB V r 24 (u2 E 0 0 0)), R, J, z)) hw ⟨by decide, by decide⟩ ⟨by decide, by decide⟩
  have bad : ¬ (h = true ∧ (0 ≤ wh ∧ wh < 4)) → X g mX12_bestLaw 21 [.ref r, .int (iI wh), jk, jk, jk, jk] [] (T, iV (pB V r 24 (u2 E 0 0 0)), R, J, z) k n (DQ T R J z V r f (some (.int (iI (if h = true ∧ (0 ≤ wh ∧ wh < 4) then (bl A B wh 4).1 else -1)))) t tp h A B a m H K wr pl (if h = true ∧ (0 ≤ wh ∧ wh < 4) then 0 else 1)) := by
    intro e
    rw [if_neg e, if_neg e]
    obtain ⟨m0, -, -⟩ := id hM
    refine x_aload_n dX12_bestLaw_21 rfl ?_
    refine y_iconst dX12_bestLaw_22 ?_
    refine (show X _ _ 23 _ _ _ _ _ _ from ?_)
    refine x_callV (As := [_]) (mc := 0) (ms := 0) (z := mX12_refused) (ci := 12) dX12_bestLaw_23 lX12_91 oX12_refused (by decide) (by first | assumption) rfl rfl (Nat.le_of_ble_eq_true rfl) (Nat.le_of_ble_eq_true rfl) rfl (hrf) (k_I ?_)
    refine (show X _ _ 26 _ _ _ _ _ _ from ?_)
    exact x_ireturn dX12_bestLaw_26 rfl (DQ_tr hI1 1 (by decide) _)
  obtain ⟨-, -, -, -, -, d1, d2⟩ := id hI
  cases h
  · have hn := (d1 rfl).1
    obtain ⟨m0, -, -⟩ := id hM
    refine x_aload_n dX12_bestLaw_0 rfl ?_
    refine y_iconst dX12_bestLaw_1 ?_
    refine b_pi0 (r := r) (m := 24) dX12_bestLaw_2 (pX12_85 _) (by first | assumption) (fun _ _ _ => rfl) rfl rfl (by decide) ?_
    refine x_aload_n dX12_bestLaw_5 rfl ?_
    refine (show X _ _ 6 _ _ _ _ _ _ from ?_)
    refine x_gn dX12_bestLaw_6 fX12_409 (by first | assumption) (fun _ _ _ => rfl) (by first | assumption) ?_
    refine (show X _ _ 9 _ _ _ _ _ _ from ?_)
    refine x_ifnull_n 21 dX12_bestLaw_9 (by decide) ?_
    refine (show X _ _ 21 _ _ _ _ _ _ from ?_)
    exact bad (fun c => by cases c.1)
  obtain ⟨⟨hf, -⟩, ⟨hA, hB, -⟩, -⟩ := d2 rfl
  obtain ⟨m0, -, -⟩ := id hM
  refine x_aload_n dX12_bestLaw_0 rfl ?_
  refine y_iconst dX12_bestLaw_1 ?_
  refine b_pi0 (r := r) (m := 24) dX12_bestLaw_2 (pX12_85 _) (by first | assumption) (fun _ _ _ => rfl) rfl rfl (by decide) ?_
  refine x_aload_n dX12_bestLaw_5 rfl ?_
  refine x_gr dX12_bestLaw_6 fX12_409 (by first | assumption) (fun _ _ _ => rfl) (by first | assumption) ?_
  refine (show X _ _ 9 _ _ _ _ _ _ from ?_)
  refine x_ifnull_r dX12_bestLaw_9 ?_
  refine (show X _ _ 12 _ _ _ _ _ _ from ?_)
  refine x_iload_n dX12_bestLaw_12 rfl ?_
  refine y_iconst dX12_bestLaw_13 ?_
  refine y_iconst dX12_bestLaw_14 ?_
  refine (show X _ _ 15 _ _ _ _ _ _ from ?_)
  refine x_callS (As := [_, _, _]) (mc := 0) (ms := 0) (z := mX12_in) dX12_bestLaw_15 lX12_160 oX12_in (by decide) rfl (Nat.le_of_ble_eq_true rfl) (Nat.le_of_ble_eq_true rfl) rfl (hi2) (k_I ?_)
  refine (show X _ _ 18 _ _ _ _ _ _ from ?_)
  refine y_ifb_ne 27 dX12_bestLaw_18 (by decide) (fun c2 => ?_) (fun c2 => ?_)
  rotate_left
  · have := of_decide_eq_false c2
    exact bad (fun c => by omega)
  have c2 := of_decide_eq_true c2
  have e : true = true ∧ (0 ≤ wh ∧ wh < 4) := ⟨rfl, by omega⟩
  rw [if_pos e, if_pos e]
  have hby := fun (E1 : Nat → Nat → Int) (hs : Sc (u2 E 0 0 0) E1) (lw : Int) (hl : 0 ≤ lw ∧ lw ≤ 4) => k_by (g := g) (J := J) (z := z) (k := 0) (n := 0) (lw := lw) (wh := wh) (DI_sc hI1 hs) hl c2
  refine y_iconst dX12_bestLaw_27 ?_
  refine x_istore_n dX12_bestLaw_28 (by decide) rfl rfl ?_
  refine x_aload_n dX12_bestLaw_29 rfl ?_
  refine y_iconst dX12_bestLaw_30 ?_
  refine x_iload_n dX12_bestLaw_31 rfl ?_
  refine (show X _ _ 32 _ _ _ _ _ _ from ?_)
  refine x_callV (As := [_, _]) (mc := 0) (ms := 0) (z := mX12_by) (ci := 12) dX12_bestLaw_32 lX12_536 oX12_by (by decide) (by first | assumption) rfl rfl (Nat.le_of_ble_eq_true rfl) (Nat.le_of_ble_eq_true rfl) rfl (hby _ (Sc_r hI1) 0 (by omega)) (fun v M1 hq => ?_)
  obtain ⟨rfl, E1, rfl, hs1⟩ := hq
  refine (show X _ _ 35 _ [.int (iI (mes A B 0 wh))] _ _ _ _ from ?_)
  refine x_istore_n dX12_bestLaw_35 (by decide) rfl rfl ?_
  refine y_iconst dX12_bestLaw_36 ?_
  refine x_istore dX12_bestLaw_37 (by decide) rfl rfl ?_
  refine (show X _ _ 39 _ _ _ _ _ _ from ?_)
  refine loopN (P := fun i => ∀ E1, Sc (u2 E 0 0 0) E1 → X g mX12_bestLaw 39 [.ref r, .int (iI wh), .int (iI (bl A B wh i).1), .int (iI (bl A B wh i).2), .int (iI ((i : Int) + 1)), jk] [] (T, iV (pB V r 24 E1), R, J, z) k n (DQ T R J z V r f (some (.int (iI ((bl A B wh 4).1)))) t tp true A B a m H K wr pl 0)) 4 ?_ (fun i hi ih => ?_) E1 hs1
  · intro E1 hs1
    have hgo := k_good (g := g) (V := V) (E := E1) (J := J) (z := z) (k := 0) (n := 0) (x := (bl A B wh 4).1) hM
    refine x_iload dX12_bestLaw_39 rfl ?_
    refine y_iconst dX12_bestLaw_41 ?_
    refine (show X _ _ 42 _ _ _ _ _ _ from ?_)
    refine y_icmp_ge 75 dX12_bestLaw_42 (by decide) ⟨by omega, by omega⟩ ⟨by omega, by omega⟩ (fun h1 => ?_) (fun h1 => ?_)
    rotate_left
    · omega
    refine x_aload_n dX12_bestLaw_75 rfl ?_
    refine x_iload_n dX12_bestLaw_76 rfl ?_
    refine (show X _ _ 77 _ _ _ _ _ _ from ?_)
    refine x_callV (As := [_]) (mc := 0) (ms := 0) (z := mX12_good) (ci := 12) dX12_bestLaw_77 lX12_95 oX12_good (by decide) (by first | assumption) rfl rfl (Nat.le_of_ble_eq_true rfl) (Nat.le_of_ble_eq_true rfl) rfl (hgo) (k_I ?_)
    refine (show X _ _ 80 _ _ _ _ _ _ from ?_)
    exact x_ireturn dX12_bestLaw_80 rfl (DQ_tr (DI_sc hI1 hs1) 0 (by decide) _)
  · intro E1 hs1
    have hb := bl_b (wh := wh) hA hB i (by omega)
    have hm := mes_b (wh := wh) (lw := (i : Int) + 1) hA hB (by omega)
    have es : bl A B wh (i + 1) = if mes A B ((i : Int) + 1) wh < (bl A B wh i).2 then ((i : Int) + 1, mes A B ((i : Int) + 1) wh) else bl A B wh i := rfl
    refine x_iload dX12_bestLaw_39 rfl ?_
    refine y_iconst dX12_bestLaw_41 ?_
    refine (show X _ _ 42 _ _ _ _ _ _ from ?_)
    refine y_icmp_ge 75 dX12_bestLaw_42 (by decide) ⟨by omega, by omega⟩ ⟨by omega, by omega⟩ (fun h1 => ?_) (fun h1 => ?_)
    · omega
    refine x_aload_n dX12_bestLaw_45 rfl ?_
    refine x_iload dX12_bestLaw_46 rfl ?_
    refine x_iload_n dX12_bestLaw_48 rfl ?_
    refine (show X _ _ 49 _ _ _ _ _ _ from ?_)
    refine x_callV (As := [_, _]) (mc := 0) (ms := 0) (z := mX12_by) (ci := 12) dX12_bestLaw_49 lX12_536 oX12_by (by decide) (by first | assumption) rfl rfl (Nat.le_of_ble_eq_true rfl) (Nat.le_of_ble_eq_true rfl) rfl (hby E1 hs1 ((i : Int) + 1) (by omega)) (fun v M1 hq => ?_)
    obtain ⟨rfl, E2, rfl, hs2⟩ := hq
    refine (show X _ _ 52 _ [.int (iI (mes A B ((i : Int) + 1) wh))] _ _ _ _ from ?_)
    have ih := ih E2 (Sc_t hs1 hs2)
    rw [es] at ih
    refine x_istore dX12_bestLaw_52 (by decide) rfl rfl ?_
    refine x_iload dX12_bestLaw_54 rfl ?_
    refine x_iload_n dX12_bestLaw_56 rfl ?_
    refine (show X _ _ 57 _ _ _ _ _ _ from ?_)
    refine y_icmp_lt 63 dX12_bestLaw_57 (by decide) ⟨by omega, by omega⟩ ⟨by omega, by omega⟩ (fun h2 => ?_) (fun h2 => ?_)
    · rw [if_pos h2] at ih
      refine x_iload dX12_bestLaw_63 rfl ?_
      refine x_istore_n dX12_bestLaw_65 (by decide) rfl rfl ?_
      refine x_iload dX12_bestLaw_66 rfl ?_
      refine x_istore_n dX12_bestLaw_68 (by decide) rfl rfl ?_
      refine y_iinc dX12_bestLaw_69 rfl (by decide) rfl rfl ?_
      refine x_goto 39 dX12_bestLaw_72 (by decide) ?_
      refine (show X _ _ 39 _ _ _ _ _ _ from ?_)
      exact X.drop 5 rfl ih
    · rw [if_neg (by omega)] at ih
      refine x_goto 69 dX12_bestLaw_60 (by decide) ?_
      refine y_iinc dX12_bestLaw_69 rfl (by decide) rfl rfl ?_
      refine x_goto 39 dX12_bestLaw_72 (by decide) ?_
      refine (show X _ _ 39 _ _ _ _ _ _ from ?_)
      exact X.drop 5 rfl ih
theorem k_tradeOf {p q : Int} (hI : DI T R V r f E t tp true A B a m H K wr pl tr) (hp : 0 ≤ p ∧ p ≤ 9) (hq : 0 ≤ q ∧ q ≤ 9) (hpq : p ≠ q) : X g mX12_tradeOf 0 [.ref r, .int (iI p), .int (iI q), jk] [] (T, iV (pB V r 24 E), R, J, z) k n (fun v M => v = some (.int (iI (trd A B p q))) ∧ ∃ E', M = (T, iV (pB V r 24 E'), R, J, z) ∧ Sc E E') := by
  have hM := hI.1
  obtain ⟨⟨hf, hG, hF, hap⟩, ⟨hA, hB, hY4, -⟩, hv, -⟩ := hI.2.2.2.2.2.2 rfl
  have hru := k_runs (g := g) (J := J) (z := z) (k := 0) (n := 0) (Wi := A0) (Ni := A0) hI NOk_0
  have eY := fY24 hA
  have hBg : Bg A (tBeg A A0 (B 0 0) (B 0 1) p q) (B 0 0) (B 0 1) := by
    obtain ⟨⟨⟨b1, b2, b5, b6, b7, b8, b9⟩, bp, -⟩, -⟩ := Bg_beg (Wi := A0) hA hB.1 hB.2.1
    refine ⟨?_, ?_, tBeg_ok hA hB.1 hB.2.1 hp hq⟩
    · unfold tBeg
      simp (discharger := decide) only [u2_s, u1_n]
      exact ⟨b1, b2, b5, b6, b7, b8, b9⟩
    · unfold tBeg
      simp (discharger := decide) only [u2_n]
      exact bp
  have t34 : tBeg A A0 (B 0 0) (B 0 1) p q 0 3 = p ∧ tBeg A A0 (B 0 0) (B 0 1) p q 0 4 = q := by
    unfold tBeg
    simp (discharger := decide) only [u2_s, u1_s, u1_n, and_self]
  obtain ⟨m0, ⟨-, m15, -, -, -, -, -, -, -, -, -, -, -, -, -, -, -, -, -, -, -, -, -⟩, ⟨-, mk2, -, -, -, -, -, -, -, -, -, -, -, -, -, -, -, -, -, -, -, -, -⟩⟩ := id hM
  obtain ⟨g0, -, -⟩ := id hG
  unfold trd
  have hap0 := hap
  unfold apF at hap
  refine x_aload_n dX12_tradeOf_0 rfl ?_
  refine (show X _ _ 1 _ _ _ _ _ _ from ?_)
  have hq0 := hq
  refine x_callV (As := []) (mc := 0) (ms := 0) (z := mX12_runs) (ci := 12) dX12_tradeOf_1 lX12_510 oX12_runs (by decide) (by first | assumption) rfl rfl (Nat.le_of_ble_eq_true rfl) (Nat.le_of_ble_eq_true rfl) rfl (hru) (fun v M1 hq => ?_)
  obtain ⟨rfl, E1, rfl, hq1⟩ := hq
  refine (show X _ _ 4 _ [] _ _ _ _ from ?_)
  have hs1 := RnQ_sc hI hq1
  have hI1 := DI_sc hI hs1
  have hv1 := (hI1.2.2.2.2.2.2 rfl).2.2.1
  obtain ⟨⟨hRM, -, -, -, -, hr0⟩, -⟩ := hq1
  have h41 : E1 0 41 = 0 := by rw [hr0 41 (by decide) (by decide) (by decide) (by decide) (by decide) (by decide), u2_s, u1_n (by decide), u2_s, u1_s]
  have hgo := c_goes (g := g) (J := J) (z := z) (k := 0) (n := 0) (E := u2 (u2 E1 0 42 p) 0 43 q) (W0 := tBeg A A0 (B 0 0) (B 0 1) p q) (Ni := A0) (m := fY A) (rw := 0) (lw := B 0 0) (sd := B 0 1) hM hf hG hF hA hB hap0 (by rw [u2_n (by decide), u2_n (by decide)]; exact hv1) (Nat.le_refl _) (by rw [u2_s, u1_n (by decide), u2_s, u1_n (by decide)]; exact h41) (by omega) hBg (by
    unfold TrM
    rw [u2_s, u1_n (by decide), u1_s, u2_s, u1_s, t34.1, t34.2]
    exact ⟨by omega, by omega, Or.inr ⟨hp.1, hq0.1, hpq, rfl, rfl⟩⟩) NOk_0 (fun y _ hy => absurd hy (by omega))
  rw [show rTo A B 0 (u2 (u2 E1 0 42 p) 0 43 q 22) (tBeg A A0 (B 0 0) (B 0 1) p q) = runTo A B (tBeg A A0 (B 0 0) (B 0 1) p q) from funext fun i => rTo_0 i, eY.1] at hgo
  refine x_aload_n dX12_tradeOf_4 rfl ?_
  refine b_gi0 (r := r) (m := 24) dX12_tradeOf_5 fX12_437 (by first | assumption) (fun _ _ _ => rfl) (by decide) ?_
  refine (show X _ _ 8 _ _ _ _ _ _ from ?_)
  refine X.val hRM.1.2.2.2.1 ?_
  refine x_istore_n dX12_tradeOf_8 (by decide) rfl rfl ?_
  refine x_aload_n dX12_tradeOf_9 rfl ?_
  refine x_iload_n dX12_tradeOf_10 rfl ?_
  refine b_pi0 (r := r) (m := 24) dX12_tradeOf_11 (pX12_423 _) (by first | assumption) (fun _ _ _ => rfl) rfl rfl (by decide) ?_
  refine x_aload_n dX12_tradeOf_14 rfl ?_
  refine x_iload_n dX12_tradeOf_15 rfl ?_
  refine b_pi0 (r := r) (m := 24) dX12_tradeOf_16 (pX12_478 _) (by first | assumption) (fun _ _ _ => rfl) rfl rfl (by decide) ?_
  refine x_aload_n dX12_tradeOf_19 rfl ?_
  refine (show X _ _ 20 _ _ _ _ _ _ from ?_)
  refine x_aload_n dX12_tradeOf_20 rfl ?_
  refine x_gr dX12_tradeOf_21 fX12_17 (by first | assumption) (fun _ _ _ => rfl) (by first | assumption) ?_
  refine y_iconst dX12_tradeOf_24 ?_
  refine b_iald (r := r) (m := 24) (j := 2) (0) dX12_tradeOf_25 (by first | assumption) (by first | rfl | omega) (by omega) (by decide) (by decide) ?_
  refine (show X _ _ 26 _ _ _ _ _ _ from ?_)
  refine X.val (b := B 0 0) (by rw [u2_n (by decide), u2_n (by decide)]; exact hv1.1) ?_
  refine x_aload_n dX12_tradeOf_26 rfl ?_
  refine x_gr dX12_tradeOf_27 fX12_17 (by first | assumption) (fun _ _ _ => rfl) (by first | assumption) ?_
  refine y_iconst dX12_tradeOf_30 ?_
  refine b_iald (r := r) (m := 24) (j := 2) (1) dX12_tradeOf_31 (by first | assumption) (by first | rfl | omega) (by omega) (by decide) (by decide) ?_
  refine (show X _ _ 32 _ _ _ _ _ _ from ?_)
  refine X.val (b := B 0 1) (by rw [u2_n (by decide), u2_n (by decide)]; exact hv1.2.1) ?_
  refine x_aload_n dX12_tradeOf_32 rfl ?_
  refine x_gr dX12_tradeOf_33 fX12_409 (by first | assumption) (fun _ _ _ => rfl) (by first | assumption) ?_
  refine b_gio (r := r) (m := 24) dX12_tradeOf_36 fX12_176 (by first | assumption) (fun _ _ _ => rfl) (by omega) ?_
  refine (show X _ _ 39 _ _ _ _ _ _ from ?_)
  refine X.val (hF.1 0 (by decide)) ?_
  refine x_callV (As := [_, _, _]) (mc := 0) (ms := 0) (z := mX12_goes) (ci := 12) dX12_tradeOf_39 lX12_426 oX12_goes (by decide) (by first | assumption) rfl rfl (Nat.le_of_ble_eq_true rfl) (Nat.le_of_ble_eq_true rfl) rfl (hgo) (fun v M1 hq => ?_)
  obtain ⟨rfl, E2, rfl, ⟨hRM2, -, -, -, hra2, hr2⟩, -⟩ := hq
  refine (show X _ _ 42 _ [] _ _ _ _ from ?_)
  refine x_aload_n dX12_tradeOf_42 rfl ?_
  refine b_gi0 (r := r) (m := 24) dX12_tradeOf_43 fX12_437 (by first | assumption) (fun _ _ _ => rfl) (by decide) ?_
  refine (show X _ _ 46 _ _ _ _ _ _ from ?_)
  refine X.val hRM2.1.2.2.2.1 ?_
  refine x_iload_n dX12_tradeOf_46 rfl ?_
  refine y_isub dX12_tradeOf_47 ?_
  refine (show X _ _ 48 _ _ _ _ _ _ from ?_)
  refine x_ireturn dX12_tradeOf_48 rfl ⟨rfl, E2, rfl, Sc_t hs1 ⟨fun b hb => ?_, fun c hc => ?_, ?_⟩⟩
  · rw [hra2 b (by omega), u2_n (by omega), u2_n (by omega)]
  · rw [hr2 c (by omega) (by omega) (by omega) (by omega) (by omega) (by omega), u2_s, u1_n (by omega), u2_s, u1_n (by omega)]
  · rw [hr2 43 (by decide) (by decide) (by decide) (by decide) (by decide) (by decide), u2_s, u1_s]; omega
theorem k_trade {p q : Int} (hI : DI T R V r f E t tp h A B a m H K wr pl tr) (hp : R32 p) (hq : R32 q) : X g mX12_trade 0 [.ref r, .int (iI p), .int (iI q)] [] (T, iV (pB V r 24 E), R, J, z) k n (DQ T R J z V r f (some (.int (iI (if noPr h A p q = true then -10000 else trd A B p q)))) t tp h A B a m H K wr pl (if noPr h A p q = true then 1 else 0)) := by
  have hM := hI.1
  have hI1 := DI_sc hI (Sc_th hI 0)
  have hip := k_isPerson (g := g) (J := J) (z := z) (k := 0) (n := 0) (p := p) hI1 hp
  have hiq := k_isPerson (g := g) (J := J) (z := z) (k := 0) (n := 0) (p := q) hI1 hq
  have hrf := k_refusedFar (g := g) (V := V) (E := u2 E 0 0 0) (J := J) (z := z) (k := 0) (n := 0) (x := 1) hM
  obtain ⟨p1, p2⟩ := hp
  obtain ⟨q1, q2⟩ := hq
  have bad : noPr h A p q = true → X g mX12_trade 39 [.ref r, .int (iI p), .int (iI q)] [] (T, iV (pB V r 24 (u2 E 0 0 0)), R, J, z) k n (DQ T R J z V r f (some (.int (iI (if noPr h A p q = true then -10000 else trd A B p q)))) t tp h A B a m H K wr pl (if noPr h A p q = true then 1 else 0)) := by
    intro e
    rw [if_pos e, if_pos e]
    obtain ⟨m0, -, -⟩ := id hM
    refine x_aload_n dX12_trade_39 rfl ?_
    refine y_iconst dX12_trade_40 ?_
    refine (show X _ _ 41 _ _ _ _ _ _ from ?_)
    refine x_callV (As := [_]) (mc := 0) (ms := 0) (z := mX12_refusedFar) (ci := 12) dX12_trade_41 lX12_527 oX12_refusedFar (by decide) (by first | assumption) rfl rfl (Nat.le_of_ble_eq_true rfl) (Nat.le_of_ble_eq_true rfl) rfl (hrf) (k_I ?_)
    refine (show X _ _ 44 _ _ _ _ _ _ from ?_)
    exact x_ireturn dX12_trade_44 rfl (DQ_tr hI1 1 (by decide) _)
  obtain ⟨m0, -, -⟩ := id hM
  refine x_aload_n dX12_trade_0 rfl ?_
  refine y_iconst dX12_trade_1 ?_
  refine b_pi0 (r := r) (m := 24) dX12_trade_2 (pX12_85 _) (by first | assumption) (fun _ _ _ => rfl) rfl rfl (by decide) ?_
  refine x_aload_n dX12_trade_5 rfl ?_
  refine x_iload_n dX12_trade_6 rfl ?_
  refine (show X _ _ 7 _ _ _ _ _ _ from ?_)
  refine x_callV (As := [_]) (mc := 0) (ms := 0) (z := mX12_isPerson) (ci := 12) dX12_trade_7 lX12_513 oX12_isPerson (by decide) (by first | assumption) rfl rfl (Nat.le_of_ble_eq_true rfl) (Nat.le_of_ble_eq_true rfl) rfl (hip) (k_I ?_)
  refine (show X _ _ 10 _ _ _ _ _ _ from ?_)
  refine y_ifb_eq 39 dX12_trade_10 (by decide) (fun c1 => ?_) (fun c1 => ?_)
  · exact bad (by unfold noPr; cases hc : noP h A p; rw [hc] at c1; cases c1; rfl)
  refine x_aload_n dX12_trade_13 rfl ?_
  refine x_iload_n dX12_trade_14 rfl ?_
  refine (show X _ _ 15 _ _ _ _ _ _ from ?_)
  refine x_callV (As := [_]) (mc := 0) (ms := 0) (z := mX12_isPerson) (ci := 12) dX12_trade_15 lX12_513 oX12_isPerson (by decide) (by first | assumption) rfl rfl (Nat.le_of_ble_eq_true rfl) (Nat.le_of_ble_eq_true rfl) rfl (hiq) (k_I ?_)
  refine (show X _ _ 18 _ _ _ _ _ _ from ?_)
  refine y_ifb_eq 39 dX12_trade_18 (by decide) (fun c2 => ?_) (fun c2 => ?_)
  · exact bad (by unfold noPr; cases hc : noP h A q; rw [hc] at c2; cases c2; rw [Bool.or_true]; rfl)
  refine x_iload_n dX12_trade_21 rfl ?_
  refine x_iload_n dX12_trade_22 rfl ?_
  refine (show X _ _ 23 _ _ _ _ _ _ from ?_)
  refine y_icmp_eq 39 dX12_trade_23 (by decide) ⟨by omega, by omega⟩ ⟨by omega, by omega⟩ (fun c3 => ?_) (fun c3 => ?_)
  · exact bad (by unfold noPr; rw [decide_eq_true c3, Bool.or_true])
  have e1 : noP h A p = false := by cases hc : noP h A p; rfl; rw [hc] at c1; cases c1
  have e2 : noP h A q = false := by cases hc : noP h A q; rfl; rw [hc] at c2; cases c2
  rw [show noPr h A p q = false by unfold noPr; rw [e1, e2, decide_eq_false c3]; rfl, if_neg (by decide), if_neg (by decide)]
  obtain ⟨rfl, e3, e4⟩ := noP_f e1
  obtain ⟨-, e5, e6⟩ := noP_f e2
  have hA3 := (hI.2.2.2.2.2.2 rfl).2.1.1.2.2.2.1
  have hto := k_tradeOf (g := g) (J := J) (z := z) (k := 0) (n := 0) (p := p) (q := q) hI1 (by omega) (by omega) c3
  refine x_aload_n dX12_trade_26 rfl ?_
  refine x_aload_n dX12_trade_27 rfl ?_
  refine x_iload_n dX12_trade_28 rfl ?_
  refine x_iload_n dX12_trade_29 rfl ?_
  refine (show X _ _ 30 _ _ _ _ _ _ from ?_)
  refine x_callV (As := [_, _]) (mc := 0) (ms := 0) (z := mX12_tradeOf) (ci := 12) dX12_trade_30 lX12_565 oX12_tradeOf (by decide) (by first | assumption) rfl rfl (Nat.le_of_ble_eq_true rfl) (Nat.le_of_ble_eq_true rfl) rfl (hto) (fun v M1 hq => ?_)
  obtain ⟨rfl, E', rfl, hq⟩ := hq
  refine (show X _ _ 33 _ [.int (iI (trd A B p q)), .ref r] _ _ _ _ from ?_)
  have hgo := k_good (g := g) (V := V) (E := E') (J := J) (z := z) (k := 0) (n := 0) (x := trd A B p q) hM
  refine x_callV (As := [_]) (mc := 0) (ms := 0) (z := mX12_good) (ci := 12) dX12_trade_33 lX12_95 oX12_good (by decide) (by first | assumption) rfl rfl (Nat.le_of_ble_eq_true rfl) (Nat.le_of_ble_eq_true rfl) rfl (hgo) (k_I ?_)
  refine (show X _ _ 36 _ _ _ _ _ _ from ?_)
  refine x_goto 44 dX12_trade_36 (by decide) ?_
  refine (show X _ _ 44 _ _ _ _ _ _ from ?_)
  exact x_ireturn dX12_trade_44 rfl (DQ_tr (DI_sc hI1 hq) 0 (by decide) _)
end C9a
