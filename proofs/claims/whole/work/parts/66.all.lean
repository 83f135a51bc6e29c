/-! ===== the class's face: all years together ===== -/
theorem noP_f {h : Bool} {A : Nat → Nat → Int} {p : Int} (e : noP h A p = false) : h = true ∧ 0 ≤ p ∧ p < A 0 3 := by
  have := of_decide_eq_false e
  exact Classical.byContradiction fun c => this c
theorem noS_f {h : Bool} {A : Nat → Nat → Int} {p : Int} (e : noS h A p = false) : h = true ∧ 0 ≤ p ∧ p < A 0 6 := by
  have := of_decide_eq_false e
  exact Classical.byContradiction fun c => this c
section C66
variable {g : GG} {T : Nat → Nat × Nat} {V A B : Nat → Nat → Int} {R : Nat → Nat → Option Nat} {J : Nat → Nat → Int64} {z k n : Nat} {o fw fr : Nat} {σ : Nat → Nat} {t : Nat → Int} {tp : Nat} {h : Bool} {a m : Nat} {H K : Nat → Nat → Nat → Int} {wr pl tr : Int}
/-- who was it: bounds -/
theorem an_el (hI : CI T R V o fw fr σ t tp h A B a m H K wr pl tr) (hh : h = true) : ∀ i, i < fY A → -2 ≤ V (o + 155 + 12) i ∧ V (o + 155 + 12) i < A 0 3 := by
  obtain ⟨-, -, -, -, -, ⟨-, -, hA, hB⟩, -, -, g1, -⟩ := hI
  obtain ⟨-, -, ⟨Ni, Wi, -, hAn⟩, -⟩ := g1 hh
  intro i hi
  have e : V (o + 155 + 12) = runTo A B (rBeg A Wi (B 0 0) (B 0 1)) (fY A) 4 := hAn.1 4 (by decide)
  have hr := runTo_ok hA hB (rBeg_ok (W := Wi) hA hB.1 hB.2.1) (fY A)
  rw [e]
  exact hr.2.2.2.2.2.2.2.2.2 i hi
theorem f_harmAll (hI : CI T R V o fw fr σ t tp h A B a m H K wr pl tr) : X g mX10_harmAll 0 [.ref o] [] (T, iV V, R, J, z) k n (CQ T R J z V o (some (.int (iI (if h = true then V (o + 163) 8 else -1)))) t tp h A B a m H K wr pl (if h = true then 0 else 1)) := by
  have hI0 := hI
  have hel := an_el hI
  obtain ⟨hC, ⟨p6, p7⟩, -, -, -, ⟨f1, f2, f3, f4⟩, -⟩ := hI
  have hnp := fun (p : Int) hp => c_isNoPerson (g := g) (J := J) (z := z) (k := 0) (n := 0) (p := p) hC p6 f1 f3 hp
  have hns := fun (p : Int) hp => c_isNoSecret (g := g) (J := J) (z := z) (k := 0) (n := 0) (p := p) hC p6 f1 f3 hp
  have hpy := fun (p y : Int) hp hy => c_personYearTrouble (g := g) (J := J) (z := z) (k := 0) (n := 0) (p := p) (y := y) hC p6 f1 f3 hp hy
  have hrf := fun x => c_refuse (g := g) (J := J) (z := z) (k := 0) (n := 0) (V := V) (x := x) hC
  have hgr := fun x => c_grant (g := g) (J := J) (z := z) (k := 0) (n := 0) (V := V) (x := x) hC
  have hsep := hC.2.2.2.2.2.2.2
  obtain ⟨⟨c0, c1, c2, c3, c4, c5, c6⟩, -, ⟨⟨w0, w1, w2, w3⟩, hFS, -⟩, -, hU, -⟩ := hC
  have hf0 := hFS.1
  obtain ⟨fR9, fR10, fR11, fR12, fR13, fR14⟩ := hFS.2.1
  obtain ⟨fT1, fT12, fT25, fT34, fT43, fT44⟩ := hFS.2.2.1
  obtain ⟨u0, u1', u2', u3'⟩ := hU.1
  obtain ⟨v1, v2, v3, v4, v5, v6, v7⟩ := hU.2.1
  have hT6 : T (o + 155 + 6) = (1, 240) := hU.2.2.1.2.2.2.2.2.1
  have ru := hU.2.2.2.1
  have ru0 := ru.1.1
  have ru2 : R (o + 155 + 8) 13 = some (o + 155 + 8 + 3) := ru.2.1.2.2.1
  have ru3 : T (o + 155 + 8 + 3) = (1, 10) := ru.2.2.2.2.1
  have hA0 := f3.1
  have hA3 := f3.2.2.2.1
  have hA6 := f3.2.2.2.2.2.2.1
  refine x_aload_n dX10_harmAll_0 rfl ?_
  refine y_gi dX10_harmAll_1 fX10_53 (by first | assumption) (fun _ _ _ => rfl) ?_
  refine (show X _ _ 4 _ _ _ _ _ _ from ?_)
  refine X.val p6 ?_
  refine y_ifb_eq 24 dX10_harmAll_4 (by decide) (fun e => ?_) (fun e => ?_)
  · rw [if_neg (by rw [e]; decide), if_neg (by rw [e]; decide)]
    refine x_aload_n dX10_harmAll_24 rfl ?_
    refine y_iconst dX10_harmAll_25 ?_
    refine (show X _ _ 26 _ _ _ _ _ _ from ?_)
    refine x_callV (As := [_]) (mc := 0) (ms := 0) (z := mX10_refuse) (ci := 10) dX10_harmAll_26 lX10_68 oX10_refuse (by decide) (by first | assumption) rfl rfl (Nat.le_of_ble_eq_true rfl) (Nat.le_of_ble_eq_true rfl) rfl (hrf _) (k_I ?_)
    refine (show X _ _ 29 _ _ _ _ _ _ from ?_)
    exact x_ireturn dX10_harmAll_29 rfl (CQ_tr hI0 _ _)
  · rw [if_pos e, if_pos e]
    refine x_aload_n dX10_harmAll_7 rfl ?_
    refine x_aload_n dX10_harmAll_8 rfl ?_
    refine x_gr dX10_harmAll_9 fX10_35 (by first | assumption) (fun _ _ _ => rfl) (by first | assumption) ?_
    refine x_gr dX10_harmAll_12 fX10_138 (by first | assumption) (fun _ _ _ => rfl) (by first | assumption) ?_
    refine y_gi dX10_harmAll_15 fX10_179 (by first | assumption) (fun _ _ _ => rfl) ?_
    refine (show X _ _ 18 _ _ _ _ _ _ from ?_)
    refine x_callV (As := [_]) (mc := 0) (ms := 0) (z := mX10_grant) (ci := 10) dX10_harmAll_18 lX10_116 oX10_grant (by decide) (by first | assumption) rfl rfl (Nat.le_of_ble_eq_true rfl) (Nat.le_of_ble_eq_true rfl) rfl (hgr _) (k_I ?_)
    refine (show X _ _ 21 _ _ _ _ _ _ from ?_)
    refine x_goto 29 dX10_harmAll_21 (by decide) ?_
    refine (show X _ _ 29 _ _ _ _ _ _ from ?_)
    exact x_ireturn dX10_harmAll_29 rfl (CQ_tr hI0 _ _)
theorem f_deaths (hI : CI T R V o fw fr σ t tp h A B a m H K wr pl tr) : X g mX10_deaths 0 [.ref o] [] (T, iV V, R, J, z) k n (CQ T R J z V o (some (.int (iI (if h = true then V (o + 163) 9 else -1)))) t tp h A B a m H K wr pl (if h = true then 0 else 1)) := by
  have hI0 := hI
  have hel := an_el hI
  obtain ⟨hC, ⟨p6, p7⟩, -, -, -, ⟨f1, f2, f3, f4⟩, -⟩ := hI
  have hnp := fun (p : Int) hp => c_isNoPerson (g := g) (J := J) (z := z) (k := 0) (n := 0) (p := p) hC p6 f1 f3 hp
  have hns := fun (p : Int) hp => c_isNoSecret (g := g) (J := J) (z := z) (k := 0) (n := 0) (p := p) hC p6 f1 f3 hp
  have hpy := fun (p y : Int) hp hy => c_personYearTrouble (g := g) (J := J) (z := z) (k := 0) (n := 0) (p := p) (y := y) hC p6 f1 f3 hp hy
  have hrf := fun x => c_refuse (g := g) (J := J) (z := z) (k := 0) (n := 0) (V := V) (x := x) hC
  have hgr := fun x => c_grant (g := g) (J := J) (z := z) (k := 0) (n := 0) (V := V) (x := x) hC
  have hsep := hC.2.2.2.2.2.2.2
  obtain ⟨⟨c0, c1, c2, c3, c4, c5, c6⟩, -, ⟨⟨w0, w1, w2, w3⟩, hFS, -⟩, -, hU, -⟩ := hC
  have hf0 := hFS.1
  obtain ⟨fR9, fR10, fR11, fR12, fR13, fR14⟩ := hFS.2.1
  obtain ⟨fT1, fT12, fT25, fT34, fT43, fT44⟩ := hFS.2.2.1
  obtain ⟨u0, u1', u2', u3'⟩ := hU.1
  obtain ⟨v1, v2, v3, v4, v5, v6, v7⟩ := hU.2.1
  have hT6 : T (o + 155 + 6) = (1, 240) := hU.2.2.1.2.2.2.2.2.1
  have ru := hU.2.2.2.1
  have ru0 := ru.1.1
  have ru2 : R (o + 155 + 8) 13 = some (o + 155 + 8 + 3) := ru.2.1.2.2.1
  have ru3 : T (o + 155 + 8 + 3) = (1, 10) := ru.2.2.2.2.1
  have hA0 := f3.1
  have hA3 := f3.2.2.2.1
  have hA6 := f3.2.2.2.2.2.2.1
  refine x_aload_n dX10_deaths_0 rfl ?_
  refine y_gi dX10_deaths_1 fX10_53 (by first | assumption) (fun _ _ _ => rfl) ?_
  refine (show X _ _ 4 _ _ _ _ _ _ from ?_)
  refine X.val p6 ?_
  refine y_ifb_eq 24 dX10_deaths_4 (by decide) (fun e => ?_) (fun e => ?_)
  · rw [if_neg (by rw [e]; decide), if_neg (by rw [e]; decide)]
    refine x_aload_n dX10_deaths_24 rfl ?_
    refine y_iconst dX10_deaths_25 ?_
    refine (show X _ _ 26 _ _ _ _ _ _ from ?_)
    refine x_callV (As := [_]) (mc := 0) (ms := 0) (z := mX10_refuse) (ci := 10) dX10_deaths_26 lX10_68 oX10_refuse (by decide) (by first | assumption) rfl rfl (Nat.le_of_ble_eq_true rfl) (Nat.le_of_ble_eq_true rfl) rfl (hrf _) (k_I ?_)
    refine (show X _ _ 29 _ _ _ _ _ _ from ?_)
    exact x_ireturn dX10_deaths_29 rfl (CQ_tr hI0 _ _)
  · rw [if_pos e, if_pos e]
    refine x_aload_n dX10_deaths_7 rfl ?_
    refine x_aload_n dX10_deaths_8 rfl ?_
    refine x_gr dX10_deaths_9 fX10_35 (by first | assumption) (fun _ _ _ => rfl) (by first | assumption) ?_
    refine x_gr dX10_deaths_12 fX10_138 (by first | assumption) (fun _ _ _ => rfl) (by first | assumption) ?_
    refine y_gi dX10_deaths_15 fX10_197 (by first | assumption) (fun _ _ _ => rfl) ?_
    refine (show X _ _ 18 _ _ _ _ _ _ from ?_)
    refine x_callV (As := [_]) (mc := 0) (ms := 0) (z := mX10_grant) (ci := 10) dX10_deaths_18 lX10_116 oX10_grant (by decide) (by first | assumption) rfl rfl (Nat.le_of_ble_eq_true rfl) (Nat.le_of_ble_eq_true rfl) rfl (hgr _) (k_I ?_)
    refine (show X _ _ 21 _ _ _ _ _ _ from ?_)
    refine x_goto 29 dX10_deaths_21 (by decide) ?_
    refine (show X _ _ 29 _ _ _ _ _ _ from ?_)
    exact x_ireturn dX10_deaths_29 rfl (CQ_tr hI0 _ _)
theorem f_harmOf {p : Int} (hI : CI T R V o fw fr σ t tp h A B a m H K wr pl tr) (hp : R32 p) : X g mX10_harmOf 0 [.ref o, .int (iI p)] [] (T, iV V, R, J, z) k n (CQ T R J z V o (some (.int (iI (if noP h A p = true then -1 else hTo A (fun j => V (o + 155 + j)) p)))) t tp h A B a m H K wr pl (if noP h A p = true then 1 else 0)) := by
  have hI0 := hI
  have hel := an_el hI
  obtain ⟨hC, ⟨p6, p7⟩, -, -, -, ⟨f1, f2, f3, f4⟩, -⟩ := hI
  have hnp := fun (p : Int) hp => c_isNoPerson (g := g) (J := J) (z := z) (k := 0) (n := 0) (p := p) hC p6 f1 f3 hp
  have hns := fun (p : Int) hp => c_isNoSecret (g := g) (J := J) (z := z) (k := 0) (n := 0) (p := p) hC p6 f1 f3 hp
  have hpy := fun (p y : Int) hp hy => c_personYearTrouble (g := g) (J := J) (z := z) (k := 0) (n := 0) (p := p) (y := y) hC p6 f1 f3 hp hy
  have hrf := fun x => c_refuse (g := g) (J := J) (z := z) (k := 0) (n := 0) (V := V) (x := x) hC
  have hgr := fun x => c_grant (g := g) (J := J) (z := z) (k := 0) (n := 0) (V := V) (x := x) hC
  have hsep := hC.2.2.2.2.2.2.2
  obtain ⟨⟨c0, c1, c2, c3, c4, c5, c6⟩, -, ⟨⟨w0, w1, w2, w3⟩, hFS, -⟩, -, hU, -⟩ := hC
  have hf0 := hFS.1
  obtain ⟨fR9, fR10, fR11, fR12, fR13, fR14⟩ := hFS.2.1
  obtain ⟨fT1, fT12, fT25, fT34, fT43, fT44⟩ := hFS.2.2.1
  obtain ⟨u0, u1', u2', u3'⟩ := hU.1
  obtain ⟨v1, v2, v3, v4, v5, v6, v7⟩ := hU.2.1
  have hT6 : T (o + 155 + 6) = (1, 240) := hU.2.2.1.2.2.2.2.2.1
  have ru := hU.2.2.2.1
  have ru0 := ru.1.1
  have ru2 : R (o + 155 + 8) 13 = some (o + 155 + 8 + 3) := ru.2.1.2.2.1
  have ru3 : T (o + 155 + 8 + 3) = (1, 10) := ru.2.2.2.2.1
  have hA0 := f3.1
  have hA3 := f3.2.2.2.1
  have hA6 := f3.2.2.2.2.2.2.1
  have hnp := hnp p hp
  refine x_aload_n dX10_harmOf_0 rfl ?_
  refine x_iload_n dX10_harmOf_1 rfl ?_
  refine (show X _ _ 2 _ _ _ _ _ _ from ?_)
  refine x_callV (As := [_]) (mc := 0) (ms := 0) (z := mX10_isNoPerson) (ci := 10) dX10_harmOf_2 lX10_109 oX10_isNoPerson (by decide) (by first | assumption) rfl rfl (Nat.le_of_ble_eq_true rfl) (Nat.le_of_ble_eq_true rfl) rfl (hnp) (k_I ?_)
  refine (show X _ _ 5 _ _ _ _ _ _ from ?_)
  refine y_ifb_eq 16 dX10_harmOf_5 (by decide) (fun e => ?_) (fun e => ?_)
  rotate_left
  · rw [if_pos e, if_pos e]
    refine x_aload_n dX10_harmOf_8 rfl ?_
    refine y_iconst dX10_harmOf_9 ?_
    refine (show X _ _ 10 _ _ _ _ _ _ from ?_)
    refine x_callV (As := [_]) (mc := 0) (ms := 0) (z := mX10_refuse) (ci := 10) dX10_harmOf_10 lX10_68 oX10_refuse (by decide) (by first | assumption) rfl rfl (Nat.le_of_ble_eq_true rfl) (Nat.le_of_ble_eq_true rfl) rfl (hrf _) (k_I ?_)
    refine (show X _ _ 13 _ _ _ _ _ _ from ?_)
    refine x_goto 28 dX10_harmOf_13 (by decide) ?_
    refine (show X _ _ 28 _ _ _ _ _ _ from ?_)
    exact x_ireturn dX10_harmOf_28 rfl (CQ_tr hI0 _ _)
  · rw [if_neg (by rw [e]; decide), if_neg (by rw [e]; decide)]
    have e2 := noP_f e
    have hel := hel e2.1
    have cc := c_harmTo (g := g) (J := J) (z := z) (k := 0) (n := 0) (V := V) (p := p) (E := fun j => V (o + 155 + j)) hU w0 w1 hFS f1 f3 ⟨by omega, by omega⟩ hp (fun i hi => ⟨by have := hel i hi; show _ ≤ V (o + 155 + 12) i; omega, by have := hel i hi; show V (o + 155 + 12) i ≤ _; omega⟩)
    rw [pB_self (fun _ _ => rfl)] at cc
    refine x_aload_n dX10_harmOf_16 rfl ?_
    refine x_aload_n dX10_harmOf_17 rfl ?_
    refine x_gr dX10_harmOf_18 fX10_35 (by first | assumption) (fun _ _ _ => rfl) (by first | assumption) ?_
    refine x_iload_n dX10_harmOf_21 rfl ?_
    refine (show X _ _ 22 _ _ _ _ _ _ from ?_)
    refine x_callV (As := [_]) (mc := 0) (ms := 0) (z := mX1_harmTo) (ci := 1) dX10_harmOf_22 lX10_181 oX1_harmTo (by decide) (by first | assumption) rfl rfl (Nat.le_of_ble_eq_true rfl) (Nat.le_of_ble_eq_true rfl) rfl (cc) (k_I ?_)
    refine (show X _ _ 25 _ _ _ _ _ _ from ?_)
    refine x_callV (As := [_]) (mc := 0) (ms := 0) (z := mX10_grant) (ci := 10) dX10_harmOf_25 lX10_116 oX10_grant (by decide) (by first | assumption) rfl rfl (Nat.le_of_ble_eq_true rfl) (Nat.le_of_ble_eq_true rfl) rfl (hgr _) (k_I ?_)
    refine (show X _ _ 28 _ _ _ _ _ _ from ?_)
    exact x_ireturn dX10_harmOf_28 rfl (CQ_tr hI0 _ _)
theorem f_first {p : Int} (hI : CI T R V o fw fr σ t tp h A B a m H K wr pl tr) (hp : R32 p) : X g mX10_first 0 [.ref o, .int (iI p)] [] (T, iV V, R, J, z) k n (CQ T R J z V o (some (.int (iI (if noP h A p = true then -1 else fTurn A (fun j => V (o + 155 + j)) p)))) t tp h A B a m H K wr pl (if noP h A p = true then 1 else 0)) := by
  have hI0 := hI
  have hel := an_el hI
  obtain ⟨hC, ⟨p6, p7⟩, -, -, -, ⟨f1, f2, f3, f4⟩, -⟩ := hI
  have hnp := fun (p : Int) hp => c_isNoPerson (g := g) (J := J) (z := z) (k := 0) (n := 0) (p := p) hC p6 f1 f3 hp
  have hns := fun (p : Int) hp => c_isNoSecret (g := g) (J := J) (z := z) (k := 0) (n := 0) (p := p) hC p6 f1 f3 hp
  have hpy := fun (p y : Int) hp hy => c_personYearTrouble (g := g) (J := J) (z := z) (k := 0) (n := 0) (p := p) (y := y) hC p6 f1 f3 hp hy
  have hrf := fun x => c_refuse (g := g) (J := J) (z := z) (k := 0) (n := 0) (V := V) (x := x) hC
  have hgr := fun x => c_grant (g := g) (J := J) (z := z) (k := 0) (n := 0) (V := V) (x := x) hC
  have hsep := hC.2.2.2.2.2.2.2
  obtain ⟨⟨c0, c1, c2, c3, c4, c5, c6⟩, -, ⟨⟨w0, w1, w2, w3⟩, hFS, -⟩, -, hU, -⟩ := hC
  have hf0 := hFS.1
  obtain ⟨fR9, fR10, fR11, fR12, fR13, fR14⟩ := hFS.2.1
  obtain ⟨fT1, fT12, fT25, fT34, fT43, fT44⟩ := hFS.2.2.1
  obtain ⟨u0, u1', u2', u3'⟩ := hU.1
  obtain ⟨v1, v2, v3, v4, v5, v6, v7⟩ := hU.2.1
  have hT6 : T (o + 155 + 6) = (1, 240) := hU.2.2.1.2.2.2.2.2.1
  have ru := hU.2.2.2.1
  have ru0 := ru.1.1
  have ru2 : R (o + 155 + 8) 13 = some (o + 155 + 8 + 3) := ru.2.1.2.2.1
  have ru3 : T (o + 155 + 8 + 3) = (1, 10) := ru.2.2.2.2.1
  have hA0 := f3.1
  have hA3 := f3.2.2.2.1
  have hA6 := f3.2.2.2.2.2.2.1
  have hnp := hnp p hp
  refine x_aload_n dX10_first_0 rfl ?_
  refine x_iload_n dX10_first_1 rfl ?_
  refine (show X _ _ 2 _ _ _ _ _ _ from ?_)
  refine x_callV (As := [_]) (mc := 0) (ms := 0) (z := mX10_isNoPerson) (ci := 10) dX10_first_2 lX10_109 oX10_isNoPerson (by decide) (by first | assumption) rfl rfl (Nat.le_of_ble_eq_true rfl) (Nat.le_of_ble_eq_true rfl) rfl (hnp) (k_I ?_)
  refine (show X _ _ 5 _ _ _ _ _ _ from ?_)
  refine y_ifb_eq 16 dX10_first_5 (by decide) (fun e => ?_) (fun e => ?_)
  rotate_left
  · rw [if_pos e, if_pos e]
    refine x_aload_n dX10_first_8 rfl ?_
    refine y_iconst dX10_first_9 ?_
    refine (show X _ _ 10 _ _ _ _ _ _ from ?_)
    refine x_callV (As := [_]) (mc := 0) (ms := 0) (z := mX10_refuse) (ci := 10) dX10_first_10 lX10_68 oX10_refuse (by decide) (by first | assumption) rfl rfl (Nat.le_of_ble_eq_true rfl) (Nat.le_of_ble_eq_true rfl) rfl (hrf _) (k_I ?_)
    refine (show X _ _ 13 _ _ _ _ _ _ from ?_)
    refine x_goto 28 dX10_first_13 (by decide) ?_
    refine (show X _ _ 28 _ _ _ _ _ _ from ?_)
    exact x_ireturn dX10_first_28 rfl (CQ_tr hI0 _ _)
  · rw [if_neg (by rw [e]; decide), if_neg (by rw [e]; decide)]
    have e2 := noP_f e
    have hel := hel e2.1
    have cc := c_firstTurn (g := g) (J := J) (z := z) (k := 0) (n := 0) (V := V) (p := p) (E := fun j => V (o + 155 + j)) hU w0 w1 hFS f1 f3 ⟨by omega, by omega⟩ hp (fun i hi => ⟨by have := hel i hi; show _ ≤ V (o + 155 + 12) i; omega, by have := hel i hi; show V (o + 155 + 12) i ≤ _; omega⟩)
    rw [pB_self (fun _ _ => rfl)] at cc
    refine x_aload_n dX10_first_16 rfl ?_
    refine x_aload_n dX10_first_17 rfl ?_
    refine x_gr dX10_first_18 fX10_35 (by first | assumption) (fun _ _ _ => rfl) (by first | assumption) ?_
    refine x_iload_n dX10_first_21 rfl ?_
    refine (show X _ _ 22 _ _ _ _ _ _ from ?_)
    refine x_callV (As := [_]) (mc := 0) (ms := 0) (z := mX1_firstTurn) (ci := 1) dX10_first_22 lX10_187 oX1_firstTurn (by decide) (by first | assumption) rfl rfl (Nat.le_of_ble_eq_true rfl) (Nat.le_of_ble_eq_true rfl) rfl (cc) (k_I ?_)
    refine (show X _ _ 25 _ _ _ _ _ _ from ?_)
    refine x_callV (As := [_]) (mc := 0) (ms := 0) (z := mX10_grant) (ci := 10) dX10_first_25 lX10_116 oX10_grant (by decide) (by first | assumption) rfl rfl (Nat.le_of_ble_eq_true rfl) (Nat.le_of_ble_eq_true rfl) rfl (hgr _) (k_I ?_)
    refine (show X _ _ 28 _ _ _ _ _ _ from ?_)
    exact x_ireturn dX10_first_28 rfl (CQ_tr hI0 _ _)
theorem f_last {p : Int} (hI : CI T R V o fw fr σ t tp h A B a m H K wr pl tr) (hp : R32 p) : X g mX10_last 0 [.ref o, .int (iI p)] [] (T, iV V, R, J, z) k n (CQ T R J z V o (some (.int (iI (if noP h A p = true then -1 else lTurn A (fun j => V (o + 155 + j)) p)))) t tp h A B a m H K wr pl (if noP h A p = true then 1 else 0)) := by
  have hI0 := hI
  have hel := an_el hI
  obtain ⟨hC, ⟨p6, p7⟩, -, -, -, ⟨f1, f2, f3, f4⟩, -⟩ := hI
  have hnp := fun (p : Int) hp => c_isNoPerson (g := g) (J := J) (z := z) (k := 0) (n := 0) (p := p) hC p6 f1 f3 hp
  have hns := fun (p : Int) hp => c_isNoSecret (g := g) (J := J) (z := z) (k := 0) (n := 0) (p := p) hC p6 f1 f3 hp
  have hpy := fun (p y : Int) hp hy => c_personYearTrouble (g := g) (J := J) (z := z) (k := 0) (n := 0) (p := p) (y := y) hC p6 f1 f3 hp hy
  have hrf := fun x => c_refuse (g := g) (J := J) (z := z) (k := 0) (n := 0) (V := V) (x := x) hC
  have hgr := fun x => c_grant (g := g) (J := J) (z := z) (k := 0) (n := 0) (V := V) (x := x) hC
  have hsep := hC.2.2.2.2.2.2.2
  obtain ⟨⟨c0, c1, c2, c3, c4, c5, c6⟩, -, ⟨⟨w0, w1, w2, w3⟩, hFS, -⟩, -, hU, -⟩ := hC
  have hf0 := hFS.1
  obtain ⟨fR9, fR10, fR11, fR12, fR13, fR14⟩ := hFS.2.1
  obtain ⟨fT1, fT12, fT25, fT34, fT43, fT44⟩ := hFS.2.2.1
  obtain ⟨u0, u1', u2', u3'⟩ := hU.1
  obtain ⟨v1, v2, v3, v4, v5, v6, v7⟩ := hU.2.1
  have hT6 : T (o + 155 + 6) = (1, 240) := hU.2.2.1.2.2.2.2.2.1
  have ru := hU.2.2.2.1
  have ru0 := ru.1.1
  have ru2 : R (o + 155 + 8) 13 = some (o + 155 + 8 + 3) := ru.2.1.2.2.1
  have ru3 : T (o + 155 + 8 + 3) = (1, 10) := ru.2.2.2.2.1
  have hA0 := f3.1
  have hA3 := f3.2.2.2.1
  have hA6 := f3.2.2.2.2.2.2.1
  have hnp := hnp p hp
  refine x_aload_n dX10_last_0 rfl ?_
  refine x_iload_n dX10_last_1 rfl ?_
  refine (show X _ _ 2 _ _ _ _ _ _ from ?_)
  refine x_callV (As := [_]) (mc := 0) (ms := 0) (z := mX10_isNoPerson) (ci := 10) dX10_last_2 lX10_109 oX10_isNoPerson (by decide) (by first | assumption) rfl rfl (Nat.le_of_ble_eq_true rfl) (Nat.le_of_ble_eq_true rfl) rfl (hnp) (k_I ?_)
  refine (show X _ _ 5 _ _ _ _ _ _ from ?_)
  refine y_ifb_eq 16 dX10_last_5 (by decide) (fun e => ?_) (fun e => ?_)
  rotate_left
  · rw [if_pos e, if_pos e]
    refine x_aload_n dX10_last_8 rfl ?_
    refine y_iconst dX10_last_9 ?_
    refine (show X _ _ 10 _ _ _ _ _ _ from ?_)
    refine x_callV (As := [_]) (mc := 0) (ms := 0) (z := mX10_refuse) (ci := 10) dX10_last_10 lX10_68 oX10_refuse (by decide) (by first | assumption) rfl rfl (Nat.le_of_ble_eq_true rfl) (Nat.le_of_ble_eq_true rfl) rfl (hrf _) (k_I ?_)
    refine (show X _ _ 13 _ _ _ _ _ _ from ?_)
    refine x_goto 28 dX10_last_13 (by decide) ?_
    refine (show X _ _ 28 _ _ _ _ _ _ from ?_)
    exact x_ireturn dX10_last_28 rfl (CQ_tr hI0 _ _)
  · rw [if_neg (by rw [e]; decide), if_neg (by rw [e]; decide)]
    have e2 := noP_f e
    have hel := hel e2.1
    have cc := c_lastTurn (g := g) (J := J) (z := z) (k := 0) (n := 0) (V := V) (p := p) (E := fun j => V (o + 155 + j)) hU w0 w1 hFS f1 f3 ⟨by omega, by omega⟩ hp (fun i hi => ⟨by have := hel i hi; show _ ≤ V (o + 155 + 12) i; omega, by have := hel i hi; show V (o + 155 + 12) i ≤ _; omega⟩)
    rw [pB_self (fun _ _ => rfl)] at cc
    refine x_aload_n dX10_last_16 rfl ?_
    refine x_aload_n dX10_last_17 rfl ?_
    refine x_gr dX10_last_18 fX10_35 (by first | assumption) (fun _ _ _ => rfl) (by first | assumption) ?_
    refine x_iload_n dX10_last_21 rfl ?_
    refine (show X _ _ 22 _ _ _ _ _ _ from ?_)
    refine x_callV (As := [_]) (mc := 0) (ms := 0) (z := mX1_lastTurn) (ci := 1) dX10_last_22 lX10_190 oX1_lastTurn (by decide) (by first | assumption) rfl rfl (Nat.le_of_ble_eq_true rfl) (Nat.le_of_ble_eq_true rfl) rfl (cc) (k_I ?_)
    refine (show X _ _ 25 _ _ _ _ _ _ from ?_)
    refine x_callV (As := [_]) (mc := 0) (ms := 0) (z := mX10_grant) (ci := 10) dX10_last_25 lX10_116 oX10_grant (by decide) (by first | assumption) rfl rfl (Nat.le_of_ble_eq_true rfl) (Nat.le_of_ble_eq_true rfl) rfl (hgr _) (k_I ?_)
    refine (show X _ _ 28 _ _ _ _ _ _ from ?_)
    exact x_ireturn dX10_last_28 rfl (CQ_tr hI0 _ _)
theorem f_purse {p : Int} (hI : CI T R V o fw fr σ t tp h A B a m H K wr pl tr) (hp : R32 p) : X g mX10_purse 0 [.ref o, .int (iI p)] [] (T, iV V, R, J, z) k n (CQ T R J z V o (some (.int (iI (if noP h A p = true then -10000 else V (o + 166) p.toNat)))) t tp h A B a m H K wr pl (if noP h A p = true then 1 else 0)) := by
  have hI0 := hI
  have hel := an_el hI
  obtain ⟨hC, ⟨p6, p7⟩, -, -, -, ⟨f1, f2, f3, f4⟩, -⟩ := hI
  have hnp := fun (p : Int) hp => c_isNoPerson (g := g) (J := J) (z := z) (k := 0) (n := 0) (p := p) hC p6 f1 f3 hp
  have hns := fun (p : Int) hp => c_isNoSecret (g := g) (J := J) (z := z) (k := 0) (n := 0) (p := p) hC p6 f1 f3 hp
  have hpy := fun (p y : Int) hp hy => c_personYearTrouble (g := g) (J := J) (z := z) (k := 0) (n := 0) (p := p) (y := y) hC p6 f1 f3 hp hy
  have hrf := fun x => c_refuse (g := g) (J := J) (z := z) (k := 0) (n := 0) (V := V) (x := x) hC
  have hgr := fun x => c_grant (g := g) (J := J) (z := z) (k := 0) (n := 0) (V := V) (x := x) hC
  have hsep := hC.2.2.2.2.2.2.2
  obtain ⟨⟨c0, c1, c2, c3, c4, c5, c6⟩, -, ⟨⟨w0, w1, w2, w3⟩, hFS, -⟩, -, hU, -⟩ := hC
  have hf0 := hFS.1
  obtain ⟨fR9, fR10, fR11, fR12, fR13, fR14⟩ := hFS.2.1
  obtain ⟨fT1, fT12, fT25, fT34, fT43, fT44⟩ := hFS.2.2.1
  obtain ⟨u0, u1', u2', u3'⟩ := hU.1
  obtain ⟨v1, v2, v3, v4, v5, v6, v7⟩ := hU.2.1
  have hT6 : T (o + 155 + 6) = (1, 240) := hU.2.2.1.2.2.2.2.2.1
  have ru := hU.2.2.2.1
  have ru0 := ru.1.1
  have ru2 : R (o + 155 + 8) 13 = some (o + 155 + 8 + 3) := ru.2.1.2.2.1
  have ru3 : T (o + 155 + 8 + 3) = (1, 10) := ru.2.2.2.2.1
  have hA0 := f3.1
  have hA3 := f3.2.2.2.1
  have hA6 := f3.2.2.2.2.2.2.1
  have hnp := hnp p hp
  refine x_aload_n dX10_purse_0 rfl ?_
  refine x_iload_n dX10_purse_1 rfl ?_
  refine (show X _ _ 2 _ _ _ _ _ _ from ?_)
  refine x_callV (As := [_]) (mc := 0) (ms := 0) (z := mX10_isNoPerson) (ci := 10) dX10_purse_2 lX10_109 oX10_isNoPerson (by decide) (by first | assumption) rfl rfl (Nat.le_of_ble_eq_true rfl) (Nat.le_of_ble_eq_true rfl) rfl (hnp) (k_I ?_)
  refine (show X _ _ 5 _ _ _ _ _ _ from ?_)
  refine y_ifb_eq 18 dX10_purse_5 (by decide) (fun e => ?_) (fun e => ?_)
  rotate_left
  · rw [if_pos e, if_pos e]
    refine x_aload_n dX10_purse_8 rfl ?_
    refine y_iconst dX10_purse_9 ?_
    refine (show X _ _ 10 _ _ _ _ _ _ from ?_)
    refine x_callV (As := [_]) (mc := 0) (ms := 0) (z := mX10_refuse) (ci := 10) dX10_purse_10 lX10_68 oX10_refuse (by decide) (by first | assumption) rfl rfl (Nat.le_of_ble_eq_true rfl) (Nat.le_of_ble_eq_true rfl) rfl (hrf _) (k_I ?_)
    refine (show X _ _ 13 _ _ _ _ _ _ from ?_)
    refine x_pop dX10_purse_13 rfl ?_
    refine y_sipush dX10_purse_14 rfl ?_
    refine (show X _ _ 17 _ _ _ _ _ _ from ?_)
    exact x_ireturn dX10_purse_17 rfl (CQ_tr hI0 _ _)
  · rw [if_neg (by rw [e]; decide), if_neg (by rw [e]; decide)]
    have e2 := noP_f e
    refine x_aload_n dX10_purse_18 rfl ?_
    refine x_aload_n dX10_purse_19 rfl ?_
    refine x_gr dX10_purse_20 fX10_35 (by first | assumption) (fun _ _ _ => rfl) (by first | assumption) ?_
    refine x_gr dX10_purse_23 fX10_138 (by first | assumption) (fun _ _ _ => rfl) (by first | assumption) ?_
    refine x_gr dX10_purse_26 fX10_184 (by first | assumption) (fun _ _ _ => rfl) (by first | assumption) ?_
    refine x_iload_n dX10_purse_29 rfl ?_
    refine y_iald (p.toNat) dX10_purse_30 (by first | assumption) (by first | rfl | omega) (by omega) (by decide) ?_
    refine (show X _ _ 31 _ _ _ _ _ _ from ?_)
    refine x_callV (As := [_]) (mc := 0) (ms := 0) (z := mX10_grant) (ci := 10) dX10_purse_31 lX10_116 oX10_grant (by decide) (by first | assumption) rfl rfl (Nat.le_of_ble_eq_true rfl) (Nat.le_of_ble_eq_true rfl) rfl (hgr _) (k_I ?_)
    refine (show X _ _ 34 _ _ _ _ _ _ from ?_)
    exact x_ireturn dX10_purse_34 rfl (CQ_tr hI0 _ _)
theorem f_secret {p : Int} (hI : CI T R V o fw fr σ t tp h A B a m H K wr pl tr) (hp : R32 p) : X g mX10_secret 0 [.ref o, .int (iI p)] [] (T, iV V, R, J, z) k n (CQ T R J z V o (some (.int (iI (if noS h A p = true then -1 else A 16 p.toNat)))) t tp h A B a m H K wr pl (if noS h A p = true then 1 else 0)) := by
  have hI0 := hI
  have hel := an_el hI
  obtain ⟨hC, ⟨p6, p7⟩, -, -, -, ⟨f1, f2, f3, f4⟩, -⟩ := hI
  have hnp := fun (p : Int) hp => c_isNoPerson (g := g) (J := J) (z := z) (k := 0) (n := 0) (p := p) hC p6 f1 f3 hp
  have hns := fun (p : Int) hp => c_isNoSecret (g := g) (J := J) (z := z) (k := 0) (n := 0) (p := p) hC p6 f1 f3 hp
  have hpy := fun (p y : Int) hp hy => c_personYearTrouble (g := g) (J := J) (z := z) (k := 0) (n := 0) (p := p) (y := y) hC p6 f1 f3 hp hy
  have hrf := fun x => c_refuse (g := g) (J := J) (z := z) (k := 0) (n := 0) (V := V) (x := x) hC
  have hgr := fun x => c_grant (g := g) (J := J) (z := z) (k := 0) (n := 0) (V := V) (x := x) hC
  have hsep := hC.2.2.2.2.2.2.2
  obtain ⟨⟨c0, c1, c2, c3, c4, c5, c6⟩, -, ⟨⟨w0, w1, w2, w3⟩, hFS, -⟩, -, hU, -⟩ := hC
  have hf0 := hFS.1
  obtain ⟨fR9, fR10, fR11, fR12, fR13, fR14⟩ := hFS.2.1
  obtain ⟨fT1, fT12, fT25, fT34, fT43, fT44⟩ := hFS.2.2.1
  obtain ⟨u0, u1', u2', u3'⟩ := hU.1
  obtain ⟨v1, v2, v3, v4, v5, v6, v7⟩ := hU.2.1
  have hT6 : T (o + 155 + 6) = (1, 240) := hU.2.2.1.2.2.2.2.2.1
  have ru := hU.2.2.2.1
  have ru0 := ru.1.1
  have ru2 : R (o + 155 + 8) 13 = some (o + 155 + 8 + 3) := ru.2.1.2.2.1
  have ru3 : T (o + 155 + 8 + 3) = (1, 10) := ru.2.2.2.2.1
  have hA0 := f3.1
  have hA3 := f3.2.2.2.1
  have hA6 := f3.2.2.2.2.2.2.1
  have hns := hns p hp
  refine x_aload_n dX10_secret_0 rfl ?_
  refine x_iload_n dX10_secret_1 rfl ?_
  refine (show X _ _ 2 _ _ _ _ _ _ from ?_)
  refine x_callV (As := [_]) (mc := 0) (ms := 0) (z := mX10_isNoSecret) (ci := 10) dX10_secret_2 lX10_129 oX10_isNoSecret (by decide) (by first | assumption) rfl rfl (Nat.le_of_ble_eq_true rfl) (Nat.le_of_ble_eq_true rfl) rfl (hns) (k_I ?_)
  refine (show X _ _ 5 _ _ _ _ _ _ from ?_)
  refine y_ifb_eq 16 dX10_secret_5 (by decide) (fun e => ?_) (fun e => ?_)
  rotate_left
  · rw [if_pos e, if_pos e]
    refine x_aload_n dX10_secret_8 rfl ?_
    refine y_iconst dX10_secret_9 ?_
    refine (show X _ _ 10 _ _ _ _ _ _ from ?_)
    refine x_callV (As := [_]) (mc := 0) (ms := 0) (z := mX10_refuse) (ci := 10) dX10_secret_10 lX10_68 oX10_refuse (by decide) (by first | assumption) rfl rfl (Nat.le_of_ble_eq_true rfl) (Nat.le_of_ble_eq_true rfl) rfl (hrf _) (k_I ?_)
    refine (show X _ _ 13 _ _ _ _ _ _ from ?_)
    refine x_goto 32 dX10_secret_13 (by decide) ?_
    refine (show X _ _ 32 _ _ _ _ _ _ from ?_)
    exact x_ireturn dX10_secret_32 rfl (CQ_tr hI0 _ _)
  · rw [if_neg (by rw [e]; decide), if_neg (by rw [e]; decide)]
    have e2 := noS_f e
    refine x_aload_n dX10_secret_16 rfl ?_
    refine x_aload_n dX10_secret_17 rfl ?_
    refine x_gr dX10_secret_18 fX10_19 (by first | assumption) (fun _ _ _ => rfl) (by first | assumption) ?_
    refine x_gr dX10_secret_21 fX10_76 (by first | assumption) (fun _ _ _ => rfl) (by first | assumption) ?_
    refine x_gr dX10_secret_24 fX10_132 (by first | assumption) (fun _ _ _ => rfl) (by first | assumption) ?_
    refine x_iload_n dX10_secret_27 rfl ?_
    refine y_iald (p.toNat) dX10_secret_28 (by first | assumption) (by first | rfl | omega) (by omega) (by decide) ?_
    refine (show X _ _ 29 _ _ _ _ _ _ from ?_)
    refine X.val (b := A 16 p.toNat) (f1.2.2.2.2.2.1 p.toNat (show p.toNat < (A 0 6).toNat by omega)) ?_
    refine x_callV (As := [_]) (mc := 0) (ms := 0) (z := mX10_grant) (ci := 10) dX10_secret_29 lX10_116 oX10_grant (by decide) (by first | assumption) rfl rfl (Nat.le_of_ble_eq_true rfl) (Nat.le_of_ble_eq_true rfl) rfl (hgr _) (k_I ?_)
    refine (show X _ _ 32 _ _ _ _ _ _ from ?_)
    exact x_ireturn dX10_secret_32 rfl (CQ_tr hI0 _ _)
theorem pyTr_0 {h : Bool} {A : Nat → Nat → Int} {p y : Int} (e : pyTr h A p y = 0) : (h = true ∧ 0 ≤ p ∧ p < A 0 3) ∧ 0 ≤ y ∧ y < A 0 0 := by
  unfold pyTr at e
  split at e
  · omega
  · rename_i e1
    split at e
    · omega
    · rename_i e2
      have e3 := of_decide_eq_false (Bool.eq_false_iff.mpr e2)
      exact ⟨noP_f (Bool.eq_false_iff.mpr e1), by omega, by omega⟩
theorem pyTr_b {h : Bool} {A : Nat → Nat → Int} {p y : Int} : 0 ≤ pyTr h A p y ∧ pyTr h A p y ≤ 2 := by
  unfold pyTr
  constructor <;> (repeat' split) <;> omega
theorem f_knows {p y : Int} (hI : CI T R V o fw fr σ t tp h A B a m H K wr pl tr) (hp : R32 p) (hy : R32 y) : X g mX10_knows 0 [.ref o, .int (iI p), .int (iI y), jk] [] (T, iV V, R, J, z) k n (CQ T R J z V o (some (.int (iI (if pyTr h A p y = 0 then V (o + 161) (10 * y.toNat + p.toNat) else -1)))) t tp h A B a m H K wr pl (pyTr h A p y)) := by
  have hI0 := hI
  have hel := an_el hI
  obtain ⟨hC, ⟨p6, p7⟩, -, -, -, ⟨f1, f2, f3, f4⟩, -⟩ := hI
  have hnp := fun (p : Int) hp => c_isNoPerson (g := g) (J := J) (z := z) (k := 0) (n := 0) (p := p) hC p6 f1 f3 hp
  have hns := fun (p : Int) hp => c_isNoSecret (g := g) (J := J) (z := z) (k := 0) (n := 0) (p := p) hC p6 f1 f3 hp
  have hpy := fun (p y : Int) hp hy => c_personYearTrouble (g := g) (J := J) (z := z) (k := 0) (n := 0) (p := p) (y := y) hC p6 f1 f3 hp hy
  have hrf := fun x => c_refuse (g := g) (J := J) (z := z) (k := 0) (n := 0) (V := V) (x := x) hC
  have hgr := fun x => c_grant (g := g) (J := J) (z := z) (k := 0) (n := 0) (V := V) (x := x) hC
  have hsep := hC.2.2.2.2.2.2.2
  obtain ⟨⟨c0, c1, c2, c3, c4, c5, c6⟩, -, ⟨⟨w0, w1, w2, w3⟩, hFS, -⟩, -, hU, -⟩ := hC
  have hf0 := hFS.1
  obtain ⟨fR9, fR10, fR11, fR12, fR13, fR14⟩ := hFS.2.1
  obtain ⟨fT1, fT12, fT25, fT34, fT43, fT44⟩ := hFS.2.2.1
  obtain ⟨u0, u1', u2', u3'⟩ := hU.1
  obtain ⟨v1, v2, v3, v4, v5, v6, v7⟩ := hU.2.1
  have hT6 : T (o + 155 + 6) = (1, 240) := hU.2.2.1.2.2.2.2.2.1
  have ru := hU.2.2.2.1
  have ru0 := ru.1.1
  have ru2 : R (o + 155 + 8) 13 = some (o + 155 + 8 + 3) := ru.2.1.2.2.1
  have ru3 : T (o + 155 + 8 + 3) = (1, 10) := ru.2.2.2.2.1
  have hA0 := f3.1
  have hA3 := f3.2.2.2.1
  have hA6 := f3.2.2.2.2.2.2.1
  have hpy := hpy p y hp hy
  have hb := pyTr_b (h := h) (A := A) (p := p) (y := y)
  refine x_aload_n dX10_knows_0 rfl ?_
  refine x_iload_n dX10_knows_1 rfl ?_
  refine x_iload_n dX10_knows_2 rfl ?_
  refine (show X _ _ 3 _ _ _ _ _ _ from ?_)
  refine x_callV (As := [_, _]) (mc := 0) (ms := 0) (z := mX10_personYearTrouble) (ci := 10) dX10_knows_3 lX10_153 oX10_personYearTrouble (by decide) (by first | assumption) rfl rfl (Nat.le_of_ble_eq_true rfl) (Nat.le_of_ble_eq_true rfl) rfl (hpy) (k_I ?_)
  refine (show X _ _ 6 _ _ _ _ _ _ from ?_)
  refine x_istore_n dX10_knows_6 (by decide) rfl rfl ?_
  refine x_iload_n dX10_knows_7 rfl ?_
  refine (show X _ _ 8 _ _ _ _ _ _ from ?_)
  refine y_if_eq 19 dX10_knows_8 (by decide) ⟨by omega, by omega⟩ (fun e => ?_) (fun e => ?_)
  rotate_left
  · rw [if_neg e]
    refine x_aload_n dX10_knows_11 rfl ?_
    refine x_iload_n dX10_knows_12 rfl ?_
    refine (show X _ _ 13 _ _ _ _ _ _ from ?_)
    refine x_callV (As := [_]) (mc := 0) (ms := 0) (z := mX10_refuse) (ci := 10) dX10_knows_13 lX10_68 oX10_refuse (by decide) (by first | assumption) rfl rfl (Nat.le_of_ble_eq_true rfl) (Nat.le_of_ble_eq_true rfl) rfl (hrf _) (k_I ?_)
    refine (show X _ _ 16 _ _ _ _ _ _ from ?_)
    refine x_goto 37 dX10_knows_16 (by decide) ?_
    refine (show X _ _ 37 _ _ _ _ _ _ from ?_)
    exact x_ireturn dX10_knows_37 rfl (CQ_tr hI0 _ _)
  · have e2 := pyTr_0 e
    rw [if_pos e, e]
    refine x_aload_n dX10_knows_19 rfl ?_
    refine x_aload_n dX10_knows_20 rfl ?_
    refine x_gr dX10_knows_21 fX10_35 (by first | assumption) (fun _ _ _ => rfl) (by first | assumption) ?_
    refine x_gr dX10_knows_24 fX10_160 (by first | assumption) (fun _ _ _ => rfl) (by first | assumption) ?_
    refine x_iload_n dX10_knows_27 rfl ?_
    refine y_bipush dX10_knows_28 rfl ?_
    refine y_imul dX10_knows_30 ?_
    refine x_iload_n dX10_knows_31 rfl ?_
    refine (show X _ _ 32 _ _ _ _ _ _ from ?_)
    refine y_iadd dX10_knows_32 ?_
    refine y_iald (10 * y.toNat + p.toNat) dX10_knows_33 (by first | assumption) (by first | rfl | omega) (by omega) (by decide) ?_
    refine (show X _ _ 34 _ _ _ _ _ _ from ?_)
    refine x_callV (As := [_]) (mc := 0) (ms := 0) (z := mX10_grant) (ci := 10) dX10_knows_34 lX10_116 oX10_grant (by decide) (by first | assumption) rfl rfl (Nat.le_of_ble_eq_true rfl) (Nat.le_of_ble_eq_true rfl) rfl (hgr _) (k_I ?_)
    refine (show X _ _ 37 _ _ _ _ _ _ from ?_)
    exact x_ireturn dX10_knows_37 rfl (CQ_tr hI0 _ _)
theorem f_turnsOf {p y : Int} (hI : CI T R V o fw fr σ t tp h A B a m H K wr pl tr) (hp : R32 p) (hy : R32 y) : X g mX10_turnsOf 0 [.ref o, .int (iI p), .int (iI y), jk] [] (T, iV V, R, J, z) k n (CQ T R J z V o (some (.int (iI (if pyTr h A p y = 0 then tBeh (fun j => V (o + 155 + j)) p (y.toNat + 1) else -1)))) t tp h A B a m H K wr pl (pyTr h A p y)) := by
  have hI0 := hI
  have hel := an_el hI
  obtain ⟨hC, ⟨p6, p7⟩, -, -, -, ⟨f1, f2, f3, f4⟩, -⟩ := hI
  have hnp := fun (p : Int) hp => c_isNoPerson (g := g) (J := J) (z := z) (k := 0) (n := 0) (p := p) hC p6 f1 f3 hp
  have hns := fun (p : Int) hp => c_isNoSecret (g := g) (J := J) (z := z) (k := 0) (n := 0) (p := p) hC p6 f1 f3 hp
  have hpy := fun (p y : Int) hp hy => c_personYearTrouble (g := g) (J := J) (z := z) (k := 0) (n := 0) (p := p) (y := y) hC p6 f1 f3 hp hy
  have hrf := fun x => c_refuse (g := g) (J := J) (z := z) (k := 0) (n := 0) (V := V) (x := x) hC
  have hgr := fun x => c_grant (g := g) (J := J) (z := z) (k := 0) (n := 0) (V := V) (x := x) hC
  have hsep := hC.2.2.2.2.2.2.2
  obtain ⟨⟨c0, c1, c2, c3, c4, c5, c6⟩, -, ⟨⟨w0, w1, w2, w3⟩, hFS, -⟩, -, hU, -⟩ := hC
  have hf0 := hFS.1
  obtain ⟨fR9, fR10, fR11, fR12, fR13, fR14⟩ := hFS.2.1
  obtain ⟨fT1, fT12, fT25, fT34, fT43, fT44⟩ := hFS.2.2.1
  obtain ⟨u0, u1', u2', u3'⟩ := hU.1
  obtain ⟨v1, v2, v3, v4, v5, v6, v7⟩ := hU.2.1
  have hT6 : T (o + 155 + 6) = (1, 240) := hU.2.2.1.2.2.2.2.2.1
  have ru := hU.2.2.2.1
  have ru0 := ru.1.1
  have ru2 : R (o + 155 + 8) 13 = some (o + 155 + 8 + 3) := ru.2.1.2.2.1
  have ru3 : T (o + 155 + 8 + 3) = (1, 10) := ru.2.2.2.2.1
  have hA0 := f3.1
  have hA3 := f3.2.2.2.1
  have hA6 := f3.2.2.2.2.2.2.1
  have hpy := hpy p y hp hy
  have hb := pyTr_b (h := h) (A := A) (p := p) (y := y)
  refine x_aload_n dX10_turnsOf_0 rfl ?_
  refine x_iload_n dX10_turnsOf_1 rfl ?_
  refine x_iload_n dX10_turnsOf_2 rfl ?_
  refine (show X _ _ 3 _ _ _ _ _ _ from ?_)
  refine x_callV (As := [_, _]) (mc := 0) (ms := 0) (z := mX10_personYearTrouble) (ci := 10) dX10_turnsOf_3 lX10_153 oX10_personYearTrouble (by decide) (by first | assumption) rfl rfl (Nat.le_of_ble_eq_true rfl) (Nat.le_of_ble_eq_true rfl) rfl (hpy) (k_I ?_)
  refine (show X _ _ 6 _ _ _ _ _ _ from ?_)
  refine x_istore_n dX10_turnsOf_6 (by decide) rfl rfl ?_
  refine x_iload_n dX10_turnsOf_7 rfl ?_
  refine (show X _ _ 8 _ _ _ _ _ _ from ?_)
  refine y_if_eq 19 dX10_turnsOf_8 (by decide) ⟨by omega, by omega⟩ (fun e => ?_) (fun e => ?_)
  rotate_left
  · rw [if_neg e]
    refine x_aload_n dX10_turnsOf_11 rfl ?_
    refine x_iload_n dX10_turnsOf_12 rfl ?_
    refine (show X _ _ 13 _ _ _ _ _ _ from ?_)
    refine x_callV (As := [_]) (mc := 0) (ms := 0) (z := mX10_refuse) (ci := 10) dX10_turnsOf_13 lX10_68 oX10_refuse (by decide) (by first | assumption) rfl rfl (Nat.le_of_ble_eq_true rfl) (Nat.le_of_ble_eq_true rfl) rfl (hrf _) (k_I ?_)
    refine (show X _ _ 16 _ _ _ _ _ _ from ?_)
    refine x_goto 32 dX10_turnsOf_16 (by decide) ?_
    refine (show X _ _ 32 _ _ _ _ _ _ from ?_)
    exact x_ireturn dX10_turnsOf_32 rfl (CQ_tr hI0 _ _)
  · have e2 := pyTr_0 e
    have hel := hel e2.1.1
    rw [if_pos e, e]
    have cc := c_turnsBehind (g := g) (J := J) (z := z) (k := 0) (n := 0) (V := V) (p := p) (y := y.toNat) (E := fun j => V (o + 155 + j)) hU (by omega) hp (fun i hi => ⟨by have := hel i (show i < (A 0 0).toNat by omega); show _ ≤ V (o + 155 + 12) i; omega, by have := hel i (show i < (A 0 0).toNat by omega); show V (o + 155 + 12) i ≤ _; omega⟩)
    rw [pB_self (fun _ _ => rfl), Int.toNat_of_nonneg e2.2.1] at cc
    refine x_aload_n dX10_turnsOf_19 rfl ?_
    refine x_aload_n dX10_turnsOf_20 rfl ?_
    refine x_gr dX10_turnsOf_21 fX10_35 (by first | assumption) (fun _ _ _ => rfl) (by first | assumption) ?_
    refine x_iload_n dX10_turnsOf_24 rfl ?_
    refine x_iload_n dX10_turnsOf_25 rfl ?_
    refine (show X _ _ 26 _ _ _ _ _ _ from ?_)
    refine x_callV (As := [_, _]) (mc := 0) (ms := 0) (z := mX1_turnsBehind) (ci := 1) dX10_turnsOf_26 lX10_157 oX1_turnsBehind (by decide) (by first | assumption) rfl rfl (Nat.le_of_ble_eq_true rfl) (Nat.le_of_ble_eq_true rfl) rfl (cc) (k_I ?_)
    refine (show X _ _ 29 _ _ _ _ _ _ from ?_)
    refine x_callV (As := [_]) (mc := 0) (ms := 0) (z := mX10_grant) (ci := 10) dX10_turnsOf_29 lX10_116 oX10_grant (by decide) (by first | assumption) rfl rfl (Nat.le_of_ble_eq_true rfl) (Nat.le_of_ble_eq_true rfl) rfl (hgr _) (k_I ?_)
    refine (show X _ _ 32 _ _ _ _ _ _ from ?_)
    exact x_ireturn dX10_turnsOf_32 rfl (CQ_tr hI0 _ _)
end C66
