/-! ===== the class's face: as told; size ===== -/
def psX (A B : Nat → Nat → Int) (p : Nat) (w : Int) : Int := if w = 2 then (if 0 < A 3 p then -100 else -(A 3 p)) else if w = 6 then B 1 p else A (1 + w.toNat) p
def noPl (h : Bool) (A : Nat → Nat → Int) (i w : Int) : Bool := decide (¬ (h = true ∧ 0 ≤ i ∧ i < A 0 4 ∧ 0 ≤ w ∧ w < 4))
def szX (A B : Nat → Nat → Int) (a m tp : Nat) (w : Int) : Int := if w = 0 then A 0 0 else if w = 1 then B 0 0 else if w = 2 then A 0 2 else if w = 3 then A 0 3 else if w = 4 then A 0 4 else if w = 5 then A 0 5 + B 0 2 else if w = 6 then A 0 6 else if w = 7 then A 0 7 else if w = 8 then A 0 8 else if w = 9 then B 0 1 else if w = 10 then (a : Int) else if w = 11 then (m : Int) else if w = 12 then (tp : Int) else -1
section C67
variable {g : GG} {T : Nat → Nat × Nat} {V A B : Nat → Nat → Int} {R : Nat → Nat → Option Nat} {J : Nat → Nat → Int64} {z k n : Nat} {o fw fr : Nat} {σ : Nat → Nat} {t : Nat → Int} {tp : Nat} {h : Bool} {a m : Nat} {H K : Nat → Nat → Nat → Int} {wr pl tr : Int}
theorem f_age {p y : Int} (hI : CI T R V o fw fr σ t tp h A B a m H K wr pl tr) (hp : R32 p) (hy : R32 y) : X g mX10_age 0 [.ref o, .int (iI p), .int (iI y), jk, jk] [] (T, iV V, R, J, z) k n (CQ T R J z V o (some (.int (iI (if pyTr h A p y = 0 then (if y - A 3 p.toNat < 0 then -2 else y - A 3 p.toNat) else -1)))) t tp h A B a m H K wr pl (pyTr h A p y)) := by
  have hI0 := hI
  have hel := an_el hI
  obtain ⟨hC, ⟨p6, p7⟩, -, -, -, ⟨f1, f2, f3, f4⟩, -⟩ := hI
  have hnp := fun (p : Int) hp => c_isNoPerson (g := g) (J := J) (z := z) (k := 0) (n := 0) (p := p) hC p6 f1 f3 hp
  have hns := fun (p : Int) hp => c_isNoSecret (g := g) (J := J) (z := z) (k := 0) (n := 0) (p := p) hC p6 f1 f3 hp
  have hpy := fun (p y : Int) hp hy => c_personYearTrouble (g := g) (J := J) (z := z) (k := 0) (n := 0) (p := p) (y := y) hC p6 f1 f3 hp hy
  have hrf := fun x => c_refuse (g := g) (J := J) (z := z) (k := 0) (n := 0) (V := V) (x := x) hC
  have hgr := fun x => c_grant (g := g) (J := J) (z := z) (k := 0) (n := 0) (V := V) (x := x) hC
  have hsep := hC.2.2.2.2.2.2.2
  obtain ⟨⟨c0, c1, c2, c3, c4, c5, c6⟩, -, ⟨⟨w0, w1, w2, w3⟩, hFS, -⟩, -, hU, -⟩ := hC
  have hf0 := hFS.1
  obtain ⟨fR9, fR10, fR11, fR12, fR13, fR14⟩ := hFS.2.1
  obtain ⟨fT1, fT12, fT25, fT34, fT43, fT44⟩ := hFS.2.2.1
  obtain ⟨u0, u1', u2', u3'⟩ := hU.1
  obtain ⟨v1, v2, v3, v4, v5, v6, v7⟩ := hU.2.1
  have hT6 : T (o + 155 + 6) = (1, 240) := hU.2.2.1.2.2.2.2.2.1
  have ru := hU.2.2.2.1
  have ru0 := ru.1.1
  have ru2 : R (o + 155 + 8) 13 = some (o + 155 + 8 + 3) := ru.2.1.2.2.1
  have ru3 : T (o + 155 + 8 + 3) = (1, 10) := ru.2.2.2.2.1
  have hA0 := f3.1
  have hA3 := f3.2.2.2.1
  have hA6 := f3.2.2.2.2.2.2.1
  have hpy := hpy p y hp hy
  have hb := pyTr_b (h := h) (A := A) (p := p) (y := y)
  refine x_aload_n dX10_age_0 rfl ?_
  refine x_iload_n dX10_age_1 rfl ?_
  refine x_iload_n dX10_age_2 rfl ?_
  refine (show X _ _ 3 _ _ _ _ _ _ from ?_)
  refine x_callV (As := [_, _]) (mc := 0) (ms := 0) (z := mX10_personYearTrouble) (ci := 10) dX10_age_3 lX10_153 oX10_personYearTrouble (by decide) (by first | assumption) rfl rfl (Nat.le_of_ble_eq_true rfl) (Nat.le_of_ble_eq_true rfl) rfl (hpy) (k_I ?_)
  refine (show X _ _ 6 _ _ _ _ _ _ from ?_)
  refine x_istore_n dX10_age_6 (by decide) rfl rfl ?_
  refine x_iload_n dX10_age_7 rfl ?_
  refine (show X _ _ 8 _ _ _ _ _ _ from ?_)
  refine y_if_eq 17 dX10_age_8 (by decide) ⟨by omega, by omega⟩ (fun e => ?_) (fun e => ?_)
  rotate_left
  · rw [if_neg e]
    refine x_aload_n dX10_age_11 rfl ?_
    refine x_iload_n dX10_age_12 rfl ?_
    refine (show X _ _ 13 _ _ _ _ _ _ from ?_)
    refine x_callV (As := [_]) (mc := 0) (ms := 0) (z := mX10_refuse) (ci := 10) dX10_age_13 lX10_68 oX10_refuse (by decide) (by first | assumption) rfl rfl (Nat.le_of_ble_eq_true rfl) (Nat.le_of_ble_eq_true rfl) rfl (hrf _) (k_I ?_)
    refine (show X _ _ 16 _ _ _ _ _ _ from ?_)
    exact x_ireturn dX10_age_16 rfl (CQ_tr hI0 _ _)
  · have e2 := pyTr_0 e
    rw [if_pos e, e]
    have hr := hFS.2.2.2.1 p.toNat (by omega)
    have hr1 := hr.1
    have hr2 := hr.2
    have hv : V (fw + 2 + p.toNat) 2 = A 3 p.toNat := f1.2.1 p.toNat (show p.toNat < (A 0 3).toNat by omega) 2 (by decide)
    have hb3 := (f3.2.2.2.2.2.2.2.2.2.1 p.toNat (show p.toNat < (A 0 3).toNat by omega)).2.2.1
    refine x_iload_n dX10_age_17 rfl ?_
    refine x_aload_n dX10_age_18 rfl ?_
    refine x_gr dX10_age_19 fX10_19 (by first | assumption) (fun _ _ _ => rfl) (by first | assumption) ?_
    refine x_gr dX10_age_22 fX10_76 (by first | assumption) (fun _ _ _ => rfl) (by first | assumption) ?_
    refine x_gr dX10_age_25 fX10_112 (by first | assumption) (fun _ _ _ => rfl) (by first | assumption) ?_
    refine x_iload_n dX10_age_28 rfl ?_
    refine y_aald (p.toNat) dX10_age_29 (by first | assumption) (by decide) (by first | rfl | omega) (by omega) (by decide) (by first | assumption) ?_
    refine y_iconst dX10_age_30 ?_
    refine (show X _ _ 31 _ _ _ _ _ _ from ?_)
    refine y_iald (2) dX10_age_31 (by first | assumption) (by first | rfl | omega) (by omega) (by decide) ?_
    refine (show X _ _ 32 _ _ _ _ _ _ from ?_)
    refine X.val hv ?_
    refine y_isub dX10_age_32 ?_
    refine x_istore dX10_age_33 (by decide) rfl rfl ?_
    refine x_aload_n dX10_age_35 rfl ?_
    refine x_iload dX10_age_36 rfl ?_
    refine (show X _ _ 38 _ _ _ _ _ _ from ?_)
    refine y_if_ge 46 dX10_age_38 (by decide) ⟨by omega, by omega⟩ (fun e3 => ?_) (fun e3 => ?_)
    · rw [if_neg (by omega)]
      refine x_iload dX10_age_46 rfl ?_
      refine (show X _ _ 48 _ _ _ _ _ _ from ?_)
      refine x_callV (As := [_]) (mc := 0) (ms := 0) (z := mX10_grant) (ci := 10) dX10_age_48 lX10_116 oX10_grant (by decide) (by first | assumption) rfl rfl (Nat.le_of_ble_eq_true rfl) (Nat.le_of_ble_eq_true rfl) rfl (hgr _) (k_I ?_)
      refine (show X _ _ 51 _ _ _ _ _ _ from ?_)
      exact x_ireturn dX10_age_51 rfl (CQ_tr hI0 _ _)
    · rw [if_pos e3]
      refine y_bipush dX10_age_41 rfl ?_
      refine x_goto 48 dX10_age_43 (by decide) ?_
      refine (show X _ _ 48 _ _ _ _ _ _ from ?_)
      refine x_callV (As := [_]) (mc := 0) (ms := 0) (z := mX10_grant) (ci := 10) dX10_age_48 lX10_116 oX10_grant (by decide) (by first | assumption) rfl rfl (Nat.le_of_ble_eq_true rfl) (Nat.le_of_ble_eq_true rfl) rfl (hgr _) (k_I ?_)
      refine (show X _ _ 51 _ _ _ _ _ _ from ?_)
      exact x_ireturn dX10_age_51 rfl (CQ_tr hI0 _ _)
theorem f_strength {p y : Int} (hI : CI T R V o fw fr σ t tp h A B a m H K wr pl tr) (hp : R32 p) (hy : R32 y) : X g mX10_strength 0 [.ref o, .int (iI p), .int (iI y), jk] [] (T, iV V, R, J, z) k n (CQ T R J z V o (some (.int (iI (if pyTr h A p y = 0 then A 4 p.toNat - tBeh (fun j => V (o + 155 + j)) p (y.toNat + 1) else -1)))) t tp h A B a m H K wr pl (pyTr h A p y)) := by
  have hI0 := hI
  have hel := an_el hI
  obtain ⟨hC, ⟨p6, p7⟩, -, -, -, ⟨f1, f2, f3, f4⟩, -⟩ := hI
  have hnp := fun (p : Int) hp => c_isNoPerson (g := g) (J := J) (z := z) (k := 0) (n := 0) (p := p) hC p6 f1 f3 hp
  have hns := fun (p : Int) hp => c_isNoSecret (g := g) (J := J) (z := z) (k := 0) (n := 0) (p := p) hC p6 f1 f3 hp
  have hpy := fun (p y : Int) hp hy => c_personYearTrouble (g := g) (J := J) (z := z) (k := 0) (n := 0) (p := p) (y := y) hC p6 f1 f3 hp hy
  have hrf := fun x => c_refuse (g := g) (J := J) (z := z) (k := 0) (n := 0) (V := V) (x := x) hC
  have hgr := fun x => c_grant (g := g) (J := J) (z := z) (k := 0) (n := 0) (V := V) (x := x) hC
  have hsep := hC.2.2.2.2.2.2.2
  obtain ⟨⟨c0, c1, c2, c3, c4, c5, c6⟩, -, ⟨⟨w0, w1, w2, w3⟩, hFS, -⟩, -, hU, -⟩ := hC
  have hf0 := hFS.1
  obtain ⟨fR9, fR10, fR11, fR12, fR13, fR14⟩ := hFS.2.1
  obtain ⟨fT1, fT12, fT25, fT34, fT43, fT44⟩ := hFS.2.2.1
  obtain ⟨u0, u1', u2', u3'⟩ := hU.1
  obtain ⟨v1, v2, v3, v4, v5, v6, v7⟩ := hU.2.1
  have hT6 : T (o + 155 + 6) = (1, 240) := hU.2.2.1.2.2.2.2.2.1
  have ru := hU.2.2.2.1
  have ru0 := ru.1.1
  have ru2 : R (o + 155 + 8) 13 = some (o + 155 + 8 + 3) := ru.2.1.2.2.1
  have ru3 : T (o + 155 + 8 + 3) = (1, 10) := ru.2.2.2.2.1
  have hA0 := f3.1
  have hA3 := f3.2.2.2.1
  have hA6 := f3.2.2.2.2.2.2.1
  have hpy := hpy p y hp hy
  have hb := pyTr_b (h := h) (A := A) (p := p) (y := y)
  refine x_aload_n dX10_strength_0 rfl ?_
  refine x_iload_n dX10_strength_1 rfl ?_
  refine x_iload_n dX10_strength_2 rfl ?_
  refine (show X _ _ 3 _ _ _ _ _ _ from ?_)
  refine x_callV (As := [_, _]) (mc := 0) (ms := 0) (z := mX10_personYearTrouble) (ci := 10) dX10_strength_3 lX10_153 oX10_personYearTrouble (by decide) (by first | assumption) rfl rfl (Nat.le_of_ble_eq_true rfl) (Nat.le_of_ble_eq_true rfl) rfl (hpy) (k_I ?_)
  refine (show X _ _ 6 _ _ _ _ _ _ from ?_)
  refine x_istore_n dX10_strength_6 (by decide) rfl rfl ?_
  refine x_iload_n dX10_strength_7 rfl ?_
  refine (show X _ _ 8 _ _ _ _ _ _ from ?_)
  refine y_if_eq 17 dX10_strength_8 (by decide) ⟨by omega, by omega⟩ (fun e => ?_) (fun e => ?_)
  rotate_left
  · rw [if_neg e]
    refine x_aload_n dX10_strength_11 rfl ?_
    refine x_iload_n dX10_strength_12 rfl ?_
    refine (show X _ _ 13 _ _ _ _ _ _ from ?_)
    refine x_callV (As := [_]) (mc := 0) (ms := 0) (z := mX10_refuse) (ci := 10) dX10_strength_13 lX10_68 oX10_refuse (by decide) (by first | assumption) rfl rfl (Nat.le_of_ble_eq_true rfl) (Nat.le_of_ble_eq_true rfl) rfl (hrf _) (k_I ?_)
    refine (show X _ _ 16 _ _ _ _ _ _ from ?_)
    exact x_ireturn dX10_strength_16 rfl (CQ_tr hI0 _ _)
  · have e2 := pyTr_0 e
    have hel := hel e2.1.1
    rw [if_pos e, e]
    have hr := hFS.2.2.2.1 p.toNat (by omega)
    have hr1 := hr.1
    have hr2 := hr.2
    have hv : V (fw + 2 + p.toNat) 3 = A 4 p.toNat := f1.2.1 p.toNat (show p.toNat < (A 0 3).toNat by omega) 3 (by decide)
    have cc := c_turnsBehind (g := g) (J := J) (z := z) (k := 0) (n := 0) (V := V) (p := p) (y := y.toNat) (E := fun j => V (o + 155 + j)) hU (by omega) hp (fun i hi => ⟨by have := hel i (show i < (A 0 0).toNat by omega); show _ ≤ V (o + 155 + 12) i; omega, by have := hel i (show i < (A 0 0).toNat by omega); show V (o + 155 + 12) i ≤ _; omega⟩)
    rw [pB_self (fun _ _ => rfl), Int.toNat_of_nonneg e2.2.1] at cc
    refine x_aload_n dX10_strength_17 rfl ?_
    refine x_aload_n dX10_strength_18 rfl ?_
    refine x_gr dX10_strength_19 fX10_19 (by first | assumption) (fun _ _ _ => rfl) (by first | assumption) ?_
    refine x_gr dX10_strength_22 fX10_76 (by first | assumption) (fun _ _ _ => rfl) (by first | assumption) ?_
    refine x_gr dX10_strength_25 fX10_112 (by first | assumption) (fun _ _ _ => rfl) (by first | assumption) ?_
    refine x_iload_n dX10_strength_28 rfl ?_
    refine y_aald (p.toNat) dX10_strength_29 (by first | assumption) (by decide) (by first | rfl | omega) (by omega) (by decide) (by first | assumption) ?_
    refine y_iconst dX10_strength_30 ?_
    refine (show X _ _ 31 _ _ _ _ _ _ from ?_)
    refine y_iald (3) dX10_strength_31 (by first | assumption) (by first | rfl | omega) (by omega) (by decide) ?_
    refine (show X _ _ 32 _ _ _ _ _ _ from ?_)
    refine X.val hv ?_
    refine x_aload_n dX10_strength_32 rfl ?_
    refine x_gr dX10_strength_33 fX10_35 (by first | assumption) (fun _ _ _ => rfl) (by first | assumption) ?_
    refine x_iload_n dX10_strength_36 rfl ?_
    refine x_iload_n dX10_strength_37 rfl ?_
    refine (show X _ _ 38 _ _ _ _ _ _ from ?_)
    refine x_callV (As := [_, _]) (mc := 0) (ms := 0) (z := mX1_turnsBehind) (ci := 1) dX10_strength_38 lX10_157 oX1_turnsBehind (by decide) (by first | assumption) rfl rfl (Nat.le_of_ble_eq_true rfl) (Nat.le_of_ble_eq_true rfl) rfl (cc) (k_I ?_)
    refine (show X _ _ 41 _ _ _ _ _ _ from ?_)
    refine y_isub dX10_strength_41 ?_
    refine (show X _ _ 42 _ _ _ _ _ _ from ?_)
    refine x_callV (As := [_]) (mc := 0) (ms := 0) (z := mX10_grant) (ci := 10) dX10_strength_42 lX10_116 oX10_grant (by decide) (by first | assumption) rfl rfl (Nat.le_of_ble_eq_true rfl) (Nat.le_of_ble_eq_true rfl) rfl (hgr _) (k_I ?_)
    refine (show X _ _ 45 _ _ _ _ _ _ from ?_)
    exact x_ireturn dX10_strength_45 rfl (CQ_tr hI0 _ _)
theorem f_person {p w : Int} (hI : CI T R V o fw fr σ t tp h A B a m H K wr pl tr) (hp : R32 p) (hw : R32 w) : X g mX10_person 0 [.ref o, .int (iI p), .int (iI w), jk] [] (T, iV V, R, J, z) k n (CQ T R J z V o (some (.int (iI (if noP h A p = true ∨ w < 0 ∨ 7 ≤ w then -1 else psX A B p.toNat w)))) t tp h A B a m H K wr pl (if noP h A p = true ∨ w < 0 ∨ 7 ≤ w then 1 else 0)) := by
  have hNSx := hI.1.2.2.1.2.2.1
  have hI0 := hI
  have hel := an_el hI
  obtain ⟨hC, ⟨p6, p7⟩, -, -, -, ⟨f1, f2, f3, f4⟩, -⟩ := hI
  have hnp := fun (p : Int) hp => c_isNoPerson (g := g) (J := J) (z := z) (k := 0) (n := 0) (p := p) hC p6 f1 f3 hp
  have hns := fun (p : Int) hp => c_isNoSecret (g := g) (J := J) (z := z) (k := 0) (n := 0) (p := p) hC p6 f1 f3 hp
  have hpy := fun (p y : Int) hp hy => c_personYearTrouble (g := g) (J := J) (z := z) (k := 0) (n := 0) (p := p) (y := y) hC p6 f1 f3 hp hy
  have hrf := fun x => c_refuse (g := g) (J := J) (z := z) (k := 0) (n := 0) (V := V) (x := x) hC
  have hgr := fun x => c_grant (g := g) (J := J) (z := z) (k := 0) (n := 0) (V := V) (x := x) hC
  have hsep := hC.2.2.2.2.2.2.2
  obtain ⟨⟨c0, c1, c2, c3, c4, c5, c6⟩, -, ⟨⟨w0, w1, w2, w3⟩, hFS, -⟩, -, hU, -⟩ := hC
  have hf0 := hFS.1
  obtain ⟨fR9, fR10, fR11, fR12, fR13, fR14⟩ := hFS.2.1
  obtain ⟨fT1, fT12, fT25, fT34, fT43, fT44⟩ := hFS.2.2.1
  obtain ⟨u0, u1', u2', u3'⟩ := hU.1
  obtain ⟨v1, v2, v3, v4, v5, v6, v7⟩ := hU.2.1
  have hT6 : T (o + 155 + 6) = (1, 240) := hU.2.2.1.2.2.2.2.2.1
  have ru := hU.2.2.2.1
  have ru0 := ru.1.1
  have ru2 : R (o + 155 + 8) 13 = some (o + 155 + 8 + 3) := ru.2.1.2.2.1
  have ru3 : T (o + 155 + 8 + 3) = (1, 10) := ru.2.2.2.2.1
  have hA0 := f3.1
  have hA3 := f3.2.2.2.1
  have hA6 := f3.2.2.2.2.2.2.1
  have hnp := hnp p hp
  obtain ⟨hw1, hw2⟩ := hw
  obtain ⟨ns0, ns1, -, ns3, -⟩ := hNSx
  have bad : (noP h A p = true ∨ w < 0 ∨ 7 ≤ w) → X g mX10_person 18 [.ref o, .int (iI p), .int (iI w), jk] [] (T, iV V, R, J, z) k n (CQ T R J z V o (some (.int (iI (if noP h A p = true ∨ w < 0 ∨ 7 ≤ w then -1 else psX A B p.toNat w)))) t tp h A B a m H K wr pl (if noP h A p = true ∨ w < 0 ∨ 7 ≤ w then 1 else 0)) := by
    intro e
    rw [if_pos e, if_pos e]
    refine x_aload_n dX10_person_18 rfl ?_
    refine y_iconst dX10_person_19 ?_
    refine (show X _ _ 20 _ _ _ _ _ _ from ?_)
    refine x_callV (As := [_]) (mc := 0) (ms := 0) (z := mX10_refuse) (ci := 10) dX10_person_20 lX10_68 oX10_refuse (by decide) (by first | assumption) rfl rfl (Nat.le_of_ble_eq_true rfl) (Nat.le_of_ble_eq_true rfl) rfl (hrf _) (k_I ?_)
    refine (show X _ _ 23 _ _ _ _ _ _ from ?_)
    exact x_ireturn dX10_person_23 rfl (CQ_tr hI0 _ _)
  refine x_aload_n dX10_person_0 rfl ?_
  refine x_iload_n dX10_person_1 rfl ?_
  refine (show X _ _ 2 _ _ _ _ _ _ from ?_)
  refine x_callV (As := [_]) (mc := 0) (ms := 0) (z := mX10_isNoPerson) (ci := 10) dX10_person_2 lX10_109 oX10_isNoPerson (by decide) (by first | assumption) rfl rfl (Nat.le_of_ble_eq_true rfl) (Nat.le_of_ble_eq_true rfl) rfl (hnp) (k_I ?_)
  refine (show X _ _ 5 _ _ _ _ _ _ from ?_)
  refine y_ifb_ne 18 dX10_person_5 (by decide) (fun e => ?_) (fun e => ?_)
  · exact bad (Or.inl e)
  refine x_iload_n dX10_person_8 rfl ?_
  refine (show X _ _ 9 _ _ _ _ _ _ from ?_)
  refine y_if_lt 18 dX10_person_9 (by decide) ⟨by omega, by omega⟩ (fun e1 => ?_) (fun e1 => ?_)
  · exact bad (Or.inr (Or.inl e1))
  refine x_iload_n dX10_person_12 rfl ?_
  refine y_bipush dX10_person_13 rfl ?_
  refine (show X _ _ 15 _ _ _ _ _ _ from ?_)
  refine y_icmp_lt 24 dX10_person_15 (by decide) ⟨by omega, by omega⟩ ⟨by omega, by omega⟩ (fun e2 => ?_) (fun e2 => ?_)
  rotate_left
  · exact bad (Or.inr (Or.inr e2))
  have e3 := noP_f e
  have en : ¬ (noP h A p = true ∨ w < 0 ∨ 7 ≤ w) := fun c => by rcases c with c | c | c; (rw [e] at c; cases c); omega; omega
  rw [if_neg en, if_neg en]
  have hr := hFS.2.2.2.1 p.toNat (by omega)
  have hr1 := hr.1
  have hr2 := hr.2
  have hv := f1.2.1 p.toNat (show p.toNat < (A 0 3).toNat by omega)
  have hb3 := (f3.2.2.2.2.2.2.2.2.2.1 p.toNat (show p.toNat < (A 0 3).toNat by omega)).2.2.1
  unfold psX
  refine x_aload_n dX10_person_24 rfl ?_
  refine x_gr dX10_person_25 fX10_19 (by first | assumption) (fun _ _ _ => rfl) (by first | assumption) ?_
  refine x_gr dX10_person_28 fX10_76 (by first | assumption) (fun _ _ _ => rfl) (by first | assumption) ?_
  refine x_gr dX10_person_31 fX10_112 (by first | assumption) (fun _ _ _ => rfl) (by first | assumption) ?_
  refine x_iload_n dX10_person_34 rfl ?_
  refine y_aald (p.toNat) dX10_person_35 (by first | assumption) (by decide) (by first | rfl | omega) (by omega) (by decide) (by first | assumption) ?_
  refine x_astore_n dX10_person_36 (by decide) rfl rfl ?_
  refine x_iload_n dX10_person_37 rfl ?_
  refine (show X _ _ 38 _ _ _ _ _ _ from ?_)
  refine y_iconst dX10_person_38 ?_
  refine (show X _ _ 39 _ _ _ _ _ _ from ?_)
  refine y_icmp_ne 62 dX10_person_39 (by decide) ⟨by omega, by omega⟩ ⟨by omega, by omega⟩ (fun e4 => ?_) (fun e4 => ?_)
  rotate_left
  · rw [if_pos e4]
    refine x_aload_n dX10_person_42 rfl ?_
    refine x_aload_n dX10_person_43 rfl ?_
    refine y_iconst dX10_person_44 ?_
    refine y_iald (2) dX10_person_45 (by first | assumption) (by first | rfl | omega) (by omega) (by decide) ?_
    refine (show X _ _ 46 _ _ _ _ _ _ from ?_)
    refine X.val (b := A 3 p.toNat) (hv 2 (by decide)) ?_
    refine y_if_le 54 dX10_person_46 (by decide) ⟨by omega, by omega⟩ (fun e5 => ?_) (fun e5 => ?_)
    · rw [if_neg (by omega)]
      refine x_aload_n dX10_person_54 rfl ?_
      refine y_iconst dX10_person_55 ?_
      refine y_iald (2) dX10_person_56 (by first | assumption) (by first | rfl | omega) (by omega) (by decide) ?_
      refine (show X _ _ 57 _ _ _ _ _ _ from ?_)
      refine X.val (b := A 3 p.toNat) (hv 2 (by decide)) ?_
      refine y_ineg dX10_person_57 ?_
      refine (show X _ _ 58 _ _ _ _ _ _ from ?_)
      refine x_callV (As := [_]) (mc := 0) (ms := 0) (z := mX10_grant) (ci := 10) dX10_person_58 lX10_116 oX10_grant (by decide) (by first | assumption) rfl rfl (Nat.le_of_ble_eq_true rfl) (Nat.le_of_ble_eq_true rfl) rfl (hgr _) (k_I ?_)
      refine (show X _ _ 61 _ _ _ _ _ _ from ?_)
      exact x_ireturn dX10_person_61 rfl (CQ_tr hI0 _ _)
    · rw [if_pos e5]
      refine y_bipush dX10_person_49 rfl ?_
      refine x_goto 58 dX10_person_51 (by decide) ?_
      refine (show X _ _ 58 _ _ _ _ _ _ from ?_)
      refine x_callV (As := [_]) (mc := 0) (ms := 0) (z := mX10_grant) (ci := 10) dX10_person_58 lX10_116 oX10_grant (by decide) (by first | assumption) rfl rfl (Nat.le_of_ble_eq_true rfl) (Nat.le_of_ble_eq_true rfl) rfl (hgr _) (k_I ?_)
      refine (show X _ _ 61 _ _ _ _ _ _ from ?_)
      exact x_ireturn dX10_person_61 rfl (CQ_tr hI0 _ _)
  rw [if_neg e4]
  refine x_aload_n dX10_person_62 rfl ?_
  refine x_iload_n dX10_person_63 rfl ?_
  refine y_bipush dX10_person_64 rfl ?_
  refine (show X _ _ 66 _ _ _ _ _ _ from ?_)
  refine y_icmp_ne 84 dX10_person_66 (by decide) ⟨by omega, by omega⟩ ⟨by omega, by omega⟩ (fun e5 => ?_) (fun e5 => ?_)
  · rw [if_neg e5]
    refine x_aload_n dX10_person_84 rfl ?_
    refine x_iload_n dX10_person_85 rfl ?_
    refine y_iald (w.toNat) dX10_person_86 (by first | assumption) (by first | rfl | omega) (by omega) (by decide) ?_
    refine (show X _ _ 87 _ _ _ _ _ _ from ?_)
    refine X.val (b := A (1 + w.toNat) p.toNat) (hv w.toNat (by omega)) ?_
    refine x_callV (As := [_]) (mc := 0) (ms := 0) (z := mX10_grant) (ci := 10) dX10_person_87 lX10_116 oX10_grant (by decide) (by first | assumption) rfl rfl (Nat.le_of_ble_eq_true rfl) (Nat.le_of_ble_eq_true rfl) rfl (hgr _) (k_I ?_)
    refine (show X _ _ 90 _ _ _ _ _ _ from ?_)
    exact x_ireturn dX10_person_90 rfl (CQ_tr hI0 _ _)
  · rw [if_pos e5]
    refine x_aload_n dX10_person_69 rfl ?_
    refine x_gr dX10_person_70 fX10_19 (by first | assumption) (fun _ _ _ => rfl) (by first | assumption) ?_
    refine x_gr dX10_person_73 fX10_81 (by first | assumption) (fun _ _ _ => rfl) (by first | assumption) ?_
    refine x_gr dX10_person_76 fX10_119 (by first | assumption) (fun _ _ _ => rfl) (by first | assumption) ?_
    refine x_iload_n dX10_person_79 rfl ?_
    refine y_iald (p.toNat) dX10_person_80 (by first | assumption) (by first | rfl | omega) (by omega) (by decide) ?_
    refine (show X _ _ 81 _ _ _ _ _ _ from ?_)
    refine X.val (b := B 1 p.toNat) (f2.2.1 p.toNat (by omega)) ?_
    refine x_goto 87 dX10_person_81 (by decide) ?_
    refine (show X _ _ 87 _ _ _ _ _ _ from ?_)
    refine x_callV (As := [_]) (mc := 0) (ms := 0) (z := mX10_grant) (ci := 10) dX10_person_87 lX10_116 oX10_grant (by decide) (by first | assumption) rfl rfl (Nat.le_of_ble_eq_true rfl) (Nat.le_of_ble_eq_true rfl) rfl (hgr _) (k_I ?_)
    refine (show X _ _ 90 _ _ _ _ _ _ from ?_)
    exact x_ireturn dX10_person_90 rfl (CQ_tr hI0 _ _)
theorem f_plan {p w : Int} (hI : CI T R V o fw fr σ t tp h A B a m H K wr pl tr) (hp : R32 p) (hw : R32 w) : X g mX10_plan 0 [.ref o, .int (iI p), .int (iI w)] [] (T, iV V, R, J, z) k n (CQ T R J z V o (some (.int (iI (if noPl h A p w = true then -1 else A (8 + w.toNat) p.toNat)))) t tp h A B a m H K wr pl (if noPl h A p w = true then 1 else 0)) := by
  have hI0 := hI
  have hel := an_el hI
  obtain ⟨hC, ⟨p6, p7⟩, -, -, -, ⟨f1, f2, f3, f4⟩, -⟩ := hI
  have hnp := fun (p : Int) hp => c_isNoPerson (g := g) (J := J) (z := z) (k := 0) (n := 0) (p := p) hC p6 f1 f3 hp
  have hns := fun (p : Int) hp => c_isNoSecret (g := g) (J := J) (z := z) (k := 0) (n := 0) (p := p) hC p6 f1 f3 hp
  have hpy := fun (p y : Int) hp hy => c_personYearTrouble (g := g) (J := J) (z := z) (k := 0) (n := 0) (p := p) (y := y) hC p6 f1 f3 hp hy
  have hrf := fun x => c_refuse (g := g) (J := J) (z := z) (k := 0) (n := 0) (V := V) (x := x) hC
  have hgr := fun x => c_grant (g := g) (J := J) (z := z) (k := 0) (n := 0) (V := V) (x := x) hC
  have hsep := hC.2.2.2.2.2.2.2
  obtain ⟨⟨c0, c1, c2, c3, c4, c5, c6⟩, -, ⟨⟨w0, w1, w2, w3⟩, hFS, -⟩, -, hU, -⟩ := hC
  have hf0 := hFS.1
  obtain ⟨fR9, fR10, fR11, fR12, fR13, fR14⟩ := hFS.2.1
  obtain ⟨fT1, fT12, fT25, fT34, fT43, fT44⟩ := hFS.2.2.1
  obtain ⟨u0, u1', u2', u3'⟩ := hU.1
  obtain ⟨v1, v2, v3, v4, v5, v6, v7⟩ := hU.2.1
  have hT6 : T (o + 155 + 6) = (1, 240) := hU.2.2.1.2.2.2.2.2.1
  have ru := hU.2.2.2.1
  have ru0 := ru.1.1
  have ru2 : R (o + 155 + 8) 13 = some (o + 155 + 8 + 3) := ru.2.1.2.2.1
  have ru3 : T (o + 155 + 8 + 3) = (1, 10) := ru.2.2.2.2.1
  have hA0 := f3.1
  have hA3 := f3.2.2.2.1
  have hA6 := f3.2.2.2.2.2.2.1
  have hA4 := f3.2.2.2.2.1
  obtain ⟨hw1, hw2⟩ := hw
  obtain ⟨hp1, hp2⟩ := hp
  have bad : (¬ (h = true ∧ 0 ≤ p ∧ p < A 0 4 ∧ 0 ≤ w ∧ w < 4)) → X g mX10_plan 34 [.ref o, .int (iI p), .int (iI w)] [] (T, iV V, R, J, z) k n (CQ T R J z V o (some (.int (iI (if noPl h A p w = true then -1 else A (8 + w.toNat) p.toNat)))) t tp h A B a m H K wr pl (if noPl h A p w = true then 1 else 0)) := by
    intro e
    have e0 : noPl h A p w = true := decide_eq_true e
    rw [if_pos e0, if_pos e0]
    refine x_aload_n dX10_plan_34 rfl ?_
    refine y_iconst dX10_plan_35 ?_
    refine (show X _ _ 36 _ _ _ _ _ _ from ?_)
    refine x_callV (As := [_]) (mc := 0) (ms := 0) (z := mX10_refuse) (ci := 10) dX10_plan_36 lX10_68 oX10_refuse (by decide) (by first | assumption) rfl rfl (Nat.le_of_ble_eq_true rfl) (Nat.le_of_ble_eq_true rfl) rfl (hrf _) (k_I ?_)
    refine (show X _ _ 39 _ _ _ _ _ _ from ?_)
    exact x_ireturn dX10_plan_39 rfl (CQ_tr hI0 _ _)
  refine x_aload_n dX10_plan_0 rfl ?_
  refine y_gi dX10_plan_1 fX10_53 (by first | assumption) (fun _ _ _ => rfl) ?_
  refine (show X _ _ 4 _ _ _ _ _ _ from ?_)
  refine X.val p6 ?_
  refine y_ifb_eq 34 dX10_plan_4 (by decide) (fun e => ?_) (fun e => ?_)
  · exact bad (fun c => by rw [e] at c; cases c.1)
  refine x_iload_n dX10_plan_7 rfl ?_
  refine (show X _ _ 8 _ _ _ _ _ _ from ?_)
  refine y_if_lt 34 dX10_plan_8 (by decide) ⟨by omega, by omega⟩ (fun e1 => ?_) (fun e1 => ?_)
  · exact bad (fun c => by omega)
  refine x_iload_n dX10_plan_11 rfl ?_
  refine x_aload_n dX10_plan_12 rfl ?_
  refine x_gr dX10_plan_13 fX10_19 (by first | assumption) (fun _ _ _ => rfl) (by first | assumption) ?_
  refine x_gr dX10_plan_16 fX10_76 (by first | assumption) (fun _ _ _ => rfl) (by first | assumption) ?_
  refine y_gi dX10_plan_19 fX10_123 (by first | assumption) (fun _ _ _ => rfl) ?_
  refine (show X _ _ 22 _ _ _ _ _ _ from ?_)
  refine X.val (f1.1 4 (by decide)) ?_
  refine y_icmp_ge 34 dX10_plan_22 (by decide) ⟨by omega, by omega⟩ ⟨by omega, by omega⟩ (fun e2 => ?_) (fun e2 => ?_)
  · exact bad (fun c => by omega)
  refine x_iload_n dX10_plan_25 rfl ?_
  refine (show X _ _ 26 _ _ _ _ _ _ from ?_)
  refine y_if_lt 34 dX10_plan_26 (by decide) ⟨by omega, by omega⟩ (fun e3 => ?_) (fun e3 => ?_)
  · exact bad (fun c => by omega)
  refine x_iload_n dX10_plan_29 rfl ?_
  refine y_iconst dX10_plan_30 ?_
  refine (show X _ _ 31 _ _ _ _ _ _ from ?_)
  refine y_icmp_lt 40 dX10_plan_31 (by decide) ⟨by omega, by omega⟩ ⟨by omega, by omega⟩ (fun e4 => ?_) (fun e4 => ?_)
  rotate_left
  · exact bad (fun c => by omega)
  have e0 : ¬ noPl h A p w = true := fun c => (of_decide_eq_true c) ⟨e, e1, e2, e3, e4⟩
  rw [if_neg e0, if_neg e0]
  have hr := hFS.2.2.2.2.1 p.toNat (by omega)
  have hr1 := hr.1
  have hr2 := hr.2
  have hv := f1.2.2.1 p.toNat (show p.toNat < (A 0 4).toNat by omega)
  refine x_aload_n dX10_plan_40 rfl ?_
  refine x_aload_n dX10_plan_41 rfl ?_
  refine x_gr dX10_plan_42 fX10_19 (by first | assumption) (fun _ _ _ => rfl) (by first | assumption) ?_
  refine x_gr dX10_plan_45 fX10_76 (by first | assumption) (fun _ _ _ => rfl) (by first | assumption) ?_
  refine x_gr dX10_plan_48 fX10_126 (by first | assumption) (fun _ _ _ => rfl) (by first | assumption) ?_
  refine x_iload_n dX10_plan_51 rfl ?_
  refine y_aald (p.toNat) dX10_plan_52 (by first | assumption) (by decide) (by first | rfl | omega) (by omega) (by decide) (by first | assumption) ?_
  refine x_iload_n dX10_plan_53 rfl ?_
  refine (show X _ _ 54 _ _ _ _ _ _ from ?_)
  refine y_iald (w.toNat) dX10_plan_54 (by first | assumption) (by first | rfl | omega) (by omega) (by decide) ?_
  refine (show X _ _ 55 _ _ _ _ _ _ from ?_)
  refine X.val (b := A (8 + w.toNat) p.toNat) (hv w.toNat (by omega)) ?_
  refine x_callV (As := [_]) (mc := 0) (ms := 0) (z := mX10_grant) (ci := 10) dX10_plan_55 lX10_116 oX10_grant (by decide) (by first | assumption) rfl rfl (Nat.le_of_ble_eq_true rfl) (Nat.le_of_ble_eq_true rfl) rfl (hgr _) (k_I ?_)
  refine (show X _ _ 58 _ _ _ _ _ _ from ?_)
  exact x_ireturn dX10_plan_58 rfl (CQ_tr hI0 _ _)
theorem f_size {w : Int} (hI : CI T R V o fw fr σ t tp h A B a m H K wr pl tr) (hw : R32 w) : X g mX10_size 0 [.ref o, .int (iI w), jk] [] (T, iV V, R, J, z) k n (CQ T R J z V o (some (.int (iI (szX A B a m tp w)))) t tp h A B a m H K wr pl (tr)) := by
  have hI0 := hI
  obtain ⟨hC, ⟨p6, p7⟩, ⟨r1, r2, r4, r9⟩, -, hP, ⟨f1, f2, f3, f4⟩, -⟩ := hI
  obtain ⟨⟨c0, c1, c2, c3, c4, c5, c6⟩, ⟨⟨s0, -⟩, -⟩, ⟨⟨w0, w1, w2, w3⟩, hFS, hNS, -⟩, hPS, -⟩ := hC
  have hf0 := hFS.1
  have hn0 := hNS.1
  have hp0 := hPS.1.1
  obtain ⟨hw1, hw2⟩ := hw
  refine x_aload_n dX10_size_0 rfl ?_
  refine x_gr dX10_size_1 fX10_19 (by first | assumption) (fun _ _ _ => rfl) (by first | assumption) ?_
  refine x_gr dX10_size_4 fX10_76 (by first | assumption) (fun _ _ _ => rfl) (by first | assumption) ?_
  refine x_astore_n dX10_size_7 (by decide) rfl rfl ?_
  refine x_iload_n dX10_size_8 rfl ?_
  refine (show X _ _ 9 _ _ _ _ _ _ from ?_)
  by_cases hr : w < 0 ∨ 12 < w
  · refine y_tsOut 173 dX10_size_9 ⟨by omega, by omega⟩ hr (by decide) ?_
    rw [show szX A B a m tp w = -1 by unfold szX; rw [if_neg (by omega), if_neg (by omega), if_neg (by omega), if_neg (by omega), if_neg (by omega), if_neg (by omega), if_neg (by omega), if_neg (by omega), if_neg (by omega), if_neg (by omega), if_neg (by omega), if_neg (by omega), if_neg (by omega)]]
    refine y_iconst dX10_size_173 ?_
    refine (show X _ _ 174 _ _ _ _ _ _ from ?_)
    exact x_ireturn dX10_size_174 rfl (CQ_id hI0 _)
  rcases (by omega : w = 0 ∨ w = 1 ∨ w = 2 ∨ w = 3 ∨ w = 4 ∨ w = 5 ∨ w = 6 ∨ w = 7 ∨ w = 8 ∨ w = 9 ∨ w = 10 ∨ w = 11 ∨ w = 12) with rfl | rfl | rfl | rfl | rfl | rfl | rfl | rfl | rfl | rfl | rfl | rfl | rfl
  · refine y_tsIn 76 dX10_size_9 ⟨by omega, by omega⟩ (by omega) (by omega) rfl (by decide) ?_
    refine x_aload_n dX10_size_76 rfl ?_
    refine y_gi dX10_size_77 fX10_256 (by first | assumption) (fun _ _ _ => rfl) ?_
    refine (show X _ _ 80 _ _ _ _ _ _ from ?_)
    refine X.val (f1.1 0 (by decide)) ?_
    exact x_ireturn dX10_size_80 rfl (CQ_id hI0 _)
  · refine y_tsIn 81 dX10_size_9 ⟨by omega, by omega⟩ (by omega) (by omega) rfl (by decide) ?_
    refine x_aload_n dX10_size_81 rfl ?_
    refine x_gr dX10_size_82 fX10_19 (by first | assumption) (fun _ _ _ => rfl) (by first | assumption) ?_
    refine x_gr dX10_size_85 fX10_81 (by first | assumption) (fun _ _ _ => rfl) (by first | assumption) ?_
    refine y_gi dX10_size_88 fX10_293 (by first | assumption) (fun _ _ _ => rfl) ?_
    refine (show X _ _ 91 _ _ _ _ _ _ from ?_)
    refine X.val (f2.1 0 (by decide)) ?_
    exact x_ireturn dX10_size_91 rfl (CQ_id hI0 _)
  · refine y_tsIn 92 dX10_size_9 ⟨by omega, by omega⟩ (by omega) (by omega) rfl (by decide) ?_
    refine x_aload_n dX10_size_92 rfl ?_
    refine y_gi dX10_size_93 fX10_314 (by first | assumption) (fun _ _ _ => rfl) ?_
    refine (show X _ _ 96 _ _ _ _ _ _ from ?_)
    refine X.val (f1.1 2 (by decide)) ?_
    exact x_ireturn dX10_size_96 rfl (CQ_id hI0 _)
  · refine y_tsIn 97 dX10_size_9 ⟨by omega, by omega⟩ (by omega) (by omega) rfl (by decide) ?_
    refine x_aload_n dX10_size_97 rfl ?_
    refine y_gi dX10_size_98 fX10_98 (by first | assumption) (fun _ _ _ => rfl) ?_
    refine (show X _ _ 101 _ _ _ _ _ _ from ?_)
    refine X.val (f1.1 3 (by decide)) ?_
    exact x_ireturn dX10_size_101 rfl (CQ_id hI0 _)
  · refine y_tsIn 102 dX10_size_9 ⟨by omega, by omega⟩ (by omega) (by omega) rfl (by decide) ?_
    refine x_aload_n dX10_size_102 rfl ?_
    refine y_gi dX10_size_103 fX10_123 (by first | assumption) (fun _ _ _ => rfl) ?_
    refine (show X _ _ 106 _ _ _ _ _ _ from ?_)
    refine X.val (f1.1 4 (by decide)) ?_
    exact x_ireturn dX10_size_106 rfl (CQ_id hI0 _)
  · refine y_tsIn 107 dX10_size_9 ⟨by omega, by omega⟩ (by omega) (by omega) rfl (by decide) ?_
    refine x_aload_n dX10_size_107 rfl ?_
    refine y_gi dX10_size_108 fX10_317 (by first | assumption) (fun _ _ _ => rfl) ?_
    refine (show X _ _ 111 _ _ _ _ _ _ from ?_)
    refine X.val (b := A 0 5) (f1.1 5 (by decide)) ?_
    refine x_aload_n dX10_size_111 rfl ?_
    refine x_gr dX10_size_112 fX10_19 (by first | assumption) (fun _ _ _ => rfl) (by first | assumption) ?_
    refine x_gr dX10_size_115 fX10_81 (by first | assumption) (fun _ _ _ => rfl) (by first | assumption) ?_
    refine y_gi dX10_size_118 fX10_282 (by first | assumption) (fun _ _ _ => rfl) ?_
    refine (show X _ _ 121 _ _ _ _ _ _ from ?_)
    refine X.val (b := B 0 2) (f2.1 2 (by decide)) ?_
    refine y_iadd dX10_size_121 ?_
    refine (show X _ _ 122 _ _ _ _ _ _ from ?_)
    exact x_ireturn dX10_size_122 rfl (CQ_id hI0 _)
  · refine y_tsIn 123 dX10_size_9 ⟨by omega, by omega⟩ (by omega) (by omega) rfl (by decide) ?_
    refine x_aload_n dX10_size_123 rfl ?_
    refine y_gi dX10_size_124 fX10_320 (by first | assumption) (fun _ _ _ => rfl) ?_
    refine (show X _ _ 127 _ _ _ _ _ _ from ?_)
    refine X.val (f1.1 6 (by decide)) ?_
    exact x_ireturn dX10_size_127 rfl (CQ_id hI0 _)
  · refine y_tsIn 128 dX10_size_9 ⟨by omega, by omega⟩ (by omega) (by omega) rfl (by decide) ?_
    refine x_aload_n dX10_size_128 rfl ?_
    refine y_gi dX10_size_129 fX10_323 (by first | assumption) (fun _ _ _ => rfl) ?_
    refine (show X _ _ 132 _ _ _ _ _ _ from ?_)
    refine X.val (f1.1 7 (by decide)) ?_
    exact x_ireturn dX10_size_132 rfl (CQ_id hI0 _)
  · refine y_tsIn 133 dX10_size_9 ⟨by omega, by omega⟩ (by omega) (by omega) rfl (by decide) ?_
    refine x_aload_n dX10_size_133 rfl ?_
    refine y_gi dX10_size_134 fX10_326 (by first | assumption) (fun _ _ _ => rfl) ?_
    refine (show X _ _ 137 _ _ _ _ _ _ from ?_)
    refine X.val (f1.1 8 (by decide)) ?_
    exact x_ireturn dX10_size_137 rfl (CQ_id hI0 _)
  · refine y_tsIn 138 dX10_size_9 ⟨by omega, by omega⟩ (by omega) (by omega) rfl (by decide) ?_
    refine x_aload_n dX10_size_138 rfl ?_
    refine x_gr dX10_size_139 fX10_19 (by first | assumption) (fun _ _ _ => rfl) (by first | assumption) ?_
    refine x_gr dX10_size_142 fX10_81 (by first | assumption) (fun _ _ _ => rfl) (by first | assumption) ?_
    refine y_gi dX10_size_145 fX10_237 (by first | assumption) (fun _ _ _ => rfl) ?_
    refine (show X _ _ 148 _ _ _ _ _ _ from ?_)
    refine X.val (f2.1 1 (by decide)) ?_
    exact x_ireturn dX10_size_148 rfl (CQ_id hI0 _)
  · refine y_tsIn 149 dX10_size_9 ⟨by omega, by omega⟩ (by omega) (by omega) rfl (by decide) ?_
    refine x_aload_n dX10_size_149 rfl ?_
    refine x_gr dX10_size_150 fX10_26 (by first | assumption) (fun _ _ _ => rfl) (by first | assumption) ?_
    refine y_gi dX10_size_153 fX10_329 (by first | assumption) (fun _ _ _ => rfl) ?_
    refine (show X _ _ 156 _ _ _ _ _ _ from ?_)
    refine X.val (hP.1.1) ?_
    exact x_ireturn dX10_size_156 rfl (CQ_id hI0 _)
  · refine y_tsIn 157 dX10_size_9 ⟨by omega, by omega⟩ (by omega) (by omega) rfl (by decide) ?_
    refine x_aload_n dX10_size_157 rfl ?_
    refine x_gr dX10_size_158 fX10_26 (by first | assumption) (fun _ _ _ => rfl) (by first | assumption) ?_
    refine y_gi dX10_size_161 fX10_332 (by first | assumption) (fun _ _ _ => rfl) ?_
    refine (show X _ _ 164 _ _ _ _ _ _ from ?_)
    refine X.val (hP.2.1.1) ?_
    exact x_ireturn dX10_size_164 rfl (CQ_id hI0 _)
  · refine y_tsIn 165 dX10_size_9 ⟨by omega, by omega⟩ (by omega) (by omega) rfl (by decide) ?_
    refine x_aload_n dX10_size_165 rfl ?_
    refine x_gr dX10_size_166 fX10_12 (by first | assumption) (fun _ _ _ => rfl) (by first | assumption) ?_
    refine y_gi dX10_size_169 fX10_61 (by first | assumption) (fun _ _ _ => rfl) ?_
    refine (show X _ _ 172 _ _ _ _ _ _ from ?_)
    refine X.val (r4) ?_
    exact x_ireturn dX10_size_172 rfl (CQ_id hI0 _)
end C67
