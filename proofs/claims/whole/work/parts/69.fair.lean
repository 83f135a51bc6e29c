/-! ===== the class's face: fair, soonest, kept ===== -/
section C69
variable {g : GG} {T : Nat → Nat × Nat} {V V' A B : Nat → Nat → Int} {R : Nat → Nat → Option Nat} {J : Nat → Nat → Int64} {z k n : Nat} {o fw fr : Nat} {σ : Nat → Nat} {t : Nat → Int} {tp : Nat} {h : Bool} {a m : Nat} {H K : Nat → Nat → Nat → Int} {wr pl tr : Int}
/-- the run of the annals: bounds -/
theorem an_run (hI : CI T R V o fw fr σ t tp h A B a m H K wr pl tr) (hh : h = true) : 0 ≤ V (o + 155 + 8) 5 ∧ ∀ p, p < fP A → 0 ≤ V (o + 155 + 9) p ∧ V (o + 155 + 9) p ≤ 24 := by
  obtain ⟨-, -, -, -, -, ⟨-, -, hA, hB⟩, -, -, g1, -⟩ := hI
  obtain ⟨-, -, ⟨Ni, Wi, -, hAn⟩, -⟩ := g1 hh
  have e0 : V (o + 155 + 8) = runTo A B (rBeg A Wi (B 0 0) (B 0 1)) (fY A) 0 := hAn.1 0 (by decide)
  have e1 : V (o + 155 + 9) = runTo A B (rBeg A Wi (B 0 0) (B 0 1)) (fY A) 1 := hAn.1 1 (by decide)
  have hr := runTo_ok hA hB (rBeg_ok (W := Wi) hA hB.1 hB.2.1) (fY A)
  rw [e0, e1]
  refine ⟨hr.2.2.2.2.1, fun p hp => ?_⟩
  have := hr.2.2.2.2.2.2.2.1 p hp
  have hY : ((fY A : Nat) : Int) = A 0 0 := Int.toNat_of_nonneg hA.1.1
  have := hA.1
  omega
/-- the notes of the annals: bounds -/
theorem an_no (hI : CI T R V o fw fr σ t tp h A B a m H K wr pl tr) (hh : h = true) : ∀ y, y < fY A → (0 ≤ V (o + 155 + 5) y ∧ V (o + 155 + 5) y < 256) ∧ ∀ p, p < 10 → 0 ≤ V (o + 155 + 6) (10 * y + p) ∧ V (o + 155 + 6) (10 * y + p) < 256 := by
  obtain ⟨-, -, -, -, -, ⟨-, -, hA, hB⟩, -, -, g1, -⟩ := hI
  obtain ⟨-, -, ⟨Ni, Wi, hNi, hAn⟩, -⟩ := g1 hh
  intro y hy
  obtain ⟨-, -, -, -, e5, e6, -⟩ := hAn.2.2 y hy
  have hn := nTo_ok hA hB (rBeg_ok (W := Wi) hA hB.1 hB.2.1) (nBeg_ok hA hNi) (y + 1)
  refine ⟨?_, fun p hp => ?_⟩
  · have e : V (o + 155 + 5) y = _ := e5
    rw [e]; exact hn.1
  · have e : V (o + 155 + 6) (10 * y + p) = _ := e6 p hp
    rw [e]; exact hn.2.1 p hp
theorem f_fair (hI : CI T R V o fw fr σ t tp h A B a m H K wr pl tr) : X g mX10_fair 0 [.ref o] [] (T, iV V, R, J, z) k n (CQ T R J z V o (some (.int (iI (if h = true then spread A B (fun j => V (o + 155 + 8 + j)) else -1)))) t tp h A B a m H K wr pl (if h = true then 0 else 1)) := by
  have hrn := an_run hI
  have hg1 := hI.2.2.2.2.2.2.2.2.1
  have hWS := hI.1.2.2.1
  have hI0 := hI
  have hel := an_el hI
  obtain ⟨hC, ⟨p6, p7⟩, -, -, -, ⟨f1, f2, f3, f4⟩, -⟩ := hI
  have hnp := fun (p : Int) hp => c_isNoPerson (g := g) (J := J) (z := z) (k := 0) (n := 0) (p := p) hC p6 f1 f3 hp
  have hns := fun (p : Int) hp => c_isNoSecret (g := g) (J := J) (z := z) (k := 0) (n := 0) (p := p) hC p6 f1 f3 hp
  have hpy := fun (p y : Int) hp hy => c_personYearTrouble (g := g) (J := J) (z := z) (k := 0) (n := 0) (p := p) (y := y) hC p6 f1 f3 hp hy
  have hrf := fun x => c_refuse (g := g) (J := J) (z := z) (k := 0) (n := 0) (V := V) (x := x) hC
  have hgr := fun x => c_grant (g := g) (J := J) (z := z) (k := 0) (n := 0) (V := V) (x := x) hC
  have hsep := hC.2.2.2.2.2.2.2
  obtain ⟨⟨c0, c1, c2, c3, c4, c5, c6⟩, -, ⟨⟨w0, w1, w2, w3⟩, hFS, -⟩, -, hU, -⟩ := hC
  have hf0 := hFS.1
  obtain ⟨fR9, fR10, fR11, fR12, fR13, fR14⟩ := hFS.2.1
  obtain ⟨fT1, fT12, fT25, fT34, fT43, fT44⟩ := hFS.2.2.1
  obtain ⟨u0, u1', u2', u3'⟩ := hU.1
  obtain ⟨v1, v2, v3, v4, v5, v6, v7⟩ := hU.2.1
  have hT6 : T (o + 155 + 6) = (1, 240) := hU.2.2.1.2.2.2.2.2.1
  have ru := hU.2.2.2.1
  have ru0 := ru.1.1
  have ru2 : R (o + 155 + 8) 13 = some (o + 155 + 8 + 3) := ru.2.1.2.2.1
  have ru3 : T (o + 155 + 8 + 3) = (1, 10) := ru.2.2.2.2.1
  have hA0 := f3.1
  have hA3 := f3.2.2.2.1
  have hA6 := f3.2.2.2.2.2.2.1
  refine x_aload_n dX10_fair_0 rfl ?_
  refine y_gi dX10_fair_1 fX10_53 (by first | assumption) (fun _ _ _ => rfl) ?_
  refine (show X _ _ 4 _ _ _ _ _ _ from ?_)
  refine X.val p6 ?_
  refine y_ifb_eq 24 dX10_fair_4 (by decide) (fun e => ?_) (fun e => ?_)
  · rw [if_neg (by rw [e]; decide), if_neg (by rw [e]; decide)]
    refine x_aload_n dX10_fair_24 rfl ?_
    refine y_iconst dX10_fair_25 ?_
    refine (show X _ _ 26 _ _ _ _ _ _ from ?_)
    refine x_callV (As := [_]) (mc := 0) (ms := 0) (z := mX10_refuse) (ci := 10) dX10_fair_26 lX10_68 oX10_refuse (by decide) (by first | assumption) rfl rfl (Nat.le_of_ble_eq_true rfl) (Nat.le_of_ble_eq_true rfl) rfl (hrf _) (k_I ?_)
    refine (show X _ _ 29 _ _ _ _ _ _ from ?_)
    exact x_ireturn dX10_fair_29 rfl (CQ_tr hI0 _ _)
  · rw [if_pos e, if_pos e]
    obtain ⟨⟨y4, -⟩, hAC, -⟩ := hg1 e
    have hrn := hrn e
    have cc := c_spread (g := g) (J := J) (z := z) (k := 0) (n := 0) (V := V) (W := fun j => V (o + 155 + 8 + j)) ru hWS ⟨f1, f2, hAC, f3, f4⟩ ⟨by omega, by omega, by omega, by omega⟩ hrn.1 (by omega) hrn.2
    rw [pB_self (fun _ _ => rfl)] at cc
    refine x_aload_n dX10_fair_7 rfl ?_
    refine x_aload_n dX10_fair_8 rfl ?_
    refine x_gr dX10_fair_9 fX10_35 (by first | assumption) (fun _ _ _ => rfl) (by first | assumption) ?_
    refine x_gr dX10_fair_12 fX10_138 (by first | assumption) (fun _ _ _ => rfl) (by first | assumption) ?_
    refine (show X _ _ 15 _ _ _ _ _ _ from ?_)
    refine x_callV (As := []) (mc := 0) (ms := 0) (z := mX8_spread) (ci := 8) dX10_fair_15 lX10_193 oX8_spread (by decide) (by first | assumption) rfl rfl (Nat.le_of_ble_eq_true rfl) (Nat.le_of_ble_eq_true rfl) rfl (cc) (k_I ?_)
    refine (show X _ _ 18 _ _ _ _ _ _ from ?_)
    refine x_callV (As := [_]) (mc := 0) (ms := 0) (z := mX10_grant) (ci := 10) dX10_fair_18 lX10_116 oX10_grant (by decide) (by first | assumption) rfl rfl (Nat.le_of_ble_eq_true rfl) (Nat.le_of_ble_eq_true rfl) rfl (hgr _) (k_I ?_)
    refine (show X _ _ 21 _ _ _ _ _ _ from ?_)
    refine x_goto 29 dX10_fair_21 (by decide) ?_
    refine (show X _ _ 29 _ _ _ _ _ _ from ?_)
    exact x_ireturn dX10_fair_29 rfl (CQ_tr hI0 _ _)
theorem f_soonest {s p : Int} (hI : CI T R V o fw fr σ t tp h A B a m H K wr pl tr) (hs : R32 s) (hp : R32 p) : X g mX10_soonest 0 [.ref o, .int (iI s), .int (iI p)] [] (T, iV V, R, J, z) k n (CQ T R J z V o (some (.int (iI (if noS h A s = true ∨ noP h A p = true then -1 else fKnow A (fun j => V (o + 155 + j)) s.toNat p.toNat)))) t tp h A B a m H K wr pl (if noS h A s = true ∨ noP h A p = true then 1 else 0)) := by
  have hno := an_no hI
  have hI0 := hI
  have hel := an_el hI
  obtain ⟨hC, ⟨p6, p7⟩, -, -, -, ⟨f1, f2, f3, f4⟩, -⟩ := hI
  have hnp := fun (p : Int) hp => c_isNoPerson (g := g) (J := J) (z := z) (k := 0) (n := 0) (p := p) hC p6 f1 f3 hp
  have hns := fun (p : Int) hp => c_isNoSecret (g := g) (J := J) (z := z) (k := 0) (n := 0) (p := p) hC p6 f1 f3 hp
  have hpy := fun (p y : Int) hp hy => c_personYearTrouble (g := g) (J := J) (z := z) (k := 0) (n := 0) (p := p) (y := y) hC p6 f1 f3 hp hy
  have hrf := fun x => c_refuse (g := g) (J := J) (z := z) (k := 0) (n := 0) (V := V) (x := x) hC
  have hgr := fun x => c_grant (g := g) (J := J) (z := z) (k := 0) (n := 0) (V := V) (x := x) hC
  have hsep := hC.2.2.2.2.2.2.2
  obtain ⟨⟨c0, c1, c2, c3, c4, c5, c6⟩, -, ⟨⟨w0, w1, w2, w3⟩, hFS, -⟩, -, hU, -⟩ := hC
  have hf0 := hFS.1
  obtain ⟨fR9, fR10, fR11, fR12, fR13, fR14⟩ := hFS.2.1
  obtain ⟨fT1, fT12, fT25, fT34, fT43, fT44⟩ := hFS.2.2.1
  obtain ⟨u0, u1', u2', u3'⟩ := hU.1
  obtain ⟨v1, v2, v3, v4, v5, v6, v7⟩ := hU.2.1
  have hT6 : T (o + 155 + 6) = (1, 240) := hU.2.2.1.2.2.2.2.2.1
  have ru := hU.2.2.2.1
  have ru0 := ru.1.1
  have ru2 : R (o + 155 + 8) 13 = some (o + 155 + 8 + 3) := ru.2.1.2.2.1
  have ru3 : T (o + 155 + 8 + 3) = (1, 10) := ru.2.2.2.2.1
  have hA0 := f3.1
  have hA3 := f3.2.2.2.1
  have hA6 := f3.2.2.2.2.2.2.1
  have hns := hns s hs
  have hnp := hnp p hp
  have bad : (noS h A s = true ∨ noP h A p = true) → X g mX10_soonest 16 [.ref o, .int (iI s), .int (iI p)] [] (T, iV V, R, J, z) k n (CQ T R J z V o (some (.int (iI (if noS h A s = true ∨ noP h A p = true then -1 else fKnow A (fun j => V (o + 155 + j)) s.toNat p.toNat)))) t tp h A B a m H K wr pl (if noS h A s = true ∨ noP h A p = true then 1 else 0)) := by
    intro e
    rw [if_pos e, if_pos e]
    refine x_aload_n dX10_soonest_16 rfl ?_
    refine y_iconst dX10_soonest_17 ?_
    refine (show X _ _ 18 _ _ _ _ _ _ from ?_)
    refine x_callV (As := [_]) (mc := 0) (ms := 0) (z := mX10_refuse) (ci := 10) dX10_soonest_18 lX10_68 oX10_refuse (by decide) (by first | assumption) rfl rfl (Nat.le_of_ble_eq_true rfl) (Nat.le_of_ble_eq_true rfl) rfl (hrf _) (k_I ?_)
    refine (show X _ _ 21 _ _ _ _ _ _ from ?_)
    exact x_ireturn dX10_soonest_21 rfl (CQ_tr hI0 _ _)
  refine x_aload_n dX10_soonest_0 rfl ?_
  refine x_iload_n dX10_soonest_1 rfl ?_
  refine (show X _ _ 2 _ _ _ _ _ _ from ?_)
  refine x_callV (As := [_]) (mc := 0) (ms := 0) (z := mX10_isNoSecret) (ci := 10) dX10_soonest_2 lX10_129 oX10_isNoSecret (by decide) (by first | assumption) rfl rfl (Nat.le_of_ble_eq_true rfl) (Nat.le_of_ble_eq_true rfl) rfl (hns) (k_I ?_)
  refine (show X _ _ 5 _ _ _ _ _ _ from ?_)
  refine y_ifb_ne 16 dX10_soonest_5 (by decide) (fun e => ?_) (fun e => ?_)
  · exact bad (Or.inl e)
  refine x_aload_n dX10_soonest_8 rfl ?_
  refine x_iload_n dX10_soonest_9 rfl ?_
  refine (show X _ _ 10 _ _ _ _ _ _ from ?_)
  refine x_callV (As := [_]) (mc := 0) (ms := 0) (z := mX10_isNoPerson) (ci := 10) dX10_soonest_10 lX10_109 oX10_isNoPerson (by decide) (by first | assumption) rfl rfl (Nat.le_of_ble_eq_true rfl) (Nat.le_of_ble_eq_true rfl) rfl (hnp) (k_I ?_)
  refine (show X _ _ 13 _ _ _ _ _ _ from ?_)
  refine y_ifb_eq 22 dX10_soonest_13 (by decide) (fun e1 => ?_) (fun e1 => ?_)
  rotate_left
  · exact bad (Or.inr e1)
  have en : ¬ (noS h A s = true ∨ noP h A p = true) := fun c => by rcases c with c | c; (rw [e] at c; cases c); (rw [e1] at c; cases c)
  rw [if_neg en, if_neg en]
  have e2 := noS_f e
  have e3 := noP_f e1
  have hno := hno e2.1
  have cc := c_firstKnowing (g := g) (J := J) (z := z) (k := 0) (n := 0) (V := V) (s := s.toNat) (p := p.toNat) (E := fun j => V (o + 155 + j)) hU w0 w1 hFS f1 f3 ⟨by omega, by omega⟩ (by omega) (by omega) (fun i hi => (hno i hi).2 p.toNat (by omega))
  rw [pB_self (fun _ _ => rfl), Int.toNat_of_nonneg e2.2.1, Int.toNat_of_nonneg e3.2.1] at cc
  refine x_aload_n dX10_soonest_22 rfl ?_
  refine x_aload_n dX10_soonest_23 rfl ?_
  refine x_gr dX10_soonest_24 fX10_35 (by first | assumption) (fun _ _ _ => rfl) (by first | assumption) ?_
  refine x_iload_n dX10_soonest_27 rfl ?_
  refine x_iload_n dX10_soonest_28 rfl ?_
  refine (show X _ _ 29 _ _ _ _ _ _ from ?_)
  refine x_callV (As := [_, _]) (mc := 0) (ms := 0) (z := mX1_firstKnowing) (ci := 1) dX10_soonest_29 lX10_200 oX1_firstKnowing (by decide) (by first | assumption) rfl rfl (Nat.le_of_ble_eq_true rfl) (Nat.le_of_ble_eq_true rfl) rfl (cc) (k_I ?_)
  refine (show X _ _ 32 _ _ _ _ _ _ from ?_)
  refine x_callV (As := [_]) (mc := 0) (ms := 0) (z := mX10_grant) (ci := 10) dX10_soonest_32 lX10_116 oX10_grant (by decide) (by first | assumption) rfl rfl (Nat.le_of_ble_eq_true rfl) (Nat.le_of_ble_eq_true rfl) rfl (hgr _) (k_I ?_)
  refine (show X _ _ 35 _ _ _ _ _ _ from ?_)
  exact x_ireturn dX10_soonest_35 rfl (CQ_tr hI0 _ _)
end C69
