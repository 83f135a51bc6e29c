/-! ===== the almanac whole; all years of a run; how fair; notes ===== -/
section C9
variable {g : GG} {T : Nat → Nat × Nat} {V D W : Nat → Nat → Int} {R : Nat → Nat → Option Nat} {J : Nat → Nat → Int64} {z k n : Nat} {A B : Nat → Nat → Int} {f nw al r w : Nat}
theorem c_drawUp (ha : AS T R al) (hf : FS T R f) (hn : NS T R nw) (hF : FC V f A) (hN : NC V nw B) (hA : VA A) (hB : VB A B) (hap : (f + 45 ≤ al ∨ al + 5 ≤ f) ∧ (nw + 3 ≤ al ∨ al + 5 ≤ nw)) : X g mX0_drawUp 0 [.ref al, .ref f, .ref nw, jk] [] (T, iV (pB V al 5 D), R, J, z) k n (rV (T, iV (pB V al 5 (yrsD A B (fY A) D)), R, J, z)) := by
  have hep := fun D y hy => c_enterPeople (g := g) (J := J) (z := z) (k := 0) (n := 0) (D := D) (y := y) ha hf hn hF hN hA hB hap hy
  have heh := fun D y hy => c_enterHarm (g := g) (J := J) (z := z) (k := 0) (n := 0) (D := D) (y := y) ha hf hF hA hap.1 hy
  obtain ⟨a0, ⟨a1, a2, a3, a4⟩, ⟨t1, t2, t3, t4⟩⟩ := ha
  obtain ⟨f0, ⟨f9, -⟩, ⟨ft1, -⟩, hPR, -⟩ := hf
  obtain ⟨hV0, hVp, -⟩ := hF
  obtain ⟨p1, p2⟩ := hap
  have eP := fP10 hA
  have eY := fY24 hA
  have hAp := hA.2.2.2.2.2.2.2.2.2.1
  refine x_aload_n dX0_drawUp_0 rfl ?_
  refine x_gr dX0_drawUp_1 fX0_21 (by first | assumption | exact (hPR _ (by omega)).2) (fun _ _ _ => rfl) (by first | assumption | exact (hPR _ (by omega)).2) ?_
  refine y_iconst dX0_drawUp_4 ?_
  refine y_iconst dX0_drawUp_5 ?_
  refine b_iast (r := al) (m := 5) (j := 4) (0) dX0_drawUp_6 (by first | assumption | exact (hPR _ (by omega)).2) (by first | rfl | omega) (by omega) (by decide) (by decide) ?_
  refine x_aload_n dX0_drawUp_7 rfl ?_
  refine x_gr dX0_drawUp_8 fX0_21 (by first | assumption | exact (hPR _ (by omega)).2) (fun _ _ _ => rfl) (by first | assumption | exact (hPR _ (by omega)).2) ?_
  refine y_iconst dX0_drawUp_11 ?_
  refine (show X _ _ 12 _ _ _ _ _ _ from ?_)
  refine y_iconst dX0_drawUp_12 ?_
  refine b_iast (r := al) (m := 5) (j := 4) (1) dX0_drawUp_13 (by first | assumption | exact (hPR _ (by omega)).2) (by first | rfl | omega) (by omega) (by decide) (by decide) ?_
  refine y_iconst dX0_drawUp_14 ?_
  refine x_istore_n dX0_drawUp_15 (by decide) rfl rfl ?_
  refine (show X _ _ 16 _ _ _ _ _ _ from ?_)
  refine loopN (P := fun p => X g mX0_drawUp 16 [.ref al, .ref f, .ref nw, .int (iI (p : Int))] [] (T, iV (pB V al 5 (brD A p D)), R, J, z) k n (rV (T, iV (pB V al 5 (yrsD A B (fY A) D)), R, J, z))) (fP A) ?_ (fun p hp ih => ?_)
  · refine x_iload_n dX0_drawUp_16 rfl ?_
    refine x_aload_n dX0_drawUp_17 rfl ?_
    refine b_gio (r := al) (m := 5) dX0_drawUp_18 fX0_24 (by first | assumption | exact (hPR _ (by omega)).2) (fun _ _ _ => rfl) (by omega) ?_
    refine (show X _ _ 21 _ _ _ _ _ _ from ?_)
    refine X.val (b := A 0 3) (hV0 3 (by omega)) ?_
    refine y_icmp_ge 57 dX0_drawUp_21 (by decide) ⟨by omega, by omega⟩ ⟨by omega, by omega⟩ (fun h => ?_) (fun h => ?_)
    rotate_left
    · omega
    refine y_iconst dX0_drawUp_57 ?_
    refine x_istore_n dX0_drawUp_58 (by decide) rfl rfl ?_
    refine (show X _ _ 59 _ _ _ _ _ _ from ?_)
    refine loopN (P := fun y => X g mX0_drawUp 59 [.ref al, .ref f, .ref nw, .int (iI (y : Int))] [] (T, iV (pB V al 5 (yrsD A B y D)), R, J, z) k n (rV (T, iV (pB V al 5 (yrsD A B (fY A) D)), R, J, z))) (fY A) ?_ (fun y hy ih => ?_)
    · refine x_iload_n dX0_drawUp_59 rfl ?_
      refine x_aload_n dX0_drawUp_60 rfl ?_
      refine b_gio (r := al) (m := 5) dX0_drawUp_61 fX0_34 (by first | assumption | exact (hPR _ (by omega)).2) (fun _ _ _ => rfl) (by omega) ?_
      refine (show X _ _ 64 _ _ _ _ _ _ from ?_)
      refine X.val (b := A 0 0) (hV0 0 (by omega)) ?_
      refine y_icmp_ge 86 dX0_drawUp_64 (by decide) ⟨by omega, by omega⟩ ⟨by omega, by omega⟩ (fun h => ?_) (fun h => ?_)
      · exact x_return dX0_drawUp_86 rfl ⟨rfl, rfl⟩
      · omega
    refine x_iload_n dX0_drawUp_59 rfl ?_
    refine x_aload_n dX0_drawUp_60 rfl ?_
    refine b_gio (r := al) (m := 5) dX0_drawUp_61 fX0_34 (by first | assumption | exact (hPR _ (by omega)).2) (fun _ _ _ => rfl) (by omega) ?_
    refine (show X _ _ 64 _ _ _ _ _ _ from ?_)
    refine X.val (b := A 0 0) (hV0 0 (by omega)) ?_
    refine y_icmp_ge 86 dX0_drawUp_64 (by decide) ⟨by omega, by omega⟩ ⟨by omega, by omega⟩ (fun h => ?_) (fun h => ?_)
    · omega
    refine x_aload_n dX0_drawUp_67 rfl ?_
    refine x_iload_n dX0_drawUp_68 rfl ?_
    refine x_aload_n dX0_drawUp_69 rfl ?_
    refine x_aload_n dX0_drawUp_70 rfl ?_
    refine (show X _ _ 71 _ _ _ _ _ _ from ?_)
    refine x_callV (As := [_, _, _]) (mc := 0) (ms := 0) (z := mX0_enterPeople) (ci := 0) dX0_drawUp_71 lX0_37 oX0_enterPeople (by decide) (by first | assumption | exact (hPR _ (by omega)).2) rfl rfl (Nat.le_of_ble_eq_true rfl) (Nat.le_of_ble_eq_true rfl) rfl (hep _ y hy) (k_V ?_)
    refine (show X _ _ 74 _ _ _ _ _ _ from ?_)
    refine x_aload_n dX0_drawUp_74 rfl ?_
    refine x_iload_n dX0_drawUp_75 rfl ?_
    refine x_aload_n dX0_drawUp_76 rfl ?_
    refine (show X _ _ 77 _ _ _ _ _ _ from ?_)
    refine x_callV (As := [_, _]) (mc := 0) (ms := 0) (z := mX0_enterHarm) (ci := 0) dX0_drawUp_77 lX0_41 oX0_enterHarm (by decide) (by first | assumption | exact (hPR _ (by omega)).2) rfl rfl (Nat.le_of_ble_eq_true rfl) (Nat.le_of_ble_eq_true rfl) rfl (heh _ y hy) (k_V ?_)
    refine (show X _ _ 80 _ _ _ _ _ _ from ?_)
    refine y_iinc dX0_drawUp_80 rfl (by decide) rfl rfl ?_
    refine x_goto 59 dX0_drawUp_83 (by decide) ?_
    refine (show X _ _ 59 _ _ _ _ _ _ from ?_)
    exact ih
  have hk := hAp p hp
  have v1 : V (f + 2 + p) 1 = A 2 p := hVp p hp 1 (by omega)
  have e1 : sOf (p + 1) (fun p => decide (A 2 p = 0)) = if decide (A 2 p = 0) then sOf p (fun p => decide (A 2 p = 0)) ||| 2 ^ p else sOf p (fun p => decide (A 2 p = 0)) := rfl
  have e2 : sOf (p + 1) (fun p => decide (A 2 p = 1)) = if decide (A 2 p = 1) then sOf p (fun p => decide (A 2 p = 1)) ||| 2 ^ p else sOf p (fun p => decide (A 2 p = 1)) := rfl
  unfold brD at ih ⊢
  rw [e1, e2] at ih
  generalize sOf p (fun p => decide (A 2 p = 0)) = q0 at *
  generalize sOf p (fun p => decide (A 2 p = 1)) = q1 at *
  refine x_iload_n dX0_drawUp_16 rfl ?_
  refine x_aload_n dX0_drawUp_17 rfl ?_
  refine b_gio (r := al) (m := 5) dX0_drawUp_18 fX0_24 (by first | assumption | exact (hPR _ (by omega)).2) (fun _ _ _ => rfl) (by omega) ?_
  refine (show X _ _ 21 _ _ _ _ _ _ from ?_)
  refine X.val (b := A 0 3) (hV0 3 (by omega)) ?_
  refine y_icmp_ge 57 dX0_drawUp_21 (by decide) ⟨by omega, by omega⟩ ⟨by omega, by omega⟩ (fun h => ?_) (fun h => ?_)
  · omega
  refine x_aload_n dX0_drawUp_24 rfl ?_
  refine x_gr dX0_drawUp_25 fX0_21 (by first | assumption | exact (hPR _ (by omega)).2) (fun _ _ _ => rfl) (by first | assumption | exact (hPR _ (by omega)).2) ?_
  refine x_aload_n dX0_drawUp_28 rfl ?_
  refine x_gr dX0_drawUp_29 fX0_30 (by first | assumption | exact (hPR _ (by omega)).2) (fun _ _ _ => rfl) (by first | assumption | exact (hPR _ (by omega)).2) ?_
  refine x_iload_n dX0_drawUp_32 rfl ?_
  refine y_aald (p) dX0_drawUp_33 (by first | assumption | exact (hPR _ (by omega)).2) (by decide) (by first | rfl | omega) (by omega) (by decide) (by first | assumption | exact (hPR _ (by omega)).1) ?_
  refine y_iconst dX0_drawUp_34 ?_
  refine b_ialo (r := al) (m := 5) (1) dX0_drawUp_35 (by first | assumption | exact (hPR _ (by omega)).2) (by first | rfl | omega) (by omega) (by decide) (by omega) ?_
  refine (show X _ _ 36 _ _ _ _ _ _ from ?_)
  refine X.val v1 ?_
  refine y_if_ne 43 dX0_drawUp_36 (by decide) ⟨by omega, by omega⟩ (fun h1 => ?_) (fun h1 => ?_)
  · rw [if_neg (by simp; omega), if_pos (by simp; omega)] at ih
    refine y_iconst dX0_drawUp_43 ?_
    refine x_dup2 dX0_drawUp_44 rfl rfl ?_
    refine b_iald (r := al) (m := 5) (j := 4) (1) dX0_drawUp_45 (by first | assumption | exact (hPR _ (by omega)).2) (by first | rfl | omega) (by omega) (by decide) (by decide) ?_
    refine (show X _ _ 46 _ _ _ _ _ _ from ?_)
    refine X.val (b := ((q1 : Nat) : Int)) rfl ?_
    refine y_iconst dX0_drawUp_46 ?_
    refine x_iload_n dX0_drawUp_47 rfl ?_
    refine y_ishl (p) dX0_drawUp_48 (by first | rfl | omega) (by omega) ?_
    refine y_ior dX0_drawUp_49 ?_
    refine b_iast (r := al) (m := 5) (j := 4) (1) dX0_drawUp_50 (by first | assumption | exact (hPR _ (by omega)).2) (by first | rfl | omega) (by omega) (by decide) (by decide) ?_
    refine y_iinc dX0_drawUp_51 rfl (by decide) rfl rfl ?_
    refine x_goto 16 dX0_drawUp_54 (by decide) ?_
    refine (show X _ _ 16 _ _ _ _ _ _ from ?_)
    rw [u2_same]
    exact ih
  · rw [if_pos (by simp; omega), if_neg (by simp; omega)] at ih
    refine y_iconst dX0_drawUp_39 ?_
    refine x_goto 44 dX0_drawUp_40 (by decide) ?_
    refine x_dup2 dX0_drawUp_44 rfl rfl ?_
    refine b_iald (r := al) (m := 5) (j := 4) (0) dX0_drawUp_45 (by first | assumption | exact (hPR _ (by omega)).2) (by first | rfl | omega) (by omega) (by decide) (by decide) ?_
    refine (show X _ _ 46 _ _ _ _ _ _ from ?_)
    refine X.val (b := ((q0 : Nat) : Int)) rfl ?_
    refine y_iconst dX0_drawUp_46 ?_
    refine x_iload_n dX0_drawUp_47 rfl ?_
    refine y_ishl (p) dX0_drawUp_48 (by first | rfl | omega) (by omega) ?_
    refine y_ior dX0_drawUp_49 ?_
    refine b_iast (r := al) (m := 5) (j := 4) (0) dX0_drawUp_50 (by first | assumption | exact (hPR _ (by omega)).2) (by first | rfl | omega) (by omega) (by decide) (by decide) ?_
    refine y_iinc dX0_drawUp_51 rfl (by decide) rfl rfl ?_
    refine x_goto 16 dX0_drawUp_54 (by decide) ?_
    refine (show X _ _ 16 _ _ _ _ _ _ from ?_)
    rw [u2_commi (i := 1) (j := 0) (by decide), u2_same]
    exact ih
theorem yrs_ok (hA : VA A) : ∀ m, (∀ y, y < m → yrsD A B m D 1 y = (thS A B y : Nat) ∧ yrsD A B m D 2 y = (cnS A B y : Nat) ∧ ∀ p, p < fP A → yrsD A B m D 3 (10 * y + p) = hmS A y p) ∧ yrsD A B m D 4 0 = (brS A 0 : Nat) ∧ yrsD A B m D 4 1 = (brS A 1 : Nat)
  | 0 => ⟨fun y hy => absurd hy (Nat.not_lt_zero _), rfl, rfl⟩
  | m + 1 => by
    obtain ⟨h1, h2, h3⟩ := yrs_ok hA m
    have eP := fP10 hA
    have e : yrsD A B (m + 1) D = ehD A m (epD A B m (fP A) (yrsD A B m D)) := rfl
    rw [e]
    generalize yrsD A B m D = D0 at *
    have r1 : ehD A m (epD A B m (fP A) D0) 1 = u1 (D0 1) m (thS A B m : Nat) := rfl
    have r2 : ehD A m (epD A B m (fP A) D0) 2 = u1 (D0 2) m (cnS A B m : Nat) := rfl
    have r4 : ehD A m (epD A B m (fP A) D0) 4 = D0 4 := rfl
    refine ⟨fun y hy => ?_, by rw [r4]; exact h2, by rw [r4]; exact h3⟩
    rw [r1, r2]
    by_cases ey : y = m
    · subst ey
      refine ⟨u1_s, u1_s, fun p hp => ?_⟩
      exact r3_at hp
    · obtain ⟨g1, g2, g3⟩ := h1 y (by omega)
      rw [u1_n ey, u1_n ey]
      refine ⟨g1, g2, fun p hp => ?_⟩
      have : ehD A m (epD A B m (fP A) D0) 3 (10 * y + p) = D0 3 (10 * y + p) := by
        unfold ehD r3
        rw [u1_s, if_neg (by omega)]
        rfl
      rw [this]
      exact g3 p hp
/-- the almanac is drawn up -/
theorem drawn_AC (hA : VA A) : AC (pB V al 5 (yrsD A B (fY A) D)) al A B := by
  obtain ⟨h1, h2, h3⟩ := yrs_ok (A := A) (B := B) (D := D) hA (fY A)
  refine ⟨fun y hy => ⟨?_, ?_, fun p hp => ?_⟩, ?_, ?_⟩
  · rw [pB_at (by decide)]; exact (h1 y hy).1
  · rw [pB_at (by decide)]; exact (h1 y hy).2.1
  · rw [pB_at (by decide)]; exact (h1 y hy).2.2 p hp
  · rw [pB_at (by decide)]; exact h2
  · rw [pB_at (by decide)]; exact h3
end C9
section ROkS
variable {A B W : Nat → Nat → Int} {y : Nat}
theorem takeT_ok {who : Int} {m : Nat} (hA : VA A) (hw : -2 ≤ who ∧ who < A 0 3) (k1 : 0 ≤ W 0 1 ∧ W 0 1 ≤ 4) (k2 : 0 ≤ W 0 2 ∧ W 0 2 ≤ 65536) (k3 : -1 ≤ W 0 3 ∧ W 0 3 ≤ 9) (k4 : -1 ≤ W 0 4 ∧ W 0 4 ≤ 9) (k5 : 0 ≤ W 0 5) (k6 : 0 ≤ W 0 6 ∧ W 0 6 ≤ 1) (k7 : -1 ≤ W 0 7 ∧ W 0 7 < A 0 3) (k8 : ∀ p, p < fP A → 0 ≤ W 1 p ∧ W 1 p ≤ y) (k9 : ∀ p, p < fP A → -(m : Int) ≤ W 2 p ∧ W 2 p ≤ 9) (k10 : ∀ i, i < y → -2 ≤ W 4 i ∧ W 4 i < A 0 3) :
    let W' := takeT A W y who
    (0 ≤ W' 0 1 ∧ W' 0 1 ≤ 4) ∧ (0 ≤ W' 0 2 ∧ W' 0 2 ≤ 65536) ∧ (-1 ≤ W' 0 3 ∧ W' 0 3 ≤ 9) ∧ (-1 ≤ W' 0 4 ∧ W' 0 4 ≤ 9) ∧ 0 ≤ W' 0 5 ∧ (0 ≤ W' 0 6 ∧ W' 0 6 ≤ 1) ∧ (-1 ≤ W' 0 7 ∧ W' 0 7 < A 0 3) ∧ (∀ p, p < fP A → 0 ≤ W' 1 p ∧ W' 1 p ≤ ((y + 1 : Nat) : Int)) ∧ (∀ p, p < fP A → -((m + 1 : Nat) : Int) ≤ W' 2 p ∧ W' 2 p ≤ 9) ∧ (∀ i, i < y + 1 → -2 ≤ W' 4 i ∧ W' 4 i < A 0 3) := by
  intro W'
  have eP := fP10 hA
  have ta : ∀ j, j ≠ 6 → j ≠ 10 → tk1 W y who 0 j = W 0 j := fun j h h2 => by
    unfold tk1
    split
    · rw [u2_s, u1_n h]; rfl
    · rw [u2_s, u1_n h, u2_s, u1_n h2]; rfl
  have t6 : tk1 W y who 0 6 = 0 := rfl
  have t1 : tk1 W y who 1 = W 1 := by unfold tk1; split <;> rfl
  have t2 : tk1 W y who 2 = W 2 := by unfold tk1; split <;> rfl
  have t4 : tk1 W y who 4 = u1 (W 4) y who := by unfold tk1; split <;> rfl
  have hE : ∀ i, i < y + 1 → -2 ≤ u1 (W 4) y who i ∧ u1 (W 4) y who i < A 0 3 := fun i hi => by
    by_cases e : i = y
    · subst e; rw [u1_s]; exact hw
    · rw [u1_n e]; exact k10 i (by omega)
  by_cases hneg : 0 ≤ who
  · have eW : W' = tkT A (tk1 W y who) y who.toNat := if_pos hneg
    obtain ⟨p, rfl⟩ : ∃ p : Nat, who = (p : Int) := ⟨who.toNat, (Int.toNat_of_nonneg hneg).symm⟩
    rw [Int.toNat_natCast] at eW
    have b0 : ∀ j, j ≠ 7 → j ≠ 8 → tk2 A (tk1 W y p) y p 0 j = tk1 W y p 0 j := fun j h h2 => by
      show u1 (u1 (tk1 W y p 0) 7 p) 8 _ j = _
      rw [u1_n h2, u1_n h]
    have b7 : tk2 A (tk1 W y p) y p 0 7 = p := rfl
    have b1 : tk2 A (tk1 W y p) y p 1 = u1 (tk1 W y p 1) p (tk1 W y p 1 p + 1) := rfl
    have b2 : tk2 A (tk1 W y p) y p 2 = u1 (tk1 W y p 2) p (tk1 W y p 2 p - 1) := rfl
    have b4 : tk2 A (tk1 W y p) y p 4 = tk1 W y p 4 := rfl
    have c : ∀ a, a ≠ 3 → tk3 A (tk2 A (tk1 W y p) y p) p a = tk2 A (tk1 W y p) y p a := fun a h => by
      unfold tk3
      split
      · exact u2_n h
      · rfl
    have d1 : ∀ a, a ≠ 0 → tk4 (tk3 A (tk2 A (tk1 W y p) y p) p) p a = tk3 A (tk2 A (tk1 W y p) y p) p a := fun a h => by
      unfold tk4
      split
      · rfl
      · rw [u2_n h, u2_n h, u2_n h]
    have d0 : ∀ j, j ≠ 5 → j ≠ 6 → j ≠ 9 → tk4 (tk3 A (tk2 A (tk1 W y p) y p) p) p 0 j = tk3 A (tk2 A (tk1 W y p) y p) p 0 j := fun j h h2 h3 => by
      unfold tk4
      split
      · rfl
      · show u1 (u1 (u1 _ 5 _) 6 1) 9 _ j = _
        rw [u1_n h3, u1_n h2, u1_n h]
    have d5 : 0 ≤ tk4 (tk3 A (tk2 A (tk1 W y p) y p) p) p 0 5 := by
      unfold tk4
      split
      · rw [c 0 (by decide), b0 5 (by decide) (by decide), ta 5 (by decide) (by decide)]; exact k5
      · exact Int.natCast_nonneg _
    have d6 : 0 ≤ tk4 (tk3 A (tk2 A (tk1 W y p) y p) p) p 0 6 ∧ tk4 (tk3 A (tk2 A (tk1 W y p) y p) p) p 0 6 ≤ 1 := by
      unfold tk4
      split
      · rw [c 0 (by decide), b0 6 (by decide) (by decide), t6]; exact ⟨by decide, by decide⟩
      · exact ⟨by show (0 : Int) ≤ 1; decide, by show (1 : Int) ≤ 1; decide⟩
    have eT : tkT A (tk1 W y p) y p = tk4 (tk3 A (tk2 A (tk1 W y p) y p) p) p := rfl
    rw [eW, eT]
    refine ⟨?_, ?_, ?_, ?_, d5, d6, ?_, ?_, ?_, ?_⟩
    · rw [d0 1 (by decide) (by decide) (by decide), c 0 (by decide), b0 1 (by decide) (by decide), ta 1 (by decide) (by decide)]; exact k1
    · rw [d0 2 (by decide) (by decide) (by decide), c 0 (by decide), b0 2 (by decide) (by decide), ta 2 (by decide) (by decide)]; exact k2
    · rw [d0 3 (by decide) (by decide) (by decide), c 0 (by decide), b0 3 (by decide) (by decide), ta 3 (by decide) (by decide)]; exact k3
    · rw [d0 4 (by decide) (by decide) (by decide), c 0 (by decide), b0 4 (by decide) (by decide), ta 4 (by decide) (by decide)]; exact k4
    · rw [d0 7 (by decide) (by decide) (by decide), c 0 (by decide), b7]; omega
    · intro q hq
      have h8 := k8 q hq
      rw [d1 1 (by decide), c 1 (by decide), b1, t1]
      by_cases e : q = p
      · subst e; rw [u1_s]; omega
      · rw [u1_n e]; omega
    · intro q hq
      have h9 := k9 q hq
      rw [d1 2 (by decide), c 2 (by decide), b2, t2]
      by_cases e : q = p
      · subst e; rw [u1_s]; omega
      · rw [u1_n e]; omega
    · intro i hi
      rw [d1 4 (by decide), c 4 (by decide), b4, t4]
      exact hE i hi
  · have eW : W' = tk1 W y who := if_neg hneg
    rw [eW]
    refine ⟨?_, ?_, ?_, ?_, ?_, ?_, ?_, ?_, ?_, ?_⟩
    · rw [ta 1 (by decide) (by decide)]; exact k1
    · rw [ta 2 (by decide) (by decide)]; exact k2
    · rw [ta 3 (by decide) (by decide)]; exact k3
    · rw [ta 4 (by decide) (by decide)]; exact k4
    · rw [ta 5 (by decide) (by decide)]; exact k5
    · rw [t6]; exact ⟨by decide, by decide⟩
    · rw [ta 7 (by decide) (by decide)]; exact k7
    · intro q hq
      have := k8 q hq
      rw [t1]; omega
    · intro q hq
      have := k9 q hq
      rw [t2]; omega
    · intro i hi
      rw [t4]; exact hE i hi
end ROkS
