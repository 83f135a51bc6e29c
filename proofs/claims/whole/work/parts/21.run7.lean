/-! ===== all years of a run; how fair it is ===== -/
section RunAll
variable (A B W : Nat → Nat → Int)
def runTo (m : Nat) : Nat → Nat → Int := lp m (fun y W => passY A B W y) W
/-- most and least turns of those in a set -/
def spL (th m : Nat) : Int × Int := lp m (fun p s => if th.testBit p then (if s.1 < W 1 p then W 1 p else s.1, if W 1 p < s.2 then W 1 p else s.2) else s) (0, 1000000000)
def spread : Int := if rTh A B W (fY A - 1) = 0 then 0 else (spL W (rTh A B W (fY A - 1)) (fP A)).1 - (spL W (rTh A B W (fY A - 1)) (fP A)).2
end RunAll
section RunAllS
variable {A B W : Nat → Nat → Int} {y : Nat}
theorem passY_ok (hA : VA A) (hB : VB A B) (h : ROk A W y) : ROk A (passY A B W y) (y + 1) := by
  have hyb := yrWho_b (B := B) h hA
  have hsb := sold_b (y := y) (can := rCn A B W y) (who := yrWho A B W y) (W := yrW A B W y) hA hB hyb
  have es : ∀ a, a ≠ 3 → (sold A B y (rCn A B W y) (yrWho A B W y) (yrW A B W y)).2 a = yrW A B W y a := fun a h => sold_row a h
  obtain ⟨k1, k2, k3, k4, k5, k6, k7, k8, k9, k10⟩ := h
  refine takeT_ok (m := y) hA hsb ?_ ?_ ?_ ?_ ?_ ?_ ?_ (fun p hp => ?_) (fun p hp => ?_) (fun i hi => ?_)
  · rw [es 0 (by decide), yrW_row 0 1 (by decide)]; exact k1
  · rw [es 0 (by decide)]; exact yrW_seed k2
  · rw [es 0 (by decide), yrW_row 0 3 (by decide)]; exact k3
  · rw [es 0 (by decide), yrW_row 0 4 (by decide)]; exact k4
  · rw [es 0 (by decide), yrW_row 0 5 (by decide)]; exact k5
  · rw [es 0 (by decide), yrW_row 0 6 (by decide)]; exact k6
  · rw [es 0 (by decide), yrW_row 0 7 (by decide)]; exact k7
  · rw [es 1 (by decide), yrW_row 1 p (by omega)]; exact k8 p hp
  · rw [es 2 (by decide), yrW_row 2 p (by omega)]; exact k9 p hp
  · rw [es 4 (by decide), yrW_row 4 i (by omega)]; exact k10 i hi
theorem runTo_ok (hA : VA A) (hB : VB A B) (h : ROk A W 0) : ∀ m, ROk A (runTo A B W m) m
  | 0 => h
  | m + 1 => passY_ok hA hB (runTo_ok hA hB h m)
theorem rBeg_row {lw sd : Int} (m : Nat) : (∀ j, lp m (begS A) (beg0 W lw sd) 0 j = beg0 W lw sd 0 j) ∧ (∀ j, lp m (begS A) (beg0 W lw sd) 4 j = W 4 j) ∧ (∀ p, p < m → lp m (begS A) (beg0 W lw sd) 1 p = 0 ∧ lp m (begS A) (beg0 W lw sd) 2 p = A 4 p ∧ lp m (begS A) (beg0 W lw sd) 3 p = 0) := by
  induction m with
  | zero => exact ⟨fun _ => rfl, fun _ => rfl, fun p h => absurd h (Nat.not_lt_zero _)⟩
  | succ m ih =>
    obtain ⟨h0, h4, hp⟩ := ih
    rw [lp_s]
    generalize lp m (begS A) (beg0 W lw sd) = U at *
    refine ⟨fun j => h0 j, fun j => h4 j, fun p hpm => ?_⟩
    have r1 : begS A m U 1 = u1 (U 1) m 0 := rfl
    have r2 : begS A m U 2 = u1 (U 2) m (A 4 m) := rfl
    have r3 : begS A m U 3 = u1 (U 3) m 0 := rfl
    rw [r1, r2, r3]
    by_cases e : p = m
    · subst e; exact ⟨u1_s, u1_s, u1_s⟩
    · rw [u1_n e, u1_n e, u1_n e]; exact hp p (by omega)
/-- a run that has begun -/
theorem rBeg_ok {lw sd : Int} (hA : VA A) (hl : 0 ≤ lw ∧ lw ≤ 4) (hs : 0 ≤ sd ∧ sd ≤ 65536) : ROk A (rBeg A W lw sd) 0 := by
  obtain ⟨h0, h4, hp⟩ := rBeg_row (A := A) (W := W) (lw := lw) (sd := sd) (fP A)
  have e : rBeg A W lw sd = lp (fP A) (begS A) (beg0 W lw sd) := rfl
  have hAp := hA.2.2.2.2.2.2.2.2.2.1
  have h3 := hA.2.2.2.1
  rw [e]
  refine ⟨?_, ?_, ?_, ?_, ?_, ?_, ?_, fun p hp1 => ?_, fun p hp1 => ?_, fun i hi => absurd hi (Nat.not_lt_zero _)⟩
  · rw [h0]; exact hl
  · rw [h0]; exact hs
  · rw [h0]; exact ⟨by show (-1 : Int) ≤ -1; decide, by show (-1 : Int) ≤ 9; decide⟩
  · rw [h0]; exact ⟨by show (-1 : Int) ≤ -1; decide, by show (-1 : Int) ≤ 9; decide⟩
  · rw [h0]; show (0 : Int) ≤ 0; decide
  · rw [h0]; exact ⟨by show (0 : Int) ≤ 0; decide, by show (0 : Int) ≤ 1; decide⟩
  · rw [h0]; exact ⟨by show (-1 : Int) ≤ -1; decide, by show (-1 : Int) < A 0 3; omega⟩
  · rw [(hp p hp1).1]; exact ⟨by decide, by decide⟩
  · have := hAp p hp1
    rw [(hp p hp1).2.1]; omega
end RunAllS
section C10
variable {g : GG} {T : Nat → Nat × Nat} {V W : Nat → Nat → Int} {R : Nat → Nat → Option Nat} {J : Nat → Nat → Int64} {z k n : Nat} {A B : Nat → Nat → Int} {r w f nw al : Nat}
theorem c_passYears (hr : RS T R r w) (hw : WS T R w f nw al) (hC : WC V f nw al A B) (hap : AP r w f nw al) (hk : ROk A W 0) : X g mX8_passYears 0 [.ref r, jk] [] (T, iV (pB V r 5 W), R, J, z) k n (rV (T, iV (pB V r 5 (runTo A B W (fY A))), R, J, z)) := by
  have hA := hC.2.2.2.1
  have hB := hC.2.2.2.2
  have hpy := fun W y hy hk => c_passYear (g := g) (J := J) (z := z) (k := 0) (n := 0) (W := W) (y := y) hr hw hC hap hy hk
  obtain ⟨⟨r0, r1⟩, -⟩ := hr
  obtain ⟨⟨w0, w1, w2, w3⟩, ⟨f0, -⟩, -, -⟩ := hw
  obtain ⟨⟨hV0, -⟩, -, -, -, -⟩ := hC
  obtain ⟨p1, p2, p3, p4⟩ := hap
  have eY := fY24 hA
  have hPR : True := trivial
  refine y_iconst dX8_passYears_0 ?_
  refine x_istore_n dX8_passYears_1 (by decide) rfl rfl ?_
  refine (show X _ _ 2 _ _ _ _ _ _ from ?_)
  refine loopN (P := fun y => X g mX8_passYears 2 [.ref r, .int (iI (y : Int))] [] (T, iV (pB V r 5 (runTo A B W y)), R, J, z) k n (rV (T, iV (pB V r 5 (runTo A B W (fY A))), R, J, z))) (fY A) ?_ (fun y hy ih => ?_)
  · refine x_iload_n dX8_passYears_2 rfl ?_
    refine x_aload_n dX8_passYears_3 rfl ?_
    refine x_gr dX8_passYears_4 fX8_56 (by first | assumption | exact (hPR _ (by omega)).2) (fun _ _ _ => rfl) (by first | assumption | exact (hPR _ (by omega)).2) ?_
    refine x_gr dX8_passYears_7 fX8_60 (by first | assumption | exact (hPR _ (by omega)).2) (fun _ _ _ => rfl) (by first | assumption | exact (hPR _ (by omega)).2) ?_
    refine b_gio (r := r) (m := 5) dX8_passYears_10 fX8_75 (by first | assumption | exact (hPR _ (by omega)).2) (fun _ _ _ => rfl) (by omega) ?_
    refine (show X _ _ 13 _ _ _ _ _ _ from ?_)
    refine X.val (b := A 0 0) (hV0 0 (by omega)) ?_
    refine y_icmp_ge 27 dX8_passYears_13 (by decide) ⟨by omega, by omega⟩ ⟨by omega, by omega⟩ (fun h => ?_) (fun h => ?_)
    · exact x_return dX8_passYears_27 rfl ⟨rfl, rfl⟩
    · omega
  refine x_iload_n dX8_passYears_2 rfl ?_
  refine x_aload_n dX8_passYears_3 rfl ?_
  refine x_gr dX8_passYears_4 fX8_56 (by first | assumption | exact (hPR _ (by omega)).2) (fun _ _ _ => rfl) (by first | assumption | exact (hPR _ (by omega)).2) ?_
  refine x_gr dX8_passYears_7 fX8_60 (by first | assumption | exact (hPR _ (by omega)).2) (fun _ _ _ => rfl) (by first | assumption | exact (hPR _ (by omega)).2) ?_
  refine b_gio (r := r) (m := 5) dX8_passYears_10 fX8_75 (by first | assumption | exact (hPR _ (by omega)).2) (fun _ _ _ => rfl) (by omega) ?_
  refine (show X _ _ 13 _ _ _ _ _ _ from ?_)
  refine X.val (b := A 0 0) (hV0 0 (by omega)) ?_
  refine y_icmp_ge 27 dX8_passYears_13 (by decide) ⟨by omega, by omega⟩ ⟨by omega, by omega⟩ (fun h => ?_) (fun h => ?_)
  · omega
  refine x_aload_n dX8_passYears_16 rfl ?_
  refine x_iload_n dX8_passYears_17 rfl ?_
  refine (show X _ _ 18 _ _ _ _ _ _ from ?_)
  refine x_callV (As := [_]) (mc := 0) (ms := 0) (z := mX8_passYear) (ci := 8) dX8_passYears_18 lX8_78 oX8_passYear (by decide) (by first | assumption | exact (hPR _ (by omega)).2) rfl rfl (Nat.le_of_ble_eq_true rfl) (Nat.le_of_ble_eq_true rfl) rfl (hpy _ y hy (runTo_ok hA hB hk y)) (k_V ?_)
  refine (show X _ _ 21 _ _ _ _ _ _ from ?_)
  refine y_iinc dX8_passYears_21 rfl (by decide) rfl rfl ?_
  refine x_goto 2 dX8_passYears_24 (by decide) ?_
  refine (show X _ _ 2 _ _ _ _ _ _ from ?_)
  exact ih
theorem sp_b {th : Nat} (hW : ∀ p, p < fP A → 0 ≤ W 1 p ∧ W 1 p ≤ 24) : ∀ m, m ≤ fP A → (0 ≤ (spL W th m).1 ∧ (spL W th m).1 ≤ 24) ∧ (0 ≤ (spL W th m).2 ∧ (spL W th m).2 ≤ 1000000000)
  | 0, _ => ⟨⟨by show (0 : Int) ≤ 0; decide, by show (0 : Int) ≤ 24; decide⟩, ⟨by show (0 : Int) ≤ 1000000000; decide, by show (1000000000 : Int) ≤ 1000000000; decide⟩⟩
  | m + 1, h => by
    obtain ⟨h1, h2⟩ := sp_b (th := th) hW m (by omega)
    have hw := hW m (by omega)
    show (0 ≤ (if th.testBit m then (if (spL W th m).1 < W 1 m then W 1 m else (spL W th m).1, if W 1 m < (spL W th m).2 then W 1 m else (spL W th m).2) else spL W th m).1 ∧ (if th.testBit m then (if (spL W th m).1 < W 1 m then W 1 m else (spL W th m).1, if W 1 m < (spL W th m).2 then W 1 m else (spL W th m).2) else spL W th m).1 ≤ 24) ∧ _
    have e : spL W th (m + 1) = if th.testBit m then (if (spL W th m).1 < W 1 m then W 1 m else (spL W th m).1, if W 1 m < (spL W th m).2 then W 1 m else (spL W th m).2) else spL W th m := rfl
    rw [e]
    split
    · dsimp only
      constructor
      · split <;> omega
      · split <;> omega
    · exact ⟨h1, h2⟩
theorem c_spread (hr : RS T R r w) (hw : WS T R w f nw al) (hC : WC V f nw al A B) (hap : AP r w f nw al) (hd : 0 ≤ W 0 5) (hY : 1 ≤ A 0 0) (hW : ∀ p, p < fP A → 0 ≤ W 1 p ∧ W 1 p ≤ 24) : X g mX8_spread 0 [.ref r, jk, jk, jk, jk, jk] [] (T, iV (pB V r 5 W), R, J, z) k n (rI (iI (spread A B W)) (T, iV (pB V r 5 W), R, J, z)) := by
  have hA := hC.2.2.2.1
  have eP := fP10 hA
  have eY := fY24 hA
  have hth := c_whoIsThere (g := g) (J := J) (z := z) (k := 0) (n := 0) (y := fY A - 1) hr hw hC hap hd (by omega)
  have htl : rTh A B W (fY A - 1) < 1024 := andn_lt (thS_lt hA _)
  obtain ⟨⟨r0, r1⟩, ⟨r2, r3, r4, r5⟩, ⟨s1, s2, s3, s4⟩⟩ := hr
  obtain ⟨⟨w0, w1, w2, w3⟩, ⟨f0, -⟩, -, -⟩ := hw
  obtain ⟨⟨hV0, -⟩, -, -, -, -⟩ := hC
  obtain ⟨p1, p2, p3, p4⟩ := hap
  have hPR : True := trivial
  unfold spread
  generalize rTh A B W (fY A - 1) = th at *
  refine x_aload_n dX8_spread_0 rfl ?_
  refine x_gr dX8_spread_1 fX8_56 (by first | assumption | exact (hPR _ (by omega)).2) (fun _ _ _ => rfl) (by first | assumption | exact (hPR _ (by omega)).2) ?_
  refine x_gr dX8_spread_4 fX8_60 (by first | assumption | exact (hPR _ (by omega)).2) (fun _ _ _ => rfl) (by first | assumption | exact (hPR _ (by omega)).2) ?_
  refine b_gio (r := r) (m := 5) dX8_spread_7 fX8_75 (by first | assumption | exact (hPR _ (by omega)).2) (fun _ _ _ => rfl) (by omega) ?_
  refine (show X _ _ 10 _ _ _ _ _ _ from ?_)
  refine X.val (b := A 0 0) (hV0 0 (by omega)) ?_
  refine y_iconst dX8_spread_10 ?_
  refine y_isub dX8_spread_11 ?_
  refine (show X _ _ 12 _ _ _ _ _ _ from ?_)
  refine X.val (b := ((fY A - 1 : Nat) : Int)) (by omega) ?_
  refine x_istore_n dX8_spread_12 (by decide) rfl rfl ?_
  refine x_iload_n dX8_spread_13 rfl ?_
  refine (show X _ _ 14 _ _ _ _ _ _ from ?_)
  refine y_if_ge 21 dX8_spread_14 (by decide) ⟨by omega, by omega⟩ (fun h1 => ?_) (fun h1 => ?_)
  rotate_left
  · omega
  refine x_aload_n dX8_spread_21 rfl ?_
  refine x_iload_n dX8_spread_22 rfl ?_
  refine (show X _ _ 23 _ _ _ _ _ _ from ?_)
  refine x_callV (As := [_]) (mc := 0) (ms := 0) (z := mX8_whoIsThere) (ci := 8) dX8_spread_23 lX8_144 oX8_whoIsThere (by decide) (by first | assumption | exact (hPR _ (by omega)).2) rfl rfl (Nat.le_of_ble_eq_true rfl) (Nat.le_of_ble_eq_true rfl) rfl (hth) (k_I ?_)
  refine (show X _ _ 26 _ _ _ _ _ _ from ?_)
  refine x_istore_n dX8_spread_26 (by decide) rfl rfl ?_
  refine x_iload_n dX8_spread_27 rfl ?_
  refine (show X _ _ 28 _ _ _ _ _ _ from ?_)
  refine y_if_ne 33 dX8_spread_28 (by decide) ⟨by omega, by omega⟩ (fun h2 => ?_) (fun h2 => ?_)
  rotate_left
  · rw [if_pos (by omega)]
    refine y_iconst dX8_spread_31 ?_
    refine (show X _ _ 32 _ _ _ _ _ _ from ?_)
    exact x_ireturn dX8_spread_32 rfl ⟨rfl, rfl⟩
  rw [if_neg (by omega)]
  refine y_iconst dX8_spread_33 ?_
  refine x_istore_n dX8_spread_34 (by decide) rfl rfl ?_
  refine y_ldc (1000000000) dX8_spread_35 kX8_134 rfl ?_
  refine x_istore dX8_spread_37 (by decide) rfl rfl ?_
  refine y_iconst dX8_spread_39 ?_
  refine x_istore dX8_spread_40 (by decide) rfl rfl ?_
  refine (show X _ _ 42 _ _ _ _ _ _ from ?_)
  refine loopN (P := fun p => X g mX8_spread 42 [.ref r, .int (iI ((fY A - 1 : Nat) : Int)), .int (iI (th : Nat)), .int (iI (spL W th p).1), .int (iI (spL W th p).2), .int (iI (p : Int))] [] (T, iV (pB V r 5 W), R, J, z) k n (rI (iI ((spL W th (fP A)).1 - (spL W th (fP A)).2)) (T, iV (pB V r 5 W), R, J, z))) (fP A) ?_ (fun p hp ih => ?_)
  · refine x_iload dX8_spread_42 rfl ?_
    refine x_aload_n dX8_spread_44 rfl ?_
    refine x_gr dX8_spread_45 fX8_56 (by first | assumption | exact (hPR _ (by omega)).2) (fun _ _ _ => rfl) (by first | assumption | exact (hPR _ (by omega)).2) ?_
    refine x_gr dX8_spread_48 fX8_60 (by first | assumption | exact (hPR _ (by omega)).2) (fun _ _ _ => rfl) (by first | assumption | exact (hPR _ (by omega)).2) ?_
    refine b_gio (r := r) (m := 5) dX8_spread_51 fX8_66 (by first | assumption | exact (hPR _ (by omega)).2) (fun _ _ _ => rfl) (by omega) ?_
    refine (show X _ _ 54 _ _ _ _ _ _ from ?_)
    refine X.val (b := A 0 3) (hV0 3 (by omega)) ?_
    refine y_icmp_ge 98 dX8_spread_54 (by decide) ⟨by omega, by omega⟩ ⟨by omega, by omega⟩ (fun h => ?_) (fun h => ?_)
    · refine x_iload_n dX8_spread_98 rfl ?_
      refine x_iload dX8_spread_99 rfl ?_
      refine y_isub dX8_spread_101 ?_
      refine (show X _ _ 102 _ _ _ _ _ _ from ?_)
      exact x_ireturn dX8_spread_102 rfl ⟨rfl, rfl⟩
    · omega
  have hsb := sp_b (th := th) hW p (by omega)
  have hwp := hW p hp
  have e : spL W th (p + 1) = if th.testBit p then (if (spL W th p).1 < W 1 p then W 1 p else (spL W th p).1, if W 1 p < (spL W th p).2 then W 1 p else (spL W th p).2) else spL W th p := rfl
  rw [e] at ih
  generalize spL W th p = q at *
  obtain ⟨q1, q2⟩ := q
  dsimp only at *
  refine x_iload dX8_spread_42 rfl ?_
  refine x_aload_n dX8_spread_44 rfl ?_
  refine x_gr dX8_spread_45 fX8_56 (by first | assumption | exact (hPR _ (by omega)).2) (fun _ _ _ => rfl) (by first | assumption | exact (hPR _ (by omega)).2) ?_
  refine x_gr dX8_spread_48 fX8_60 (by first | assumption | exact (hPR _ (by omega)).2) (fun _ _ _ => rfl) (by first | assumption | exact (hPR _ (by omega)).2) ?_
  refine b_gio (r := r) (m := 5) dX8_spread_51 fX8_66 (by first | assumption | exact (hPR _ (by omega)).2) (fun _ _ _ => rfl) (by omega) ?_
  refine (show X _ _ 54 _ _ _ _ _ _ from ?_)
  refine X.val (b := A 0 3) (hV0 3 (by omega)) ?_
  refine y_icmp_ge 98 dX8_spread_54 (by decide) ⟨by omega, by omega⟩ ⟨by omega, by omega⟩ (fun h => ?_) (fun h => ?_)
  · omega
  refine x_iload_n dX8_spread_57 rfl ?_
  refine x_iload dX8_spread_58 rfl ?_
  refine (show X _ _ 60 _ _ _ _ _ _ from ?_)
  refine x_callS (As := [_, _]) (mc := 0) (ms := 0) (z := mX10_has) dX8_spread_60 lX8_115 oX10_has (by decide) rfl (Nat.le_of_ble_eq_true rfl) (Nat.le_of_ble_eq_true rfl) rfl (c_has g th p _ 0 0 (by omega) (by omega)) (k_I ?_)
  refine (show X _ _ 63 _ _ _ _ _ _ from ?_)
  refine y_ifb_eq 92 dX8_spread_63 (by decide) (fun hb => ?_) (fun hb => ?_)
  · rw [if_neg (by rw [hb]; decide)] at ih
    refine y_iinc dX8_spread_92 rfl (by decide) rfl rfl ?_
    refine x_goto 42 dX8_spread_95 (by decide) ?_
    refine (show X _ _ 42 _ _ _ _ _ _ from ?_)
    exact ih
  rw [if_pos hb] at ih
  refine x_iload_n dX8_spread_66 rfl ?_
  refine x_aload_n dX8_spread_67 rfl ?_
  refine x_gr dX8_spread_68 fX8_43 (by first | assumption | exact (hPR _ (by omega)).2) (fun _ _ _ => rfl) (by first | assumption | exact (hPR _ (by omega)).2) ?_
  refine x_iload dX8_spread_71 rfl ?_
  refine b_iald (r := r) (m := 5) (j := 1) (p) dX8_spread_73 (by first | assumption | exact (hPR _ (by omega)).2) (by first | rfl | omega) (by omega) (by decide) (by decide) ?_
  refine x_mmax dX8_spread_74 lX8_176 mmaxS mathI mmaxC (by decide) (Nat.le_of_ble_eq_true rfl) ?_
  refine (show X _ _ 77 _ _ _ _ _ _ from ?_)
  have em : (if iI q1 < iI (W 1 p) then iI (W 1 p) else iI q1) = iI (if q1 < W 1 p then W 1 p else q1) := by
    by_cases hh : q1 < W 1 p
    · rw [if_pos hh, if_pos ((iI_lt ⟨by omega, by omega⟩ ⟨by omega, by omega⟩).mpr hh)]
    · rw [if_neg hh, if_neg (fun h => hh ((iI_lt ⟨by omega, by omega⟩ ⟨by omega, by omega⟩).mp h))]
  rw [em]
  refine x_istore_n dX8_spread_77 (by decide) rfl rfl ?_
  refine x_iload dX8_spread_78 rfl ?_
  refine x_aload_n dX8_spread_80 rfl ?_
  refine x_gr dX8_spread_81 fX8_43 (by first | assumption | exact (hPR _ (by omega)).2) (fun _ _ _ => rfl) (by first | assumption | exact (hPR _ (by omega)).2) ?_
  refine x_iload dX8_spread_84 rfl ?_
  refine b_iald (r := r) (m := 5) (j := 1) (p) dX8_spread_86 (by first | assumption | exact (hPR _ (by omega)).2) (by first | rfl | omega) (by omega) (by decide) (by decide) ?_
  refine x_mmin dX8_spread_87 lX8_181 mminS mathI mminC (by decide) (Nat.le_of_ble_eq_true rfl) ?_
  refine (show X _ _ 90 _ _ _ _ _ _ from ?_)
  have en : (if iI (W 1 p) < iI q2 then iI (W 1 p) else iI q2) = iI (if W 1 p < q2 then W 1 p else q2) := by
    by_cases hh : W 1 p < q2
    · rw [if_pos hh, if_pos ((iI_lt ⟨by omega, by omega⟩ ⟨by omega, by omega⟩).mpr hh)]
    · rw [if_neg hh, if_neg (fun h => hh ((iI_lt ⟨by omega, by omega⟩ ⟨by omega, by omega⟩).mp h))]
  rw [en]
  refine x_istore dX8_spread_90 (by decide) rfl rfl ?_
  refine y_iinc dX8_spread_92 rfl (by decide) rfl rfl ?_
  refine x_goto 42 dX8_spread_95 (by decide) ?_
  refine (show X _ _ 42 _ _ _ _ _ _ from ?_)
  exact ih
end C10
