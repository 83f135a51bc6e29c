/-! ===== Run: what is bought, votes, by law, a year, all years ===== -/
section RunY
variable (A B : Nat → Nat → Int)
def sdT (y can : Nat) (i : Nat) (s : Int × (Nat → Nat → Int)) : Int × (Nat → Nat → Int) := if A 12 i = y ∧ A 13 i = s.1 ∧ can.testBit (A 14 i).toNat = true then (A 14 i, payW s.2 s.1.toNat (A 14 i).toNat (A 15 i)) else s
def sdN (y can : Nat) (i : Nat) (s : Int × (Nat → Nat → Int)) : Int × (Nat → Nat → Int) := if B 2 (4 * i) = y ∧ B 2 (4 * i + 1) = s.1 ∧ can.testBit (B 2 (4 * i + 2)).toNat = true then (B 2 (4 * i + 2), payW s.2 s.1.toNat (B 2 (4 * i + 2)).toNat (B 2 (4 * i + 3))) else s
def sold (y can : Nat) (who : Int) (W : Nat → Nat → Int) : Int × (Nat → Nat → Int) := if who < 0 then (who, W) else lp (B 0 2).toNat (sdN B y can) (lp (fBu A) (sdT A y can) (who, W))
variable (W : Nat → Nat → Int)
def vLeft (can : Nat) : Int := byAge A (fewest A W (can &&& brS A 0)) 1
def vRight (can : Nat) : Int := byAge A (fewest A W (can &&& brS A 1)) 1
def voted (y can : Nat) : Int :=
  if vLeft A W can < 0 ∨ vRight A W can < 0 then (if vLeft A W can < 0 then vRight A W can else vLeft A W can)
  else if wOf A (rTh A B W y &&& brS A 1) = wOf A (rTh A B W y &&& brS A 0) then (if vLeft A W can < vRight A W can then vLeft A W can else vRight A W can)
  else if wOf A (rTh A B W y &&& brS A 0) < wOf A (rTh A B W y &&& brS A 1) then vLeft A W can else vRight A W can
def byLawV (y : Nat) : Int :=
  if W 0 1 = 0 then rRound A W (rCn A B W y) else if W 0 1 = 1 then byAge A (fewest A W (rCn A B W y)) 1 else if W 0 1 = 2 then byAge A (fewest A W (rCn A B W y)) (-1)
  else if W 0 1 = 3 then drawn A W (fewest A W (rCn A B W y)) else voted A B W y (rCn A B W y)
def byLawW (y : Nat) : Nat → Nat → Int := if W 0 1 = 3 then drawnW W (fewest A W (rCn A B W y)) else W
/-- who is it ahead of what is bought, and the run then -/
def yrWho (y : Nat) : Int := if rComes A B W y = -3 then inPl (byLawW A B W y) (rCn A B W y) (byLawV A B W y) else rComes A B W y
def yrW (y : Nat) : Nat → Nat → Int := if rComes A B W y = -3 then byLawW A B W y else W
def passY (y : Nat) : Nat → Nat → Int := takeT A (sold A B y (rCn A B W y) (yrWho A B W y) (yrW A B W y)).2 y (sold A B y (rCn A B W y) (yrWho A B W y) (yrW A B W y)).1
/-- what holds of a run ahead of year y -/
def ROk (y : Nat) : Prop := (0 ≤ W 0 1 ∧ W 0 1 ≤ 4) ∧ (0 ≤ W 0 2 ∧ W 0 2 ≤ 65536) ∧ (-1 ≤ W 0 3 ∧ W 0 3 ≤ 9) ∧ (-1 ≤ W 0 4 ∧ W 0 4 ≤ 9) ∧ 0 ≤ W 0 5 ∧ (0 ≤ W 0 6 ∧ W 0 6 ≤ 1) ∧ (-1 ≤ W 0 7 ∧ W 0 7 < A 0 3) ∧ (∀ p, p < fP A → 0 ≤ W 1 p ∧ W 1 p ≤ y) ∧ (∀ p, p < fP A → -(y : Int) ≤ W 2 p ∧ W 2 p ≤ 9) ∧ (∀ i, i < y → -2 ≤ W 4 i ∧ W 4 i < A 0 3)
end RunY
section C6
variable {g : GG} {T : Nat → Nat × Nat} {V W : Nat → Nat → Int} {R : Nat → Nat → Option Nat} {J : Nat → Nat → Int64} {z k n : Nat} {A B : Nat → Nat → Int} {r w f nw al : Nat}
theorem sdT_b {y can : Nat} {who : Int} (hA : VA A) (h0 : 0 ≤ who ∧ who < A 0 3) : ∀ i, i ≤ fBu A → 0 ≤ (lp i (sdT A y can) (who, W)).1 ∧ (lp i (sdT A y can) (who, W)).1 < A 0 3
  | 0, _ => h0
  | i + 1, hi => by
    have ih := sdT_b (y := y) (can := can) hA h0 i (by omega)
    have hb := hA.2.2.2.2.2.2.2.2.2.2.2.1 i (by omega)
    rw [lp_s, sdT]
    split
    · exact ⟨hb.2.2.1.1, hb.2.2.1.2⟩
    · exact ih
theorem sdN_b {y can : Nat} {s : Int × (Nat → Nat → Int)} (hB : VB A B) (h0 : 0 ≤ s.1 ∧ s.1 < A 0 3) : ∀ i, i ≤ (B 0 2).toNat → 0 ≤ (lp i (sdN B y can) s).1 ∧ (lp i (sdN B y can) s).1 < A 0 3
  | 0, _ => h0
  | i + 1, hi => by
    have ih := sdN_b (y := y) (can := can) hB h0 i (by omega)
    have hb := hB.2.2.2.2 i (by omega)
    rw [lp_s, sdN]
    split
    · exact ⟨hb.2.2.1.1, hb.2.2.1.2⟩
    · exact ih
theorem sold_b {y can : Nat} {who : Int} (hA : VA A) (hB : VB A B) (h0 : -2 ≤ who ∧ who < A 0 3) : -2 ≤ (sold A B y can who W).1 ∧ (sold A B y can who W).1 < A 0 3 := by
  unfold sold
  split
  · exact h0
  · have h1 := sdT_b (y := y) (can := can) (W := W) hA ⟨by omega, h0.2⟩ (fBu A) (Nat.le_refl _)
    have h2 := sdN_b (y := y) (can := can) hB h1 (B 0 2).toNat (Nat.le_refl _)
    omega
theorem c_soldTo {y : Nat} {who : Int} (hr : RS T R r w) (hw : WS T R w f nw al) (hC : WC V f nw al A B) (hap : AP r w f nw al) (hd : 0 ≤ W 0 5) (hy : y < fY A) (hwho : -2 ≤ who ∧ who < A 0 3) : X g mX8_soldTo 0 [.ref r, .int (iI (y : Int)), .int (iI who), jk, jk, jk, jk, jk, jk] [] (T, iV (pB V r 5 W), R, J, z) k n (rI (iI (sold A B y (rCn A B W y) who W).1) (T, iV (pB V r 5 (sold A B y (rCn A B W y) who W).2), R, J, z)) := by
  have hcan := c_whoCan (g := g) (J := J) (z := z) (k := 0) (n := 0) hr hw hC hap hd hy
  have hpay := fun W s b pr hs hb => c_pay (g := g) (V := V) (J := J) (z := z) (k := 0) (n := 0) (W := W) (s := s) (b := b) (pr := pr) hr hs hb
  obtain ⟨⟨r0, r1⟩, ⟨r2, r3, r4, r5⟩, ⟨s1, s2, s3, s4⟩⟩ := hr
  obtain ⟨⟨w0, w1, w2, w3⟩, ⟨f0, ⟨f9, f10, f11, -⟩, ⟨ft1, ft12, ft25, -⟩, hPR, -, hBR, -⟩, ⟨n0, n1, n2, n3, n4⟩, -⟩ := hw
  obtain ⟨⟨hV0, hVp, -, hVb, -⟩, ⟨hN0, -, hN2⟩, -, hA, hB⟩ := hC
  obtain ⟨p1, p2, p3, p4⟩ := hap
  have eP := fP10 hA
  have eY := fY24 hA
  have hA5 := hA.2.2.2.2.2.1
  have eB : ((fBu A : Nat) : Int) = A 0 5 := Int.toNat_of_nonneg hA5.1
  have hB2 := hB.2.2.1
  have eN : (((B 0 2).toNat : Nat) : Int) = B 0 2 := Int.toNat_of_nonneg hB2.1
  have hcl : rCn A B W y < 1024 := andn_lt (cnS_lt hA y)
  generalize hcn : rCn A B W y = cn at *
  have hAb := hA.2.2.2.2.2.2.2.2.2.2.2.1
  have hBb := hB.2.2.2.2
  refine x_iload_n dX8_soldTo_0 rfl ?_
  refine x_istore_n dX8_soldTo_1 (by decide) rfl rfl ?_
  refine x_aload_n dX8_soldTo_2 rfl ?_
  refine x_iload_n dX8_soldTo_3 rfl ?_
  refine (show X _ _ 4 _ _ _ _ _ _ from ?_)
  refine x_callV (As := [_]) (mc := 0) (ms := 0) (z := mX8_whoCan) (ci := 8) dX8_soldTo_4 lX8_89 oX8_whoCan (by decide) (by first | assumption | exact (hPR _ (by omega)).2 | exact (hBR _ (by omega)).2) rfl rfl (Nat.le_of_ble_eq_true rfl) (Nat.le_of_ble_eq_true rfl) rfl (hcan) (k_I ?_)
  refine (show X _ _ 7 _ _ _ _ _ _ from ?_)
  refine x_istore dX8_soldTo_7 (by decide) rfl rfl ?_
  refine x_aload_n dX8_soldTo_9 rfl ?_
  refine x_gr dX8_soldTo_10 fX8_56 (by first | assumption | exact (hPR _ (by omega)).2 | exact (hBR _ (by omega)).2) (fun _ _ _ => rfl) (by first | assumption | exact (hPR _ (by omega)).2 | exact (hBR _ (by omega)).2) ?_
  refine x_gr dX8_soldTo_13 fX8_60 (by first | assumption | exact (hPR _ (by omega)).2 | exact (hBR _ (by omega)).2) (fun _ _ _ => rfl) (by first | assumption | exact (hPR _ (by omega)).2 | exact (hBR _ (by omega)).2) ?_
  refine x_astore dX8_soldTo_16 (by decide) rfl rfl ?_
  refine y_iconst dX8_soldTo_18 ?_
  refine x_istore dX8_soldTo_19 (by decide) rfl rfl ?_
  refine (show X _ _ 21 _ _ _ _ _ _ from ?_)
  unfold sold
  by_cases hneg : who < 0
  · rw [if_pos hneg]
    have mid : X g mX8_soldTo 93 [.ref r, .int (iI (y : Int)), .int (iI who), .int (iI who), .int (iI (cn : Nat)), .ref f, .int (iI 0), jk, jk] [] (T, iV (pB V r 5 W), R, J, z) k n (rI (iI who) (T, iV (pB V r 5 W), R, J, z)) := by
      refine x_aload_n dX8_soldTo_93 rfl ?_
      refine x_gr dX8_soldTo_94 fX8_56 (by first | assumption | exact (hPR _ (by omega)).2 | exact (hBR _ (by omega)).2) (fun _ _ _ => rfl) (by first | assumption | exact (hPR _ (by omega)).2 | exact (hBR _ (by omega)).2) ?_
      refine x_gr dX8_soldTo_97 fX8_160 (by first | assumption | exact (hPR _ (by omega)).2 | exact (hBR _ (by omega)).2) (fun _ _ _ => rfl) (by first | assumption | exact (hPR _ (by omega)).2 | exact (hBR _ (by omega)).2) ?_
      refine x_gr dX8_soldTo_100 fX8_164 (by first | assumption | exact (hPR _ (by omega)).2 | exact (hBR _ (by omega)).2) (fun _ _ _ => rfl) (by first | assumption | exact (hPR _ (by omega)).2 | exact (hBR _ (by omega)).2) ?_
      refine x_astore dX8_soldTo_103 (by decide) rfl rfl ?_
      refine y_iconst dX8_soldTo_105 ?_
      refine x_istore dX8_soldTo_106 (by decide) rfl rfl ?_
      refine x_iload dX8_soldTo_108 rfl ?_
      refine (show X _ _ 110 _ _ _ _ _ _ from ?_)
      refine x_aload_n dX8_soldTo_110 rfl ?_
      refine x_gr dX8_soldTo_111 fX8_56 (by first | assumption | exact (hPR _ (by omega)).2 | exact (hBR _ (by omega)).2) (fun _ _ _ => rfl) (by first | assumption | exact (hPR _ (by omega)).2 | exact (hBR _ (by omega)).2) ?_
      refine x_gr dX8_soldTo_114 fX8_160 (by first | assumption | exact (hPR _ (by omega)).2 | exact (hBR _ (by omega)).2) (fun _ _ _ => rfl) (by first | assumption | exact (hPR _ (by omega)).2 | exact (hBR _ (by omega)).2) ?_
      refine b_gio (r := r) (m := 5) dX8_soldTo_117 fX8_168 (by first | assumption | exact (hPR _ (by omega)).2 | exact (hBR _ (by omega)).2) (fun _ _ _ => rfl) (by omega) ?_
      refine (show X _ _ 120 _ _ _ _ _ _ from ?_)
      refine X.val (b := B 0 2) (hN0 2 (by omega)) ?_
      refine y_icmp_ge 196 dX8_soldTo_120 (by decide) ⟨by omega, by omega⟩ ⟨by omega, by omega⟩ (fun h => ?_) (fun h => ?_)
      · refine x_iload_n dX8_soldTo_196 rfl ?_
        refine (show X _ _ 197 _ _ _ _ _ _ from ?_)
        exact x_ireturn dX8_soldTo_197 rfl ⟨rfl, rfl⟩
      refine x_iload_n dX8_soldTo_123 rfl ?_
      refine (show X _ _ 124 _ _ _ _ _ _ from ?_)
      refine y_if_lt 196 dX8_soldTo_124 (by decide) ⟨by omega, by omega⟩ (fun h2 => ?_) (fun h2 => ?_)
      · refine x_iload_n dX8_soldTo_196 rfl ?_
        refine (show X _ _ 197 _ _ _ _ _ _ from ?_)
        exact x_ireturn dX8_soldTo_197 rfl ⟨rfl, rfl⟩
      · omega
    refine x_iload dX8_soldTo_21 rfl ?_
    refine x_aload dX8_soldTo_23 rfl ?_
    refine b_gio (r := r) (m := 5) dX8_soldTo_25 fX8_150 (by first | assumption | exact (hPR _ (by omega)).2 | exact (hBR _ (by omega)).2) (fun _ _ _ => rfl) (by omega) ?_
    refine (show X _ _ 28 _ _ _ _ _ _ from ?_)
    refine X.val (b := A 0 5) (hV0 5 (by omega)) ?_
    refine y_icmp_ge 93 dX8_soldTo_28 (by decide) ⟨by omega, by omega⟩ ⟨by omega, by omega⟩ (fun h => ?_) (fun h => ?_)
    · exact mid
    refine x_iload_n dX8_soldTo_31 rfl ?_
    refine (show X _ _ 32 _ _ _ _ _ _ from ?_)
    refine y_if_lt 93 dX8_soldTo_32 (by decide) ⟨by omega, by omega⟩ (fun h2 => ?_) (fun h2 => ?_)
    · exact mid
    · omega
  rw [if_neg hneg]
  refine loopN (P := fun i => X g mX8_soldTo 21 [.ref r, .int (iI (y : Int)), .int (iI who), .int (iI (lp i (sdT A y cn) (who, W)).1), .int (iI (cn : Nat)), .ref f, .int (iI (i : Int)), jk, jk] [] (T, iV (pB V r 5 (lp i (sdT A y cn) (who, W)).2), R, J, z) k n (rI (iI (lp (B 0 2).toNat (sdN B y cn) (lp (fBu A) (sdT A y cn) (who, W))).1) (T, iV (pB V r 5 (lp (B 0 2).toNat (sdN B y cn) (lp (fBu A) (sdT A y cn) (who, W))).2), R, J, z))) (fBu A) ?_ (fun i hi ih => ?_)
  · have hsb := sdT_b (y := y) (can := cn) (W := W) hA ⟨by omega, hwho.2⟩ (fBu A) (Nat.le_refl _)
    generalize lp (fBu A) (sdT A y cn) (who, W) = s0 at *
    have nx : X g mX8_soldTo 93 [.ref r, .int (iI (y : Int)), .int (iI who), .int (iI s0.1), .int (iI (cn : Nat)), .ref f, .int (iI ((fBu A : Nat) : Int)), jk, jk] [] (T, iV (pB V r 5 s0.2), R, J, z) k n (rI (iI (lp (B 0 2).toNat (sdN B y cn) s0).1) (T, iV (pB V r 5 (lp (B 0 2).toNat (sdN B y cn) s0).2), R, J, z)) := by
      refine x_aload_n dX8_soldTo_93 rfl ?_
      refine x_gr dX8_soldTo_94 fX8_56 (by first | assumption | exact (hPR _ (by omega)).2 | exact (hBR _ (by omega)).2) (fun _ _ _ => rfl) (by first | assumption | exact (hPR _ (by omega)).2 | exact (hBR _ (by omega)).2) ?_
      refine x_gr dX8_soldTo_97 fX8_160 (by first | assumption | exact (hPR _ (by omega)).2 | exact (hBR _ (by omega)).2) (fun _ _ _ => rfl) (by first | assumption | exact (hPR _ (by omega)).2 | exact (hBR _ (by omega)).2) ?_
      refine x_gr dX8_soldTo_100 fX8_164 (by first | assumption | exact (hPR _ (by omega)).2 | exact (hBR _ (by omega)).2) (fun _ _ _ => rfl) (by first | assumption | exact (hPR _ (by omega)).2 | exact (hBR _ (by omega)).2) ?_
      refine x_astore dX8_soldTo_103 (by decide) rfl rfl ?_
      refine y_iconst dX8_soldTo_105 ?_
      refine x_istore dX8_soldTo_106 (by decide) rfl rfl ?_
      refine (show X _ _ 108 _ _ _ _ _ _ from ?_)
      refine loopN (P := fun i => X g mX8_soldTo 108 [.ref r, .int (iI (y : Int)), .int (iI who), .int (iI (lp i (sdN B y cn) s0).1), .int (iI (cn : Nat)), .ref f, .ref (nw + 2), .int (iI (i : Int)), jk] [] (T, iV (pB V r 5 (lp i (sdN B y cn) s0).2), R, J, z) k n (rI (iI (lp (B 0 2).toNat (sdN B y cn) s0).1) (T, iV (pB V r 5 (lp (B 0 2).toNat (sdN B y cn) s0).2), R, J, z))) (B 0 2).toNat ?_ (fun i hi ih => ?_)
      · refine x_iload dX8_soldTo_108 rfl ?_
        refine x_aload_n dX8_soldTo_110 rfl ?_
        refine x_gr dX8_soldTo_111 fX8_56 (by first | assumption | exact (hPR _ (by omega)).2 | exact (hBR _ (by omega)).2) (fun _ _ _ => rfl) (by first | assumption | exact (hPR _ (by omega)).2 | exact (hBR _ (by omega)).2) ?_
        refine x_gr dX8_soldTo_114 fX8_160 (by first | assumption | exact (hPR _ (by omega)).2 | exact (hBR _ (by omega)).2) (fun _ _ _ => rfl) (by first | assumption | exact (hPR _ (by omega)).2 | exact (hBR _ (by omega)).2) ?_
        refine b_gio (r := r) (m := 5) dX8_soldTo_117 fX8_168 (by first | assumption | exact (hPR _ (by omega)).2 | exact (hBR _ (by omega)).2) (fun _ _ _ => rfl) (by omega) ?_
        refine (show X _ _ 120 _ _ _ _ _ _ from ?_)
        refine X.val (b := B 0 2) (hN0 2 (by omega)) ?_
        refine y_icmp_ge 196 dX8_soldTo_120 (by decide) ⟨by omega, by omega⟩ ⟨by omega, by omega⟩ (fun h => ?_) (fun h => ?_)
        · refine x_iload_n dX8_soldTo_196 rfl ?_
          refine (show X _ _ 197 _ _ _ _ _ _ from ?_)
          exact x_ireturn dX8_soldTo_197 rfl ⟨rfl, rfl⟩
        · omega
      have hsn := sdN_b (y := y) (can := cn) hB hsb i (by omega)
      have hbi := hBb i hi
      rw [lp_s, sdN] at ih
      generalize lp i (sdN B y cn) s0 = s1 at *
      obtain ⟨q1, q2⟩ := s1
      dsimp only at *
      obtain ⟨u, rfl⟩ : ∃ u : Nat, q1 = (u : Int) := ⟨q1.toNat, (Int.toNat_of_nonneg hsn.1).symm⟩
      have hi8 : i < 8 := by omega
      have v0 : V (nw + 2) (4 * i) = B 2 (4 * i) := hN2 _ (by omega)
      have v1 : V (nw + 2) (4 * i + 1) = B 2 (4 * i + 1) := hN2 _ (by omega)
      have v2 : V (nw + 2) (4 * i + 2) = B 2 (4 * i + 2) := hN2 _ (by omega)
      have v3 : V (nw + 2) (4 * i + 3) = B 2 (4 * i + 3) := hN2 _ (by omega)
      obtain ⟨b2, hb2⟩ : ∃ b2 : Nat, B 2 (4 * i + 2) = (b2 : Int) := ⟨(B 2 (4 * i + 2)).toNat, (Int.toNat_of_nonneg hbi.2.2.1.1).symm⟩
      rw [hb2] at ih hbi v2
      simp only [Int.toNat_natCast] at ih
      refine x_iload dX8_soldTo_108 rfl ?_
      refine x_aload_n dX8_soldTo_110 rfl ?_
      refine x_gr dX8_soldTo_111 fX8_56 (by first | assumption | exact (hPR _ (by omega)).2 | exact (hBR _ (by omega)).2) (fun _ _ _ => rfl) (by first | assumption | exact (hPR _ (by omega)).2 | exact (hBR _ (by omega)).2) ?_
      refine x_gr dX8_soldTo_114 fX8_160 (by first | assumption | exact (hPR _ (by omega)).2 | exact (hBR _ (by omega)).2) (fun _ _ _ => rfl) (by first | assumption | exact (hPR _ (by omega)).2 | exact (hBR _ (by omega)).2) ?_
      refine b_gio (r := r) (m := 5) dX8_soldTo_117 fX8_168 (by first | assumption | exact (hPR _ (by omega)).2 | exact (hBR _ (by omega)).2) (fun _ _ _ => rfl) (by omega) ?_
      refine (show X _ _ 120 _ _ _ _ _ _ from ?_)
      refine X.val (b := B 0 2) (hN0 2 (by omega)) ?_
      refine y_icmp_ge 196 dX8_soldTo_120 (by decide) ⟨by omega, by omega⟩ ⟨by omega, by omega⟩ (fun h => ?_) (fun h => ?_)
      · omega
      refine x_iload_n dX8_soldTo_123 rfl ?_
      refine (show X _ _ 124 _ _ _ _ _ _ from ?_)
      refine y_if_lt 196 dX8_soldTo_124 (by decide) ⟨by omega, by omega⟩ (fun h2 => ?_) (fun h2 => ?_)
      · omega
      refine x_iload dX8_soldTo_127 rfl ?_
      refine y_iconst dX8_soldTo_129 ?_
      refine y_imul dX8_soldTo_130 ?_
      refine x_istore dX8_soldTo_131 (by decide) rfl rfl ?_
      refine x_aload dX8_soldTo_133 rfl ?_
      refine x_iload dX8_soldTo_135 rfl ?_
      refine y_iconst dX8_soldTo_137 ?_
      refine y_iadd dX8_soldTo_138 ?_
      refine (show X _ _ 139 _ _ _ _ _ _ from ?_)
      refine b_ialo (r := r) (m := 5) (4 * i) dX8_soldTo_139 (by first | assumption | exact (hPR _ (by omega)).2 | exact (hBR _ (by omega)).2) (by first | rfl | omega) (by omega) (by decide) (by omega) ?_
      refine (show X _ _ 140 _ _ _ _ _ _ from ?_)
      refine X.val v0 ?_
      refine x_iload_n dX8_soldTo_140 rfl ?_
      refine (show X _ _ 141 _ _ _ _ _ _ from ?_)
      refine y_icmp_ne 190 dX8_soldTo_141 (by decide) ⟨by omega, by omega⟩ ⟨by omega, by omega⟩ (fun h3 => ?_) (fun h3 => ?_)
      · rw [if_neg (fun h => h3 h.1)] at ih
        refine y_iinc dX8_soldTo_190 rfl (by decide) rfl rfl ?_
        refine x_goto 108 dX8_soldTo_193 (by decide) ?_
        refine (show X _ _ 108 _ _ _ _ _ _ from ?_)
        exact X.drop 8 rfl ih
      refine x_aload dX8_soldTo_144 rfl ?_
      refine x_iload dX8_soldTo_146 rfl ?_
      refine y_iconst dX8_soldTo_148 ?_
      refine y_iadd dX8_soldTo_149 ?_
      refine b_ialo (r := r) (m := 5) (4 * i + 1) dX8_soldTo_150 (by first | assumption | exact (hPR _ (by omega)).2 | exact (hBR _ (by omega)).2) (by first | rfl | omega) (by omega) (by decide) (by omega) ?_
      refine (show X _ _ 151 _ _ _ _ _ _ from ?_)
      refine X.val v1 ?_
      refine x_iload_n dX8_soldTo_151 rfl ?_
      refine (show X _ _ 152 _ _ _ _ _ _ from ?_)
      refine y_icmp_ne 190 dX8_soldTo_152 (by decide) ⟨by omega, by omega⟩ ⟨by omega, by omega⟩ (fun h4 => ?_) (fun h4 => ?_)
      · rw [if_neg (fun h => h4 h.2.1)] at ih
        refine y_iinc dX8_soldTo_190 rfl (by decide) rfl rfl ?_
        refine x_goto 108 dX8_soldTo_193 (by decide) ?_
        refine (show X _ _ 108 _ _ _ _ _ _ from ?_)
        exact X.drop 8 rfl ih
      refine x_iload dX8_soldTo_155 rfl ?_
      refine x_aload dX8_soldTo_157 rfl ?_
      refine x_iload dX8_soldTo_159 rfl ?_
      refine y_iconst dX8_soldTo_161 ?_
      refine y_iadd dX8_soldTo_162 ?_
      refine b_ialo (r := r) (m := 5) (4 * i + 2) dX8_soldTo_163 (by first | assumption | exact (hPR _ (by omega)).2 | exact (hBR _ (by omega)).2) (by first | rfl | omega) (by omega) (by decide) (by omega) ?_
      refine (show X _ _ 164 _ _ _ _ _ _ from ?_)
      refine X.val v2 ?_
      refine x_callS (As := [_, _]) (mc := 0) (ms := 0) (z := mX10_has) dX8_soldTo_164 lX8_115 oX10_has (by decide) rfl (Nat.le_of_ble_eq_true rfl) (Nat.le_of_ble_eq_true rfl) rfl (c_has g cn b2 _ 0 0 (by omega) (by omega)) (k_I ?_)
      refine (show X _ _ 167 _ _ _ _ _ _ from ?_)
      refine y_ifb_eq 190 dX8_soldTo_167 (by decide) (fun h5 => ?_) (fun h5 => ?_)
      · rw [if_neg (fun h => by rw [h5] at h; exact absurd h.2.2 (by decide))] at ih
        refine y_iinc dX8_soldTo_190 rfl (by decide) rfl rfl ?_
        refine x_goto 108 dX8_soldTo_193 (by decide) ?_
        refine (show X _ _ 108 _ _ _ _ _ _ from ?_)
        exact X.drop 8 rfl ih
      rw [if_pos ⟨h3, h4, h5⟩] at ih
      refine x_aload_n dX8_soldTo_170 rfl ?_
      refine x_iload_n dX8_soldTo_171 rfl ?_
      refine x_aload dX8_soldTo_172 rfl ?_
      refine x_iload dX8_soldTo_174 rfl ?_
      refine y_iconst dX8_soldTo_176 ?_
      refine y_iadd dX8_soldTo_177 ?_
      refine b_ialo (r := r) (m := 5) (4 * i + 2) dX8_soldTo_178 (by first | assumption | exact (hPR _ (by omega)).2 | exact (hBR _ (by omega)).2) (by first | rfl | omega) (by omega) (by decide) (by omega) ?_
      refine (show X _ _ 179 _ _ _ _ _ _ from ?_)
      refine X.val v2 ?_
      refine x_aload dX8_soldTo_179 rfl ?_
      refine x_iload dX8_soldTo_181 rfl ?_
      refine y_iconst dX8_soldTo_183 ?_
      refine y_iadd dX8_soldTo_184 ?_
      refine b_ialo (r := r) (m := 5) (4 * i + 3) dX8_soldTo_185 (by first | assumption | exact (hPR _ (by omega)).2 | exact (hBR _ (by omega)).2) (by first | rfl | omega) (by omega) (by decide) (by omega) ?_
      refine (show X _ _ 186 _ _ _ _ _ _ from ?_)
      refine X.val v3 ?_
      refine x_callV (As := [_, _, _]) (mc := 0) (ms := 0) (z := mX8_pay) (ci := 8) dX8_soldTo_186 lX8_156 oX8_pay (by decide) (by first | assumption | exact (hPR _ (by omega)).2 | exact (hBR _ (by omega)).2) rfl rfl (Nat.le_of_ble_eq_true rfl) (Nat.le_of_ble_eq_true rfl) rfl (hpay q2 u b2 (B 2 (4 * i + 3)) (by omega) (by omega)) (k_I ?_)
      refine (show X _ _ 189 _ _ _ _ _ _ from ?_)
      refine x_istore_n dX8_soldTo_189 (by decide) rfl rfl ?_
      refine y_iinc dX8_soldTo_190 rfl (by decide) rfl rfl ?_
      refine x_goto 108 dX8_soldTo_193 (by decide) ?_
      refine (show X _ _ 108 _ _ _ _ _ _ from ?_)
      exact X.drop 8 rfl ih
    refine x_iload dX8_soldTo_21 rfl ?_
    refine x_aload dX8_soldTo_23 rfl ?_
    refine b_gio (r := r) (m := 5) dX8_soldTo_25 fX8_150 (by first | assumption | exact (hPR _ (by omega)).2 | exact (hBR _ (by omega)).2) (fun _ _ _ => rfl) (by omega) ?_
    refine (show X _ _ 28 _ _ _ _ _ _ from ?_)
    refine X.val (b := A 0 5) (hV0 5 (by omega)) ?_
    refine y_icmp_ge 93 dX8_soldTo_28 (by decide) ⟨by omega, by omega⟩ ⟨by omega, by omega⟩ (fun h => ?_) (fun h => ?_)
    · exact nx
    · omega
  have hsb := sdT_b (y := y) (can := cn) (W := W) hA ⟨by omega, hwho.2⟩ i (by omega)
  have hbi := hAb i hi
  rw [lp_s, sdT] at ih
  generalize lp i (sdT A y cn) (who, W) = s1 at *
  obtain ⟨q1, q2⟩ := s1
  dsimp only at *
  obtain ⟨u, rfl⟩ : ∃ u : Nat, q1 = (u : Int) := ⟨q1.toNat, (Int.toNat_of_nonneg hsb.1).symm⟩
  have v0 : V (f + 26 + i) 0 = A 12 i := hVb i hi 0 (by omega)
  have v1 : V (f + 26 + i) 1 = A 13 i := hVb i hi 1 (by omega)
  have v2 : V (f + 26 + i) 2 = A 14 i := hVb i hi 2 (by omega)
  have v3 : V (f + 26 + i) 3 = A 15 i := hVb i hi 3 (by omega)
  obtain ⟨b2, hb2⟩ : ∃ b2 : Nat, A 14 i = (b2 : Int) := ⟨(A 14 i).toNat, (Int.toNat_of_nonneg hbi.2.2.1.1).symm⟩
  rw [hb2] at ih hbi v2
  simp only [Int.toNat_natCast] at ih
  refine x_iload dX8_soldTo_21 rfl ?_
  refine x_aload dX8_soldTo_23 rfl ?_
  refine b_gio (r := r) (m := 5) dX8_soldTo_25 fX8_150 (by first | assumption | exact (hPR _ (by omega)).2 | exact (hBR _ (by omega)).2) (fun _ _ _ => rfl) (by omega) ?_
  refine (show X _ _ 28 _ _ _ _ _ _ from ?_)
  refine X.val (b := A 0 5) (hV0 5 (by omega)) ?_
  refine y_icmp_ge 93 dX8_soldTo_28 (by decide) ⟨by omega, by omega⟩ ⟨by omega, by omega⟩ (fun h => ?_) (fun h => ?_)
  · omega
  refine x_iload_n dX8_soldTo_31 rfl ?_
  refine (show X _ _ 32 _ _ _ _ _ _ from ?_)
  refine y_if_lt 93 dX8_soldTo_32 (by decide) ⟨by omega, by omega⟩ (fun h2 => ?_) (fun h2 => ?_)
  · omega
  refine x_aload dX8_soldTo_35 rfl ?_
  refine x_gr dX8_soldTo_37 fX8_153 (by first | assumption | exact (hPR _ (by omega)).2 | exact (hBR _ (by omega)).2) (fun _ _ _ => rfl) (by first | assumption | exact (hPR _ (by omega)).2 | exact (hBR _ (by omega)).2) ?_
  refine x_iload dX8_soldTo_40 rfl ?_
  refine y_aald (i) dX8_soldTo_42 (by first | assumption | exact (hPR _ (by omega)).2 | exact (hBR _ (by omega)).2) (by decide) (by first | rfl | omega) (by omega) (by decide) (by first | assumption | exact (hPR _ (by omega)).1 | exact (hBR _ (by omega)).1) ?_
  refine x_astore dX8_soldTo_43 (by decide) rfl rfl ?_
  refine x_aload dX8_soldTo_45 rfl ?_
  refine y_iconst dX8_soldTo_47 ?_
  refine b_ialo (r := r) (m := 5) (0) dX8_soldTo_48 (by first | assumption | exact (hPR _ (by omega)).2 | exact (hBR _ (by omega)).2) (by first | rfl | omega) (by omega) (by decide) (by omega) ?_
  refine (show X _ _ 49 _ _ _ _ _ _ from ?_)
  refine X.val v0 ?_
  refine x_iload_n dX8_soldTo_49 rfl ?_
  refine (show X _ _ 50 _ _ _ _ _ _ from ?_)
  refine y_icmp_ne 87 dX8_soldTo_50 (by decide) ⟨by omega, by omega⟩ ⟨by omega, by omega⟩ (fun h3 => ?_) (fun h3 => ?_)
  · rw [if_neg (fun h => h3 h.1)] at ih
    refine y_iinc dX8_soldTo_87 rfl (by decide) rfl rfl ?_
    refine x_goto 21 dX8_soldTo_90 (by decide) ?_
    refine (show X _ _ 21 _ _ _ _ _ _ from ?_)
    exact X.drop 7 rfl ih
  refine x_aload dX8_soldTo_53 rfl ?_
  refine y_iconst dX8_soldTo_55 ?_
  refine b_ialo (r := r) (m := 5) (1) dX8_soldTo_56 (by first | assumption | exact (hPR _ (by omega)).2 | exact (hBR _ (by omega)).2) (by first | rfl | omega) (by omega) (by decide) (by omega) ?_
  refine (show X _ _ 57 _ _ _ _ _ _ from ?_)
  refine X.val v1 ?_
  refine x_iload_n dX8_soldTo_57 rfl ?_
  refine (show X _ _ 58 _ _ _ _ _ _ from ?_)
  refine y_icmp_ne 87 dX8_soldTo_58 (by decide) ⟨by omega, by omega⟩ ⟨by omega, by omega⟩ (fun h4 => ?_) (fun h4 => ?_)
  · rw [if_neg (fun h => h4 h.2.1)] at ih
    refine y_iinc dX8_soldTo_87 rfl (by decide) rfl rfl ?_
    refine x_goto 21 dX8_soldTo_90 (by decide) ?_
    refine (show X _ _ 21 _ _ _ _ _ _ from ?_)
    exact X.drop 7 rfl ih
  refine x_iload dX8_soldTo_61 rfl ?_
  refine x_aload dX8_soldTo_63 rfl ?_
  refine y_iconst dX8_soldTo_65 ?_
  refine b_ialo (r := r) (m := 5) (2) dX8_soldTo_66 (by first | assumption | exact (hPR _ (by omega)).2 | exact (hBR _ (by omega)).2) (by first | rfl | omega) (by omega) (by decide) (by omega) ?_
  refine (show X _ _ 67 _ _ _ _ _ _ from ?_)
  refine X.val v2 ?_
  refine x_callS (As := [_, _]) (mc := 0) (ms := 0) (z := mX10_has) dX8_soldTo_67 lX8_115 oX10_has (by decide) rfl (Nat.le_of_ble_eq_true rfl) (Nat.le_of_ble_eq_true rfl) rfl (c_has g cn b2 _ 0 0 (by omega) (by omega)) (k_I ?_)
  refine (show X _ _ 70 _ _ _ _ _ _ from ?_)
  refine y_ifb_eq 87 dX8_soldTo_70 (by decide) (fun h5 => ?_) (fun h5 => ?_)
  · rw [if_neg (fun h => by rw [h5] at h; exact absurd h.2.2 (by decide))] at ih
    refine y_iinc dX8_soldTo_87 rfl (by decide) rfl rfl ?_
    refine x_goto 21 dX8_soldTo_90 (by decide) ?_
    refine (show X _ _ 21 _ _ _ _ _ _ from ?_)
    exact X.drop 7 rfl ih
  rw [if_pos ⟨h3, h4, h5⟩] at ih
  refine x_aload_n dX8_soldTo_73 rfl ?_
  refine x_iload_n dX8_soldTo_74 rfl ?_
  refine x_aload dX8_soldTo_75 rfl ?_
  refine y_iconst dX8_soldTo_77 ?_
  refine b_ialo (r := r) (m := 5) (2) dX8_soldTo_78 (by first | assumption | exact (hPR _ (by omega)).2 | exact (hBR _ (by omega)).2) (by first | rfl | omega) (by omega) (by decide) (by omega) ?_
  refine (show X _ _ 79 _ _ _ _ _ _ from ?_)
  refine X.val v2 ?_
  refine x_aload dX8_soldTo_79 rfl ?_
  refine y_iconst dX8_soldTo_81 ?_
  refine b_ialo (r := r) (m := 5) (3) dX8_soldTo_82 (by first | assumption | exact (hPR _ (by omega)).2 | exact (hBR _ (by omega)).2) (by first | rfl | omega) (by omega) (by decide) (by omega) ?_
  refine (show X _ _ 83 _ _ _ _ _ _ from ?_)
  refine X.val v3 ?_
  refine x_callV (As := [_, _, _]) (mc := 0) (ms := 0) (z := mX8_pay) (ci := 8) dX8_soldTo_83 lX8_156 oX8_pay (by decide) (by first | assumption | exact (hPR _ (by omega)).2 | exact (hBR _ (by omega)).2) rfl rfl (Nat.le_of_ble_eq_true rfl) (Nat.le_of_ble_eq_true rfl) rfl (hpay q2 u b2 (A 15 i) (by omega) (by omega)) (k_I ?_)
  refine (show X _ _ 86 _ _ _ _ _ _ from ?_)
  refine x_istore_n dX8_soldTo_86 (by decide) rfl rfl ?_
  refine y_iinc dX8_soldTo_87 rfl (by decide) rfl rfl ?_
  refine x_goto 21 dX8_soldTo_90 (by decide) ?_
  refine (show X _ _ 21 _ _ _ _ _ _ from ?_)
  exact X.drop 7 rfl ih
end C6
