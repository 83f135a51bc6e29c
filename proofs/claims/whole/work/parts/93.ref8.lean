/-! ===== the reference's year, whole ===== -/
def yrE (A B E W : Nat → Nat → Int) (y : Nat) : Nat → Nat → Int := u2 (u2 (u2 (u2 E 6 y (rTh A B W y : Nat)) 7 y (rCn A B W y : Nat)) 10 y (bI (decide (W 0 6 ≠ 0)))) 9 y 0
/-- one year: by the wish, or by the law -/
def stp (A B : Nat → Nat → Int) (rw : Nat) (ch : Nat → Int) (W : Nat → Nat → Int) (y : Nat) : Nat → Nat → Int := if y < rw then mwW A B W y (ch y) else passY A B W y
section Stp
variable {A B E W : Nat → Nat → Int} {y rw : Nat} {ch : Nat → Int}
theorem th_eq (h : RM A E W y) : sOf (fP A) (thE A B E y) = rTh A B W y := by
  apply Nat.eq_of_testBit_eq
  intro i
  rw [sOf_bit, andn_bit]
  unfold thS
  rw [sOf_bit]
  by_cases hi : i < fP A
  · rw [decide_eq_true hi, (h.2.2.1 i hi).2, Bool.true_and, Bool.true_and]
    unfold thE
    by_cases c : E 20 i ≤ (y : Int)
    · rw [decide_eq_true c, decide_eq_false (by omega)]; rfl
    · rw [decide_eq_false c, decide_eq_true (by omega)]; rfl
  · rw [decide_eq_false hi]; rfl
theorem cn_eq (h : RM A E W y) : sOf (fP A) (cnE A B E y) = rCn A B W y := by
  apply Nat.eq_of_testBit_eq
  intro i
  rw [sOf_bit, andn_bit]
  unfold cnS
  rw [sOf_bit]
  by_cases hi : i < fP A
  · rw [decide_eq_true hi, (h.2.2.1 i hi).2, Bool.true_and, Bool.true_and]
    unfold cnE cnB thE
    by_cases c : E 20 i ≤ (y : Int)
    · rw [decide_eq_true c, decide_eq_false (show ¬ (y : Int) < E 20 i by omega)]
      cases thB A B y i <;> simp
    · rw [decide_eq_false c, decide_eq_true (show (y : Int) < E 20 i by omega)]
      cases thB A B y i <;> simp
  · rw [decide_eq_false hi]; rfl
theorem cnE_eq {E' : Nat → Nat → Int} (h : E' 20 = E 20) : cnE A B E' = cnE A B E := by
  funext a b
  unfold cnE thE
  rw [h]
theorem comes_n (h : W 0 6 ≠ 0 ∨ rCn A B W y = 0) : rComes A B W y = -2 := by
  unfold rComes
  rw [if_pos h]
theorem stp_none (h : rComes A B W y = -2) : stp A B rw ch W y = takeT A W y (-2) := by
  unfold stp
  split
  · unfold mwW; rw [h, if_neg (by decide)]
  · unfold passY yrWho yrW
    rw [h, if_neg (by decide), if_neg (by decide)]
    unfold sold
    rw [if_pos (by decide)]
theorem stp_ok (hA : VA A) (hB : VB A B) (hk : ROk A W y) (hch : y < rw → rComes A B W y = -3 → 0 ≤ ch y ∧ (rCn A B W y).testBit (ch y).toNat = true) : ROk A (stp A B rw ch W y) (y + 1) := by
  unfold stp
  by_cases h : y < rw
  · rw [if_pos h]
    by_cases c : rComes A B W y = -3
    · have := hch h c
      exact mwW_ok hA hk this.1 (by unfold mwOk; rw [if_pos c]; exact this.2)
    · have e : mwW A B W y (ch y) = mwW A B W y 0 := by unfold mwW; rw [if_neg c, if_neg c]
      rw [e]
      exact mwW_ok hA hk (by decide) (by unfold mwOk; rw [if_neg c]; rfl)
  · rw [if_neg h]
    exact passY_ok hA hB hk
end Stp
section C93
variable {g : GG} {T : Nat → Nat × Nat} {V E A B W N : Nat → Nat → Int} {R : Nat → Nat → Option Nat} {J : Nat → Nat → Int64} {z k n : Nat} {r f : Nat}
/-- from where it is settled who is it -/
theorem c_yr199n {y rw : Nat} (hM : MSh T R r) (hA : VA A) (hy : y < 24) (hR : RM A E W y) (hN : NM A E N) (h9 : E 9 y = 0) (hok : ROk A (takeT A W y (-2)) (y + 1)) : X g mX12_year 199 [.ref r, .int (iI (y : Int)), .int (iI (-2)), jk] [] (T, iV (pB V r 24 E), R, J, z) k n (fun v M => v = none ∧ ∃ E', M = (T, iV (pB V r 24 E'), R, J, z) ∧ YrQ A E E' W (takeT A W y (-2)) (nst A (takeT A W y (-2)) N y) y) := by
  have eP := fP10 hA
  have hrec := fun kk => c_yrRec (g := g) (V := V) (E := u2 E 5 y (-2)) (J := J) (z := z) (k := k) (n := n) (x := -2) (Q := fun v M => v = none ∧ ∃ E', M = (T, iV (pB V r 24 E'), R, J, z) ∧ YrQ A E E' W (takeT A W y (-2)) (nst A (takeT A W y (-2)) N y) y) hM hy kk
  obtain ⟨m0, ⟨-, -, -, -, m20, m21, m22, m23, m24, m25, m26, m27, m28, m29, m30, m31, m32, -, -, m35, m36, m37, -⟩, ⟨-, -, -, -, mk5, mk6, mk7, mk8, mk9, mk10, mk11, mk12, mk13, mk14, mk15, mk16, mk17, -, -, mk20, mk21, mk22, -⟩⟩ := id hM
  refine x_aload_n dX12_year_199 rfl ?_
  refine x_gr dX12_year_200 fX12_27 (by first | assumption) (fun _ _ _ => rfl) (by first | assumption) ?_
  refine x_iload_n dX12_year_203 rfl ?_
  refine x_iload_n dX12_year_204 rfl ?_
  refine b_iast (r := r) (m := 24) (j := 5) (y) dX12_year_205 (by first | assumption) (by first | rfl | omega) (by omega) (by decide) (by decide) ?_
  refine x_iload_n dX12_year_206 rfl ?_
  refine y_bipush dX12_year_207 rfl ?_
  refine (show X _ _ 209 _ _ _ _ _ _ from ?_)
  refine y_icmp_eq 218 dX12_year_209 (by decide) ⟨by omega, by omega⟩ ⟨by omega, by omega⟩ (fun h1 => ?_) (fun h1 => ?_)
  rotate_left
  · exact absurd rfl h1
  exact hrec (fun E' hq => ⟨rfl, E', rfl, yr_none hR hN hy hok eP.2 h9 hq⟩)
theorem c_yr199q {y q : Nat} {E1 W1 : Nat → Nat → Int} (hM : MSh T R r) (hf : R r 3 = some f) (hG : FMS T R f) (hF : FMC V f A) (hA : VA A) (hap : apF f r) (hy : y < 24) (hR : RM A E W y) (hN : NM A E N) (h9 : E 9 y = 0) (hq : q < fP A) (hal : (dd W).testBit q = false) (w1 : ∀ a j, ¬ (a = 0 ∧ j = 2) → a ≠ 3 → W1 a j = W a j) (hok : ROk A (takeT A W1 y (q : Int)) (y + 1)) (e0 : ∀ c, c ≠ 39 → E1 0 c = E 0 c) (e39 : E1 0 39 = W1 0 2) (e18 : ∀ p, p < fP A → E1 18 p = W1 3 p) (ea : ∀ a, a ≠ 0 → a ≠ 18 → E1 a = E a) : X g mX12_year 199 [.ref r, .int (iI (y : Int)), .int (iI (q : Int)), jk] [] (T, iV (pB V r 24 E1), R, J, z) k n (fun v M => v = none ∧ ∃ E', M = (T, iV (pB V r 24 E'), R, J, z) ∧ YrQ A E E' W (takeT A W1 y (q : Int)) (nst A (takeT A W1 y (q : Int)) N y) y) := by
  have eP := fP10 hA
  have hN1 : NM A (u2 E1 5 y (q : Int)) N := NM_eq hN (by rw [u2_n (by decide), e0 38 (by decide)]) (by rw [u2_n (by decide), ea 17 (by decide) (by decide)]) (by rw [u2_n (by decide), ea 21 (by decide) (by decide)])
  have h16 : u2 E1 5 y (q : Int) 16 q = W 2 q := by rw [u2_n (by decide), ea 16 (by decide) (by decide), (hR.2.1 q hq).2.1]
  have hkk := hR.2.2.2.2.2.2.1
  have hs := c_sits (g := g) (J := J) (z := z) (k := 0) (n := 0) (E := u2 E1 5 y (q : Int)) (N := N) (p := q) (y := y) hM hf hG hF hA hap hq hy hN1 (by rw [h16]; have := hkk.2.2.2.2.2.2.2.2.1 q hq; omega)
  have hrec := fun (E3 : Nat → Nat → Int) kk => c_yrRec (g := g) (V := V) (E := E3) (J := J) (z := z) (k := k) (n := n) (x := (q : Int)) (Q := fun v M => v = none ∧ ∃ E', M = (T, iV (pB V r 24 E'), R, J, z) ∧ YrQ A E E' W (takeT A W1 y (q : Int)) (nst A (takeT A W1 y (q : Int)) N y) y) hM hy kk
  obtain ⟨m0, ⟨-, -, -, -, m20, m21, m22, m23, m24, m25, m26, m27, m28, m29, m30, m31, m32, -, -, m35, m36, m37, -⟩, ⟨-, -, -, -, mk5, mk6, mk7, mk8, mk9, mk10, mk11, mk12, mk13, mk14, mk15, mk16, mk17, -, -, mk20, mk21, mk22, -⟩⟩ := id hM
  refine x_aload_n dX12_year_199 rfl ?_
  refine x_gr dX12_year_200 fX12_27 (by first | assumption) (fun _ _ _ => rfl) (by first | assumption) ?_
  refine x_iload_n dX12_year_203 rfl ?_
  refine x_iload_n dX12_year_204 rfl ?_
  refine b_iast (r := r) (m := 24) (j := 5) (y) dX12_year_205 (by first | assumption) (by first | rfl | omega) (by omega) (by decide) (by decide) ?_
  refine x_iload_n dX12_year_206 rfl ?_
  refine y_bipush dX12_year_207 rfl ?_
  refine (show X _ _ 209 _ _ _ _ _ _ from ?_)
  refine y_icmp_eq 218 dX12_year_209 (by decide) ⟨by omega, by omega⟩ ⟨by omega, by omega⟩ (fun h1 => ?_) (fun h1 => ?_)
  · omega
  refine x_aload_n dX12_year_212 rfl ?_
  refine x_iload_n dX12_year_213 rfl ?_
  refine x_iload_n dX12_year_214 rfl ?_
  refine (show X _ _ 215 _ _ _ _ _ _ from ?_)
  have hq0 := hq
  refine x_callV (As := [_, _]) (mc := 0) (ms := 0) (z := mX12_sits) (ci := 12) dX12_year_215 lX12_475 oX12_sits (by decide) (by first | assumption) rfl rfl (Nat.le_of_ble_eq_true rfl) (Nat.le_of_ble_eq_true rfl) rfl (hs) (fun v M1 hq => ?_)
  obtain ⟨rfl, E3, rfl, hsq⟩ := hq
  refine (show X _ _ 218 _ [] _ _ _ _ from ?_)
  exact hrec E3 (fun E' hr => ⟨rfl, E', rfl, yr_some hR hN hy hq0 eP.1 eP.2 hal w1 hok e0 e39 e18 ea h9 hsq hr⟩)
theorem c_year {y rw : Nat} (hM : MSh T R r) (hf : R r 3 = some f) (hG : FMS T R f) (hF : FMC V f A) (hA : VA A) (hB : VB A B) (hap : apF f r) (hv : NV (E 2) A B) (hy : y < 24) (hR : RM A E W y) (hN : NM A E N) (hrw : E 0 41 = (rw : Int)) (hr4 : rw ≤ 4) (hch : y < rw → rComes A B W y = -3 → 0 ≤ E 22 y ∧ (rCn A B W y).testBit (E 22 y).toNat = true) : X g mX12_year 0 [.ref r, .int (iI (y : Int)), jk, jk] [] (T, iV (pB V r 24 E), R, J, z) k n (fun v M => v = none ∧ ∃ E', M = (T, iV (pB V r 24 E'), R, J, z) ∧ YrQ A (yrE A B E W y) E' W (stp A B rw (E 22) W y) (nst A (stp A B rw (E 22) W y) N y) y) := by
  have hkk := hR.2.2.2.2.2.2.1
  have hWb : ∀ p, p < fP A → 0 ≤ W 1 p ∧ W 1 p ≤ 24 := fun p hp => by have := hkk.2.2.2.2.2.2.2.1 p hp; omega
  have hsok := stp_ok (rw := rw) (ch := E 22) hA hB hkk hch
  have hcl : rCn A B W y < 1024 := andn_lt (cnS_lt hA y)
  have eP := fP10 hA
  have hA3 := hA.2.2.2.1
  have hd : ∀ p, p < fP A → 0 ≤ E 20 p ∧ E 20 p ≤ 25 := fun p hp => by have := (hR.2.2.1 p hp).1; omega
  have hti := c_thereIn (g := g) (J := J) (z := z) (k := 0) (n := 0) hM hf hG hF hA hB hap hv (show y ≤ 24 by omega) hd
  rw [th_eq hR] at hti
  have hab := fun (E1 : Nat → Nat → Int) (h2 : E1 2 = E 2) (h20 : E1 20 = E 20) p hp => c_isAble (g := g) (J := J) (z := z) (k := 0) (n := 0) (E := E1) (p := p) (y := y) hM hf hG hF hA hB hap (by rw [h2]; exact hv) hp (by omega) (by rw [h20]; exact hd p hp)
  -- the state once can, there, empty are written
  have hE3 : ∀ a, a ≠ 6 → a ≠ 7 → a ≠ 9 → a ≠ 10 → yrE A B E W y a = E a := fun a h6 h7 h9 h10 => by unfold yrE; rw [u2_n h9, u2_n h10, u2_n h7, u2_n h6]
  have hE6 : yrE A B E W y 6 y = (rTh A B W y : Nat) := by unfold yrE; rw [u2_n (by decide), u2_n (by decide), u2_n (by decide), u2_s, u1_s]
  have hE7 : yrE A B E W y 7 y = (rCn A B W y : Nat) := by unfold yrE; rw [u2_n (by decide), u2_n (by decide), u2_s, u1_s]
  have hE10 : yrE A B E W y 10 y = bI (decide (W 0 6 ≠ 0)) := by unfold yrE; rw [u2_n (by decide), u2_s, u1_s]
  have hE9 : yrE A B E W y 9 y = 0 := by unfold yrE; rw [u2_s, u1_s]
  have hR3 : RM A (yrE A B E W y) W y := RM_con hR (fun c _ => by rw [hE3 0 (by decide) (by decide) (by decide) (by decide)]) (hE3 5 (by decide) (by decide) (by decide) (by decide)) (hE3 15 (by decide) (by decide) (by decide) (by decide)) (hE3 16 (by decide) (by decide) (by decide) (by decide)) (hE3 18 (by decide) (by decide) (by decide) (by decide)) (hE3 20 (by decide) (by decide) (by decide) (by decide))
  have hN3 : NM A (yrE A B E W y) N := NM_eq hN (by rw [hE3 0 (by decide) (by decide) (by decide) (by decide)]) (hE3 17 (by decide) (by decide) (by decide) (by decide)) (hE3 21 (by decide) (by decide) (by decide) (by decide))
  have n199 := fun (hs : rComes A B W y = -2) => c_yr199n (g := g) (J := J) (z := z) (k := k) (n := n) (rw := rw) (V := V) (E := yrE A B E W y) (W := W) (N := N) hM hA hy hR3 hN3 hE9 (by rw [← stp_none (rw := rw) (ch := E 22) hs]; exact hsok)
  have q199 := fun (q : Nat) (E1 W1 : Nat → Nat → Int) (hst : stp A B rw (E 22) W y = takeT A W1 y (q : Int)) hq hal w1 => c_yr199q (g := g) (J := J) (z := z) (k := k) (n := n) (V := V) (E := yrE A B E W y) (E1 := E1) (W1 := W1) (W := W) (N := N) (q := q) hM hf hG hF hA hap hy hR3 hN3 hE9 hq hal w1 (by rw [← hst]; exact hsok)
  -- from 117 on
  have part2 : ∀ x : Int, X g mX12_year 117 [.ref r, .int (iI (y : Int)), .int (iI (-2)), jk] [] (T, iV (pB V r 24 (yrE A B E W y)), R, J, z) k n (fun v M => v = none ∧ ∃ E', M = (T, iV (pB V r 24 E'), R, J, z) ∧ YrQ A (yrE A B E W y) E' W (stp A B rw (E 22) W y) (nst A (stp A B rw (E 22) W y) N y) y) := by
    intro x
    generalize hyE : yrE A B E W y = E3 at *
    have hse := c_isSecond (g := g) (J := J) (z := z) (k := 0) (n := 0) (E := E3) (W := W) hM hf hG hF hA hap hy hR3.2.2.2.2.1 hE7 hcl
    obtain ⟨⟨r1, r2, r3, r4, r5⟩, rp, -, -, rel, -, -, rt⟩ := id hR3
    obtain ⟨m0, ⟨-, -, -, -, m20, m21, m22, m23, m24, m25, m26, m27, m28, m29, m30, m31, m32, -, -, m35, m36, m37, -⟩, ⟨-, -, -, -, mk5, mk6, mk7, mk8, mk9, mk10, mk11, mk12, mk13, mk14, mk15, mk16, mk17, -, -, mk20, mk21, mk22, -⟩⟩ := id hM
    obtain ⟨g0, -, -⟩ := id hG
    unfold apF at hap
    refine x_aload_n dX12_year_117 rfl ?_
    refine x_gr dX12_year_118 fX12_42 (by first | assumption) (fun _ _ _ => rfl) (by first | assumption) ?_
    refine x_iload_n dX12_year_121 rfl ?_
    refine b_zald (r := r) (m := 24) (j := 10) (y) dX12_year_122 (by first | assumption) (by first | rfl | omega) (by omega) (by decide) (by decide) ?_
    refine (show X _ _ 123 _ _ _ _ _ _ from ?_)
    refine X.val hE10 ?_
    refine y_ifb_ne 199 dX12_year_123 (by decide) (fun h6 => ?_) (fun h6 => ?_)
    · have hs := comes_n (A := A) (B := B) (y := y) (Or.inl (of_decide_eq_true h6))
      rw [stp_none hs]
      exact n199 hs
    have h6 : W 0 6 = 0 := Classical.byContradiction fun c => (of_decide_eq_false h6) c
    refine x_aload_n dX12_year_126 rfl ?_
    refine x_gr dX12_year_127 fX12_33 (by first | assumption) (fun _ _ _ => rfl) (by first | assumption) ?_
    refine x_iload_n dX12_year_130 rfl ?_
    refine b_iald (r := r) (m := 24) (j := 7) (y) dX12_year_131 (by first | assumption) (by first | rfl | omega) (by omega) (by decide) (by decide) ?_
    refine (show X _ _ 132 _ _ _ _ _ _ from ?_)
    refine X.val hE7 ?_
    refine y_if_eq 199 dX12_year_132 (by decide) ⟨by omega, by omega⟩ (fun h7 => ?_) (fun h7 => ?_)
    · have hs := comes_n (A := A) (B := B) (W := W) (y := y) (Or.inr (by omega))
      rw [stp_none hs]
      exact n199 hs
    have h7 : rCn A B W y ≠ 0 := fun c => h7 (by omega)
    have hcs := comes_sec (A := A) (B := B) h6 h7
    have erw : E3 0 41 = (rw : Int) := by rw [hE3 0 (by decide) (by decide) (by decide) (by decide)]; exact hrw
    -- bought, then 199
    have buy : ∀ (who : Int) (U E4 : Nat → Nat → Int), ¬ y < rw → 0 ≤ who → who < A 0 3 → (rCn A B W y).testBit who.toNat = true → yrWho A B W y = who → yrW A B W y = U → (∀ a j, ¬ (a = 0 ∧ j = 2) → U a j = W a j) → (∀ c, c ≠ 39 → E4 0 c = E3 0 c) → E4 0 39 = U 0 2 → (∀ a, a ≠ 0 → E4 a = E3 a) → X g mX12_year 184 [.ref r, .int (iI (y : Int)), .int (iI who), jk] [] (T, iV (pB V r 24 E4), R, J, z) k n (fun v M => v = none ∧ ∃ E', M = (T, iV (pB V r 24 E'), R, J, z) ∧ YrQ A E3 E' W (stp A B rw (E 22) W y) (nst A (stp A B rw (E 22) W y) N y) y) := by
      intro who U E4 hnr hw0 hwP hwm hyw hyW hU he0 he39 hea
      have hb := c_bought (g := g) (J := J) (z := z) (k := 0) (n := 0) (E := E4) (U := U) (who := who) (y := y) (can := rCn A B W y) hM hf hG hF hA hB hap (by rw [hea 2 (by decide), hE3 2 (by decide) (by decide) (by decide) (by decide)]; exact hv) ⟨hw0, hwP⟩ hy (by rw [hea 7 (by decide)]; exact hE7) hcl (fun p hp => by rw [hea 18 (by decide), (rp p hp).2.2, hU 3 p (by omega)])
      have hst : stp A B rw (E 22) W y = takeT A (sold A B y (rCn A B W y) who U).2 y (sold A B y (rCn A B W y) who U).1 := by
        unfold stp passY
        rw [if_neg hnr, hyw, hyW]
      have hsb := sold_b (A := A) (B := B) (W := U) (y := y) (can := rCn A B W y) hA hB (show -2 ≤ who ∧ who < A 0 3 by omega)
      have hsm := sold_mem (A := A) (B := B) (W := U) (y := y) hw0 hwm hA hB hwP
      have hs0 : 0 ≤ (sold A B y (rCn A B W y) who U).1 := by
        unfold sold
        rw [if_neg (by omega)]
        exact (sdN_b (A := A) hB (sdT_b (A := A) (W := U) hA ⟨hw0, hwP⟩ _ (Nat.le_refl _)) _ (Nat.le_refl _)).1
      have hsr := fun a (ha : a ≠ 3) => sold_row (A := A) (B := B) (y := y) (can := rCn A B W y) (who := who) (W := U) a ha
      generalize sold A B y (rCn A B W y) who U = so at *
      have eso : ((so.1.toNat : Nat) : Int) = so.1 := Int.toNat_of_nonneg hs0
      refine x_iload_n dX12_year_184 rfl ?_
      refine x_aload_n dX12_year_185 rfl ?_
      refine b_gi0 (r := r) (m := 24) dX12_year_186 fX12_420 (by first | assumption) (fun _ _ _ => rfl) (by decide) ?_
      refine (show X _ _ 189 _ _ _ _ _ _ from ?_)
      refine X.val (b := (rw : Int)) (by rw [he0 41 (by decide)]; exact erw) ?_
      refine y_icmp_lt 199 dX12_year_189 (by decide) ⟨by omega, by omega⟩ ⟨by omega, by omega⟩ (fun h8 => ?_) (fun h8 => ?_)
      · omega
      refine x_aload_n dX12_year_192 rfl ?_
      refine x_iload_n dX12_year_193 rfl ?_
      refine x_iload_n dX12_year_194 rfl ?_
      refine (show X _ _ 195 _ _ _ _ _ _ from ?_)
      refine x_callV (As := [_, _]) (mc := 0) (ms := 0) (z := mX12_bought) (ci := 12) dX12_year_195 lX12_472 oX12_bought (by decide) (by first | assumption) rfl rfl (Nat.le_of_ble_eq_true rfl) (Nat.le_of_ble_eq_true rfl) rfl (hb) (fun v M1 hq => ?_)
      obtain ⟨rfl, E5, rfl, y1, y2⟩ := hq
      refine (show X _ _ 198 _ [.int (iI so.1)] _ _ _ _ from ?_)
      refine x_istore_n dX12_year_198 (by decide) rfl rfl ?_
      refine (show X _ _ 199 _ _ _ _ _ _ from ?_)
      have q199 := q199 so.1.toNat E5 so.2 (by rw [eso]; exact hst) (by omega) (cn_dd hsm) (fun a j h1 h2 => by rw [hsr a h2]; exact hU a j h1) (fun c hc => by rw [y1 0 (by decide), he0 c hc]) (by rw [y1 0 (by decide), he39, hsr 0 (by decide)]) y2 (fun a h0 h18 => by rw [y1 a h18, hea a h0])
      rw [eso] at q199
      rw [hst]
      exact q199
    refine x_aload_n dX12_year_135 rfl ?_
    refine x_iload_n dX12_year_136 rfl ?_
    refine (show X _ _ 137 _ _ _ _ _ _ from ?_)
    refine x_callV (As := [_]) (mc := 0) (ms := 0) (z := mX12_isSecond) (ci := 12) dX12_year_137 lX12_463 oX12_isSecond (by decide) (by first | assumption) rfl rfl (Nat.le_of_ble_eq_true rfl) (Nat.le_of_ble_eq_true rfl) rfl (hse) (k_I ?_)
    refine (show X _ _ 140 _ _ _ _ _ _ from ?_)
    refine y_ifb_eq 155 dX12_year_140 (by decide) (fun h8 => ?_) (fun h8 => ?_)
    rotate_left
    · -- a twin goes on
      rw [if_pos h8] at hcs
      obtain ⟨s1, s2, s3, s4, s5⟩ := of_decide_eq_true h8
      obtain ⟨d1, d2, d3⟩ := rel (y - 1) (by omega)
      refine x_aload_n dX12_year_143 rfl ?_
      refine x_gr dX12_year_144 fX12_27 (by first | assumption) (fun _ _ _ => rfl) (by first | assumption) ?_
      refine x_iload_n dX12_year_147 rfl ?_
      refine y_iconst dX12_year_148 ?_
      refine y_isub dX12_year_149 ?_
      refine b_iald (r := r) (m := 24) (j := 5) (y - 1) dX12_year_150 (by first | assumption) (by first | rfl | omega) (by omega) (by decide) (by decide) ?_
      refine (show X _ _ 151 _ _ _ _ _ _ from ?_)
      refine X.val d1 ?_
      refine x_istore_n dX12_year_151 (by decide) rfl rfl ?_
      refine x_goto 184 dX12_year_152 (by decide) ?_
      refine (show X _ _ 184 _ _ _ _ _ _ from ?_)
      by_cases hr : y < rw
      · refine x_iload_n dX12_year_184 rfl ?_
        refine x_aload_n dX12_year_185 rfl ?_
        refine b_gi0 (r := r) (m := 24) dX12_year_186 fX12_420 (by first | assumption) (fun _ _ _ => rfl) (by decide) ?_
        refine (show X _ _ 189 _ _ _ _ _ _ from ?_)
        refine X.val erw ?_
        refine y_icmp_lt 199 dX12_year_189 (by decide) ⟨by omega, by omega⟩ ⟨by omega, by omega⟩ (fun h9 => ?_) (fun h9 => ?_)
        rotate_left
        · omega
        have hst : stp A B rw (E 22) W y = takeT A W y (((W 4 (y - 1)).toNat : Nat) : Int) := by
          unfold stp mwW
          rw [if_pos hr, hcs, if_neg (by omega), Int.toNat_of_nonneg s2]
        have := q199 (W 4 (y - 1)).toNat E3 W hst (by omega) (cn_dd s5) (fun _ _ _ _ => rfl) (fun _ _ => rfl) r2 (fun p hp => (rp p hp).2.2) (fun _ _ _ => rfl)
        rw [Int.toNat_of_nonneg s2] at this hst
        rw [hst]
        exact this
      · exact buy (W 4 (y - 1)) W E3 hr s2 d3 s5 (by unfold yrWho; rw [hcs, if_neg (by omega)]) (by unfold yrW; rw [hcs, if_neg (by omega)]) (fun _ _ _ => rfl) (fun _ _ => rfl) r2 (fun _ _ => rfl)
    rw [h8, if_neg (by decide)] at hcs
    refine x_iload_n dX12_year_155 rfl ?_
    refine x_aload_n dX12_year_156 rfl ?_
    refine b_gi0 (r := r) (m := 24) dX12_year_157 fX12_420 (by first | assumption) (fun _ _ _ => rfl) (by decide) ?_
    refine (show X _ _ 160 _ _ _ _ _ _ from ?_)
    refine X.val erw ?_
    refine y_icmp_ge 173 dX12_year_160 (by decide) ⟨by omega, by omega⟩ ⟨by omega, by omega⟩ (fun h9 => ?_) (fun h9 => ?_)
    · -- by the law
      have hla := c_lawful (g := g) (J := J) (z := z) (k := 0) (n := 0) (E := E3) (W := W) (B := B) hM hf hG hF hA hap (fun p hp => (rp p hp).1) hWb hy hE7 hE6 r2 hkk.2.1 r1 hkk.1 r5 hkk.2.2.2.2.2.2.1 h7
      obtain ⟨⟨l0, lP⟩, hla⟩ := hla
      have hlm := law_mem (A := A) (B := B) (y := y) hA hWb l0
      have htr := c_traded (g := g) (V := V) (J := J) (z := z) (k := 0) (n := 0) (A := A) (W := W) (W' := byLawW A B W y) (E := u2 E3 0 39 (byLawW A B W y 0 2)) (p := byLawV A B W y) (y := y) (can := rCn A B W y) hM hA3.2 ⟨l0, lP⟩ hy (by rw [u2_n (by decide)]; exact hE7) hcl (by unfold TrM; rw [u2_s, u1_n (by decide), u1_n (by decide)]; exact rt) ⟨hkk.2.2.1.2, hkk.2.2.2.1.2⟩ (lawW_row 0 3 (by omega)) (lawW_row 0 4 (by omega))
      have hib := inPl_b (A := A) (B := B) (W := W) (y := y) (W' := byLawW A B W y) hA (show -2 ≤ byLawV A B W y ∧ byLawV A B W y < A 0 3 by omega)
      have hi0 := inPl_0 (can := rCn A B W y) (W' := byLawW A B W y) l0
      have him := inPl_mem (W' := byLawW A B W y) hlm
      refine x_aload_n dX12_year_173 rfl ?_
      refine x_aload_n dX12_year_174 rfl ?_
      refine x_iload_n dX12_year_175 rfl ?_
      refine (show X _ _ 176 _ _ _ _ _ _ from ?_)
      refine x_callV (As := [_]) (mc := 0) (ms := 0) (z := mX12_lawful) (ci := 12) dX12_year_176 lX12_466 oX12_lawful (by decide) (by first | assumption) rfl rfl (Nat.le_of_ble_eq_true rfl) (Nat.le_of_ble_eq_true rfl) rfl (hla) (k_I ?_)
      refine (show X _ _ 179 _ _ _ _ _ _ from ?_)
      refine x_iload_n dX12_year_179 rfl ?_
      refine (show X _ _ 180 _ _ _ _ _ _ from ?_)
      refine x_callV (As := [_, _]) (mc := 0) (ms := 0) (z := mX12_traded) (ci := 12) dX12_year_180 lX12_469 oX12_traded (by decide) (by first | assumption) rfl rfl (Nat.le_of_ble_eq_true rfl) (Nat.le_of_ble_eq_true rfl) rfl (htr) (k_I ?_)
      refine (show X _ _ 183 _ _ _ _ _ _ from ?_)
      refine x_istore_n dX12_year_183 (by decide) rfl rfl ?_
      refine (show X _ _ 184 _ _ _ _ _ _ from ?_)
      refine buy _ (byLawW A B W y) _ (by omega) hi0 hib.2 him (by unfold yrWho; rw [hcs, if_pos rfl]) (by unfold yrW; rw [hcs, if_pos rfl]) (fun a j h => lawW_row a j h) (fun c hc => by rw [u2_s, u1_n hc]) (by rw [u2_s, u1_s]) (fun a ha => u2_n ha)
    · -- by the wish
      have hr : y < rw := by omega
      have hc2 := hch hr hcs
      have e22 : E3 22 y = E 22 y := by rw [hE3 22 (by decide) (by decide) (by decide) (by decide)]
      have hpq := rCn_bit hc2.2
      refine x_aload_n dX12_year_163 rfl ?_
      refine x_gr dX12_year_164 fX12_79 (by first | assumption) (fun _ _ _ => rfl) (by first | assumption) ?_
      refine x_iload_n dX12_year_167 rfl ?_
      refine b_iald (r := r) (m := 24) (j := 22) (y) dX12_year_168 (by first | assumption) (by first | rfl | omega) (by omega) (by decide) (by decide) ?_
      refine (show X _ _ 169 _ _ _ _ _ _ from ?_)
      refine X.val e22 ?_
      refine x_istore_n dX12_year_169 (by decide) rfl rfl ?_
      refine x_goto 184 dX12_year_170 (by decide) ?_
      refine x_iload_n dX12_year_184 rfl ?_
      refine x_aload_n dX12_year_185 rfl ?_
      refine b_gi0 (r := r) (m := 24) dX12_year_186 fX12_420 (by first | assumption) (fun _ _ _ => rfl) (by decide) ?_
      refine (show X _ _ 189 _ _ _ _ _ _ from ?_)
      refine X.val erw ?_
      refine y_icmp_lt 199 dX12_year_189 (by decide) ⟨by omega, by omega⟩ ⟨by omega, by omega⟩ (fun h10 => ?_) (fun h10 => ?_)
      rotate_left
      · omega
      have hst : stp A B rw (E 22) W y = takeT A W y (((E 22 y).toNat : Nat) : Int) := by
        unfold stp mwW
        rw [if_pos hr, if_pos hcs, Int.toNat_of_nonneg hc2.1]
      have := q199 (E 22 y).toNat E3 W hst hpq (cn_dd hc2.2) (fun _ _ _ _ => rfl) (fun _ _ => rfl) r2 (fun p hp => (rp p hp).2.2) (fun _ _ _ => rfl)
      rw [Int.toNat_of_nonneg hc2.1] at this hst
      rw [hst]
      exact this
  -- from 106 on
  have part1 : ∀ p : Int, X g mX12_year 106 [.ref r, .int (iI (y : Int)), .int (iI p), jk] [.int (iI (bI (decide (W 0 6 ≠ 0)))), .int (iI (y : Int)), .ref (r + 10)] (T, iV (pB V r 24 (u2 (u2 E 6 y (rTh A B W y : Nat)) 7 y (rCn A B W y : Nat))), R, J, z) k n (fun v M => v = none ∧ ∃ E', M = (T, iV (pB V r 24 E'), R, J, z) ∧ YrQ A (yrE A B E W y) E' W (stp A B rw (E 22) W y) (nst A (stp A B rw (E 22) W y) N y) y) := by
    intro p
    obtain ⟨m0, ⟨-, -, -, -, m20, m21, m22, m23, m24, m25, m26, m27, m28, m29, m30, m31, m32, -, -, m35, m36, m37, -⟩, ⟨-, -, -, -, mk5, mk6, mk7, mk8, mk9, mk10, mk11, mk12, mk13, mk14, mk15, mk16, mk17, -, -, mk20, mk21, mk22, -⟩⟩ := id hM
    refine b_zast (r := r) (m := 24) (j := 10) (y) dX12_year_106 (by first | assumption) (by first | rfl | omega) (by omega) (by decide) (by first | rfl | exact bI_nar _) (by decide) ?_
    refine x_aload_n dX12_year_107 rfl ?_
    refine x_gr dX12_year_108 fX12_39 (by first | assumption) (fun _ _ _ => rfl) (by first | assumption) ?_
    refine x_iload_n dX12_year_111 rfl ?_
    refine y_iconst dX12_year_112 ?_
    refine b_iast (r := r) (m := 24) (j := 9) (y) dX12_year_113 (by first | assumption) (by first | rfl | omega) (by omega) (by decide) (by decide) ?_
    refine y_bipush dX12_year_114 rfl ?_
    refine x_istore_n dX12_year_116 (by decide) rfl rfl ?_
    refine (show X _ _ 117 _ _ _ _ _ _ from ?_)
    exact part2 0
  obtain ⟨m0, ⟨-, -, -, -, m20, m21, m22, m23, m24, m25, m26, m27, m28, m29, m30, m31, m32, -, -, m35, m36, m37, -⟩, ⟨-, -, -, -, mk5, mk6, mk7, mk8, mk9, mk10, mk11, mk12, mk13, mk14, mk15, mk16, mk17, -, -, mk20, mk21, mk22, -⟩⟩ := id hM
  obtain ⟨g0, -, -⟩ := id hG
  unfold apF at hap
  have e3 := hF.1 3 (by decide)
  refine x_aload_n dX12_year_0 rfl ?_
  refine x_gr dX12_year_1 fX12_30 (by first | assumption) (fun _ _ _ => rfl) (by first | assumption) ?_
  refine x_iload_n dX12_year_4 rfl ?_
  refine x_aload_n dX12_year_5 rfl ?_
  refine x_iload_n dX12_year_6 rfl ?_
  refine (show X _ _ 7 _ _ _ _ _ _ from ?_)
  refine x_callV (As := [_]) (mc := 0) (ms := 0) (z := mX12_thereIn) (ci := 12) dX12_year_7 lX12_449 oX12_thereIn (by decide) (by first | assumption) rfl rfl (Nat.le_of_ble_eq_true rfl) (Nat.le_of_ble_eq_true rfl) rfl (hti) (k_I ?_)
  refine (show X _ _ 10 _ _ _ _ _ _ from ?_)
  refine b_iast (r := r) (m := 24) (j := 6) (y) dX12_year_10 (by first | assumption) (by first | rfl | omega) (by omega) (by decide) (by decide) ?_
  refine x_aload_n dX12_year_11 rfl ?_
  refine x_gr dX12_year_12 fX12_33 (by first | assumption) (fun _ _ _ => rfl) (by first | assumption) ?_
  refine x_iload_n dX12_year_15 rfl ?_
  refine y_iconst dX12_year_16 ?_
  refine b_iast (r := r) (m := 24) (j := 7) (y) dX12_year_17 (by first | assumption) (by first | rfl | omega) (by omega) (by decide) (by decide) ?_
  refine y_iconst dX12_year_18 ?_
  refine x_istore_n dX12_year_19 (by decide) rfl rfl ?_
  refine (show X _ _ 20 _ _ _ _ _ _ from ?_)
  refine loopN (P := fun p => X g mX12_year 20 [.ref r, .int (iI (y : Int)), .int (iI (p : Int)), jk] [] (T, iV (pB V r 24 (u2 (u2 E 6 y (rTh A B W y : Nat)) 7 y (sOf p (cnE A B E y) : Nat))), R, J, z) k n (fun v M => v = none ∧ ∃ E', M = (T, iV (pB V r 24 E'), R, J, z) ∧ YrQ A (yrE A B E W y) E' W (stp A B rw (E 22) W y) (nst A (stp A B rw (E 22) W y) N y) y)) (fP A) ?_ (fun p hp ih => ?_)
  · rw [cn_eq hR]
    have rel := hR.2.2.2.2.1
    have r6 := hR.2.2.2.1
    have zero : ∀ p : Int, W 0 6 = 0 → X g mX12_year 105 [.ref r, .int (iI (y : Int)), .int (iI p), jk] [.int (iI (y : Int)), .ref (r + 10)] (T, iV (pB V r 24 (u2 (u2 E 6 y (rTh A B W y : Nat)) 7 y (rCn A B W y : Nat))), R, J, z) k n (fun v M => v = none ∧ ∃ E', M = (T, iV (pB V r 24 E'), R, J, z) ∧ YrQ A (yrE A B E W y) E' W (stp A B rw (E 22) W y) (nst A (stp A B rw (E 22) W y) N y) y) := by
      intro p h
      refine y_iconst dX12_year_105 ?_
      refine (show X _ _ 106 _ _ _ _ _ _ from ?_)
      refine X.val (b := bI (decide (W 0 6 ≠ 0))) (by rw [decide_eq_false (fun c => c h)]; rfl) ?_
      exact part1 p
    refine x_iload_n dX12_year_20 rfl ?_
    refine x_aload_n dX12_year_21 rfl ?_
    refine x_gr dX12_year_22 fX12_409 (by first | assumption) (fun _ _ _ => rfl) (by first | assumption) ?_
    refine b_gio (r := r) (m := 24) dX12_year_25 fX12_230 (by first | assumption) (fun _ _ _ => rfl) (by omega) ?_
    refine (show X _ _ 28 _ _ _ _ _ _ from ?_)
    refine X.val e3 ?_
    refine y_icmp_ge 62 dX12_year_28 (by decide) ⟨by omega, by omega⟩ ⟨by omega, by omega⟩ (fun h1 => ?_) (fun h1 => ?_)
    rotate_left
    · omega
    refine x_aload_n dX12_year_62 rfl ?_
    refine x_gr dX12_year_63 fX12_42 (by first | assumption) (fun _ _ _ => rfl) (by first | assumption) ?_
    refine x_iload_n dX12_year_66 rfl ?_
    refine x_iload_n dX12_year_67 rfl ?_
    refine (show X _ _ 68 _ _ _ _ _ _ from ?_)
    refine y_if_le 105 dX12_year_68 (by decide) ⟨by omega, by omega⟩ (fun h2 => ?_) (fun h2 => ?_)
    · exact zero _ (Classical.byContradiction fun c => (r6.mp c).1 (by omega))
    obtain ⟨d1, d2, d3⟩ := rel (y - 1) (by omega)
    refine x_aload_n dX12_year_71 rfl ?_
    refine x_gr dX12_year_72 fX12_27 (by first | assumption) (fun _ _ _ => rfl) (by first | assumption) ?_
    refine x_iload_n dX12_year_75 rfl ?_
    refine y_iconst dX12_year_76 ?_
    refine y_isub dX12_year_77 ?_
    refine b_iald (r := r) (m := 24) (j := 5) (y - 1) dX12_year_78 (by first | assumption) (by first | rfl | omega) (by omega) (by decide) (by decide) ?_
    refine (show X _ _ 79 _ _ _ _ _ _ from ?_)
    refine X.val (b := W 4 (y - 1)) (by rw [u2_n (by decide), u2_n (by decide)]; exact d1) ?_
    refine y_bipush dX12_year_79 rfl ?_
    refine (show X _ _ 81 _ _ _ _ _ _ from ?_)
    refine y_icmp_eq 105 dX12_year_81 (by decide) ⟨by omega, by omega⟩ ⟨by omega, by omega⟩ (fun h3 => ?_) (fun h3 => ?_)
    · exact zero _ (Classical.byContradiction fun c => by have := (r6.mp c).2.1; omega)
    have d0 : 0 ≤ W 4 (y - 1) := by omega
    have hdq := hd (W 4 (y - 1)).toNat (by omega)
    refine x_aload_n dX12_year_84 rfl ?_
    refine x_gr dX12_year_85 fX12_73 (by first | assumption) (fun _ _ _ => rfl) (by first | assumption) ?_
    refine x_aload_n dX12_year_88 rfl ?_
    refine x_gr dX12_year_89 fX12_27 (by first | assumption) (fun _ _ _ => rfl) (by first | assumption) ?_
    refine x_iload_n dX12_year_92 rfl ?_
    refine y_iconst dX12_year_93 ?_
    refine y_isub dX12_year_94 ?_
    refine b_iald (r := r) (m := 24) (j := 5) (y - 1) dX12_year_95 (by first | assumption) (by first | rfl | omega) (by omega) (by decide) (by decide) ?_
    refine (show X _ _ 96 _ _ _ _ _ _ from ?_)
    refine X.val (b := W 4 (y - 1)) (by rw [u2_n (by decide), u2_n (by decide)]; exact d1) ?_
    refine b_iald (r := r) (m := 24) (j := 20) ((W 4 (y - 1)).toNat) dX12_year_96 (by first | assumption) (by first | rfl | omega) (by omega) (by decide) (by decide) ?_
    refine (show X _ _ 97 _ _ _ _ _ _ from ?_)
    refine X.val (b := E 20 (W 4 (y - 1)).toNat) (by rw [u2_n (by decide), u2_n (by decide)]) ?_
    refine x_iload_n dX12_year_97 rfl ?_
    refine (show X _ _ 98 _ _ _ _ _ _ from ?_)
    refine y_icmp_ne 105 dX12_year_98 (by decide) ⟨by omega, by omega⟩ ⟨by omega, by omega⟩ (fun h4 => ?_) (fun h4 => ?_)
    · exact zero _ (Classical.byContradiction fun c => h4 (r6.mp c).2.2)
    · refine y_iconst dX12_year_101 ?_
      refine x_goto 106 dX12_year_102 (by decide) ?_
      refine (show X _ _ 106 _ _ _ _ _ _ from ?_)
      refine X.val (b := bI (decide (W 0 6 ≠ 0))) (by rw [decide_eq_true (r6.mpr ⟨by omega, d0, h4⟩)]; rfl) ?_
      exact part1 _
  · have es : sOf (p + 1) (cnE A B E y) = if cnE A B E y p then sOf p (cnE A B E y) ||| 2 ^ p else sOf p (cnE A B E y) := rfl
    rw [es] at ih
    have hab := hab (u2 (u2 E 6 y (rTh A B W y : Nat)) 7 y (sOf p (cnE A B E y) : Nat)) (by rw [u2_n (by decide), u2_n (by decide)]) (by rw [u2_n (by decide), u2_n (by decide)]) p hp
    rw [cnE_eq (E := E) (E' := u2 (u2 E 6 y (rTh A B W y : Nat)) 7 y (sOf p (cnE A B E y) : Nat)) (by rw [u2_n (by decide), u2_n (by decide)])] at hab
    refine x_iload_n dX12_year_20 rfl ?_
    refine x_aload_n dX12_year_21 rfl ?_
    refine x_gr dX12_year_22 fX12_409 (by first | assumption) (fun _ _ _ => rfl) (by first | assumption) ?_
    refine b_gio (r := r) (m := 24) dX12_year_25 fX12_230 (by first | assumption) (fun _ _ _ => rfl) (by omega) ?_
    refine (show X _ _ 28 _ _ _ _ _ _ from ?_)
    refine X.val e3 ?_
    refine y_icmp_ge 62 dX12_year_28 (by decide) ⟨by omega, by omega⟩ ⟨by omega, by omega⟩ (fun h1 => ?_) (fun h1 => ?_)
    · omega
    refine x_aload_n dX12_year_31 rfl ?_
    refine x_gr dX12_year_32 fX12_33 (by first | assumption) (fun _ _ _ => rfl) (by first | assumption) ?_
    refine x_iload_n dX12_year_35 rfl ?_
    refine x_dup2 dX12_year_36 rfl rfl ?_
    refine b_iald (r := r) (m := 24) (j := 7) (y) dX12_year_37 (by first | assumption) (by first | rfl | omega) (by omega) (by decide) (by decide) ?_
    refine (show X _ _ 38 _ _ _ _ _ _ from ?_)
    refine X.val (b := ((sOf p (cnE A B E y) : Nat) : Int)) (by rw [u2_s, u1_s]) ?_
    refine x_aload_n dX12_year_38 rfl ?_
    refine x_iload_n dX12_year_39 rfl ?_
    refine x_iload_n dX12_year_40 rfl ?_
    refine (show X _ _ 41 _ _ _ _ _ _ from ?_)
    refine x_callV (As := [_, _]) (mc := 0) (ms := 0) (z := mX12_isAble) (ci := 12) dX12_year_41 lX12_460 oX12_isAble (by decide) (by first | assumption) rfl rfl (Nat.le_of_ble_eq_true rfl) (Nat.le_of_ble_eq_true rfl) rfl (hab) (k_I ?_)
    refine (show X _ _ 44 _ _ _ _ _ _ from ?_)
    refine y_ifb_eq 53 dX12_year_44 (by decide) (fun h2 => ?_) (fun h2 => ?_)
    · rw [h2, if_neg (by decide)] at ih
      refine y_iconst dX12_year_53 ?_
      refine (show X _ _ 54 _ _ _ _ _ _ from ?_)
      refine y_ior (b := 0) dX12_year_54 ?_
      rw [Nat.or_zero]
      refine b_iast (r := r) (m := 24) (j := 7) (y) dX12_year_55 (by first | assumption) (by first | rfl | omega) (by omega) (by decide) (by decide) ?_
      refine y_iinc dX12_year_56 rfl (by decide) rfl rfl ?_
      refine x_goto 20 dX12_year_59 (by decide) ?_
      refine (show X _ _ 20 _ _ _ _ _ _ from ?_)
      rw [u2_same]
      exact ih
    · rw [h2, if_pos rfl] at ih
      refine y_iconst dX12_year_47 ?_
      refine x_iload_n dX12_year_48 rfl ?_
      refine y_ishl (p) dX12_year_49 (by first | rfl | omega) (by omega) ?_
      refine x_goto 54 dX12_year_50 (by decide) ?_
      refine y_ior dX12_year_54 ?_
      refine b_iast (r := r) (m := 24) (j := 7) (y) dX12_year_55 (by first | assumption) (by first | rfl | omega) (by omega) (by decide) (by decide) ?_
      refine y_iinc dX12_year_56 rfl (by decide) rfl rfl ?_
      refine x_goto 20 dX12_year_59 (by decide) ?_
      refine (show X _ _ 20 _ _ _ _ _ _ from ?_)
      rw [u2_same]
      exact ih
end C93
