/-! ===== the class's face: row, rowAt, chain ===== -/
section Kp
variable {A B E E' E2 : Nat → Nat → Int} {m : Nat}
/-- what looking for a row keeps -/
def Kp (m : Nat) (E E' : Nat → Nat → Int) : Prop := (∀ a, a ≠ 1 → a ≠ 3 → a ≠ 4 → (a < 6 ∨ 11 ≤ a) → E' a = E a) ∧ (∀ j, j ≠ m → E' 3 j = E 3 j) ∧ (∀ j, ¬ (4 * m ≤ j ∧ j < 4 * m + m) → E' 4 j = E 4 j) ∧ 0 ≤ E' 3 m
theorem Kp.t (h1 : Kp m E E') (h2 : Kp m E' E2) : Kp m E E2 := ⟨fun a q1 q2 q3 q4 => (h2.1 a q1 q2 q3 q4).trans (h1.1 a q1 q2 q3 q4), fun j hj => (h2.2.1 j hj).trans (h1.2.1 j hj), fun j hj => (h2.2.2.1 j hj).trans (h1.2.2.1 j hj), h2.2.2.2⟩
theorem tr4_end {W : Nat → Nat → Int} {j : Nat} (hj : ¬ (4 * m ≤ j ∧ j < 4 * m + m)) : (trEnd E m W).2 4 j = E 4 j := by
  unfold trEnd
  by_cases h : W 0 8 < E 3 m
  · rw [if_pos h]
    show u1 (u2 (pB E 6 5 W) 3 m (W 0 8)) 4 (cpR (W 4) (E 4) 0 (4 * m) m) 4 j = _
    rw [u1_s, cpR_out hj]
  · rw [if_neg h]
    show pB E 6 5 W 4 j = _
    rw [pB_out (by decide)]
theorem tr4_2 {j : Nat} (hj : ¬ (4 * m ≤ j ∧ j < 4 * m + m)) : ∀ d y (W : Nat → Nat → Int), (tr2 A B E m d y W).2 4 j = E 4 j
  | 0, _, _ => tr4_end hj
  | d + 1, y, W => by
    rw [tr2]
    split
    · exact tr4_2 hj d (y + 1) _
    · exact tr4_end hj
theorem tr4_A {j : Nat} (hj : ¬ (4 * m ≤ j ∧ j < 4 * m + m)) : ∀ d i (W : Nat → Nat → Int), (trA A B E m d i W).2 4 j = E 4 j
  | 0, _, _ => by rw [trA]; exact tr4_2 hj _ _ _
  | d + 1, i, W => by
    rw [trA]
    split
    · split
      · exact tr4_A hj d (i + 1) _
      · show pB E 6 5 (mwW A B W i (E 1 i)) 4 j = _
        rw [pB_out (by decide)]
    · show pB E 6 5 W 4 j = _
      rw [pB_out (by decide)]
theorem fdN_k (hA : VA A) (hm : 1 ≤ m ∧ m ≤ 4) (hL : 0 ≤ E 3 m) : Kp m E (fdN A B m E).2 := by
  have h := tryR_i (B := B) hA hm hL
  obtain ⟨-, h1, h2, h3⟩ := h
  unfold fdN
  refine ⟨fun a q1 q2 q3 q4 => ?_, fun j hj => ?_, fun j hj => ?_, ?_⟩
  · rw [wAnew_o q1]; exact h1 a q2 q3 q4
  · rw [wAnew_o (by decide)]; exact h2 j hj
  · rw [wAnew_o (by decide)]; exact tr4_A hj _ _ _
  · rw [wAnew_o (by decide)]; exact h3.1
theorem fdL_k (hA : VA A) (hm : 1 ≤ m ∧ m ≤ 4) : ∀ c (E : Nat → Nat → Int), 0 ≤ E 3 m → Kp m E (fdL A B m c E)
  | 0, E, hL => ⟨fun _ _ _ _ _ => rfl, fun _ _ => rfl, fun _ _ => rfl, hL⟩
  | c + 1, E, hL => by
    have h := fdN_k (B := B) hA hm hL
    rw [fdL]
    split
    · exact Kp.t h (fdL_k hA hm c _ h.2.2.2)
    · exact h
theorem fdE_k (hA : VA A) (hm : 1 ≤ m ∧ m ≤ 4) (h2 : E 2 m = 0) : Kp m (u2 E 2 m 1) (fdE A B m E) := by
  unfold fdE
  rw [if_pos h2]
  obtain ⟨c1, c2⟩ := cwE_1 (u2 (u2 E 2 m 1) 3 m 1000000000)
  refine Kp.t ?_ (fdL_k hA hm 10000 _ (by rw [c2 _ (by decide), u2_s, u1_s]; decide))
  refine ⟨fun a q1 q2 q3 q4 => by rw [c2 _ q1, u2_n q2], fun j hj => by rw [c2 _ (by decide), u2_s, u1_n hj], fun j hj => by rw [c2 _ (by decide), u2_n (by decide)], by rw [c2 _ (by decide), u2_s, u1_s]; decide⟩
theorem ln_o {who : Nat} {turn : Int} {a : Nat} (ha : a ≠ 5) : ∀ s (E : Nat → Nat → Int), lp s (lnS who turn) E a = E a
  | 0, _ => rfl
  | s + 1, E => by
    rw [lp_s]
    unfold lnS
    split
    · rw [u2_n ha]; exact ln_o ha s E
    · exact ln_o ha s E
theorem pnA_o {a : Nat} (ha : a < 5) : ∀ d i (F : Nat → Nat → Int), (pnA A B d i F).2 a = F a
  | 0, _, _ => rfl
  | d + 1, i, F => by
    rw [pnA]
    split
    · rw [pnA_o ha d (i + 1) _]
      have e1 : pnR A B i F a = F a := pB_out (by omega)
      unfold pnT
      split
      · unfold lnE
        rw [ln_o (by omega)]
        unfold pnN
        rw [pB_out (by omega), e1]
      · exact e1
    · rfl
theorem fcN_o {a : Nat} (ha : a < 5) (h1 : a ≠ 1) : (fcN A B E).2 a = E a := by
  unfold fcN
  rw [wAnew_o h1]
  unfold passN
  rw [pnA_o ha]
  unfold pnB
  rw [pB_out (by omega), pB_out (by omega)]
theorem fcL_o {a : Nat} (ha : a < 5) (h1 : a ≠ 1) : ∀ c (E : Nat → Nat → Int), fcL A B c E a = E a
  | 0, _ => rfl
  | c + 1, E => by
    rw [fcL]
    split
    · rw [fcL_o ha h1 c _, fcN_o ha h1]
    · exact fcN_o ha h1
theorem fcL_ok (hA : VA A) (hB : VB A B) : ∀ c (E : Nat → Nat → Int), FcOk E → FcOk (fcL A B c E)
  | 0, _, h => h
  | c + 1, E, h => by
    rw [fcL]
    split
    · exact fcL_ok hA hB c _ (fcN_ok hA hB h)
    · exact fcN_ok hA hB h
theorem fcE_o {a : Nat} (ha : a < 5) (h1 : a ≠ 1) (h7 : E 0 7 = 0) : fcE A B E a = u2 E 0 7 1 a := by
  unfold fcE
  rw [if_pos h7, fcL_o ha h1]
  unfold fc0
  rw [(cwE_1 _).2 a h1]
  have hc : ∀ j, j < 80 → lp 80 fc1 (u2 E 0 7 1) 5 j = -2 := (fc1_ok 80).1
  rw [(fc2_ok (fun j hj => by rw [hc j hj]; omega) _).2 a (by omega), (fc1_ok 80).2 a (by omega)]
theorem fcE_n (hA : VA A) (hB : VB A B) (hN : NOk (fun j => E (11 + j))) (h7 : E 0 7 = 0) : FcOk (fcE A B E) := by
  unfold fcE
  rw [if_pos h7]
  exact fcL_ok hA hB _ _ (fc0_ok hN)
end Kp
section C80
variable {g : GG} {T : Nat → Nat × Nat} {V V' A B : Nat → Nat → Int} {R : Nat → Nat → Option Nat} {J : Nat → Nat → Int64} {z k n : Nat} {o fw fr : Nat} {σ : Nat → Nat} {t : Nat → Int} {tp : Nat} {h : Bool} {a m : Nat} {H K : Nat → Nat → Nat → Int} {wr pl tr : Int}
/-- cells of Rows alone have changed -/
theorem CI_rw (hI : CI T R V o fw fr σ t tp true A B a m H K wr pl tr) (he : ∀ b, b < o + 176 ∨ o + 190 ≤ b → V' b = V b) (hn : NOk (fun j => V' (o + 187 + j))) (hb : (∀ m, m < 5 → 0 ≤ V' (o + 178) m ∧ V' (o + 178) m ≤ 1) ∧ (0 ≤ V' (o + 176) 7 ∧ V' (o + 176) 7 ≤ 1)) (hw : RwOk V' o A B) : CI T R V' o fw fr σ t tp true A B a m H K wr pl tr := by
  obtain ⟨hC, ⟨p6, p7⟩, ⟨r1, r2, r4, r9⟩, ⟨x1, x2, x3⟩, hP, ⟨f1, f2, f3, f4⟩, ⟨n1, n2⟩, ⟨w1, w2⟩, g1, g2⟩ := hI
  have hsep := hC.2.2.2.2.2.2.2
  have hσ : ∀ i, i < 12 → σ i < 12 := fun i hi => (hC.2.2.2.1.2.1 i hi).2
  refine ⟨hC, ?_, ?_, ?_, PC_eq hP hσ (fun b q1 q2 => he b (by omega)), ⟨FC_eq f1 f3 (fun b q1 q2 => he b (by omega)), NC_eq f2 (fun b q1 q2 => he b (by omega)), f3, f4⟩, ⟨NOk_eq n1 (fun b q1 q2 => he b (by omega)), hn⟩, hb, fun hh => ?_, g2⟩
  · rw [he o (by omega)]; exact ⟨p6, p7⟩
  · rw [he (o + 1) (by omega)]; exact ⟨r1, r2, r4, r9⟩
  · rw [he (o + 47) (by omega)]; exact ⟨x1, x2, x3⟩
  · obtain ⟨q1, q2, ⟨Ni, Wi, q3, q4⟩, q5, q6⟩ := g1 hh
    exact ⟨q1, AC_eq q2 (fun b c1 c2 => he b (by omega)), ⟨Ni, Wi, q3, AnI_eq q4 (fun j hj => he _ (by omega))⟩, q5, hw⟩
/-- looking for a row: what it answers, and the object behind it -/
theorem c_find2 {x : Nat} (hI : CI T R V o fw fr σ t tp true A B a m H K wr pl tr) (hx : 1 ≤ x ∧ x ≤ 4) : ∃ E : Nat → Nat → Int, E 2 x = 0 ∧ X g mX7_find 0 [.ref (o + 176), .int (iI (x : Int)), jk, jk] [] (T, iV V, R, J, z) k n (fun v M => v = some (.int (iI (fdE A B x E 3 x))) ∧ ∃ V' : Nat → Nat → Int, M = (T, iV V', R, J, z) ∧ (∀ b, b < o + 176 ∨ o + 190 ≤ b → V' b = V b) ∧ (∀ i, i < x → V' (o + 180) (4 * x + i) = fdE A B x E 4 (4 * x + i)) ∧ CI T R V' o fw fr σ t tp true A B a m H K wr pl tr) := by
  have hI0 := hI
  obtain ⟨hC, -, -, -, -, ⟨f1, f2, f3, f4⟩, ⟨n1, n2⟩, ⟨hb1, hb2⟩, g1, -⟩ := hI
  obtain ⟨hy, hAC, -, -, hR1, hR2⟩ := g1 rfl
  have hsep := hC.2.2.2.2.2.2.2
  obtain ⟨-, -, hW, -, -, -, hQ, -⟩ := hC
  have hap : AP14 (o + 176) (o + 53) fw (o + 99) (o + 102) := ⟨by omega, by omega, by omega, by omega⟩
  have hWC : WC V fw (o + 99) (o + 102) A B := ⟨f1, f2, hAC, f3, f4⟩
  have hY := fY24 f3
  have hbx := hb1 x (by omega)
  have fd := c_find (g := g) (J := J) (z := z) (k := k) (n := n) (V := V) (E := fun j => V (o + 176 + j)) (m := x) hQ hW hWC hap hx (by omega) hbx
  rw [pB_self (fun _ _ => rfl)] at fd
  by_cases e : V (o + 178) x = 0
  · refine ⟨fun j => V (o + 176 + j), e, X.mono fd ?_⟩
    rintro v M ⟨rfl, rfl⟩
    have hk := fdE_k (A := A) (B := B) (E := fun j => V (o + 176 + j)) (m := x) f3 hx e
    obtain ⟨k1, k2, k3, k4⟩ := hk
    generalize eE : fdE A B x (fun j => V (o + 176 + j)) = E' at *
    have at' : ∀ j, j < 14 → pB V (o + 176) 14 E' (o + 176 + j) = E' j := fun j hj => pB_at hj
    have a0 : pB V (o + 176) 14 E' (o + 176) = E' 0 := at' 0 (by decide)
    have a2 : pB V (o + 176) 14 E' (o + 178) = E' 2 := at' 2 (by decide)
    have a3 : pB V (o + 176) 14 E' (o + 179) = E' 3 := at' 3 (by decide)
    have a4 : pB V (o + 176) 14 E' (o + 180) = E' 4 := at' 4 (by decide)
    have a5 : pB V (o + 176) 14 E' (o + 181) = E' 5 := at' 5 (by decide)
    have b0 : E' 0 = V (o + 176) := by rw [k1 0 (by decide) (by decide) (by decide) (by decide), u2_n (by decide)]
    have b5 : E' 5 = V (o + 181) := by rw [k1 5 (by decide) (by decide) (by decide) (by decide), u2_n (by decide)]
    have b2 : ∀ j, E' 2 j = if j = x then 1 else V (o + 178) j := by
      intro j
      rw [k1 2 (by decide) (by decide) (by decide) (by decide), u2_s]
      by_cases ej : j = x
      · rw [if_pos ej, ej, u1_s]
      · rw [if_neg ej, u1_n ej]
    refine ⟨rfl, _, rfl, fun b hb => pB_out (by omega), fun i hi => by rw [a4], ?_⟩
    refine CI_rw hI0 (fun b hb => pB_out (by omega)) (NOk.con n2 (fun j hj => ?_)) ⟨fun m hm => ?_, ?_⟩ ⟨fun m h1 h2 h3 => ?_, fun h3 => ?_⟩
    · show pB V (o + 176) 14 E' (o + 187 + j) = V (o + 187 + j)
      have := at' (11 + j) (by omega)
      rw [show o + 176 + (11 + j) = o + 187 + j by omega] at this
      rw [this, k1 (11 + j) (by omega) (by omega) (by omega) (by omega), u2_n (by omega), show o + 176 + (11 + j) = o + 187 + j by omega]
    · rw [a2, b2]
      split
      · omega
      · exact hb1 m hm
    · rw [a0, b0]; exact hb2
    · rw [a2, b2] at h3
      rw [a3, a4]
      by_cases em : m = x
      · subst em
        exact ⟨fun j => V (o + 176 + j), e, by rw [eE], fun i hi => by rw [eE]⟩
      · rw [if_neg em] at h3
        obtain ⟨F, q1, q2, q3⟩ := hR1 m h1 h2 h3
        refine ⟨F, q1, by rw [k2 m em, ← q2, u2_n (by decide)], fun i hi => ?_⟩
        rw [k3 _ (by omega), ← q3 i hi, u2_n (by decide)]
    · rw [a0, b0] at h3
      rw [a5, b5]
      exact hR2 h3
  · have e1 : V (o + 178) x = 1 := by omega
    obtain ⟨E, q1, q2, q3⟩ := hR1 x hx.1 hx.2 e1
    have eE : fdE A B x (fun j => V (o + 176 + j)) = fun j => V (o + 176 + j) := by
      unfold fdE
      rw [if_neg (by exact e)]
    rw [eE, pB_self (fun _ _ => rfl)] at fd
    refine ⟨E, q1, X.mono fd ?_⟩
    rintro v M ⟨rfl, rfl⟩
    exact ⟨by rw [← q2], V, rfl, fun _ _ => rfl, q3, hI0⟩
theorem f_row0 {x : Int} (hI : CI T R V o fw fr σ t tp h A B a m H K wr pl tr) (hx : R32 x) (hb : rTr h x ≠ 0) : X g mX10_row 0 [.ref o, .int (iI x), jk] [] (T, iV V, R, J, z) k n (CQ T R J z V o (some (.int (iI (-1)))) t tp h A B a m H K wr pl (rTr h x)) := by
  have hI0 := hI
  obtain ⟨hC, ⟨p6, p7⟩, -, -, -, ⟨f1, f2, f3, f4⟩, -⟩ := hI
  have hrf := fun y => c_refuse (g := g) (J := J) (z := z) (k := 0) (n := 0) (V := V) (x := y) hC
  have hst := c_rowTrouble (g := g) (J := J) (z := z) (k := 0) (n := 0) (V := V) (y := x) hC p6 hx
  obtain ⟨⟨c0, c1, c2, -⟩, -⟩ := hC
  have hs3 : 0 ≤ rTr h x ∧ rTr h x ≤ 2 := by unfold rTr; split <;> (try split) <;> omega
  refine x_aload_n dX10_row_0 rfl ?_
  refine x_iload_n dX10_row_1 rfl ?_
  refine (show X _ _ 2 _ _ _ _ _ _ from ?_)
  refine x_callV (As := [_]) (mc := 0) (ms := 0) (z := mX10_rowTrouble) (ci := 10) dX10_row_2 lX10_215 oX10_rowTrouble (by decide) (by first | assumption) rfl rfl (Nat.le_of_ble_eq_true rfl) (Nat.le_of_ble_eq_true rfl) rfl (hst) (k_I ?_)
  refine (show X _ _ 5 _ _ _ _ _ _ from ?_)
  refine x_istore_n dX10_row_5 (by decide) rfl rfl ?_
  refine x_iload_n dX10_row_6 rfl ?_
  refine (show X _ _ 7 _ _ _ _ _ _ from ?_)
  refine y_if_eq 18 dX10_row_7 (by decide) ⟨by omega, by omega⟩ (fun e => ?_) (fun e => ?_)
  · exact absurd e hb
  refine x_aload_n dX10_row_10 rfl ?_
  refine x_iload_n dX10_row_11 rfl ?_
  refine (show X _ _ 12 _ _ _ _ _ _ from ?_)
  refine x_callV (As := [_]) (mc := 0) (ms := 0) (z := mX10_refuse) (ci := 10) dX10_row_12 lX10_68 oX10_refuse (by decide) (by first | assumption) rfl rfl (Nat.le_of_ble_eq_true rfl) (Nat.le_of_ble_eq_true rfl) rfl (hrf _) (k_I ?_)
  refine (show X _ _ 15 _ _ _ _ _ _ from ?_)
  refine x_goto 30 dX10_row_15 (by decide) ?_
  refine (show X _ _ 30 _ _ _ _ _ _ from ?_)
  exact x_ireturn dX10_row_30 rfl (CQ_tr hI0 _ _)
theorem rTr_0 {x : Int} (e : rTr h x = 0) : h = true ∧ 1 ≤ x ∧ x ≤ 4 := by
  unfold rTr at e
  split at e
  · split at e
    · cases e
    · rename_i h1 h2; exact ⟨h1, by omega, by omega⟩
  · cases e
theorem f_row {x : Int} (hI : CI T R V o fw fr σ t tp h A B a m H K wr pl tr) (hx : R32 x) (hb : rTr h x = 0) : ∃ E : Nat → Nat → Int, E 2 x.toNat = 0 ∧ X g mX10_row 0 [.ref o, .int (iI x), jk] [] (T, iV V, R, J, z) k n (CQ T R J z V o (some (.int (iI (fdE A B x.toNat E 3 x.toNat)))) t tp h A B a m H K wr pl 0) := by
  obtain ⟨rfl, b1, b2⟩ := rTr_0 hb
  have hI0 := hI
  obtain ⟨E, hE, fd⟩ := c_find2 (g := g) (J := J) (z := z) (k := 0) (n := 0) (x := x.toNat) hI (by omega)
  have ex : ((x.toNat : Nat) : Int) = x := by omega
  rw [ex] at fd
  refine ⟨E, hE, ?_⟩
  obtain ⟨hC, ⟨p6, p7⟩, -⟩ := hI
  have hst := c_rowTrouble (g := g) (J := J) (z := z) (k := 0) (n := 0) (V := V) (y := x) hC p6 hx
  rw [hb] at hst
  have hC0 := hC
  obtain ⟨⟨c0, c1, c2, c3, c4, c5, c6⟩, -, -, -, -, -, hQ, -⟩ := hC
  have q0 := hQ.1.1
  refine x_aload_n dX10_row_0 rfl ?_
  refine x_iload_n dX10_row_1 rfl ?_
  refine (show X _ _ 2 _ _ _ _ _ _ from ?_)
  refine x_callV (As := [_]) (mc := 0) (ms := 0) (z := mX10_rowTrouble) (ci := 10) dX10_row_2 lX10_215 oX10_rowTrouble (by decide) (by first | assumption) rfl rfl (Nat.le_of_ble_eq_true rfl) (Nat.le_of_ble_eq_true rfl) rfl (hst) (k_I ?_)
  refine (show X _ _ 5 _ _ _ _ _ _ from ?_)
  refine x_istore_n dX10_row_5 (by decide) rfl rfl ?_
  refine x_iload_n dX10_row_6 rfl ?_
  refine (show X _ _ 7 _ _ _ _ _ _ from ?_)
  refine y_if_eq 18 dX10_row_7 (by decide) ⟨by omega, by omega⟩ (fun e => ?_) (fun e => ?_)
  rotate_left
  · exact absurd rfl e
  refine x_aload_n dX10_row_18 rfl ?_
  refine x_aload_n dX10_row_19 rfl ?_
  refine x_gr dX10_row_20 fX10_49 (by first | assumption) (fun _ _ _ => rfl) (by first | assumption) ?_
  refine x_iload_n dX10_row_23 rfl ?_
  refine (show X _ _ 24 _ _ _ _ _ _ from ?_)
  refine x_callV (As := [_]) (mc := 0) (ms := 0) (z := mX7_find) (ci := 7) dX10_row_24 lX10_218 oX7_find (by decide) (by first | assumption) rfl rfl (Nat.le_of_ble_eq_true rfl) (Nat.le_of_ble_eq_true rfl) rfl (fd) (fun v M1 hq => ?_)
  obtain ⟨rfl, V1, rfl, q1, q2, q3⟩ := hq
  have hgr := c_grant (g := g) (J := J) (z := z) (k := 0) (n := 0) (V := V1) (x := fdE A B x.toNat E 3 x.toNat) hC0
  refine (show X _ _ 27 _ [.int (iI (fdE A B x.toNat E 3 x.toNat)), .ref o] _ _ _ _ from ?_)
  refine x_callV (As := [_]) (mc := 0) (ms := 0) (z := mX10_grant) (ci := 10) dX10_row_27 lX10_116 oX10_grant (by decide) (by first | assumption) rfl rfl (Nat.le_of_ble_eq_true rfl) (Nat.le_of_ble_eq_true rfl) rfl (hgr) (k_I ?_)
  refine (show X _ _ 30 _ _ _ _ _ _ from ?_)
  refine x_ireturn dX10_row_30 rfl ⟨rfl, _, R, fw, fr, σ, rfl, fun b hb => ⟨by rw [u2_n (by omega), q1 b (by omega)], rfl⟩, CI_tr q3 0⟩
theorem f_rowAt0 {x i : Int} (hI : CI T R V o fw fr σ t tp h A B a m H K wr pl tr) (hx : R32 x) (hi : R32 i) (hb : ¬ (rTr h x = 0 ∧ 0 ≤ i ∧ i < x)) : X g mX10_rowAt 0 [.ref o, .int (iI x), .int (iI i), jk] [] (T, iV V, R, J, z) k n (CQ T R J z V o (some (.int (iI (-1)))) t tp h A B a m H K wr pl (if rTr h x = 0 then 1 else rTr h x)) := by
  have hI0 := hI
  obtain ⟨hC, ⟨p6, p7⟩, -, -, -, ⟨f1, f2, f3, f4⟩, -⟩ := hI
  have hrf := fun y => c_refuse (g := g) (J := J) (z := z) (k := 0) (n := 0) (V := V) (x := y) hC
  have hst := c_rowTrouble (g := g) (J := J) (z := z) (k := 0) (n := 0) (V := V) (y := x) hC p6 hx
  obtain ⟨⟨c0, c1, c2, -⟩, -⟩ := hC
  obtain ⟨hx1, hx2⟩ := hx
  obtain ⟨hi1, hi2⟩ := hi
  have hs3 : 0 ≤ rTr h x ∧ rTr h x ≤ 2 := by unfold rTr; split <;> (try split) <;> omega
  refine x_aload_n dX10_rowAt_0 rfl ?_
  refine x_iload_n dX10_rowAt_1 rfl ?_
  refine (show X _ _ 2 _ _ _ _ _ _ from ?_)
  refine x_callV (As := [_]) (mc := 0) (ms := 0) (z := mX10_rowTrouble) (ci := 10) dX10_rowAt_2 lX10_215 oX10_rowTrouble (by decide) (by first | assumption) rfl rfl (Nat.le_of_ble_eq_true rfl) (Nat.le_of_ble_eq_true rfl) rfl (hst) (k_I ?_)
  refine (show X _ _ 5 _ _ _ _ _ _ from ?_)
  refine x_istore_n dX10_rowAt_5 (by decide) rfl rfl ?_
  refine x_iload_n dX10_rowAt_6 rfl ?_
  refine (show X _ _ 7 _ _ _ _ _ _ from ?_)
  refine y_if_eq 16 dX10_rowAt_7 (by decide) ⟨by omega, by omega⟩ (fun e => ?_) (fun e => ?_)
  rotate_left
  · rw [if_neg e]
    refine x_aload_n dX10_rowAt_10 rfl ?_
    refine x_iload_n dX10_rowAt_11 rfl ?_
    refine (show X _ _ 12 _ _ _ _ _ _ from ?_)
    refine x_callV (As := [_]) (mc := 0) (ms := 0) (z := mX10_refuse) (ci := 10) dX10_rowAt_12 lX10_68 oX10_refuse (by decide) (by first | assumption) rfl rfl (Nat.le_of_ble_eq_true rfl) (Nat.le_of_ble_eq_true rfl) rfl (hrf _) (k_I ?_)
    refine (show X _ _ 15 _ _ _ _ _ _ from ?_)
    exact x_ireturn dX10_rowAt_15 rfl (CQ_tr hI0 _ _)
  rw [if_pos e]
  have t1 : X g mX10_rowAt 25 [.ref o, .int (iI x), .int (iI i), .int (iI (rTr h x))] [] (T, iV V, R, J, z) k n (CQ T R J z V o (some (.int (iI (-1)))) t tp h A B a m H K wr pl 1) := by
    refine x_aload_n dX10_rowAt_25 rfl ?_
    refine y_iconst dX10_rowAt_26 ?_
    refine (show X _ _ 27 _ _ _ _ _ _ from ?_)
    refine x_callV (As := [_]) (mc := 0) (ms := 0) (z := mX10_refuse) (ci := 10) dX10_rowAt_27 lX10_68 oX10_refuse (by decide) (by first | assumption) rfl rfl (Nat.le_of_ble_eq_true rfl) (Nat.le_of_ble_eq_true rfl) rfl (hrf _) (k_I ?_)
    refine (show X _ _ 30 _ _ _ _ _ _ from ?_)
    exact x_ireturn dX10_rowAt_30 rfl (CQ_tr hI0 _ _)
  refine x_iload_n dX10_rowAt_16 rfl ?_
  refine (show X _ _ 17 _ _ _ _ _ _ from ?_)
  refine y_if_lt 25 dX10_rowAt_17 (by decide) ⟨by omega, by omega⟩ (fun e1 => ?_) (fun e1 => ?_)
  · exact t1
  refine x_iload_n dX10_rowAt_20 rfl ?_
  refine x_iload_n dX10_rowAt_21 rfl ?_
  refine (show X _ _ 22 _ _ _ _ _ _ from ?_)
  refine y_icmp_lt 31 dX10_rowAt_22 (by decide) ⟨by omega, by omega⟩ ⟨by omega, by omega⟩ (fun e2 => ?_) (fun e2 => ?_)
  · exact absurd ⟨e, e1, e2⟩ hb
  · exact t1
theorem f_rowAt {x i : Int} (hI : CI T R V o fw fr σ t tp h A B a m H K wr pl tr) (hx : R32 x) (hb : rTr h x = 0) (hi : 0 ≤ i ∧ i < x) : ∃ E : Nat → Nat → Int, E 2 x.toNat = 0 ∧ X g mX10_rowAt 0 [.ref o, .int (iI x), .int (iI i), jk] [] (T, iV V, R, J, z) k n (CQ T R J z V o (some (.int (iI (fdE A B x.toNat E 4 (4 * x.toNat + i.toNat))))) t tp h A B a m H K wr pl 0) := by
  obtain ⟨rfl, b1, b2⟩ := rTr_0 hb
  have hI0 := hI
  obtain ⟨E, hE, fd⟩ := c_find2 (g := g) (J := J) (z := z) (k := 0) (n := 0) (x := x.toNat) hI (by omega)
  have ex : ((x.toNat : Nat) : Int) = x := by omega
  rw [ex] at fd
  refine ⟨E, hE, ?_⟩
  obtain ⟨hC, ⟨p6, p7⟩, -⟩ := hI
  have hst := c_rowTrouble (g := g) (J := J) (z := z) (k := 0) (n := 0) (V := V) (y := x) hC p6 hx
  rw [hb] at hst
  have hC0 := hC
  obtain ⟨⟨c0, c1, c2, c3, c4, c5, c6⟩, -, -, -, -, -, hQ, -⟩ := hC
  obtain ⟨⟨q0, -⟩, ⟨-, -, -, qr4, -⟩, ⟨-, -, -, qt4, -⟩, -⟩ := hQ
  refine x_aload_n dX10_rowAt_0 rfl ?_
  refine x_iload_n dX10_rowAt_1 rfl ?_
  refine (show X _ _ 2 _ _ _ _ _ _ from ?_)
  refine x_callV (As := [_]) (mc := 0) (ms := 0) (z := mX10_rowTrouble) (ci := 10) dX10_rowAt_2 lX10_215 oX10_rowTrouble (by decide) (by first | assumption) rfl rfl (Nat.le_of_ble_eq_true rfl) (Nat.le_of_ble_eq_true rfl) rfl (hst) (k_I ?_)
  refine (show X _ _ 5 _ _ _ _ _ _ from ?_)
  refine x_istore_n dX10_rowAt_5 (by decide) rfl rfl ?_
  refine x_iload_n dX10_rowAt_6 rfl ?_
  refine (show X _ _ 7 _ _ _ _ _ _ from ?_)
  refine y_if_eq 16 dX10_rowAt_7 (by decide) ⟨by omega, by omega⟩ (fun e => ?_) (fun e => ?_)
  rotate_left
  · exact absurd rfl e
  refine x_iload_n dX10_rowAt_16 rfl ?_
  refine (show X _ _ 17 _ _ _ _ _ _ from ?_)
  refine y_if_lt 25 dX10_rowAt_17 (by decide) ⟨by omega, by omega⟩ (fun e1 => ?_) (fun e1 => ?_)
  · omega
  refine x_iload_n dX10_rowAt_20 rfl ?_
  refine x_iload_n dX10_rowAt_21 rfl ?_
  refine (show X _ _ 22 _ _ _ _ _ _ from ?_)
  refine y_icmp_lt 31 dX10_rowAt_22 (by decide) ⟨by omega, by omega⟩ ⟨by omega, by omega⟩ (fun e2 => ?_) (fun e2 => ?_)
  rotate_left
  · omega
  refine x_aload_n dX10_rowAt_31 rfl ?_
  refine x_gr dX10_rowAt_32 fX10_49 (by first | assumption) (fun _ _ _ => rfl) (by first | assumption) ?_
  refine x_iload_n dX10_rowAt_35 rfl ?_
  refine (show X _ _ 36 _ _ _ _ _ _ from ?_)
  refine x_callV (As := [_]) (mc := 0) (ms := 0) (z := mX7_find) (ci := 7) dX10_rowAt_36 lX10_218 oX7_find (by decide) (by first | assumption) rfl rfl (Nat.le_of_ble_eq_true rfl) (Nat.le_of_ble_eq_true rfl) rfl (fd) (fun v M1 hq => ?_)
  obtain ⟨rfl, V1, rfl, q1, q2, q3⟩ := hq
  have hgr := c_grant (g := g) (J := J) (z := z) (k := 0) (n := 0) (V := V1) (x := fdE A B x.toNat E 4 (4 * x.toNat + i.toNat)) hC0
  refine (show X _ _ 39 _ [.int (iI (fdE A B x.toNat E 3 x.toNat))] _ _ _ _ from ?_)
  refine x_pop dX10_rowAt_39 rfl ?_
  refine x_aload_n dX10_rowAt_40 rfl ?_
  refine x_aload_n dX10_rowAt_41 rfl ?_
  refine x_gr dX10_rowAt_42 fX10_49 (by first | assumption) (fun _ _ _ => rfl) (by first | assumption) ?_
  refine x_gr dX10_rowAt_45 fX10_221 (by first | assumption) (fun _ _ _ => rfl) (by first | assumption) ?_
  refine x_iload_n dX10_rowAt_48 rfl ?_
  refine y_iconst dX10_rowAt_49 ?_
  refine y_imul dX10_rowAt_50 ?_
  refine (show X _ _ 51 _ _ _ _ _ _ from ?_)
  refine x_iload_n dX10_rowAt_51 rfl ?_
  refine y_iadd dX10_rowAt_52 ?_
  refine y_iald (4 * x.toNat + i.toNat) dX10_rowAt_53 (by first | assumption) (by first | rfl | omega) (by omega) (by decide) ?_
  refine (show X _ _ 54 _ _ _ _ _ _ from ?_)
  refine X.val (q2 i.toNat (by omega)) ?_
  refine x_callV (As := [_]) (mc := 0) (ms := 0) (z := mX10_grant) (ci := 10) dX10_rowAt_54 lX10_116 oX10_grant (by decide) (by first | assumption) rfl rfl (Nat.le_of_ble_eq_true rfl) (Nat.le_of_ble_eq_true rfl) rfl (hgr) (k_I ?_)
  refine (show X _ _ 57 _ _ _ _ _ _ from ?_)
  refine x_ireturn dX10_rowAt_57 rfl ⟨rfl, _, R, fw, fr, σ, rfl, fun b hb => ⟨by rw [u2_n (by omega), q1 b (by omega)], rfl⟩, CI_tr q3 0⟩
theorem c_chains2 (hI : CI T R V o fw fr σ t tp true A B a m H K wr pl tr) : ∃ E : Nat → Nat → Int, E 0 7 = 0 ∧ NOk (fun j => E (11 + j)) ∧ X g mX7_findChains 0 [.ref (o + 176), jk, jk] [] (T, iV V, R, J, z) k n (fun v M => v = none ∧ ∃ V' : Nat → Nat → Int, M = (T, iV V', R, J, z) ∧ (∀ b, b < o + 176 ∨ o + 190 ≤ b → V' b = V b) ∧ (∀ i, i < 80 → V' (o + 181) i = fcE A B E 5 i) ∧ CI T R V' o fw fr σ t tp true A B a m H K wr pl tr) := by
  have hI0 := hI
  obtain ⟨hC, -, -, -, -, ⟨f1, f2, f3, f4⟩, ⟨n1, n2⟩, ⟨hb1, hb2⟩, g1, -⟩ := hI
  obtain ⟨hy, hAC, -, -, hR1, hR2⟩ := g1 rfl
  have hsep := hC.2.2.2.2.2.2.2
  obtain ⟨-, -, hW, -, -, -, hQ, -⟩ := hC
  have hap : AP14 (o + 176) (o + 53) fw (o + 99) (o + 102) := ⟨by omega, by omega, by omega, by omega⟩
  have hWC : WC V fw (o + 99) (o + 102) A B := ⟨f1, f2, hAC, f3, f4⟩
  have hY := fY24 f3
  have hN0 : NOk (fun j => (fun j => V (o + 176 + j)) (11 + j)) := NOk.con n2 (fun j hj => by show V (o + 176 + (11 + j)) = V (o + 187 + j); rw [show o + 176 + (11 + j) = o + 187 + j by omega])
  have fd := c_findChains (g := g) (J := J) (z := z) (k := k) (n := n) (V := V) (E := fun j => V (o + 176 + j)) hQ hW hWC hap (by omega) hN0 hb2
  rw [pB_self (fun _ _ => rfl)] at fd
  by_cases e : V (o + 176) 7 = 0
  · refine ⟨fun j => V (o + 176 + j), e, hN0, X.mono fd ?_⟩
    rintro v M ⟨rfl, rfl⟩
    have hk := fun (c : Nat) (h1 : c < 5) (h2 : c ≠ 1) => fcE_o (A := A) (B := B) (E := fun j => V (o + 176 + j)) h1 h2 e
    have hF := fcE_n (A := A) (B := B) (E := fun j => V (o + 176 + j)) f3 f4 hN0 e
    generalize eE : fcE A B (fun j => V (o + 176 + j)) = E' at *
    have at' : ∀ j, j < 14 → pB V (o + 176) 14 E' (o + 176 + j) = E' j := fun j hj => pB_at hj
    have a0 : pB V (o + 176) 14 E' (o + 176) = E' 0 := at' 0 (by decide)
    have a2 : pB V (o + 176) 14 E' (o + 178) = E' 2 := at' 2 (by decide)
    have a3 : pB V (o + 176) 14 E' (o + 179) = E' 3 := at' 3 (by decide)
    have a4 : pB V (o + 176) 14 E' (o + 180) = E' 4 := at' 4 (by decide)
    have a5 : pB V (o + 176) 14 E' (o + 181) = E' 5 := at' 5 (by decide)
    have b2 : E' 2 = V (o + 178) := by rw [hk 2 (by decide) (by decide), u2_n (by decide)]
    have b3 : E' 3 = V (o + 179) := by rw [hk 3 (by decide) (by decide), u2_n (by decide)]
    have b4 : E' 4 = V (o + 180) := by rw [hk 4 (by decide) (by decide), u2_n (by decide)]
    have b0 : E' 0 7 = 1 := by rw [hk 0 (by decide) (by decide), u2_s, u1_s]
    refine ⟨rfl, _, rfl, fun b hb => pB_out (by omega), fun i hi => by rw [a5], ?_⟩
    refine CI_rw hI0 (fun b hb => pB_out (by omega)) (NOk.con hF.1 (fun j hj => ?_)) ⟨fun m hm => ?_, ?_⟩ ⟨fun m h1 h2 h3 => ?_, fun h3 => ?_⟩
    · show pB V (o + 176) 14 E' (o + 187 + j) = E' (11 + j)
      have := at' (11 + j) (by omega)
      rw [show o + 176 + (11 + j) = o + 187 + j by omega] at this
      exact this
    · rw [a2, b2]; exact hb1 m hm
    · rw [a0, b0]; omega
    · rw [a2, b2] at h3
      rw [a3, a4, b3, b4]
      exact hR1 m h1 h2 h3
    · rw [a5]
      exact ⟨fun j => V (o + 176 + j), e, hN0, fun c hc => by rw [eE]⟩
  · have e1 : V (o + 176) 7 = 1 := by omega
    obtain ⟨E, q1, q2, q3⟩ := hR2 e1
    have eE : fcE A B (fun j => V (o + 176 + j)) = fun j => V (o + 176 + j) := by
      unfold fcE
      rw [if_neg (by exact e)]
    rw [eE, pB_self (fun _ _ => rfl)] at fd
    refine ⟨E, q1, q2, X.mono fd ?_⟩
    rintro v M ⟨rfl, rfl⟩
    exact ⟨rfl, V, rfl, fun _ _ => rfl, q3, hI0⟩
theorem f_chain0 {s p : Int} (hI : CI T R V o fw fr σ t tp h A B a m H K wr pl tr) (hs : R32 s) (hp : R32 p) (hb : ¬ (noS h A s = false ∧ noP h A p = false)) : X g mX10_chain 0 [.ref o, .int (iI s), .int (iI p)] [] (T, iV V, R, J, z) k n (CQ T R J z V o (some (.int (iI (-1)))) t tp h A B a m H K wr pl 1) := by
  have hI0 := hI
  obtain ⟨hC, ⟨p6, p7⟩, -, -, -, ⟨f1, f2, f3, f4⟩, -⟩ := hI
  have hrf := fun y => c_refuse (g := g) (J := J) (z := z) (k := 0) (n := 0) (V := V) (x := y) hC
  have hns := c_isNoSecret (g := g) (J := J) (z := z) (k := 0) (n := 0) (p := s) hC p6 f1 f3 hs
  have hnp := c_isNoPerson (g := g) (J := J) (z := z) (k := 0) (n := 0) (p := p) hC p6 f1 f3 hp
  obtain ⟨⟨c0, c1, c2, -⟩, -⟩ := hC
  have t1 : X g mX10_chain 16 [.ref o, .int (iI s), .int (iI p)] [] (T, iV V, R, J, z) k n (CQ T R J z V o (some (.int (iI (-1)))) t tp h A B a m H K wr pl 1) := by
    refine x_aload_n dX10_chain_16 rfl ?_
    refine y_iconst dX10_chain_17 ?_
    refine (show X _ _ 18 _ _ _ _ _ _ from ?_)
    refine x_callV (As := [_]) (mc := 0) (ms := 0) (z := mX10_refuse) (ci := 10) dX10_chain_18 lX10_68 oX10_refuse (by decide) (by first | assumption) rfl rfl (Nat.le_of_ble_eq_true rfl) (Nat.le_of_ble_eq_true rfl) rfl (hrf _) (k_I ?_)
    refine (show X _ _ 21 _ _ _ _ _ _ from ?_)
    exact x_ireturn dX10_chain_21 rfl (CQ_tr hI0 _ _)
  refine x_aload_n dX10_chain_0 rfl ?_
  refine x_iload_n dX10_chain_1 rfl ?_
  refine (show X _ _ 2 _ _ _ _ _ _ from ?_)
  refine x_callV (As := [_]) (mc := 0) (ms := 0) (z := mX10_isNoSecret) (ci := 10) dX10_chain_2 lX10_129 oX10_isNoSecret (by decide) (by first | assumption) rfl rfl (Nat.le_of_ble_eq_true rfl) (Nat.le_of_ble_eq_true rfl) rfl (hns) (k_I ?_)
  refine (show X _ _ 5 _ _ _ _ _ _ from ?_)
  refine y_ifb_ne 16 dX10_chain_5 (by decide) (fun e => ?_) (fun e => ?_)
  · exact t1
  refine x_aload_n dX10_chain_8 rfl ?_
  refine x_iload_n dX10_chain_9 rfl ?_
  refine (show X _ _ 10 _ _ _ _ _ _ from ?_)
  refine x_callV (As := [_]) (mc := 0) (ms := 0) (z := mX10_isNoPerson) (ci := 10) dX10_chain_10 lX10_109 oX10_isNoPerson (by decide) (by first | assumption) rfl rfl (Nat.le_of_ble_eq_true rfl) (Nat.le_of_ble_eq_true rfl) rfl (hnp) (k_I ?_)
  refine (show X _ _ 13 _ _ _ _ _ _ from ?_)
  refine y_ifb_eq 22 dX10_chain_13 (by decide) (fun e1 => ?_) (fun e1 => ?_)
  · exact absurd ⟨e, e1⟩ hb
  · exact t1
theorem f_chain {s p : Int} (hI : CI T R V o fw fr σ t tp h A B a m H K wr pl tr) (hs : R32 s) (hp : R32 p) (b1 : noS h A s = false) (b2 : noP h A p = false) : ∃ E : Nat → Nat → Int, E 0 7 = 0 ∧ NOk (fun j => E (11 + j)) ∧ X g mX10_chain 0 [.ref o, .int (iI s), .int (iI p)] [] (T, iV V, R, J, z) k n (CQ T R J z V o (some (.int (iI (fcE A B E 5 (10 * s.toNat + p.toNat))))) t tp h A B a m H K wr pl 0) := by
  have b3 := noS_f b1
  have b4 := noP_f b2
  obtain ⟨rfl, b5⟩ := b3
  have hI0 := hI
  obtain ⟨E, hE, hN, fd⟩ := c_chains2 (g := g) (J := J) (z := z) (k := 0) (n := 0) hI
  refine ⟨E, hE, hN, ?_⟩
  obtain ⟨hC, ⟨p6, p7⟩, -, -, -, ⟨f1, f2, f3, f4⟩, -⟩ := hI
  have hns := c_isNoSecret (g := g) (J := J) (z := z) (k := 0) (n := 0) (p := s) hC p6 f1 f3 hs
  have hnp := c_isNoPerson (g := g) (J := J) (z := z) (k := 0) (n := 0) (p := p) hC p6 f1 f3 hp
  have hA3 := f3.2.2.2.1
  have hA6 := f3.2.2.2.2.2.2.1
  have hC0 := hC
  obtain ⟨⟨c0, c1, c2, c3, c4, c5, c6⟩, -, -, -, -, -, hQ, -⟩ := hC
  obtain ⟨⟨q0, -⟩, ⟨-, -, -, -, qr5⟩, ⟨-, -, -, -, qt5⟩, -⟩ := hQ
  refine x_aload_n dX10_chain_0 rfl ?_
  refine x_iload_n dX10_chain_1 rfl ?_
  refine (show X _ _ 2 _ _ _ _ _ _ from ?_)
  refine x_callV (As := [_]) (mc := 0) (ms := 0) (z := mX10_isNoSecret) (ci := 10) dX10_chain_2 lX10_129 oX10_isNoSecret (by decide) (by first | assumption) rfl rfl (Nat.le_of_ble_eq_true rfl) (Nat.le_of_ble_eq_true rfl) rfl (hns) (k_I ?_)
  refine (show X _ _ 5 _ _ _ _ _ _ from ?_)
  refine y_ifb_ne 16 dX10_chain_5 (by decide) (fun e => ?_) (fun e => ?_)
  · rw [b1] at e; cases e
  refine x_aload_n dX10_chain_8 rfl ?_
  refine x_iload_n dX10_chain_9 rfl ?_
  refine (show X _ _ 10 _ _ _ _ _ _ from ?_)
  refine x_callV (As := [_]) (mc := 0) (ms := 0) (z := mX10_isNoPerson) (ci := 10) dX10_chain_10 lX10_109 oX10_isNoPerson (by decide) (by first | assumption) rfl rfl (Nat.le_of_ble_eq_true rfl) (Nat.le_of_ble_eq_true rfl) rfl (hnp) (k_I ?_)
  refine (show X _ _ 13 _ _ _ _ _ _ from ?_)
  refine y_ifb_eq 22 dX10_chain_13 (by decide) (fun e1 => ?_) (fun e1 => ?_)
  rotate_left
  · rw [b2] at e1; cases e1
  refine x_aload_n dX10_chain_22 rfl ?_
  refine x_gr dX10_chain_23 fX10_49 (by first | assumption) (fun _ _ _ => rfl) (by first | assumption) ?_
  refine (show X _ _ 26 _ _ _ _ _ _ from ?_)
  refine x_callV (As := []) (mc := 0) (ms := 0) (z := mX7_findChains) (ci := 7) dX10_chain_26 lX10_224 oX7_findChains (by decide) (by first | assumption) rfl rfl (Nat.le_of_ble_eq_true rfl) (Nat.le_of_ble_eq_true rfl) rfl (fd) (fun v M1 hq => ?_)
  obtain ⟨rfl, V1, rfl, q1, q2, q3⟩ := hq
  have hgr := c_grant (g := g) (J := J) (z := z) (k := 0) (n := 0) (V := V1) (x := fcE A B E 5 (10 * s.toNat + p.toNat)) hC0
  refine (show X _ _ 29 _ [] _ _ _ _ from ?_)
  refine x_aload_n dX10_chain_29 rfl ?_
  refine x_aload_n dX10_chain_30 rfl ?_
  refine x_gr dX10_chain_31 fX10_49 (by first | assumption) (fun _ _ _ => rfl) (by first | assumption) ?_
  refine x_gr dX10_chain_34 fX10_227 (by first | assumption) (fun _ _ _ => rfl) (by first | assumption) ?_
  refine x_iload_n dX10_chain_37 rfl ?_
  refine y_bipush dX10_chain_38 rfl ?_
  refine y_imul dX10_chain_40 ?_
  refine x_iload_n dX10_chain_41 rfl ?_
  refine (show X _ _ 42 _ _ _ _ _ _ from ?_)
  refine y_iadd dX10_chain_42 ?_
  refine y_iald (10 * s.toNat + p.toNat) dX10_chain_43 (by first | assumption) (by first | rfl | omega) (by omega) (by decide) ?_
  refine (show X _ _ 44 _ _ _ _ _ _ from ?_)
  refine X.val (q2 _ (by omega)) ?_
  refine x_callV (As := [_]) (mc := 0) (ms := 0) (z := mX10_grant) (ci := 10) dX10_chain_44 lX10_116 oX10_grant (by decide) (by first | assumption) rfl rfl (Nat.le_of_ble_eq_true rfl) (Nat.le_of_ble_eq_true rfl) rfl (hgr) (k_I ?_)
  refine (show X _ _ 47 _ _ _ _ _ _ from ?_)
  refine x_ireturn dX10_chain_47 rfl ⟨rfl, _, R, fw, fr, σ, rfl, fun b hb => ⟨by rw [u2_n (by omega), q1 b (by omega)], rfl⟩, CI_tr q3 0⟩
end C80
