/-! ===== the reference: buy, undo, mark, back, led ===== -/
section C9e
variable {g : GG} {T : Nat → Nat × Nat} {V E E' A B B' : Nat → Nat → Int} {R : Nat → Nat → Option Nat} {J : Nat → Nat → Int64} {z k n : Nat} {r f : Nat} {t : Nat → Int} {tp : Nat} {h : Bool} {a m a' : Nat} {H K H' : Nat → Nat → Nat → Int} {wr pl tr : Int}
theorem NV_buy {v : Nat → Int} {y p q pr : Int} {c : Nat} (hA : VA A) (hc : B 0 2 = (c : Int)) (h : NV v A B) : NV (u1 (u1 (u1 (u1 (u1 v (13 + 4 * c) y) (13 + 4 * c + 1) p) (13 + 4 * c + 2) q) (13 + 4 * c + 3) pr) 12 (B 0 2 + 1)) A (abW B y p q pr) := by
  have eP := fP10 hA
  obtain ⟨h1, h2, h3, h4, h5⟩ := h
  have ec : (B 0 2).toNat = c := by omega
  unfold abW
  rw [ec]
  refine ⟨?_, ?_, ?_, fun i hi => ?_, fun j hj => ?_⟩
  · rw [u1_n (by omega), u1_n (by omega), u1_n (by omega), u1_n (by omega), u1_n (by omega), u2_s, u1_n (by decide), u2_n (by decide), u2_n (by decide), u2_n (by decide), u2_n (by decide)]; exact h1
  · rw [u1_n (by omega), u1_n (by omega), u1_n (by omega), u1_n (by omega), u1_n (by omega), u2_s, u1_n (by decide), u2_n (by decide), u2_n (by decide), u2_n (by decide), u2_n (by decide)]; exact h2
  · rw [u1_s, u2_s, u1_s]
  · rw [u1_n (by omega), u1_n (by omega), u1_n (by omega), u1_n (by omega), u1_n (by omega), u2_n (by decide), u2_n (by decide), u2_n (by decide), u2_n (by decide), u2_n (by decide)]; exact h4 i hi
  · rw [u2_s, u1_s] at hj
    have hj2 : j < 4 * (c + 1) := by omega
    rw [u1_n (by omega), u2_n (by decide), u2_s, u2_s, u2_s, u2_s]
    by_cases e3 : j = 4 * c + 3
    · rw [e3, show 13 + (4 * c + 3) = 13 + 4 * c + 3 by omega, u1_s, u1_s]
    rw [u1_n (by omega), u1_n e3]
    by_cases e2 : j = 4 * c + 2
    · rw [e2, show 13 + (4 * c + 2) = 13 + 4 * c + 2 by omega, u1_s, u1_s]
    rw [u1_n (by omega), u1_n e2]
    by_cases e1 : j = 4 * c + 1
    · rw [e1, show 13 + (4 * c + 1) = 13 + 4 * c + 1 by omega, u1_s, u1_s]
    rw [u1_n (by omega), u1_n e1]
    by_cases e0 : j = 4 * c
    · rw [e0, u1_s, u1_s]
    rw [u1_n (by omega), u1_n e0]
    exact h5 j (by omega)
theorem k_buy0 {y p q pr : Int} (hI : DI T R V r f E t tp h A B a m H K wr pl tr) (hy : R32 y) (hp : R32 p) (hq : R32 q) (hpr : R32 pr) (hb : ¬ (noPr h A p q = false ∧ ¬ buyBad A y pr ∧ B 0 2 < 8)) {tr' : Int} (t1 : noPr h A p q = true → tr' = 1) (t2 : noPr h A p q = false → buyBad A y pr → tr' = 2) (t3 : noPr h A p q = false → ¬ buyBad A y pr → tr' = 3) : X g mX12_buy 0 [.ref r, .int (iI y), .int (iI p), .int (iI q), .int (iI pr), jk] [] (T, iV (pB V r 24 E), R, J, z) k n (DQ T R J z V r f (some (.int (iI 0))) t tp h A B a m H K wr pl tr') := by
  have hM := hI.1
  have hI1 := DI_sc hI (Sc_th hI 0)
  have hdn := fun x => k_denied (g := g) (V := V) (E := u2 E 0 0 0) (J := J) (z := z) (k := 0) (n := 0) (x := x) hM
  have hip := k_isPerson (g := g) (J := J) (z := z) (k := 0) (n := 0) (p := p) hI1 hp
  have hiq := k_isPerson (g := g) (J := J) (z := z) (k := 0) (n := 0) (p := q) hI1 hq
  have hin := c_in (g := g) (k := 0) (n := 0) (x := pr) (lo := 0) (hi := 99) (M := (T, iV (pB V r 24 (u2 E 0 0 0)), R, J, z)) hpr ⟨by decide, by decide⟩ ⟨by decide, by decide⟩
  obtain ⟨p1, p2⟩ := hp
  obtain ⟨q1, q2⟩ := hq
  obtain ⟨m0, ⟨-, m15, -, -, -, -, -, -, -, -, -, -, -, -, -, -, -, -, -, -, -, -, -⟩, ⟨-, mk2, -, -, -, -, -, -, -, -, -, -, -, -, -, -, -, -, -, -, -, -, -⟩⟩ := id hM
  have bad1 : noPr h A p q = true → X g mX12_buy 26 [.ref r, .int (iI y), .int (iI p), .int (iI q), .int (iI pr), jk] [] (T, iV (pB V r 24 (u2 E 0 0 0)), R, J, z) k n (DQ T R J z V r f (some (.int (iI 0))) t tp h A B a m H K wr pl tr') := by
    intro e
    rw [t1 e]
    refine x_aload_n dX12_buy_26 rfl ?_
    refine y_iconst dX12_buy_27 ?_
    refine (show X _ _ 28 _ _ _ _ _ _ from ?_)
    refine x_callV (As := [_]) (mc := 0) (ms := 0) (z := mX12_denied) (ci := 12) dX12_buy_28 lX12_587 oX12_denied (by decide) (by first | assumption) rfl rfl (Nat.le_of_ble_eq_true rfl) (Nat.le_of_ble_eq_true rfl) rfl (hdn _) (k_I ?_)
    refine (show X _ _ 31 _ _ _ _ _ _ from ?_)
    exact x_zreturn dX12_buy_31 rfl rfl (DQ_tr hI1 1 (by decide) _)
  refine x_aload_n dX12_buy_0 rfl ?_
  refine y_iconst dX12_buy_1 ?_
  refine b_pi0 (r := r) (m := 24) dX12_buy_2 (pX12_85 _) (by first | assumption) (fun _ _ _ => rfl) rfl rfl (by decide) ?_
  refine x_aload_n dX12_buy_5 rfl ?_
  refine x_iload_n dX12_buy_6 rfl ?_
  refine (show X _ _ 7 _ _ _ _ _ _ from ?_)
  refine x_callV (As := [_]) (mc := 0) (ms := 0) (z := mX12_isPerson) (ci := 12) dX12_buy_7 lX12_513 oX12_isPerson (by decide) (by first | assumption) rfl rfl (Nat.le_of_ble_eq_true rfl) (Nat.le_of_ble_eq_true rfl) rfl (hip) (k_I ?_)
  refine (show X _ _ 10 _ _ _ _ _ _ from ?_)
  refine y_ifb_eq 26 dX12_buy_10 (by decide) (fun c1 => ?_) (fun c1 => ?_)
  · exact bad1 (by unfold noPr; cases hc : noP h A p; rw [hc] at c1; cases c1; rfl)
  refine x_aload_n dX12_buy_13 rfl ?_
  refine x_iload_n dX12_buy_14 rfl ?_
  refine (show X _ _ 15 _ _ _ _ _ _ from ?_)
  refine x_callV (As := [_]) (mc := 0) (ms := 0) (z := mX12_isPerson) (ci := 12) dX12_buy_15 lX12_513 oX12_isPerson (by decide) (by first | assumption) rfl rfl (Nat.le_of_ble_eq_true rfl) (Nat.le_of_ble_eq_true rfl) rfl (hiq) (k_I ?_)
  refine (show X _ _ 18 _ _ _ _ _ _ from ?_)
  refine y_ifb_eq 26 dX12_buy_18 (by decide) (fun c2 => ?_) (fun c2 => ?_)
  · exact bad1 (by unfold noPr; cases hc : noP h A q; rw [hc] at c2; cases c2; rw [Bool.or_true]; rfl)
  refine x_iload_n dX12_buy_21 rfl ?_
  refine x_iload_n dX12_buy_22 rfl ?_
  refine (show X _ _ 23 _ _ _ _ _ _ from ?_)
  refine y_icmp_ne 32 dX12_buy_23 (by decide) ⟨by omega, by omega⟩ ⟨by omega, by omega⟩ (fun c3 => ?_) (fun c3 => ?_)
  rotate_left
  · exact bad1 (by unfold noPr; rw [decide_eq_true c3, Bool.or_true])
  have e1 : noP h A p = false := by cases hc : noP h A p; rfl; rw [hc] at c1; cases c1
  have e2 : noP h A q = false := by cases hc : noP h A q; rfl; rw [hc] at c2; cases c2
  have e3 : noPr h A p q = false := by unfold noPr; rw [e1, e2, decide_eq_false c3]; rfl
  obtain ⟨rfl, -⟩ := noP_f e1
  have hiy := k_isYear (g := g) (J := J) (z := z) (k := 0) (n := 0) (p := y) hI1 hy
  obtain ⟨-, ⟨hA, hB, -⟩, hv, -⟩ := hI1.2.2.2.2.2.2 rfl
  have hb2 := hB.2.2.1
  have bad2 : buyBad A y pr → X g mX12_buy 51 [.ref r, .int (iI y), .int (iI p), .int (iI q), .int (iI pr), jk] [] (T, iV (pB V r 24 (u2 E 0 0 0)), R, J, z) k n (DQ T R J z V r f (some (.int (iI 0))) t tp true A B a m H K wr pl tr') := by
    intro e
    rw [t2 e3 e]
    refine x_aload_n dX12_buy_51 rfl ?_
    refine y_iconst dX12_buy_52 ?_
    refine (show X _ _ 53 _ _ _ _ _ _ from ?_)
    refine x_callV (As := [_]) (mc := 0) (ms := 0) (z := mX12_denied) (ci := 12) dX12_buy_53 lX12_587 oX12_denied (by decide) (by first | assumption) rfl rfl (Nat.le_of_ble_eq_true rfl) (Nat.le_of_ble_eq_true rfl) rfl (hdn _) (k_I ?_)
    refine (show X _ _ 56 _ _ _ _ _ _ from ?_)
    exact x_zreturn dX12_buy_56 rfl rfl (DQ_tr hI1 2 (by decide) _)
  refine x_aload_n dX12_buy_32 rfl ?_
  refine x_iload_n dX12_buy_33 rfl ?_
  refine (show X _ _ 34 _ _ _ _ _ _ from ?_)
  refine x_callV (As := [_]) (mc := 0) (ms := 0) (z := mX12_isYear) (ci := 12) dX12_buy_34 lX12_507 oX12_isYear (by decide) (by first | assumption) rfl rfl (Nat.le_of_ble_eq_true rfl) (Nat.le_of_ble_eq_true rfl) rfl (hiy) (k_I ?_)
  refine (show X _ _ 37 _ _ _ _ _ _ from ?_)
  refine y_ifb_eq 51 dX12_buy_37 (by decide) (fun c4 => ?_) (fun c4 => ?_)
  · exact bad2 (Or.inl (by cases hc : noY A y; rw [hc] at c4; cases c4; rfl))
  have e4 : noY A y = false := by cases hc : noY A y; rfl; rw [hc] at c4; cases c4
  refine x_iload dX12_buy_40 rfl ?_
  refine y_iconst dX12_buy_42 ?_
  refine y_bipush dX12_buy_43 rfl ?_
  refine (show X _ _ 45 _ _ _ _ _ _ from ?_)
  refine x_callS (As := [_, _, _]) (mc := 0) (ms := 0) (z := mX12_in) dX12_buy_45 lX12_160 oX12_in (by decide) rfl (Nat.le_of_ble_eq_true rfl) (Nat.le_of_ble_eq_true rfl) rfl (hin) (k_I ?_)
  refine (show X _ _ 48 _ _ _ _ _ _ from ?_)
  refine y_ifb_ne 57 dX12_buy_48 (by decide) (fun c5 => ?_) (fun c5 => ?_)
  rotate_left
  · have c6 := of_decide_eq_false c5
    exact bad2 (Or.inr (by omega))
  have c6 := of_decide_eq_true c5
  have e5 : ¬ buyBad A y pr := fun d => by
    rcases d with d | d | d
    · rw [e4] at d; cases d
    · omega
    · omega
  rw [t3 e3 e5]
  refine x_aload_n dX12_buy_57 rfl ?_
  refine x_gr dX12_buy_58 fX12_17 (by first | assumption) (fun _ _ _ => rfl) (by first | assumption) ?_
  refine y_bipush dX12_buy_61 rfl ?_
  refine b_iald (r := r) (m := 24) (j := 2) (12) dX12_buy_63 (by first | assumption) (by first | rfl | omega) (by omega) (by decide) (by decide) ?_
  refine (show X _ _ 64 _ _ _ _ _ _ from ?_)
  refine X.val hv.2.2.1 ?_
  refine y_bipush dX12_buy_64 rfl ?_
  refine (show X _ _ 66 _ _ _ _ _ _ from ?_)
  refine y_icmp_ne 75 dX12_buy_66 (by decide) ⟨by omega, by omega⟩ ⟨by omega, by omega⟩ (fun c7 => ?_) (fun c7 => ?_)
  · exact absurd ⟨e3, e5, by omega⟩ hb
  refine x_aload_n dX12_buy_69 rfl ?_
  refine y_iconst dX12_buy_70 ?_
  refine (show X _ _ 71 _ _ _ _ _ _ from ?_)
  refine x_callV (As := [_]) (mc := 0) (ms := 0) (z := mX12_denied) (ci := 12) dX12_buy_71 lX12_587 oX12_denied (by decide) (by first | assumption) rfl rfl (Nat.le_of_ble_eq_true rfl) (Nat.le_of_ble_eq_true rfl) rfl (hdn _) (k_I ?_)
  refine (show X _ _ 74 _ _ _ _ _ _ from ?_)
  exact x_zreturn dX12_buy_74 rfl rfl (DQ_tr hI1 3 (by decide) _)
theorem k_buy {y p q pr : Int} (hI : DI T R V r f E t tp h A B a m H K wr pl tr) (hy : R32 y) (hp : R32 p) (hq : R32 q) (hpr : R32 pr) (b1 : noPr h A p q = false) (b2 : ¬ buyBad A y pr) (b3 : B 0 2 < 8) (hVH : ∀ i, i < a → VB A (H i)) (hB' : VB A (abW B y p q pr)) : X g mX12_buy 0 [.ref r, .int (iI y), .int (iI p), .int (iI q), .int (iI pr), jk] [] (T, iV (pB V r 24 E), R, J, z) k n (DQ T R J z V r f (some (.int (iI 1))) t tp true A (abW B y p q pr) (kaN a) m (kaH a H B) K wr pl 0) := by
  have hM := hI.1
  have hI1 := DI_sc hI (Sc_th hI 0)
  obtain ⟨e1, e2, e3⟩ := noPr_f b1
  have hip := k_isPerson (g := g) (J := J) (z := z) (k := 0) (n := 0) (p := p) hI1 hp
  have hiq := k_isPerson (g := g) (J := J) (z := z) (k := 0) (n := 0) (p := q) hI1 hq
  rw [e1] at hip
  rw [e2] at hiq
  obtain ⟨rfl, -⟩ := noP_f e1
  have hiy := k_isYear (g := g) (J := J) (z := z) (k := 0) (n := 0) (p := y) hI1 hy
  have e4 : noY A y = false := by
    cases c : noY A y
    · rfl
    · exact absurd (Or.inl c) b2
  rw [e4] at hiy
  have hin := c_in (g := g) (k := 0) (n := 0) (x := pr) (lo := 0) (hi := 99) (M := (T, iV (pB V r 24 (u2 E 0 0 0)), R, J, z)) hpr ⟨by decide, by decide⟩ ⟨by decide, by decide⟩
  rw [decide_eq_true (show (0 : Int) ≤ pr ∧ pr ≤ 99 from ⟨Int.not_lt.mp fun c => b2 (Or.inr (Or.inl c)), Int.not_lt.mp fun c => b2 (Or.inr (Or.inr c))⟩)] at hin
  have hka := k_keepsAll (g := g) (J := J) (z := z) (k := 0) (n := 0) hI1 hVH
  obtain ⟨p1, p2⟩ := hp
  obtain ⟨q1, q2⟩ := hq
  have ha12 := hI1.2.2.2.1.1.2
  obtain ⟨-, ⟨hA, hB, -⟩, hv, -⟩ := hI1.2.2.2.2.2.2 rfl
  have hb2 := hB.2.2.1
  obtain ⟨c, hc⟩ : ∃ c : Nat, B 0 2 = (c : Int) := ⟨(B 0 2).toNat, by omega⟩
  have hc8 : c < 8 := by omega
  obtain ⟨m0, ⟨-, m15, -, -, -, -, -, -, -, -, -, -, -, -, -, -, -, -, -, -, -, -, -⟩, ⟨-, mk2, -, -, -, -, -, -, -, -, -, -, -, -, -, -, -, -, -, -, -, -, -⟩⟩ := id hM
  refine x_aload_n dX12_buy_0 rfl ?_
  refine y_iconst dX12_buy_1 ?_
  refine b_pi0 (r := r) (m := 24) dX12_buy_2 (pX12_85 _) (by first | assumption) (fun _ _ _ => rfl) rfl rfl (by decide) ?_
  refine x_aload_n dX12_buy_5 rfl ?_
  refine x_iload_n dX12_buy_6 rfl ?_
  refine (show X _ _ 7 _ _ _ _ _ _ from ?_)
  refine x_callV (As := [_]) (mc := 0) (ms := 0) (z := mX12_isPerson) (ci := 12) dX12_buy_7 lX12_513 oX12_isPerson (by decide) (by first | assumption) rfl rfl (Nat.le_of_ble_eq_true rfl) (Nat.le_of_ble_eq_true rfl) rfl (hip) (k_I ?_)
  refine (show X _ _ 10 _ _ _ _ _ _ from ?_)
  refine y_ifb_eq 26 dX12_buy_10 (by decide) (fun c1 => ?_) (fun c1 => ?_)
  · cases c1
  refine x_aload_n dX12_buy_13 rfl ?_
  refine x_iload_n dX12_buy_14 rfl ?_
  refine (show X _ _ 15 _ _ _ _ _ _ from ?_)
  refine x_callV (As := [_]) (mc := 0) (ms := 0) (z := mX12_isPerson) (ci := 12) dX12_buy_15 lX12_513 oX12_isPerson (by decide) (by first | assumption) rfl rfl (Nat.le_of_ble_eq_true rfl) (Nat.le_of_ble_eq_true rfl) rfl (hiq) (k_I ?_)
  refine (show X _ _ 18 _ _ _ _ _ _ from ?_)
  refine y_ifb_eq 26 dX12_buy_18 (by decide) (fun c2 => ?_) (fun c2 => ?_)
  · cases c2
  refine x_iload_n dX12_buy_21 rfl ?_
  refine x_iload_n dX12_buy_22 rfl ?_
  refine (show X _ _ 23 _ _ _ _ _ _ from ?_)
  refine y_icmp_ne 32 dX12_buy_23 (by decide) ⟨by omega, by omega⟩ ⟨by omega, by omega⟩ (fun c3 => ?_) (fun c3 => ?_)
  rotate_left
  · exact absurd c3 e3
  refine x_aload_n dX12_buy_32 rfl ?_
  refine x_iload_n dX12_buy_33 rfl ?_
  refine (show X _ _ 34 _ _ _ _ _ _ from ?_)
  refine x_callV (As := [_]) (mc := 0) (ms := 0) (z := mX12_isYear) (ci := 12) dX12_buy_34 lX12_507 oX12_isYear (by decide) (by first | assumption) rfl rfl (Nat.le_of_ble_eq_true rfl) (Nat.le_of_ble_eq_true rfl) rfl (hiy) (k_I ?_)
  refine (show X _ _ 37 _ _ _ _ _ _ from ?_)
  refine y_ifb_eq 51 dX12_buy_37 (by decide) (fun c4 => ?_) (fun c4 => ?_)
  · cases c4
  refine x_iload dX12_buy_40 rfl ?_
  refine y_iconst dX12_buy_42 ?_
  refine y_bipush dX12_buy_43 rfl ?_
  refine (show X _ _ 45 _ _ _ _ _ _ from ?_)
  refine x_callS (As := [_, _, _]) (mc := 0) (ms := 0) (z := mX12_in) dX12_buy_45 lX12_160 oX12_in (by decide) rfl (Nat.le_of_ble_eq_true rfl) (Nat.le_of_ble_eq_true rfl) rfl (hin) (k_I ?_)
  refine (show X _ _ 48 _ _ _ _ _ _ from ?_)
  refine y_ifb_ne 57 dX12_buy_48 (by decide) (fun c5 => ?_) (fun c5 => ?_)
  rotate_left
  · cases c5
  refine x_aload_n dX12_buy_57 rfl ?_
  refine x_gr dX12_buy_58 fX12_17 (by first | assumption) (fun _ _ _ => rfl) (by first | assumption) ?_
  refine y_bipush dX12_buy_61 rfl ?_
  refine b_iald (r := r) (m := 24) (j := 2) (12) dX12_buy_63 (by first | assumption) (by first | rfl | omega) (by omega) (by decide) (by decide) ?_
  refine (show X _ _ 64 _ _ _ _ _ _ from ?_)
  refine X.val hv.2.2.1 ?_
  refine y_bipush dX12_buy_64 rfl ?_
  refine (show X _ _ 66 _ _ _ _ _ _ from ?_)
  refine y_icmp_ne 75 dX12_buy_66 (by decide) ⟨by omega, by omega⟩ ⟨by omega, by omega⟩ (fun c7 => ?_) (fun c7 => ?_)
  rotate_left
  · omega
  refine x_aload_n dX12_buy_75 rfl ?_
  refine (show X _ _ 76 _ _ _ _ _ _ from ?_)
  refine x_callV (As := []) (mc := 0) (ms := 0) (z := mX12_keepsAll) (ci := 12) dX12_buy_76 lX12_590 oX12_keepsAll (by decide) (by first | assumption) rfl rfl (Nat.le_of_ble_eq_true rfl) (Nat.le_of_ble_eq_true rfl) rfl (hka) (fun v M1 hq => ?_)
  obtain ⟨rfl, E1, rfl, y1, y2, y3, y4⟩ := hq
  refine (show X _ _ 79 _ [] _ _ _ _ from ?_)
  have e12 : E1 2 12 = (c : Int) := by rw [y1 2 (by decide) (by decide), hv.2.2.1, hc]
  have hka12 : kaN a ≤ 12 := by unfold kaN; split <;> omega
  have hE2 : E1 2 = u2 E 0 0 0 2 := y1 2 (by decide) (by decide)
  refine y_bipush dX12_buy_79 rfl ?_
  refine y_iconst dX12_buy_81 ?_
  refine x_aload_n dX12_buy_82 rfl ?_
  refine x_gr dX12_buy_83 fX12_17 (by first | assumption) (fun _ _ _ => rfl) (by first | assumption) ?_
  refine y_bipush dX12_buy_86 rfl ?_
  refine b_iald (r := r) (m := 24) (j := 2) (12) dX12_buy_88 (by first | assumption) (by first | rfl | omega) (by omega) (by decide) (by decide) ?_
  refine (show X _ _ 89 _ _ _ _ _ _ from ?_)
  refine X.val e12 ?_
  refine y_imul dX12_buy_89 ?_
  refine y_iadd dX12_buy_90 ?_
  refine x_istore dX12_buy_91 (by decide) rfl rfl ?_
  refine x_aload_n dX12_buy_93 rfl ?_
  refine x_gr dX12_buy_94 fX12_17 (by first | assumption) (fun _ _ _ => rfl) (by first | assumption) ?_
  refine x_iload dX12_buy_97 rfl ?_
  refine x_iload_n dX12_buy_99 rfl ?_
  refine b_iast (r := r) (m := 24) (j := 2) (13 + 4 * c) dX12_buy_100 (by first | assumption) (by first | rfl | omega) (by omega) (by decide) (by decide) ?_
  refine (show X _ _ 101 _ _ _ _ _ _ from ?_)
  refine x_aload_n dX12_buy_101 rfl ?_
  refine x_gr dX12_buy_102 fX12_17 (by first | assumption) (fun _ _ _ => rfl) (by first | assumption) ?_
  refine x_iload dX12_buy_105 rfl ?_
  refine y_iconst dX12_buy_107 ?_
  refine y_iadd dX12_buy_108 ?_
  refine x_iload_n dX12_buy_109 rfl ?_
  refine b_iast (r := r) (m := 24) (j := 2) (13 + 4 * c + 1) dX12_buy_110 (by first | assumption) (by first | rfl | omega) (by omega) (by decide) (by decide) ?_
  refine x_aload_n dX12_buy_111 rfl ?_
  refine (show X _ _ 112 _ _ _ _ _ _ from ?_)
  refine x_gr dX12_buy_112 fX12_17 (by first | assumption) (fun _ _ _ => rfl) (by first | assumption) ?_
  refine x_iload dX12_buy_115 rfl ?_
  refine y_iconst dX12_buy_117 ?_
  refine y_iadd dX12_buy_118 ?_
  refine x_iload_n dX12_buy_119 rfl ?_
  refine b_iast (r := r) (m := 24) (j := 2) (13 + 4 * c + 2) dX12_buy_120 (by first | assumption) (by first | rfl | omega) (by omega) (by decide) (by decide) ?_
  refine x_aload_n dX12_buy_121 rfl ?_
  refine x_gr dX12_buy_122 fX12_17 (by first | assumption) (fun _ _ _ => rfl) (by first | assumption) ?_
  refine (show X _ _ 125 _ _ _ _ _ _ from ?_)
  refine x_iload dX12_buy_125 rfl ?_
  refine y_iconst dX12_buy_127 ?_
  refine y_iadd dX12_buy_128 ?_
  refine x_iload dX12_buy_129 rfl ?_
  refine b_iast (r := r) (m := 24) (j := 2) (13 + 4 * c + 3) dX12_buy_131 (by first | assumption) (by first | rfl | omega) (by omega) (by decide) (by decide) ?_
  refine x_aload_n dX12_buy_132 rfl ?_
  refine x_gr dX12_buy_133 fX12_17 (by first | assumption) (fun _ _ _ => rfl) (by first | assumption) ?_
  refine y_bipush dX12_buy_136 rfl ?_
  refine (show X _ _ 138 _ _ _ _ _ _ from ?_)
  refine x_dup2 dX12_buy_138 rfl rfl ?_
  refine b_iald (r := r) (m := 24) (j := 2) (12) dX12_buy_139 (by first | assumption) (by first | rfl | omega) (by omega) (by decide) (by decide) ?_
  refine (show X _ _ 140 _ _ _ _ _ _ from ?_)
  refine X.val (b := B 0 2) (by rw [u2_s, u1_n (by omega), u2_s, u1_n (by omega), u2_s, u1_n (by omega), u2_s, u1_n (by omega), e12, hc]) ?_
  refine y_iconst dX12_buy_140 ?_
  refine y_iadd dX12_buy_141 ?_
  refine b_iast (r := r) (m := 24) (j := 2) (12) dX12_buy_142 (by first | assumption) (by first | rfl | omega) (by omega) (by decide) (by decide) ?_
  refine (show X _ _ 143 _ _ _ _ _ _ from ?_)
  generalize hE9 : u2 (u2 (u2 (u2 (u2 E1 2 (13 + 4 * c) y) 2 (13 + 4 * c + 1) p) 2 (13 + 4 * c + 2) q) 2 (13 + 4 * c + 3) pr) 2 12 (B 0 2 + 1) = E9
  have h9 : ∀ b, b ≠ 2 → E9 b = E1 b := fun b hb => by rw [← hE9, u2_n hb, u2_n hb, u2_n hb, u2_n hb, u2_n hb]
  have h92 : E9 2 = u1 (u1 (u1 (u1 (u1 (u2 E 0 0 0 2) (13 + 4 * c) y) (13 + 4 * c + 1) p) (13 + 4 * c + 2) q) (13 + 4 * c + 3) pr) 12 (B 0 2 + 1) := by rw [← hE9, u2_s, u2_s, u2_s, u2_s, u2_s, hE2]
  have hgr := k_granted (g := g) (V := V) (E := E9) (J := J) (z := z) (k := 0) (n := 0) hM
  have hfin : DI T R V r f E9 t tp true A (abW B y p q pr) (kaN a) m (kaH a H B) K wr pl tr := DI_act hI1 (fun d hd => by rw [h9 0 (by decide), y2 d (by omega)]) (by rw [h9 1 (by decide), y1 1 (by decide) (by decide)]) (by rw [h9 4 (by decide), y1 4 (by decide) (by decide)]) (by rw [h92]; exact NV_buy hA hc hv) hB' ⟨by rw [h9 0 (by decide)]; exact y3, hka12⟩ (by rw [h9 3 (by decide)]; exact y4)
  refine x_aload_n dX12_buy_143 rfl ?_
  refine (show X _ _ 144 _ _ _ _ _ _ from ?_)
  refine x_callV (As := []) (mc := 0) (ms := 0) (z := mX12_granted) (ci := 12) dX12_buy_144 lX12_593 oX12_granted (by decide) (by first | assumption) rfl rfl (Nat.le_of_ble_eq_true rfl) (Nat.le_of_ble_eq_true rfl) rfl (hgr) (k_I ?_)
  refine (show X _ _ 147 _ _ _ _ _ _ from ?_)
  exact x_zreturn dX12_buy_147 rfl rfl (DQ_tr hfin 0 (by decide) _)
theorem k_undo0 (hI : DI T R V r f E t tp h A B 0 m H K wr pl tr) : X g mX12_undo 0 [.ref r, jk] [] (T, iV (pB V r 24 E), R, J, z) k n (DQ T R J z V r f (some (.int (iI 0))) t tp h A B 0 m H K wr pl 6) := by
  have hM := hI.1
  have hI1 := DI_sc hI (Sc_th hI 0)
  have hdn := k_denied (g := g) (V := V) (E := u2 E 0 0 0) (J := J) (z := z) (k := 0) (n := 0) (x := 6) hM
  obtain ⟨-, -, -, ⟨⟨d18, -⟩, -⟩, -, d1, d2⟩ := id hI1
  have fin : X g mX12_undo 19 [.ref r, jk] [] (T, iV (pB V r 24 (u2 E 0 0 0)), R, J, z) k n (DQ T R J z V r f (some (.int (iI 0))) t tp h A B 0 m H K wr pl 6) := by
    obtain ⟨m0, ⟨-, m15, m16, -, -, -, -, -, -, -, -, -, -, -, -, -, -, -, -, -, -, -, -⟩, ⟨-, mk2, mk3, -, -, -, -, -, -, -, -, -, -, -, -, -, -, -, -, -, -, -, -⟩⟩ := id hM
    refine x_aload_n dX12_undo_19 rfl ?_
    refine y_bipush dX12_undo_20 rfl ?_
    refine (show X _ _ 22 _ _ _ _ _ _ from ?_)
    refine x_callV (As := [_]) (mc := 0) (ms := 0) (z := mX12_denied) (ci := 12) dX12_undo_22 lX12_587 oX12_denied (by decide) (by first | assumption) rfl rfl (Nat.le_of_ble_eq_true rfl) (Nat.le_of_ble_eq_true rfl) rfl (hdn) (k_I ?_)
    refine (show X _ _ 25 _ _ _ _ _ _ from ?_)
    exact x_zreturn dX12_undo_25 rfl rfl (DQ_tr hI1 6 (by decide) _)
  cases h
  · have hn := (d1 rfl).1
    obtain ⟨m0, ⟨-, m15, m16, -, -, -, -, -, -, -, -, -, -, -, -, -, -, -, -, -, -, -, -⟩, ⟨-, mk2, mk3, -, -, -, -, -, -, -, -, -, -, -, -, -, -, -, -, -, -, -, -⟩⟩ := id hM
    refine x_aload_n dX12_undo_0 rfl ?_
    refine y_iconst dX12_undo_1 ?_
    refine b_pi0 (r := r) (m := 24) dX12_undo_2 (pX12_85 _) (by first | assumption) (fun _ _ _ => rfl) rfl rfl (by decide) ?_
    refine x_aload_n dX12_undo_5 rfl ?_
    refine (show X _ _ 6 _ _ _ _ _ _ from ?_)
    refine x_gn dX12_undo_6 fX12_409 (by first | assumption) (fun _ _ _ => rfl) (by first | assumption) ?_
    refine (show X _ _ 9 _ _ _ _ _ _ from ?_)
    refine x_ifnull_n 19 dX12_undo_9 (by decide) ?_
    refine (show X _ _ 19 _ _ _ _ _ _ from ?_)
    exact fin
  · obtain ⟨⟨hf, -⟩, -⟩ := d2 rfl
    obtain ⟨m0, ⟨-, m15, m16, -, -, -, -, -, -, -, -, -, -, -, -, -, -, -, -, -, -, -, -⟩, ⟨-, mk2, mk3, -, -, -, -, -, -, -, -, -, -, -, -, -, -, -, -, -, -, -, -⟩⟩ := id hM
    refine x_aload_n dX12_undo_0 rfl ?_
    refine y_iconst dX12_undo_1 ?_
    refine b_pi0 (r := r) (m := 24) dX12_undo_2 (pX12_85 _) (by first | assumption) (fun _ _ _ => rfl) rfl rfl (by decide) ?_
    refine x_aload_n dX12_undo_5 rfl ?_
    refine x_gr dX12_undo_6 fX12_409 (by first | assumption) (fun _ _ _ => rfl) (by first | assumption) ?_
    refine (show X _ _ 9 _ _ _ _ _ _ from ?_)
    refine x_ifnull_r dX12_undo_9 ?_
    refine (show X _ _ 12 _ _ _ _ _ _ from ?_)
    refine x_aload_n dX12_undo_12 rfl ?_
    refine b_gi0 (r := r) (m := 24) dX12_undo_13 fX12_411 (by first | assumption) (fun _ _ _ => rfl) (by decide) ?_
    refine (show X _ _ 16 _ _ _ _ _ _ from ?_)
    refine X.val d18 ?_
    refine y_if_ne 26 dX12_undo_16 (by decide) ⟨by omega, by omega⟩ (fun c => ?_) (fun c => ?_)
    · exact absurd rfl c
    exact fin
theorem k_undo {c : Nat} (hI : DI T R V r f E t tp h A B (c + 1) m H K wr pl tr) (hVH : ∀ i, i < c + 1 → VB A (H i)) : X g mX12_undo 0 [.ref r, jk] [] (T, iV (pB V r 24 E), R, J, z) k n (DQ T R J z V r f (some (.int (iI 1))) t tp true A (H c) c m H K wr pl 0) := by
  have hM := hI.1
  have hI1 := DI_sc hI (Sc_th hI 0)
  have hh : h = true := by
    cases h
    · have := (hI.2.2.2.2.2.1 rfl).2.1; omega
    · rfl
  subst hh
  obtain ⟨-, -, -, ⟨⟨d18, d18b⟩, -⟩, -, d1, d2⟩ := id hI1
  obtain ⟨⟨hf, -⟩, ⟨hA, hB, -⟩, hv, hH, -⟩ := d2 rfl
  obtain ⟨m0, ⟨-, m15, m16, -, -, -, -, -, -, -, -, -, -, -, -, -, -, -, -, -, -, -, -⟩, ⟨-, mk2, mk3, -, -, -, -, -, -, -, -, -, -, -, -, -, -, -, -, -, -, -, -⟩⟩ := id hM
  refine x_aload_n dX12_undo_0 rfl ?_
  refine y_iconst dX12_undo_1 ?_
  refine b_pi0 (r := r) (m := 24) dX12_undo_2 (pX12_85 _) (by first | assumption) (fun _ _ _ => rfl) rfl rfl (by decide) ?_
  refine x_aload_n dX12_undo_5 rfl ?_
  refine x_gr dX12_undo_6 fX12_409 (by first | assumption) (fun _ _ _ => rfl) (by first | assumption) ?_
  refine (show X _ _ 9 _ _ _ _ _ _ from ?_)
  refine x_ifnull_r dX12_undo_9 ?_
  refine (show X _ _ 12 _ _ _ _ _ _ from ?_)
  refine x_aload_n dX12_undo_12 rfl ?_
  refine b_gi0 (r := r) (m := 24) dX12_undo_13 fX12_411 (by first | assumption) (fun _ _ _ => rfl) (by decide) ?_
  refine (show X _ _ 16 _ _ _ _ _ _ from ?_)
  refine X.val d18 ?_
  refine y_if_ne 26 dX12_undo_16 (by decide) ⟨by omega, by omega⟩ (fun c1 => ?_) (fun c1 => ?_)
  rotate_left
  · omega
  refine x_aload_n dX12_undo_26 rfl ?_
  refine x_dup dX12_undo_27 rfl ?_
  refine b_gi0 (r := r) (m := 24) dX12_undo_28 fX12_411 (by first | assumption) (fun _ _ _ => rfl) (by decide) ?_
  refine (show X _ _ 31 _ _ _ _ _ _ from ?_)
  refine X.val d18 ?_
  refine y_iconst dX12_undo_31 ?_
  refine y_isub dX12_undo_32 ?_
  refine b_pi0 (r := r) (m := 24) dX12_undo_33 (pX12_411 _) (by first | assumption) (fun _ _ _ => rfl) rfl rfl (by decide) ?_
  refine y_iconst dX12_undo_36 ?_
  refine x_istore_n dX12_undo_37 (by decide) rfl rfl ?_
  refine (show X _ _ 38 _ _ _ _ _ _ from ?_)
  generalize hE1 : u2 (u2 E 0 0 0) 0 18 (((c + 1 : Nat) : Int) - 1) = E1
  have e1 : ∀ b, b ≠ 0 → E1 b = u2 E 0 0 0 b := fun b hb => by rw [← hE1, u2_n hb]
  have e18 : E1 0 18 = (c : Int) := by rw [← hE1, u2_s, u1_s]; omega
  have e0 : ∀ d, d ≠ 18 → E1 0 d = u2 E 0 0 0 0 d := fun d hd => by rw [← hE1, u2_s, u1_n hd]
  refine loopN (P := fun i => ∀ E2 : Nat → Nat → Int, (∀ b, b ≠ 2 → E2 b = E1 b) → (∀ j, j < i → E2 2 j = E1 3 (45 * c + j)) → X g mX12_undo 38 [.ref r, .int (iI (i : Int))] [] (T, iV (pB V r 24 E2), R, J, z) k n (DQ T R J z V r f (some (.int (iI 1))) t tp true A (H c) c m H K wr pl 0)) 45 ?_ (fun i hi ih => ?_) E1 (fun _ _ => rfl) (fun j hj => absurd hj (by omega))
  · intro E2 w1 w2
    have hgr := k_granted (g := g) (V := V) (E := E2) (J := J) (z := z) (k := 0) (n := 0) hM
    have hfin : DI T R V r f E2 t tp true A (H c) c m H K wr pl tr := DI_act hI1 (fun d hd => by rw [w1 0 (by decide), e0 d (by omega)]) (by rw [w1 1 (by decide), e1 1 (by decide)]) (by rw [w1 4 (by decide), e1 4 (by decide)]) (NV_eq hA (hVH c (by omega)) (hH c (by omega)) (fun j hj => by rw [w2 j hj, e1 3 (by decide)])) (hVH c (by omega)) ⟨by rw [w1 0 (by decide)]; exact e18, by omega⟩ (by rw [w1 3 (by decide), e1 3 (by decide)]; exact fun i hi => hH i (by omega))
    refine x_iload_n dX12_undo_38 rfl ?_
    refine y_bipush dX12_undo_39 rfl ?_
    refine (show X _ _ 41 _ _ _ _ _ _ from ?_)
    refine y_icmp_ge 70 dX12_undo_41 (by decide) ⟨by omega, by omega⟩ ⟨by omega, by omega⟩ (fun c2 => ?_) (fun c2 => ?_)
    rotate_left
    · omega
    refine x_aload_n dX12_undo_70 rfl ?_
    refine (show X _ _ 71 _ _ _ _ _ _ from ?_)
    refine x_callV (As := []) (mc := 0) (ms := 0) (z := mX12_granted) (ci := 12) dX12_undo_71 lX12_593 oX12_granted (by decide) (by first | assumption) rfl rfl (Nat.le_of_ble_eq_true rfl) (Nat.le_of_ble_eq_true rfl) rfl (hgr) (k_I ?_)
    refine (show X _ _ 74 _ _ _ _ _ _ from ?_)
    exact x_zreturn dX12_undo_74 rfl rfl (DQ_tr hfin 0 (by decide) _)
  · intro E2 w1 w2
    refine x_iload_n dX12_undo_38 rfl ?_
    refine y_bipush dX12_undo_39 rfl ?_
    refine (show X _ _ 41 _ _ _ _ _ _ from ?_)
    refine y_icmp_ge 70 dX12_undo_41 (by decide) ⟨by omega, by omega⟩ ⟨by omega, by omega⟩ (fun c2 => ?_) (fun c2 => ?_)
    · omega
    refine x_aload_n dX12_undo_44 rfl ?_
    refine x_gr dX12_undo_45 fX12_17 (by first | assumption) (fun _ _ _ => rfl) (by first | assumption) ?_
    refine x_iload_n dX12_undo_48 rfl ?_
    refine x_aload_n dX12_undo_49 rfl ?_
    refine x_gr dX12_undo_50 fX12_21 (by first | assumption) (fun _ _ _ => rfl) (by first | assumption) ?_
    refine y_bipush dX12_undo_53 rfl ?_
    refine x_aload_n dX12_undo_55 rfl ?_
    refine b_gi0 (r := r) (m := 24) dX12_undo_56 fX12_411 (by first | assumption) (fun _ _ _ => rfl) (by decide) ?_
    refine (show X _ _ 59 _ _ _ _ _ _ from ?_)
    refine X.val (b := (c : Int)) (by rw [w1 0 (by decide)]; exact e18) ?_
    refine y_imul dX12_undo_59 ?_
    refine x_iload_n dX12_undo_60 rfl ?_
    refine y_iadd dX12_undo_61 ?_
    refine b_iald (r := r) (m := 24) (j := 3) (45 * c + i) dX12_undo_62 (by first | assumption) (by first | rfl | omega) (by omega) (by decide) (by decide) ?_
    refine b_iast (r := r) (m := 24) (j := 2) (i) dX12_undo_63 (by first | assumption) (by first | rfl | omega) (by omega) (by decide) (by decide) ?_
    refine y_iinc dX12_undo_64 rfl (by decide) rfl rfl ?_
    refine x_goto 38 dX12_undo_67 (by decide) ?_
    refine (show X _ _ 38 _ _ _ _ _ _ from ?_)
    refine ih _ (fun b hb => by rw [u2_n hb, w1 b hb]) (fun j hj => ?_)
    rw [u2_s]
    by_cases e : j = i
    · rw [e, u1_s, w1 3 (by decide)]
    · rw [u1_n e]; exact w2 j (by omega)
theorem k_mark0 (hI : DI T R V r f E t tp h A B a m H K wr pl tr) (hb : ¬ (h = true ∧ m < 3)) : X g mX12_mark 0 [.ref r, jk] [] (T, iV (pB V r 24 E), R, J, z) k n (DQ T R J z V r f (some (.int (iI (-1)))) t tp h A B a m H K wr pl (if h = true then 3 else 1)) := by
  have hM := hI.1
  have hI1 := DI_sc hI (Sc_th hI 0)
  have hrf := fun x => k_refused (g := g) (V := V) (E := u2 E 0 0 0) (J := J) (z := z) (k := 0) (n := 0) (x := x) hM
  obtain ⟨-, -, -, ⟨-, d19, d19b⟩, -, d1, d2⟩ := id hI1
  cases h
  · have hn := (d1 rfl).1
    rw [if_neg (by decide)]
    obtain ⟨m0, ⟨-, m15, -, m17, -, -, -, -, -, -, -, -, -, -, -, -, -, -, -, -, -, -, -⟩, ⟨-, mk2, -, mk4, -, -, -, -, -, -, -, -, -, -, -, -, -, -, -, -, -, -, -⟩⟩ := id hM
    refine x_aload_n dX12_mark_0 rfl ?_
    refine y_iconst dX12_mark_1 ?_
    refine b_pi0 (r := r) (m := 24) dX12_mark_2 (pX12_85 _) (by first | assumption) (fun _ _ _ => rfl) rfl rfl (by decide) ?_
    refine x_aload_n dX12_mark_5 rfl ?_
    refine (show X _ _ 6 _ _ _ _ _ _ from ?_)
    refine x_gn dX12_mark_6 fX12_409 (by first | assumption) (fun _ _ _ => rfl) (by first | assumption) ?_
    refine (show X _ _ 9 _ _ _ _ _ _ from ?_)
    refine x_ifnonnull_n dX12_mark_9 ?_
    refine (show X _ _ 12 _ _ _ _ _ _ from ?_)
    refine x_aload_n dX12_mark_12 rfl ?_
    refine y_iconst dX12_mark_13 ?_
    refine (show X _ _ 14 _ _ _ _ _ _ from ?_)
    refine x_callV (As := [_]) (mc := 0) (ms := 0) (z := mX12_refused) (ci := 12) dX12_mark_14 lX12_91 oX12_refused (by decide) (by first | assumption) rfl rfl (Nat.le_of_ble_eq_true rfl) (Nat.le_of_ble_eq_true rfl) rfl (hrf _) (k_I ?_)
    refine (show X _ _ 17 _ _ _ _ _ _ from ?_)
    exact x_ireturn dX12_mark_17 rfl (DQ_tr hI1 1 (by decide) _)
  · obtain ⟨⟨hf, -⟩, -⟩ := d2 rfl
    rw [if_pos rfl]
    obtain ⟨m0, ⟨-, m15, -, m17, -, -, -, -, -, -, -, -, -, -, -, -, -, -, -, -, -, -, -⟩, ⟨-, mk2, -, mk4, -, -, -, -, -, -, -, -, -, -, -, -, -, -, -, -, -, -, -⟩⟩ := id hM
    refine x_aload_n dX12_mark_0 rfl ?_
    refine y_iconst dX12_mark_1 ?_
    refine b_pi0 (r := r) (m := 24) dX12_mark_2 (pX12_85 _) (by first | assumption) (fun _ _ _ => rfl) rfl rfl (by decide) ?_
    refine x_aload_n dX12_mark_5 rfl ?_
    refine x_gr dX12_mark_6 fX12_409 (by first | assumption) (fun _ _ _ => rfl) (by first | assumption) ?_
    refine (show X _ _ 9 _ _ _ _ _ _ from ?_)
    refine x_ifnonnull_r 18 dX12_mark_9 (by decide) ?_
    refine (show X _ _ 18 _ _ _ _ _ _ from ?_)
    refine x_aload_n dX12_mark_18 rfl ?_
    refine b_gi0 (r := r) (m := 24) dX12_mark_19 fX12_414 (by first | assumption) (fun _ _ _ => rfl) (by decide) ?_
    refine (show X _ _ 22 _ _ _ _ _ _ from ?_)
    refine X.val d19 ?_
    refine y_iconst dX12_mark_22 ?_
    refine (show X _ _ 23 _ _ _ _ _ _ from ?_)
    refine y_icmp_ne 32 dX12_mark_23 (by decide) ⟨by omega, by omega⟩ ⟨by omega, by omega⟩ (fun c => ?_) (fun c => ?_)
    · exact absurd ⟨rfl, by omega⟩ hb
    refine x_aload_n dX12_mark_26 rfl ?_
    refine y_iconst dX12_mark_27 ?_
    refine (show X _ _ 28 _ _ _ _ _ _ from ?_)
    refine x_callV (As := [_]) (mc := 0) (ms := 0) (z := mX12_refused) (ci := 12) dX12_mark_28 lX12_91 oX12_refused (by decide) (by first | assumption) rfl rfl (Nat.le_of_ble_eq_true rfl) (Nat.le_of_ble_eq_true rfl) rfl (hrf _) (k_I ?_)
    refine (show X _ _ 31 _ _ _ _ _ _ from ?_)
    exact x_ireturn dX12_mark_31 rfl (DQ_tr hI1 3 (by decide) _)
theorem k_mark (hI : DI T R V r f E t tp true A B a m H K wr pl tr) (hb : m < 3) (hVK : ∀ i, i < m → VB A (K i)) : X g mX12_mark 0 [.ref r, jk] [] (T, iV (pB V r 24 E), R, J, z) k n (DQ T R J z V r f (some (.int (iI (m : Int)))) t tp true A B a (m + 1) H (fun i => if i = m then B else K i) wr pl 0) := by
  have hM := hI.1
  have hI1 := DI_sc hI (Sc_th hI 0)
  obtain ⟨d1a, ⟨d2a, d3a, d4a⟩, ⟨d5a, d6a, d7a⟩, ⟨d18, d19, d19b⟩, d43, d1, d2⟩ := id hI1
  obtain ⟨⟨hf, hG, hF, hap⟩, ⟨hA, hB, hYY⟩, hv, hH, hK⟩ := d2 rfl
  obtain ⟨m0, ⟨-, m15, -, m17, -, -, -, -, -, -, -, -, -, -, -, -, -, -, -, -, -, -, -⟩, ⟨-, mk2, -, mk4, -, -, -, -, -, -, -, -, -, -, -, -, -, -, -, -, -, -, -⟩⟩ := id hM
  refine x_aload_n dX12_mark_0 rfl ?_
  refine y_iconst dX12_mark_1 ?_
  refine b_pi0 (r := r) (m := 24) dX12_mark_2 (pX12_85 _) (by first | assumption) (fun _ _ _ => rfl) rfl rfl (by decide) ?_
  refine x_aload_n dX12_mark_5 rfl ?_
  refine x_gr dX12_mark_6 fX12_409 (by first | assumption) (fun _ _ _ => rfl) (by first | assumption) ?_
  refine (show X _ _ 9 _ _ _ _ _ _ from ?_)
  refine x_ifnonnull_r 18 dX12_mark_9 (by decide) ?_
  refine (show X _ _ 18 _ _ _ _ _ _ from ?_)
  refine x_aload_n dX12_mark_18 rfl ?_
  refine b_gi0 (r := r) (m := 24) dX12_mark_19 fX12_414 (by first | assumption) (fun _ _ _ => rfl) (by decide) ?_
  refine (show X _ _ 22 _ _ _ _ _ _ from ?_)
  refine X.val d19 ?_
  refine y_iconst dX12_mark_22 ?_
  refine (show X _ _ 23 _ _ _ _ _ _ from ?_)
  refine y_icmp_ne 32 dX12_mark_23 (by decide) ⟨by omega, by omega⟩ ⟨by omega, by omega⟩ (fun c => ?_) (fun c => ?_)
  rotate_left
  · omega
  refine y_iconst dX12_mark_32 ?_
  refine x_istore_n dX12_mark_33 (by decide) rfl rfl ?_
  refine (show X _ _ 34 _ _ _ _ _ _ from ?_)
  generalize hE1 : u2 E 0 0 0 = E1 at *
  refine loopN (P := fun i => ∀ E2 : Nat → Nat → Int, (∀ b, b ≠ 4 → E2 b = E1 b) → (∀ j, E2 4 j = if 45 * m ≤ j ∧ j < 45 * m + i then E1 2 (j - 45 * m) else E1 4 j) → X g mX12_mark 34 [.ref r, .int (iI (i : Int))] [] (T, iV (pB V r 24 E2), R, J, z) k n (DQ T R J z V r f (some (.int (iI (m : Int)))) t tp true A B a (m + 1) H (fun i => if i = m then B else K i) wr pl 0)) 45 ?_ (fun i hi ih => ?_) E1 (fun _ _ => rfl) (fun j => by rw [if_neg (by omega)])
  · intro E2 w1 w2
    refine x_iload_n dX12_mark_34 rfl ?_
    refine y_bipush dX12_mark_35 rfl ?_
    refine (show X _ _ 37 _ _ _ _ _ _ from ?_)
    refine y_icmp_ge 66 dX12_mark_37 (by decide) ⟨by omega, by omega⟩ ⟨by omega, by omega⟩ (fun c2 => ?_) (fun c2 => ?_)
    rotate_left
    · omega
    refine x_aload_n dX12_mark_66 rfl ?_
    refine x_dup dX12_mark_67 rfl ?_
    refine b_gi0 (r := r) (m := 24) dX12_mark_68 fX12_414 (by first | assumption) (fun _ _ _ => rfl) (by decide) ?_
    refine (show X _ _ 71 _ _ _ _ _ _ from ?_)
    refine X.val (b := (m : Int)) (by rw [w1 0 (by decide)]; exact d19) ?_
    refine y_iconst dX12_mark_71 ?_
    refine y_iadd dX12_mark_72 ?_
    refine b_pi0 (r := r) (m := 24) dX12_mark_73 (pX12_414 _) (by first | assumption) (fun _ _ _ => rfl) rfl rfl (by decide) ?_
    refine x_aload_n dX12_mark_76 rfl ?_
    refine x_aload_n dX12_mark_77 rfl ?_
    refine b_gi0 (r := r) (m := 24) dX12_mark_78 fX12_414 (by first | assumption) (fun _ _ _ => rfl) (by decide) ?_
    refine (show X _ _ 81 _ _ _ _ _ _ from ?_)
    refine X.val (b := (m : Int) + 1) (by rw [u2_s, u1_s]) ?_
    refine y_iconst dX12_mark_81 ?_
    refine y_isub dX12_mark_82 ?_
    refine (show X _ _ 83 _ _ _ _ _ _ from ?_)
    rw [show (m : Int) + 1 - 1 = (m : Int) by omega]
    have hu0 : ∀ c, c ≠ 19 → u2 E2 0 19 ((m : Int) + 1) 0 c = E1 0 c := fun c hc => by rw [u2_s, u1_n hc, w1 0 (by decide)]
    have hua : ∀ b, b ≠ 0 → b ≠ 4 → u2 E2 0 19 ((m : Int) + 1) b = E1 b := fun b b0 b4 => by rw [u2_n b0, w1 b b4]
    have hfin : DI T R V r f (u2 E2 0 19 ((m : Int) + 1)) t tp true A B a (m + 1) H (fun i => if i = m then B else K i) wr pl tr := by
      refine ⟨d1a, ⟨by rw [hu0 1 (by decide)]; exact d2a, by rw [hu0 2 (by decide)]; exact d3a, by rw [hu0 12 (by decide)]; exact d4a⟩, ⟨by rw [hua 1 (by decide) (by decide)]; exact d5a, by rw [hu0 6 (by decide)]; exact d6a, d7a⟩, ⟨by rw [hu0 18 (by decide)]; exact d18, by rw [u2_s, u1_s]; rfl, by omega⟩, by rw [hu0 43 (by decide)]; exact d43, (fun c => by cases c), fun _ => ⟨⟨hf, hG, hF, hap⟩, ⟨hA, hB, hYY⟩, by rw [hua 2 (by decide) (by decide)]; exact hv, by rw [hua 3 (by decide) (by decide)]; exact hH, fun i hi => ?_⟩⟩
      rw [u2_n (by decide)]
      by_cases e : i = m
      · show NV _ A (if i = m then B else K i)
        rw [if_pos e, e]
        refine NV_eq hA hB hv (fun j hj => ?_)
        show E2 4 (45 * m + j) = E1 2 j
        rw [w2, if_pos (by omega), show 45 * m + j - 45 * m = j by omega]
      · show NV _ A (if i = m then B else K i)
        rw [if_neg e]
        refine NV_eq hA (hVK i (by omega)) (hK i (by omega)) (fun j hj => ?_)
        show E2 4 (45 * i + j) = E1 4 (45 * i + j)
        rw [w2, if_neg (by omega)]
    have hgo := k_good (g := g) (V := V) (E := u2 E2 0 19 ((m : Int) + 1)) (J := J) (z := z) (k := 0) (n := 0) (x := (m : Int)) hM
    refine x_callV (As := [_]) (mc := 0) (ms := 0) (z := mX12_good) (ci := 12) dX12_mark_83 lX12_95 oX12_good (by decide) (by first | assumption) rfl rfl (Nat.le_of_ble_eq_true rfl) (Nat.le_of_ble_eq_true rfl) rfl (hgo) (k_I ?_)
    refine (show X _ _ 86 _ _ _ _ _ _ from ?_)
    exact x_ireturn dX12_mark_86 rfl (DQ_tr hfin 0 (by decide) _)
  · intro E2 w1 w2
    refine x_iload_n dX12_mark_34 rfl ?_
    refine y_bipush dX12_mark_35 rfl ?_
    refine (show X _ _ 37 _ _ _ _ _ _ from ?_)
    refine y_icmp_ge 66 dX12_mark_37 (by decide) ⟨by omega, by omega⟩ ⟨by omega, by omega⟩ (fun c2 => ?_) (fun c2 => ?_)
    · omega
    refine x_aload_n dX12_mark_40 rfl ?_
    refine x_gr dX12_mark_41 fX12_24 (by first | assumption) (fun _ _ _ => rfl) (by first | assumption) ?_
    refine y_bipush dX12_mark_44 rfl ?_
    refine x_aload_n dX12_mark_46 rfl ?_
    refine b_gi0 (r := r) (m := 24) dX12_mark_47 fX12_414 (by first | assumption) (fun _ _ _ => rfl) (by decide) ?_
    refine (show X _ _ 50 _ _ _ _ _ _ from ?_)
    refine X.val (b := (m : Int)) (by rw [w1 0 (by decide)]; exact d19) ?_
    refine y_imul dX12_mark_50 ?_
    refine x_iload_n dX12_mark_51 rfl ?_
    refine y_iadd dX12_mark_52 ?_
    refine x_aload_n dX12_mark_53 rfl ?_
    refine x_gr dX12_mark_54 fX12_17 (by first | assumption) (fun _ _ _ => rfl) (by first | assumption) ?_
    refine x_iload_n dX12_mark_57 rfl ?_
    refine b_iald (r := r) (m := 24) (j := 2) (i) dX12_mark_58 (by first | assumption) (by first | rfl | omega) (by omega) (by decide) (by decide) ?_
    refine b_iast (r := r) (m := 24) (j := 4) (45 * m + i) dX12_mark_59 (by first | assumption) (by first | rfl | omega) (by omega) (by decide) (by decide) ?_
    refine (show X _ _ 60 _ _ _ _ _ _ from ?_)
    refine y_iinc dX12_mark_60 rfl (by decide) rfl rfl ?_
    refine x_goto 34 dX12_mark_63 (by decide) ?_
    refine (show X _ _ 34 _ _ _ _ _ _ from ?_)
    refine ih _ (fun b hb => by rw [u2_n hb, w1 b hb]) (fun j => ?_)
    rw [u2_s]
    by_cases e : j = 45 * m + i
    · rw [e, u1_s, if_pos (by omega), w1 2 (by decide), show 45 * m + i - 45 * m = i by omega]
    · rw [u1_n e, w2 j]
      by_cases d : 45 * m ≤ j ∧ j < 45 * m + i
      · rw [if_pos d, if_pos (by omega)]
      · rw [if_neg d, if_neg (by omega)]
theorem k_back0 {x : Int} (hI : DI T R V r f E t tp h A B a m H K wr pl tr) (hx : R32 x) (h0 : x < 0 ∨ (m : Int) ≤ x) : X g mX12_back 0 [.ref r, .int (iI x), jk] [] (T, iV (pB V r 24 E), R, J, z) k n (DQ T R J z V r f (some (.int (iI 0))) t tp h A B a m H K wr pl 1) := by
  have hM := hI.1
  have hI1 := DI_sc hI (Sc_th hI 0)
  have hdn := k_denied (g := g) (V := V) (E := u2 E 0 0 0) (J := J) (z := z) (k := 0) (n := 0) (x := 1) hM
  obtain ⟨-, -, -, ⟨-, d19, d19b⟩, -, d1, d2⟩ := id hI1
  obtain ⟨hx1, hx2⟩ := hx
  have fin : X g mX12_back 24 [.ref r, .int (iI x), jk] [] (T, iV (pB V r 24 (u2 E 0 0 0)), R, J, z) k n (DQ T R J z V r f (some (.int (iI 0))) t tp h A B a m H K wr pl 1) := by
    obtain ⟨m0, ⟨-, m15, -, m17, -, -, -, -, -, -, -, -, -, -, -, -, -, -, -, -, -, -, -⟩, ⟨-, mk2, -, mk4, -, -, -, -, -, -, -, -, -, -, -, -, -, -, -, -, -, -, -⟩⟩ := id hM
    refine x_aload_n dX12_back_24 rfl ?_
    refine y_iconst dX12_back_25 ?_
    refine (show X _ _ 26 _ _ _ _ _ _ from ?_)
    refine x_callV (As := [_]) (mc := 0) (ms := 0) (z := mX12_denied) (ci := 12) dX12_back_26 lX12_587 oX12_denied (by decide) (by first | assumption) rfl rfl (Nat.le_of_ble_eq_true rfl) (Nat.le_of_ble_eq_true rfl) rfl (hdn) (k_I ?_)
    refine (show X _ _ 29 _ _ _ _ _ _ from ?_)
    exact x_zreturn dX12_back_29 rfl rfl (DQ_tr hI1 1 (by decide) _)
  cases h
  · have hn := (d1 rfl).1
    obtain ⟨m0, ⟨-, m15, -, m17, -, -, -, -, -, -, -, -, -, -, -, -, -, -, -, -, -, -, -⟩, ⟨-, mk2, -, mk4, -, -, -, -, -, -, -, -, -, -, -, -, -, -, -, -, -, -, -⟩⟩ := id hM
    refine x_aload_n dX12_back_0 rfl ?_
    refine y_iconst dX12_back_1 ?_
    refine b_pi0 (r := r) (m := 24) dX12_back_2 (pX12_85 _) (by first | assumption) (fun _ _ _ => rfl) rfl rfl (by decide) ?_
    refine x_aload_n dX12_back_5 rfl ?_
    refine (show X _ _ 6 _ _ _ _ _ _ from ?_)
    refine x_gn dX12_back_6 fX12_409 (by first | assumption) (fun _ _ _ => rfl) (by first | assumption) ?_
    refine (show X _ _ 9 _ _ _ _ _ _ from ?_)
    refine x_ifnull_n 24 dX12_back_9 (by decide) ?_
    refine (show X _ _ 24 _ _ _ _ _ _ from ?_)
    exact fin
  · obtain ⟨⟨hf, -⟩, -⟩ := d2 rfl
    obtain ⟨m0, ⟨-, m15, -, m17, -, -, -, -, -, -, -, -, -, -, -, -, -, -, -, -, -, -, -⟩, ⟨-, mk2, -, mk4, -, -, -, -, -, -, -, -, -, -, -, -, -, -, -, -, -, -, -⟩⟩ := id hM
    refine x_aload_n dX12_back_0 rfl ?_
    refine y_iconst dX12_back_1 ?_
    refine b_pi0 (r := r) (m := 24) dX12_back_2 (pX12_85 _) (by first | assumption) (fun _ _ _ => rfl) rfl rfl (by decide) ?_
    refine x_aload_n dX12_back_5 rfl ?_
    refine x_gr dX12_back_6 fX12_409 (by first | assumption) (fun _ _ _ => rfl) (by first | assumption) ?_
    refine (show X _ _ 9 _ _ _ _ _ _ from ?_)
    refine x_ifnull_r dX12_back_9 ?_
    refine (show X _ _ 12 _ _ _ _ _ _ from ?_)
    refine x_iload_n dX12_back_12 rfl ?_
    refine (show X _ _ 13 _ _ _ _ _ _ from ?_)
    refine y_if_lt 24 dX12_back_13 (by decide) ⟨by omega, by omega⟩ (fun c => ?_) (fun c => ?_)
    · exact fin
    refine x_iload_n dX12_back_16 rfl ?_
    refine x_aload_n dX12_back_17 rfl ?_
    refine b_gi0 (r := r) (m := 24) dX12_back_18 fX12_414 (by first | assumption) (fun _ _ _ => rfl) (by decide) ?_
    refine (show X _ _ 21 _ _ _ _ _ _ from ?_)
    refine X.val d19 ?_
    refine y_icmp_lt 30 dX12_back_21 (by decide) ⟨by omega, by omega⟩ ⟨by omega, by omega⟩ (fun c2 => ?_) (fun c2 => ?_)
    · omega
    · exact fin
theorem k_back {c : Nat} (hI : DI T R V r f E t tp h A B a m H K wr pl tr) (hc : c < m) (hVK : ∀ i, i < m → VB A (K i)) : X g mX12_back 0 [.ref r, .int (iI (c : Int)), jk] [] (T, iV (pB V r 24 E), R, J, z) k n (DQ T R J z V r f (some (.int (iI 1))) t tp true A (K c) 0 m H K wr pl 0) := by
  have hM := hI.1
  have hI1 := DI_sc hI (Sc_th hI 0)
  have hh : h = true := by
    cases h
    · have := (hI.2.2.2.2.2.1 rfl).2.2; omega
    · rfl
  subst hh
  obtain ⟨-, -, -, ⟨-, d19, d19b⟩, -, d1, d2⟩ := id hI1
  obtain ⟨⟨hf, -⟩, ⟨hA, hB, -⟩, hv, -, hK⟩ := d2 rfl
  obtain ⟨m0, ⟨-, m15, -, m17, -, -, -, -, -, -, -, -, -, -, -, -, -, -, -, -, -, -, -⟩, ⟨-, mk2, -, mk4, -, -, -, -, -, -, -, -, -, -, -, -, -, -, -, -, -, -, -⟩⟩ := id hM
  refine x_aload_n dX12_back_0 rfl ?_
  refine y_iconst dX12_back_1 ?_
  refine b_pi0 (r := r) (m := 24) dX12_back_2 (pX12_85 _) (by first | assumption) (fun _ _ _ => rfl) rfl rfl (by decide) ?_
  refine x_aload_n dX12_back_5 rfl ?_
  refine x_gr dX12_back_6 fX12_409 (by first | assumption) (fun _ _ _ => rfl) (by first | assumption) ?_
  refine (show X _ _ 9 _ _ _ _ _ _ from ?_)
  refine x_ifnull_r dX12_back_9 ?_
  refine (show X _ _ 12 _ _ _ _ _ _ from ?_)
  refine x_iload_n dX12_back_12 rfl ?_
  refine (show X _ _ 13 _ _ _ _ _ _ from ?_)
  refine y_if_lt 24 dX12_back_13 (by decide) ⟨by omega, by omega⟩ (fun c0 => ?_) (fun c0 => ?_)
  · omega
  refine x_iload_n dX12_back_16 rfl ?_
  refine x_aload_n dX12_back_17 rfl ?_
  refine b_gi0 (r := r) (m := 24) dX12_back_18 fX12_414 (by first | assumption) (fun _ _ _ => rfl) (by decide) ?_
  refine (show X _ _ 21 _ _ _ _ _ _ from ?_)
  refine X.val d19 ?_
  refine y_icmp_lt 30 dX12_back_21 (by decide) ⟨by omega, by omega⟩ ⟨by omega, by omega⟩ (fun c1 => ?_) (fun c1 => ?_)
  rotate_left
  · omega
  refine y_iconst dX12_back_30 ?_
  refine x_istore_n dX12_back_31 (by decide) rfl rfl ?_
  refine (show X _ _ 32 _ _ _ _ _ _ from ?_)
  generalize hE1 : u2 E 0 0 0 = E1 at *
  refine loopN (P := fun i => ∀ E2 : Nat → Nat → Int, (∀ b, b ≠ 2 → E2 b = E1 b) → (∀ j, j < i → E2 2 j = E1 4 (45 * c + j)) → X g mX12_back 32 [.ref r, .int (iI (c : Int)), .int (iI (i : Int))] [] (T, iV (pB V r 24 E2), R, J, z) k n (DQ T R J z V r f (some (.int (iI 1))) t tp true A (K c) 0 m H K wr pl 0)) 45 ?_ (fun i hi ih => ?_) E1 (fun _ _ => rfl) (fun j hj => absurd hj (by omega))
  · intro E2 w1 w2
    have hgr := k_granted (g := g) (V := V) (E := u2 E2 0 18 0) (J := J) (z := z) (k := 0) (n := 0) hM
    have hfin : DI T R V r f (u2 E2 0 18 0) t tp true A (K c) 0 m H K wr pl tr := DI_act hI1 (fun d hd => by rw [u2_s, u1_n (by omega), w1 0 (by decide)]) (by rw [u2_n (by decide), w1 1 (by decide)]) (by rw [u2_n (by decide), w1 4 (by decide)]) (by rw [u2_n (by decide)]; exact NV_eq hA (hVK c hc) (hK c hc) (fun j hj => w2 j hj)) (hVK c hc) ⟨by rw [u2_s, u1_s]; rfl, by omega⟩ (fun i hi => absurd hi (by omega))
    refine x_iload_n dX12_back_32 rfl ?_
    refine y_bipush dX12_back_33 rfl ?_
    refine (show X _ _ 35 _ _ _ _ _ _ from ?_)
    refine y_icmp_ge 61 dX12_back_35 (by decide) ⟨by omega, by omega⟩ ⟨by omega, by omega⟩ (fun c2 => ?_) (fun c2 => ?_)
    rotate_left
    · omega
    refine x_aload_n dX12_back_61 rfl ?_
    refine y_iconst dX12_back_62 ?_
    refine b_pi0 (r := r) (m := 24) dX12_back_63 (pX12_411 _) (by first | assumption) (fun _ _ _ => rfl) rfl rfl (by decide) ?_
    refine x_aload_n dX12_back_66 rfl ?_
    refine (show X _ _ 67 _ _ _ _ _ _ from ?_)
    refine x_callV (As := []) (mc := 0) (ms := 0) (z := mX12_granted) (ci := 12) dX12_back_67 lX12_593 oX12_granted (by decide) (by first | assumption) rfl rfl (Nat.le_of_ble_eq_true rfl) (Nat.le_of_ble_eq_true rfl) rfl (hgr) (k_I ?_)
    refine (show X _ _ 70 _ _ _ _ _ _ from ?_)
    exact x_zreturn dX12_back_70 rfl rfl (DQ_tr hfin 0 (by decide) _)
  · intro E2 w1 w2
    refine x_iload_n dX12_back_32 rfl ?_
    refine y_bipush dX12_back_33 rfl ?_
    refine (show X _ _ 35 _ _ _ _ _ _ from ?_)
    refine y_icmp_ge 61 dX12_back_35 (by decide) ⟨by omega, by omega⟩ ⟨by omega, by omega⟩ (fun c2 => ?_) (fun c2 => ?_)
    · omega
    refine x_aload_n dX12_back_38 rfl ?_
    refine x_gr dX12_back_39 fX12_17 (by first | assumption) (fun _ _ _ => rfl) (by first | assumption) ?_
    refine x_iload_n dX12_back_42 rfl ?_
    refine x_aload_n dX12_back_43 rfl ?_
    refine x_gr dX12_back_44 fX12_24 (by first | assumption) (fun _ _ _ => rfl) (by first | assumption) ?_
    refine y_bipush dX12_back_47 rfl ?_
    refine x_iload_n dX12_back_49 rfl ?_
    refine y_imul dX12_back_50 ?_
    refine (show X _ _ 51 _ _ _ _ _ _ from ?_)
    refine x_iload_n dX12_back_51 rfl ?_
    refine y_iadd dX12_back_52 ?_
    refine b_iald (r := r) (m := 24) (j := 4) (45 * c + i) dX12_back_53 (by first | assumption) (by first | rfl | omega) (by omega) (by decide) (by decide) ?_
    refine b_iast (r := r) (m := 24) (j := 2) (i) dX12_back_54 (by first | assumption) (by first | rfl | omega) (by omega) (by decide) (by decide) ?_
    refine y_iinc dX12_back_55 rfl (by decide) rfl rfl ?_
    refine x_goto 32 dX12_back_58 (by decide) ?_
    refine (show X _ _ 32 _ _ _ _ _ _ from ?_)
    refine ih _ (fun b hb => by rw [u2_n hb, w1 b hb]) (fun j hj => ?_)
    rw [u2_s]
    by_cases e : j = i
    · rw [e, u1_s, w1 4 (by decide)]
    · rw [u1_n e]; exact w2 j (by omega)
end C9e
