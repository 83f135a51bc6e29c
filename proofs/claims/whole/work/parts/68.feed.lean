/-! ===== the class's face: feed, know, fair, soonest ===== -/
theorem pu4_b {t : Nat → Int} {p : Nat} {w : Int32} (h : ∀ j, j < 1100 → -128 ≤ t j ∧ t j ≤ 127) : ∀ j, j < 1100 → -128 ≤ pu4 t p w j ∧ pu4 t p w j ≤ 127 := by
  intro j hj
  unfold pu4 u1
  (repeat' split) <;> first | exact byI_b _ _ | exact h j hj
section C68
variable {g : GG} {T : Nat → Nat × Nat} {V V' A B : Nat → Nat → Int} {R : Nat → Nat → Option Nat} {J : Nat → Nat → Int64} {z k n : Nat} {o fw fr : Nat} {σ : Nat → Nat} {t : Nat → Int} {tp : Nat} {h : Bool} {a m : Nat} {H K : Nat → Nat → Nat → Int} {wr pl tr : Int}
/-- only the tape changes -/
theorem CI_tape (hI : CI T R V o fw fr σ t tp h A B a m H K wr pl tr) {t' : Nat → Int} {tp' : Nat} (he : ∀ b, b ≠ o + 1 → b ≠ o + 47 → V' b = V b) (h1 : ∀ c, c ≠ 4 → V' (o + 1) c = V (o + 1) c) (h4 : V' (o + 1) 4 = (tp' : Int)) (ht : V' (o + 47) = t') (hb : ∀ j, j < 1100 → -128 ≤ t' j ∧ t' j ≤ 127) (hp : tp' ≤ 1100) : CI T R V' o fw fr σ t' tp' h A B a m H K wr pl tr := by
  obtain ⟨hC, ⟨p6, p7⟩, ⟨r1, r2, r4, r9⟩, -, hP, ⟨f1, f2, f3, f4⟩, ⟨n1, n2⟩, ⟨w1, w2⟩, g1, g2⟩ := hI
  have hsep := hC.2.2.2.2.2.2.2
  have hσ : ∀ i, i < 12 → σ i < 12 := fun i hi => (hC.2.2.2.1.2.1 i hi).2
  refine ⟨hC, ?_, ⟨(h1 1 (by decide)).trans r1, (h1 2 (by decide)).trans r2, h4, by rw [h1 9 (by decide)]; exact r9⟩, ⟨ht, hb, hp⟩, PC_eq hP hσ (fun b q1 q2 => he b (by omega) (by omega)), ⟨FC_eq f1 f3 (fun b q1 q2 => he b (by omega) (by omega)), NC_eq f2 (fun b q1 q2 => he b (by omega) (by omega)), f3, f4⟩, ⟨NOk_eq n1 (fun b q1 q2 => he b (by omega) (by omega)), NOk_eq n2 (fun b q1 q2 => he b (by omega) (by omega))⟩, ?_, fun hh => ?_, g2⟩
  · rw [he o (by omega) (by omega)]; exact ⟨p6, p7⟩
  · rw [he (o + 178) (by omega) (by omega), he (o + 176) (by omega) (by omega)]; exact ⟨w1, w2⟩
  · obtain ⟨q1, q2, ⟨Ni, Wi, q3, q4⟩, q5, q6⟩ := g1 hh
    refine ⟨q1, AC_eq q2 (fun b c1 c2 => he b (by omega) (by omega)), ⟨Ni, Wi, q3, AnI_eq q4 (fun j hj => he _ (by omega) (by omega))⟩, q5, ?_⟩
    unfold RwOk
    rw [he (o + 178) (by omega) (by omega), he (o + 179) (by omega) (by omega), he (o + 180) (by omega) (by omega), he (o + 176) (by omega) (by omega), he (o + 181) (by omega) (by omega)]
    exact q6
theorem f_feed1 {w1 w2 w3 w4 w5 : Int32} (hI : CI T R V o fw fr σ t tp h A B a m H K wr pl tr) (h0 : 1080 < tp) : X g mX10_feed 0 [.ref o, .int w1, .int w2, .int w3, .int w4, .int w5] [] (T, iV V, R, J, z) k n (CQ T R J z V o (some (.int (iI (-1)))) t tp h A B a m H K wr pl (tr)) := by
  have hI0 := hI
  obtain ⟨hC, -, ⟨r1, r2, r4, r9⟩, ⟨x1, x2, x3⟩, -⟩ := hI
  obtain ⟨⟨c0, c1, -⟩, ⟨⟨s0, -⟩, -⟩, -⟩ := hC
  refine x_aload_n dX10_feed_0 rfl ?_
  refine x_gr dX10_feed_1 fX10_12 (by first | assumption) (fun _ _ _ => rfl) (by first | assumption) ?_
  refine y_gi dX10_feed_4 fX10_61 (by first | assumption) (fun _ _ _ => rfl) ?_
  refine (show X _ _ 7 _ _ _ _ _ _ from ?_)
  refine X.val r4 ?_
  refine y_sipush dX10_feed_7 rfl ?_
  refine (show X _ _ 10 _ _ _ _ _ _ from ?_)
  refine y_icmp_le 15 dX10_feed_10 (by decide) ⟨by omega, by omega⟩ ⟨by omega, by omega⟩ (fun e => ?_) (fun e => ?_)
  · omega
  refine y_iconst dX10_feed_13 ?_
  refine (show X _ _ 14 _ _ _ _ _ _ from ?_)
  exact x_ireturn dX10_feed_14 rfl (CQ_id hI0 _)
theorem f_feed {w1 w2 w3 w4 w5 : Int32} (hI : CI T R V o fw fr σ t tp h A B a m H K wr pl tr) (h0 : tp ≤ 1080) : X g mX10_feed 0 [.ref o, .int w1, .int w2, .int w3, .int w4, .int w5] [] (T, iV V, R, J, z) k n (CQ T R J z V o (some (.int (iI ((tp + 20 : Nat) : Int)))) (pu4 (pu4 (pu4 (pu4 (pu4 t tp w1) (tp + 4) w2) (tp + 8) w3) (tp + 12) w4) (tp + 16) w5) (tp + 20) h A B a m H K wr pl tr) := by
  have hI0 := hI
  obtain ⟨hC, -, ⟨r1, r2, r4, r9⟩, ⟨x1, x2, x3⟩, -⟩ := hI
  obtain ⟨⟨c0, c1, -⟩, ⟨hS, -⟩, -⟩ := hC
  have s0 := hS.1
  have pb := fun (U : Nat → Nat → Int) (w : Int32) (p : Nat) h4 h5 => c_putBytes (g := g) (J := J) (z := z) (k := 0) (n := 0) (V := U) (w := w) (p := p) hS h4 h5
  refine x_aload_n dX10_feed_0 rfl ?_
  refine x_gr dX10_feed_1 fX10_12 (by first | assumption) (fun _ _ _ => rfl) (by first | assumption) ?_
  refine y_gi dX10_feed_4 fX10_61 (by first | assumption) (fun _ _ _ => rfl) ?_
  refine (show X _ _ 7 _ _ _ _ _ _ from ?_)
  refine X.val r4 ?_
  refine y_sipush dX10_feed_7 rfl ?_
  refine (show X _ _ 10 _ _ _ _ _ _ from ?_)
  refine y_icmp_le 15 dX10_feed_10 (by decide) ⟨by omega, by omega⟩ ⟨by omega, by omega⟩ (fun e => ?_) (fun e => ?_)
  rotate_left
  · omega
  refine x_aload_n dX10_feed_15 rfl ?_
  refine x_gr dX10_feed_16 fX10_12 (by first | assumption) (fun _ _ _ => rfl) (by first | assumption) ?_
  refine x_iload_n dX10_feed_19 rfl ?_
  refine (show X _ _ 20 _ _ _ _ _ _ from ?_)
  refine x_callV (As := [_]) (mc := 0) (ms := 0) (z := mX6_putBytes) (ci := 6) dX10_feed_20 lX10_64 oX6_putBytes (by decide) (by first | assumption) rfl rfl (Nat.le_of_ble_eq_true rfl) (Nat.le_of_ble_eq_true rfl) rfl (pb V w1 tp r4 (by omega)) (fun v M1 hq => ?_)
  obtain ⟨rfl, V1, rfl, t1, q14, o1, c1'⟩ := hq
  refine (show X _ _ 23 _ [] _ _ _ _ from ?_)
  refine x_aload_n dX10_feed_23 rfl ?_
  refine x_gr dX10_feed_24 fX10_12 (by first | assumption) (fun _ _ _ => rfl) (by first | assumption) ?_
  refine x_iload_n dX10_feed_27 rfl ?_
  refine (show X _ _ 28 _ _ _ _ _ _ from ?_)
  refine x_callV (As := [_]) (mc := 0) (ms := 0) (z := mX6_putBytes) (ci := 6) dX10_feed_28 lX10_64 oX6_putBytes (by decide) (by first | assumption) rfl rfl (Nat.le_of_ble_eq_true rfl) (Nat.le_of_ble_eq_true rfl) rfl (pb V1 w2 (tp + 4) q14 (by omega)) (fun v M1 hq => ?_)
  obtain ⟨rfl, V2, rfl, t2, q24, o2, c2'⟩ := hq
  refine (show X _ _ 31 _ [] _ _ _ _ from ?_)
  refine x_aload_n dX10_feed_31 rfl ?_
  refine x_gr dX10_feed_32 fX10_12 (by first | assumption) (fun _ _ _ => rfl) (by first | assumption) ?_
  refine x_iload_n dX10_feed_35 rfl ?_
  refine (show X _ _ 36 _ _ _ _ _ _ from ?_)
  refine x_callV (As := [_]) (mc := 0) (ms := 0) (z := mX6_putBytes) (ci := 6) dX10_feed_36 lX10_64 oX6_putBytes (by decide) (by first | assumption) rfl rfl (Nat.le_of_ble_eq_true rfl) (Nat.le_of_ble_eq_true rfl) rfl (pb V2 w3 (tp + 8) q24 (by omega)) (fun v M1 hq => ?_)
  obtain ⟨rfl, V3, rfl, t3, q34, o3, c3'⟩ := hq
  refine (show X _ _ 39 _ [] _ _ _ _ from ?_)
  refine x_aload_n dX10_feed_39 rfl ?_
  refine x_gr dX10_feed_40 fX10_12 (by first | assumption) (fun _ _ _ => rfl) (by first | assumption) ?_
  refine x_iload dX10_feed_43 rfl ?_
  refine (show X _ _ 45 _ _ _ _ _ _ from ?_)
  refine x_callV (As := [_]) (mc := 0) (ms := 0) (z := mX6_putBytes) (ci := 6) dX10_feed_45 lX10_64 oX6_putBytes (by decide) (by first | assumption) rfl rfl (Nat.le_of_ble_eq_true rfl) (Nat.le_of_ble_eq_true rfl) rfl (pb V3 w4 (tp + 12) q34 (by omega)) (fun v M1 hq => ?_)
  obtain ⟨rfl, V4, rfl, t4, q44, o4, c4'⟩ := hq
  refine (show X _ _ 48 _ [] _ _ _ _ from ?_)
  refine x_aload_n dX10_feed_48 rfl ?_
  refine x_gr dX10_feed_49 fX10_12 (by first | assumption) (fun _ _ _ => rfl) (by first | assumption) ?_
  refine x_iload dX10_feed_52 rfl ?_
  refine (show X _ _ 54 _ _ _ _ _ _ from ?_)
  refine x_callV (As := [_]) (mc := 0) (ms := 0) (z := mX6_putBytes) (ci := 6) dX10_feed_54 lX10_64 oX6_putBytes (by decide) (by first | assumption) rfl rfl (Nat.le_of_ble_eq_true rfl) (Nat.le_of_ble_eq_true rfl) rfl (pb V4 w5 (tp + 16) q44 (by omega)) (fun v M1 hq => ?_)
  obtain ⟨rfl, V5, rfl, t5, q54, o5, c5'⟩ := hq
  refine (show X _ _ 57 _ [] _ _ _ _ from ?_)
  refine x_aload_n dX10_feed_57 rfl ?_
  refine x_gr dX10_feed_58 fX10_12 (by first | assumption) (fun _ _ _ => rfl) (by first | assumption) ?_
  refine y_gi dX10_feed_61 fX10_61 (by first | assumption) (fun _ _ _ => rfl) ?_
  refine (show X _ _ 64 _ _ _ _ _ _ from ?_)
  refine X.val (b := ((tp + 20 : Nat) : Int)) q54 ?_
  refine x_ireturn dX10_feed_64 rfl ⟨rfl, V5, R, fw, fr, σ, rfl, fun b hb => ⟨?_, rfl⟩, CI_tape hI0 (fun b h1 h2 => ?_) (fun c hc => ?_) q54 ?_ (pu4_b (pu4_b (pu4_b (pu4_b (pu4_b x2))))) (by omega)⟩
  · rw [o5 b (by omega) (by omega), o4 b (by omega) (by omega), o3 b (by omega) (by omega), o2 b (by omega) (by omega), o1 b (by omega) (by omega)]
  · rw [o5 b h1 h2, o4 b h1 h2, o3 b h1 h2, o2 b h1 h2, o1 b h1 h2]
  · rw [c5' c hc, c4' c hc, c3' c hc, c2' c hc, c1' c hc]
  · rw [t5, t4, t3, t2, t1, x1]
theorem f_know {p : Int} (hI : CI T R V o fw fr σ t tp h A B a m H K wr pl tr) (hp : R32 p) : X g mX10_know 0 [.ref o, .int (iI p)] [] (T, iV V, R, J, z) k n (CQ T R J z V o (some (.int (iI (if noS h A p = true then -1 else knowers A (fun j => V (o + 155 + j)) p.toNat)))) t tp h A B a m H K wr pl (if noS h A p = true then 1 else 0)) := by
  have hno := hI.2.2.2.2.2.2.1.1
  have hI0 := hI
  have hel := an_el hI
  obtain ⟨hC, ⟨p6, p7⟩, -, -, -, ⟨f1, f2, f3, f4⟩, -⟩ := hI
  have hnp := fun (p : Int) hp => c_isNoPerson (g := g) (J := J) (z := z) (k := 0) (n := 0) (p := p) hC p6 f1 f3 hp
  have hns := fun (p : Int) hp => c_isNoSecret (g := g) (J := J) (z := z) (k := 0) (n := 0) (p := p) hC p6 f1 f3 hp
  have hpy := fun (p y : Int) hp hy => c_personYearTrouble (g := g) (J := J) (z := z) (k := 0) (n := 0) (p := p) (y := y) hC p6 f1 f3 hp hy
  have hrf := fun x => c_refuse (g := g) (J := J) (z := z) (k := 0) (n := 0) (V := V) (x := x) hC
  have hgr := fun x => c_grant (g := g) (J := J) (z := z) (k := 0) (n := 0) (V := V) (x := x) hC
  have hsep := hC.2.2.2.2.2.2.2
  obtain ⟨⟨c0, c1, c2, c3, c4, c5, c6⟩, -, ⟨⟨w0, w1, w2, w3⟩, hFS, -⟩, -, hU, -⟩ := hC
  have hf0 := hFS.1
  obtain ⟨fR9, fR10, fR11, fR12, fR13, fR14⟩ := hFS.2.1
  obtain ⟨fT1, fT12, fT25, fT34, fT43, fT44⟩ := hFS.2.2.1
  obtain ⟨u0, u1', u2', u3'⟩ := hU.1
  obtain ⟨v1, v2, v3, v4, v5, v6, v7⟩ := hU.2.1
  have hT6 : T (o + 155 + 6) = (1, 240) := hU.2.2.1.2.2.2.2.2.1
  have ru := hU.2.2.2.1
  have ru0 := ru.1.1
  have ru2 : R (o + 155 + 8) 13 = some (o + 155 + 8 + 3) := ru.2.1.2.2.1
  have ru3 : T (o + 155 + 8 + 3) = (1, 10) := ru.2.2.2.2.1
  have hA0 := f3.1
  have hA3 := f3.2.2.2.1
  have hA6 := f3.2.2.2.2.2.2.1
  have hns := hns p hp
  refine x_aload_n dX10_know_0 rfl ?_
  refine x_iload_n dX10_know_1 rfl ?_
  refine (show X _ _ 2 _ _ _ _ _ _ from ?_)
  refine x_callV (As := [_]) (mc := 0) (ms := 0) (z := mX10_isNoSecret) (ci := 10) dX10_know_2 lX10_129 oX10_isNoSecret (by decide) (by first | assumption) rfl rfl (Nat.le_of_ble_eq_true rfl) (Nat.le_of_ble_eq_true rfl) rfl (hns) (k_I ?_)
  refine (show X _ _ 5 _ _ _ _ _ _ from ?_)
  refine y_ifb_eq 16 dX10_know_5 (by decide) (fun e => ?_) (fun e => ?_)
  rotate_left
  · rw [if_pos e, if_pos e]
    refine x_aload_n dX10_know_8 rfl ?_
    refine y_iconst dX10_know_9 ?_
    refine (show X _ _ 10 _ _ _ _ _ _ from ?_)
    refine x_callV (As := [_]) (mc := 0) (ms := 0) (z := mX10_refuse) (ci := 10) dX10_know_10 lX10_68 oX10_refuse (by decide) (by first | assumption) rfl rfl (Nat.le_of_ble_eq_true rfl) (Nat.le_of_ble_eq_true rfl) rfl (hrf _) (k_I ?_)
    refine (show X _ _ 13 _ _ _ _ _ _ from ?_)
    refine x_goto 28 dX10_know_13 (by decide) ?_
    refine (show X _ _ 28 _ _ _ _ _ _ from ?_)
    exact x_ireturn dX10_know_28 rfl (CQ_tr hI0 _ _)
  · rw [if_neg (by rw [e]; decide), if_neg (by rw [e]; decide)]
    have e2 := noS_f e
    have cc := c_knowers (g := g) (J := J) (z := z) (k := 0) (n := 0) (V := V) (s := p.toNat) (E := fun j => V (o + 155 + j)) hU w0 w1 hFS f1 f3 ⟨by omega, by omega⟩ (by omega) (fun q hq => hno.2.1 q hq)
    rw [pB_self (fun _ _ => rfl), Int.toNat_of_nonneg e2.2.1] at cc
    refine x_aload_n dX10_know_16 rfl ?_
    refine x_aload_n dX10_know_17 rfl ?_
    refine x_gr dX10_know_18 fX10_35 (by first | assumption) (fun _ _ _ => rfl) (by first | assumption) ?_
    refine x_iload_n dX10_know_21 rfl ?_
    refine (show X _ _ 22 _ _ _ _ _ _ from ?_)
    refine x_callV (As := [_]) (mc := 0) (ms := 0) (z := mX1_knowers) (ci := 1) dX10_know_22 lX10_203 oX1_knowers (by decide) (by first | assumption) rfl rfl (Nat.le_of_ble_eq_true rfl) (Nat.le_of_ble_eq_true rfl) rfl (cc) (k_I ?_)
    refine (show X _ _ 25 _ _ _ _ _ _ from ?_)
    refine x_callV (As := [_]) (mc := 0) (ms := 0) (z := mX10_grant) (ci := 10) dX10_know_25 lX10_116 oX10_grant (by decide) (by first | assumption) rfl rfl (Nat.le_of_ble_eq_true rfl) (Nat.le_of_ble_eq_true rfl) rfl (hgr _) (k_I ?_)
    refine (show X _ _ 28 _ _ _ _ _ _ from ?_)
    exact x_ireturn dX10_know_28 rfl (CQ_tr hI0 _ _)
end C68
