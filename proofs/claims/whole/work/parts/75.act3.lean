/-! ===== the class's face: buy, undo, mark, back ===== -/
section C75
variable {g : GG} {T : Nat → Nat × Nat} {V V1 V2 V' A B B' : Nat → Nat → Int} {R R1 : Nat → Nat → Option Nat} {J : Nat → Nat → Int64} {z k n : Nat} {o fw fr : Nat} {σ σ1 : Nat → Nat} {t : Nat → Int} {tp : Nat} {h : Bool} {a m a1 m1 : Nat} {H K H1 K1 : Nat → Nat → Nat → Int} {wr pl tr : Int}
theorem noY_f {y : Int} (e : noY A y = false) : 0 ≤ y ∧ y < A 0 0 := Classical.byContradiction fun c => (of_decide_eq_false e) c
theorem noPr_f {p q : Int} (e : noPr h A p q = false) : noP h A p = false ∧ noP h A q = false ∧ p ≠ q := by
  unfold noPr at e
  cases e1 : noP h A p
  · cases e2 : noP h A q
    · refine ⟨rfl, rfl, fun c => ?_⟩
      rw [e1, e2, decide_eq_true c] at e
      cases e
    · rw [e1, e2] at e; cases e
  · rw [e1] at e; cases e
def buyBad (A : Nat → Nat → Int) (y pr : Int) : Prop := noY A y = true ∨ pr < 0 ∨ 99 < pr
theorem f_buy0 {y p q pr : Int} (hI : CI T R V o fw fr σ t tp h A B a m H K wr pl tr) (hy : R32 y) (hp : R32 p) (hq : R32 q) (hpr : R32 pr) (hb : ¬ (noPr h A p q = false ∧ ¬ buyBad A y pr ∧ B 0 2 < 8)) : ∃ tr', (noPr h A p q = true → tr' = 1) ∧ (noPr h A p q = false → buyBad A y pr → tr' = 2) ∧ (noPr h A p q = false → ¬ buyBad A y pr → tr' = 3) ∧ X g mX10_buy 0 [.ref o, .int (iI y), .int (iI p), .int (iI q), .int (iI pr)] [] (T, iV V, R, J, z) k n (CQ T R J z V o (some (.int (iI 0))) t tp h A B a m H K wr pl tr') := by
  have hI0 := hI
  obtain ⟨hC, ⟨p6, p7⟩, -, -, -, ⟨f1, f2, f3, f4⟩, -⟩ := hI
  have hdn := fun y => c_deny (g := g) (J := J) (z := z) (k := 0) (n := 0) (V := V) (x := y) hC
  have hnp := c_isNoPair (g := g) (J := J) (z := z) (k := 0) (n := 0) (p := p) (q := q) hC p6 f1 f3 hp hq
  have hny := c_isNoYear (g := g) (J := J) (z := z) (k := 0) (n := 0) (p := y) hC f1 f3 hy
  obtain ⟨⟨c0, c1, c2, -⟩, -, ⟨⟨w0, w1, w2, w3⟩, -, hNS, -⟩, -⟩ := hC
  obtain ⟨n0, nd, -, nt, -⟩ := hNS
  have hbo := f2.1 2 (by decide)
  have hf4 := f4.2.2.1
  obtain ⟨hpr1, hpr2⟩ := hpr
  cases e : noPr h A p q
  rotate_left
  · refine ⟨1, fun _ => rfl, (fun c => by cases c), (fun c => by cases c), ?_⟩
    rw [e] at hnp
    refine x_aload_n dX10_buy_0 rfl ?_
    refine x_iload_n dX10_buy_1 rfl ?_
    refine x_iload_n dX10_buy_2 rfl ?_
    refine (show X _ _ 3 _ _ _ _ _ _ from ?_)
    refine x_callV (As := [_, _]) (mc := 0) (ms := 0) (z := mX10_isNoPair) (ci := 10) dX10_buy_3 lX10_230 oX10_isNoPair (by decide) (by first | assumption) rfl rfl (Nat.le_of_ble_eq_true rfl) (Nat.le_of_ble_eq_true rfl) rfl (hnp) (k_I ?_)
    refine (show X _ _ 6 _ _ _ _ _ _ from ?_)
    refine y_ifb_eq 15 dX10_buy_6 (by decide) (fun c => ?_) (fun c => ?_)
    · cases c
    refine x_aload_n dX10_buy_9 rfl ?_
    refine y_iconst dX10_buy_10 ?_
    refine (show X _ _ 11 _ _ _ _ _ _ from ?_)
    refine x_callV (As := [_]) (mc := 0) (ms := 0) (z := mX10_deny) (ci := 10) dX10_buy_11 lX10_279 oX10_deny (by decide) (by first | assumption) rfl rfl (Nat.le_of_ble_eq_true rfl) (Nat.le_of_ble_eq_true rfl) rfl (hdn _) (k_I ?_)
    refine (show X _ _ 14 _ _ _ _ _ _ from ?_)
    exact x_zreturn dX10_buy_14 rfl rfl (CQ_tr hI0 _ _)
  rw [e] at hnp
  have t2 : X g mX10_buy 35 [.ref o, .int (iI y), .int (iI p), .int (iI q), .int (iI pr)] [] (T, iV V, R, J, z) k n (CQ T R J z V o (some (.int (iI 0))) t tp h A B a m H K wr pl 2) := by
    refine x_aload_n dX10_buy_35 rfl ?_
    refine y_iconst dX10_buy_36 ?_
    refine (show X _ _ 37 _ _ _ _ _ _ from ?_)
    refine x_callV (As := [_]) (mc := 0) (ms := 0) (z := mX10_deny) (ci := 10) dX10_buy_37 lX10_279 oX10_deny (by decide) (by first | assumption) rfl rfl (Nat.le_of_ble_eq_true rfl) (Nat.le_of_ble_eq_true rfl) rfl (hdn _) (k_I ?_)
    refine (show X _ _ 40 _ _ _ _ _ _ from ?_)
    exact x_zreturn dX10_buy_40 rfl rfl (CQ_tr hI0 _ _)
  by_cases e1 : buyBad A y pr
  · refine ⟨2, (fun c => by cases c), (fun _ _ => rfl), (fun _ c => absurd e1 c), ?_⟩
    refine x_aload_n dX10_buy_0 rfl ?_
    refine x_iload_n dX10_buy_1 rfl ?_
    refine x_iload_n dX10_buy_2 rfl ?_
    refine (show X _ _ 3 _ _ _ _ _ _ from ?_)
    refine x_callV (As := [_, _]) (mc := 0) (ms := 0) (z := mX10_isNoPair) (ci := 10) dX10_buy_3 lX10_230 oX10_isNoPair (by decide) (by first | assumption) rfl rfl (Nat.le_of_ble_eq_true rfl) (Nat.le_of_ble_eq_true rfl) rfl (hnp) (k_I ?_)
    refine (show X _ _ 6 _ _ _ _ _ _ from ?_)
    refine y_ifb_eq 15 dX10_buy_6 (by decide) (fun c => ?_) (fun c => ?_)
    rotate_left
    · cases c
    refine x_aload_n dX10_buy_15 rfl ?_
    refine x_iload_n dX10_buy_16 rfl ?_
    refine (show X _ _ 17 _ _ _ _ _ _ from ?_)
    refine x_callV (As := [_]) (mc := 0) (ms := 0) (z := mX10_isNoYear) (ci := 10) dX10_buy_17 lX10_166 oX10_isNoYear (by decide) (by first | assumption) rfl rfl (Nat.le_of_ble_eq_true rfl) (Nat.le_of_ble_eq_true rfl) rfl (hny) (k_I ?_)
    refine (show X _ _ 20 _ _ _ _ _ _ from ?_)
    refine y_ifb_ne 35 dX10_buy_20 (by decide) (fun c1 => ?_) (fun c1 => ?_)
    · exact t2
    refine x_iload dX10_buy_23 rfl ?_
    refine (show X _ _ 25 _ _ _ _ _ _ from ?_)
    refine y_if_lt 35 dX10_buy_25 (by decide) ⟨by omega, by omega⟩ (fun c2 => ?_) (fun c2 => ?_)
    · exact t2
    refine x_iload dX10_buy_28 rfl ?_
    refine y_bipush dX10_buy_30 rfl ?_
    refine (show X _ _ 32 _ _ _ _ _ _ from ?_)
    refine y_icmp_le 41 dX10_buy_32 (by decide) ⟨by omega, by omega⟩ ⟨by omega, by omega⟩ (fun c3 => ?_) (fun c3 => ?_)
    · rcases e1 with e1 | e1 | e1
      · rw [c1] at e1; cases e1
      · omega
      · omega
    · exact t2
  · refine ⟨3, (fun c => by cases c), (fun _ c => absurd c e1), (fun _ _ => rfl), ?_⟩
    have e1' : noY A y = false ∧ 0 ≤ pr ∧ pr ≤ 99 := by
      refine ⟨?_, ?_, ?_⟩
      · cases c : noY A y
        · rfl
        · exact absurd (Or.inl c) e1
      · exact Int.not_lt.mp fun c => e1 (Or.inr (Or.inl c))
      · exact Int.not_lt.mp fun c => e1 (Or.inr (Or.inr c))
    have e2 : ¬ B 0 2 < 8 := fun c => hb ⟨e, e1, c⟩
    refine x_aload_n dX10_buy_0 rfl ?_
    refine x_iload_n dX10_buy_1 rfl ?_
    refine x_iload_n dX10_buy_2 rfl ?_
    refine (show X _ _ 3 _ _ _ _ _ _ from ?_)
    refine x_callV (As := [_, _]) (mc := 0) (ms := 0) (z := mX10_isNoPair) (ci := 10) dX10_buy_3 lX10_230 oX10_isNoPair (by decide) (by first | assumption) rfl rfl (Nat.le_of_ble_eq_true rfl) (Nat.le_of_ble_eq_true rfl) rfl (hnp) (k_I ?_)
    refine (show X _ _ 6 _ _ _ _ _ _ from ?_)
    refine y_ifb_eq 15 dX10_buy_6 (by decide) (fun c => ?_) (fun c => ?_)
    rotate_left
    · cases c
    refine x_aload_n dX10_buy_15 rfl ?_
    refine x_iload_n dX10_buy_16 rfl ?_
    refine (show X _ _ 17 _ _ _ _ _ _ from ?_)
    refine x_callV (As := [_]) (mc := 0) (ms := 0) (z := mX10_isNoYear) (ci := 10) dX10_buy_17 lX10_166 oX10_isNoYear (by decide) (by first | assumption) rfl rfl (Nat.le_of_ble_eq_true rfl) (Nat.le_of_ble_eq_true rfl) rfl (hny) (k_I ?_)
    refine (show X _ _ 20 _ _ _ _ _ _ from ?_)
    refine y_ifb_ne 35 dX10_buy_20 (by decide) (fun c1 => ?_) (fun c1 => ?_)
    · rw [e1'.1] at c1; cases c1
    refine x_iload dX10_buy_23 rfl ?_
    refine (show X _ _ 25 _ _ _ _ _ _ from ?_)
    refine y_if_lt 35 dX10_buy_25 (by decide) ⟨by omega, by omega⟩ (fun c2 => ?_) (fun c2 => ?_)
    · omega
    refine x_iload dX10_buy_28 rfl ?_
    refine y_bipush dX10_buy_30 rfl ?_
    refine (show X _ _ 32 _ _ _ _ _ _ from ?_)
    refine y_icmp_le 41 dX10_buy_32 (by decide) ⟨by omega, by omega⟩ ⟨by omega, by omega⟩ (fun c3 => ?_) (fun c3 => ?_)
    rotate_left
    · omega
    refine x_aload_n dX10_buy_41 rfl ?_
    refine x_gr dX10_buy_42 fX10_19 (by first | assumption) (fun _ _ _ => rfl) (by first | assumption) ?_
    refine x_gr dX10_buy_45 fX10_81 (by first | assumption) (fun _ _ _ => rfl) (by first | assumption) ?_
    refine y_gi dX10_buy_48 fX10_282 (by first | assumption) (fun _ _ _ => rfl) ?_
    refine (show X _ _ 51 _ _ _ _ _ _ from ?_)
    refine X.val hbo ?_
    refine y_bipush dX10_buy_51 rfl ?_
    refine (show X _ _ 53 _ _ _ _ _ _ from ?_)
    refine y_icmp_lt 62 dX10_buy_53 (by decide) ⟨by omega, by omega⟩ ⟨by omega, by omega⟩ (fun c4 => ?_) (fun c4 => ?_)
    · omega
    refine x_aload_n dX10_buy_56 rfl ?_
    refine y_iconst dX10_buy_57 ?_
    refine (show X _ _ 58 _ _ _ _ _ _ from ?_)
    refine x_callV (As := [_]) (mc := 0) (ms := 0) (z := mX10_deny) (ci := 10) dX10_buy_58 lX10_279 oX10_deny (by decide) (by first | assumption) rfl rfl (Nat.le_of_ble_eq_true rfl) (Nat.le_of_ble_eq_true rfl) rfl (hdn _) (k_I ?_)
    refine (show X _ _ 61 _ _ _ _ _ _ from ?_)
    exact x_zreturn dX10_buy_61 rfl rfl (CQ_tr hI0 _ _)
theorem f_buy {y p q pr : Int} (hI : CI T R V o fw fr σ t tp h A B a m H K wr pl tr) (hy : R32 y) (hp : R32 p) (hq : R32 q) (hpr : R32 pr) (b1 : noPr h A p q = false) (b2 : ¬ buyBad A y pr) (b3 : B 0 2 < 8) : X g mX10_buy 0 [.ref o, .int (iI y), .int (iI p), .int (iI q), .int (iI pr)] [] (T, iV V, R, J, z) k n (CQ T R J z V o (some (.int (iI 1))) t tp true A (abW B y p q pr) (kaN a) m (kaH a H B) K wr pl 0) := by
  have b4 := noP_f (noPr_f b1).1
  have b7 := noP_f (noPr_f b1).2.1
  obtain ⟨rfl, b5, b6⟩ := b4
  have hI0 := hI
  obtain ⟨hC, ⟨p6, p7⟩, hr, htx, hP, ⟨f1, f2, f3, f4⟩, ⟨n1, n2⟩, -, g1, -⟩ := hI
  obtain ⟨-, -, -, hv, -⟩ := g1 rfl
  have hnp := c_isNoPair (g := g) (J := J) (z := z) (k := 0) (n := 0) (p := p) (q := q) hC p6 f1 f3 hp hq
  have hny := c_isNoYear (g := g) (J := J) (z := z) (k := 0) (n := 0) (p := y) hC f1 f3 hy
  rw [b1] at hnp
  have hA3 := f3.2.2.2.1
  have hA0 := f3.1
  have e1' : noY A y = false ∧ 0 ≤ pr ∧ pr ≤ 99 := by
    refine ⟨?_, ?_, ?_⟩
    · cases c : noY A y
      · rfl
      · exact absurd (Or.inl c) b2
    · exact Int.not_lt.mp fun c => b2 (Or.inr (Or.inl c))
    · exact Int.not_lt.mp fun c => b2 (Or.inr (Or.inr c))
  have hyb := noY_f e1'.1
  have hb02 := f4.2.2.1
  have e02 : ((B 0 2).toNat : Int) = B 0 2 := Int.toNat_of_nonneg hb02.1
  have r2 : ∀ W : Nat → Nat → Int, ∀ j, (∀ i, i < 4 → j ≠ 4 * (W 0 2).toNat + i) → abW W y p q pr 2 j = W 2 j := by
    intro W j hj
    unfold abW
    rw [u2_n (by decide), u2_s, u1_n (hj 3 (by decide)), u2_s, u1_n (hj 2 (by decide)), u2_s, u1_n (hj 1 (by decide)), u2_s, u1_n (by have := hj 0 (by decide); omega)]
  have r2' : ∀ W : Nat → Nat → Int, abW W y p q pr 2 (4 * (W 0 2).toNat) = y ∧ abW W y p q pr 2 (4 * (W 0 2).toNat + 1) = p ∧ abW W y p q pr 2 (4 * (W 0 2).toNat + 2) = q ∧ abW W y p q pr 2 (4 * (W 0 2).toNat + 3) = pr := by
    intro W
    unfold abW
    refine ⟨?_, ?_, ?_, ?_⟩
    · rw [u2_n (by decide), u2_s, u1_n (by omega), u2_s, u1_n (by omega), u2_s, u1_n (by omega), u2_s, u1_s]
    · rw [u2_n (by decide), u2_s, u1_n (by omega), u2_s, u1_n (by omega), u2_s, u1_s]
    · rw [u2_n (by decide), u2_s, u1_n (by omega), u2_s, u1_s]
    · rw [u2_n (by decide), u2_s, u1_s]
  have r0 : ∀ W : Nat → Nat → Int, abW W y p q pr 0 2 = W 0 2 + 1 ∧ ∀ j, j ≠ 2 → abW W y p q pr 0 j = W 0 j := by
    intro W
    unfold abW
    refine ⟨by rw [u2_s, u1_s], fun j hj => ?_⟩
    rw [u2_s, u1_n hj, u2_n (by decide), u2_n (by decide), u2_n (by decide), u2_n (by decide)]
  have r1 : ∀ W : Nat → Nat → Int, abW W y p q pr 1 = W 1 := by
    intro W
    unfold abW
    rw [u2_n (by decide), u2_n (by decide), u2_n (by decide), u2_n (by decide), u2_n (by decide)]
  have hB : VB A (abW B y p q pr) := by
    obtain ⟨b0, b1, b2, b3, b4⟩ := f4
    refine ⟨by rw [(r0 B).2 0 (by decide)]; exact b0, by rw [(r0 B).2 1 (by decide)]; exact b1, by rw [(r0 B).1]; omega, fun p hp => by rw [r1]; exact b3 p hp, fun i hi => ?_⟩
    rw [(r0 B).1] at hi
    by_cases e : i = (B 0 2).toNat
    · subst e
      obtain ⟨q1, q2, q3, q4⟩ := r2' B
      rw [q1, q2, q3, q4]
      exact ⟨hyb, ⟨b5, b6⟩, b7.2, e1'.2⟩
    · rw [r2 B _ (fun c hc => by omega), r2 B _ (fun c hc => by omega), r2 B _ (fun c hc => by omega), r2 B _ (fun c hc => by omega)]
      exact b4 i (by omega)
  obtain ⟨⟨c0, c1, c2, c3, -⟩, -, ⟨⟨w0, w1, w2, w3⟩, -, hNS, -⟩, hPS, -⟩ := hC
  have hk := c_keepAct (g := g) (J := J) (z := z) (k := 0) (n := 0) (V := V) hPS hP hNS f2 (by omega)
  have hNS0 := hNS
  obtain ⟨n0, nd, nd2, nt, nt2⟩ := hNS
  have hP0 := hPS.1.1
  have hbo := f2.1 2 (by decide)
  refine x_aload_n dX10_buy_0 rfl ?_
  refine x_iload_n dX10_buy_1 rfl ?_
  refine x_iload_n dX10_buy_2 rfl ?_
  refine (show X _ _ 3 _ _ _ _ _ _ from ?_)
  refine x_callV (As := [_, _]) (mc := 0) (ms := 0) (z := mX10_isNoPair) (ci := 10) dX10_buy_3 lX10_230 oX10_isNoPair (by decide) (by first | assumption) rfl rfl (Nat.le_of_ble_eq_true rfl) (Nat.le_of_ble_eq_true rfl) rfl (hnp) (k_I ?_)
  refine (show X _ _ 6 _ _ _ _ _ _ from ?_)
  refine y_ifb_eq 15 dX10_buy_6 (by decide) (fun c => ?_) (fun c => ?_)
  rotate_left
  · cases c
  refine x_aload_n dX10_buy_15 rfl ?_
  refine x_iload_n dX10_buy_16 rfl ?_
  refine (show X _ _ 17 _ _ _ _ _ _ from ?_)
  refine x_callV (As := [_]) (mc := 0) (ms := 0) (z := mX10_isNoYear) (ci := 10) dX10_buy_17 lX10_166 oX10_isNoYear (by decide) (by first | assumption) rfl rfl (Nat.le_of_ble_eq_true rfl) (Nat.le_of_ble_eq_true rfl) rfl (hny) (k_I ?_)
  refine (show X _ _ 20 _ _ _ _ _ _ from ?_)
  refine y_ifb_ne 35 dX10_buy_20 (by decide) (fun c1' => ?_) (fun c1' => ?_)
  · rw [e1'.1] at c1'; cases c1'
  refine x_iload dX10_buy_23 rfl ?_
  refine (show X _ _ 25 _ _ _ _ _ _ from ?_)
  refine y_if_lt 35 dX10_buy_25 (by decide) ⟨by omega, by omega⟩ (fun c2' => ?_) (fun c2' => ?_)
  · omega
  refine x_iload dX10_buy_28 rfl ?_
  refine y_bipush dX10_buy_30 rfl ?_
  refine (show X _ _ 32 _ _ _ _ _ _ from ?_)
  refine y_icmp_le 41 dX10_buy_32 (by decide) ⟨by omega, by omega⟩ ⟨by omega, by omega⟩ (fun c3' => ?_) (fun c3' => ?_)
  rotate_left
  · omega
  refine x_aload_n dX10_buy_41 rfl ?_
  refine x_gr dX10_buy_42 fX10_19 (by first | assumption) (fun _ _ _ => rfl) (by first | assumption) ?_
  refine x_gr dX10_buy_45 fX10_81 (by first | assumption) (fun _ _ _ => rfl) (by first | assumption) ?_
  refine y_gi dX10_buy_48 fX10_282 (by first | assumption) (fun _ _ _ => rfl) ?_
  refine (show X _ _ 51 _ _ _ _ _ _ from ?_)
  refine X.val hbo ?_
  refine y_bipush dX10_buy_51 rfl ?_
  refine (show X _ _ 53 _ _ _ _ _ _ from ?_)
  refine y_icmp_lt 62 dX10_buy_53 (by decide) ⟨by omega, by omega⟩ ⟨by omega, by omega⟩ (fun c4' => ?_) (fun c4' => ?_)
  rotate_left
  · omega
  refine x_aload_n dX10_buy_62 rfl ?_
  refine x_gr dX10_buy_63 fX10_26 (by first | assumption) (fun _ _ _ => rfl) (by first | assumption) ?_
  refine x_aload_n dX10_buy_66 rfl ?_
  refine x_gr dX10_buy_67 fX10_19 (by first | assumption) (fun _ _ _ => rfl) (by first | assumption) ?_
  refine x_gr dX10_buy_70 fX10_81 (by first | assumption) (fun _ _ _ => rfl) (by first | assumption) ?_
  refine (show X _ _ 73 _ _ _ _ _ _ from ?_)
  refine x_callV (As := [_]) (mc := 0) (ms := 0) (z := mX5_keepAct) (ci := 5) dX10_buy_73 lX10_285 oX5_keepAct (by decide) (by first | assumption) rfl rfl (Nat.le_of_ble_eq_true rfl) (Nat.le_of_ble_eq_true rfl) rfl (hk) (fun v M1 hq => ?_)
  obtain ⟨rfl, R1, V1, σ1, rfl, k1, k2, k3, k4⟩ := hq
  refine (show X _ _ 76 _ [] _ _ _ _ from ?_)
  have c1x : R1 o 1 = some (o + 53) := by rw [k1 _ (by omega)]; exact c2
  have w1x : R1 (o + 53) 1 = some (o + 99) := by rw [k1 _ (by omega)]; exact w2
  have hN1 : NC V1 (o + 99) B := NC_eq f2 (fun b q1 q2 => k2 b (by omega))
  have ee : V1 (o + 99 + 0) 2 = B 0 2 := hN1.1 2 (by decide)
  have ee2 : (fun j => V1 (o + 99 + j)) 0 2 = B 0 2 := ee
  have hab := c_addBuy (g := g) (J := J) (z := z) (k := 0) (n := 0) (V := V1) (R := R1) (W := fun j => V1 (o + 99 + j)) (y := y) (p := p) (q := q) (pr := pr) (NS_r hNS0 k1 (by omega)) (by show 0 ≤ V1 (o + 99 + 0) 2 ∧ V1 (o + 99 + 0) 2 < 8; rw [ee]; omega)
  rw [pB_self (fun _ _ => rfl)] at hab
  have hN : NC (pB V1 (o + 99) 3 (abW (fun j => V1 (o + 99 + j)) y p q pr)) (o + 99) (abW B y p q pr) := by
    refine ⟨fun j hj => ?_, fun p hp => ?_, fun j hj => ?_⟩
    · rw [pB_0 (by decide)]
      by_cases e : j = 2
      · subst e; rw [(r0 _).1, (r0 _).1]; show V1 (o + 99 + 0) 2 + 1 = _; rw [ee]
      · rw [(r0 _).2 j e, (r0 _).2 j e]; exact hN1.1 j hj
    · rw [pB_at (by decide), r1, r1]; exact hN1.2.1 p hp
    · rw [pB_at (by decide)]
      by_cases e : ∀ i, i < 4 → j ≠ 4 * (B 0 2).toNat + i
      · rw [r2 _ _ (by show ∀ i, i < 4 → j ≠ 4 * (V1 (o + 99 + 0) 2).toNat + i; rw [ee]; exact e), r2 _ _ e]; exact hN1.2.2 j hj
      · have hj4 : j = 4 * (B 0 2).toNat ∨ j = 4 * (B 0 2).toNat + 1 ∨ j = 4 * (B 0 2).toNat + 2 ∨ j = 4 * (B 0 2).toNat + 3 := by
          refine Classical.byContradiction fun c => e fun i hi hc => c ?_
          omega
        obtain ⟨s1, s2, s3, s4⟩ := r2' B
        obtain ⟨u1, u2, u3, u4⟩ := r2' (fun j => V1 (o + 99 + j))
        rw [ee] at u1 u2 u3 u4
        rcases hj4 with rfl | rfl | rfl | rfl
        · rw [s1, u1]
        · rw [s2, u2]
        · rw [s3, u3]
        · rw [s4, u4]
  have hσ : ∀ i, i < 12 → σ1 i < 12 := fun i hi => (k3.2.1 i hi).2
  have ac := act_end (g := g) (J := J) (z := z) (k := 0) (n := 0) hI0 k1 k3 (fun b hb => by rw [pB_out (by omega), k2 b (by omega)]) (PC_eq k4 hσ (fun b q1 q2 => pB_out (by omega))) hN hB (hv_keep hv f4 hP.1.2)
  refine x_aload_n dX10_buy_76 rfl ?_
  refine x_gr dX10_buy_77 fX10_19 (by first | assumption) (fun _ _ _ => rfl) (by first | assumption) ?_
  refine x_gr dX10_buy_80 fX10_81 (by first | assumption) (fun _ _ _ => rfl) (by first | assumption) ?_
  refine x_iload_n dX10_buy_83 rfl ?_
  refine x_iload_n dX10_buy_84 rfl ?_
  refine x_iload_n dX10_buy_85 rfl ?_
  refine x_iload dX10_buy_86 rfl ?_
  refine (show X _ _ 88 _ _ _ _ _ _ from ?_)
  refine x_callV (As := [_, _, _, _]) (mc := 0) (ms := 0) (z := mX4_addBuy) (ci := 4) dX10_buy_88 lX10_289 oX4_addBuy (by decide) (by first | assumption) rfl rfl (Nat.le_of_ble_eq_true rfl) (Nat.le_of_ble_eq_true rfl) rfl (hab) (k_V ?_)
  refine (show X _ _ 91 _ _ _ _ _ _ from ?_)
  refine x_aload_n dX10_buy_91 rfl ?_
  refine (show X _ _ 92 _ _ _ _ _ _ from ?_)
  refine x_callV (As := []) (mc := 0) (ms := 0) (z := mX10_acted) (ci := 10) dX10_buy_92 lX10_94 oX10_acted (by decide) (by first | assumption) rfl rfl (Nat.le_of_ble_eq_true rfl) (Nat.le_of_ble_eq_true rfl) rfl (ac) (fun v M1 hq => ?_)
  obtain ⟨rfl, hq⟩ := hq
  exact x_zreturn dX10_buy_95 rfl rfl ⟨rfl, hq⟩
theorem f_undo0 (hI : CI T R V o fw fr σ t tp h A B 0 m H K wr pl tr) : X g mX10_undo 0 [.ref o] [] (T, iV V, R, J, z) k n (CQ T R J z V o (some (.int (iI 0))) t tp h A B 0 m H K wr pl 6) := by
  have hI0 := hI
  obtain ⟨hC, ⟨p6, p7⟩, -, -, hP, ⟨f1, f2, f3, f4⟩, -⟩ := hI
  have hdn := fun y => c_deny (g := g) (J := J) (z := z) (k := 0) (n := 0) (V := V) (x := y) hC
  obtain ⟨⟨c0, c1, c2, c3, -⟩, -, ⟨⟨w0, w1, w2, w3⟩, -, hNS, -⟩, hPS, -⟩ := hC
  have tb := c_takeBack0 (g := g) (J := J) (z := z) (k := 0) (n := 0) (V := V) (nw := o + 99) hPS hP rfl
  have hP0 := hPS.1.1
  refine x_aload_n dX10_undo_0 rfl ?_
  refine x_gr dX10_undo_1 fX10_26 (by first | assumption) (fun _ _ _ => rfl) (by first | assumption) ?_
  refine x_aload_n dX10_undo_4 rfl ?_
  refine x_gr dX10_undo_5 fX10_19 (by first | assumption) (fun _ _ _ => rfl) (by first | assumption) ?_
  refine x_gr dX10_undo_8 fX10_81 (by first | assumption) (fun _ _ _ => rfl) (by first | assumption) ?_
  refine (show X _ _ 11 _ _ _ _ _ _ from ?_)
  refine x_callV (As := [_]) (mc := 0) (ms := 0) (z := mX5_takeBack) (ci := 5) dX10_undo_11 lX10_296 oX5_takeBack (by decide) (by first | assumption) rfl rfl (Nat.le_of_ble_eq_true rfl) (Nat.le_of_ble_eq_true rfl) rfl (tb) (k_I ?_)
  refine (show X _ _ 14 _ _ _ _ _ _ from ?_)
  refine y_if_ne 24 dX10_undo_14 (by decide) ⟨by omega, by omega⟩ (fun e => ?_) (fun e => ?_)
  · exact absurd rfl e
  refine x_aload_n dX10_undo_17 rfl ?_
  refine y_bipush dX10_undo_18 rfl ?_
  refine (show X _ _ 20 _ _ _ _ _ _ from ?_)
  refine x_callV (As := [_]) (mc := 0) (ms := 0) (z := mX10_deny) (ci := 10) dX10_undo_20 lX10_279 oX10_deny (by decide) (by first | assumption) rfl rfl (Nat.le_of_ble_eq_true rfl) (Nat.le_of_ble_eq_true rfl) rfl (hdn _) (k_I ?_)
  refine (show X _ _ 23 _ _ _ _ _ _ from ?_)
  exact x_zreturn dX10_undo_23 rfl rfl (CQ_tr hI0 _ _)
theorem f_undo {c : Nat} (hI : CI T R V o fw fr σ t tp h A B (c + 1) m H K wr pl tr) : X g mX10_undo 0 [.ref o] [] (T, iV V, R, J, z) k n (CQ T R J z V o (some (.int (iI 1))) t tp true A (H c) c m H K wr pl 0) := by
  have hh : h = true := by
    cases h
    · exact absurd (hI.2.2.2.2.2.2.2.2.2 rfl).2.2.1 (by omega)
    · rfl
  subst hh
  have hI0 := hI
  obtain ⟨hC, ⟨p6, p7⟩, hr, htx, hP, ⟨f1, f2, f3, f4⟩, ⟨n1, n2⟩, -, g1, -⟩ := hI
  obtain ⟨-, -, -, hv, -⟩ := g1 rfl
  obtain ⟨⟨c0, c1, c2, c3, -⟩, -, ⟨⟨w0, w1, w2, w3⟩, -, hNS, -⟩, hPS, -⟩ := hC
  have tb := c_takeBack (g := g) (J := J) (z := z) (k := 0) (n := 0) (V := V) (nw := o + 99) hPS hP rfl hNS (by omega)
  have hP0 := hPS.1.1
  have hσ : ∀ i, i < 12 → σ i < 12 := fun i hi => (hPS.2.1 i hi).2
  refine x_aload_n dX10_undo_0 rfl ?_
  refine x_gr dX10_undo_1 fX10_26 (by first | assumption) (fun _ _ _ => rfl) (by first | assumption) ?_
  refine x_aload_n dX10_undo_4 rfl ?_
  refine x_gr dX10_undo_5 fX10_19 (by first | assumption) (fun _ _ _ => rfl) (by first | assumption) ?_
  refine x_gr dX10_undo_8 fX10_81 (by first | assumption) (fun _ _ _ => rfl) (by first | assumption) ?_
  refine (show X _ _ 11 _ _ _ _ _ _ from ?_)
  refine x_callV (As := [_]) (mc := 0) (ms := 0) (z := mX5_takeBack) (ci := 5) dX10_undo_11 lX10_296 oX5_takeBack (by decide) (by first | assumption) rfl rfl (Nat.le_of_ble_eq_true rfl) (Nat.le_of_ble_eq_true rfl) rfl (tb) (fun v M1 hq => ?_)
  obtain ⟨rfl, W, rfl, hW⟩ := hq
  refine (show X _ _ 14 _ [.int (iI 1)] _ _ _ _ from ?_)
  have hPC : PC (pB (u2 V (o + 107) 0 (c : Int)) (o + 99) 3 W) (o + 107) σ c m H K := by
    obtain ⟨⟨q1, q2⟩, ⟨q3, q4⟩, q5, q6⟩ := hP
    refine ⟨⟨?_, by omega⟩, ⟨?_, q4⟩, fun i hi => NC_eq (NC_u2 (q5 i (by omega)) (by omega)) (fun b u1 u2 => pB_out (by omega)), fun i hi => NC_eq (NC_u2 (q6 i hi) (by omega)) (fun b u1 u2 => pB_out (by omega))⟩
    · rw [pB_out (by omega), u2_s, u1_s]
    · rw [pB_out (by omega), u2_s, u1_n (by decide)]; exact q3
  have ac := act_end (g := g) (J := J) (z := z) (k := 0) (n := 0) hI0 (fun _ _ => rfl) hPS (fun b hb => by rw [pB_out (by omega), u2_n (by omega)]) hPC hW (hv.1 c (by omega)) ⟨fun i hi => hv.1 i (by omega), hv.2⟩
  refine y_if_ne 24 dX10_undo_14 (by decide) ⟨by omega, by omega⟩ (fun e => ?_) (fun e => ?_)
  rotate_left
  · exact absurd e (by decide)
  refine x_aload_n dX10_undo_24 rfl ?_
  refine (show X _ _ 25 _ _ _ _ _ _ from ?_)
  refine x_callV (As := []) (mc := 0) (ms := 0) (z := mX10_acted) (ci := 10) dX10_undo_25 lX10_94 oX10_acted (by decide) (by first | assumption) rfl rfl (Nat.le_of_ble_eq_true rfl) (Nat.le_of_ble_eq_true rfl) rfl (ac) (fun v M1 hq => ?_)
  obtain ⟨rfl, hq⟩ := hq
  exact x_zreturn dX10_undo_28 rfl rfl ⟨rfl, hq⟩
theorem f_back0 {x : Int} (hI : CI T R V o fw fr σ t tp h A B a m H K wr pl tr) (hx : R32 x) (h0 : x < 0 ∨ (m : Int) ≤ x) : X g mX10_back 0 [.ref o, .int (iI x)] [] (T, iV V, R, J, z) k n (CQ T R J z V o (some (.int (iI 0))) t tp h A B a m H K wr pl 1) := by
  have hI0 := hI
  obtain ⟨hC, ⟨p6, p7⟩, -, -, hP, ⟨f1, f2, f3, f4⟩, -⟩ := hI
  have hdn := fun y => c_deny (g := g) (J := J) (z := z) (k := 0) (n := 0) (V := V) (x := y) hC
  obtain ⟨⟨c0, c1, c2, c3, -⟩, -, ⟨⟨w0, w1, w2, w3⟩, -, hNS, -⟩, hPS, -⟩ := hC
  have tb := c_goBack0 (g := g) (J := J) (z := z) (k := 0) (n := 0) (V := V) (nw := o + 99) hPS hP hx h0
  have hP0 := hPS.1.1
  refine x_aload_n dX10_back_0 rfl ?_
  refine x_gr dX10_back_1 fX10_26 (by first | assumption) (fun _ _ _ => rfl) (by first | assumption) ?_
  refine x_iload_n dX10_back_4 rfl ?_
  refine x_aload_n dX10_back_5 rfl ?_
  refine x_gr dX10_back_6 fX10_19 (by first | assumption) (fun _ _ _ => rfl) (by first | assumption) ?_
  refine x_gr dX10_back_9 fX10_81 (by first | assumption) (fun _ _ _ => rfl) (by first | assumption) ?_
  refine (show X _ _ 12 _ _ _ _ _ _ from ?_)
  refine x_callV (As := [_, _]) (mc := 0) (ms := 0) (z := mX5_goBack) (ci := 5) dX10_back_12 lX10_304 oX5_goBack (by decide) (by first | assumption) rfl rfl (Nat.le_of_ble_eq_true rfl) (Nat.le_of_ble_eq_true rfl) rfl (tb) (k_I ?_)
  refine (show X _ _ 15 _ _ _ _ _ _ from ?_)
  refine y_if_ne 24 dX10_back_15 (by decide) ⟨by omega, by omega⟩ (fun e => ?_) (fun e => ?_)
  · exact absurd rfl e
  refine x_aload_n dX10_back_18 rfl ?_
  refine y_iconst dX10_back_19 ?_
  refine (show X _ _ 20 _ _ _ _ _ _ from ?_)
  refine x_callV (As := [_]) (mc := 0) (ms := 0) (z := mX10_deny) (ci := 10) dX10_back_20 lX10_279 oX10_deny (by decide) (by first | assumption) rfl rfl (Nat.le_of_ble_eq_true rfl) (Nat.le_of_ble_eq_true rfl) rfl (hdn _) (k_I ?_)
  refine (show X _ _ 23 _ _ _ _ _ _ from ?_)
  exact x_zreturn dX10_back_23 rfl rfl (CQ_tr hI0 _ _)
theorem f_back {c : Nat} (hI : CI T R V o fw fr σ t tp h A B a m H K wr pl tr) (hc : c < m) : X g mX10_back 0 [.ref o, .int (iI (c : Int))] [] (T, iV V, R, J, z) k n (CQ T R J z V o (some (.int (iI 1))) t tp true A (K c) 0 m H K wr pl 0) := by
  have hh : h = true := by
    cases h
    · exact absurd (hI.2.2.2.2.2.2.2.2.2 rfl).2.2.2 (by omega)
    · rfl
  subst hh
  have hI0 := hI
  obtain ⟨hC, ⟨p6, p7⟩, hr, htx, hP, ⟨f1, f2, f3, f4⟩, ⟨n1, n2⟩, -, g1, -⟩ := hI
  obtain ⟨-, -, -, hv, -⟩ := g1 rfl
  obtain ⟨⟨c0, c1, c2, c3, -⟩, -, ⟨⟨w0, w1, w2, w3⟩, -, hNS, -⟩, hPS, -⟩ := hC
  have tb := c_goBack (g := g) (J := J) (z := z) (k := 0) (n := 0) (V := V) (nw := o + 99) hPS hP hc hNS (by omega)
  have hP0 := hPS.1.1
  have hσ : ∀ i, i < 12 → σ i < 12 := fun i hi => (hPS.2.1 i hi).2
  refine x_aload_n dX10_back_0 rfl ?_
  refine x_gr dX10_back_1 fX10_26 (by first | assumption) (fun _ _ _ => rfl) (by first | assumption) ?_
  refine x_iload_n dX10_back_4 rfl ?_
  refine x_aload_n dX10_back_5 rfl ?_
  refine x_gr dX10_back_6 fX10_19 (by first | assumption) (fun _ _ _ => rfl) (by first | assumption) ?_
  refine x_gr dX10_back_9 fX10_81 (by first | assumption) (fun _ _ _ => rfl) (by first | assumption) ?_
  refine (show X _ _ 12 _ _ _ _ _ _ from ?_)
  refine x_callV (As := [_, _]) (mc := 0) (ms := 0) (z := mX5_goBack) (ci := 5) dX10_back_12 lX10_304 oX5_goBack (by decide) (by first | assumption) rfl rfl (Nat.le_of_ble_eq_true rfl) (Nat.le_of_ble_eq_true rfl) rfl (tb) (fun v M1 hq => ?_)
  obtain ⟨rfl, W, rfl, hW⟩ := hq
  refine (show X _ _ 15 _ [.int (iI 1)] _ _ _ _ from ?_)
  have hPC : PC (u2 (pB V (o + 99) 3 W) (o + 107) 0 0) (o + 107) σ 0 m H K := by
    obtain ⟨⟨q1, q2⟩, ⟨q3, q4⟩, q5, q6⟩ := hP
    refine ⟨⟨?_, by omega⟩, ⟨?_, q4⟩, fun i hi => absurd hi (by omega), fun i hi => NC_u2 (NC_eq (q6 i hi) (fun b u1 u2 => pB_out (by omega))) (by omega)⟩
    · rw [u2_s, u1_s]; rfl
    · rw [u2_s, u1_n (by decide), pB_out (by omega)]; exact q3
  have ac := act_end (g := g) (J := J) (z := z) (k := 0) (n := 0) hI0 (fun _ _ => rfl) hPS (fun b hb => by rw [u2_n (by omega), pB_out (by omega)]) hPC (NC_u2 hW (by omega)) (hv.2 c hc) ⟨fun i hi => absurd hi (by omega), hv.2⟩
  refine y_if_ne 24 dX10_back_15 (by decide) ⟨by omega, by omega⟩ (fun e => ?_) (fun e => ?_)
  rotate_left
  · exact absurd e (by decide)
  refine x_aload_n dX10_back_24 rfl ?_
  refine (show X _ _ 25 _ _ _ _ _ _ from ?_)
  refine x_callV (As := []) (mc := 0) (ms := 0) (z := mX10_acted) (ci := 10) dX10_back_25 lX10_94 oX10_acted (by decide) (by first | assumption) rfl rfl (Nat.le_of_ble_eq_true rfl) (Nat.le_of_ble_eq_true rfl) rfl (ac) (fun v M1 hq => ?_)
  obtain ⟨rfl, hq⟩ := hq
  exact x_zreturn dX10_back_28 rfl rfl ⟨rfl, hq⟩
/-- cells of the past and the trial alone have changed -/
theorem CI_pt (hI : CI T R V o fw fr σ t tp h A B a m H K wr pl tr) {tr' : Int} (hv : h = true → ∀ i, i < m1 → VB A (K1 i)) (hm : h = false → m1 = 0) (hP : PC V' (o + 107) σ a m1 H K1) (he : ∀ b, o < b → b < o + 190 → (b < o + 107 ∨ (o + 155 ≤ b ∧ b < o + 171) ∨ o + 176 ≤ b) → V' b = V b) (h6 : V' o 6 = V o 6) (h7 : V' o 7 = tr') : CI T R V' o fw fr σ t tp h A B a m1 H K1 wr pl tr' := by
  obtain ⟨hC, ⟨p6, -⟩, ⟨r1, r2, r4, r9⟩, ⟨x1, x2, x3⟩, -, ⟨f1, f2, f3, f4⟩, ⟨n1, n2⟩, ⟨w1, w2⟩, g1, g2⟩ := hI
  have hsep := hC.2.2.2.2.2.2.2
  refine ⟨hC, ⟨h6.trans p6, h7⟩, ?_, ?_, hP, ⟨FC_eq f1 f3 (fun b q1 q2 => he b (by omega) (by omega) (by omega)), NC_eq f2 (fun b q1 q2 => he b (by omega) (by omega) (by omega)), f3, f4⟩, ⟨NOk_eq n1 (fun b q1 q2 => he b (by omega) (by omega) (by omega)), NOk_eq n2 (fun b q1 q2 => he b (by omega) (by omega) (by omega))⟩, ?_, fun hh => ?_, fun hh => ⟨(g2 hh).1, (g2 hh).2.1, (g2 hh).2.2.1, hm hh⟩⟩
  · rw [he (o + 1) (by omega) (by omega) (by omega)]; exact ⟨r1, r2, r4, r9⟩
  · rw [he (o + 47) (by omega) (by omega) (by omega)]; exact ⟨x1, x2, x3⟩
  · rw [he (o + 178) (by omega) (by omega) (by omega), he (o + 176) (by omega) (by omega) (by omega)]; exact ⟨w1, w2⟩
  · obtain ⟨q1, q2, ⟨Ni, Wi, q3, q4⟩, q5, q6⟩ := g1 hh
    refine ⟨q1, AC_eq q2 (fun b c1 c2 => he b (by omega) (by omega) (by omega)), ⟨Ni, Wi, q3, AnI_eq q4 (fun j hj => he _ (by omega) (by omega) (by omega))⟩, ⟨q5.1, hv hh⟩, ?_⟩
    unfold RwOk
    rw [he (o + 178) (by omega) (by omega) (by omega), he (o + 179) (by omega) (by omega) (by omega), he (o + 180) (by omega) (by omega) (by omega), he (o + 176) (by omega) (by omega) (by omega), he (o + 181) (by omega) (by omega) (by omega)]
    exact q6
theorem f_mark0 (hI : CI T R V o fw fr σ t tp h A B a m H K wr pl tr) (hb : ¬ (h = true ∧ m < 3)) : X g mX10_mark 0 [.ref o, jk] [] (T, iV V, R, J, z) k n (CQ T R J z V o (some (.int (iI (-1)))) t tp h A B a m H K wr pl (if h = true then 3 else 1)) := by
  have hI0 := hI
  obtain ⟨hC, ⟨p6, p7⟩, -, -, hP, ⟨f1, f2, f3, f4⟩, -⟩ := hI
  have hrf := fun y => c_refuse (g := g) (J := J) (z := z) (k := 0) (n := 0) (V := V) (x := y) hC
  obtain ⟨⟨c0, c1, c2, c3, -⟩, -, ⟨⟨w0, w1, w2, w3⟩, -, hNS, -⟩, hPS, -⟩ := hC
  have hm3 := hP.2.1.2
  have hP0 := hPS.1.1
  refine x_aload_n dX10_mark_0 rfl ?_
  refine y_gi dX10_mark_1 fX10_53 (by first | assumption) (fun _ _ _ => rfl) ?_
  refine (show X _ _ 4 _ _ _ _ _ _ from ?_)
  refine X.val p6 ?_
  refine y_ifb_ne 13 dX10_mark_4 (by decide) (fun e => ?_) (fun e => ?_)
  rotate_left
  · rw [if_neg (by rw [e]; decide)]
    refine x_aload_n dX10_mark_7 rfl ?_
    refine y_iconst dX10_mark_8 ?_
    refine (show X _ _ 9 _ _ _ _ _ _ from ?_)
    refine x_callV (As := [_]) (mc := 0) (ms := 0) (z := mX10_refuse) (ci := 10) dX10_mark_9 lX10_68 oX10_refuse (by decide) (by first | assumption) rfl rfl (Nat.le_of_ble_eq_true rfl) (Nat.le_of_ble_eq_true rfl) rfl (hrf _) (k_I ?_)
    refine (show X _ _ 12 _ _ _ _ _ _ from ?_)
    exact x_ireturn dX10_mark_12 rfl (CQ_tr hI0 _ _)
  rw [if_pos e]
  have sm := c_setMark3 (g := g) (J := J) (z := z) (k := 0) (n := 0) (V := V) (nw := o + 99) hPS hP (Classical.byContradiction fun c => hb ⟨e, by omega⟩)
  refine x_aload_n dX10_mark_13 rfl ?_
  refine x_gr dX10_mark_14 fX10_26 (by first | assumption) (fun _ _ _ => rfl) (by first | assumption) ?_
  refine x_aload_n dX10_mark_17 rfl ?_
  refine x_gr dX10_mark_18 fX10_19 (by first | assumption) (fun _ _ _ => rfl) (by first | assumption) ?_
  refine x_gr dX10_mark_21 fX10_81 (by first | assumption) (fun _ _ _ => rfl) (by first | assumption) ?_
  refine (show X _ _ 24 _ _ _ _ _ _ from ?_)
  refine x_callV (As := [_]) (mc := 0) (ms := 0) (z := mX5_setMark) (ci := 5) dX10_mark_24 lX10_300 oX5_setMark (by decide) (by first | assumption) rfl rfl (Nat.le_of_ble_eq_true rfl) (Nat.le_of_ble_eq_true rfl) rfl (sm) (k_I ?_)
  refine (show X _ _ 27 _ _ _ _ _ _ from ?_)
  refine x_istore_n dX10_mark_27 (by decide) rfl rfl ?_
  refine x_iload_n dX10_mark_28 rfl ?_
  refine (show X _ _ 29 _ _ _ _ _ _ from ?_)
  refine y_if_ge 40 dX10_mark_29 (by decide) ⟨by omega, by omega⟩ (fun e1 => ?_) (fun e1 => ?_)
  · exact absurd e1 (by decide)
  refine x_aload_n dX10_mark_32 rfl ?_
  refine y_iconst dX10_mark_33 ?_
  refine (show X _ _ 34 _ _ _ _ _ _ from ?_)
  refine x_callV (As := [_]) (mc := 0) (ms := 0) (z := mX10_refuse) (ci := 10) dX10_mark_34 lX10_68 oX10_refuse (by decide) (by first | assumption) rfl rfl (Nat.le_of_ble_eq_true rfl) (Nat.le_of_ble_eq_true rfl) rfl (hrf _) (k_I ?_)
  refine (show X _ _ 37 _ _ _ _ _ _ from ?_)
  refine x_goto 45 dX10_mark_37 (by decide) ?_
  refine (show X _ _ 45 _ _ _ _ _ _ from ?_)
  exact x_ireturn dX10_mark_45 rfl (CQ_tr hI0 _ _)
theorem f_mark (hI : CI T R V o fw fr σ t tp true A B a m H K wr pl tr) (hb : m < 3) : X g mX10_mark 0 [.ref o, jk] [] (T, iV V, R, J, z) k n (CQ T R J z V o (some (.int (iI (m : Int)))) t tp true A B a (m + 1) H (fun i => if i = m then B else K i) wr pl 0) := by
  have hI0 := hI
  obtain ⟨hC, ⟨p6, p7⟩, -, -, hP, ⟨f1, f2, f3, f4⟩, -, -, g1, -⟩ := hI
  obtain ⟨-, -, -, hv, -⟩ := g1 rfl
  have hC0 := hC
  obtain ⟨⟨c0, c1, c2, c3, -⟩, -, ⟨⟨w0, w1, w2, w3⟩, -, hNS, -⟩, hPS, -⟩ := hC
  have hP0 := hPS.1.1
  have hσ : ∀ i, i < 12 → σ i < 12 := fun i hi => (hPS.2.1 i hi).2
  have sm := c_setMark (g := g) (J := J) (z := z) (k := 0) (n := 0) (V := V) (nw := o + 99) hPS hP hb hNS f2 (by omega)
  refine x_aload_n dX10_mark_0 rfl ?_
  refine y_gi dX10_mark_1 fX10_53 (by first | assumption) (fun _ _ _ => rfl) ?_
  refine (show X _ _ 4 _ _ _ _ _ _ from ?_)
  refine X.val p6 ?_
  refine y_ifb_ne 13 dX10_mark_4 (by decide) (fun e => ?_) (fun e => ?_)
  rotate_left
  · cases e
  refine x_aload_n dX10_mark_13 rfl ?_
  refine x_gr dX10_mark_14 fX10_26 (by first | assumption) (fun _ _ _ => rfl) (by first | assumption) ?_
  refine x_aload_n dX10_mark_17 rfl ?_
  refine x_gr dX10_mark_18 fX10_19 (by first | assumption) (fun _ _ _ => rfl) (by first | assumption) ?_
  refine x_gr dX10_mark_21 fX10_81 (by first | assumption) (fun _ _ _ => rfl) (by first | assumption) ?_
  refine (show X _ _ 24 _ _ _ _ _ _ from ?_)
  refine x_callV (As := [_]) (mc := 0) (ms := 0) (z := mX5_setMark) (ci := 5) dX10_mark_24 lX10_300 oX5_setMark (by decide) (by first | assumption) rfl rfl (Nat.le_of_ble_eq_true rfl) (Nat.le_of_ble_eq_true rfl) rfl (sm) (fun v M1 hq => ?_)
  obtain ⟨rfl, W, rfl, hW⟩ := hq
  refine (show X _ _ 27 _ [.int (iI (m : Int))] _ _ _ _ from ?_)
  generalize eV : u2 (pB V (o + 107 + 39 + 3 * m) 3 W) (o + 107) 1 ((m + 1 : Nat) : Int) = V1
  have hV1 : ∀ b, b < o + 107 ∨ o + 155 ≤ b → V1 b = V b := fun b hb => by rw [← eV, u2_n (by omega), pB_out (by omega)]
  have hPC : PC V1 (o + 107) σ a (m + 1) H (fun i => if i = m then B else K i) := by
    rw [← eV]
    obtain ⟨⟨q1, q2⟩, ⟨q3, q4⟩, q5, q6⟩ := hP
    refine ⟨⟨?_, q2⟩, ⟨?_, by omega⟩, fun i hi => NC_u2 (NC_eq (q5 i hi) (fun b u1 u2 => pB_out (by have := hσ i (by omega); omega))) (by omega), fun i hi => NC_u2 ?_ (by omega)⟩
    · rw [u2_s, u1_n (by decide), pB_out (by omega)]; exact q1
    · rw [u2_s, u1_s]
    · by_cases e : i = m
      · subst e; show NC _ _ (if i = i then B else K i); rw [if_pos rfl]; exact hW
      · show NC _ _ (if i = m then B else K i); rw [if_neg e]; exact NC_eq (q6 i (by omega)) (fun b u1 u2 => pB_out (by omega))
  have hgr := c_grant (g := g) (J := J) (z := z) (k := 0) (n := 0) (V := V1) (x := (m : Int)) hC0
  refine x_istore_n dX10_mark_27 (by decide) rfl rfl ?_
  refine x_iload_n dX10_mark_28 rfl ?_
  refine (show X _ _ 29 _ _ _ _ _ _ from ?_)
  refine y_if_ge 40 dX10_mark_29 (by decide) ⟨by omega, by omega⟩ (fun e1 => ?_) (fun e1 => ?_)
  rotate_left
  · omega
  refine x_aload_n dX10_mark_40 rfl ?_
  refine x_iload_n dX10_mark_41 rfl ?_
  refine (show X _ _ 42 _ _ _ _ _ _ from ?_)
  refine x_callV (As := [_]) (mc := 0) (ms := 0) (z := mX10_grant) (ci := 10) dX10_mark_42 lX10_116 oX10_grant (by decide) (by first | assumption) rfl rfl (Nat.le_of_ble_eq_true rfl) (Nat.le_of_ble_eq_true rfl) rfl (hgr) (k_I ?_)
  refine (show X _ _ 45 _ _ _ _ _ _ from ?_)
  refine x_ireturn dX10_mark_45 rfl ⟨rfl, _, R, fw, fr, σ, rfl, fun b hb => ⟨by rw [u2_n (by omega), hV1 b (by omega)], rfl⟩, CI_pt hI0 (fun _ i hi => ?_) (fun c => by cases c) (PC_eq hPC hσ (fun b q1 q2 => u2_n (by omega))) (fun b q1 q2 q3 => by rw [u2_n (by omega), hV1 b (by omega)]) (by rw [u2_s, u1_n (by decide), hV1 o (by omega)]) (by rw [u2_s, u1_s])⟩
  by_cases e : i = m
  · show VB A (if i = m then B else K i); rw [if_pos e]; exact f4
  · show VB A (if i = m then B else K i); rw [if_neg e]; exact hv.2 i (by omega)
end C75
