/-! ===== the class's face: trades, diaries, means ===== -/
section C78
variable {g : GG} {T : Nat → Nat × Nat} {V V' A B : Nat → Nat → Int} {R : Nat → Nat → Option Nat} {J : Nat → Nat → Int64} {z k n : Nat} {o fw fr : Nat} {σ : Nat → Nat} {t : Nat → Int} {tp : Nat} {h : Bool} {a m : Nat} {H K : Nat → Nat → Nat → Int} {wr pl tr : Int}
theorem c_harmOfTrade {p q : Int} (hI : CI T R V o fw fr σ t tp true A B a m H K wr pl tr) (hp : 0 ≤ p ∧ p ≤ 9) (hq : 0 ≤ q ∧ q ≤ 9) : X g mX10_harmOfTrade 0 [.ref o, .int (iI p), .int (iI q)] [] (T, iV V, R, J, z) k n (fun v M => v = some (.int (iI (trd A B p q))) ∧ ∃ V' : Nat → Nat → Int, M = (T, iV V', R, J, z) ∧ TQ V V' o) := by
  have han := an_rn hI
  obtain ⟨hC, ⟨p6, p7⟩, hr, htx, hP, ⟨f1, f2, f3, f4⟩, ⟨n1, n2⟩, -, g1, -⟩ := hI
  obtain ⟨hy, hAC, -⟩ := g1 rfl
  have hsep := hC.2.2.2.2.2.2.2
  obtain ⟨⟨c0, c1, c2, c3, c4, c5, c6⟩, -, hW, -, hU, hRS, -⟩ := hC
  have hap : AP (o + 171) (o + 53) fw (o + 99) (o + 102) := ⟨by omega, by omega, by omega, by omega⟩
  have hWC : WC V fw (o + 99) (o + 102) A B := ⟨f1, f2, hAC, f3, f4⟩
  have bg := c_begin (g := g) (J := J) (z := z) (k := 0) (n := 0) (V := V) (W := fun j => V (o + 171 + j)) (lw := B 0 0) (sd := B 0 1) hRS hW hWC hap
  rw [pB_self (fun _ _ => rfl)] at bg
  have hok := tBeg_ok (W := fun j => V (o + 171 + j)) (lw := B 0 0) (sd := B 0 1) f3 f4.1 f4.2.1 hp hq
  have py := c_passYears (g := g) (J := J) (z := z) (k := 0) (n := 0) (V := V) (W := tBeg A (fun j => V (o + 171 + j)) (B 0 0) (B 0 1) p q) hRS hW hWC hap hok
  have hre := rnT_eq (W := fun j => V (o + 171 + j)) f3 f4 hp hq
  obtain ⟨⟨w0, w1, w2, w3⟩, hFS, hNS, hAS⟩ := hW
  have nn := hNS.1
  have r0 := hRS.1.1
  have h0 := f2.1 0 (by decide)
  have h1 := f2.1 1 (by decide)
  obtain ⟨⟨u0, u1, u2, u3⟩, -, -, ru, -⟩ := hU
  have ru0 := ru.1.1
  refine x_aload_n dX10_harmOfTrade_0 rfl ?_
  refine x_gr dX10_harmOfTrade_1 fX10_42 (by first | assumption) (fun _ _ _ => rfl) (by first | assumption) ?_
  refine x_aload_n dX10_harmOfTrade_4 rfl ?_
  refine x_gr dX10_harmOfTrade_5 fX10_19 (by first | assumption) (fun _ _ _ => rfl) (by first | assumption) ?_
  refine x_gr dX10_harmOfTrade_8 fX10_81 (by first | assumption) (fun _ _ _ => rfl) (by first | assumption) ?_
  refine y_gi dX10_harmOfTrade_11 fX10_293 (by first | assumption) (fun _ _ _ => rfl) ?_
  refine (show X _ _ 14 _ _ _ _ _ _ from ?_)
  refine X.val h0 ?_
  refine x_aload_n dX10_harmOfTrade_14 rfl ?_
  refine x_gr dX10_harmOfTrade_15 fX10_19 (by first | assumption) (fun _ _ _ => rfl) (by first | assumption) ?_
  refine x_gr dX10_harmOfTrade_18 fX10_81 (by first | assumption) (fun _ _ _ => rfl) (by first | assumption) ?_
  refine y_gi dX10_harmOfTrade_21 fX10_237 (by first | assumption) (fun _ _ _ => rfl) ?_
  refine (show X _ _ 24 _ _ _ _ _ _ from ?_)
  refine X.val h1 ?_
  refine x_callV (As := [_, _]) (mc := 0) (ms := 0) (z := mX8_begin) (ci := 8) dX10_harmOfTrade_24 lX10_269 oX8_begin (by decide) (by first | assumption) rfl rfl (Nat.le_of_ble_eq_true rfl) (Nat.le_of_ble_eq_true rfl) rfl (bg) (k_V ?_)
  refine (show X _ _ 27 _ _ _ _ _ _ from ?_)
  refine x_aload_n dX10_harmOfTrade_27 rfl ?_
  refine x_gr dX10_harmOfTrade_28 fX10_42 (by first | assumption) (fun _ _ _ => rfl) (by first | assumption) ?_
  refine x_iload_n dX10_harmOfTrade_31 rfl ?_
  refine y_pi dX10_harmOfTrade_32 (pX10_346 _) (by first | assumption) (fun _ _ _ => rfl) rfl rfl ?_
  refine x_aload_n dX10_harmOfTrade_35 rfl ?_
  refine x_gr dX10_harmOfTrade_36 fX10_42 (by first | assumption) (fun _ _ _ => rfl) (by first | assumption) ?_
  refine x_iload_n dX10_harmOfTrade_39 rfl ?_
  refine y_pi dX10_harmOfTrade_40 (pX10_349 _) (by first | assumption) (fun _ _ _ => rfl) rfl rfl ?_
  refine (show X _ _ 43 _ _ _ _ _ _ from ?_)
  refine X.pic (V' := pB V (o + 171) 5 (tBeg A (fun j => V (o + 171 + j)) (B 0 0) (B 0 1) p q)) (by rw [pB_u20 (by decide), pB_u20 (by decide)]; rfl) ?_
  refine x_aload_n dX10_harmOfTrade_43 rfl ?_
  refine x_gr dX10_harmOfTrade_44 fX10_42 (by first | assumption) (fun _ _ _ => rfl) (by first | assumption) ?_
  refine (show X _ _ 47 _ _ _ _ _ _ from ?_)
  refine x_callV (As := []) (mc := 0) (ms := 0) (z := mX8_passYears) (ci := 8) dX10_harmOfTrade_47 lX10_273 oX8_passYears (by decide) (by first | assumption) rfl rfl (Nat.le_of_ble_eq_true rfl) (Nat.le_of_ble_eq_true rfl) rfl (py) (k_V ?_)
  refine (show X _ _ 50 _ _ _ _ _ _ from ?_)
  refine x_aload_n dX10_harmOfTrade_50 rfl ?_
  refine x_gr dX10_harmOfTrade_51 fX10_42 (by first | assumption) (fun _ _ _ => rfl) (by first | assumption) ?_
  refine y_gi dX10_harmOfTrade_54 fX10_179 (by first | assumption) (fun _ _ _ => rfl) ?_
  refine (show X _ _ 57 _ _ _ _ _ _ from ?_)
  refine X.val (b := rnT A B p q 0 8) (by rw [pB_0 (by decide), RE_0 hre (j := 8) (by decide) (by decide)]) ?_
  refine x_aload_n dX10_harmOfTrade_57 rfl ?_
  refine x_gr dX10_harmOfTrade_58 fX10_35 (by first | assumption) (fun _ _ _ => rfl) (by first | assumption) ?_
  refine x_gr dX10_harmOfTrade_61 fX10_138 (by first | assumption) (fun _ _ _ => rfl) (by first | assumption) ?_
  refine y_gi dX10_harmOfTrade_64 fX10_179 (by first | assumption) (fun _ _ _ => rfl) ?_
  refine (show X _ _ 67 _ _ _ _ _ _ from ?_)
  refine X.val (b := rn A B (B 0 0) (B 0 1) 0 8) (by rw [pB_out (by omega)]; exact RE_0 han (j := 8) (by decide) (by decide)) ?_
  refine y_isub dX10_harmOfTrade_67 ?_
  refine (show X _ _ 68 _ _ _ _ _ _ from ?_)
  exact x_ireturn dX10_harmOfTrade_68 rfl ⟨rfl, _, rfl, TQ_p⟩
theorem f_trade {p q : Int} (hI : CI T R V o fw fr σ t tp h A B a m H K wr pl tr) (hp : R32 p) (hq : R32 q) : X g mX10_trade 0 [.ref o, .int (iI p), .int (iI q)] [] (T, iV V, R, J, z) k n (CQ T R J z V o (some (.int (iI (if noPr h A p q = true then -10000 else trd A B p q)))) t tp h A B a m H K wr pl (if noPr h A p q = true then 1 else 0)) := by
  have hI0 := hI
  obtain ⟨hC, ⟨p6, p7⟩, -, -, -, ⟨f1, -, f3, f4⟩, -⟩ := hI
  have hrf := fun y => c_refuse (g := g) (J := J) (z := z) (k := 0) (n := 0) (V := V) (x := y) hC
  have hnp := c_isNoPair (g := g) (J := J) (z := z) (k := 0) (n := 0) (p := p) (q := q) hC p6 f1 f3 hp hq
  have hC0 := hC
  obtain ⟨⟨c0, c1, c2, -⟩, -⟩ := hC
  refine x_aload_n dX10_trade_0 rfl ?_
  refine x_iload_n dX10_trade_1 rfl ?_
  refine x_iload_n dX10_trade_2 rfl ?_
  refine (show X _ _ 3 _ _ _ _ _ _ from ?_)
  refine x_callV (As := [_, _]) (mc := 0) (ms := 0) (z := mX10_isNoPair) (ci := 10) dX10_trade_3 lX10_230 oX10_isNoPair (by decide) (by first | assumption) rfl rfl (Nat.le_of_ble_eq_true rfl) (Nat.le_of_ble_eq_true rfl) rfl (hnp) (k_I ?_)
  refine (show X _ _ 6 _ _ _ _ _ _ from ?_)
  refine y_ifb_eq 19 dX10_trade_6 (by decide) (fun e => ?_) (fun e => ?_)
  rotate_left
  · rw [if_pos e, if_pos e]
    refine x_aload_n dX10_trade_9 rfl ?_
    refine y_iconst dX10_trade_10 ?_
    refine (show X _ _ 11 _ _ _ _ _ _ from ?_)
    refine x_callV (As := [_]) (mc := 0) (ms := 0) (z := mX10_refuse) (ci := 10) dX10_trade_11 lX10_68 oX10_refuse (by decide) (by first | assumption) rfl rfl (Nat.le_of_ble_eq_true rfl) (Nat.le_of_ble_eq_true rfl) rfl (hrf _) (k_I ?_)
    refine (show X _ _ 14 _ _ _ _ _ _ from ?_)
    refine x_pop dX10_trade_14 rfl ?_
    refine y_sipush dX10_trade_15 rfl ?_
    refine (show X _ _ 18 _ _ _ _ _ _ from ?_)
    exact x_ireturn dX10_trade_18 rfl (CQ_tr hI0 _ _)
  rw [if_neg (by rw [e]; decide), if_neg (by rw [e]; decide)]
  have e1 := noP_f (noPr_f e).1
  have e2 := noP_f (noPr_f e).2.1
  obtain ⟨rfl, e3⟩ := e1
  have hA3 := f3.2.2.2.1
  have cm := c_harmOfTrade (g := g) (J := J) (z := z) (k := 0) (n := 0) (p := p) (q := q) hI0 (by omega) (by omega)
  refine x_aload_n dX10_trade_19 rfl ?_
  refine x_aload_n dX10_trade_20 rfl ?_
  refine x_iload_n dX10_trade_21 rfl ?_
  refine x_iload_n dX10_trade_22 rfl ?_
  refine (show X _ _ 23 _ _ _ _ _ _ from ?_)
  refine x_callV (As := [_, _]) (mc := 0) (ms := 0) (z := mX10_harmOfTrade) (ci := 10) dX10_trade_23 lX10_233 oX10_harmOfTrade (by decide) (by first | assumption) rfl rfl (Nat.le_of_ble_eq_true rfl) (Nat.le_of_ble_eq_true rfl) rfl (cm) (fun v M1 hq => ?_)
  obtain ⟨rfl, V1, rfl, hq⟩ := hq
  have hgr := c_grant (g := g) (J := J) (z := z) (k := 0) (n := 0) (V := V1) (x := trd A B p q) hC0
  refine (show X _ _ 26 _ [.int (iI (trd A B p q)), .ref o] _ _ _ _ from ?_)
  refine x_callV (As := [_]) (mc := 0) (ms := 0) (z := mX10_grant) (ci := 10) dX10_trade_26 lX10_116 oX10_grant (by decide) (by first | assumption) rfl rfl (Nat.le_of_ble_eq_true rfl) (Nat.le_of_ble_eq_true rfl) rfl (hgr) (k_I ?_)
  refine (show X _ _ 29 _ _ _ _ _ _ from ?_)
  exact x_ireturn dX10_trade_29 rfl (CQ_tq hq (CQ_tr (CI_tq hI0 hq) _ _))
theorem trd_b {p q : Int} (hA : VA A) (hB : VB A B) : -1000000 ≤ trd A B p q ∧ trd A B p q ≤ 1000000 := by
  have hY := fY24 hA
  have h1 : HB (rn A B (B 0 0) (B 0 1)) (fY A) := run_hb hA rBeg_hb _
  have h2 : HB (rnT A B p q) (fY A) := run_hb hA tbeg_hb _
  unfold HB at h1 h2
  unfold trd
  omega
theorem bt_in {p : Nat} {s : Int × Int} (hA : VA A) (hB : VB A B) (hs : -1000000 ≤ s.2 ∧ s.2 ≤ 1000000000) : ∀ i, -1000000 ≤ (lp i (btS A B p) s).2 ∧ (lp i (btS A B p) s).2 ≤ 1000000000
  | 0 => hs
  | i + 1 => by
    have ih := bt_in (p := p) hA hB hs i
    have ht := trd_b (p := (p : Int)) (q := (p : Int) + 1 + i) hA hB
    rw [lp_s]
    unfold btS at ih ⊢
    split
    · exact ⟨ht.1, by show trd A B _ _ ≤ _; omega⟩
    · exact ih
theorem bt_b (hA : VA A) (hB : VB A B) : ∀ i, -1000000 ≤ (bt A B i).2 ∧ (bt A B i).2 ≤ 1000000000
  | 0 => ⟨by show (-1000000 : Int) ≤ 1000000000; decide, by show (1000000000 : Int) ≤ 1000000000; decide⟩
  | i + 1 => bt_in hA hB (bt_b hA hB i) _
theorem f_bestTrade (hI : CI T R V o fw fr σ t tp h A B a m H K wr pl tr) : X g mX10_bestTrade 0 [.ref o, jk, jk, jk, jk, jk, jk] [] (T, iV V, R, J, z) k n (CQ T R J z V o (some (.int (iI (if h = true ∧ 2 ≤ A 0 3 then (bt A B (fP A)).1 else -1)))) t tp h A B a m H K wr pl (if h = true then (if 2 ≤ A 0 3 then 0 else 6) else 1)) := by
  have hI0 := hI
  obtain ⟨hC, ⟨p6, p7⟩, -, -, -, ⟨f1, -, f3, f4⟩, -⟩ := hI
  have hrf := fun y => c_refuse (g := g) (J := J) (z := z) (k := 0) (n := 0) (V := V) (x := y) hC
  have hC0 := hC
  obtain ⟨⟨c0, c1, c2, -⟩, -, ⟨⟨w0, w1, w2, w3⟩, hFS, -⟩, -⟩ := hC
  have hf0 := hFS.1
  have hA3 := f3.2.2.2.1
  have eP := fP10 f3
  refine x_aload_n dX10_bestTrade_0 rfl ?_
  refine y_gi dX10_bestTrade_1 fX10_53 (by first | assumption) (fun _ _ _ => rfl) ?_
  refine (show X _ _ 4 _ _ _ _ _ _ from ?_)
  refine X.val p6 ?_
  refine y_ifb_ne 13 dX10_bestTrade_4 (by decide) (fun e => ?_) (fun e => ?_)
  rotate_left
  · rw [if_neg (fun c => by rw [e] at c; cases c.1), if_neg (by rw [e]; decide)]
    refine x_aload_n dX10_bestTrade_7 rfl ?_
    refine y_iconst dX10_bestTrade_8 ?_
    refine (show X _ _ 9 _ _ _ _ _ _ from ?_)
    refine x_callV (As := [_]) (mc := 0) (ms := 0) (z := mX10_refuse) (ci := 10) dX10_bestTrade_9 lX10_68 oX10_refuse (by decide) (by first | assumption) rfl rfl (Nat.le_of_ble_eq_true rfl) (Nat.le_of_ble_eq_true rfl) rfl (hrf _) (k_I ?_)
    refine (show X _ _ 12 _ _ _ _ _ _ from ?_)
    exact x_ireturn dX10_bestTrade_12 rfl (CQ_tr hI0 _ _)
  rw [if_pos e]
  refine x_aload_n dX10_bestTrade_13 rfl ?_
  refine x_gr dX10_bestTrade_14 fX10_19 (by first | assumption) (fun _ _ _ => rfl) (by first | assumption) ?_
  refine x_gr dX10_bestTrade_17 fX10_76 (by first | assumption) (fun _ _ _ => rfl) (by first | assumption) ?_
  refine y_gi dX10_bestTrade_20 fX10_98 (by first | assumption) (fun _ _ _ => rfl) ?_
  refine (show X _ _ 23 _ _ _ _ _ _ from ?_)
  refine X.val (f1.1 3 (by decide)) ?_
  refine x_istore_n dX10_bestTrade_23 (by decide) rfl rfl ?_
  refine x_iload_n dX10_bestTrade_24 rfl ?_
  refine y_iconst dX10_bestTrade_25 ?_
  refine (show X _ _ 26 _ _ _ _ _ _ from ?_)
  refine y_icmp_ge 36 dX10_bestTrade_26 (by decide) ⟨by omega, by omega⟩ ⟨by omega, by omega⟩ (fun e1 => ?_) (fun e1 => ?_)
  rotate_left
  · rw [if_neg (by omega), if_neg (by omega)]
    refine x_aload_n dX10_bestTrade_29 rfl ?_
    refine y_bipush dX10_bestTrade_30 rfl ?_
    refine (show X _ _ 32 _ _ _ _ _ _ from ?_)
    refine x_callV (As := [_]) (mc := 0) (ms := 0) (z := mX10_refuse) (ci := 10) dX10_bestTrade_32 lX10_68 oX10_refuse (by decide) (by first | assumption) rfl rfl (Nat.le_of_ble_eq_true rfl) (Nat.le_of_ble_eq_true rfl) rfl (hrf _) (k_I ?_)
    refine (show X _ _ 35 _ _ _ _ _ _ from ?_)
    exact x_ireturn dX10_bestTrade_35 rfl (CQ_tr hI0 _ _)
  rw [if_pos ⟨e, e1⟩, if_pos e1]
  subst e
  have cm := fun (V' : Nat → Nat → Int) (hq : TQ V V' o) (p q : Int) (hp : 0 ≤ p ∧ p ≤ 9) (hq2 : 0 ≤ q ∧ q ≤ 9) => c_harmOfTrade (g := g) (J := J) (z := z) (k := 0) (n := 0) (p := p) (q := q) (CI_tq hI0 hq) hp hq2
  refine y_iconst dX10_bestTrade_36 ?_
  refine x_istore_n dX10_bestTrade_37 (by decide) rfl rfl ?_
  refine y_ldc (1000000000) dX10_bestTrade_38 kX10_236 rfl ?_
  refine x_istore_n dX10_bestTrade_40 (by decide) rfl rfl ?_
  refine y_iconst dX10_bestTrade_41 ?_
  refine x_istore dX10_bestTrade_42 (by decide) rfl rfl ?_
  refine (show X _ _ 44 _ _ _ _ _ _ from ?_)
  refine loopN (P := fun p => ∀ V1, TQ V V1 o → X g mX10_bestTrade 44 [.ref o, .int (iI (A 0 3)), .int (iI (bt A B p).1), .int (iI (bt A B p).2), .int (iI (p : Int)), jk, jk] [] (T, iV V1, R, J, z) k n (CQ T R J z V o (some (.int (iI (bt A B (fP A)).1))) t tp true A B a m H K wr pl 0)) (fP A) ?_ (fun p hp ih => ?_) V TQ_r
  · intro V1 hq
    have hgr := c_grant (g := g) (J := J) (z := z) (k := 0) (n := 0) (V := V1) (x := (bt A B (fP A)).1) hC0
    refine x_iload dX10_bestTrade_44 rfl ?_
    refine x_iload_n dX10_bestTrade_46 rfl ?_
    refine (show X _ _ 47 _ _ _ _ _ _ from ?_)
    refine y_icmp_ge 102 dX10_bestTrade_47 (by decide) ⟨by omega, by omega⟩ ⟨by omega, by omega⟩ (fun h1 => ?_) (fun h1 => ?_)
    rotate_left
    · omega
    refine x_aload_n dX10_bestTrade_102 rfl ?_
    refine x_iload_n dX10_bestTrade_103 rfl ?_
    refine (show X _ _ 104 _ _ _ _ _ _ from ?_)
    refine x_callV (As := [_]) (mc := 0) (ms := 0) (z := mX10_grant) (ci := 10) dX10_bestTrade_104 lX10_116 oX10_grant (by decide) (by first | assumption) rfl rfl (Nat.le_of_ble_eq_true rfl) (Nat.le_of_ble_eq_true rfl) rfl (hgr) (k_I ?_)
    refine (show X _ _ 107 _ _ _ _ _ _ from ?_)
    exact x_ireturn dX10_bestTrade_107 rfl (CQ_tq hq (CQ_tr (CI_tq hI0 hq) _ _))
  · intro V1 hq0
    refine x_iload dX10_bestTrade_44 rfl ?_
    refine x_iload_n dX10_bestTrade_46 rfl ?_
    refine (show X _ _ 47 _ _ _ _ _ _ from ?_)
    refine y_icmp_ge 102 dX10_bestTrade_47 (by decide) ⟨by omega, by omega⟩ ⟨by omega, by omega⟩ (fun h1 => ?_) (fun h1 => ?_)
    · omega
    refine x_iload dX10_bestTrade_50 rfl ?_
    refine y_iconst dX10_bestTrade_52 ?_
    refine y_iadd dX10_bestTrade_53 ?_
    refine x_istore dX10_bestTrade_54 (by decide) rfl rfl ?_
    refine (show X _ _ 56 _ _ _ _ _ _ from ?_)
    have hb0 := bt_b (A := A) (B := B) f3 f4 p
    have es : bt A B (p + 1) = lp (fP A - (p + 1)) (btS A B p) (bt A B p) := rfl
    rw [es] at ih
    generalize bt A B p = s0 at hb0 ih ⊢
    refine loopN (P := fun i => ∀ V1, TQ V V1 o → X g mX10_bestTrade 56 [.ref o, .int (iI (A 0 3)), .int (iI (lp i (btS A B p) s0).1), .int (iI (lp i (btS A B p) s0).2), .int (iI (p : Int)), .int (iI ((p : Int) + 1 + i)), jk] [] (T, iV V1, R, J, z) k n (CQ T R J z V o (some (.int (iI (bt A B (fP A)).1))) t tp true A B a m H K wr pl 0)) (fP A - (p + 1)) ?_ (fun i hi ih2 => ?_) V1 hq0
    · intro V1 hq0
      refine x_iload dX10_bestTrade_56 rfl ?_
      refine x_iload_n dX10_bestTrade_58 rfl ?_
      refine (show X _ _ 59 _ _ _ _ _ _ from ?_)
      refine y_icmp_ge 96 dX10_bestTrade_59 (by decide) ⟨by omega, by omega⟩ ⟨by omega, by omega⟩ (fun h2 => ?_) (fun h2 => ?_)
      rotate_left
      · omega
      refine y_iinc dX10_bestTrade_96 rfl (by decide) rfl rfl ?_
      refine x_goto 44 dX10_bestTrade_99 (by decide) ?_
      refine (show X _ _ 44 _ _ _ _ _ _ from ?_)
      exact X.drop 5 rfl (ih V1 hq0)
    · intro V1 hq0
      have hb := bt_in (p := p) (B := B) f3 f4 hb0 i
      have hm := trd_b (A := A) (B := B) (p := (p : Int)) (q := (p : Int) + 1 + i) f3 f4
      refine x_iload dX10_bestTrade_56 rfl ?_
      refine x_iload_n dX10_bestTrade_58 rfl ?_
      refine (show X _ _ 59 _ _ _ _ _ _ from ?_)
      refine y_icmp_ge 96 dX10_bestTrade_59 (by decide) ⟨by omega, by omega⟩ ⟨by omega, by omega⟩ (fun h2 => ?_) (fun h2 => ?_)
      · omega
      refine x_aload_n dX10_bestTrade_62 rfl ?_
      refine x_iload dX10_bestTrade_63 rfl ?_
      refine x_iload dX10_bestTrade_65 rfl ?_
      refine (show X _ _ 67 _ _ _ _ _ _ from ?_)
      refine x_callV (As := [_, _]) (mc := 0) (ms := 0) (z := mX10_harmOfTrade) (ci := 10) dX10_bestTrade_67 lX10_233 oX10_harmOfTrade (by decide) (by first | assumption) rfl rfl (Nat.le_of_ble_eq_true rfl) (Nat.le_of_ble_eq_true rfl) rfl (cm V1 hq0 (p : Int) ((p : Int) + 1 + i) (by omega) (by omega)) (fun v M1 hq => ?_)
      obtain ⟨rfl, V2, rfl, hq2⟩ := hq
      refine (show X _ _ 70 _ [.int (iI (trd A B (p : Int) ((p : Int) + 1 + i)))] _ _ _ _ from ?_)
      have ih2 := ih2 V2 (TQ_t hq0 hq2)
      rw [lp_s] at ih2
      generalize lp i (btS A B p) s0 = s at ih2 hb ⊢
      unfold btS at ih2
      refine x_istore dX10_bestTrade_70 (by decide) rfl rfl ?_
      refine x_iload dX10_bestTrade_72 rfl ?_
      refine x_iload_n dX10_bestTrade_74 rfl ?_
      refine (show X _ _ 75 _ _ _ _ _ _ from ?_)
      refine y_icmp_ge 90 dX10_bestTrade_75 (by decide) ⟨by omega, by omega⟩ ⟨by omega, by omega⟩ (fun h3 => ?_) (fun h3 => ?_)
      · rw [if_neg (by omega)] at ih2
        refine y_iinc dX10_bestTrade_90 rfl (by decide) rfl rfl ?_
        refine x_goto 56 dX10_bestTrade_93 (by decide) ?_
        refine (show X _ _ 56 _ _ _ _ _ _ from ?_)
        exact X.drop 6 rfl ih2
      · rw [if_pos h3] at ih2
        refine y_bipush dX10_bestTrade_78 rfl ?_
        refine x_iload dX10_bestTrade_80 rfl ?_
        refine y_imul dX10_bestTrade_82 ?_
        refine x_iload dX10_bestTrade_83 rfl ?_
        refine y_iadd dX10_bestTrade_85 ?_
        refine x_istore_n dX10_bestTrade_86 (by decide) rfl rfl ?_
        refine x_iload dX10_bestTrade_87 rfl ?_
        refine x_istore_n dX10_bestTrade_89 (by decide) rfl rfl ?_
        refine (show X _ _ 90 _ _ _ _ _ _ from ?_)
        refine y_iinc dX10_bestTrade_90 rfl (by decide) rfl rfl ?_
        refine x_goto 56 dX10_bestTrade_93 (by decide) ?_
        refine (show X _ _ 56 _ _ _ _ _ _ from ?_)
        exact X.drop 6 rfl ih2
theorem c_diariesFit {lw sd : Int} (hI : CI T R V o fw fr σ t tp true A B a m H K wr pl tr) (hl : 0 ≤ lw ∧ lw ≤ 4) (hs : 0 ≤ sd ∧ sd ≤ 65536) : X g mX10_diariesFit 0 [.ref o, .int (iI lw), .int (iI sd), jk, jk, jk, jk] [] (T, iV V, R, J, z) k n (fun v M => v = some (.int (iI (bI (dFit A (rn A B lw sd))))) ∧ ∃ V' : Nat → Nat → Int, M = (T, iV V', R, J, z) ∧ TQ V V' o) := by
  obtain ⟨hC, ⟨p6, p7⟩, hr, htx, hP, ⟨f1, f2, f3, f4⟩, ⟨n1, n2⟩, -, g1, -⟩ := hI
  obtain ⟨hy, hAC, -⟩ := g1 rfl
  have hsep := hC.2.2.2.2.2.2.2
  obtain ⟨⟨c0, c1, c2, c3, c4, c5, c6⟩, -, hW, -, -, hRS, -⟩ := hC
  have hap : AP (o + 171) (o + 53) fw (o + 99) (o + 102) := ⟨by omega, by omega, by omega, by omega⟩
  have hWC : WC V fw (o + 99) (o + 102) A B := ⟨f1, f2, hAC, f3, f4⟩
  have bg := c_begin (g := g) (J := J) (z := z) (k := 0) (n := 0) (V := V) (W := fun j => V (o + 171 + j)) (lw := lw) (sd := sd) hRS hW hWC hap
  rw [pB_self (fun _ _ => rfl)] at bg
  have hok := rBeg_ok (W := fun j => V (o + 171 + j)) f3 hl hs
  have py := c_passYears (g := g) (J := J) (z := z) (k := 0) (n := 0) (V := V) (W := rBeg A (fun j => V (o + 171 + j)) lw sd) hRS hW hWC hap hok
  have hre := rn_eq (W := fun j => V (o + 171 + j)) f3 f4 hl hs
  have hrok := rn_ok (B := B) (lw := lw) (sd := sd) f3 f4 hl hs
  have hY := fY24 f3
  obtain ⟨⟨w0, w1, w2, w3⟩, hFS, hNS, hAS⟩ := hW
  obtain ⟨⟨r0, r1⟩, ⟨r2, r3, r4, r5⟩, ⟨s1, s2, s3, s4⟩⟩ := hRS
  obtain ⟨fs0, ⟨-, -, -, fR12, -⟩, ⟨-, -, -, ft12, -⟩, -, -, -, hDR⟩ := hFS
  have hA8 := f3.2.2.2.2.2.2.2.2.1
  have hA3 := f3.2.2.2.1
  have eD : ((fDi A : Nat) : Int) = A 0 8 := Int.toNat_of_nonneg hA8.1
  have hAd := f3.2.2.2.2.2.2.2.2.2.2.2.2.2.2
  have hFd := f1.2.2.2.2.1
  generalize eW : runTo A B (rBeg A (fun j => V (o + 171 + j)) lw sd) (fY A) = W at *
  refine x_aload_n dX10_diariesFit_0 rfl ?_
  refine x_gr dX10_diariesFit_1 fX10_42 (by first | assumption) (fun _ _ _ => rfl) (by first | assumption) ?_
  refine x_iload_n dX10_diariesFit_4 rfl ?_
  refine x_iload_n dX10_diariesFit_5 rfl ?_
  refine (show X _ _ 6 _ _ _ _ _ _ from ?_)
  refine x_callV (As := [_, _]) (mc := 0) (ms := 0) (z := mX8_begin) (ci := 8) dX10_diariesFit_6 lX10_269 oX8_begin (by decide) (by first | assumption) rfl rfl (Nat.le_of_ble_eq_true rfl) (Nat.le_of_ble_eq_true rfl) rfl (bg) (k_V ?_)
  refine (show X _ _ 9 _ _ _ _ _ _ from ?_)
  refine x_aload_n dX10_diariesFit_9 rfl ?_
  refine x_gr dX10_diariesFit_10 fX10_42 (by first | assumption) (fun _ _ _ => rfl) (by first | assumption) ?_
  refine (show X _ _ 13 _ _ _ _ _ _ from ?_)
  refine x_callV (As := []) (mc := 0) (ms := 0) (z := mX8_passYears) (ci := 8) dX10_diariesFit_13 lX10_273 oX8_passYears (by decide) (by first | assumption) rfl rfl (Nat.le_of_ble_eq_true rfl) (Nat.le_of_ble_eq_true rfl) rfl (py) (k_V ?_)
  refine (show X _ _ 16 _ _ _ _ _ _ from ?_)
  refine x_aload_n dX10_diariesFit_16 rfl ?_
  refine x_gr dX10_diariesFit_17 fX10_19 (by first | assumption) (fun _ _ _ => rfl) (by first | assumption) ?_
  refine x_gr dX10_diariesFit_20 fX10_76 (by first | assumption) (fun _ _ _ => rfl) (by first | assumption) ?_
  refine x_astore_n dX10_diariesFit_23 (by decide) rfl rfl ?_
  refine y_iconst dX10_diariesFit_24 ?_
  refine x_istore dX10_diariesFit_25 (by decide) rfl rfl ?_
  refine (show X _ _ 27 _ _ _ _ _ _ from ?_)
  refine loopN (P := fun i => (∀ j, j < i → ((rn A B lw sd 4 (A 18 j).toNat = A 19 j) ↔ A 20 j = 0)) → X g mX10_diariesFit 27 [.ref o, .int (iI lw), .int (iI sd), .ref fw, .int (iI (i : Int)), jk, jk] [] (T, iV (pB V (o + 171) 5 W), R, J, z) k n (fun v M => v = some (.int (iI (bI (dFit A (rn A B lw sd))))) ∧ ∃ V' : Nat → Nat → Int, M = (T, iV V', R, J, z) ∧ TQ V V' o)) (fDi A) ?_ (fun i hi ih => ?_) (fun j hj => absurd hj (by omega))
  · intro hall
    rw [show dFit A (rn A B lw sd) = true from decide_eq_true hall]
    refine x_iload dX10_diariesFit_27 rfl ?_
    refine x_aload_n dX10_diariesFit_29 rfl ?_
    refine y_gi dX10_diariesFit_30 fX10_326 (by first | assumption) (fun _ _ _ => rfl) ?_
    refine (show X _ _ 33 _ _ _ _ _ _ from ?_)
    refine X.val (b := A 0 8) (by rw [pB_out (by omega)]; exact f1.1 8 (by decide)) ?_
    refine y_icmp_ge 96 dX10_diariesFit_33 (by decide) ⟨by omega, by omega⟩ ⟨by omega, by omega⟩ (fun h1 => ?_) (fun h1 => ?_)
    rotate_left
    · omega
    refine y_iconst dX10_diariesFit_96 ?_
    refine (show X _ _ 97 _ _ _ _ _ _ from ?_)
    exact x_zreturn dX10_diariesFit_97 rfl rfl ⟨rfl, _, rfl, TQ_p⟩
  · intro hall
    have hd := hAd i hi
    obtain ⟨d1, d2⟩ := hDR i (by omega)
    have v0 : V (fw + 35 + i) 0 = A 18 i := hFd i hi 0 (by decide)
    have v1 : V (fw + 35 + i) 1 = A 19 i := hFd i hi 1 (by decide)
    have v2 : V (fw + 35 + i) 2 = A 20 i := hFd i hi 2 (by decide)
    have hwd : (A 18 i).toNat < fY A := by omega
    have hel := hrok.2.2.2.2.2.2.2.2.2 (A 18 i).toNat hwd
    have bad : ¬ ((rn A B lw sd 4 (A 18 i).toNat = A 19 i) ↔ A 20 i = 0) → ∀ x, X g mX10_diariesFit 88 [.ref o, .int (iI lw), .int (iI sd), .ref fw, .int (iI (i : Int)), .ref (fw + 35 + i), x] [] (T, iV (pB V (o + 171) 5 W), R, J, z) k n (fun v M => v = some (.int (iI (bI (dFit A (rn A B lw sd))))) ∧ ∃ V' : Nat → Nat → Int, M = (T, iV V', R, J, z) ∧ TQ V V' o) := by
      intro hb x
      rw [show dFit A (rn A B lw sd) = false from decide_eq_false (fun c => hb (c i hi))]
      refine y_iconst dX10_diariesFit_88 ?_
      refine (show X _ _ 89 _ _ _ _ _ _ from ?_)
      exact x_zreturn dX10_diariesFit_89 rfl rfl ⟨rfl, _, rfl, TQ_p⟩
    have good : ((rn A B lw sd 4 (A 18 i).toNat = A 19 i) ↔ A 20 i = 0) → ∀ x, X g mX10_diariesFit 90 [.ref o, .int (iI lw), .int (iI sd), .ref fw, .int (iI (i : Int)), .ref (fw + 35 + i), .int x] [] (T, iV (pB V (o + 171) 5 W), R, J, z) k n (fun v M => v = some (.int (iI (bI (dFit A (rn A B lw sd))))) ∧ ∃ V' : Nat → Nat → Int, M = (T, iV V', R, J, z) ∧ TQ V V' o) := by
      intro hg x
      refine y_iinc dX10_diariesFit_90 rfl (by decide) rfl rfl ?_
      refine x_goto 27 dX10_diariesFit_93 (by decide) ?_
      refine (show X _ _ 27 _ _ _ _ _ _ from ?_)
      refine X.drop 5 rfl (X.drop 6 rfl (ih (fun j hj => ?_)))
      by_cases ej : j = i
      · subst ej; exact hg
      · exact hall j (by omega)
    have mid : ∀ w : Int, (w = 0 ∨ w = 1) → ((w = 1) ↔ rn A B lw sd 4 (A 18 i).toNat = A 19 i) → X g mX10_diariesFit 69 [.ref o, .int (iI lw), .int (iI sd), .ref fw, .int (iI (i : Int)), .ref (fw + 35 + i), jk] [.int (iI w)] (T, iV (pB V (o + 171) 5 W), R, J, z) k n (fun v M => v = some (.int (iI (bI (dFit A (rn A B lw sd))))) ∧ ∃ V' : Nat → Nat → Int, M = (T, iV V', R, J, z) ∧ TQ V V' o) := by
      intro w hw01 hwi
      refine x_istore dX10_diariesFit_69 (by decide) rfl rfl ?_
      refine x_iload dX10_diariesFit_71 rfl ?_
      refine x_aload dX10_diariesFit_73 rfl ?_
      refine y_iconst dX10_diariesFit_75 ?_
      refine y_iald (2) dX10_diariesFit_76 (by first | assumption) (by first | rfl | omega) (by omega) (by decide) ?_
      refine (show X _ _ 77 _ _ _ _ _ _ from ?_)
      refine X.val (b := A 20 i) (by rw [pB_out (by omega)]; exact v2) ?_
      refine y_if_eq 84 dX10_diariesFit_77 (by decide) ⟨by omega, by omega⟩ (fun h3 => ?_) (fun h3 => ?_)
      · refine y_iconst dX10_diariesFit_84 ?_
        refine (show X _ _ 85 _ _ _ _ _ _ from ?_)
        refine y_icmp_ne 90 dX10_diariesFit_85 (by decide) ⟨by omega, by omega⟩ ⟨by omega, by omega⟩ (fun h4 => ?_) (fun h4 => ?_)
        · exact good (by constructor <;> intro <;> omega) _
        · exact bad (fun c => by have := c.mpr h3; have := hwi.mpr this; omega) _
      · refine y_iconst dX10_diariesFit_80 ?_
        refine x_goto 85 dX10_diariesFit_81 (by decide) ?_
        refine (show X _ _ 85 _ _ _ _ _ _ from ?_)
        refine y_icmp_ne 90 dX10_diariesFit_85 (by decide) ⟨by omega, by omega⟩ ⟨by omega, by omega⟩ (fun h4 => ?_) (fun h4 => ?_)
        · refine good ?_ _
          constructor
          · intro c; have := hwi.mpr c; omega
          · intro c; exact absurd c h3
        · exact bad (fun c => h3 (c.mp (hwi.mp (by omega)))) _
    refine x_iload dX10_diariesFit_27 rfl ?_
    refine x_aload_n dX10_diariesFit_29 rfl ?_
    refine y_gi dX10_diariesFit_30 fX10_326 (by first | assumption) (fun _ _ _ => rfl) ?_
    refine (show X _ _ 33 _ _ _ _ _ _ from ?_)
    refine X.val (b := A 0 8) (by rw [pB_out (by omega)]; exact f1.1 8 (by decide)) ?_
    refine y_icmp_ge 96 dX10_diariesFit_33 (by decide) ⟨by omega, by omega⟩ ⟨by omega, by omega⟩ (fun h1 => ?_) (fun h1 => ?_)
    · omega
    refine x_aload_n dX10_diariesFit_36 rfl ?_
    refine x_gr dX10_diariesFit_37 fX10_352 (by first | assumption) (fun _ _ _ => rfl) (by first | assumption) ?_
    refine x_iload dX10_diariesFit_40 rfl ?_
    refine y_aald (i) dX10_diariesFit_42 (by first | assumption) (by decide) (by first | rfl | omega) (by omega) (by decide) (by first | assumption) ?_
    refine x_astore dX10_diariesFit_43 (by decide) rfl rfl ?_
    refine x_aload_n dX10_diariesFit_45 rfl ?_
    refine x_gr dX10_diariesFit_46 fX10_42 (by first | assumption) (fun _ _ _ => rfl) (by first | assumption) ?_
    refine x_gr dX10_diariesFit_49 fX10_141 (by first | assumption) (fun _ _ _ => rfl) (by first | assumption) ?_
    refine (show X _ _ 52 _ _ _ _ _ _ from ?_)
    refine x_aload dX10_diariesFit_52 rfl ?_
    refine y_iconst dX10_diariesFit_54 ?_
    refine y_iald (0) dX10_diariesFit_55 (by first | assumption) (by first | rfl | omega) (by omega) (by decide) ?_
    refine (show X _ _ 56 _ _ _ _ _ _ from ?_)
    refine X.val (b := A 18 i) (by rw [pB_out (by omega)]; exact v0) ?_
    refine y_iald ((A 18 i).toNat) dX10_diariesFit_56 (by first | assumption) (by first | rfl | omega) (by omega) (by decide) ?_
    refine (show X _ _ 57 _ _ _ _ _ _ from ?_)
    refine X.val (b := rn A B lw sd 4 (A 18 i).toNat) (by rw [pB_at (by decide)]; exact RE_4 hre hwd) ?_
    refine x_aload dX10_diariesFit_57 rfl ?_
    refine y_iconst dX10_diariesFit_59 ?_
    refine y_iald (1) dX10_diariesFit_60 (by first | assumption) (by first | rfl | omega) (by omega) (by decide) ?_
    refine (show X _ _ 61 _ _ _ _ _ _ from ?_)
    refine X.val (b := A 19 i) (by rw [pB_out (by omega)]; exact v1) ?_
    refine y_icmp_ne 68 dX10_diariesFit_61 (by decide) ⟨by omega, by omega⟩ ⟨by omega, by omega⟩ (fun h2 => ?_) (fun h2 => ?_)
    · refine y_iconst dX10_diariesFit_68 ?_
      refine (show X _ _ 69 _ _ _ _ _ _ from ?_)
      exact mid 0 (Or.inl rfl) ⟨fun c => absurd c (by decide), fun c => absurd c h2⟩
    · refine y_iconst dX10_diariesFit_64 ?_
      refine x_goto 69 dX10_diariesFit_65 (by decide) ?_
      refine (show X _ _ 69 _ _ _ _ _ _ from ?_)
      exact mid 1 (Or.inr rfl) ⟨fun _ => h2, fun _ => rfl⟩
end C78
