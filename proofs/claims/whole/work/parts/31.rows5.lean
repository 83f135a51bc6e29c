/-! ===== Rows: the notes of a row ===== -/
section Pn
theorem ROk.con {A W W' : Nat → Nat → Int} {y : Nat} (h : ROk A W y) (e : ∀ j, j < 5 → W' j = W j) : ROk A W' y := by
  unfold ROk at *
  rw [e 0 (by decide), e 1 (by decide), e 2 (by decide), e 4 (by decide)]
  exact h
theorem NOk.con {N N' : Nat → Nat → Int} (h : NOk N) (e : ∀ j, j < 3 → N' j = N j) : NOk N' := by
  unfold NOk at *
  rw [e 0 (by decide), e 1 (by decide), e 2 (by decide)]
  exact h
variable (A B : Nat → Nat → Int)
def pnR (i : Nat) (F : Nat → Nat → Int) : Nat → Nat → Int := pB F 6 5 (mwW A B (fun j => F (6 + j)) i (F 1 i))
def pnN (i : Nat) (F1 : Nat → Nat → Int) : Nat → Nat → Int := pB F1 11 3 (nTurn A (F1 10 i).toNat (decide (F1 6 6 ≠ 0)) (fun j => F1 (11 + j)))
def pnT (i : Nat) (F1 : Nat → Nat → Int) : Nat → Nat → Int := if 0 ≤ F1 10 i then lnE A (F1 10 i).toNat ((i + 1 : Nat) : Int) (pnN A i F1) else F1
def pnA : Nat → Nat → (Nat → Nat → Int) → Int × (Nat → Nat → Int)
  | 0, _, F => (3, F)
  | d + 1, i, F => if mwOk A B (fun j => F (6 + j)) i (F 1 i) = true then pnA d (i + 1) (pnT A i (pnR A B i F)) else ((i : Int), F)
def pnB (E : Nat → Nat → Int) : Nat → Nat → Int := pB (pB E 6 5 (rBeg A (fun j => E (6 + j)) (B 0 0) (B 0 1))) 11 3 (nBeg A (fun j => pB E 6 5 (rBeg A (fun j => E (6 + j)) (B 0 0) (B 0 1)) (11 + j)))
def passN (E : Nat → Nat → Int) : Int × (Nat → Nat → Int) := pnA A B 4 0 (pnB A B E)
def PnOk (F : Nat → Nat → Int) (i : Nat) : Prop := ROk A (fun j => F (6 + j)) i ∧ NOk (fun j => F (11 + j)) ∧ CHk F ∧ (∀ j, j < 4 → 0 ≤ F 1 j ∧ F 1 j ≤ 9)
end Pn
section Pn2
variable {A B E F : Nat → Nat → Int} {i : Nat}
theorem pnR_ok (hA : VA A) (h : PnOk A F i) (hi : i < 4) (hm : mwOk A B (fun j => F (6 + j)) i (F 1 i) = true) : PnOk A (pnR A B i F) (i + 1) := by
  obtain ⟨h1, h2, h3, h4⟩ := h
  unfold pnR
  refine ⟨(mwW_ok hA h1 (h4 i hi).1 hm).con (fun j hj => pB_at hj), h2.con (fun j hj => pB_out (by omega)), fun j hj => ?_, fun j hj => ?_⟩
  · rw [pB_out (by decide)]; exact h3 j hj
  · rw [pB_out (by decide)]; exact h4 j hj
theorem pnN_ok {y : Nat} (hA : VA A) (h : PnOk A F y) (hw : (F 10 i).toNat < 10) : PnOk A (pnN A i F) y := by
  obtain ⟨h1, h2, h3, h4⟩ := h
  unfold pnN
  refine ⟨h1.con (fun j hj => pB_out (by omega)), (nTurn_ok hA h2 hw).con (fun j hj => pB_at hj), fun j hj => ?_, fun j hj => ?_⟩
  · rw [pB_out (by decide)]; exact h3 j hj
  · rw [pB_out (by decide)]; exact h4 j hj
theorem pnT_ok {y : Nat} (hA : VA A) (h : PnOk A F y) (hi : i < 4) (hw : (F 10 i).toNat < 10) : PnOk A (pnT A i F) y := by
  unfold pnT
  split
  · obtain ⟨h1, h2, h3, h4⟩ := pnN_ok (i := i) hA h hw
    obtain ⟨l1, l2⟩ := ln_ok (who := (F 10 i).toNat) (turn := ((i + 1 : Nat) : Int)) h3 ⟨by omega, by omega⟩ (fSe A)
    unfold lnE
    refine ⟨h1.con (fun j hj => l2 _ (by omega)), h2.con (fun j hj => l2 _ (by omega)), l1, fun j hj => ?_⟩
    rw [l2 1 (by decide)]
    exact h4 j hj
  · exact h
theorem pnB_ok (hA : VA A) (hB : VB A B) (hN : NOk (fun j => E (11 + j))) (hc : CHk E) (hE : ∀ j, j < 4 → 0 ≤ E 1 j ∧ E 1 j ≤ 9) : PnOk A (pnB A B E) 0 := by
  unfold pnB
  refine ⟨(rBeg_ok (W := fun j => E (6 + j)) (lw := B 0 0) (sd := B 0 1) hA hB.1 hB.2.1).con (fun j hj => ?_), (nBeg_ok hA (hN.con (N' := fun j => pB E 6 5 (rBeg A (fun j => E (6 + j)) (B 0 0) (B 0 1)) (11 + j)) (fun j hj => pB_out (by omega)))).con (fun j hj => pB_at hj), fun j hj => ?_, fun j hj => ?_⟩
  · show pB (pB E 6 5 _) 11 3 _ (6 + j) = _
    rw [pB_out (by omega), pB_at hj]
  · rw [pB_out (by decide), pB_out (by decide)]; exact hc j hj
  · rw [pB_out (by decide), pB_out (by decide)]; exact hE j hj
end Pn2
section C20
variable {g : GG} {T : Nat → Nat × Nat} {V E W : Nat → Nat → Int} {R : Nat → Nat → Option Nat} {J : Nat → Nat → Int64} {z k n : Nat} {A B : Nat → Nat → Int} {rr w f nw al : Nat}
theorem c_passNotes (hq : QS T R rr w) (hw : WS T R w f nw al) (hC : WC V f nw al A B) (hap : AP14 rr w f nw al) (h4 : 4 ≤ fY A) (hN : NOk (fun j => E (11 + j))) (hc : CHk E) (hE : ∀ j, j < 4 → 0 ≤ E 1 j ∧ E 1 j ≤ 9) : X g mX7_passNotes 0 [.ref rr, jk, jk] [] (T, iV (pB V rr 14 E), R, J, z) k n (rI (iI (passN A B E).1) (T, iV (pB V rr 14 (passN A B E).2), R, J, z)) := by
  have hA := hC.2.2.2.1
  have hB := hC.2.2.2.2
  have eP := fP10 hA
  obtain ⟨p1, p2, p3, p4⟩ := id hap
  have hWC := fun F => WC_out (W := F) (r := rr) (m := 14) hC p2 p3 p4
  have hAP : AP (rr + 6) w f nw al := ⟨by omega, by omega, by omega, by omega⟩
  have hRS := hq.2.2.2.1
  have hOS := hq.2.2.2.2
  have hbg := c_begin (g := g) (J := J) (z := z) (k := 0) (n := 0) (V := pB V rr 14 E) (W := fun j => E (6 + j)) (lw := B 0 0) (sd := B 0 1) hRS hw (hWC E) hAP
  rw [pB_in (by decide), pB_sub (by decide)] at hbg
  have hok0 := pnB_ok hA hB hN hc hE
  have hN1 : NOk (fun j => pB E 6 5 (rBeg A (fun j => E (6 + j)) (B 0 0) (B 0 1)) (11 + j)) := hN.con (fun j hj => pB_out (by omega))
  have hnb := c_nBegin (g := g) (J := J) (z := z) (k := 0) (n := 0) (V := pB V rr 14 (pB E 6 5 (rBeg A (fun j => E (6 + j)) (B 0 0) (B 0 1)))) (N := fun j => pB E 6 5 (rBeg A (fun j => E (6 + j)) (B 0 0) (B 0 1)) (11 + j)) (o := rr + 11) hOS hw.1.1 hw.1.2.1 hw.2.1 (hWC _).1 hA ⟨by omega, by omega⟩ hN1
  rw [pB_in (by decide), pB_sub (by decide)] at hnb
  have hmw := fun F y (hy : y < 4) (hk : PnOk A F y) => c_meetWish (g := g) (J := J) (z := z) (k := 0) (n := 0) (E := F) (W := fun j => F (6 + j)) (y := y) hq hw hC hap hy (by omega) (fun j _ => rfl) hk.1 (hk.2.2.2 y hy)
  have hnt := fun F y wn d hwn (hk : PnOk A F y) => c_nTurn (g := g) (J := J) (z := z) (k := 0) (n := 0) (V := pB V rr 14 F) (N := fun j => F (11 + j)) (o := rr + 11) (who := wn) (d := d) hOS hw.1.1 hw.1.2.1 hw.2.1 (hWC _).1 hA ⟨by omega, by omega⟩ hk.2.1 hwn
  have hln := fun F y who turn hwho ht (hk : PnOk A F y) => c_learn (g := g) (J := J) (z := z) (k := 0) (n := 0) (V := V) (E := F) (who := who) (turn := turn) hq hw.1.1 hw.1.2.1 hw.2.1 hC.1 hA ⟨p1, p2⟩ hwho ht (hk.2.1.2.1 who hwho) hk.2.2.1
  obtain ⟨⟨q0, q1, q2, q3⟩, ⟨v3, v4, v5, v6, v8⟩, ⟨t1, t2, t3, t4, t5⟩, ⟨⟨r0, r1⟩, ⟨r2, r3, r4, r5⟩, ⟨s1, s2, s3, s4⟩⟩, ⟨⟨o0, o1⟩, ⟨o2, o3⟩, ⟨ot1, ot2⟩⟩⟩ := hq
  obtain ⟨⟨w0, w1, w2, w3⟩, ⟨f0, -⟩, ⟨n0, n1, n2, n3, n4⟩, -⟩ := hw
  obtain ⟨⟨hV0, -⟩, ⟨hN0, -⟩, -⟩ := hC
  have k1 : ∀ (d i : Nat) (F : Nat → Nat → Int) (q : Value), i + d = 4 → PnOk A F i → X g mX7_passNotes 36 [.ref rr, .int (iI (i : Int)), q] [] (T, iV (pB V rr 14 F), R, J, z) k n (rI (iI (pnA A B d i F).1) (T, iV (pB V rr 14 (pnA A B d i F).2), R, J, z)) := by
    intro d
    induction d with
    | zero =>
      intro i F q hi hk
      refine x_iload_n dX7_passNotes_36 rfl ?_
      refine y_iconst dX7_passNotes_37 ?_
      refine (show X _ _ 38 _ _ _ _ _ _ from ?_)
      refine y_icmp_ge 94 dX7_passNotes_38 (by decide) ⟨by omega, by omega⟩ ⟨by omega, by omega⟩ (fun h => ?_) (fun h => ?_)
      · refine y_iconst dX7_passNotes_94 ?_
        refine (show X _ _ 95 _ _ _ _ _ _ from ?_)
        exact x_ireturn dX7_passNotes_95 rfl ⟨rfl, rfl⟩
      · omega
    | succ d ih =>
      intro i F q hi hk
      rw [pnA]
      refine x_iload_n dX7_passNotes_36 rfl ?_
      refine y_iconst dX7_passNotes_37 ?_
      refine (show X _ _ 38 _ _ _ _ _ _ from ?_)
      refine y_icmp_ge 94 dX7_passNotes_38 (by decide) ⟨by omega, by omega⟩ ⟨by omega, by omega⟩ (fun h => ?_) (fun h => ?_)
      · omega
      refine x_aload_n dX7_passNotes_41 rfl ?_
      refine x_iload_n dX7_passNotes_42 rfl ?_
      refine (show X _ _ 43 _ _ _ _ _ _ from ?_)
      have c := hmw F i (by omega) hk
      refine x_callV (As := [_]) (mc := 0) (ms := 0) (z := mX7_meetWish) (ci := 7) dX7_passNotes_43 lX7_98 oX7_meetWish (by decide) (by first | assumption) rfl rfl (Nat.le_of_ble_eq_true rfl) (Nat.le_of_ble_eq_true rfl) rfl (c) (k_I ?_)
      refine (show X _ _ 46 _ _ _ _ _ _ from ?_)
      refine y_ifb_ne 51 dX7_passNotes_46 (by decide) (fun h2 => ?_) (fun h2 => ?_)
      · rw [h2, if_pos rfl, if_pos rfl]
        have hk1 := pnR_ok hA hk (by omega) h2
        have eR : pB F 6 5 (mwW A B (fun j => F (6 + j)) i (F 1 i)) = pnR A B i F := rfl
        rw [eR]
        generalize pnR A B i F = F1 at *
        have hel : -2 ≤ F1 10 i ∧ F1 10 i < A 0 3 := hk1.1.2.2.2.2.2.2.2.2.2 i (by omega)
        have h66 : 0 ≤ F1 6 6 ∧ F1 6 6 ≤ 1 := hk1.1.2.2.2.2.2.1
        have hk2 := pnT_ok (i := i) hA hk1 (by omega) (by omega)
        have e : (i : Int) + 1 = ((i + 1 : Nat) : Int) := by omega
        refine x_aload_n dX7_passNotes_51 rfl ?_
        refine x_gr dX7_passNotes_52 fX7_41 (by first | assumption) (fun _ _ _ => rfl) (by first | assumption) ?_
        refine x_gr dX7_passNotes_55 fX7_111 (by first | assumption) (fun _ _ _ => rfl) (by first | assumption) ?_
        refine x_iload_n dX7_passNotes_58 rfl ?_
        refine b_iald (r := rr) (m := 14) (j := 10) (i) dX7_passNotes_59 (by first | assumption) (by first | rfl | omega) (by omega) (by decide) (by decide) ?_
        refine x_istore_n dX7_passNotes_60 (by decide) rfl rfl ?_
        refine x_iload_n dX7_passNotes_61 rfl ?_
        refine (show X _ _ 62 _ _ _ _ _ _ from ?_)
        refine y_if_lt 88 dX7_passNotes_62 (by decide) ⟨by omega, by omega⟩ (fun h3 => ?_) (fun h3 => ?_)
        · refine y_iinc dX7_passNotes_88 rfl (by decide) rfl rfl ?_
          refine x_goto 36 dX7_passNotes_91 (by decide) ?_
          refine (show X _ _ 36 _ _ _ _ _ _ from ?_)
          rw [e]
          unfold pnT at hk2 ⊢
          rw [if_neg (by omega)] at hk2 ⊢
          exact ih (i + 1) F1 _ (by omega) hk2
        · have eT : pnT A i F1 = lnE A (F1 10 i).toNat ((i + 1 : Nat) : Int) (pnN A i F1) := if_pos h3
          have hkN := pnN_ok (i := i) hA hk1 (by omega)
          have c1 := hnt F1 (i + 1) (F1 10 i).toNat (decide (F1 6 6 ≠ 0)) (by omega) hk1
          rw [pB_in (by decide), pB_sub (by decide), Int.toNat_of_nonneg h3] at c1
          have eN : pB F1 11 3 (nTurn A (F1 10 i).toNat (decide (F1 6 6 ≠ 0)) (fun j => F1 (11 + j))) = pnN A i F1 := rfl
          rw [eN] at c1
          have c2 := hln (pnN A i F1) (i + 1) (F1 10 i).toNat (i + 1) (by omega) (by omega) hkN
          rw [← eT, Int.toNat_of_nonneg h3] at c2
          refine x_aload_n dX7_passNotes_65 rfl ?_
          refine x_gr dX7_passNotes_66 fX7_48 (by first | assumption) (fun _ _ _ => rfl) (by first | assumption) ?_
          refine x_iload_n dX7_passNotes_69 rfl ?_
          refine x_aload_n dX7_passNotes_70 rfl ?_
          refine x_gr dX7_passNotes_71 fX7_41 (by first | assumption) (fun _ _ _ => rfl) (by first | assumption) ?_
          refine b_gi (r := rr) (m := 14) (j := 6) dX7_passNotes_74 fX7_145 (by first | assumption) (fun _ _ _ => rfl) (by decide) ?_
          refine (show X _ _ 77 _ _ _ _ _ _ from ?_)
          refine X.val (b := bI (decide (F1 6 6 ≠ 0))) (by by_cases q : F1 6 6 = 0 <;> simp [q, bI] ; omega) ?_
          refine x_callV (As := [_, _]) (mc := 0) (ms := 0) (z := mX3_takeTurn) (ci := 3) dX7_passNotes_77 lX7_148 oX3_takeTurn (by decide) (by first | assumption) rfl rfl (Nat.le_of_ble_eq_true rfl) (Nat.le_of_ble_eq_true rfl) rfl (c1) (k_V ?_)
          refine (show X _ _ 80 _ _ _ _ _ _ from ?_)
          refine x_aload_n dX7_passNotes_80 rfl ?_
          refine x_iload_n dX7_passNotes_81 rfl ?_
          refine x_iload_n dX7_passNotes_82 rfl ?_
          refine y_iconst dX7_passNotes_83 ?_
          refine y_iadd dX7_passNotes_84 ?_
          refine (show X _ _ 85 _ _ _ _ _ _ from ?_)
          rw [e]
          refine x_callV (As := [_, _]) (mc := 0) (ms := 0) (z := mX7_learn) (ci := 7) dX7_passNotes_85 lX7_151 oX7_learn (by decide) (by first | assumption) rfl rfl (Nat.le_of_ble_eq_true rfl) (Nat.le_of_ble_eq_true rfl) rfl (c2) (k_V ?_)
          refine (show X _ _ 88 _ _ _ _ _ _ from ?_)
          refine y_iinc dX7_passNotes_88 rfl (by decide) rfl rfl ?_
          refine x_goto 36 dX7_passNotes_91 (by decide) ?_
          refine (show X _ _ 36 _ _ _ _ _ _ from ?_)
          rw [e]
          exact ih (i + 1) _ _ (by omega) hk2
      · rw [h2, if_neg (by decide), if_neg (by decide)]
        refine x_iload_n dX7_passNotes_49 rfl ?_
        refine (show X _ _ 50 _ _ _ _ _ _ from ?_)
        exact x_ireturn dX7_passNotes_50 rfl ⟨rfl, rfl⟩
  refine x_aload_n dX7_passNotes_0 rfl ?_
  refine x_gr dX7_passNotes_1 fX7_41 (by first | assumption) (fun _ _ _ => rfl) (by first | assumption) ?_
  refine x_aload_n dX7_passNotes_4 rfl ?_
  refine x_gr dX7_passNotes_5 fX7_32 (by first | assumption) (fun _ _ _ => rfl) (by first | assumption) ?_
  refine x_gr dX7_passNotes_8 fX7_82 (by first | assumption) (fun _ _ _ => rfl) (by first | assumption) ?_
  refine b_gio (r := rr) (m := 14) dX7_passNotes_11 fX7_86 (by first | assumption) (fun _ _ _ => rfl) (by omega) ?_
  refine (show X _ _ 14 _ _ _ _ _ _ from ?_)
  refine X.val (b := B 0 0) (hN0 0 (by omega)) ?_
  refine x_aload_n dX7_passNotes_14 rfl ?_
  refine x_gr dX7_passNotes_15 fX7_32 (by first | assumption) (fun _ _ _ => rfl) (by first | assumption) ?_
  refine x_gr dX7_passNotes_18 fX7_82 (by first | assumption) (fun _ _ _ => rfl) (by first | assumption) ?_
  refine b_gio (r := rr) (m := 14) dX7_passNotes_21 fX7_91 (by first | assumption) (fun _ _ _ => rfl) (by omega) ?_
  refine (show X _ _ 24 _ _ _ _ _ _ from ?_)
  refine X.val (b := B 0 1) (hN0 1 (by omega)) ?_
  refine x_callV (As := [_, _]) (mc := 0) (ms := 0) (z := mX8_begin) (ci := 8) dX7_passNotes_24 lX7_94 oX8_begin (by decide) (by first | assumption) rfl rfl (Nat.le_of_ble_eq_true rfl) (Nat.le_of_ble_eq_true rfl) rfl (hbg) (k_V ?_)
  refine (show X _ _ 27 _ _ _ _ _ _ from ?_)
  refine x_aload_n dX7_passNotes_27 rfl ?_
  refine x_gr dX7_passNotes_28 fX7_48 (by first | assumption) (fun _ _ _ => rfl) (by first | assumption) ?_
  refine (show X _ _ 31 _ _ _ _ _ _ from ?_)
  refine x_callV (As := []) (mc := 0) (ms := 0) (z := mX3_begin) (ci := 3) dX7_passNotes_31 lX7_143 oX3_begin (by decide) (by first | assumption) rfl rfl (Nat.le_of_ble_eq_true rfl) (Nat.le_of_ble_eq_true rfl) rfl (hnb) (k_V ?_)
  refine (show X _ _ 34 _ _ _ _ _ _ from ?_)
  refine y_iconst dX7_passNotes_34 ?_
  refine x_istore_n dX7_passNotes_35 (by decide) rfl rfl ?_
  refine (show X _ _ 36 _ _ _ _ _ _ from ?_)
  exact k1 4 0 _ _ (by omega) hok0
end C20
