/-! ===== the annals are written ===== -/
section AnS
variable (A B : Nat → Nat → Int)
def anE (W0 : Nat → Nat → Int) (y : Nat) (E : Nat → Nat → Int) : Nat → Nat → Int := u2 (pB (u2 (u2 (u2 E 1 y (rTh A B (runTo A B W0 y) y : Nat)) 2 y (rCn A B (runTo A B W0 y) y : Nat)) 3 y (if runTo A B W0 y 0 6 = 0 then 0 else 1)) 8 5 (runTo A B W0 (y + 1))) 4 y (runTo A B W0 (y + 1) 0 8 - runTo A B W0 y 0 8)
end AnS
section AnS2
variable {A B W0 N0 E : Nat → Nat → Int} {y : Nat}
theorem nTo_s : nTo A B W0 N0 (y + 1) = if 0 ≤ runTo A B W0 (y + 1) 4 y then nTurn A (runTo A B W0 (y + 1) 4 y).toNat (decide (runTo A B W0 (y + 1) 0 6 ≠ 0)) (nTo A B W0 N0 y) else nTo A B W0 N0 y := rfl
theorem anE_run (j : Nat) (h : j < 5) : anE A B W0 y E (8 + j) = runTo A B W0 (y + 1) j := by
  unfold anE
  rw [u2_n (by omega), pB_at h]
theorem anE_out (a : Nat) (h1 : a ≠ 1) (h2 : a ≠ 2) (h3 : a ≠ 3) (h4 : a ≠ 4) (h5 : a < 8 ∨ 13 ≤ a) : anE A B W0 y E a = E a := by
  unfold anE
  rw [u2_n h4, pB_out (by omega), u2_n h3, u2_n h2, u2_n h1]
theorem an_step (h : AnI A B W0 N0 y E) : AnI A B W0 N0 (y + 1) (wnF y (wnE A (nTo A B W0 N0 y) (runTo A B W0 (y + 1) 4 y) (anE A B W0 y E))) := by
  obtain ⟨h1, h2, h3⟩ := h
  have hb6 : anE A B W0 y E 8 6 = runTo A B W0 (y + 1) 0 6 := congrFun (anE_run (A := A) (B := B) (W0 := W0) (E := E) (y := y) 0 (by decide)) 6
  have hx : ∀ a, a < 13 → wnE A (nTo A B W0 N0 y) (runTo A B W0 (y + 1) 4 y) (anE A B W0 y E) a = anE A B W0 y E a := fun a ha => by
    unfold wnE
    split
    · exact pB_out (by omega)
    · rfl
  have hn : ∀ j, j < 3 → wnE A (nTo A B W0 N0 y) (runTo A B W0 (y + 1) 4 y) (anE A B W0 y E) (13 + j) = nTo A B W0 N0 (y + 1) j := fun j hj => by
    rw [nTo_s]
    unfold wnE
    split
    · rw [pB_at hj, hb6]
    · rw [anE_out _ (by omega) (by omega) (by omega) (by omega) (by omega)]
      exact h2 j hj
  generalize wnE A (nTo A B W0 N0 y) (runTo A B W0 (y + 1) 4 y) (anE A B W0 y E) = F at *
  have f5 : wnF y F 5 = u1 (F 5) y (F 13 1) := rfl
  have f6 : wnF y F 6 = cpR (F 14) (F 6) 0 (10 * y) 10 := rfl
  have f7 : wnF y F 7 = cpR (F 15) (F 7) 0 (8 * y) 8 := rfl
  have fo : ∀ a, a ≠ 5 → a ≠ 6 → a ≠ 7 → wnF y F a = F a := fun a g5 g6 g7 => by
    unfold wnF
    rw [u1_n g7, u1_n g6, u2_n g5]
  have e1 : F 1 = u1 (E 1) y (rTh A B (runTo A B W0 y) y : Nat) := hx 1 (by decide)
  have e2 : F 2 = u1 (E 2) y (rCn A B (runTo A B W0 y) y : Nat) := hx 2 (by decide)
  have e3 : F 3 = u1 (E 3) y (if runTo A B W0 y 0 6 = 0 then 0 else 1) := hx 3 (by decide)
  have e4 : F 4 = u1 (E 4) y (runTo A B W0 (y + 1) 0 8 - runTo A B W0 y 0 8) := hx 4 (by decide)
  have e5 : F 5 = E 5 := hx 5 (by decide)
  have e6 : F 6 = E 6 := hx 6 (by decide)
  have e7 : F 7 = E 7 := hx 7 (by decide)
  refine ⟨fun j hj => ?_, fun j hj => ?_, fun q hq => ?_⟩
  · rw [fo _ (by omega) (by omega) (by omega), hx _ (by omega)]
    exact anE_run j hj
  · rw [fo _ (by omega) (by omega) (by omega)]
    exact hn j hj
  · rw [fo 1 (by decide) (by decide) (by decide), fo 2 (by decide) (by decide) (by decide), fo 3 (by decide) (by decide) (by decide), fo 4 (by decide) (by decide) (by decide), f5, f6, f7, e1, e2, e3, e4, e5, e6, e7]
    have n0 : F 13 = nTo A B W0 N0 (y + 1) 0 := hn 0 (by decide)
    have n1 : F 14 = nTo A B W0 N0 (y + 1) 1 := hn 1 (by decide)
    have n2 : F 15 = nTo A B W0 N0 (y + 1) 2 := hn 2 (by decide)
    rw [n0, n1, n2]
    by_cases ey : q = y
    · subst ey
      refine ⟨u1_s, u1_s, u1_s, u1_s, u1_s, fun p hp => ?_, fun s hs => ?_⟩
      · rw [cpR_in (by omega)]
        congr 1
        omega
      · rw [cpR_in (by omega)]
        congr 1
        omega
    · obtain ⟨g1, g2, g3, g4, g5, g6, g7⟩ := h3 q (by omega)
      rw [u1_n ey, u1_n ey, u1_n ey, u1_n ey, u1_n ey]
      refine ⟨g1, g2, g3, g4, g5, fun p hp => ?_, fun s hs => ?_⟩
      · rw [cpR_out (by omega)]; exact g6 p hp
      · rw [cpR_out (by omega)]; exact g7 s hs
theorem nTo_ok (hA : VA A) (hB : VB A B) (hW : ROk A W0 0) (hN : NOk N0) : ∀ m, NOk (nTo A B W0 N0 m)
  | 0 => hN
  | m + 1 => by
    have hr := runTo_ok hA hB hW (m + 1)
    have he := hr.2.2.2.2.2.2.2.2.2 m (by omega)
    have eP := fP10 hA
    rw [nTo_s]
    split
    · exact nTurn_ok hA (nTo_ok hA hB hW hN m) (by omega)
    · exact nTo_ok hA hB hW hN m
end AnS2
section C13
variable {g : GG} {T : Nat → Nat × Nat} {V E : Nat → Nat → Int} {R : Nat → Nat → Option Nat} {J : Nat → Nat → Int64} {z k n : Nat} {A B : Nat → Nat → Int} {aa w f nw al : Nat}
theorem c_write (hu : US T R aa w) (hw : WS T R w f nw al) (hC : WC V f nw al A B) (hap : AP16 aa w f nw al) (hN : NOk (fun j => E (13 + j))) : X g mX1_write 0 [.ref aa, jk, jk] [] (T, iV (pB V aa 16 E), R, J, z) k n (fun v M1 => v = none ∧ ∃ E' Ni Wi, NOk Ni ∧ M1 = (T, iV (pB V aa 16 E'), R, J, z) ∧ AnI A B (rBeg A Wi (B 0 0) (B 0 1)) (nBeg A Ni) (fY A) E') := by
  have hA := hC.2.2.2.1
  have hB := hC.2.2.2.2
  obtain ⟨p1, p2, p3, p4⟩ := id hap
  have hWC := fun F => WC_out (W := F) (r := aa) (m := 16) hC p2 p3 p4
  have hAP : AP (aa + 8) w f nw al := ⟨by omega, by omega, by omega, by omega⟩
  have hRS := hu.2.2.2.1
  have hOS := hu.2.2.2.2
  have hok0 : ROk A (rBeg A (fun j => E (8 + j)) (B 0 0) (B 0 1)) 0 := rBeg_ok hA hB.1 hB.2.1
  have hbg := c_begin (g := g) (J := J) (z := z) (k := 0) (n := 0) (V := pB V aa 16 E) (W := fun j => E (8 + j)) (lw := B 0 0) (sd := B 0 1) hRS hw (hWC E) hAP
  rw [pB_in (by decide), pB_sub (by decide)] at hbg
  generalize hW0 : rBeg A (fun j => E (8 + j)) (B 0 0) (B 0 1) = W0 at *
  have e13 : ∀ j, j < 3 → pB E 8 5 W0 (13 + j) = (fun j => E (13 + j)) j := fun j hj => pB_out (by omega)
  have hnb := c_nBegin (g := g) (J := J) (z := z) (k := 0) (n := 0) (V := pB V aa 16 (pB E 8 5 W0)) (N := fun j => E (13 + j)) (o := aa + 13) hOS hw.1.1 hw.1.2.1 hw.2.1 (hWC _).1 hA ⟨by omega, by omega⟩ hN
  rw [pB_inW (by decide) e13, pB_sub (by decide)] at hnb
  have hNok := nBeg_ok hA hN
  have hstart : AnI A B W0 (nBeg A (fun j => E (13 + j))) 0 (pB (pB E 8 5 W0) 13 3 (nBeg A (fun j => E (13 + j)))) := by
    refine ⟨fun j hj => ?_, fun j hj => pB_at hj, fun y hy => absurd hy (Nat.not_lt_zero _)⟩
    rw [pB_out (by omega), pB_at hj]
    rfl
  have hth := fun F y hy (hF : ∀ j, j < 5 → F (8 + j) = runTo A B W0 y j) => c_whoIsThere (g := g) (J := J) (z := z) (k := 0) (n := 0) (V := pB V aa 16 F) (W := runTo A B W0 y) (y := y) hRS hw (hWC F) hAP (runTo_ok hA hB hok0 y).2.2.2.2.1 hy
  have hcn := fun F y hy (hF : ∀ j, j < 5 → F (8 + j) = runTo A B W0 y j) => c_whoCan (g := g) (J := J) (z := z) (k := 0) (n := 0) (V := pB V aa 16 F) (W := runTo A B W0 y) (y := y) hRS hw (hWC F) hAP (runTo_ok hA hB hok0 y).2.2.2.2.1 hy
  have hpy := fun F y hy (hF : ∀ j, j < 5 → F (8 + j) = runTo A B W0 y j) => c_passYear (g := g) (J := J) (z := z) (k := 0) (n := 0) (V := pB V aa 16 F) (W := runTo A B W0 y) (y := y) hRS hw (hWC F) hAP hy (runTo_ok hA hB hok0 y)
  have hwn := fun F N y who hy hwho hFN hN h6 => c_writeNotes (g := g) (J := J) (z := z) (k := 0) (n := 0) (E := F) (N := N) (y := y) (who := who) hu hw hC hap hy hwho hFN hN h6
  obtain ⟨⟨u0, u1', u2', u3⟩, ⟨v3, v4, v5, v6, v7, v8, v9⟩, ⟨t1, t2, t3, t4, t5, t6, t7⟩, ⟨⟨r0, r1⟩, ⟨r2, r3, r4, r5⟩, ⟨s1, s2, s3, s4⟩⟩, ⟨⟨o0, o1⟩, ⟨o2, o3⟩, ⟨ot1, ot2⟩⟩⟩ := hu
  obtain ⟨⟨w0, w1, w2, w3⟩, ⟨f0, -⟩, ⟨n0, n1, n2, n3, n4⟩, -⟩ := hw
  obtain ⟨⟨hV0, -⟩, ⟨hN0, -⟩, -⟩ := hC
  have eP := fP10 hA
  have eY := fY24 hA
  refine x_aload_n dX1_write_0 rfl ?_
  refine x_gr dX1_write_1 fX1_42 (by first | assumption) (fun _ _ _ => rfl) (by first | assumption) ?_
  refine x_aload_n dX1_write_4 rfl ?_
  refine x_gr dX1_write_5 fX1_33 (by first | assumption) (fun _ _ _ => rfl) (by first | assumption) ?_
  refine x_gr dX1_write_8 fX1_53 (by first | assumption) (fun _ _ _ => rfl) (by first | assumption) ?_
  refine b_gio (r := aa) (m := 16) dX1_write_11 fX1_59 (by first | assumption) (fun _ _ _ => rfl) (by omega) ?_
  refine (show X _ _ 14 _ _ _ _ _ _ from ?_)
  refine X.val (b := B 0 0) (hN0 0 (by omega)) ?_
  refine x_aload_n dX1_write_14 rfl ?_
  refine x_gr dX1_write_15 fX1_33 (by first | assumption) (fun _ _ _ => rfl) (by first | assumption) ?_
  refine x_gr dX1_write_18 fX1_53 (by first | assumption) (fun _ _ _ => rfl) (by first | assumption) ?_
  refine b_gio (r := aa) (m := 16) dX1_write_21 fX1_65 (by first | assumption) (fun _ _ _ => rfl) (by omega) ?_
  refine (show X _ _ 24 _ _ _ _ _ _ from ?_)
  refine X.val (b := B 0 1) (hN0 1 (by omega)) ?_
  refine x_callV (As := [_, _]) (mc := 0) (ms := 0) (z := mX8_begin) (ci := 8) dX1_write_24 lX1_68 oX8_begin (by decide) (by first | assumption) rfl rfl (Nat.le_of_ble_eq_true rfl) (Nat.le_of_ble_eq_true rfl) rfl (hbg) (k_V ?_)
  refine (show X _ _ 27 _ _ _ _ _ _ from ?_)
  refine x_aload_n dX1_write_27 rfl ?_
  refine x_gr dX1_write_28 fX1_49 (by first | assumption) (fun _ _ _ => rfl) (by first | assumption) ?_
  refine (show X _ _ 31 _ _ _ _ _ _ from ?_)
  refine x_callV (As := []) (mc := 0) (ms := 0) (z := mX3_begin) (ci := 3) dX1_write_31 lX1_72 oX3_begin (by decide) (by first | assumption) rfl rfl (Nat.le_of_ble_eq_true rfl) (Nat.le_of_ble_eq_true rfl) rfl (hnb) (k_V ?_)
  refine (show X _ _ 34 _ _ _ _ _ _ from ?_)
  refine y_iconst dX1_write_34 ?_
  refine x_istore_n dX1_write_35 (by decide) rfl rfl ?_
  refine (show X _ _ 36 _ _ _ _ _ _ from ?_)
  refine loopN (P := fun y => ∀ F, AnI A B W0 (nBeg A (fun j => E (13 + j))) y F → ∀ q, X g mX1_write 36 [.ref aa, .int (iI (y : Int)), q] [] (T, iV (pB V aa 16 F), R, J, z) k n (fun v M1 => v = none ∧ ∃ E' Ni Wi, NOk Ni ∧ M1 = (T, iV (pB V aa 16 E'), R, J, z) ∧ AnI A B (rBeg A Wi (B 0 0) (B 0 1)) (nBeg A Ni) (fY A) E')) (fY A) ?_ (fun y hy ih => ?_) _ hstart jk
  · intro F hF q
    refine x_iload_n dX1_write_36 rfl ?_
    refine x_aload_n dX1_write_37 rfl ?_
    refine x_gr dX1_write_38 fX1_33 (by first | assumption) (fun _ _ _ => rfl) (by first | assumption) ?_
    refine x_gr dX1_write_41 fX1_74 (by first | assumption) (fun _ _ _ => rfl) (by first | assumption) ?_
    refine b_gio (r := aa) (m := 16) dX1_write_44 fX1_78 (by first | assumption) (fun _ _ _ => rfl) (by omega) ?_
    refine (show X _ _ 47 _ _ _ _ _ _ from ?_)
    refine X.val (b := A 0 0) (hV0 0 (by omega)) ?_
    refine y_icmp_ge 150 dX1_write_47 (by decide) ⟨by omega, by omega⟩ ⟨by omega, by omega⟩ (fun h => ?_) (fun h => ?_)
    · exact x_return dX1_write_150 rfl ⟨rfl, F, _, _, hN, rfl, by rw [hW0]; exact hF⟩
    · omega
  intro F hF q
  refine X.drop 2 rfl ?_
  refine (show X _ _ 36 [_, _, jk] _ _ _ _ _ from ?_)
  have hst := an_step hF
  obtain ⟨hF1, hF2, -⟩ := hF
  have hr := runTo_ok hA hB hok0 y
  have hr1 := runTo_ok hA hB hok0 (y + 1)
  have hE1 := hr1.2.2.2.2.2.2.2.2.2 y (by omega)
  have b06 := hr.2.2.2.2.2.1
  have b16 := hr1.2.2.2.2.2.1
  have hnk := nTo_ok hA hB hok0 hNok y
  refine x_iload_n dX1_write_36 rfl ?_
  refine x_aload_n dX1_write_37 rfl ?_
  refine x_gr dX1_write_38 fX1_33 (by first | assumption) (fun _ _ _ => rfl) (by first | assumption) ?_
  refine x_gr dX1_write_41 fX1_74 (by first | assumption) (fun _ _ _ => rfl) (by first | assumption) ?_
  refine b_gio (r := aa) (m := 16) dX1_write_44 fX1_78 (by first | assumption) (fun _ _ _ => rfl) (by omega) ?_
  refine (show X _ _ 47 _ _ _ _ _ _ from ?_)
  refine X.val (b := A 0 0) (hV0 0 (by omega)) ?_
  refine y_icmp_ge 150 dX1_write_47 (by decide) ⟨by omega, by omega⟩ ⟨by omega, by omega⟩ (fun h => ?_) (fun h => ?_)
  · omega
  refine x_aload_n dX1_write_50 rfl ?_
  refine x_gr dX1_write_51 fX1_9 (by first | assumption) (fun _ _ _ => rfl) (by first | assumption) ?_
  refine x_iload_n dX1_write_54 rfl ?_
  refine x_aload_n dX1_write_55 rfl ?_
  refine x_gr dX1_write_56 fX1_42 (by first | assumption) (fun _ _ _ => rfl) (by first | assumption) ?_
  refine x_iload_n dX1_write_59 rfl ?_
  refine (show X _ _ 60 _ _ _ _ _ _ from ?_)
  have c1 := hth F y hy hF1
  rw [pB_inW (by decide) hF1] at c1
  refine x_callV (As := [_]) (mc := 0) (ms := 0) (z := mX8_whoIsThere) (ci := 8) dX1_write_60 lX1_83 oX8_whoIsThere (by decide) (by first | assumption) rfl rfl (Nat.le_of_ble_eq_true rfl) (Nat.le_of_ble_eq_true rfl) rfl (c1) (k_I ?_)
  refine (show X _ _ 63 _ _ _ _ _ _ from ?_)
  refine b_iast (r := aa) (m := 16) (j := 1) (y) dX1_write_63 (by first | assumption) (by first | rfl | omega) (by omega) (by decide) (by decide) ?_
  refine x_aload_n dX1_write_64 rfl ?_
  refine x_gr dX1_write_65 fX1_15 (by first | assumption) (fun _ _ _ => rfl) (by first | assumption) ?_
  refine x_iload_n dX1_write_68 rfl ?_
  refine x_aload_n dX1_write_69 rfl ?_
  refine x_gr dX1_write_70 fX1_42 (by first | assumption) (fun _ _ _ => rfl) (by first | assumption) ?_
  refine x_iload_n dX1_write_73 rfl ?_
  refine (show X _ _ 74 _ _ _ _ _ _ from ?_)
  have hF1a : ∀ j, j < 5 → u2 F 1 y (rTh A B (runTo A B W0 y) y : Nat) (8 + j) = runTo A B W0 y j := fun j hj => by rw [u2_n (by omega)]; exact hF1 j hj
  have c2 := hcn _ y hy hF1a
  rw [pB_inW (by decide) hF1a] at c2
  refine x_callV (As := [_]) (mc := 0) (ms := 0) (z := mX8_whoCan) (ci := 8) dX1_write_74 lX1_87 oX8_whoCan (by decide) (by first | assumption) rfl rfl (Nat.le_of_ble_eq_true rfl) (Nat.le_of_ble_eq_true rfl) rfl (c2) (k_I ?_)
  refine (show X _ _ 77 _ _ _ _ _ _ from ?_)
  refine b_iast (r := aa) (m := 16) (j := 2) (y) dX1_write_77 (by first | assumption) (by first | rfl | omega) (by omega) (by decide) (by decide) ?_
  refine x_aload_n dX1_write_78 rfl ?_
  refine x_gr dX1_write_79 fX1_18 (by first | assumption) (fun _ _ _ => rfl) (by first | assumption) ?_
  refine x_iload_n dX1_write_82 rfl ?_
  refine x_aload_n dX1_write_83 rfl ?_
  refine x_gr dX1_write_84 fX1_42 (by first | assumption) (fun _ _ _ => rfl) (by first | assumption) ?_
  refine b_gi (r := aa) (m := 16) (j := 8) dX1_write_87 fX1_90 (by first | assumption) (fun _ _ _ => rfl) (by decide) ?_
  refine (show X _ _ 90 _ _ _ _ _ _ from ?_)
  refine X.val (b := runTo A B W0 y 0 6) (congrFun (hF1 0 (by decide)) 6) ?_
  have fin : X g mX1_write 99 [.ref aa, .int (iI (y : Int)), jk] [] (T, iV (pB V aa 16 (u2 (u2 (u2 F 1 y (rTh A B (runTo A B W0 y) y : Nat)) 2 y (rCn A B (runTo A B W0 y) y : Nat)) 3 y (if runTo A B W0 y 0 6 = 0 then 0 else 1))), R, J, z) k n (fun v M1 => v = none ∧ ∃ E' Ni Wi, NOk Ni ∧ M1 = (T, iV (pB V aa 16 E'), R, J, z) ∧ AnI A B (rBeg A Wi (B 0 0) (B 0 1)) (nBeg A Ni) (fY A) E') := by
    have hF3 : ∀ j, j < 5 → u2 (u2 (u2 F 1 y (rTh A B (runTo A B W0 y) y : Nat)) 2 y (rCn A B (runTo A B W0 y) y : Nat)) 3 y (if runTo A B W0 y 0 6 = 0 then 0 else 1) (8 + j) = runTo A B W0 y j := fun j hj => by rw [u2_n (by omega), u2_n (by omega), u2_n (by omega)]; exact hF1 j hj
    have c3 := hpy _ y hy hF3
    rw [pB_inW (by decide) hF3, pB_sub (by decide)] at c3
    refine x_aload_n dX1_write_99 rfl ?_
    refine x_gr dX1_write_100 fX1_42 (by first | assumption) (fun _ _ _ => rfl) (by first | assumption) ?_
    refine b_gi (r := aa) (m := 16) (j := 8) dX1_write_103 fX1_94 (by first | assumption) (fun _ _ _ => rfl) (by decide) ?_
    refine (show X _ _ 106 _ _ _ _ _ _ from ?_)
    refine X.val (b := runTo A B W0 y 0 8) (congrFun (hF1 0 (by decide)) 8) ?_
    refine x_istore_n dX1_write_106 (by decide) rfl rfl ?_
    refine x_aload_n dX1_write_107 rfl ?_
    refine x_gr dX1_write_108 fX1_42 (by first | assumption) (fun _ _ _ => rfl) (by first | assumption) ?_
    refine x_iload_n dX1_write_111 rfl ?_
    refine (show X _ _ 112 _ _ _ _ _ _ from ?_)
    refine x_callV (As := [_]) (mc := 0) (ms := 0) (z := mX8_passYear) (ci := 8) dX1_write_112 lX1_96 oX8_passYear (by decide) (by first | assumption) rfl rfl (Nat.le_of_ble_eq_true rfl) (Nat.le_of_ble_eq_true rfl) rfl (c3) (k_V ?_)
    refine (show X _ _ 115 _ _ _ _ _ _ from ?_)
    refine x_aload_n dX1_write_115 rfl ?_
    refine x_gr dX1_write_116 fX1_21 (by first | assumption) (fun _ _ _ => rfl) (by first | assumption) ?_
    refine x_iload_n dX1_write_119 rfl ?_
    refine x_aload_n dX1_write_120 rfl ?_
    refine x_gr dX1_write_121 fX1_42 (by first | assumption) (fun _ _ _ => rfl) (by first | assumption) ?_
    refine b_gi (r := aa) (m := 16) (j := 8) dX1_write_124 fX1_94 (by first | assumption) (fun _ _ _ => rfl) (by decide) ?_
    refine (show X _ _ 127 _ _ _ _ _ _ from ?_)
    refine X.val (b := runTo A B W0 (y + 1) 0 8) rfl ?_
    refine x_iload_n dX1_write_127 rfl ?_
    refine y_isub dX1_write_128 ?_
    refine b_iast (r := aa) (m := 16) (j := 4) (y) dX1_write_129 (by first | assumption) (by first | rfl | omega) (by omega) (by decide) (by decide) ?_
    refine (show X _ _ 130 _ _ _ _ _ _ from ?_)
    refine X.pic (V' := pB V aa 16 (anE A B W0 y F)) rfl ?_
    refine x_aload_n dX1_write_130 rfl ?_
    refine x_iload_n dX1_write_131 rfl ?_
    refine x_aload_n dX1_write_132 rfl ?_
    refine x_gr dX1_write_133 fX1_42 (by first | assumption) (fun _ _ _ => rfl) (by first | assumption) ?_
    refine x_gr dX1_write_136 fX1_100 (by first | assumption) (fun _ _ _ => rfl) (by first | assumption) ?_
    refine x_iload_n dX1_write_139 rfl ?_
    refine b_iald (r := aa) (m := 16) (j := 12) (y) dX1_write_140 (by first | assumption) (by first | rfl | omega) (by omega) (by decide) (by decide) ?_
    refine (show X _ _ 141 _ _ _ _ _ _ from ?_)
    refine X.val (b := runTo A B W0 (y + 1) 4 y) (congrFun (anE_run 4 (by decide)) y) ?_
    have h86 : anE A B W0 y F 8 6 = runTo A B W0 (y + 1) 0 6 := congrFun (anE_run (A := A) (B := B) (W0 := W0) (E := F) (y := y) 0 (by decide)) 6
    refine x_callV (As := [_, _]) (mc := 0) (ms := 0) (z := mX1_writeNotes) (ci := 1) dX1_write_141 lX1_103 oX1_writeNotes (by decide) (by first | assumption) rfl rfl (Nat.le_of_ble_eq_true rfl) (Nat.le_of_ble_eq_true rfl) rfl (hwn _ (nTo A B W0 (nBeg A (fun j => E (13 + j))) y) y _ hy hE1 (fun j hj => by rw [anE_out _ (by omega) (by omega) (by omega) (by omega) (by omega)]; exact hF2 j hj) hnk (by rw [h86]; exact b16)) (k_V ?_)
    refine (show X _ _ 144 _ _ _ _ _ _ from ?_)
    refine y_iinc dX1_write_144 rfl (by decide) rfl rfl ?_
    refine x_goto 36 dX1_write_147 (by decide) ?_
    refine (show X _ _ 36 _ _ _ _ _ _ from ?_)
    exact ih _ hst _
  refine y_if_eq 97 dX1_write_90 (by decide) ⟨by omega, by omega⟩ (fun h6 => ?_) (fun h6 => ?_)
  · rw [if_pos h6] at fin
    refine y_iconst dX1_write_97 ?_
    refine b_iast (r := aa) (m := 16) (j := 3) (y) dX1_write_98 (by first | assumption) (by first | rfl | omega) (by omega) (by decide) (by decide) ?_
    refine (show X _ _ 99 _ _ _ _ _ _ from ?_)
    exact fin
  · rw [if_neg h6] at fin
    refine y_iconst dX1_write_93 ?_
    refine x_goto 98 dX1_write_94 (by decide) ?_
    refine b_iast (r := aa) (m := 16) (j := 3) (y) dX1_write_98 (by first | assumption) (by first | rfl | omega) (by omega) (by decide) (by decide) ?_
    refine (show X _ _ 99 _ _ _ _ _ _ from ?_)
    exact fin
end C13
