/-! ===== the annals: blocks in blocks; rows that are copied ===== -/
def cpR (f h : Nat → Int) (sp dp m : Nat) : Nat → Int := fun j => if dp ≤ j ∧ j < dp + m then f (sp + (j - dp)) else h j
theorem cpR_in {f h : Nat → Int} {sp dp m j : Nat} (hj : dp ≤ j ∧ j < dp + m) : cpR f h sp dp m j = f (sp + (j - dp)) := if_pos hj
theorem cpR_out {f h : Nat → Int} {sp dp m j : Nat} (hj : ¬ (dp ≤ j ∧ j < dp + m)) : cpR f h sp dp m j = h j := if_neg hj
theorem iV_cpy (V : Nat → Nat → Int) (a0 a p0 p1 q : Nat) : u1 (iV V) a (cpy (iV V a0) (iV V a) p0 p1 q) = iV (u1 V a (cpR (V a0) (V a) p0 p1 q)) := by
  funext b i
  by_cases e : b = a
  · subst e
    rw [u1_s]
    show _ = iI (u1 V b _ b i)
    rw [u1_s, cpy, cpR]
    split <;> rfl
  · rw [u1_n e]
    show _ = iI (u1 V a _ b i)
    rw [u1_n e]
section Pb2
variable {V W : Nat → Nat → Int} {r m j o m' : Nat} {v : Nat → Int}
theorem pB_u1 (h : j < m) : u1 (pB V r m W) (r + j) v = pB V r m (u1 W j v) := by
  funext b
  by_cases e : b = r + j
  · subst e
    rw [u1_s, pB_at h, u1_s]
  · rw [u1_n e]
    by_cases e2 : r ≤ b ∧ b < r + m
    · rw [pB, if_pos e2, pB, if_pos e2, u1_n (by omega)]
    · rw [pB, if_neg e2, pB, if_neg e2]
theorem pB_inW {U : Nat → Nat → Int} (h : o + m' ≤ m) (hU : ∀ j, j < m' → W (o + j) = U j) : pB (pB V r m W) (r + o) m' U = pB V r m W := pB_self (fun j hj => by
  rw [Nat.add_assoc, pB_at (by omega)]
  exact hU j hj)
theorem pB_in (h : o + m' ≤ m) : pB (pB V r m W) (r + o) m' (fun j => W (o + j)) = pB V r m W := pB_self (fun j hj => by
  rw [Nat.add_assoc]
  exact pB_at (by omega))
theorem FC_out {A : Nat → Nat → Int} {f : Nat} (hA : VA A) (hF : FC V f A) (hf : f + 45 ≤ r ∨ r + m ≤ f) : FC (pB V r m W) f A := by
  obtain ⟨h1, h2, h3, h4, h5, h6, h7⟩ := hF
  have eP := fP10 hA
  have e4 := hA.2.2.2.2.1
  have e5 := hA.2.2.2.2.2.1
  have e8 := hA.2.2.2.2.2.2.2.2.1
  have g4 : fPl A ≤ 12 := by show (A 0 4).toNat ≤ 12; omega
  have g5 : fBu A ≤ 8 := by show (A 0 5).toNat ≤ 8; omega
  have g8 : fDi A ≤ 8 := by show (A 0 8).toNat ≤ 8; omega
  refine ⟨fun j hj => ?_, fun p hp j hj => ?_, fun p hp j hj => ?_, fun p hp j hj => ?_, fun p hp j hj => ?_, fun j hj => ?_, fun j hj => ?_⟩
  · rw [pB_out (by omega)]; exact h1 j hj
  · rw [pB_out (by omega)]; exact h2 p hp j hj
  · rw [pB_out (by omega)]; exact h3 p hp j hj
  · rw [pB_out (by omega)]; exact h4 p hp j hj
  · rw [pB_out (by omega)]; exact h5 p hp j hj
  · rw [pB_out (by omega)]; exact h6 j hj
  · rw [pB_out (by omega)]; exact h7 j hj
theorem NC_out {B : Nat → Nat → Int} {nw : Nat} (hN : NC V nw B) (hf : nw + 3 ≤ r ∨ r + m ≤ nw) : NC (pB V r m W) nw B := by
  obtain ⟨h1, h2, h3⟩ := hN
  refine ⟨fun j hj => ?_, fun j hj => ?_, fun j hj => ?_⟩
  · rw [pB_out (by omega)]; exact h1 j hj
  · rw [pB_out (by omega)]; exact h2 j hj
  · rw [pB_out (by omega)]; exact h3 j hj
theorem AC_out {A B : Nat → Nat → Int} {al : Nat} (hN : AC V al A B) (hf : al + 5 ≤ r ∨ r + m ≤ al) : AC (pB V r m W) al A B := by
  obtain ⟨h1, h2, h3⟩ := hN
  refine ⟨fun y hy => ?_, ?_, ?_⟩
  · rw [pB_out (by omega), pB_out (by omega), pB_out (by omega)]; exact h1 y hy
  · rw [pB_out (by omega)]; exact h2
  · rw [pB_out (by omega)]; exact h3
theorem WC_out {A B : Nat → Nat → Int} {f nw al : Nat} (hC : WC V f nw al A B) (h1 : f + 45 ≤ r ∨ r + m ≤ f) (h2 : nw + 3 ≤ r ∨ r + m ≤ nw) (h3 : al + 5 ≤ r ∨ r + m ≤ al) : WC (pB V r m W) f nw al A B :=
  ⟨FC_out hC.2.2.2.1 hC.1 h1, NC_out hC.2.1 h2, AC_out hC.2.2.1 h3, hC.2.2.2.1, hC.2.2.2.2⟩
end Pb2
theorem b_copy {g : GG} {y : MD} {pc : Nat} {L S : List Value} {k n : Nat} {Q : Option Value → Mem → Prop} {T : Nat → Nat × Nat} {V W : Nat → Nat → Int} {R : Nat → Nat → Option Nat} {J : Nat → Nat → Int64} {sz i r m j0 j n0 n1 p0 p1 q : Nat} {sp dp mm : Int} (hd : decode y.2.1 pc = .ok (.invokestatic i, 3)) (hw : Cond.methodLink y.1.cls i arraycopyName ∈ tb) (hdp : 1 ≤ y.2.2.2.2) (hT0 : T (r + j0) = (1, n0)) (hT1 : T (r + j) = (1, n1)) (e0 : sp = (p0 : Int)) (e1 : dp = (p1 : Int)) (e2 : mm = (q : Int)) (hs0 : p0 + q ≤ n0) (hs1 : p1 + q ≤ n1) (hn0 : n0 < 2 ^ 31) (hn1 : n1 < 2 ^ 31) (hr : (S.map fun v => v.category).sum ≤ 8) (h0 : j0 < m) (h1 : j < m)
    (kk : X g y (pc + 3) L S (T, iV (pB V r m (u1 W j (cpR (W j0) (W j) p0 p1 q))), R, J, sz) k n Q) : X g y pc L (.int (iI mm) :: .int (iI dp) :: .ref (r + j) :: .int (iI sp) :: .ref (r + j0) :: S) (T, iV (pB V r m W), R, J, sz) k n Q := by
  refine x_copy hd hw cpN cpS cpI hdp hT0 hT1 (ix_nat e0) (ix_nat e1) (ix_nat e2) hs0 hs1 hn0 hn1 hr ?_
  rw [iV_cpy, pB_at h0, pB_at h1, pB_u1 h1]
  exact kk
/-- the annals at aa: its own rows, then its run, then its notes -/
def US (T : Nat → Nat × Nat) (R : Nat → Nat → Option Nat) (aa w : Nat) : Prop := (T aa = (11, 0) ∧ R aa 0 = some w ∧ R aa 1 = some (aa + 8) ∧ R aa 2 = some (aa + 13)) ∧ (R aa 3 = some (aa + 1) ∧ R aa 4 = some (aa + 2) ∧ R aa 5 = some (aa + 3) ∧ R aa 6 = some (aa + 4) ∧ R aa 7 = some (aa + 5) ∧ R aa 8 = some (aa + 6) ∧ R aa 9 = some (aa + 7)) ∧ (T (aa + 1) = (1, 24) ∧ T (aa + 2) = (1, 24) ∧ T (aa + 3) = (1, 24) ∧ T (aa + 4) = (1, 24) ∧ T (aa + 5) = (1, 24) ∧ T (aa + 6) = (1, 240) ∧ T (aa + 7) = (1, 192)) ∧ RS T R (aa + 8) w ∧ OS T R (aa + 13) w
def AP16 (r w f nw al : Nat) : Prop := (w < r ∨ r + 16 ≤ w) ∧ (f + 45 ≤ r ∨ r + 16 ≤ f) ∧ (nw + 3 ≤ r ∨ r + 16 ≤ nw) ∧ (al + 5 ≤ r ∨ r + 16 ≤ al)
section AnP
variable (A B : Nat → Nat → Int)
/-- the notes behind m years of a run -/
def nTo (W0 N0 : Nat → Nat → Int) (m : Nat) : Nat → Nat → Int := lp m (fun y N => if 0 ≤ runTo A B W0 (y + 1) 4 y then nTurn A (runTo A B W0 (y + 1) 4 y).toNat (decide (runTo A B W0 (y + 1) 0 6 ≠ 0)) N else N) N0
/-- what the annals hold behind m years -/
def AnI (W0 N0 : Nat → Nat → Int) (m : Nat) (E : Nat → Nat → Int) : Prop := (∀ j, j < 5 → E (8 + j) = runTo A B W0 m j) ∧ (∀ j, j < 3 → E (13 + j) = nTo A B W0 N0 m j) ∧
  ∀ y, y < m → E 1 y = (rTh A B (runTo A B W0 y) y : Nat) ∧ E 2 y = (rCn A B (runTo A B W0 y) y : Nat) ∧ E 3 y = (if runTo A B W0 y 0 6 = 0 then 0 else 1) ∧ E 4 y = runTo A B W0 (y + 1) 0 8 - runTo A B W0 y 0 8 ∧ E 5 y = nTo A B W0 N0 (y + 1) 0 1 ∧ (∀ p, p < 10 → E 6 (10 * y + p) = nTo A B W0 N0 (y + 1) 1 p) ∧ (∀ s, s < 8 → E 7 (8 * y + s) = nTo A B W0 N0 (y + 1) 2 s)
end AnP
section C12
variable {g : GG} {T : Nat → Nat × Nat} {V E : Nat → Nat → Int} {R : Nat → Nat → Option Nat} {J : Nat → Nat → Int64} {z k n : Nat} {A B : Nat → Nat → Int} {aa w f nw al : Nat}
def wnE (A N : Nat → Nat → Int) (who : Int) (E : Nat → Nat → Int) : Nat → Nat → Int := if 0 ≤ who then pB E 13 3 (nTurn A who.toNat (decide (E 8 6 ≠ 0)) N) else E
def wnF (y : Nat) (E : Nat → Nat → Int) : Nat → Nat → Int := u1 (u1 (u2 E 5 y (E 13 1)) 6 (cpR (E 14) (E 6) 0 (10 * y) 10)) 7 (cpR (E 15) (E 7) 0 (8 * y) 8)
theorem c_writeNotes {y : Nat} {who : Int} {N : Nat → Nat → Int} (hu : US T R aa w) (hw : WS T R w f nw al) (hC : WC V f nw al A B) (hap : AP16 aa w f nw al) (hy : y < fY A) (hwho : -2 ≤ who ∧ who < A 0 3) (hEN : ∀ j, j < 3 → E (13 + j) = N j) (hN : NOk N) (h6 : 0 ≤ E 8 6 ∧ E 8 6 ≤ 1) : X g mX1_writeNotes 0 [.ref aa, .int (iI (y : Int)), .int (iI who)] [] (T, iV (pB V aa 16 E), R, J, z) k n (rV (T, iV (pB V aa 16 (wnF y (wnE A N who E))), R, J, z)) := by
  have hA := hC.2.2.2.1
  obtain ⟨p1, p2, p3, p4⟩ := hap
  have hWC := WC_out (W := E) (r := aa) (m := 16) hC p2 p3 p4
  have hnt := fun wn d hwn => c_nTurn (g := g) (J := J) (z := z) (k := 0) (n := 0) (V := pB V aa 16 E) (N := N) (o := aa + 13) (who := wn) (d := d) hu.2.2.2.2 hw.1.1 hw.1.2.1 hw.2.1 hWC.1 hA ⟨by omega, by omega⟩ hN hwn
  rw [pB_inW (by decide) hEN] at hnt
  obtain ⟨⟨u0, u1', u2', u3⟩, ⟨v3, v4, v5, v6, v7, v8, v9⟩, ⟨t1, t2, t3, t4, t5, t6, t7⟩, ⟨⟨r0, r1⟩, ⟨r2, r3, r4, r5⟩, ⟨s1, s2, s3, s4⟩⟩, ⟨⟨o0, o1⟩, ⟨o2, o3⟩, ⟨ot1, ot2⟩⟩⟩ := hu
  have eP := fP10 hA
  have eY := fY24 hA
  have fin : ∀ F : Nat → Nat → Int, X g mX1_writeNotes 19 [.ref aa, .int (iI (y : Int)), .int (iI who)] [] (T, iV (pB V aa 16 F), R, J, z) k n (rV (T, iV (pB V aa 16 (wnF y F)), R, J, z)) := by
    intro F
    refine x_aload_n dX1_writeNotes_19 rfl ?_
    refine x_gr dX1_writeNotes_20 fX1_24 (by first | assumption) (fun _ _ _ => rfl) (by first | assumption) ?_
    refine x_iload_n dX1_writeNotes_23 rfl ?_
    refine x_aload_n dX1_writeNotes_24 rfl ?_
    refine x_gr dX1_writeNotes_25 fX1_49 (by first | assumption) (fun _ _ _ => rfl) (by first | assumption) ?_
    refine b_gi (r := aa) (m := 16) (j := 13) dX1_writeNotes_28 fX1_110 (by first | assumption) (fun _ _ _ => rfl) (by decide) ?_
    refine b_iast (r := aa) (m := 16) (j := 5) (y) dX1_writeNotes_31 (by first | assumption) (by first | rfl | omega) (by omega) (by decide) (by decide) ?_
    refine x_aload_n dX1_writeNotes_32 rfl ?_
    refine (show X _ _ 33 _ _ _ _ _ _ from ?_)
    refine x_gr dX1_writeNotes_33 fX1_49 (by first | assumption) (fun _ _ _ => rfl) (by first | assumption) ?_
    refine x_gr dX1_writeNotes_36 fX1_113 (by first | assumption) (fun _ _ _ => rfl) (by first | assumption) ?_
    refine y_iconst dX1_writeNotes_39 ?_
    refine x_aload_n dX1_writeNotes_40 rfl ?_
    refine x_gr dX1_writeNotes_41 fX1_27 (by first | assumption) (fun _ _ _ => rfl) (by first | assumption) ?_
    refine x_iload_n dX1_writeNotes_44 rfl ?_
    refine y_bipush dX1_writeNotes_45 rfl ?_
    refine y_imul dX1_writeNotes_47 ?_
    refine (show X _ _ 48 _ _ _ _ _ _ from ?_)
    refine y_bipush dX1_writeNotes_48 rfl ?_
    refine (show X _ _ 50 _ _ _ _ _ _ from ?_)
    refine b_copy (r := aa) (m := 16) (j0 := 14) (j := 6) (p0 := 0) (p1 := 10 * y) (q := 10) dX1_writeNotes_50 lX1_116 (by decide) ot1 t6 rfl (by omega) rfl (by omega) (by omega) (by decide) (by decide) (Nat.le_of_ble_eq_true rfl) (by decide) (by decide) ?_
    refine (show X _ _ 53 _ _ _ _ _ _ from ?_)
    refine x_aload_n dX1_writeNotes_53 rfl ?_
    refine x_gr dX1_writeNotes_54 fX1_49 (by first | assumption) (fun _ _ _ => rfl) (by first | assumption) ?_
    refine x_gr dX1_writeNotes_57 fX1_122 (by first | assumption) (fun _ _ _ => rfl) (by first | assumption) ?_
    refine y_iconst dX1_writeNotes_60 ?_
    refine x_aload_n dX1_writeNotes_61 rfl ?_
    refine x_gr dX1_writeNotes_62 fX1_30 (by first | assumption) (fun _ _ _ => rfl) (by first | assumption) ?_
    refine x_iload_n dX1_writeNotes_65 rfl ?_
    refine y_bipush dX1_writeNotes_66 rfl ?_
    refine (show X _ _ 68 _ _ _ _ _ _ from ?_)
    refine y_imul dX1_writeNotes_68 ?_
    refine y_bipush dX1_writeNotes_69 rfl ?_
    refine (show X _ _ 71 _ _ _ _ _ _ from ?_)
    refine b_copy (r := aa) (m := 16) (j0 := 15) (j := 7) (p0 := 0) (p1 := 8 * y) (q := 8) dX1_writeNotes_71 lX1_116 (by decide) ot2 t7 rfl (by omega) rfl (by omega) (by omega) (by decide) (by decide) (Nat.le_of_ble_eq_true rfl) (by decide) (by decide) ?_
    exact x_return dX1_writeNotes_74 rfl ⟨rfl, rfl⟩
  unfold wnE
  refine x_iload_n dX1_writeNotes_0 rfl ?_
  refine (show X _ _ 1 _ _ _ _ _ _ from ?_)
  refine y_if_lt 19 dX1_writeNotes_1 (by decide) ⟨by omega, by omega⟩ (fun h1 => ?_) (fun h1 => ?_)
  · rw [if_neg (by omega)]
    exact fin E
  rw [if_pos h1]
  obtain ⟨p, rfl⟩ : ∃ p : Nat, who = (p : Int) := ⟨who.toNat, (Int.toNat_of_nonneg h1).symm⟩
  rw [Int.toNat_natCast]
  refine x_aload_n dX1_writeNotes_4 rfl ?_
  refine x_gr dX1_writeNotes_5 fX1_49 (by first | assumption) (fun _ _ _ => rfl) (by first | assumption) ?_
  refine x_iload_n dX1_writeNotes_8 rfl ?_
  refine x_aload_n dX1_writeNotes_9 rfl ?_
  refine x_gr dX1_writeNotes_10 fX1_42 (by first | assumption) (fun _ _ _ => rfl) (by first | assumption) ?_
  refine b_gi (r := aa) (m := 16) (j := 8) dX1_writeNotes_13 fX1_90 (by first | assumption) (fun _ _ _ => rfl) (by decide) ?_
  refine (show X _ _ 16 _ _ _ _ _ _ from ?_)
  refine X.val (b := bI (decide (E 8 6 ≠ 0))) (by by_cases q : E 8 6 = 0 <;> simp [q, bI] ; omega) ?_
  have c := hnt p (decide (E 8 6 ≠ 0)) (by omega)
  rw [pB_sub (by decide)] at c
  refine x_callV (As := [_, _]) (mc := 0) (ms := 0) (z := mX3_takeTurn) (ci := 3) dX1_writeNotes_16 lX1_106 oX3_takeTurn (by decide) (by first | assumption) rfl rfl (Nat.le_of_ble_eq_true rfl) (Nat.le_of_ble_eq_true rfl) rfl (c) (k_V ?_)
  refine (show X _ _ 19 _ _ _ _ _ _ from ?_)
  exact fin _
end C12
