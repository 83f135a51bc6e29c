/-! ===== Rows: the chains ===== -/
section Fc
variable (A B : Nat → Nat → Int)
def fcN (E : Nat → Nat → Int) : Bool × (Nat → Nat → Int) := wAnew A (passN A B E).1.toNat (passN A B E).2
def fcL : Nat → (Nat → Nat → Int) → Nat → Nat → Int
  | 0, E => E
  | c + 1, E => if (fcN A B E).1 = true then fcL c (fcN A B E).2 else (fcN A B E).2
def fc1 (j : Nat) (E : Nat → Nat → Int) : Nat → Nat → Int := u2 E 5 j (-2)
def fc2 (s : Nat) (E : Nat → Nat → Int) : Nat → Nat → Int := u2 E 5 (10 * s + (A 16 s).toNat) 0
def fc0 (E : Nat → Nat → Int) : Nat → Nat → Int := cwE (lp (fSe A) (fc2 A) (lp 80 fc1 (u2 E 0 7 1)))
def fcE (E : Nat → Nat → Int) : Nat → Nat → Int := if E 0 7 = 0 then fcL A B 10000 (fc0 A E) else E
end Fc
section Fc2
variable {A B E F : Nat → Nat → Int} {i : Nat}
def FcOk (E : Nat → Nat → Int) : Prop := NOk (fun j => E (11 + j)) ∧ CHk E ∧ (∀ j, j < 4 → 0 ≤ E 1 j ∧ E 1 j ≤ 9)
theorem pnA_ok (hA : VA A) : ∀ (d i : Nat) (F : Nat → Nat → Int), i + d = 4 → PnOk A F i → (0 ≤ (pnA A B d i F).1 ∧ (pnA A B d i F).1 ≤ 3) ∧ FcOk (pnA A B d i F).2
  | 0, i, F, _, h => ⟨⟨by show (0 : Int) ≤ 3; decide, by show (3 : Int) ≤ 3; decide⟩, h.2⟩
  | d + 1, i, F, hi, h => by
    rw [pnA]
    split
    · rename_i hm
      have hk1 := pnR_ok hA h (by omega) hm
      have hel : -2 ≤ pnR A B i F 10 i ∧ pnR A B i F 10 i < A 0 3 := hk1.1.2.2.2.2.2.2.2.2.2 i (by omega)
      have eP := hA.2.2.2.1
      exact pnA_ok hA d (i + 1) _ (by omega) (pnT_ok (i := i) hA hk1 (by omega) (by omega))
    · exact ⟨⟨by show (0 : Int) ≤ (i : Int); omega, by show (i : Int) ≤ 3; omega⟩, h.2⟩
theorem passN_ok (hA : VA A) (hB : VB A B) (h : FcOk E) : (0 ≤ (passN A B E).1 ∧ (passN A B E).1 ≤ 3) ∧ FcOk (passN A B E).2 := pnA_ok hA 4 0 _ (by omega) (pnB_ok hA hB h.1 h.2.1 h.2.2)
theorem fcN_ok (hA : VA A) (hB : VB A B) (h : FcOk E) : FcOk (fcN A B E).2 := by
  obtain ⟨-, h1, h2, h3⟩ := passN_ok hA hB h
  unfold fcN
  refine ⟨h1.con (fun j hj => wAnew_o (by omega)), fun j hj => ?_, wAnew_w hA h3⟩
  rw [wAnew_o (by decide)]
  exact h2 j hj
theorem fc1_ok (m : Nat) : (∀ j, j < m → lp m fc1 E 5 j = -2) ∧ ∀ a, a ≠ 5 → lp m fc1 E a = E a := by
  induction m with
  | zero => exact ⟨fun j hj => absurd hj (Nat.not_lt_zero _), fun _ _ => rfl⟩
  | succ m ih =>
    have e : lp (m + 1) fc1 E = u2 (lp m fc1 E) 5 m (-2) := rfl
    rw [e]
    refine ⟨fun j hj => ?_, fun a ha => by rw [u2_n ha]; exact ih.2 a ha⟩
    rw [u2_s]
    by_cases e : j = m
    · subst e; rw [u1_s]
    · rw [u1_n e]; exact ih.1 j (by omega)
theorem fc2_ok (h : CHk E) (m : Nat) : CHk (lp m (fc2 A) E) ∧ ∀ a, a ≠ 5 → lp m (fc2 A) E a = E a := by
  induction m with
  | zero => exact ⟨h, fun _ _ => rfl⟩
  | succ m ih =>
    have e : lp (m + 1) (fc2 A) E = u2 (lp m (fc2 A) E) 5 (10 * m + (A 16 m).toNat) 0 := rfl
    rw [e]
    refine ⟨fun j hj => ?_, fun a ha => by rw [u2_n ha]; exact ih.2 a ha⟩
    rw [u2_s]
    by_cases e : j = 10 * m + (A 16 m).toNat
    · rw [e, u1_s]; omega
    · rw [u1_n e]; exact ih.1 j hj
theorem fc0_ok (hN : NOk (fun j => E (11 + j))) : FcOk (fc0 A E) := by
  obtain ⟨a1, a2⟩ := fc1_ok (E := u2 E 0 7 1) 80
  have hc : CHk (lp 80 fc1 (u2 E 0 7 1)) := fun j hj => by rw [a1 j hj]; omega
  obtain ⟨b1, b2⟩ := fc2_ok (A := A) hc (fSe A)
  obtain ⟨c1, c2⟩ := cwE_1 (lp (fSe A) (fc2 A) (lp 80 fc1 (u2 E 0 7 1)))
  unfold fc0
  refine ⟨hN.con (fun j hj => ?_), fun j hj => ?_, fun j hj => ?_⟩
  · show cwE _ (11 + j) = _
    rw [c2 _ (by omega), b2 _ (by omega), a2 _ (by omega), u2_n (by omega)]
  · rw [c2 _ (by decide)]; exact b1 j hj
  · rw [c1 j hj]; omega
end Fc2
section C21
variable {g : GG} {T : Nat → Nat × Nat} {V E W : Nat → Nat → Int} {R : Nat → Nat → Option Nat} {J : Nat → Nat → Int64} {z k n : Nat} {A B : Nat → Nat → Int} {rr w f nw al : Nat}
theorem c_findChains (hq : QS T R rr w) (hw : WS T R w f nw al) (hC : WC V f nw al A B) (hap : AP14 rr w f nw al) (h4 : 4 ≤ fY A) (hN : NOk (fun j => E (11 + j))) (h7 : 0 ≤ E 0 7 ∧ E 0 7 ≤ 1) : X g mX7_findChains 0 [.ref rr, jk, jk] [] (T, iV (pB V rr 14 E), R, J, z) k n (rV (T, iV (pB V rr 14 (fcE A B E)), R, J, z)) := by
  have hA := hC.2.2.2.1
  have hB := hC.2.2.2.2
  have eS := fS8 hA
  have eP := fP10 hA
  have h16 := hA.2.2.2.2.2.2.2.2.2.2.2.2.1
  have hcw := fun F => c_clearWishes (g := g) (J := J) (z := z) (k := 0) (n := 0) (V := V) (E := F) hq
  have hpn := fun F (h : FcOk F) => c_passNotes (g := g) (J := J) (z := z) (k := 0) (n := 0) (E := F) hq hw hC hap h4 h.1 h.2.1 h.2.2
  have hwa := fun F i hi hE => c_wishAnew (g := g) (J := J) (z := z) (k := 0) (n := 0) (V := V) (E := F) (i := i) hq hw.1.1 hw.1.2.1 hw.2.1 hC.1 hA ⟨hap.1, hap.2.1⟩ hi hE
  obtain ⟨p1, p2, p3, p4⟩ := hap
  obtain ⟨⟨q0, q1, q2, q3⟩, ⟨v3, v4, v5, v6, v8⟩, ⟨t1, t2, t3, t4, t5⟩, -, -⟩ := hq
  obtain ⟨⟨w0, w1, w2, w3⟩, ⟨f0, ⟨f9, f10, f11, f12, f13, f14⟩, ⟨ft1, ft12, ft25, ft34, ft43, ft44⟩, -⟩, -, -⟩ := hw
  obtain ⟨⟨hV0, -, -, -, -, hV43, -⟩, -, -⟩ := hC
  unfold fcE
  refine x_aload_n dX7_findChains_0 rfl ?_
  refine b_gi0 (r := rr) (m := 14) dX7_findChains_1 fX7_25 (by first | assumption) (fun _ _ _ => rfl) (by decide) ?_
  refine (show X _ _ 4 _ _ _ _ _ _ from ?_)
  refine y_if_eq 8 dX7_findChains_4 (by decide) ⟨by omega, by omega⟩ (fun h => ?_) (fun h => ?_)
  rotate_left
  · rw [if_neg h]
    exact x_return dX7_findChains_7 rfl ⟨rfl, rfl⟩
  rw [if_pos h]
  have hok0 := fc0_ok (A := A) hN
  refine x_aload_n dX7_findChains_8 rfl ?_
  refine y_iconst dX7_findChains_9 ?_
  refine b_pi0 (r := rr) (m := 14) dX7_findChains_10 (pX7_25 _) (by first | assumption) (fun _ _ _ => rfl) (by first | rfl | exact bI_nar _) (by first | rfl | exact bI_fit _) (by decide) ?_
  refine y_iconst dX7_findChains_13 ?_
  refine x_istore_n dX7_findChains_14 (by decide) rfl rfl ?_
  refine (show X _ _ 15 _ _ _ _ _ _ from ?_)
  have k1 : ∀ (c j : Nat) (F : Nat → Nat → Int) (b : Bool), j + c = 10000 → FcOk F → X g mX7_findChains 91 [.ref rr, .int (iI (bI b)), .int (iI (j : Int))] [] (T, iV (pB V rr 14 F), R, J, z) k n (rV (T, iV (pB V rr 14 (if b = true then fcL A B c F else F)), R, J, z)) := by
    intro c
    induction c with
    | zero =>
      intro j F b hj hE
      have e : (if b = true then fcL A B 0 F else F) = F := by split <;> rfl
      rw [e]
      refine x_iload_n dX7_findChains_91 rfl ?_
      refine y_sipush dX7_findChains_92 rfl ?_
      refine (show X _ _ 95 _ _ _ _ _ _ from ?_)
      refine y_icmp_ge 117 dX7_findChains_95 (by decide) ⟨by omega, by omega⟩ ⟨by omega, by omega⟩ (fun h1 => ?_) (fun h1 => ?_)
      · exact x_return dX7_findChains_117 rfl ⟨rfl, rfl⟩
      · omega
    | succ c ih =>
      intro j F b hj hE
      refine x_iload_n dX7_findChains_91 rfl ?_
      refine y_sipush dX7_findChains_92 rfl ?_
      refine (show X _ _ 95 _ _ _ _ _ _ from ?_)
      refine y_icmp_ge 117 dX7_findChains_95 (by decide) ⟨by omega, by omega⟩ ⟨by omega, by omega⟩ (fun h1 => ?_) (fun h1 => ?_)
      · omega
      refine x_iload_n dX7_findChains_98 rfl ?_
      refine (show X _ _ 99 _ _ _ _ _ _ from ?_)
      refine y_ifb_eq 117 dX7_findChains_99 (by decide) (fun h3 => ?_) (fun h3 => ?_)
      · rw [h3, if_neg (by decide)]
        exact x_return dX7_findChains_117 rfl ⟨rfl, rfl⟩
      · rw [h3, if_pos rfl]
        have hok := fcN_ok hA hB hE
        obtain ⟨i1, i2⟩ := passN_ok hA hB hE
        have ht := hpn F hE
        have hw2 := hwa (passN A B F).2 (passN A B F).1.toNat (by omega) i2.2.2
        rw [Int.toNat_of_nonneg i1.1] at hw2
        have ef : wAnew A (passN A B F).1.toNat (passN A B F).2 = fcN A B F := rfl
        rw [ef] at hw2
        rw [fcL]
        refine x_aload_n dX7_findChains_102 rfl ?_
        refine x_aload_n dX7_findChains_103 rfl ?_
        refine (show X _ _ 104 _ _ _ _ _ _ from ?_)
        refine x_callV (As := []) (mc := 0) (ms := 0) (z := mX7_passNotes) (ci := 7) dX7_findChains_104 lX7_139 oX7_passNotes (by decide) (by first | assumption) rfl rfl (Nat.le_of_ble_eq_true rfl) (Nat.le_of_ble_eq_true rfl) rfl (ht) (k_I ?_)
        refine (show X _ _ 107 _ _ _ _ _ _ from ?_)
        refine x_callV (As := [_]) (mc := 0) (ms := 0) (z := mX7_wishAnew) (ci := 7) dX7_findChains_107 lX7_60 oX7_wishAnew (by decide) (by first | assumption) rfl rfl (Nat.le_of_ble_eq_true rfl) (Nat.le_of_ble_eq_true rfl) rfl (hw2) (k_I ?_)
        refine (show X _ _ 110 _ _ _ _ _ _ from ?_)
        refine x_istore_n dX7_findChains_110 (by decide) rfl rfl ?_
        refine y_iinc dX7_findChains_111 rfl (by decide) rfl rfl ?_
        refine x_goto 91 dX7_findChains_114 (by decide) ?_
        refine (show X _ _ 91 _ _ _ _ _ _ from ?_)
        have e : (j : Int) + 1 = ((j + 1 : Nat) : Int) := by omega
        rw [e]
        exact ih (j + 1) _ _ (by omega) hok
  have k2 := k1 10000 0 (fc0 A E) true (by omega) hok0
  rw [if_pos rfl] at k2
  generalize fcL A B 10000 (fc0 A E) = FE at *
  unfold fc0 at k2
  refine loopN (P := fun j => X g mX7_findChains 15 [.ref rr, .int (iI (j : Int)), jk] [] (T, iV (pB V rr 14 (lp j fc1 (u2 E 0 7 1))), R, J, z) k n (rV (T, iV (pB V rr 14 FE), R, J, z))) 80 ?_ (fun j hj ih => ?_)
  rotate_left
  · refine x_iload_n dX7_findChains_15 rfl ?_
    refine x_aload_n dX7_findChains_16 rfl ?_
    refine x_gr dX7_findChains_17 fX7_29 (by first | assumption) (fun _ _ _ => rfl) (by first | assumption) ?_
    refine x_alen dX7_findChains_20 (by first | assumption) (by decide) (by decide) rfl ?_
    refine (show X _ _ 21 _ _ _ _ _ _ from ?_)
    refine (show X _ _ 21 _ [.int (iI 80), _] _ _ _ _ from ?_)
    refine y_icmp_ge 38 dX7_findChains_21 (by decide) ⟨by omega, by omega⟩ ⟨by omega, by omega⟩ (fun h1 => ?_) (fun h1 => ?_)
    · omega
    refine x_aload_n dX7_findChains_24 rfl ?_
    refine x_gr dX7_findChains_25 fX7_29 (by first | assumption) (fun _ _ _ => rfl) (by first | assumption) ?_
    refine x_iload_n dX7_findChains_28 rfl ?_
    refine y_bipush dX7_findChains_29 rfl ?_
    refine b_iast (r := rr) (m := 14) (j := 5) (j) dX7_findChains_31 (by first | assumption) (by first | rfl | omega) (by omega) (by decide) (by decide) ?_
    refine y_iinc dX7_findChains_32 rfl (by decide) rfl rfl ?_
    refine x_goto 15 dX7_findChains_35 (by decide) ?_
    refine (show X _ _ 15 _ _ _ _ _ _ from ?_)
    exact ih
  refine x_iload_n dX7_findChains_15 rfl ?_
  refine x_aload_n dX7_findChains_16 rfl ?_
  refine x_gr dX7_findChains_17 fX7_29 (by first | assumption) (fun _ _ _ => rfl) (by first | assumption) ?_
  refine x_alen dX7_findChains_20 (by first | assumption) (by decide) (by decide) rfl ?_
  refine (show X _ _ 21 _ _ _ _ _ _ from ?_)
  refine (show X _ _ 21 _ [.int (iI 80), _] _ _ _ _ from ?_)
  refine y_icmp_ge 38 dX7_findChains_21 (by decide) ⟨by omega, by omega⟩ ⟨by omega, by omega⟩ (fun h1 => ?_) (fun h1 => ?_)
  rotate_left
  · omega
  refine y_iconst dX7_findChains_38 ?_
  refine x_istore_n dX7_findChains_39 (by decide) rfl rfl ?_
  refine (show X _ _ 40 _ _ _ _ _ _ from ?_)
  generalize lp 80 fc1 (u2 E 0 7 1) = E1 at *
  refine loopN (P := fun s => X g mX7_findChains 40 [.ref rr, .int (iI (s : Int)), jk] [] (T, iV (pB V rr 14 (lp s (fc2 A) E1)), R, J, z) k n (rV (T, iV (pB V rr 14 FE), R, J, z))) (fSe A) ?_ (fun s hs ih => ?_)
  · refine x_iload_n dX7_findChains_40 rfl ?_
    refine x_aload_n dX7_findChains_41 rfl ?_
    refine x_gr dX7_findChains_42 fX7_32 (by first | assumption) (fun _ _ _ => rfl) (by first | assumption) ?_
    refine x_gr dX7_findChains_45 fX7_70 (by first | assumption) (fun _ _ _ => rfl) (by first | assumption) ?_
    refine b_gio (r := rr) (m := 14) dX7_findChains_48 fX7_133 (by first | assumption) (fun _ _ _ => rfl) (by omega) ?_
    refine (show X _ _ 51 _ _ _ _ _ _ from ?_)
    refine X.val (b := A 0 6) (hV0 6 (by omega)) ?_
    refine y_icmp_ge 83 dX7_findChains_51 (by decide) ⟨by omega, by omega⟩ ⟨by omega, by omega⟩ (fun h2 => ?_) (fun h2 => ?_)
    · refine x_aload_n dX7_findChains_83 rfl ?_
      refine (show X _ _ 84 _ _ _ _ _ _ from ?_)
      refine x_callV (As := []) (mc := 0) (ms := 0) (z := mX7_clearWishes) (ci := 7) dX7_findChains_84 lX7_53 oX7_clearWishes (by decide) (by first | assumption) rfl rfl (Nat.le_of_ble_eq_true rfl) (Nat.le_of_ble_eq_true rfl) rfl (hcw _) (k_V ?_)
      refine (show X _ _ 87 _ _ _ _ _ _ from ?_)
      refine y_iconst dX7_findChains_87 ?_
      refine x_istore_n dX7_findChains_88 (by decide) rfl rfl ?_
      refine y_iconst dX7_findChains_89 ?_
      refine x_istore_n dX7_findChains_90 (by decide) rfl rfl ?_
      refine (show X _ _ 91 _ _ _ _ _ _ from ?_)
      exact k2
    · omega
  have h6 := h16 s hs
  rw [lp_s, fc2] at ih
  generalize lp s (fc2 A) E1 = E2 at *
  obtain ⟨q, hq⟩ : ∃ q : Nat, A 16 s = (q : Int) := ⟨(A 16 s).toNat, (Int.toNat_of_nonneg h6.1).symm⟩
  rw [hq] at ih h6
  rw [Int.toNat_natCast] at ih
  refine x_iload_n dX7_findChains_40 rfl ?_
  refine x_aload_n dX7_findChains_41 rfl ?_
  refine x_gr dX7_findChains_42 fX7_32 (by first | assumption) (fun _ _ _ => rfl) (by first | assumption) ?_
  refine x_gr dX7_findChains_45 fX7_70 (by first | assumption) (fun _ _ _ => rfl) (by first | assumption) ?_
  refine b_gio (r := rr) (m := 14) dX7_findChains_48 fX7_133 (by first | assumption) (fun _ _ _ => rfl) (by omega) ?_
  refine (show X _ _ 51 _ _ _ _ _ _ from ?_)
  refine X.val (b := A 0 6) (hV0 6 (by omega)) ?_
  refine y_icmp_ge 83 dX7_findChains_51 (by decide) ⟨by omega, by omega⟩ ⟨by omega, by omega⟩ (fun h2 => ?_) (fun h2 => ?_)
  · omega
  refine x_aload_n dX7_findChains_54 rfl ?_
  refine x_gr dX7_findChains_55 fX7_29 (by first | assumption) (fun _ _ _ => rfl) (by first | assumption) ?_
  refine x_iload_n dX7_findChains_58 rfl ?_
  refine y_bipush dX7_findChains_59 rfl ?_
  refine y_imul dX7_findChains_61 ?_
  refine x_aload_n dX7_findChains_62 rfl ?_
  refine x_gr dX7_findChains_63 fX7_32 (by first | assumption) (fun _ _ _ => rfl) (by first | assumption) ?_
  refine x_gr dX7_findChains_66 fX7_70 (by first | assumption) (fun _ _ _ => rfl) (by first | assumption) ?_
  refine (show X _ _ 69 _ _ _ _ _ _ from ?_)
  refine x_gr dX7_findChains_69 fX7_136 (by first | assumption) (fun _ _ _ => rfl) (by first | assumption) ?_
  refine x_iload_n dX7_findChains_72 rfl ?_
  refine b_ialo (r := rr) (m := 14) (s) dX7_findChains_73 (by first | assumption) (by first | rfl | omega) (by omega) (by decide) (by omega) ?_
  refine (show X _ _ 74 _ _ _ _ _ _ from ?_)
  refine X.val (b := (q : Int)) ((hV43 s hs).trans hq) ?_
  refine y_iadd dX7_findChains_74 ?_
  refine y_iconst dX7_findChains_75 ?_
  refine b_iast (r := rr) (m := 14) (j := 5) (10 * s + q) dX7_findChains_76 (by first | assumption) (by first | rfl | omega) (by omega) (by decide) (by decide) ?_
  refine y_iinc dX7_findChains_77 rfl (by decide) rfl rfl ?_
  refine x_goto 40 dX7_findChains_80 (by decide) ?_
  refine (show X _ _ 40 _ _ _ _ _ _ from ?_)
  exact ih
end C21
