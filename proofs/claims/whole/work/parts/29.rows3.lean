/-! ===== Rows: the best row ===== -/
section Fd
variable {A B E : Nat → Nat → Int} {m : Nat}
/-- what trying a row keeps -/
def TrI (E : Nat → Nat → Int) (m : Nat) (r : Int × (Nat → Nat → Int)) : Prop := (0 ≤ r.1 ∧ r.1 ≤ 3) ∧ (∀ a, a ≠ 3 → a ≠ 4 → (a < 6 ∨ 11 ≤ a) → r.2 a = E a) ∧ (∀ j, j ≠ m → r.2 3 j = E 3 j) ∧ (0 ≤ r.2 3 m ∧ r.2 3 m ≤ E 3 m)
theorem TrI_run {W : Nat → Nat → Int} {x : Int} (hx : 0 ≤ x ∧ x ≤ 3) (hL : 0 ≤ E 3 m) : TrI E m (x, pB E 6 5 W) := ⟨hx, fun a _ _ h => pB_out (by omega), fun j _ => by show pB E 6 5 W 3 j = _; rw [pB_out (by decide)], by show 0 ≤ pB E 6 5 W 3 m ∧ pB E 6 5 W 3 m ≤ _; rw [pB_out (by decide)]; omega⟩
theorem trEnd_i {W : Nat → Nat → Int} (hm : 1 ≤ m ∧ m ≤ 4) (hL : 0 ≤ E 3 m) (hh : 0 ≤ W 0 8) : TrI E m (trEnd E m W) := by
  unfold trEnd
  by_cases h : W 0 8 < E 3 m
  · rw [if_pos h]
    refine ⟨⟨by show 0 ≤ (m : Int) - 1; omega, by show (m : Int) - 1 ≤ 3; omega⟩, fun a h3 h4 h6 => ?_, fun j hj => ?_, ?_⟩
    · show u1 (u2 (pB E 6 5 W) 3 m (W 0 8)) 4 _ a = _
      rw [u1_n h4, u2_n h3, pB_out (by omega)]
    · show u2 (pB E 6 5 W) 3 m (W 0 8) 3 j = _
      rw [u2_s, u1_n hj, pB_out (by decide)]
    · show 0 ≤ u2 (pB E 6 5 W) 3 m (W 0 8) 3 m ∧ u2 (pB E 6 5 W) 3 m (W 0 8) 3 m ≤ _
      rw [u2_s, u1_s]
      omega
  · rw [if_neg h]
    exact TrI_run ⟨by omega, by omega⟩ hL
theorem tr2_i (hA : VA A) (hm : 1 ≤ m ∧ m ≤ 4) (hL : 0 ≤ E 3 m) : ∀ d y (W : Nat → Nat → Int), HB W y → TrI E m (tr2 A B E m d y W)
  | 0, _, _, h => trEnd_i hm hL h.1
  | d + 1, y, W, h => by
    rw [tr2]
    split
    · exact tr2_i hA hm hL d (y + 1) _ (passY_hb hA h)
    · exact trEnd_i hm hL h.1
theorem trA_i (hA : VA A) (hm : 1 ≤ m ∧ m ≤ 4) (hL : 0 ≤ E 3 m) : ∀ d i (W : Nat → Nat → Int), i + d = m → HB W i → TrI E m (trA A B E m d i W)
  | 0, i, W, hi, h => by
    rw [trA]
    have e : i = m := by omega
    subst e
    exact tr2_i hA hm hL _ _ _ h
  | d + 1, i, W, hi, h => by
    rw [trA]
    split
    · split
      · exact trA_i hA hm hL d (i + 1) _ (by omega) (mwW_hb hA h)
      · exact TrI_run ⟨by omega, by omega⟩ hL
    · exact TrI_run ⟨by omega, by omega⟩ hL
theorem tryR_i (hA : VA A) (hm : 1 ≤ m ∧ m ≤ 4) (hL : 0 ≤ E 3 m) : TrI E m (tryR A B E m) := trA_i hA hm hL m 0 _ (by omega) rBeg_hb
theorem wnC_w {P : Int} (hP : P ≤ 10) : ∀ (c : Nat) (E : Nat → Nat → Int), (∀ j, j < 4 → 0 ≤ E 1 j ∧ E 1 j ≤ 9) → ∀ j, j < 4 → 0 ≤ (wnC P c E).2 1 j ∧ (wnC P c E).2 1 j ≤ 9
  | 0, _, h => h
  | c + 1, E, h => by
    intro j hj
    rw [wnC]
    have hb := h j hj
    split
    · show 0 ≤ u2 E 1 c _ 1 j ∧ u2 E 1 c _ 1 j ≤ 9
      rw [u2_s]
      by_cases e : j = c
      · subst e; rw [u1_s]; omega
      · rw [u1_n e]; exact hb
    · refine wnC_w hP c _ (fun i hi => ?_) j hj
      rw [u2_s]
      by_cases e : i = c
      · subst e; rw [u1_s]; omega
      · rw [u1_n e]; exact h i hi
theorem wnC_o {P : Int} : ∀ (c : Nat) (E : Nat → Nat → Int) (a : Nat), a ≠ 1 → (wnC P c E).2 a = E a
  | 0, _, _, _ => rfl
  | c + 1, E, a, h => by
    rw [wnC]
    split
    · exact u2_n h
    · rw [wnC_o c _ a h, u2_n h]
theorem wAnew_w (hA : VA A) {i : Nat} (h : ∀ j, j < 4 → 0 ≤ E 1 j ∧ E 1 j ≤ 9) : ∀ j, j < 4 → 0 ≤ (wAnew A i E).2 1 j ∧ (wAnew A i E).2 1 j ≤ 9 := by
  refine wnC_w (hA.2.2.2.1.2) _ _ (fun j hj => ?_)
  rw [wz, u1_s]
  have := h j hj
  show 0 ≤ (if i < j ∧ j ≤ 3 then 0 else E 1 j) ∧ (if i < j ∧ j ≤ 3 then 0 else E 1 j) ≤ 9
  split <;> omega
theorem wAnew_o {i a : Nat} (h : a ≠ 1) : (wAnew A i E).2 a = E a := by
  rw [wAnew, wnC_o _ _ a h, wz, u1_n h]
end Fd
section Fd2
variable (A B : Nat → Nat → Int) (m : Nat)
def fdN (E : Nat → Nat → Int) : Bool × (Nat → Nat → Int) := wAnew A (tryR A B E m).1.toNat (tryR A B E m).2
def fdL : Nat → (Nat → Nat → Int) → Nat → Nat → Int
  | 0, E => E
  | c + 1, E => if (fdN A B m E).1 = true then fdL c (fdN A B m E).2 else (fdN A B m E).2
def fdE (E : Nat → Nat → Int) : Nat → Nat → Int := if E 2 m = 0 then fdL A B m 10000 (cwE (u2 (u2 E 2 m 1) 3 m 1000000000)) else E
end Fd2
section C18
variable {g : GG} {T : Nat → Nat × Nat} {V E W : Nat → Nat → Int} {R : Nat → Nat → Option Nat} {J : Nat → Nat → Int64} {z k n : Nat} {A B : Nat → Nat → Int} {rr w f nw al : Nat}
theorem fdN_ok {m : Nat} (hA : VA A) (hm : 1 ≤ m ∧ m ≤ 4) (hE : ∀ j, j < 4 → 0 ≤ E 1 j ∧ E 1 j ≤ 9) (hL : 0 ≤ E 3 m ∧ E 3 m ≤ 1000000000) : (∀ j, j < 4 → 0 ≤ (fdN A B m E).2 1 j ∧ (fdN A B m E).2 1 j ≤ 9) ∧ (0 ≤ (fdN A B m E).2 3 m ∧ (fdN A B m E).2 3 m ≤ 1000000000) := by
  obtain ⟨h1, h2, h3, h4⟩ := tryR_i (B := B) hA hm hL.1
  unfold fdN
  refine ⟨wAnew_w hA (fun j hj => ?_), ?_⟩
  · rw [h2 1 (by decide) (by decide) (by decide)]; exact hE j hj
  · rw [wAnew_o (by decide)]; omega
theorem cwE_1 (E : Nat → Nat → Int) : (∀ j, j < 4 → cwE E 1 j = 0) ∧ (∀ a, a ≠ 1 → cwE E a = E a) := by
  have key : ∀ c, (∀ j, j < c → lp c (fun j E => u2 E 1 j 0) E 1 j = 0) ∧ (∀ a, a ≠ 1 → lp c (fun j E => u2 E 1 j 0) E a = E a) := by
    intro c
    induction c with
    | zero => exact ⟨fun j hj => absurd hj (Nat.not_lt_zero _), fun _ _ => rfl⟩
    | succ c ih =>
      refine ⟨fun j hj => ?_, fun a ha => ?_⟩
      · show u2 (lp c (fun j E => u2 E 1 j 0) E) 1 c 0 1 j = 0
        rw [u2_s]
        by_cases e : j = c
        · subst e; rw [u1_s]
        · rw [u1_n e]; exact ih.1 j (by omega)
      · show u2 (lp c (fun j E => u2 E 1 j 0) E) 1 c 0 a = E a
        rw [u2_n ha]; exact ih.2 a ha
  exact key 4
theorem c_find {m : Nat} (hq : QS T R rr w) (hw : WS T R w f nw al) (hC : WC V f nw al A B) (hap : AP14 rr w f nw al) (hm : 1 ≤ m ∧ m ≤ 4) (h4 : m ≤ fY A) (h2 : 0 ≤ E 2 m ∧ E 2 m ≤ 1) : X g mX7_find 0 [.ref rr, .int (iI (m : Int)), jk, jk] [] (T, iV (pB V rr 14 E), R, J, z) k n (rI (iI (fdE A B m E 3 m)) (T, iV (pB V rr 14 (fdE A B m E)), R, J, z)) := by
  have hA := hC.2.2.2.1
  have hcw := fun F => c_clearWishes (g := g) (J := J) (z := z) (k := 0) (n := 0) (V := V) (E := F) hq
  have htr := fun F hE hL => c_tryRow (g := g) (J := J) (z := z) (k := 0) (n := 0) (E := F) (m := m) hq hw hC hap hm h4 hE hL
  have hwa := fun F i hi hE => c_wishAnew (g := g) (J := J) (z := z) (k := 0) (n := 0) (V := V) (E := F) (i := i) hq hw.1.1 hw.1.2.1 hw.2.1 hC.1 hA ⟨hap.1, hap.2.1⟩ hi hE
  obtain ⟨⟨q0, q1, q2, q3⟩, ⟨v3, v4, v5, v6, v8⟩, ⟨t1, t2, t3, t4, t5⟩, -, -⟩ := hq
  unfold fdE
  refine x_aload_n dX7_find_0 rfl ?_
  refine x_gr dX7_find_1 fX7_15 (by first | assumption) (fun _ _ _ => rfl) (by first | assumption) ?_
  refine x_iload_n dX7_find_4 rfl ?_
  refine b_zald (r := rr) (m := 14) (j := 2) (m) dX7_find_5 (by first | assumption) (by first | rfl | omega) (by omega) (by decide) (by decide) ?_
  refine (show X _ _ 6 _ _ _ _ _ _ from ?_)
  refine y_if_eq 16 dX7_find_6 (by decide) ⟨by omega, by omega⟩ (fun h => ?_) (fun h => ?_)
  · rw [if_pos h]
    have hE1 : ∀ j, j < 4 → 0 ≤ cwE (u2 (u2 E 2 m 1) 3 m 1000000000) 1 j ∧ cwE (u2 (u2 E 2 m 1) 3 m 1000000000) 1 j ≤ 9 := fun j hj => by
      rw [(cwE_1 _).1 j hj]; omega
    have hL1 : 0 ≤ cwE (u2 (u2 E 2 m 1) 3 m 1000000000) 3 m ∧ cwE (u2 (u2 E 2 m 1) 3 m 1000000000) 3 m ≤ 1000000000 := by
      rw [(cwE_1 _).2 3 (by decide), u2_s, u1_s]; omega
    refine x_aload_n dX7_find_16 rfl ?_
    refine x_gr dX7_find_17 fX7_15 (by first | assumption) (fun _ _ _ => rfl) (by first | assumption) ?_
    refine x_iload_n dX7_find_20 rfl ?_
    refine y_iconst dX7_find_21 ?_
    refine b_zast (r := rr) (m := 14) (j := 2) (m) dX7_find_22 (by first | assumption) (by first | rfl | omega) (by omega) (by decide) (by first | rfl | exact bI_nar _) (by decide) ?_
    refine x_aload_n dX7_find_23 rfl ?_
    refine x_gr dX7_find_24 fX7_19 (by first | assumption) (fun _ _ _ => rfl) (by first | assumption) ?_
    refine x_iload_n dX7_find_27 rfl ?_
    refine (show X _ _ 28 _ _ _ _ _ _ from ?_)
    refine y_ldc (1000000000) dX7_find_28 kX7_52 rfl ?_
    refine b_iast (r := rr) (m := 14) (j := 3) (m) dX7_find_30 (by first | assumption) (by first | rfl | omega) (by omega) (by decide) (by decide) ?_
    refine x_aload_n dX7_find_31 rfl ?_
    refine (show X _ _ 32 _ _ _ _ _ _ from ?_)
    refine x_callV (As := []) (mc := 0) (ms := 0) (z := mX7_clearWishes) (ci := 7) dX7_find_32 lX7_53 oX7_clearWishes (by decide) (by first | assumption) rfl rfl (Nat.le_of_ble_eq_true rfl) (Nat.le_of_ble_eq_true rfl) rfl (hcw _) (k_V ?_)
    refine (show X _ _ 35 _ _ _ _ _ _ from ?_)
    refine y_iconst dX7_find_35 ?_
    refine x_istore_n dX7_find_36 (by decide) rfl rfl ?_
    refine y_iconst dX7_find_37 ?_
    refine x_istore_n dX7_find_38 (by decide) rfl rfl ?_
    refine (show X _ _ 39 _ _ _ _ _ _ from ?_)
    generalize cwE (u2 (u2 E 2 m 1) 3 m 1000000000) = E1 at *
    have k1 : ∀ (c j : Nat) (F : Nat → Nat → Int) (b : Bool), j + c = 10000 → (∀ j, j < 4 → 0 ≤ F 1 j ∧ F 1 j ≤ 9) → (0 ≤ F 3 m ∧ F 3 m ≤ 1000000000) → X g mX7_find 39 [.ref rr, .int (iI (m : Int)), .int (iI (bI b)), .int (iI (j : Int))] [] (T, iV (pB V rr 14 F), R, J, z) k n (rI (iI ((if b = true then fdL A B m c F else F) 3 m)) (T, iV (pB V rr 14 (if b = true then fdL A B m c F else F)), R, J, z)) := by
      intro c
      induction c with
      | zero =>
        intro j F b hj hE hL
        have e : (if b = true then fdL A B m 0 F else F) = F := by split <;> rfl
        rw [e]
        refine x_iload_n dX7_find_39 rfl ?_
        refine y_sipush dX7_find_40 rfl ?_
        refine (show X _ _ 43 _ _ _ _ _ _ from ?_)
        refine y_icmp_ge 66 dX7_find_43 (by decide) ⟨by omega, by omega⟩ ⟨by omega, by omega⟩ (fun h1 => ?_) (fun h1 => ?_)
        · refine x_aload_n dX7_find_66 rfl ?_
          refine x_gr dX7_find_67 fX7_19 (by first | assumption) (fun _ _ _ => rfl) (by first | assumption) ?_
          refine x_iload_n dX7_find_70 rfl ?_
          refine b_iald (r := rr) (m := 14) (j := 3) (m) dX7_find_71 (by first | assumption) (by first | rfl | omega) (by omega) (by decide) (by decide) ?_
          refine (show X _ _ 72 _ _ _ _ _ _ from ?_)
          exact x_ireturn dX7_find_72 rfl ⟨rfl, rfl⟩
        · omega
      | succ c ih =>
        intro j F b hj hE hL
        refine x_iload_n dX7_find_39 rfl ?_
        refine y_sipush dX7_find_40 rfl ?_
        refine (show X _ _ 43 _ _ _ _ _ _ from ?_)
        refine y_icmp_ge 66 dX7_find_43 (by decide) ⟨by omega, by omega⟩ ⟨by omega, by omega⟩ (fun h1 => ?_) (fun h1 => ?_)
        · omega
        refine x_iload_n dX7_find_46 rfl ?_
        refine (show X _ _ 47 _ _ _ _ _ _ from ?_)
        refine y_ifb_eq 66 dX7_find_47 (by decide) (fun h3 => ?_) (fun h3 => ?_)
        · rw [h3, if_neg (by decide)]
          refine x_aload_n dX7_find_66 rfl ?_
          refine x_gr dX7_find_67 fX7_19 (by first | assumption) (fun _ _ _ => rfl) (by first | assumption) ?_
          refine x_iload_n dX7_find_70 rfl ?_
          refine b_iald (r := rr) (m := 14) (j := 3) (m) dX7_find_71 (by first | assumption) (by first | rfl | omega) (by omega) (by decide) (by decide) ?_
          refine (show X _ _ 72 _ _ _ _ _ _ from ?_)
          exact x_ireturn dX7_find_72 rfl ⟨rfl, rfl⟩
        · rw [h3, if_pos rfl]
          have hok := fdN_ok (B := B) hA hm hE hL
          obtain ⟨i1, i2, i3, i4⟩ := tryR_i (B := B) hA hm hL.1
          have ht := htr F hE hL
          have hw2 := hwa (tryR A B F m).2 (tryR A B F m).1.toNat (by omega) (fun j hj => by rw [i2 1 (by decide) (by decide) (by decide)]; exact hE j hj)
          rw [Int.toNat_of_nonneg i1.1] at hw2
          have ef : wAnew A (tryR A B F m).1.toNat (tryR A B F m).2 = fdN A B m F := rfl
          rw [ef] at hw2
          rw [fdL]
          refine x_aload_n dX7_find_50 rfl ?_
          refine x_aload_n dX7_find_51 rfl ?_
          refine x_iload_n dX7_find_52 rfl ?_
          refine (show X _ _ 53 _ _ _ _ _ _ from ?_)
          refine x_callV (As := [_]) (mc := 0) (ms := 0) (z := mX7_tryRow) (ci := 7) dX7_find_53 lX7_56 oX7_tryRow (by decide) (by first | assumption) rfl rfl (Nat.le_of_ble_eq_true rfl) (Nat.le_of_ble_eq_true rfl) rfl (ht) (k_I ?_)
          refine (show X _ _ 56 _ _ _ _ _ _ from ?_)
          refine x_callV (As := [_]) (mc := 0) (ms := 0) (z := mX7_wishAnew) (ci := 7) dX7_find_56 lX7_60 oX7_wishAnew (by decide) (by first | assumption) rfl rfl (Nat.le_of_ble_eq_true rfl) (Nat.le_of_ble_eq_true rfl) rfl (hw2) (k_I ?_)
          refine (show X _ _ 59 _ _ _ _ _ _ from ?_)
          refine x_istore_n dX7_find_59 (by decide) rfl rfl ?_
          refine y_iinc dX7_find_60 rfl (by decide) rfl rfl ?_
          refine x_goto 39 dX7_find_63 (by decide) ?_
          refine (show X _ _ 39 _ _ _ _ _ _ from ?_)
          have e : (j : Int) + 1 = ((j + 1 : Nat) : Int) := by omega
          rw [e]
          exact ih (j + 1) _ _ (by omega) hok.1 hok.2
    exact k1 10000 0 E1 true (by omega) hE1 hL1
  · rw [if_neg h]
    refine x_aload_n dX7_find_9 rfl ?_
    refine x_gr dX7_find_10 fX7_19 (by first | assumption) (fun _ _ _ => rfl) (by first | assumption) ?_
    refine x_iload_n dX7_find_13 rfl ?_
    refine b_iald (r := rr) (m := 14) (j := 3) (m) dX7_find_14 (by first | assumption) (by first | rfl | omega) (by omega) (by decide) (by decide) ?_
    refine (show X _ _ 15 _ _ _ _ _ _ from ?_)
    exact x_ireturn dX7_find_15 rfl ⟨rfl, rfl⟩
end C18
