/-! ===== Rows: wishes ===== -/
section YBz
variable {g : GG} {y : MD} {pc : Nat} {L L' S : List Value} {k n : Nat} {Q : Option Value → Mem → Prop} {T : Nat → Nat × Nat} {V W : Nat → Nat → Int} {R : Nat → Nat → Option Nat} {J : Nat → Nat → Int64} {sz r m : Nat}
theorem b_zald {N j : Nat} {x : Int} (p : Nat) (hd : decode y.2.1 pc = .ok (.baload, 1)) (hT : T (r + j) = (3, N)) (hx : x = (p : Int)) (hp : p < N) (hN : N < 2 ^ 31) (hm : j < m) (kk : X g y (pc + 1) L (.int (iI (W j p)) :: S) (T, iV (pB V r m W), R, J, sz) k n Q) : X g y pc L (.int (iI x) :: .ref (r + j) :: S) (T, iV (pB V r m W), R, J, sz) k n Q := y_zald p hd hT hx hp hN (by rw [pB_at hm]; exact kk)
theorem b_zast {N j : Nat} {x v : Int} (p : Nat) (hd : decode y.2.1 pc = .ok (.bastore, 1)) (hT : T (r + j) = (3, N)) (hx : x = (p : Int)) (hp : p < N) (hN : N < 2 ^ 31) (hv : narrow .boolean (.int (iI v)) = .int (iI v)) (hm : j < m) (kk : X g y (pc + 1) L S (T, iV (pB V r m (u2 W j p v)), R, J, sz) k n Q) : X g y pc L (.int (iI v) :: .int (iI x) :: .ref (r + j) :: S) (T, iV (pB V r m W), R, J, sz) k n Q := y_zast p hd hT hx hp hN hv (by rw [pB_u2 hm]; exact kk)
end YBz
/-- Rows at rr: its own rows, its run, its notes -/
def QS (T : Nat → Nat × Nat) (R : Nat → Nat → Option Nat) (rr w : Nat) : Prop := (T rr = (17, 0) ∧ R rr 0 = some w ∧ R rr 1 = some (rr + 6) ∧ R rr 2 = some (rr + 11)) ∧ (R rr 3 = some (rr + 1) ∧ R rr 4 = some (rr + 2) ∧ R rr 5 = some (rr + 3) ∧ R rr 6 = some (rr + 4) ∧ R rr 8 = some (rr + 5)) ∧ (T (rr + 1) = (1, 4) ∧ T (rr + 2) = (3, 5) ∧ T (rr + 3) = (1, 5) ∧ T (rr + 4) = (1, 20) ∧ T (rr + 5) = (1, 80)) ∧ RS T R (rr + 6) w ∧ OS T R (rr + 11) w
def AP14 (r w f nw al : Nat) : Prop := (w < r ∨ r + 14 ≤ w) ∧ (f + 45 ≤ r ∨ r + 14 ≤ f) ∧ (nw + 3 ≤ r ∨ r + 14 ≤ nw) ∧ (al + 5 ≤ r ∨ r + 14 ≤ al)
def fgE (E : Nat → Nat → Int) : Nat → Nat → Int := u2 (lp 5 (fun j E => u2 E 2 j 0) E) 0 7 0
def cwE (E : Nat → Nat → Int) : Nat → Nat → Int := lp 4 (fun j E => u2 E 1 j 0) E
/-- wishes behind year c are 0 -/
def wz (c : Nat) (E : Nat → Nat → Int) : Nat → Nat → Int := u1 E 1 (fun j => if c < j ∧ j ≤ 3 then 0 else E 1 j)
/-- the next wishes, from year m - 1 back -/
def wnC (P : Int) : Nat → (Nat → Nat → Int) → Bool × (Nat → Nat → Int)
  | 0, E => (false, E)
  | m + 1, E => if E 1 m + 1 < P then (true, u2 E 1 m (E 1 m + 1)) else wnC P m (u2 E 1 m 0)
def wAnew (A : Nat → Nat → Int) (i : Nat) (E : Nat → Nat → Int) : Bool × (Nat → Nat → Int) := wnC (A 0 3) (i + 1) (wz i E)
theorem wz_3 (E : Nat → Nat → Int) : wz 3 E = E := by
  funext a
  by_cases e : a = 1
  · subst e
    rw [wz, u1_s]
    funext j
    rw [if_neg (by omega)]
  · rw [wz, u1_n e]
theorem wz_s (c : Nat) (hc : c + 1 ≤ 3) (E : Nat → Nat → Int) : u2 (wz (c + 1) E) 1 (c + 1) 0 = wz c E := by
  funext a
  by_cases e : a = 1
  · subst e
    rw [u2_s, wz, wz, u1_s, u1_s]
    funext j
    by_cases e1 : j = c + 1
    · subst e1; rw [u1_s, if_pos (by omega)]
    · rw [u1_n e1]
      by_cases e2 : c + 1 < j ∧ j ≤ 3
      · rw [if_pos e2, if_pos (by omega)]
      · rw [if_neg e2, if_neg (by omega)]
  · rw [u2_n e, wz, wz, u1_n e, u1_n e]
def mwOk (A B W : Nat → Nat → Int) (y : Nat) (wish : Int) : Bool := if rComes A B W y = -3 then (rCn A B W y).testBit wish.toNat else decide (wish = 0)
def mwW (A B W : Nat → Nat → Int) (y : Nat) (wish : Int) : Nat → Nat → Int := takeT A W y (if rComes A B W y = -3 then wish else rComes A B W y)
section C16
variable {g : GG} {T : Nat → Nat × Nat} {V E W : Nat → Nat → Int} {R : Nat → Nat → Option Nat} {J : Nat → Nat → Int64} {z k n : Nat} {A B : Nat → Nat → Int} {rr w f nw al : Nat}
theorem c_forget (hq : QS T R rr w) : X g mX7_forget 0 [.ref rr, jk] [] (T, iV (pB V rr 14 E), R, J, z) k n (rV (T, iV (pB V rr 14 (fgE E)), R, J, z)) := by
  obtain ⟨⟨q0, q1, q2, q3⟩, ⟨v3, v4, v5, v6, v8⟩, ⟨t1, t2, t3, t4, t5⟩, -, -⟩ := hq
  refine y_iconst dX7_forget_0 ?_
  refine x_istore_n dX7_forget_1 (by decide) rfl rfl ?_
  refine (show X _ _ 2 _ _ _ _ _ _ from ?_)
  refine loopN (P := fun j => X g mX7_forget 2 [.ref rr, .int (iI (j : Int))] [] (T, iV (pB V rr 14 (lp j (fun j E => u2 E 2 j 0) E)), R, J, z) k n (rV (T, iV (pB V rr 14 (fgE E)), R, J, z))) 5 ?_ (fun j hj ih => ?_)
  · refine x_iload_n dX7_forget_2 rfl ?_
    refine y_iconst dX7_forget_3 ?_
    refine (show X _ _ 4 _ _ _ _ _ _ from ?_)
    refine y_icmp_gt 20 dX7_forget_4 (by decide) ⟨by omega, by omega⟩ ⟨by omega, by omega⟩ (fun h => ?_) (fun h => ?_)
    · refine x_aload_n dX7_forget_20 rfl ?_
      refine y_iconst dX7_forget_21 ?_
      refine b_pi0 (r := rr) (m := 14) dX7_forget_22 (pX7_25 _) (by first | assumption) (fun _ _ _ => rfl) (by first | rfl | exact bI_nar _) (by first | rfl | exact bI_fit _) (by decide) ?_
      refine (show X _ _ 25 _ _ _ _ _ _ from ?_)
      exact x_return dX7_forget_25 rfl ⟨rfl, rfl⟩
    · omega
  refine x_iload_n dX7_forget_2 rfl ?_
  refine y_iconst dX7_forget_3 ?_
  refine (show X _ _ 4 _ _ _ _ _ _ from ?_)
  refine y_icmp_gt 20 dX7_forget_4 (by decide) ⟨by omega, by omega⟩ ⟨by omega, by omega⟩ (fun h => ?_) (fun h => ?_)
  · omega
  refine x_aload_n dX7_forget_7 rfl ?_
  refine x_gr dX7_forget_8 fX7_15 (by first | assumption) (fun _ _ _ => rfl) (by first | assumption) ?_
  refine x_iload_n dX7_forget_11 rfl ?_
  refine y_iconst dX7_forget_12 ?_
  refine b_zast (r := rr) (m := 14) (j := 2) (j) dX7_forget_13 (by first | assumption) (by first | rfl | omega) (by omega) (by decide) (by first | rfl | exact bI_nar _) (by decide) ?_
  refine y_iinc dX7_forget_14 rfl (by decide) rfl rfl ?_
  refine x_goto 2 dX7_forget_17 (by decide) ?_
  refine (show X _ _ 2 _ _ _ _ _ _ from ?_)
  exact ih
theorem c_clearWishes (hq : QS T R rr w) : X g mX7_clearWishes 0 [.ref rr, jk] [] (T, iV (pB V rr 14 E), R, J, z) k n (rV (T, iV (pB V rr 14 (cwE E)), R, J, z)) := by
  obtain ⟨⟨q0, q1, q2, q3⟩, ⟨v3, v4, v5, v6, v8⟩, ⟨t1, t2, t3, t4, t5⟩, -, -⟩ := hq
  refine y_iconst dX7_clearWishes_0 ?_
  refine x_istore_n dX7_clearWishes_1 (by decide) rfl rfl ?_
  refine (show X _ _ 2 _ _ _ _ _ _ from ?_)
  refine loopN (P := fun j => X g mX7_clearWishes 2 [.ref rr, .int (iI (j : Int))] [] (T, iV (pB V rr 14 (lp j (fun j E => u2 E 1 j 0) E)), R, J, z) k n (rV (T, iV (pB V rr 14 (cwE E)), R, J, z))) 4 ?_ (fun j hj ih => ?_)
  · refine x_iload_n dX7_clearWishes_2 rfl ?_
    refine y_iconst dX7_clearWishes_3 ?_
    refine (show X _ _ 4 _ _ _ _ _ _ from ?_)
    refine y_icmp_ge 20 dX7_clearWishes_4 (by decide) ⟨by omega, by omega⟩ ⟨by omega, by omega⟩ (fun h => ?_) (fun h => ?_)
    · exact x_return dX7_clearWishes_20 rfl ⟨rfl, rfl⟩
    · omega
  refine x_iload_n dX7_clearWishes_2 rfl ?_
  refine y_iconst dX7_clearWishes_3 ?_
  refine (show X _ _ 4 _ _ _ _ _ _ from ?_)
  refine y_icmp_ge 20 dX7_clearWishes_4 (by decide) ⟨by omega, by omega⟩ ⟨by omega, by omega⟩ (fun h => ?_) (fun h => ?_)
  · omega
  refine x_aload_n dX7_clearWishes_7 rfl ?_
  refine x_gr dX7_clearWishes_8 fX7_9 (by first | assumption) (fun _ _ _ => rfl) (by first | assumption) ?_
  refine x_iload_n dX7_clearWishes_11 rfl ?_
  refine y_iconst dX7_clearWishes_12 ?_
  refine b_iast (r := rr) (m := 14) (j := 1) (j) dX7_clearWishes_13 (by first | assumption) (by first | rfl | omega) (by omega) (by decide) (by decide) ?_
  refine y_iinc dX7_clearWishes_14 rfl (by decide) rfl rfl ?_
  refine x_goto 2 dX7_clearWishes_17 (by decide) ?_
  refine (show X _ _ 2 _ _ _ _ _ _ from ?_)
  exact ih
theorem wnC_row {P : Int} (a : Nat) (ha : a ≠ 1) : ∀ m E, (wnC P m E).2 a = E a
  | 0, _ => rfl
  | m + 1, E => by
    rw [wnC]
    split
    · exact u2_n ha
    · rw [wnC_row a ha m]
      exact u2_n ha
theorem c_wishAnew {i : Nat} (hq : QS T R rr w) (hw0 : T w = (19, 0)) (hw1 : R w 0 = some f) (hf : FS T R f) (hF : FC V f A) (hA : VA A) (hap : (w < rr ∨ rr + 14 ≤ w) ∧ (f + 45 ≤ rr ∨ rr + 14 ≤ f)) (hi : i ≤ 3) (hE : ∀ j, j < 4 → 0 ≤ E 1 j ∧ E 1 j ≤ 9) : X g mX7_wishAnew 0 [.ref rr, .int (iI (i : Int)), jk] [] (T, iV (pB V rr 14 E), R, J, z) k n (rI (iI (bI (wAnew A i E).1)) (T, iV (pB V rr 14 (wAnew A i E).2), R, J, z)) := by
  obtain ⟨⟨q0, q1, q2, q3⟩, ⟨v3, v4, v5, v6, v8⟩, ⟨t1, t2, t3, t4, t5⟩, -, -⟩ := hq
  obtain ⟨f0, -⟩ := hf
  obtain ⟨hV0, -⟩ := hF
  obtain ⟨p1, p2⟩ := hap
  have eP := fP10 hA
  have k2 : ∀ (m : Nat) (F : Nat → Nat → Int), m ≤ 4 → (∀ j, j < 4 → 0 ≤ F 1 j ∧ F 1 j ≤ 9) → X g mX7_wishAnew 26 [.ref rr, .int (iI (i : Int)), .int (iI ((m : Int) - 1))] [] (T, iV (pB V rr 14 F), R, J, z) k n (rI (iI (bI (wnC (A 0 3) m F).1)) (T, iV (pB V rr 14 (wnC (A 0 3) m F).2), R, J, z)) := by
    intro m
    induction m with
    | zero =>
      intro F hm hF1
      refine x_iload_n dX7_wishAnew_26 rfl ?_
      refine (show X _ _ 27 _ _ _ _ _ _ from ?_)
      refine y_if_lt 74 dX7_wishAnew_27 (by decide) ⟨by omega, by omega⟩ (fun h => ?_) (fun h => ?_)
      · refine y_iconst dX7_wishAnew_74 ?_
        refine (show X _ _ 75 _ _ _ _ _ _ from ?_)
        exact x_zreturn dX7_wishAnew_75 rfl (by first | rfl | exact bI_nar _) ⟨rfl, rfl⟩
      · omega
    | succ m ih =>
      intro F hm hF1
      have hj := hF1 m (by omega)
      rw [wnC]
      refine x_iload_n dX7_wishAnew_26 rfl ?_
      refine (show X _ _ 27 _ _ _ _ _ _ from ?_)
      refine y_if_lt 74 dX7_wishAnew_27 (by decide) ⟨by omega, by omega⟩ (fun h => ?_) (fun h => ?_)
      · omega
      refine x_aload_n dX7_wishAnew_30 rfl ?_
      refine x_gr dX7_wishAnew_31 fX7_9 (by first | assumption) (fun _ _ _ => rfl) (by first | assumption) ?_
      refine x_iload_n dX7_wishAnew_34 rfl ?_
      refine x_dup2 dX7_wishAnew_35 rfl rfl ?_
      refine b_iald (r := rr) (m := 14) (j := 1) (m) dX7_wishAnew_36 (by first | assumption) (by first | rfl | omega) (by omega) (by decide) (by decide) ?_
      refine y_iconst dX7_wishAnew_37 ?_
      refine y_iadd dX7_wishAnew_38 ?_
      refine b_iast (r := rr) (m := 14) (j := 1) (m) dX7_wishAnew_39 (by first | assumption) (by first | rfl | omega) (by omega) (by decide) (by decide) ?_
      refine (show X _ _ 40 _ _ _ _ _ _ from ?_)
      refine x_aload_n dX7_wishAnew_40 rfl ?_
      refine x_gr dX7_wishAnew_41 fX7_9 (by first | assumption) (fun _ _ _ => rfl) (by first | assumption) ?_
      refine x_iload_n dX7_wishAnew_44 rfl ?_
      refine b_iald (r := rr) (m := 14) (j := 1) (m) dX7_wishAnew_45 (by first | assumption) (by first | rfl | omega) (by omega) (by decide) (by decide) ?_
      refine (show X _ _ 46 _ _ _ _ _ _ from ?_)
      refine X.val (b := F 1 m + 1) (by rw [u2_s, u1_s]) ?_
      refine x_aload_n dX7_wishAnew_46 rfl ?_
      refine x_gr dX7_wishAnew_47 fX7_32 (by first | assumption) (fun _ _ _ => rfl) (by first | assumption) ?_
      refine x_gr dX7_wishAnew_50 fX7_70 (by first | assumption) (fun _ _ _ => rfl) (by first | assumption) ?_
      refine b_gio (r := rr) (m := 14) dX7_wishAnew_53 fX7_76 (by first | assumption) (fun _ _ _ => rfl) (by omega) ?_
      refine (show X _ _ 56 _ _ _ _ _ _ from ?_)
      refine X.val (b := A 0 3) (hV0 3 (by omega)) ?_
      refine y_icmp_ge 61 dX7_wishAnew_56 (by decide) ⟨by omega, by omega⟩ ⟨by omega, by omega⟩ (fun h2 => ?_) (fun h2 => ?_)
      · rw [if_neg (by omega)]
        refine x_aload_n dX7_wishAnew_61 rfl ?_
        refine x_gr dX7_wishAnew_62 fX7_9 (by first | assumption) (fun _ _ _ => rfl) (by first | assumption) ?_
        refine x_iload_n dX7_wishAnew_65 rfl ?_
        refine y_iconst dX7_wishAnew_66 ?_
        refine b_iast (r := rr) (m := 14) (j := 1) (m) dX7_wishAnew_67 (by first | assumption) (by first | rfl | omega) (by omega) (by decide) (by decide) ?_
        refine y_iinc dX7_wishAnew_68 rfl (by decide) rfl rfl ?_
        refine x_goto 26 dX7_wishAnew_71 (by decide) ?_
        refine (show X _ _ 26 _ _ _ _ _ _ from ?_)
        rw [u2_same]
        have e : ((m + 1 : Nat) : Int) - 1 + -1 = (m : Int) - 1 := by omega
        rw [e]
        refine ih _ (by omega) (fun j hj2 => ?_)
        show 0 ≤ u1 (F 1) m 0 j ∧ u1 (F 1) m 0 j ≤ 9
        by_cases e2 : j = m
        · subst e2; rw [u1_s]; exact ⟨by decide, by decide⟩
        · rw [u1_n e2]; exact hF1 j hj2
      · rw [if_pos h2]
        refine y_iconst dX7_wishAnew_59 ?_
        refine (show X _ _ 60 _ _ _ _ _ _ from ?_)
        exact x_zreturn dX7_wishAnew_60 rfl rfl ⟨rfl, rfl⟩
  have k1 : ∀ (d : Nat), i + d ≤ 3 → X g mX7_wishAnew 2 [.ref rr, .int (iI (i : Int)), .int (iI ((i + d : Nat) : Int))] [] (T, iV (pB V rr 14 (wz (i + d) E)), R, J, z) k n (rI (iI (bI (wAnew A i E).1)) (T, iV (pB V rr 14 (wAnew A i E).2), R, J, z)) := by
    intro d
    induction d with
    | zero =>
      intro hd
      refine x_iload_n dX7_wishAnew_2 rfl ?_
      refine x_iload_n dX7_wishAnew_3 rfl ?_
      refine (show X _ _ 4 _ _ _ _ _ _ from ?_)
      refine y_icmp_le 20 dX7_wishAnew_4 (by decide) ⟨by omega, by omega⟩ ⟨by omega, by omega⟩ (fun h => ?_) (fun h => ?_)
      · refine x_iload_n dX7_wishAnew_20 rfl ?_
        refine y_iconst dX7_wishAnew_21 ?_
        refine x_mmin dX7_wishAnew_22 lX7_64 mminS mathI mminC (by decide) (Nat.le_of_ble_eq_true rfl) ?_
        refine (show X _ _ 25 _ _ _ _ _ _ from ?_)
        have em : (if iI 3 < iI (i : Int) then iI 3 else iI (i : Int)) = iI (((i + 1 : Nat) : Int) - 1) := by
          rw [if_neg (fun h => by have := (iI_lt ⟨by omega, by omega⟩ ⟨by omega, by omega⟩).mp h; omega)]
          congr 1
          omega
        rw [em]
        refine x_istore_n dX7_wishAnew_25 (by decide) rfl rfl ?_
        refine (show X _ _ 26 _ _ _ _ _ _ from ?_)
        refine k2 (i + 1) _ (by omega) (fun j hj => ?_)
        show 0 ≤ (if i + 0 < j ∧ j ≤ 3 then 0 else E 1 j) ∧ (if i + 0 < j ∧ j ≤ 3 then 0 else E 1 j) ≤ 9
        have := hE j hj
        split <;> omega
      · omega
    | succ d ih =>
      intro hd
      refine x_iload_n dX7_wishAnew_2 rfl ?_
      refine x_iload_n dX7_wishAnew_3 rfl ?_
      refine (show X _ _ 4 _ _ _ _ _ _ from ?_)
      refine y_icmp_le 20 dX7_wishAnew_4 (by decide) ⟨by omega, by omega⟩ ⟨by omega, by omega⟩ (fun h => ?_) (fun h => ?_)
      · omega
      refine x_aload_n dX7_wishAnew_7 rfl ?_
      refine x_gr dX7_wishAnew_8 fX7_9 (by first | assumption) (fun _ _ _ => rfl) (by first | assumption) ?_
      refine x_iload_n dX7_wishAnew_11 rfl ?_
      refine y_iconst dX7_wishAnew_12 ?_
      refine b_iast (r := rr) (m := 14) (j := 1) (i + (d + 1)) dX7_wishAnew_13 (by first | assumption) (by first | rfl | omega) (by omega) (by decide) (by decide) ?_
      refine y_iinc dX7_wishAnew_14 rfl (by decide) rfl rfl ?_
      refine x_goto 2 dX7_wishAnew_17 (by decide) ?_
      refine (show X _ _ 2 _ _ _ _ _ _ from ?_)
      rw [show i + (d + 1) = (i + d) + 1 by omega, wz_s (i + d) (by omega)]
      have e : (((i + d) + 1 : Nat) : Int) + -1 = ((i + d : Nat) : Int) := by omega
      rw [e]
      exact ih (by omega)
  refine y_iconst dX7_wishAnew_0 ?_
  refine x_istore_n dX7_wishAnew_1 (by decide) rfl rfl ?_
  refine (show X _ _ 2 _ _ _ _ _ _ from ?_)
  have h3 := k1 (3 - i) (by omega)
  rw [show i + (3 - i) = 3 by omega, wz_3] at h3
  exact h3
theorem c_meetWish {y : Nat} (hq : QS T R rr w) (hw : WS T R w f nw al) (hC : WC V f nw al A B) (hap : AP14 rr w f nw al) (hy : y < 4) (hyY : y < fY A) (hEW : ∀ j, j < 5 → E (6 + j) = W j) (hk : ROk A W y) (hE : 0 ≤ E 1 y ∧ E 1 y ≤ 9) : X g mX7_meetWish 0 [.ref rr, .int (iI (y : Int)), jk, jk, jk] [] (T, iV (pB V rr 14 E), R, J, z) k n (rI (iI (bI (mwOk A B W y (E 1 y)))) (T, iV (pB V rr 14 (if mwOk A B W y (E 1 y) then pB E 6 5 (mwW A B W y (E 1 y)) else E)), R, J, z)) := by
  have hA := hC.2.2.2.1
  obtain ⟨p1, p2, p3, p4⟩ := hap
  have eP := fP10 hA
  have eY := fY24 hA
  have hWC := WC_out (W := E) (r := rr) (m := 14) hC p2 p3 p4
  have hAP : AP (rr + 6) w f nw al := ⟨by omega, by omega, by omega, by omega⟩
  have hRS := hq.2.2.2.1
  have hcm := rComes_b (B := B) hk (by omega)
  obtain ⟨k1, k2, k3, k4, k5, k6, k7, k8, k9, k10⟩ := hk
  have hwc := c_whoComes (g := g) (J := J) (z := z) (k := 0) (n := 0) (V := pB V rr 14 E) (W := W) hRS hw hWC hAP k5 ⟨by omega, by omega⟩ k10 hyY
  have hcn := c_whoCan (g := g) (J := J) (z := z) (k := 0) (n := 0) (V := pB V rr 14 E) (W := W) hRS hw hWC hAP k5 hyY
  have htt := fun who hwho => c_takeTurn (g := g) (J := J) (z := z) (k := 0) (n := 0) (V := pB V rr 14 E) (W := W) (y := y) (who := who) hRS hw hWC hAP hyY hwho ⟨by omega, by omega⟩ k5 (fun p hp => by have := k9 p hp; exact ⟨by omega, by omega⟩)
  rw [pB_inW (by decide) hEW] at hwc hcn htt
  have hcl : rCn A B W y < 1024 := andn_lt (cnS_lt hA y)
  have hbit : ∀ p, (rCn A B W y).testBit p = true → p < fP A := fun p h => rCn_bit h
  obtain ⟨⟨q0, q1, q2, q3⟩, ⟨v3, v4, v5, v6, v8⟩, ⟨t1, t2, t3, t4, t5⟩, ⟨⟨r0, r1⟩, -⟩, -⟩ := hq
  obtain ⟨wi, hwi⟩ : ∃ wi : Nat, E 1 y = (wi : Int) := ⟨(E 1 y).toNat, (Int.toNat_of_nonneg hE.1).symm⟩
  unfold mwOk mwW
  rw [hwi] at hE ⊢
  rw [Int.toNat_natCast]
  generalize rComes A B W y = cm at *
  generalize rCn A B W y = cn at *
  refine x_aload_n dX7_meetWish_0 rfl ?_
  refine x_gr dX7_meetWish_1 fX7_9 (by first | assumption) (fun _ _ _ => rfl) (by first | assumption) ?_
  refine x_iload_n dX7_meetWish_4 rfl ?_
  refine b_iald (r := rr) (m := 14) (j := 1) (y) dX7_meetWish_5 (by first | assumption) (by first | rfl | omega) (by omega) (by decide) (by decide) ?_
  refine (show X _ _ 6 _ _ _ _ _ _ from ?_)
  refine X.val hwi ?_
  refine x_istore_n dX7_meetWish_6 (by decide) rfl rfl ?_
  refine x_aload_n dX7_meetWish_7 rfl ?_
  refine x_gr dX7_meetWish_8 fX7_41 (by first | assumption) (fun _ _ _ => rfl) (by first | assumption) ?_
  refine x_iload_n dX7_meetWish_11 rfl ?_
  refine (show X _ _ 12 _ _ _ _ _ _ from ?_)
  refine x_callV (As := [_]) (mc := 0) (ms := 0) (z := mX8_whoComes) (ci := 8) dX7_meetWish_12 lX7_120 oX8_whoComes (by decide) (by first | assumption) rfl rfl (Nat.le_of_ble_eq_true rfl) (Nat.le_of_ble_eq_true rfl) rfl (hwc) (k_I ?_)
  refine (show X _ _ 15 _ _ _ _ _ _ from ?_)
  refine x_istore_n dX7_meetWish_15 (by decide) rfl rfl ?_
  refine x_iload_n dX7_meetWish_16 rfl ?_
  refine y_bipush dX7_meetWish_17 rfl ?_
  refine (show X _ _ 19 _ _ _ _ _ _ from ?_)
  refine y_icmp_ne 26 dX7_meetWish_19 (by decide) ⟨by omega, by omega⟩ ⟨by omega, by omega⟩ (fun h1 => ?_) (fun h1 => ?_)
  · rw [if_neg h1, if_neg h1]
    refine y_iconst dX7_meetWish_26 ?_
    refine x_istore dX7_meetWish_27 (by decide) rfl rfl ?_
    refine x_iload dX7_meetWish_29 rfl ?_
    refine (show X _ _ 31 _ _ _ _ _ _ from ?_)
    refine y_if_eq 52 dX7_meetWish_31 (by decide) ⟨by omega, by omega⟩ (fun h2 => ?_) (fun h2 => ?_)
    rotate_left
    · omega
    refine x_iload_n dX7_meetWish_52 rfl ?_
    refine (show X _ _ 53 _ _ _ _ _ _ from ?_)
    refine y_if_eq 58 dX7_meetWish_53 (by decide) ⟨by omega, by omega⟩ (fun h3 => ?_) (fun h3 => ?_)
    · rw [decide_eq_true h3, if_pos rfl]
      refine x_aload_n dX7_meetWish_58 rfl ?_
      refine x_gr dX7_meetWish_59 fX7_41 (by first | assumption) (fun _ _ _ => rfl) (by first | assumption) ?_
      refine x_iload_n dX7_meetWish_62 rfl ?_
      refine x_iload dX7_meetWish_63 rfl ?_
      refine (show X _ _ 65 _ _ _ _ _ _ from ?_)
      refine y_if_eq 72 dX7_meetWish_65 (by decide) ⟨by omega, by omega⟩ (fun h4 => ?_) (fun h4 => ?_)
      rotate_left
      · omega
      refine x_iload_n dX7_meetWish_72 rfl ?_
      refine (show X _ _ 73 _ _ _ _ _ _ from ?_)
      have c := htt cm (by omega)
      rw [pB_sub (by decide)] at c
      refine x_callV (As := [_, _]) (mc := 0) (ms := 0) (z := mX8_takeTurn) (ci := 8) dX7_meetWish_73 lX7_130 oX8_takeTurn (by decide) (by first | assumption) rfl rfl (Nat.le_of_ble_eq_true rfl) (Nat.le_of_ble_eq_true rfl) rfl (c) (k_V ?_)
      refine (show X _ _ 76 _ _ _ _ _ _ from ?_)
      refine y_iconst dX7_meetWish_76 ?_
      refine (show X _ _ 77 _ _ _ _ _ _ from ?_)
      exact x_zreturn dX7_meetWish_77 rfl rfl ⟨rfl, rfl⟩
    · rw [decide_eq_false h3, if_neg (by decide)]
      refine y_iconst dX7_meetWish_56 ?_
      refine (show X _ _ 57 _ _ _ _ _ _ from ?_)
      exact x_zreturn dX7_meetWish_57 rfl rfl ⟨rfl, rfl⟩
  · rw [if_pos h1, if_pos h1]
    refine y_iconst dX7_meetWish_22 ?_
    refine x_goto 27 dX7_meetWish_23 (by decide) ?_
    refine x_istore dX7_meetWish_27 (by decide) rfl rfl ?_
    refine x_iload dX7_meetWish_29 rfl ?_
    refine (show X _ _ 31 _ _ _ _ _ _ from ?_)
    refine y_if_eq 52 dX7_meetWish_31 (by decide) ⟨by omega, by omega⟩ (fun h2 => ?_) (fun h2 => ?_)
    · omega
    refine x_aload_n dX7_meetWish_34 rfl ?_
    refine x_gr dX7_meetWish_35 fX7_41 (by first | assumption) (fun _ _ _ => rfl) (by first | assumption) ?_
    refine x_iload_n dX7_meetWish_38 rfl ?_
    refine (show X _ _ 39 _ _ _ _ _ _ from ?_)
    refine x_callV (As := [_]) (mc := 0) (ms := 0) (z := mX8_whoCan) (ci := 8) dX7_meetWish_39 lX7_123 oX8_whoCan (by decide) (by first | assumption) rfl rfl (Nat.le_of_ble_eq_true rfl) (Nat.le_of_ble_eq_true rfl) rfl (hcn) (k_I ?_)
    refine (show X _ _ 42 _ _ _ _ _ _ from ?_)
    refine x_iload_n dX7_meetWish_42 rfl ?_
    refine (show X _ _ 43 _ _ _ _ _ _ from ?_)
    refine x_callS (As := [_, _]) (mc := 0) (ms := 0) (z := mX10_has) dX7_meetWish_43 lX7_126 oX10_has (by decide) rfl (Nat.le_of_ble_eq_true rfl) (Nat.le_of_ble_eq_true rfl) rfl (c_has g cn wi _ 0 0 (by omega) (by omega)) (k_I ?_)
    refine (show X _ _ 46 _ _ _ _ _ _ from ?_)
    refine y_ifb_ne 58 dX7_meetWish_46 (by decide) (fun h3 => ?_) (fun h3 => ?_)
    · rw [h3, if_pos rfl]
      have hb := hbit wi h3
      refine x_aload_n dX7_meetWish_58 rfl ?_
      refine x_gr dX7_meetWish_59 fX7_41 (by first | assumption) (fun _ _ _ => rfl) (by first | assumption) ?_
      refine x_iload_n dX7_meetWish_62 rfl ?_
      refine x_iload dX7_meetWish_63 rfl ?_
      refine (show X _ _ 65 _ _ _ _ _ _ from ?_)
      refine y_if_eq 72 dX7_meetWish_65 (by decide) ⟨by omega, by omega⟩ (fun h4 => ?_) (fun h4 => ?_)
      · omega
      refine x_iload_n dX7_meetWish_68 rfl ?_
      refine x_goto 73 dX7_meetWish_69 (by decide) ?_
      refine (show X _ _ 73 _ _ _ _ _ _ from ?_)
      have c := htt (wi : Int) (by omega)
      rw [pB_sub (by decide)] at c
      refine x_callV (As := [_, _]) (mc := 0) (ms := 0) (z := mX8_takeTurn) (ci := 8) dX7_meetWish_73 lX7_130 oX8_takeTurn (by decide) (by first | assumption) rfl rfl (Nat.le_of_ble_eq_true rfl) (Nat.le_of_ble_eq_true rfl) rfl (c) (k_V ?_)
      refine (show X _ _ 76 _ _ _ _ _ _ from ?_)
      refine y_iconst dX7_meetWish_76 ?_
      refine (show X _ _ 77 _ _ _ _ _ _ from ?_)
      exact x_zreturn dX7_meetWish_77 rfl rfl ⟨rfl, rfl⟩
    · rw [h3, if_neg (by decide)]
      refine x_goto 56 dX7_meetWish_49 (by decide) ?_
      refine y_iconst dX7_meetWish_56 ?_
      refine (show X _ _ 57 _ _ _ _ _ _ from ?_)
      exact x_zreturn dX7_meetWish_57 rfl rfl ⟨rfl, rfl⟩
end C16
