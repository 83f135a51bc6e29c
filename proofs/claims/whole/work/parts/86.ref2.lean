/-! ===== the reference's run: who by law ===== -/
theorem lI_add (a b : Int) : lI a + lI b = lI (a + b) := (Int64.ofInt_add a b).symm
theorem lI_i {x : Int} : (lI x).toInt32 = iI x := by
  unfold lI iI
  simp
def secB (A W : Nat → Nat → Int) (can y : Nat) : Bool := decide (y ≠ 0 ∧ 0 ≤ W 4 (y - 1) ∧ A 1 (W 4 (y - 1)).toNat = 3 ∧ (y = 1 ∨ W 4 (y - 2) ≠ W 4 (y - 1)) ∧ can.testBit (W 4 (y - 1)).toNat = true)
/-- who was it up to y -/
def ElM (A E W : Nat → Nat → Int) (y : Nat) : Prop := ∀ i, i < y → E 5 i = W 4 i ∧ (W 4 i = -2 ∨ 0 ≤ W 4 i) ∧ W 4 i < A 0 3
def mrL (A : Nat → Nat → Int) (th m : Nat) : Int := lp m (fun p s => if th.testBit p then s + (if A 2 p = 1 then A 5 p else -A 5 p) else s) 0
theorem mrL_w {A : Nat → Nat → Int} {th : Nat} (hA : VA A) : mrL A th (fP A) = wOf A (th &&& brS A 1) - wOf A (th &&& brS A 0) := by
  have key : ∀ m, m ≤ fP A → mrL A th m = lp m (fun p s => if (th &&& brS A 1).testBit p then s + A 5 p else s) 0 - lp m (fun p s => if (th &&& brS A 0).testBit p then s + A 5 p else s) 0 := by
    intro m
    induction m with
    | zero => exact fun _ => rfl
    | succ m ih =>
      intro hm
      have ih := ih (by omega)
      have hb := (hA.2.2.2.2.2.2.2.2.2.1 m (by omega)).2.1
      have es : mrL A th (m + 1) = if th.testBit m then mrL A th m + (if A 2 m = 1 then A 5 m else -A 5 m) else mrL A th m := rfl
      rw [es, lp_s, lp_s, ih, Nat.testBit_and, Nat.testBit_and]
      have b1 : (brS A 1).testBit m = decide (A 2 m = 1) := by unfold brS; rw [sOf_bit, decide_eq_true (show m < fP A by omega)]; rfl
      have b0 : (brS A 0).testBit m = decide (A 2 m = 0) := by unfold brS; rw [sOf_bit, decide_eq_true (show m < fP A by omega)]; rfl
      rw [b1, b0]
      cases th.testBit m
      · rfl
      · rcases (by omega : A 2 m = 0 ∨ A 2 m = 1) with e | e
        · rw [e]
          simp
          omega
        · rw [e]
          simp
          omega
  exact key (fP A) (Nat.le_refl _)
theorem mrL_b {A : Nat → Nat → Int} {th : Nat} (hA : VA A) : ∀ m, m ≤ fP A → -9 * (m : Int) ≤ mrL A th m ∧ mrL A th m ≤ 9 * (m : Int)
  | 0, _ => ⟨by show (-9 * (0 : Nat) : Int) ≤ 0; decide, by show (0 : Int) ≤ 9 * (0 : Nat); decide⟩
  | m + 1, hm => by
    have ih := mrL_b (th := th) hA m (by omega)
    have hb := (hA.2.2.2.2.2.2.2.2.2.1 m (by omega)).2.2.2.2.1
    have es : mrL A th (m + 1) = if th.testBit m then mrL A th m + (if A 2 m = 1 then A 5 m else -A 5 m) else mrL A th m := rfl
    rw [es]
    split
    · split <;> omega
    · omega
theorem br_and {A : Nat → Nat → Int} {set : Nat} {b : Int} : sOf (fP A) (fun p => set.testBit p && decide (A 2 p = b)) = set &&& brS A b := by
  apply Nat.eq_of_testBit_eq
  intro i
  unfold brS
  rw [sOf_bit, Nat.testBit_and, sOf_bit]
  cases decide (i < fP A) <;> cases set.testBit i <;> rfl
section C86
variable {g : GG} {T : Nat → Nat × Nat} {V E A B W : Nat → Nat → Int} {R : Nat → Nat → Option Nat} {J : Nat → Nat → Int64} {z k n : Nat} {r f : Nat}
theorem c_isSecond {y can : Nat} (hM : MSh T R r) (hf : R r 3 = some f) (hG : FMS T R f) (hF : FMC V f A) (hA : VA A) (hap : apF f r) (hy : y < 24) (hE : ElM A E W y) (hc : E 7 y = (can : Int)) (hcl : can < 1024) : X g mX12_isSecond 0 [.ref r, .int (iI (y : Int)), jk] [] (T, iV (pB V r 24 E), R, J, z) k n (rI (iI (bI (secB A W can y))) (T, iV (pB V r 24 E), R, J, z)) := by
  obtain ⟨m0, ⟨-, -, -, -, m20, -, m22, -, -, -, -, -, -, -, -, -, -, -, -, -, -, -, -⟩, ⟨-, -, -, -, mk5, -, mk7, -, -, -, -, -, -, -, -, -, -, -, -, -, -, -, -⟩⟩ := id hM
  obtain ⟨g0, ⟨g10, -, -, -, -, -, -, -, -, -, -, -, -, -, -, -, -, -, -, -, -, -, -⟩, ⟨gk1, -, -, -, -, -, -, -, -, -, -, -, -, -, -, -, -, -, -, -, -, -, -⟩⟩ := id hG
  have eP := fP10 hA
  have hA3 := hA.2.2.2.1
  unfold apF at hap
  refine x_iload_n dX12_isSecond_0 rfl ?_
  refine (show X _ _ 1 _ _ _ _ _ _ from ?_)
  refine y_if_eq 17 dX12_isSecond_1 (by decide) ⟨by omega, by omega⟩ (fun h0 => ?_) (fun h0 => ?_)
  · rw [show secB A W can y = false from decide_eq_false (fun c => c.1 (by omega))]
    refine y_iconst dX12_isSecond_17 ?_
    refine (show X _ _ 18 _ _ _ _ _ _ from ?_)
    exact x_zreturn dX12_isSecond_18 rfl rfl ⟨rfl, rfl⟩
  obtain ⟨e1, e2, e3⟩ := hE (y - 1) (by omega)
  refine x_aload_n dX12_isSecond_4 rfl ?_
  refine x_gr dX12_isSecond_5 fX12_27 (by first | assumption) (fun _ _ _ => rfl) (by first | assumption) ?_
  refine x_iload_n dX12_isSecond_8 rfl ?_
  refine y_iconst dX12_isSecond_9 ?_
  refine y_isub dX12_isSecond_10 ?_
  refine b_iald (r := r) (m := 24) (j := 5) (y - 1) dX12_isSecond_11 (by first | assumption) (by first | rfl | omega) (by omega) (by decide) (by decide) ?_
  refine (show X _ _ 12 _ _ _ _ _ _ from ?_)
  refine X.val e1 ?_
  refine y_bipush dX12_isSecond_12 rfl ?_
  refine (show X _ _ 14 _ _ _ _ _ _ from ?_)
  refine y_icmp_ne 19 dX12_isSecond_14 (by decide) ⟨by omega, by omega⟩ ⟨by omega, by omega⟩ (fun h1 => ?_) (fun h1 => ?_)
  rotate_left
  · rw [show secB A W can y = false from decide_eq_false (fun c => by omega)]
    refine y_iconst dX12_isSecond_17 ?_
    refine (show X _ _ 18 _ _ _ _ _ _ from ?_)
    exact x_zreturn dX12_isSecond_18 rfl rfl ⟨rfl, rfl⟩
  have hq : 0 ≤ W 4 (y - 1) := by omega
  have hqp : (W 4 (y - 1)).toNat < fP A := by omega
  have ek : V (f + 1) (W 4 (y - 1)).toNat = A 1 (W 4 (y - 1)).toNat := hF.2.1 0 (by decide) _ hqp
  have hb := hA.2.2.2.2.2.2.2.2.2.1 _ hqp
  have ebt := c_bit g can (W 4 (y - 1)).toNat (T, iV (pB V r 24 E), R, J, z) 0 0 (by omega) (by omega)
  rw [Int.toNat_of_nonneg hq] at ebt
  have no : ∀ x, secB A W can y = false → X g mX12_isSecond 75 [.ref r, .int (iI (y : Int)), x] [] (T, iV (pB V r 24 E), R, J, z) k n (rI (iI (bI (secB A W can y))) (T, iV (pB V r 24 E), R, J, z)) := by
    intro x e
    rw [e]
    refine y_iconst dX12_isSecond_75 ?_
    refine (show X _ _ 76 _ _ _ _ _ _ from ?_)
    exact x_zreturn dX12_isSecond_76 rfl rfl ⟨rfl, rfl⟩
  have last : A 1 (W 4 (y - 1)).toNat = 3 → (y = 1 ∨ W 4 (y - 2) ≠ W 4 (y - 1)) → X g mX12_isSecond 58 [.ref r, .int (iI (y : Int)), .int (iI (W 4 (y - 1)))] [] (T, iV (pB V r 24 E), R, J, z) k n (rI (iI (bI (secB A W can y))) (T, iV (pB V r 24 E), R, J, z)) := by
    intro h2 h3
    refine x_aload_n dX12_isSecond_58 rfl ?_
    refine x_gr dX12_isSecond_59 fX12_33 (by first | assumption) (fun _ _ _ => rfl) (by first | assumption) ?_
    refine x_iload_n dX12_isSecond_62 rfl ?_
    refine b_iald (r := r) (m := 24) (j := 7) (y) dX12_isSecond_63 (by first | assumption) (by first | rfl | omega) (by omega) (by decide) (by decide) ?_
    refine (show X _ _ 64 _ _ _ _ _ _ from ?_)
    refine X.val hc ?_
    refine x_iload_n dX12_isSecond_64 rfl ?_
    refine (show X _ _ 65 _ _ _ _ _ _ from ?_)
    refine x_callS (As := [_, _]) (mc := 0) (ms := 0) (z := mX12_bit) dX12_isSecond_65 lX12_386 oX12_bit (by decide) rfl (Nat.le_of_ble_eq_true rfl) (Nat.le_of_ble_eq_true rfl) rfl (ebt) (k_I ?_)
    refine (show X _ _ 68 _ _ _ _ _ _ from ?_)
    refine y_ifb_eq 75 dX12_isSecond_68 (by decide) (fun h4 => ?_) (fun h4 => ?_)
    · exact no _ (decide_eq_false (fun c => by rw [h4] at c; cases c.2.2.2.2))
    · rw [show secB A W can y = true from decide_eq_true ⟨by omega, hq, h2, h3, h4⟩]
      refine y_iconst dX12_isSecond_71 ?_
      refine x_goto 76 dX12_isSecond_72 (by decide) ?_
      refine (show X _ _ 76 _ _ _ _ _ _ from ?_)
      exact x_zreturn dX12_isSecond_76 rfl rfl ⟨rfl, rfl⟩
  refine x_aload_n dX12_isSecond_19 rfl ?_
  refine x_gr dX12_isSecond_20 fX12_27 (by first | assumption) (fun _ _ _ => rfl) (by first | assumption) ?_
  refine x_iload_n dX12_isSecond_23 rfl ?_
  refine y_iconst dX12_isSecond_24 ?_
  refine y_isub dX12_isSecond_25 ?_
  refine b_iald (r := r) (m := 24) (j := 5) (y - 1) dX12_isSecond_26 (by first | assumption) (by first | rfl | omega) (by omega) (by decide) (by decide) ?_
  refine (show X _ _ 27 _ _ _ _ _ _ from ?_)
  refine X.val e1 ?_
  refine x_istore_n dX12_isSecond_27 (by decide) rfl rfl ?_
  refine x_aload_n dX12_isSecond_28 rfl ?_
  refine x_gr dX12_isSecond_29 fX12_409 (by first | assumption) (fun _ _ _ => rfl) (by first | assumption) ?_
  refine x_gr dX12_isSecond_32 fX12_323 (by first | assumption) (fun _ _ _ => rfl) (by first | assumption) ?_
  refine x_iload_n dX12_isSecond_35 rfl ?_
  refine b_ialo (r := r) (m := 24) ((W 4 (y - 1)).toNat) dX12_isSecond_36 (by first | assumption) (by first | rfl | omega) (by omega) (by decide) (by omega) ?_
  refine (show X _ _ 37 _ _ _ _ _ _ from ?_)
  refine X.val ek ?_
  refine y_iconst dX12_isSecond_37 ?_
  refine (show X _ _ 38 _ _ _ _ _ _ from ?_)
  refine y_icmp_ne 75 dX12_isSecond_38 (by decide) ⟨by omega, by omega⟩ ⟨by omega, by omega⟩ (fun h2 => ?_) (fun h2 => ?_)
  · exact no _ (decide_eq_false (fun c => h2 c.2.2.1))
  refine x_iload_n dX12_isSecond_41 rfl ?_
  refine y_iconst dX12_isSecond_42 ?_
  refine (show X _ _ 43 _ _ _ _ _ _ from ?_)
  refine y_icmp_eq 58 dX12_isSecond_43 (by decide) ⟨by omega, by omega⟩ ⟨by omega, by omega⟩ (fun h3 => ?_) (fun h3 => ?_)
  · exact last h2 (Or.inl (by omega))
  obtain ⟨d1, d2, d3⟩ := hE (y - 2) (by omega)
  refine x_aload_n dX12_isSecond_46 rfl ?_
  refine x_gr dX12_isSecond_47 fX12_27 (by first | assumption) (fun _ _ _ => rfl) (by first | assumption) ?_
  refine x_iload_n dX12_isSecond_50 rfl ?_
  refine y_iconst dX12_isSecond_51 ?_
  refine y_isub dX12_isSecond_52 ?_
  refine b_iald (r := r) (m := 24) (j := 5) (y - 2) dX12_isSecond_53 (by first | assumption) (by first | rfl | omega) (by omega) (by decide) (by decide) ?_
  refine (show X _ _ 54 _ _ _ _ _ _ from ?_)
  refine X.val d1 ?_
  refine x_iload_n dX12_isSecond_54 rfl ?_
  refine (show X _ _ 55 _ _ _ _ _ _ from ?_)
  refine y_icmp_eq 75 dX12_isSecond_55 (by decide) ⟨by omega, by omega⟩ ⟨by omega, by omega⟩ (fun h4 => ?_) (fun h4 => ?_)
  · exact no _ (decide_eq_false (fun c => by omega))
  · exact last h2 (Or.inr h4)
theorem c_foremost {set y : Nat} {yb : Bool} (hM : MSh T R r) (hf : R r 3 = some f) (hG : FMS T R f) (hF : FMC V f A) (hA : VA A) (hap : apF f r) (hW : ∀ p, p < fP A → E 15 p = W 1 p) (hWb : ∀ p, p < fP A → 0 ≤ W 1 p ∧ W 1 p ≤ 24) (hs : set < 1024) (hy : y ≤ 24) : X g mX12_foremost 0 [.ref r, .int (iI set), .int (iI (y : Int)), .int (iI (bI yb)), jk, jk, jk] [] (T, iV (pB V r 24 E), R, J, z) k n (rI (iI (fmL A W set (if yb then -1 else 1) (fP A))) (T, iV (pB V r 24 E), R, J, z)) := by
  have hco := fun p hp => c_counted (g := g) (J := J) (z := z) (k := 0) (n := 0) (E := E) (p := p) (W := W) hM hf hG hF hA hap hp (hW p hp)
  have hag := fun p hp => c_ageM (g := g) (J := J) (z := z) (k := 0) (n := 0) (E := E) (p := p) (y := (y : Int)) hG hF hA hap hp
  have hbt := fun p hp => c_bit g set p (T, iV (pB V r 24 E), R, J, z) 0 0 (by omega) hp
  have hcb : ∀ p, p < fP A → -1 ≤ cnt A W p ∧ cnt A W p ≤ 24 := by
    intro p hp
    have := hWb p hp
    unfold cnt
    split <;> omega
  have hbb : ∀ p, p < fP A → -90 ≤ A 3 p ∧ A 3 p < 24 := by
    intro p hp
    have h1 := (hA.2.2.2.2.2.2.2.2.2.1 p hp).2.2.1
    have h2 := hA.1
    omega
  obtain ⟨m0, -, -⟩ := id hM
  obtain ⟨g0, -, -⟩ := id hG
  have eP := fP10 hA
  have e3 := hF.1 3 (by decide)
  have hA3 := hA.2.2.2.1
  unfold apF at hap
  generalize hsg : (if yb then (-1 : Int) else 1) = sg
  refine y_bipush dX12_foremost_0 rfl ?_
  refine x_istore dX12_foremost_2 (by decide) rfl rfl ?_
  refine y_iconst dX12_foremost_4 ?_
  refine x_istore dX12_foremost_5 (by decide) rfl rfl ?_
  refine (show X _ _ 7 _ _ _ _ _ _ from ?_)
  refine loopN (P := fun p => X g mX12_foremost 7 [.ref r, .int (iI set), .int (iI (y : Int)), .int (iI (bI yb)), .int (iI (fmL A W set sg p)), .int (iI (p : Int)), jk] [] (T, iV (pB V r 24 E), R, J, z) k n (rI (iI (fmL A W set sg (fP A))) (T, iV (pB V r 24 E), R, J, z))) (fP A) ?_ (fun p hp ih => ?_)
  · refine x_iload dX12_foremost_7 rfl ?_
    refine x_aload_n dX12_foremost_9 rfl ?_
    refine x_gr dX12_foremost_10 fX12_409 (by first | assumption) (fun _ _ _ => rfl) (by first | assumption) ?_
    refine b_gio (r := r) (m := 24) dX12_foremost_13 fX12_230 (by first | assumption) (fun _ _ _ => rfl) (by omega) ?_
    refine (show X _ _ 16 _ _ _ _ _ _ from ?_)
    refine X.val e3 ?_
    refine y_icmp_ge 160 dX12_foremost_16 (by decide) ⟨by omega, by omega⟩ ⟨by omega, by omega⟩ (fun h1 => ?_) (fun h1 => ?_)
    rotate_left
    · omega
    refine x_iload dX12_foremost_160 rfl ?_
    refine (show X _ _ 162 _ _ _ _ _ _ from ?_)
    exact x_ireturn dX12_foremost_162 rfl ⟨rfl, rfl⟩
  · have ho := fmL_o (A := A) (W := W) (set := set) (sg := sg) p
    have es : fmL A W set sg (p + 1) = if set.testBit p then (if fmB A W sg p (fmL A W set sg p) then (p : Int) else fmL A W set sg p) else fmL A W set sg p := rfl
    rw [es] at ih
    generalize fmL A W set sg p = b at *
    have hbr : b = -2 ∨ (0 ≤ b ∧ b.toNat < fP A ∧ b.toNat < p) := by
      rcases ho with ⟨e, -⟩ | ⟨q, e, h1, -⟩
      · exact Or.inl e
      · exact Or.inr ⟨by omega, by omega, by omega⟩
    have hcp := hcb p hp
    have hbp := hbb p hp
    refine x_iload dX12_foremost_7 rfl ?_
    refine x_aload_n dX12_foremost_9 rfl ?_
    refine x_gr dX12_foremost_10 fX12_409 (by first | assumption) (fun _ _ _ => rfl) (by first | assumption) ?_
    refine b_gio (r := r) (m := 24) dX12_foremost_13 fX12_230 (by first | assumption) (fun _ _ _ => rfl) (by omega) ?_
    refine (show X _ _ 16 _ _ _ _ _ _ from ?_)
    refine X.val e3 ?_
    refine y_icmp_ge 160 dX12_foremost_16 (by decide) ⟨by omega, by omega⟩ ⟨by omega, by omega⟩ (fun h1 => ?_) (fun h1 => ?_)
    · omega
    refine x_iload_n dX12_foremost_19 rfl ?_
    refine x_iload dX12_foremost_20 rfl ?_
    refine (show X _ _ 22 _ _ _ _ _ _ from ?_)
    refine x_callS (As := [_, _]) (mc := 0) (ms := 0) (z := mX12_bit) dX12_foremost_22 lX12_386 oX12_bit (by decide) rfl (Nat.le_of_ble_eq_true rfl) (Nat.le_of_ble_eq_true rfl) rfl (hbt p (by omega)) (k_I ?_)
    refine (show X _ _ 25 _ _ _ _ _ _ from ?_)
    refine y_ifb_ne 31 dX12_foremost_25 (by decide) (fun h2 => ?_) (fun h2 => ?_)
    rotate_left
    · rw [h2, if_neg (by decide)] at ih
      refine x_goto 154 dX12_foremost_28 (by decide) ?_
      refine y_iinc dX12_foremost_154 rfl (by decide) rfl rfl ?_
      refine x_goto 7 dX12_foremost_157 (by decide) ?_
      refine (show X _ _ 7 _ _ _ _ _ _ from ?_)
      exact ih
    rw [h2, if_pos rfl] at ih
    have fin : ∀ fb : Bool, fb = fmB A W sg p b → X g mX12_foremost 145 [.ref r, .int (iI set), .int (iI (y : Int)), .int (iI (bI yb)), .int (iI b), .int (iI (p : Int)), .int (iI (bI fb))] [] (T, iV (pB V r 24 E), R, J, z) k n (rI (iI (fmL A W set sg (fP A))) (T, iV (pB V r 24 E), R, J, z)) := by
      intro fb efb
      refine x_iload dX12_foremost_145 rfl ?_
      refine (show X _ _ 147 _ _ _ _ _ _ from ?_)
      refine y_ifb_eq 154 dX12_foremost_147 (by decide) (fun h3 => ?_) (fun h3 => ?_)
      · rw [← efb, h3, if_neg (by decide)] at ih
        refine y_iinc dX12_foremost_154 rfl (by decide) rfl rfl ?_
        refine x_goto 7 dX12_foremost_157 (by decide) ?_
        refine (show X _ _ 7 _ _ _ _ _ _ from ?_)
        exact X.drop 6 rfl ih
      · rw [← efb, h3, if_pos rfl] at ih
        refine x_iload dX12_foremost_150 rfl ?_
        refine x_istore dX12_foremost_152 (by decide) rfl rfl ?_
        refine y_iinc dX12_foremost_154 rfl (by decide) rfl rfl ?_
        refine x_goto 7 dX12_foremost_157 (by decide) ?_
        refine (show X _ _ 7 _ _ _ _ _ _ from ?_)
        exact X.drop 6 rfl ih
    refine x_iload dX12_foremost_31 rfl ?_
    refine y_bipush dX12_foremost_33 rfl ?_
    refine (show X _ _ 35 _ _ _ _ _ _ from ?_)
    refine y_icmp_eq 53 dX12_foremost_35 (by decide) ⟨by omega, by omega⟩ ⟨by omega, by omega⟩ (fun h3 => ?_) (fun h3 => ?_)
    · refine y_iconst dX12_foremost_53 ?_
      refine x_goto 58 dX12_foremost_54 (by decide) ?_
      refine x_istore dX12_foremost_58 (by decide) rfl rfl ?_
      refine x_iload dX12_foremost_60 rfl ?_
      refine (show X _ _ 62 _ _ _ _ _ _ from ?_)
      refine y_if_ne 145 dX12_foremost_62 (by decide) ⟨by omega, by omega⟩ (fun h4 => ?_) (fun h4 => ?_)
      · exact fin true (by unfold fmB; exact (decide_eq_true (Or.inl h3)).symm)
      · exact absurd h4 (by decide)
    have hb0 : 0 ≤ b := by omega
    have hbp2 : b.toNat < fP A := by omega
    have hcbt := hco b.toNat hbp2
    have hagb := hag b.toNat hbp2
    have hcb2 := hcb b.toNat hbp2
    have hbb2 := hbb b.toNat hbp2
    rw [Int.toNat_of_nonneg hb0] at hcbt hagb
    refine x_aload_n dX12_foremost_38 rfl ?_
    refine x_iload dX12_foremost_39 rfl ?_
    refine (show X _ _ 41 _ _ _ _ _ _ from ?_)
    refine x_callV (As := [_]) (mc := 0) (ms := 0) (z := mX12_counted) (ci := 12) dX12_foremost_41 lX12_495 oX12_counted (by decide) (by first | assumption) rfl rfl (Nat.le_of_ble_eq_true rfl) (Nat.le_of_ble_eq_true rfl) rfl (hco p hp) (k_I ?_)
    refine (show X _ _ 44 _ _ _ _ _ _ from ?_)
    refine x_aload_n dX12_foremost_44 rfl ?_
    refine x_iload dX12_foremost_45 rfl ?_
    refine (show X _ _ 47 _ _ _ _ _ _ from ?_)
    refine x_callV (As := [_]) (mc := 0) (ms := 0) (z := mX12_counted) (ci := 12) dX12_foremost_47 lX12_495 oX12_counted (by decide) (by first | assumption) rfl rfl (Nat.le_of_ble_eq_true rfl) (Nat.le_of_ble_eq_true rfl) rfl (hcbt) (k_I ?_)
    refine (show X _ _ 50 _ _ _ _ _ _ from ?_)
    refine y_icmp_ge 57 dX12_foremost_50 (by decide) ⟨by omega, by omega⟩ ⟨by omega, by omega⟩ (fun h4 => ?_) (fun h4 => ?_)
    rotate_left
    · refine y_iconst dX12_foremost_53 ?_
      refine x_goto 58 dX12_foremost_54 (by decide) ?_
      refine x_istore dX12_foremost_58 (by decide) rfl rfl ?_
      refine x_iload dX12_foremost_60 rfl ?_
      refine (show X _ _ 62 _ _ _ _ _ _ from ?_)
      refine y_if_ne 145 dX12_foremost_62 (by decide) ⟨by omega, by omega⟩ (fun h5 => ?_) (fun h5 => ?_)
      · exact fin true (by unfold fmB; exact (decide_eq_true (Or.inr (Or.inl h4))).symm)
      · exact absurd h5 (by decide)
    refine y_iconst dX12_foremost_57 ?_
    refine x_istore dX12_foremost_58 (by decide) rfl rfl ?_
    refine x_iload dX12_foremost_60 rfl ?_
    refine (show X _ _ 62 _ _ _ _ _ _ from ?_)
    refine y_if_ne 145 dX12_foremost_62 (by decide) ⟨by omega, by omega⟩ (fun h5 => ?_) (fun h5 => ?_)
    · exact absurd rfl h5
    refine x_aload_n dX12_foremost_65 rfl ?_
    refine x_iload dX12_foremost_66 rfl ?_
    refine (show X _ _ 68 _ _ _ _ _ _ from ?_)
    refine x_callV (As := [_]) (mc := 0) (ms := 0) (z := mX12_counted) (ci := 12) dX12_foremost_68 lX12_495 oX12_counted (by decide) (by first | assumption) rfl rfl (Nat.le_of_ble_eq_true rfl) (Nat.le_of_ble_eq_true rfl) rfl (hco p hp) (k_I ?_)
    refine (show X _ _ 71 _ _ _ _ _ _ from ?_)
    refine x_aload_n dX12_foremost_71 rfl ?_
    refine x_iload dX12_foremost_72 rfl ?_
    refine (show X _ _ 74 _ _ _ _ _ _ from ?_)
    refine x_callV (As := [_]) (mc := 0) (ms := 0) (z := mX12_counted) (ci := 12) dX12_foremost_74 lX12_495 oX12_counted (by decide) (by first | assumption) rfl rfl (Nat.le_of_ble_eq_true rfl) (Nat.le_of_ble_eq_true rfl) rfl (hcbt) (k_I ?_)
    refine (show X _ _ 77 _ _ _ _ _ _ from ?_)
    refine y_icmp_ne 145 dX12_foremost_77 (by decide) ⟨by omega, by omega⟩ ⟨by omega, by omega⟩ (fun h6 => ?_) (fun h6 => ?_)
    · exact fin false (by unfold fmB; exact (decide_eq_false (fun c => by omega)).symm)
    refine x_iload_n dX12_foremost_80 rfl ?_
    refine (show X _ _ 81 _ _ _ _ _ _ from ?_)
    refine y_ifb_eq 115 dX12_foremost_81 (by decide) (fun h7 => ?_) (fun h7 => ?_)
    · have e1 : sg = 1 := by rw [← hsg, h7]; rfl
      refine x_aload_n dX12_foremost_115 rfl ?_
      refine x_gr dX12_foremost_116 fX12_409 (by first | assumption) (fun _ _ _ => rfl) (by first | assumption) ?_
      refine x_iload dX12_foremost_119 rfl ?_
      refine x_iload_n dX12_foremost_121 rfl ?_
      refine (show X _ _ 122 _ _ _ _ _ _ from ?_)
      refine x_callV (As := [_, _]) (mc := 0) (ms := 0) (z := mX11_age) (ci := 11) dX12_foremost_122 lX12_458 oX11_age (by decide) (by first | assumption) rfl rfl (Nat.le_of_ble_eq_true rfl) (Nat.le_of_ble_eq_true rfl) rfl (hag p hp) (k_I ?_)
      refine (show X _ _ 125 _ _ _ _ _ _ from ?_)
      refine x_aload_n dX12_foremost_125 rfl ?_
      refine x_gr dX12_foremost_126 fX12_409 (by first | assumption) (fun _ _ _ => rfl) (by first | assumption) ?_
      refine x_iload dX12_foremost_129 rfl ?_
      refine x_iload_n dX12_foremost_131 rfl ?_
      refine (show X _ _ 132 _ _ _ _ _ _ from ?_)
      refine x_callV (As := [_, _]) (mc := 0) (ms := 0) (z := mX11_age) (ci := 11) dX12_foremost_132 lX12_458 oX11_age (by decide) (by first | assumption) rfl rfl (Nat.le_of_ble_eq_true rfl) (Nat.le_of_ble_eq_true rfl) rfl (hagb) (k_I ?_)
      refine (show X _ _ 135 _ _ _ _ _ _ from ?_)
      refine y_icmp_le 142 dX12_foremost_135 (by decide) ⟨by omega, by omega⟩ ⟨by omega, by omega⟩ (fun h8 => ?_) (fun h8 => ?_)
      · refine y_iconst dX12_foremost_142 ?_
        refine x_istore dX12_foremost_143 (by decide) rfl rfl ?_
        refine (show X _ _ 145 _ _ _ _ _ _ from ?_)
        exact fin false (by unfold fmB; rw [e1]; exact (decide_eq_false (fun c => by omega)).symm)
      · refine y_iconst dX12_foremost_138 ?_
        refine x_goto 143 dX12_foremost_139 (by decide) ?_
        refine x_istore dX12_foremost_143 (by decide) rfl rfl ?_
        refine (show X _ _ 145 _ _ _ _ _ _ from ?_)
        exact fin true (by unfold fmB; rw [e1]; exact (decide_eq_true (by omega)).symm)
    · have e1 : sg = -1 := by rw [← hsg, h7]; rfl
      refine x_aload_n dX12_foremost_84 rfl ?_
      refine x_gr dX12_foremost_85 fX12_409 (by first | assumption) (fun _ _ _ => rfl) (by first | assumption) ?_
      refine x_iload dX12_foremost_88 rfl ?_
      refine x_iload_n dX12_foremost_90 rfl ?_
      refine (show X _ _ 91 _ _ _ _ _ _ from ?_)
      refine x_callV (As := [_, _]) (mc := 0) (ms := 0) (z := mX11_age) (ci := 11) dX12_foremost_91 lX12_458 oX11_age (by decide) (by first | assumption) rfl rfl (Nat.le_of_ble_eq_true rfl) (Nat.le_of_ble_eq_true rfl) rfl (hag p hp) (k_I ?_)
      refine (show X _ _ 94 _ _ _ _ _ _ from ?_)
      refine x_aload_n dX12_foremost_94 rfl ?_
      refine x_gr dX12_foremost_95 fX12_409 (by first | assumption) (fun _ _ _ => rfl) (by first | assumption) ?_
      refine x_iload dX12_foremost_98 rfl ?_
      refine x_iload_n dX12_foremost_100 rfl ?_
      refine (show X _ _ 101 _ _ _ _ _ _ from ?_)
      refine x_callV (As := [_, _]) (mc := 0) (ms := 0) (z := mX11_age) (ci := 11) dX12_foremost_101 lX12_458 oX11_age (by decide) (by first | assumption) rfl rfl (Nat.le_of_ble_eq_true rfl) (Nat.le_of_ble_eq_true rfl) rfl (hagb) (k_I ?_)
      refine (show X _ _ 104 _ _ _ _ _ _ from ?_)
      refine y_icmp_ge 111 dX12_foremost_104 (by decide) ⟨by omega, by omega⟩ ⟨by omega, by omega⟩ (fun h8 => ?_) (fun h8 => ?_)
      · refine y_iconst dX12_foremost_111 ?_
        refine x_goto 143 dX12_foremost_112 (by decide) ?_
        refine x_istore dX12_foremost_143 (by decide) rfl rfl ?_
        refine (show X _ _ 145 _ _ _ _ _ _ from ?_)
        exact fin false (by unfold fmB; rw [e1]; exact (decide_eq_false (fun c => by omega)).symm)
      · refine y_iconst dX12_foremost_107 ?_
        refine x_goto 143 dX12_foremost_108 (by decide) ?_
        refine x_istore dX12_foremost_143 (by decide) rfl rfl ?_
        refine (show X _ _ 145 _ _ _ _ _ _ from ?_)
        exact fin true (by unfold fmB; rw [e1]; exact (decide_eq_true (by omega)).symm)
theorem c_branchOf {set : Nat} {sd : Int} (hM : MSh T R r) (hf : R r 3 = some f) (hG : FMS T R f) (hF : FMC V f A) (hA : VA A) (hap : apF f r) (hs : set < 1024) (hsd : R32 sd) : X g mX12_branchOf 0 [.ref r, .int (iI set), .int (iI sd), jk, jk] [] (T, iV (pB V r 24 E), R, J, z) k n (rI (iI ((set &&& brS A sd : Nat) : Int)) (T, iV (pB V r 24 E), R, J, z)) := by
  have hbt := fun p hp => c_bit g set p (T, iV (pB V r 24 E), R, J, z) 0 0 (by omega) hp
  obtain ⟨m0, -, -⟩ := id hM
  obtain ⟨g0, ⟨-, g11, -, -, -, -, -, -, -, -, -, -, -, -, -, -, -, -, -, -, -, -, -⟩, ⟨-, gk2, -, -, -, -, -, -, -, -, -, -, -, -, -, -, -, -, -, -, -, -, -⟩⟩ := id hG
  have eP := fP10 hA
  have e3 := hF.1 3 (by decide)
  have hA3 := hA.2.2.2.1
  unfold apF at hap
  obtain ⟨s1, s2⟩ := hsd
  rw [← br_and]
  refine y_iconst dX12_branchOf_0 ?_
  refine x_istore_n dX12_branchOf_1 (by decide) rfl rfl ?_
  refine y_iconst dX12_branchOf_2 ?_
  refine x_istore dX12_branchOf_3 (by decide) rfl rfl ?_
  refine (show X _ _ 5 _ _ _ _ _ _ from ?_)
  refine loopN (P := fun p => X g mX12_branchOf 5 [.ref r, .int (iI set), .int (iI sd), .int (iI ((sOf p (fun p => set.testBit p && decide (A 2 p = sd)) : Nat) : Int)), .int (iI (p : Int))] [] (T, iV (pB V r 24 E), R, J, z) k n (rI (iI ((sOf (fP A) (fun p => set.testBit p && decide (A 2 p = sd)) : Nat) : Int)) (T, iV (pB V r 24 E), R, J, z))) (fP A) ?_ (fun p hp ih => ?_)
  · refine x_iload dX12_branchOf_5 rfl ?_
    refine x_aload_n dX12_branchOf_7 rfl ?_
    refine x_gr dX12_branchOf_8 fX12_409 (by first | assumption) (fun _ _ _ => rfl) (by first | assumption) ?_
    refine b_gio (r := r) (m := 24) dX12_branchOf_11 fX12_230 (by first | assumption) (fun _ _ _ => rfl) (by omega) ?_
    refine (show X _ _ 14 _ _ _ _ _ _ from ?_)
    refine X.val e3 ?_
    refine y_icmp_ge 57 dX12_branchOf_14 (by decide) ⟨by omega, by omega⟩ ⟨by omega, by omega⟩ (fun h1 => ?_) (fun h1 => ?_)
    rotate_left
    · omega
    refine x_iload_n dX12_branchOf_57 rfl ?_
    refine (show X _ _ 58 _ _ _ _ _ _ from ?_)
    exact x_ireturn dX12_branchOf_58 rfl ⟨rfl, rfl⟩
  · have es : sOf (p + 1) (fun p => set.testBit p && decide (A 2 p = sd)) = if (set.testBit p && decide (A 2 p = sd)) then sOf p (fun p => set.testBit p && decide (A 2 p = sd)) ||| 2 ^ p else sOf p (fun p => set.testBit p && decide (A 2 p = sd)) := rfl
    rw [es] at ih
    have e2 : V (f + 2) p = A 2 p := hF.2.1 1 (by decide) p hp
    have hb := (hA.2.2.2.2.2.2.2.2.2.1 p hp).2.1
    have no : (set.testBit p && decide (A 2 p = sd)) = false → X g mX12_branchOf 48 [.ref r, .int (iI set), .int (iI sd), .int (iI ((sOf p (fun p => set.testBit p && decide (A 2 p = sd)) : Nat) : Int)), .int (iI (p : Int))] [.int (iI ((sOf p (fun p => set.testBit p && decide (A 2 p = sd)) : Nat) : Int))] (T, iV (pB V r 24 E), R, J, z) k n (rI (iI ((sOf (fP A) (fun p => set.testBit p && decide (A 2 p = sd)) : Nat) : Int)) (T, iV (pB V r 24 E), R, J, z)) := by
      intro e
      rw [e, if_neg (by decide)] at ih
      refine y_iconst dX12_branchOf_48 ?_
      refine (show X _ _ 49 _ _ _ _ _ _ from ?_)
      refine y_ior (b := 0) dX12_branchOf_49 ?_
      rw [Nat.or_zero]
      refine x_istore_n dX12_branchOf_50 (by decide) rfl rfl ?_
      refine y_iinc dX12_branchOf_51 rfl (by decide) rfl rfl ?_
      refine x_goto 5 dX12_branchOf_54 (by decide) ?_
      refine (show X _ _ 5 _ _ _ _ _ _ from ?_)
      exact ih
    refine x_iload dX12_branchOf_5 rfl ?_
    refine x_aload_n dX12_branchOf_7 rfl ?_
    refine x_gr dX12_branchOf_8 fX12_409 (by first | assumption) (fun _ _ _ => rfl) (by first | assumption) ?_
    refine b_gio (r := r) (m := 24) dX12_branchOf_11 fX12_230 (by first | assumption) (fun _ _ _ => rfl) (by omega) ?_
    refine (show X _ _ 14 _ _ _ _ _ _ from ?_)
    refine X.val e3 ?_
    refine y_icmp_ge 57 dX12_branchOf_14 (by decide) ⟨by omega, by omega⟩ ⟨by omega, by omega⟩ (fun h1 => ?_) (fun h1 => ?_)
    · omega
    refine x_iload_n dX12_branchOf_17 rfl ?_
    refine x_iload_n dX12_branchOf_18 rfl ?_
    refine x_iload dX12_branchOf_19 rfl ?_
    refine (show X _ _ 21 _ _ _ _ _ _ from ?_)
    refine x_callS (As := [_, _]) (mc := 0) (ms := 0) (z := mX12_bit) dX12_branchOf_21 lX12_386 oX12_bit (by decide) rfl (Nat.le_of_ble_eq_true rfl) (Nat.le_of_ble_eq_true rfl) rfl (hbt p (by omega)) (k_I ?_)
    refine (show X _ _ 24 _ _ _ _ _ _ from ?_)
    refine y_ifb_eq 48 dX12_branchOf_24 (by decide) (fun h2 => ?_) (fun h2 => ?_)
    · exact no (by rw [h2]; rfl)
    refine x_aload_n dX12_branchOf_27 rfl ?_
    refine x_gr dX12_branchOf_28 fX12_409 (by first | assumption) (fun _ _ _ => rfl) (by first | assumption) ?_
    refine x_gr dX12_branchOf_31 fX12_326 (by first | assumption) (fun _ _ _ => rfl) (by first | assumption) ?_
    refine x_iload dX12_branchOf_34 rfl ?_
    refine b_ialo (r := r) (m := 24) (p) dX12_branchOf_36 (by first | assumption) (by first | rfl | omega) (by omega) (by decide) (by omega) ?_
    refine (show X _ _ 37 _ _ _ _ _ _ from ?_)
    refine X.val e2 ?_
    refine x_iload_n dX12_branchOf_37 rfl ?_
    refine (show X _ _ 38 _ _ _ _ _ _ from ?_)
    refine y_icmp_ne 48 dX12_branchOf_38 (by decide) ⟨by omega, by omega⟩ ⟨by omega, by omega⟩ (fun h3 => ?_) (fun h3 => ?_)
    · exact no (by rw [decide_eq_false h3, Bool.and_false])
    rw [h2, decide_eq_true h3, if_pos (by decide)] at ih
    refine y_iconst dX12_branchOf_41 ?_
    refine x_iload dX12_branchOf_42 rfl ?_
    refine y_ishl (p) dX12_branchOf_44 (by first | rfl | omega) (by omega) ?_
    refine x_goto 49 dX12_branchOf_45 (by decide) ?_
    refine y_ior dX12_branchOf_49 ?_
    refine x_istore_n dX12_branchOf_50 (by decide) rfl rfl ?_
    refine y_iinc dX12_branchOf_51 rfl (by decide) rfl rfl ?_
    refine x_goto 5 dX12_branchOf_54 (by decide) ?_
    refine (show X _ _ 5 _ _ _ _ _ _ from ?_)
    exact ih
end C86
