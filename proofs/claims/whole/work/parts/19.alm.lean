/-! ===== the almanac ===== -/
theorem u2_same {α : Type} {f : Nat → Nat → α} {a j : Nat} {v w : α} : u2 (u2 f a j v) a j w = u2 f a j w := by
  funext b i
  by_cases e : b = a
  · subst e
    rw [u2_s, u2_s, u2_s]
    by_cases e2 : i = j
    · subst e2; rw [u1_s, u1_s]
    · rw [u1_n e2, u1_n e2, u1_n e2]
  · rw [u2_n e, u2_n e, u2_n e]
theorem u2_comm {α : Type} {f : Nat → Nat → α} {a b i j : Nat} {v w : α} (h : a ≠ b) : u2 (u2 f a i v) b j w = u2 (u2 f b j w) a i v := by
  funext c
  by_cases e : c = b
  · subst e
    rw [u2_s, u2_n (Ne.symm h), u2_n (Ne.symm h), u2_s]
  · rw [u2_n e]
    by_cases e2 : c = a
    · subst e2
      rw [u2_s, u2_s, u2_n e]
    · rw [u2_n e2, u2_n e2, u2_n e]
theorem u2_commi {α : Type} {f : Nat → Nat → α} {a i j : Nat} {v w : α} (h : i ≠ j) : u2 (u2 f a i v) a j w = u2 (u2 f a j w) a i v := by
  funext c
  by_cases e : c = a
  · subst e
    rw [u2_s, u2_s, u2_s, u2_s]
    funext q
    by_cases e1 : q = j
    · subst e1; rw [u1_s, u1_n (Ne.symm h), u1_s]
    · rw [u1_n e1]
      by_cases e2 : q = i
      · subst e2; rw [u1_s, u1_s]
      · rw [u1_n e2, u1_n e2, u1_n e1]
  · rw [u2_n e, u2_n e, u2_n e, u2_n e]
section Alm
variable (A B : Nat → Nat → Int)
def epD (y p : Nat) (D : Nat → Nat → Int) : Nat → Nat → Int := u2 (u2 D 1 y (sOf p (thB A B y) : Nat)) 2 y (sOf p (cnB A B y) : Nat)
/-- ten places of the row of harm -/
def r3 (m y : Nat) (D : Nat → Nat → Int) (h : Nat → Int) : Nat → Nat → Int := u1 D 3 (fun j => if 10 * y ≤ j ∧ j < 10 * y + m then h (j - 10 * y) else D 3 j)
def hmP (y i q : Nat) : Int := lp i (fun i s => if A 8 i = q ∧ A 9 i ≤ y ∧ (y : Int) ≤ A 10 i then s + A 11 i else s) 0
theorem r3_0 (y : Nat) (D : Nat → Nat → Int) (h : Nat → Int) : r3 0 y D h = D := by
  funext a
  by_cases e : a = 3
  · subst e
    rw [r3, u1_s]
    funext j
    rw [if_neg (by omega)]
  · rw [r3, u1_n e]
theorem r3_z (m y : Nat) (D : Nat → Nat → Int) : u2 (r3 m y D (fun _ => 0)) 3 (10 * y + m) 0 = r3 (m + 1) y D (fun _ => 0) := by
  funext a
  by_cases e : a = 3
  · subst e
    rw [u2_s, r3, r3, u1_s, u1_s]
    funext j
    by_cases e1 : j = 10 * y + m
    · subst e1; rw [u1_s, if_pos (by omega)]
    · rw [u1_n e1]
      by_cases e2 : 10 * y ≤ j ∧ j < 10 * y + m
      · rw [if_pos e2, if_pos (by omega)]
      · rw [if_neg e2, if_neg (by omega)]
  · rw [u2_n e, r3, r3, u1_n e, u1_n e]
theorem r3_u {m y q : Nat} {D : Nat → Nat → Int} {h : Nat → Int} {v : Int} (hq : q < m) : u2 (r3 m y D h) 3 (10 * y + q) v = r3 m y D (u1 h q v) := by
  funext a
  by_cases e : a = 3
  · subst e
    rw [u2_s, r3, r3, u1_s, u1_s]
    funext j
    by_cases e1 : j = 10 * y + q
    · subst e1; rw [u1_s, if_pos (by omega), Nat.add_sub_cancel_left, u1_s]
    · rw [u1_n e1]
      by_cases e2 : 10 * y ≤ j ∧ j < 10 * y + m
      · rw [if_pos e2, if_pos e2, u1_n (by omega)]
      · rw [if_neg e2, if_neg e2]
  · rw [u2_n e, r3, r3, u1_n e, u1_n e]
theorem r3_at {m y q : Nat} {D : Nat → Nat → Int} {h : Nat → Int} (hq : q < m) : r3 m y D h 3 (10 * y + q) = h q := by
  rw [r3, u1_s, if_pos (by omega), Nat.add_sub_cancel_left]
def ehD (y : Nat) (D : Nat → Nat → Int) : Nat → Nat → Int := r3 (fP A) y D (hmP A y (fPl A))
def brD (p : Nat) (D : Nat → Nat → Int) : Nat → Nat → Int := u2 (u2 D 4 0 (sOf p (fun p => decide (A 2 p = 0)) : Nat)) 4 1 (sOf p (fun p => decide (A 2 p = 1)) : Nat)
def yrsD (m : Nat) (D : Nat → Nat → Int) : Nat → Nat → Int := lp m (fun y D => ehD A y (epD A B y (fP A) D)) (brD A (fP A) D)
end Alm
section C8
variable {g : GG} {T : Nat → Nat × Nat} {V D : Nat → Nat → Int} {R : Nat → Nat → Option Nat} {J : Nat → Nat → Int64} {z k n : Nat} {A B : Nat → Nat → Int} {f nw al : Nat}
theorem c_enterPeople {y : Nat} (ha : AS T R al) (hf : FS T R f) (hn : NS T R nw) (hF : FC V f A) (hN : NC V nw B) (hA : VA A) (hB : VB A B) (hap : (f + 45 ≤ al ∨ al + 5 ≤ f) ∧ (nw + 3 ≤ al ∨ al + 5 ≤ nw)) (hy : y < fY A) : X g mX0_enterPeople 0 [.ref al, .int (iI (y : Int)), .ref f, .ref nw, jk, jk, jk] [] (T, iV (pB V al 5 D), R, J, z) k n (rV (T, iV (pB V al 5 (epD A B y (fP A) D)), R, J, z)) := by
  obtain ⟨a0, ⟨a1, a2, a3, a4⟩, ⟨t1, t2, t3, t4⟩⟩ := ha
  obtain ⟨f0, ⟨f9, f10, -⟩, ⟨ft1, ft12, -⟩, hPR, hLR, -⟩ := hf
  obtain ⟨n0, n1, n2, n3, n4⟩ := hn
  obtain ⟨hV0, hVp, -⟩ := hF
  obtain ⟨-, hN1, -⟩ := hN
  obtain ⟨p1, p2⟩ := hap
  have eP := fP10 hA
  have eY := fY24 hA
  have hAp := hA.2.2.2.2.2.2.2.2.2.1
  have hBp := hB.2.2.2.1
  refine x_aload_n dX0_enterPeople_0 rfl ?_
  refine x_gr dX0_enterPeople_1 fX0_9 (by first | assumption | exact (hPR _ (by omega)).2 | exact (hLR _ (by omega)).2) (fun _ _ _ => rfl) (by first | assumption | exact (hPR _ (by omega)).2 | exact (hLR _ (by omega)).2) ?_
  refine x_iload_n dX0_enterPeople_4 rfl ?_
  refine y_iconst dX0_enterPeople_5 ?_
  refine b_iast (r := al) (m := 5) (j := 1) (y) dX0_enterPeople_6 (by first | assumption | exact (hPR _ (by omega)).2 | exact (hLR _ (by omega)).2) (by first | rfl | omega) (by omega) (by decide) (by decide) ?_
  refine x_aload_n dX0_enterPeople_7 rfl ?_
  refine x_gr dX0_enterPeople_8 fX0_15 (by first | assumption | exact (hPR _ (by omega)).2 | exact (hLR _ (by omega)).2) (fun _ _ _ => rfl) (by first | assumption | exact (hPR _ (by omega)).2 | exact (hLR _ (by omega)).2) ?_
  refine x_iload_n dX0_enterPeople_11 rfl ?_
  refine (show X _ _ 12 _ _ _ _ _ _ from ?_)
  refine y_iconst dX0_enterPeople_12 ?_
  refine b_iast (r := al) (m := 5) (j := 2) (y) dX0_enterPeople_13 (by first | assumption | exact (hPR _ (by omega)).2 | exact (hLR _ (by omega)).2) (by first | rfl | omega) (by omega) (by decide) (by decide) ?_
  refine y_iconst dX0_enterPeople_14 ?_
  refine x_istore dX0_enterPeople_15 (by decide) rfl rfl ?_
  refine (show X _ _ 17 _ _ _ _ _ _ from ?_)
  refine loopN (P := fun p => X g mX0_enterPeople 17 [.ref al, .int (iI (y : Int)), .ref f, .ref nw, .int (iI (p : Int)), jk, jk] [] (T, iV (pB V al 5 (epD A B y p D)), R, J, z) k n (rV (T, iV (pB V al 5 (epD A B y (fP A) D)), R, J, z))) (fP A) ?_ (fun p hp ih => ?_)
  · refine x_iload dX0_enterPeople_17 rfl ?_
    refine x_aload_n dX0_enterPeople_19 rfl ?_
    refine b_gio (r := al) (m := 5) dX0_enterPeople_20 fX0_24 (by first | assumption | exact (hPR _ (by omega)).2 | exact (hLR _ (by omega)).2) (fun _ _ _ => rfl) (by omega) ?_
    refine (show X _ _ 23 _ _ _ _ _ _ from ?_)
    refine X.val (b := A 0 3) (hV0 3 (by omega)) ?_
    refine y_icmp_ge 129 dX0_enterPeople_23 (by decide) ⟨by omega, by omega⟩ ⟨by omega, by omega⟩ (fun h => ?_) (fun h => ?_)
    · exact x_return dX0_enterPeople_129 rfl ⟨rfl, rfl⟩
    · omega
  have hk := hAp p hp
  have hd := hBp p hp
  have v2 : V (f + 2 + p) 2 = A 3 p := hVp p hp 2 (by omega)
  have v0 : V (f + 2 + p) 0 = A 1 p := hVp p hp 0 (by omega)
  have w1 : V (nw + 1) p = B 1 p := hN1 p (by omega)
  have e1 : sOf (p + 1) (thB A B y) = if thB A B y p then sOf p (thB A B y) ||| 2 ^ p else sOf p (thB A B y) := rfl
  have e2 : sOf (p + 1) (cnB A B y) = if cnB A B y p then sOf p (cnB A B y) ||| 2 ^ p else sOf p (cnB A B y) := rfl
  unfold epD at ih ⊢
  rw [e1, e2] at ih
  have hcn : cnB A B y p = (thB A B y p && (decide (A 1 p ≠ 1) || decide ((y : Int) - A 3 p < 30))) := rfl
  have hth : thB A B y p = (decide (A 3 p ≤ y) && (decide (B 1 p = -2) || decide ((y : Int) < B 1 p))) := rfl
  generalize thB A B y p = tb at *
  generalize cnB A B y p = cb at *
  generalize sOf p (thB A B y) = s1 at *
  generalize sOf p (cnB A B y) = s2 at *
  have fin : ∀ lv : Bool, lv = (decide (B 1 p = -2) || decide ((y : Int) < B 1 p)) → X g mX0_enterPeople 63 [.ref al, .int (iI (y : Int)), .ref f, .ref nw, .int (iI (p : Int)), .ref (f + 2 + p), jk] [.int (iI (bI lv))] (T, iV (pB V al 5 (u2 (u2 D 1 y (s1 : Nat)) 2 y (s2 : Nat))), R, J, z) k n (rV (T, iV (pB V al 5 (u2 (u2 D 1 y (sOf (fP A) (thB A B y) : Nat)) 2 y (sOf (fP A) (cnB A B y) : Nat))), R, J, z)) := by
    intro lv hlv
    rw [← hlv] at hth
    refine x_istore dX0_enterPeople_63 (by decide) rfl rfl ?_
    refine x_aload dX0_enterPeople_65 rfl ?_
    refine y_iconst dX0_enterPeople_67 ?_
    refine b_ialo (r := al) (m := 5) (2) dX0_enterPeople_68 (by first | assumption | exact (hPR _ (by omega)).2 | exact (hLR _ (by omega)).2) (by first | rfl | omega) (by omega) (by decide) (by omega) ?_
    refine (show X _ _ 69 _ _ _ _ _ _ from ?_)
    refine X.val v2 ?_
    refine x_iload_n dX0_enterPeople_69 rfl ?_
    refine (show X _ _ 70 _ _ _ _ _ _ from ?_)
    refine y_icmp_gt 123 dX0_enterPeople_70 (by decide) ⟨by omega, by omega⟩ ⟨by omega, by omega⟩ (fun h1 => ?_) (fun h1 => ?_)
    · have : tb = false := by rw [hth, decide_eq_false (by omega)]; rfl
      rw [this] at ih hcn
      rw [hcn] at ih
      refine y_iinc dX0_enterPeople_123 rfl (by decide) rfl rfl ?_
      refine x_goto 17 dX0_enterPeople_126 (by decide) ?_
      refine (show X _ _ 17 _ _ _ _ _ _ from ?_)
      exact X.drop 5 rfl (X.drop 6 rfl ih)
    rw [decide_eq_true h1, Bool.true_and] at hth
    refine x_iload dX0_enterPeople_73 rfl ?_
    refine (show X _ _ 75 _ _ _ _ _ _ from ?_)
    refine y_ifb_eq 123 dX0_enterPeople_75 (by decide) (fun h2 => ?_) (fun h2 => ?_)
    · rw [hth, h2] at ih hcn
      rw [hcn] at ih
      refine y_iinc dX0_enterPeople_123 rfl (by decide) rfl rfl ?_
      refine x_goto 17 dX0_enterPeople_126 (by decide) ?_
      refine (show X _ _ 17 _ _ _ _ _ _ from ?_)
      exact X.drop 5 rfl (X.drop 6 rfl ih)
    rw [hth, h2] at ih hcn
    rw [Bool.true_and] at hcn
    refine x_aload_n dX0_enterPeople_78 rfl ?_
    refine x_gr dX0_enterPeople_79 fX0_9 (by first | assumption | exact (hPR _ (by omega)).2 | exact (hLR _ (by omega)).2) (fun _ _ _ => rfl) (by first | assumption | exact (hPR _ (by omega)).2 | exact (hLR _ (by omega)).2) ?_
    refine x_iload_n dX0_enterPeople_82 rfl ?_
    refine x_dup2 dX0_enterPeople_83 rfl rfl ?_
    refine b_iald (r := al) (m := 5) (j := 1) (y) dX0_enterPeople_84 (by first | assumption | exact (hPR _ (by omega)).2 | exact (hLR _ (by omega)).2) (by first | rfl | omega) (by omega) (by decide) (by decide) ?_
    refine (show X _ _ 85 _ _ _ _ _ _ from ?_)
    refine X.val (b := ((s1 : Nat) : Int)) (by show u1 (D 1) y _ y = _; exact u1_s) ?_
    refine y_iconst dX0_enterPeople_85 ?_
    refine x_iload dX0_enterPeople_86 rfl ?_
    refine y_ishl (p) dX0_enterPeople_88 (by first | rfl | omega) (by omega) ?_
    refine y_ior dX0_enterPeople_89 ?_
    refine b_iast (r := al) (m := 5) (j := 1) (y) dX0_enterPeople_90 (by first | assumption | exact (hPR _ (by omega)).2 | exact (hLR _ (by omega)).2) (by first | rfl | omega) (by omega) (by decide) (by decide) ?_
    refine (show X _ _ 91 _ _ _ _ _ _ from ?_)
    rw [u2_comm (a := 2) (b := 1) (by decide), u2_same]
    rw [if_pos rfl] at ih
    refine x_aload dX0_enterPeople_91 rfl ?_
    refine y_iconst dX0_enterPeople_93 ?_
    refine b_ialo (r := al) (m := 5) (0) dX0_enterPeople_94 (by first | assumption | exact (hPR _ (by omega)).2 | exact (hLR _ (by omega)).2) (by first | rfl | omega) (by omega) (by decide) (by omega) ?_
    refine (show X _ _ 95 _ _ _ _ _ _ from ?_)
    refine X.val v0 ?_
    refine y_iconst dX0_enterPeople_95 ?_
    refine (show X _ _ 96 _ _ _ _ _ _ from ?_)
    have add : cb = true → X g mX0_enterPeople 110 [.ref al, .int (iI (y : Int)), .ref f, .ref nw, .int (iI (p : Int)), .ref (f + 2 + p), .int (iI (bI lv))] [] (T, iV (pB V al 5 (u2 (u2 D 1 y ((s1 ||| 2 ^ p : Nat) : Int)) 2 y (s2 : Nat))), R, J, z) k n (rV (T, iV (pB V al 5 (u2 (u2 D 1 y (sOf (fP A) (thB A B y) : Nat)) 2 y (sOf (fP A) (cnB A B y) : Nat))), R, J, z)) := by
      intro hc
      rw [hc, if_pos rfl] at ih
      refine x_aload_n dX0_enterPeople_110 rfl ?_
      refine x_gr dX0_enterPeople_111 fX0_15 (by first | assumption | exact (hPR _ (by omega)).2 | exact (hLR _ (by omega)).2) (fun _ _ _ => rfl) (by first | assumption | exact (hPR _ (by omega)).2 | exact (hLR _ (by omega)).2) ?_
      refine x_iload_n dX0_enterPeople_114 rfl ?_
      refine x_dup2 dX0_enterPeople_115 rfl rfl ?_
      refine b_iald (r := al) (m := 5) (j := 2) (y) dX0_enterPeople_116 (by first | assumption | exact (hPR _ (by omega)).2 | exact (hLR _ (by omega)).2) (by first | rfl | omega) (by omega) (by decide) (by decide) ?_
      refine (show X _ _ 117 _ _ _ _ _ _ from ?_)
      refine X.val (b := ((s2 : Nat) : Int)) (by show u1 (D 2) y _ y = _; exact u1_s) ?_
      refine y_iconst dX0_enterPeople_117 ?_
      refine x_iload dX0_enterPeople_118 rfl ?_
      refine y_ishl (p) dX0_enterPeople_120 (by first | rfl | omega) (by omega) ?_
      refine y_ior dX0_enterPeople_121 ?_
      refine b_iast (r := al) (m := 5) (j := 2) (y) dX0_enterPeople_122 (by first | assumption | exact (hPR _ (by omega)).2 | exact (hLR _ (by omega)).2) (by first | rfl | omega) (by omega) (by decide) (by decide) ?_
      refine y_iinc dX0_enterPeople_123 rfl (by decide) rfl rfl ?_
      refine x_goto 17 dX0_enterPeople_126 (by decide) ?_
      refine (show X _ _ 17 _ _ _ _ _ _ from ?_)
      rw [u2_same]
      exact X.drop 5 rfl (X.drop 6 rfl ih)
    refine y_icmp_ne 110 dX0_enterPeople_96 (by decide) ⟨by omega, by omega⟩ ⟨by omega, by omega⟩ (fun h3 => ?_) (fun h3 => ?_)
    · exact add (by rw [hcn, decide_eq_true h3]; rfl)
    refine x_iload_n dX0_enterPeople_99 rfl ?_
    refine x_aload dX0_enterPeople_100 rfl ?_
    refine y_iconst dX0_enterPeople_102 ?_
    refine b_ialo (r := al) (m := 5) (2) dX0_enterPeople_103 (by first | assumption | exact (hPR _ (by omega)).2 | exact (hLR _ (by omega)).2) (by first | rfl | omega) (by omega) (by decide) (by omega) ?_
    refine (show X _ _ 104 _ _ _ _ _ _ from ?_)
    refine X.val v2 ?_
    refine y_isub dX0_enterPeople_104 ?_
    refine y_bipush dX0_enterPeople_105 rfl ?_
    refine (show X _ _ 107 _ _ _ _ _ _ from ?_)
    refine y_icmp_ge 123 dX0_enterPeople_107 (by decide) ⟨by omega, by omega⟩ ⟨by omega, by omega⟩ (fun h4 => ?_) (fun h4 => ?_)
    · have : cb = false := by rw [hcn, decide_eq_false (by simp [h3]), decide_eq_false (by omega)]; rfl
      rw [this] at ih
      refine y_iinc dX0_enterPeople_123 rfl (by decide) rfl rfl ?_
      refine x_goto 17 dX0_enterPeople_126 (by decide) ?_
      refine (show X _ _ 17 _ _ _ _ _ _ from ?_)
      exact X.drop 5 rfl (X.drop 6 rfl ih)
    · exact add (by rw [hcn, decide_eq_true h4]; simp)
  refine x_iload dX0_enterPeople_17 rfl ?_
  refine x_aload_n dX0_enterPeople_19 rfl ?_
  refine b_gio (r := al) (m := 5) dX0_enterPeople_20 fX0_24 (by first | assumption | exact (hPR _ (by omega)).2 | exact (hLR _ (by omega)).2) (fun _ _ _ => rfl) (by omega) ?_
  refine (show X _ _ 23 _ _ _ _ _ _ from ?_)
  refine X.val (b := A 0 3) (hV0 3 (by omega)) ?_
  refine y_icmp_ge 129 dX0_enterPeople_23 (by decide) ⟨by omega, by omega⟩ ⟨by omega, by omega⟩ (fun h => ?_) (fun h => ?_)
  · omega
  refine x_aload_n dX0_enterPeople_26 rfl ?_
  refine x_gr dX0_enterPeople_27 fX0_30 (by first | assumption | exact (hPR _ (by omega)).2 | exact (hLR _ (by omega)).2) (fun _ _ _ => rfl) (by first | assumption | exact (hPR _ (by omega)).2 | exact (hLR _ (by omega)).2) ?_
  refine x_iload dX0_enterPeople_30 rfl ?_
  refine y_aald (p) dX0_enterPeople_32 (by first | assumption | exact (hPR _ (by omega)).2 | exact (hLR _ (by omega)).2) (by decide) (by first | rfl | omega) (by omega) (by decide) (by first | assumption | exact (hPR _ (by omega)).1 | exact (hLR _ (by omega)).1) ?_
  refine x_astore dX0_enterPeople_33 (by decide) rfl rfl ?_
  refine x_aload_n dX0_enterPeople_35 rfl ?_
  refine x_gr dX0_enterPeople_36 fX0_45 (by first | assumption | exact (hPR _ (by omega)).2 | exact (hLR _ (by omega)).2) (fun _ _ _ => rfl) (by first | assumption | exact (hPR _ (by omega)).2 | exact (hLR _ (by omega)).2) ?_
  refine x_iload dX0_enterPeople_39 rfl ?_
  refine (show X _ _ 41 _ _ _ _ _ _ from ?_)
  refine b_ialo (r := al) (m := 5) (p) dX0_enterPeople_41 (by first | assumption | exact (hPR _ (by omega)).2 | exact (hLR _ (by omega)).2) (by first | rfl | omega) (by omega) (by decide) (by omega) ?_
  refine (show X _ _ 42 _ _ _ _ _ _ from ?_)
  refine X.val w1 ?_
  refine y_bipush dX0_enterPeople_42 rfl ?_
  refine (show X _ _ 44 _ _ _ _ _ _ from ?_)
  refine y_icmp_eq 58 dX0_enterPeople_44 (by decide) ⟨by omega, by omega⟩ ⟨by omega, by omega⟩ (fun h1 => ?_) (fun h1 => ?_)
  · refine y_iconst dX0_enterPeople_58 ?_
    refine x_goto 63 dX0_enterPeople_59 (by decide) ?_
    refine (show X _ _ 63 _ _ _ _ _ _ from ?_)
    exact fin true (by rw [decide_eq_true h1]; rfl)
  refine x_iload_n dX0_enterPeople_47 rfl ?_
  refine x_aload_n dX0_enterPeople_48 rfl ?_
  refine x_gr dX0_enterPeople_49 fX0_45 (by first | assumption | exact (hPR _ (by omega)).2 | exact (hLR _ (by omega)).2) (fun _ _ _ => rfl) (by first | assumption | exact (hPR _ (by omega)).2 | exact (hLR _ (by omega)).2) ?_
  refine x_iload dX0_enterPeople_52 rfl ?_
  refine b_ialo (r := al) (m := 5) (p) dX0_enterPeople_54 (by first | assumption | exact (hPR _ (by omega)).2 | exact (hLR _ (by omega)).2) (by first | rfl | omega) (by omega) (by decide) (by omega) ?_
  refine (show X _ _ 55 _ _ _ _ _ _ from ?_)
  refine X.val w1 ?_
  refine y_icmp_ge 62 dX0_enterPeople_55 (by decide) ⟨by omega, by omega⟩ ⟨by omega, by omega⟩ (fun h2 => ?_) (fun h2 => ?_)
  · refine y_iconst dX0_enterPeople_62 ?_
    refine (show X _ _ 63 _ _ _ _ _ _ from ?_)
    exact fin false (by rw [decide_eq_false h1, decide_eq_false (by omega)]; rfl)
  · refine y_iconst dX0_enterPeople_58 ?_
    refine x_goto 63 dX0_enterPeople_59 (by decide) ?_
    refine (show X _ _ 63 _ _ _ _ _ _ from ?_)
    exact fin true (by rw [decide_eq_true h2]; simp)
theorem c_enterHarm {y : Nat} (ha : AS T R al) (hf : FS T R f) (hF : FC V f A) (hA : VA A) (hap : f + 45 ≤ al ∨ al + 5 ≤ f) (hy : y < fY A) : X g mX0_enterHarm 0 [.ref al, .int (iI (y : Int)), .ref f, jk, jk] [] (T, iV (pB V al 5 D), R, J, z) k n (rV (T, iV (pB V al 5 (ehD A y D)), R, J, z)) := by
  obtain ⟨a0, ⟨a1, a2, a3, a4⟩, ⟨t1, t2, t3, t4⟩⟩ := ha
  obtain ⟨f0, ⟨f9, f10, -⟩, ⟨ft1, ft12, -⟩, hPR, hLR, -⟩ := hf
  obtain ⟨hV0, -, hVl, -⟩ := hF
  have eP := fP10 hA
  have eY := fY24 hA
  have hA4 := hA.2.2.2.2.1
  have eL : ((fPl A : Nat) : Int) = A 0 4 := Int.toNat_of_nonneg hA4.1
  have hAl := hA.2.2.2.2.2.2.2.2.2.2.1
  unfold ehD
  refine y_iconst dX0_enterHarm_0 ?_
  refine x_istore_n dX0_enterHarm_1 (by decide) rfl rfl ?_
  refine (show X _ _ 2 _ _ _ _ _ _ from ?_)
  refine X.pic (V' := pB V al 5 (r3 0 y D (fun _ => 0))) (by rw [r3_0]) ?_
  refine loopN (P := fun p => X g mX0_enterHarm 2 [.ref al, .int (iI (y : Int)), .ref f, .int (iI (p : Int)), jk] [] (T, iV (pB V al 5 (r3 p y D (fun _ => 0))), R, J, z) k n (rV (T, iV (pB V al 5 (r3 (fP A) y D (hmP A y (fPl A)))), R, J, z))) (fP A) ?_ (fun p hp ih => ?_)
  · refine x_iload_n dX0_enterHarm_2 rfl ?_
    refine x_aload_n dX0_enterHarm_3 rfl ?_
    refine b_gio (r := al) (m := 5) dX0_enterHarm_4 fX0_24 (by first | assumption | exact (hPR _ (by omega)).2 | exact (hLR _ (by omega)).2) (fun _ _ _ => rfl) (by omega) ?_
    refine (show X _ _ 7 _ _ _ _ _ _ from ?_)
    refine X.val (b := A 0 3) (hV0 3 (by omega)) ?_
    refine y_icmp_ge 28 dX0_enterHarm_7 (by decide) ⟨by omega, by omega⟩ ⟨by omega, by omega⟩ (fun h => ?_) (fun h => ?_)
    rotate_left
    · omega
    refine y_iconst dX0_enterHarm_28 ?_
    refine x_istore_n dX0_enterHarm_29 (by decide) rfl rfl ?_
    refine (show X _ _ 30 _ _ _ _ _ _ from ?_)
    refine loopN (P := fun i => X g mX0_enterHarm 30 [.ref al, .int (iI (y : Int)), .ref f, .int (iI (i : Int)), jk] [] (T, iV (pB V al 5 (r3 (fP A) y D (hmP A y i))), R, J, z) k n (rV (T, iV (pB V al 5 (r3 (fP A) y D (hmP A y (fPl A)))), R, J, z))) (fPl A) ?_ (fun i hi ih => ?_)
    · refine x_iload_n dX0_enterHarm_30 rfl ?_
      refine x_aload_n dX0_enterHarm_31 rfl ?_
      refine b_gio (r := al) (m := 5) dX0_enterHarm_32 fX0_50 (by first | assumption | exact (hPR _ (by omega)).2 | exact (hLR _ (by omega)).2) (fun _ _ _ => rfl) (by omega) ?_
      refine (show X _ _ 35 _ _ _ _ _ _ from ?_)
      refine X.val (b := A 0 4) (hV0 4 (by omega)) ?_
      refine y_icmp_ge 89 dX0_enterHarm_35 (by decide) ⟨by omega, by omega⟩ ⟨by omega, by omega⟩ (fun h => ?_) (fun h => ?_)
      · exact x_return dX0_enterHarm_89 rfl ⟨rfl, rfl⟩
      · omega
    have hl := hAl i hi
    have v0 : V (f + 13 + i) 0 = A 8 i := hVl i hi 0 (by omega)
    have v1 : V (f + 13 + i) 1 = A 9 i := hVl i hi 1 (by omega)
    have v2 : V (f + 13 + i) 2 = A 10 i := hVl i hi 2 (by omega)
    have v3 : V (f + 13 + i) 3 = A 11 i := hVl i hi 3 (by omega)
    obtain ⟨o, ho⟩ : ∃ o : Nat, A 8 i = (o : Int) := ⟨(A 8 i).toNat, (Int.toNat_of_nonneg hl.1.1).symm⟩
    have eq1 : (A 9 i ≤ y ∧ (y : Int) ≤ A 10 i) → hmP A y (i + 1) = u1 (hmP A y i) o (hmP A y i o + A 11 i) := by
      intro hc
      funext q
      show (if A 8 i = q ∧ A 9 i ≤ y ∧ (y : Int) ≤ A 10 i then hmP A y i q + A 11 i else hmP A y i q) = _
      by_cases e : q = o
      · subst e; rw [if_pos ⟨ho, hc⟩, u1_s]
      · rw [u1_n e, if_neg (fun h => e (by have := h.1; omega))]
    have eq2 : ¬ (A 9 i ≤ y ∧ (y : Int) ≤ A 10 i) → hmP A y (i + 1) = hmP A y i := by
      intro hc
      funext q
      exact if_neg (fun h => hc h.2)
    rw [ho] at hl v0
    refine x_iload_n dX0_enterHarm_30 rfl ?_
    refine x_aload_n dX0_enterHarm_31 rfl ?_
    refine b_gio (r := al) (m := 5) dX0_enterHarm_32 fX0_50 (by first | assumption | exact (hPR _ (by omega)).2 | exact (hLR _ (by omega)).2) (fun _ _ _ => rfl) (by omega) ?_
    refine (show X _ _ 35 _ _ _ _ _ _ from ?_)
    refine X.val (b := A 0 4) (hV0 4 (by omega)) ?_
    refine y_icmp_ge 89 dX0_enterHarm_35 (by decide) ⟨by omega, by omega⟩ ⟨by omega, by omega⟩ (fun h => ?_) (fun h => ?_)
    · omega
    refine x_aload_n dX0_enterHarm_38 rfl ?_
    refine x_gr dX0_enterHarm_39 fX0_53 (by first | assumption | exact (hPR _ (by omega)).2 | exact (hLR _ (by omega)).2) (fun _ _ _ => rfl) (by first | assumption | exact (hPR _ (by omega)).2 | exact (hLR _ (by omega)).2) ?_
    refine x_iload_n dX0_enterHarm_42 rfl ?_
    refine y_aald (i) dX0_enterHarm_43 (by first | assumption | exact (hPR _ (by omega)).2 | exact (hLR _ (by omega)).2) (by decide) (by first | rfl | omega) (by omega) (by decide) (by first | assumption | exact (hPR _ (by omega)).1 | exact (hLR _ (by omega)).1) ?_
    refine x_astore dX0_enterHarm_44 (by decide) rfl rfl ?_
    refine x_aload dX0_enterHarm_46 rfl ?_
    refine y_iconst dX0_enterHarm_48 ?_
    refine b_ialo (r := al) (m := 5) (1) dX0_enterHarm_49 (by first | assumption | exact (hPR _ (by omega)).2 | exact (hLR _ (by omega)).2) (by first | rfl | omega) (by omega) (by decide) (by omega) ?_
    refine (show X _ _ 50 _ _ _ _ _ _ from ?_)
    refine X.val v1 ?_
    refine x_iload_n dX0_enterHarm_50 rfl ?_
    refine (show X _ _ 51 _ _ _ _ _ _ from ?_)
    refine y_icmp_gt 83 dX0_enterHarm_51 (by decide) ⟨by omega, by omega⟩ ⟨by omega, by omega⟩ (fun h1 => ?_) (fun h1 => ?_)
    · rw [eq2 (by omega)] at ih
      refine y_iinc dX0_enterHarm_83 rfl (by decide) rfl rfl ?_
      refine x_goto 30 dX0_enterHarm_86 (by decide) ?_
      refine (show X _ _ 30 _ _ _ _ _ _ from ?_)
      exact X.drop 4 rfl ih
    refine x_iload_n dX0_enterHarm_54 rfl ?_
    refine x_aload dX0_enterHarm_55 rfl ?_
    refine y_iconst dX0_enterHarm_57 ?_
    refine b_ialo (r := al) (m := 5) (2) dX0_enterHarm_58 (by first | assumption | exact (hPR _ (by omega)).2 | exact (hLR _ (by omega)).2) (by first | rfl | omega) (by omega) (by decide) (by omega) ?_
    refine (show X _ _ 59 _ _ _ _ _ _ from ?_)
    refine X.val v2 ?_
    refine y_icmp_gt 83 dX0_enterHarm_59 (by decide) ⟨by omega, by omega⟩ ⟨by omega, by omega⟩ (fun h2 => ?_) (fun h2 => ?_)
    · rw [eq2 (by omega)] at ih
      refine y_iinc dX0_enterHarm_83 rfl (by decide) rfl rfl ?_
      refine x_goto 30 dX0_enterHarm_86 (by decide) ?_
      refine (show X _ _ 30 _ _ _ _ _ _ from ?_)
      exact X.drop 4 rfl ih
    rw [eq1 ⟨h1, h2⟩] at ih
    refine x_aload_n dX0_enterHarm_62 rfl ?_
    refine x_gr dX0_enterHarm_63 fX0_18 (by first | assumption | exact (hPR _ (by omega)).2 | exact (hLR _ (by omega)).2) (fun _ _ _ => rfl) (by first | assumption | exact (hPR _ (by omega)).2 | exact (hLR _ (by omega)).2) ?_
    refine x_iload_n dX0_enterHarm_66 rfl ?_
    refine y_bipush dX0_enterHarm_67 rfl ?_
    refine y_imul dX0_enterHarm_69 ?_
    refine x_aload dX0_enterHarm_70 rfl ?_
    refine y_iconst dX0_enterHarm_72 ?_
    refine b_ialo (r := al) (m := 5) (0) dX0_enterHarm_73 (by first | assumption | exact (hPR _ (by omega)).2 | exact (hLR _ (by omega)).2) (by first | rfl | omega) (by omega) (by decide) (by omega) ?_
    refine (show X _ _ 74 _ _ _ _ _ _ from ?_)
    refine X.val v0 ?_
    refine y_iadd dX0_enterHarm_74 ?_
    refine x_dup2 dX0_enterHarm_75 rfl rfl ?_
    refine b_iald (r := al) (m := 5) (j := 3) (10 * y + o) dX0_enterHarm_76 (by first | assumption | exact (hPR _ (by omega)).2 | exact (hLR _ (by omega)).2) (by first | rfl | omega) (by omega) (by decide) (by decide) ?_
    refine (show X _ _ 77 _ _ _ _ _ _ from ?_)
    refine X.val (b := hmP A y i o) (r3_at (by omega)) ?_
    refine x_aload dX0_enterHarm_77 rfl ?_
    refine y_iconst dX0_enterHarm_79 ?_
    refine b_ialo (r := al) (m := 5) (3) dX0_enterHarm_80 (by first | assumption | exact (hPR _ (by omega)).2 | exact (hLR _ (by omega)).2) (by first | rfl | omega) (by omega) (by decide) (by omega) ?_
    refine (show X _ _ 81 _ _ _ _ _ _ from ?_)
    refine X.val v3 ?_
    refine y_iadd dX0_enterHarm_81 ?_
    refine b_iast (r := al) (m := 5) (j := 3) (10 * y + o) dX0_enterHarm_82 (by first | assumption | exact (hPR _ (by omega)).2 | exact (hLR _ (by omega)).2) (by first | rfl | omega) (by omega) (by decide) (by decide) ?_
    refine y_iinc dX0_enterHarm_83 rfl (by decide) rfl rfl ?_
    refine x_goto 30 dX0_enterHarm_86 (by decide) ?_
    refine (show X _ _ 30 _ _ _ _ _ _ from ?_)
    rw [r3_u (by omega)]
    exact X.drop 4 rfl ih
  refine x_iload_n dX0_enterHarm_2 rfl ?_
  refine x_aload_n dX0_enterHarm_3 rfl ?_
  refine b_gio (r := al) (m := 5) dX0_enterHarm_4 fX0_24 (by first | assumption | exact (hPR _ (by omega)).2 | exact (hLR _ (by omega)).2) (fun _ _ _ => rfl) (by omega) ?_
  refine (show X _ _ 7 _ _ _ _ _ _ from ?_)
  refine X.val (b := A 0 3) (hV0 3 (by omega)) ?_
  refine y_icmp_ge 28 dX0_enterHarm_7 (by decide) ⟨by omega, by omega⟩ ⟨by omega, by omega⟩ (fun h => ?_) (fun h => ?_)
  · omega
  refine x_aload_n dX0_enterHarm_10 rfl ?_
  refine x_gr dX0_enterHarm_11 fX0_18 (by first | assumption | exact (hPR _ (by omega)).2 | exact (hLR _ (by omega)).2) (fun _ _ _ => rfl) (by first | assumption | exact (hPR _ (by omega)).2 | exact (hLR _ (by omega)).2) ?_
  refine x_iload_n dX0_enterHarm_14 rfl ?_
  refine y_bipush dX0_enterHarm_15 rfl ?_
  refine y_imul dX0_enterHarm_17 ?_
  refine x_iload_n dX0_enterHarm_18 rfl ?_
  refine y_iadd dX0_enterHarm_19 ?_
  refine y_iconst dX0_enterHarm_20 ?_
  refine (show X _ _ 21 _ _ _ _ _ _ from ?_)
  refine b_iast (r := al) (m := 5) (j := 3) (10 * y + p) dX0_enterHarm_21 (by first | assumption | exact (hPR _ (by omega)).2 | exact (hLR _ (by omega)).2) (by first | rfl | omega) (by omega) (by decide) (by decide) ?_
  refine y_iinc dX0_enterHarm_22 rfl (by decide) rfl rfl ?_
  refine x_goto 2 dX0_enterHarm_25 (by decide) ?_
  refine (show X _ _ 2 _ _ _ _ _ _ from ?_)
  rw [r3_z]
  exact ih
end C8
