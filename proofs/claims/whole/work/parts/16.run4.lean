/-! ===== Run: taking a turn, beginning, what is bought, votes, a year ===== -/
section RunT
variable (A B W : Nat → Nat → Int)
def tk1 (y : Nat) (who : Int) : Nat → Nat → Int := u2 (if W 0 6 = 0 then u2 W 4 y who else u2 (u2 W 4 y who) 0 10 (W 0 10 + 1)) 0 6 0
def tk2 (y p : Nat) : Nat → Nat → Int := u2 (u2 (u2 (u2 W 0 7 p) 1 p (W 1 p + 1)) 2 p (W 2 p - 1)) 0 8 (W 0 8 + hmS A y p)
def tk3 (p : Nat) : Nat → Nat → Int := if A 1 p = 2 then u2 W 3 p (W 3 p - A 0 2) else W
def tk4 (p : Nat) : Nat → Nat → Int := if 0 < W 2 p then W else u2 (u2 (u2 W 0 5 ((dd W ||| 2 ^ p : Nat) : Int)) 0 6 1) 0 9 (W 0 9 + 1)
def tkT (y p : Nat) : Nat → Nat → Int := tk4 (tk3 A (tk2 A W y p) p) p
def takeT (y : Nat) (who : Int) : Nat → Nat → Int := if 0 ≤ who then tkT A (tk1 W y who) y who.toNat else tk1 W y who
def beg0 (lw sd : Int) : Nat → Nat → Int := u2 (u2 (u2 (u2 (u2 (u2 (u2 (u2 (u2 (u2 W 0 1 lw) 0 2 sd) 0 3 (-1)) 0 4 (-1)) 0 5 0) 0 6 0) 0 7 (-1)) 0 8 0) 0 9 0) 0 10 0
def begS (p : Nat) (U : Nat → Nat → Int) : Nat → Nat → Int := u2 (u2 (u2 U 1 p 0) 2 p (A 4 p)) 3 p 0
def rBeg (lw sd : Int) : Nat → Nat → Int := lp (fP A) (begS A) (beg0 W lw sd)
end RunT
section C5
variable {g : GG} {T : Nat → Nat × Nat} {V W : Nat → Nat → Int} {R : Nat → Nat → Option Nat} {J : Nat → Nat → Int64} {z k n : Nat} {A B : Nat → Nat → Int} {r w f nw al : Nat}
theorem c_takeTail {y p : Nat} (hr : RS T R r w) (hw : WS T R w f nw al) (hC : WC V f nw al A B) (hap : AP r w f nw al) (hy : y < fY A) (hp : p < fP A) (h2 : R32 (W 2 p - 1)) (h5 : 0 ≤ W 0 5) : X g mX8_takeTurn 34 [.ref r, .int (iI (y : Int)), .int (iI (p : Int))] [] (T, iV (pB V r 5 W), R, J, z) k n (rV (T, iV (pB V r 5 (tkT A W y p)), R, J, z)) := by
  obtain ⟨⟨r0, r1⟩, ⟨r2, r3, r4, r5⟩, ⟨s1, s2, s3, s4⟩⟩ := hr
  obtain ⟨⟨w0, w1, w2, w3⟩, ⟨f0, ⟨f9, -⟩, ⟨ft1, -⟩, hPR, -⟩, -, a0, ⟨a1, a2, a3, a4⟩, ⟨t1, t2, t3, t4⟩⟩ := hw
  obtain ⟨⟨hV0, hVp, -⟩, -, ⟨hAy, -⟩, hA, -⟩ := hC
  obtain ⟨p1, p2, p3, p4⟩ := hap
  have eP := fP10 hA
  have eY := fY24 hA
  have hAp := hA.2.2.2.2.2.2.2.2.2.1 p hp
  have h21 := h2.1
  have h22 := h2.2
  unfold tkT
  refine x_aload_n dX8_takeTurn_34 rfl ?_
  refine x_iload_n dX8_takeTurn_35 rfl ?_
  refine b_pi0 (r := r) (m := 5) dX8_takeTurn_36 (pX8_31 _) (by first | assumption | exact (hPR _ (by omega)).2) (fun _ _ _ => rfl) rfl rfl (by decide) ?_
  refine x_aload_n dX8_takeTurn_39 rfl ?_
  refine x_gr dX8_takeTurn_40 fX8_43 (by first | assumption | exact (hPR _ (by omega)).2) (fun _ _ _ => rfl) (by first | assumption | exact (hPR _ (by omega)).2) ?_
  refine x_iload_n dX8_takeTurn_43 rfl ?_
  refine x_dup2 dX8_takeTurn_44 rfl rfl ?_
  refine b_iald (r := r) (m := 5) (j := 1) (p) dX8_takeTurn_45 (by first | assumption | exact (hPR _ (by omega)).2) (by first | rfl | omega) (by omega) (by decide) (by decide) ?_
  refine (show X _ _ 46 _ _ _ _ _ _ from ?_)
  refine X.val (b := W 1 p) rfl ?_
  refine y_iconst dX8_takeTurn_46 ?_
  refine y_iadd dX8_takeTurn_47 ?_
  refine b_iast (r := r) (m := 5) (j := 1) (p) dX8_takeTurn_48 (by first | assumption | exact (hPR _ (by omega)).2) (by first | rfl | omega) (by omega) (by decide) (by decide) ?_
  refine x_aload_n dX8_takeTurn_49 rfl ?_
  refine x_gr dX8_takeTurn_50 fX8_47 (by first | assumption | exact (hPR _ (by omega)).2) (fun _ _ _ => rfl) (by first | assumption | exact (hPR _ (by omega)).2) ?_
  refine x_iload_n dX8_takeTurn_53 rfl ?_
  refine x_dup2 dX8_takeTurn_54 rfl rfl ?_
  refine b_iald (r := r) (m := 5) (j := 2) (p) dX8_takeTurn_55 (by first | assumption | exact (hPR _ (by omega)).2) (by first | rfl | omega) (by omega) (by decide) (by decide) ?_
  refine (show X _ _ 56 _ _ _ _ _ _ from ?_)
  refine X.val (b := W 2 p) rfl ?_
  refine y_iconst dX8_takeTurn_56 ?_
  refine y_isub dX8_takeTurn_57 ?_
  refine b_iast (r := r) (m := 5) (j := 2) (p) dX8_takeTurn_58 (by first | assumption | exact (hPR _ (by omega)).2) (by first | rfl | omega) (by omega) (by decide) (by decide) ?_
  refine x_aload_n dX8_takeTurn_59 rfl ?_
  refine x_dup dX8_takeTurn_60 rfl ?_
  refine b_gi0 (r := r) (m := 5) dX8_takeTurn_61 fX8_34 (by first | assumption | exact (hPR _ (by omega)).2) (fun _ _ _ => rfl) (by decide) ?_
  refine (show X _ _ 64 _ _ _ _ _ _ from ?_)
  refine X.val (b := W 0 8) rfl ?_
  refine x_aload_n dX8_takeTurn_64 rfl ?_
  refine x_gr dX8_takeTurn_65 fX8_56 (by first | assumption | exact (hPR _ (by omega)).2) (fun _ _ _ => rfl) (by first | assumption | exact (hPR _ (by omega)).2) ?_
  refine x_gr dX8_takeTurn_68 fX8_103 (by first | assumption | exact (hPR _ (by omega)).2) (fun _ _ _ => rfl) (by first | assumption | exact (hPR _ (by omega)).2) ?_
  refine x_gr dX8_takeTurn_71 fX8_171 (by first | assumption | exact (hPR _ (by omega)).2) (fun _ _ _ => rfl) (by first | assumption | exact (hPR _ (by omega)).2) ?_
  refine x_iload_n dX8_takeTurn_74 rfl ?_
  refine y_bipush dX8_takeTurn_75 rfl ?_
  refine y_imul dX8_takeTurn_77 ?_
  refine x_iload_n dX8_takeTurn_78 rfl ?_
  refine (show X _ _ 79 _ _ _ _ _ _ from ?_)
  refine y_iadd dX8_takeTurn_79 ?_
  refine b_ialo (r := r) (m := 5) (10 * y + p) dX8_takeTurn_80 (by first | assumption | exact (hPR _ (by omega)).2) (by first | rfl | omega) (by omega) (by decide) (by omega) ?_
  refine (show X _ _ 81 _ _ _ _ _ _ from ?_)
  refine X.val (b := hmS A y p) ((hAy y hy).2.2 p hp) ?_
  refine y_iadd dX8_takeTurn_81 ?_
  refine b_pi0 (r := r) (m := 5) dX8_takeTurn_82 (pX8_34 _) (by first | assumption | exact (hPR _ (by omega)).2) (fun _ _ _ => rfl) rfl rfl (by decide) ?_
  refine (show X _ _ 85 _ _ _ _ _ _ from ?_)
  have e2 : tk2 A W y p 2 p = W 2 p - 1 := by
    show u1 (W 2) p (W 2 p - 1) p = _
    rw [u1_s]
  have e5 : tk2 A W y p 0 5 = W 0 5 := rfl
  refine X.pic (V' := pB V r 5 (tk2 A W y p)) rfl ?_
  generalize tk2 A W y p = W2 at *
  have e23 : tk3 A W2 p 2 p = W2 2 p := by unfold tk3; split <;> rfl
  have e53 : tk3 A W2 p 0 5 = W2 0 5 := by unfold tk3; split <;> rfl
  have fin : X g mX8_takeTurn 122 [.ref r, .int (iI (y : Int)), .int (iI (p : Int))] [] (T, iV (pB V r 5 (tk3 A W2 p)), R, J, z) k n (rV (T, iV (pB V r 5 (tk4 (tk3 A W2 p) p)), R, J, z)) := by
    generalize tk3 A W2 p = W3 at *
    unfold tk4
    refine x_aload_n dX8_takeTurn_122 rfl ?_
    refine x_gr dX8_takeTurn_123 fX8_47 (by first | assumption | exact (hPR _ (by omega)).2) (fun _ _ _ => rfl) (by first | assumption | exact (hPR _ (by omega)).2) ?_
    refine x_iload_n dX8_takeTurn_126 rfl ?_
    refine b_iald (r := r) (m := 5) (j := 2) (p) dX8_takeTurn_127 (by first | assumption | exact (hPR _ (by omega)).2) (by first | rfl | omega) (by omega) (by decide) (by decide) ?_
    refine (show X _ _ 128 _ _ _ _ _ _ from ?_)
    refine y_if_gt 158 dX8_takeTurn_128 (by decide) ⟨by omega, by omega⟩ (fun h1 => ?_) (fun h1 => ?_)
    · rw [if_pos h1]
      exact x_return dX8_takeTurn_158 rfl ⟨rfl, rfl⟩
    rw [if_neg (by omega)]
    refine x_aload_n dX8_takeTurn_131 rfl ?_
    refine x_dup dX8_takeTurn_132 rfl ?_
    refine b_gi0 (r := r) (m := 5) dX8_takeTurn_133 fX8_24 (by first | assumption | exact (hPR _ (by omega)).2) (fun _ _ _ => rfl) (by decide) ?_
    refine (show X _ _ 136 _ _ _ _ _ _ from ?_)
    refine X.val (b := ((dd W3 : Nat) : Int)) (Int.toNat_of_nonneg (by omega)).symm ?_
    refine y_iconst dX8_takeTurn_136 ?_
    refine x_iload_n dX8_takeTurn_137 rfl ?_
    refine y_ishl (p) dX8_takeTurn_138 (by first | rfl | omega) (by omega) ?_
    refine y_ior dX8_takeTurn_139 ?_
    refine b_pi0 (r := r) (m := 5) dX8_takeTurn_140 (pX8_24 _) (by first | assumption | exact (hPR _ (by omega)).2) (fun _ _ _ => rfl) rfl rfl (by decide) ?_
    refine x_aload_n dX8_takeTurn_143 rfl ?_
    refine y_iconst dX8_takeTurn_144 ?_
    refine b_pi0 (r := r) (m := 5) dX8_takeTurn_145 (pX8_27 _) (by first | assumption | exact (hPR _ (by omega)).2) (fun _ _ _ => rfl) (by first | rfl | exact bI_nar _) (by first | rfl | exact bI_fit _) (by decide) ?_
    refine (show X _ _ 148 _ _ _ _ _ _ from ?_)
    refine x_aload_n dX8_takeTurn_148 rfl ?_
    refine x_dup dX8_takeTurn_149 rfl ?_
    refine b_gi0 (r := r) (m := 5) dX8_takeTurn_150 fX8_37 (by first | assumption | exact (hPR _ (by omega)).2) (fun _ _ _ => rfl) (by decide) ?_
    refine y_iconst dX8_takeTurn_153 ?_
    refine y_iadd dX8_takeTurn_154 ?_
    refine b_pi0 (r := r) (m := 5) dX8_takeTurn_155 (pX8_37 _) (by first | assumption | exact (hPR _ (by omega)).2) (fun _ _ _ => rfl) rfl rfl (by decide) ?_
    refine (show X _ _ 158 _ _ _ _ _ _ from ?_)
    exact x_return dX8_takeTurn_158 rfl ⟨rfl, rfl⟩
  refine x_aload_n dX8_takeTurn_85 rfl ?_
  refine x_gr dX8_takeTurn_86 fX8_56 (by first | assumption | exact (hPR _ (by omega)).2) (fun _ _ _ => rfl) (by first | assumption | exact (hPR _ (by omega)).2) ?_
  refine x_gr dX8_takeTurn_89 fX8_60 (by first | assumption | exact (hPR _ (by omega)).2) (fun _ _ _ => rfl) (by first | assumption | exact (hPR _ (by omega)).2) ?_
  refine x_gr dX8_takeTurn_92 fX8_71 (by first | assumption | exact (hPR _ (by omega)).2) (fun _ _ _ => rfl) (by first | assumption | exact (hPR _ (by omega)).2) ?_
  refine x_iload_n dX8_takeTurn_95 rfl ?_
  refine y_aald (p) dX8_takeTurn_96 (by first | assumption | exact (hPR _ (by omega)).2) (by decide) (by first | rfl | omega) (by omega) (by decide) (by first | assumption | exact (hPR _ (by omega)).1) ?_
  refine y_iconst dX8_takeTurn_97 ?_
  refine b_ialo (r := r) (m := 5) (0) dX8_takeTurn_98 (by first | assumption | exact (hPR _ (by omega)).2) (by first | rfl | omega) (by omega) (by decide) (by omega) ?_
  refine (show X _ _ 99 _ _ _ _ _ _ from ?_)
  refine X.val (b := A 1 p) (hVp p hp 0 (by omega)) ?_
  refine y_iconst dX8_takeTurn_99 ?_
  refine (show X _ _ 100 _ _ _ _ _ _ from ?_)
  refine y_icmp_ne 122 dX8_takeTurn_100 (by decide) ⟨by omega, by omega⟩ ⟨by omega, by omega⟩ (fun h1 => ?_) (fun h1 => ?_)
  · have e : tk3 A W2 p = W2 := if_neg h1
    rw [e] at fin
    rw [e]
    exact fin
  · have e : tk3 A W2 p = u2 W2 3 p (W2 3 p - A 0 2) := if_pos h1
    rw [e] at fin
    rw [e]
    refine x_aload_n dX8_takeTurn_103 rfl ?_
    refine x_gr dX8_takeTurn_104 fX8_50 (by first | assumption | exact (hPR _ (by omega)).2) (fun _ _ _ => rfl) (by first | assumption | exact (hPR _ (by omega)).2) ?_
    refine x_iload_n dX8_takeTurn_107 rfl ?_
    refine x_dup2 dX8_takeTurn_108 rfl rfl ?_
    refine b_iald (r := r) (m := 5) (j := 3) (p) dX8_takeTurn_109 (by first | assumption | exact (hPR _ (by omega)).2) (by first | rfl | omega) (by omega) (by decide) (by decide) ?_
    refine x_aload_n dX8_takeTurn_110 rfl ?_
    refine x_gr dX8_takeTurn_111 fX8_56 (by first | assumption | exact (hPR _ (by omega)).2) (fun _ _ _ => rfl) (by first | assumption | exact (hPR _ (by omega)).2) ?_
    refine x_gr dX8_takeTurn_114 fX8_60 (by first | assumption | exact (hPR _ (by omega)).2) (fun _ _ _ => rfl) (by first | assumption | exact (hPR _ (by omega)).2) ?_
    refine (show X _ _ 117 _ _ _ _ _ _ from ?_)
    refine b_gio (r := r) (m := 5) dX8_takeTurn_117 fX8_173 (by first | assumption | exact (hPR _ (by omega)).2) (fun _ _ _ => rfl) (by omega) ?_
    refine (show X _ _ 120 _ _ _ _ _ _ from ?_)
    refine X.val (b := A 0 2) (hV0 2 (by omega)) ?_
    refine y_isub dX8_takeTurn_120 ?_
    refine b_iast (r := r) (m := 5) (j := 3) (p) dX8_takeTurn_121 (by first | assumption | exact (hPR _ (by omega)).2) (by first | rfl | omega) (by omega) (by decide) (by decide) ?_
    refine (show X _ _ 122 _ _ _ _ _ _ from ?_)
    exact fin
theorem c_takeTurn {y : Nat} {who : Int} (hr : RS T R r w) (hw : WS T R w f nw al) (hC : WC V f nw al A B) (hap : AP r w f nw al) (hy : y < fY A) (hwho : -2 ≤ who ∧ who < A 0 3) (h6 : R32 (W 0 6)) (h5 : 0 ≤ W 0 5) (h2 : ∀ p, p < fP A → R32 (W 2 p - 1)) : X g mX8_takeTurn 0 [.ref r, .int (iI (y : Int)), .int (iI who)] [] (T, iV (pB V r 5 W), R, J, z) k n (rV (T, iV (pB V r 5 (takeT A W y who)), R, J, z)) := by
  have tl := fun W p hp h2 h5 => c_takeTail (g := g) (J := J) (z := z) (k := k) (n := n) (y := y) (p := p) (W := W) hr hw hC hap hy hp h2 h5
  obtain ⟨⟨r0, r1⟩, ⟨r2, r3, r4, r5⟩, ⟨s1, s2, s3, s4⟩⟩ := hr
  have hA := hC.2.2.2.1
  have eP := fP10 hA
  have eY := fY24 hA
  have hPR : True := trivial
  have h61 := h6.1
  have h62 := h6.2
  have ta2 : ∀ p, tk1 W y who 2 p = W 2 p := fun p => by unfold tk1; split <;> rfl
  have ta5 : tk1 W y who 0 5 = W 0 5 := by unfold tk1; split <;> rfl
  unfold takeT
  have mid : X g mX8_takeTurn 29 [.ref r, .int (iI (y : Int)), .int (iI who)] [] (T, iV (pB V r 5 (tk1 W y who)), R, J, z) k n (rV (T, iV (pB V r 5 (if 0 ≤ who then tkT A (tk1 W y who) y who.toNat else tk1 W y who)), R, J, z)) := by
    refine x_iload_n dX8_takeTurn_29 rfl ?_
    refine (show X _ _ 30 _ _ _ _ _ _ from ?_)
    refine y_if_ge 34 dX8_takeTurn_30 (by decide) ⟨by omega, by omega⟩ (fun h1 => ?_) (fun h1 => ?_)
    · rw [if_pos h1]
      obtain ⟨p, rfl⟩ : ∃ p : Nat, who = (p : Int) := ⟨who.toNat, (Int.toNat_of_nonneg h1).symm⟩
      rw [Int.toNat_natCast]
      exact tl _ p (by omega) (by rw [ta2]; exact h2 p (by omega)) (by rw [ta5]; exact h5)
    · rw [if_neg (by omega)]
      exact x_return dX8_takeTurn_33 rfl ⟨rfl, rfl⟩
  refine x_aload_n dX8_takeTurn_0 rfl ?_
  refine x_gr dX8_takeTurn_1 fX8_53 (by first | assumption | exact (hPR _ (by omega)).2) (fun _ _ _ => rfl) (by first | assumption | exact (hPR _ (by omega)).2) ?_
  refine x_iload_n dX8_takeTurn_4 rfl ?_
  refine x_iload_n dX8_takeTurn_5 rfl ?_
  refine b_iast (r := r) (m := 5) (j := 4) (y) dX8_takeTurn_6 (by first | assumption | exact (hPR _ (by omega)).2) (by first | rfl | omega) (by omega) (by decide) (by decide) ?_
  refine x_aload_n dX8_takeTurn_7 rfl ?_
  refine b_gi0 (r := r) (m := 5) dX8_takeTurn_8 fX8_27 (by first | assumption | exact (hPR _ (by omega)).2) (fun _ _ _ => rfl) (by decide) ?_
  refine (show X _ _ 11 _ _ _ _ _ _ from ?_)
  refine X.val (b := W 0 6) rfl ?_
  refine y_if_eq 24 dX8_takeTurn_11 (by decide) ⟨by omega, by omega⟩ (fun h1 => ?_) (fun h1 => ?_)
  · have e : tk1 W y who = u2 (u2 W 4 y who) 0 6 0 := by unfold tk1; rw [if_pos h1]
    rw [e] at mid
    refine x_aload_n dX8_takeTurn_24 rfl ?_
    refine y_iconst dX8_takeTurn_25 ?_
    refine b_pi0 (r := r) (m := 5) dX8_takeTurn_26 (pX8_27 _) (by first | assumption | exact (hPR _ (by omega)).2) (fun _ _ _ => rfl) (by first | rfl | exact bI_nar _) (by first | rfl | exact bI_fit _) (by decide) ?_
    refine (show X _ _ 29 _ _ _ _ _ _ from ?_)
    rw [e]
    exact mid
  · have e : tk1 W y who = u2 (u2 (u2 W 4 y who) 0 10 (W 0 10 + 1)) 0 6 0 := by unfold tk1; rw [if_neg h1]
    rw [e] at mid
    refine x_aload_n dX8_takeTurn_14 rfl ?_
    refine x_dup dX8_takeTurn_15 rfl ?_
    refine b_gi0 (r := r) (m := 5) dX8_takeTurn_16 fX8_40 (by first | assumption | exact (hPR _ (by omega)).2) (fun _ _ _ => rfl) (by decide) ?_
    refine y_iconst dX8_takeTurn_19 ?_
    refine y_iadd dX8_takeTurn_20 ?_
    refine b_pi0 (r := r) (m := 5) dX8_takeTurn_21 (pX8_40 _) (by first | assumption | exact (hPR _ (by omega)).2) (fun _ _ _ => rfl) rfl rfl (by decide) ?_
    refine x_aload_n dX8_takeTurn_24 rfl ?_
    refine y_iconst dX8_takeTurn_25 ?_
    refine (show X _ _ 26 _ _ _ _ _ _ from ?_)
    refine b_pi0 (r := r) (m := 5) dX8_takeTurn_26 (pX8_27 _) (by first | assumption | exact (hPR _ (by omega)).2) (fun _ _ _ => rfl) (by first | rfl | exact bI_nar _) (by first | rfl | exact bI_fit _) (by decide) ?_
    refine (show X _ _ 29 _ _ _ _ _ _ from ?_)
    rw [e]
    exact mid
theorem c_begin {lw sd : Int} (hr : RS T R r w) (hw : WS T R w f nw al) (hC : WC V f nw al A B) (hap : AP r w f nw al) : X g mX8_begin 0 [.ref r, .int (iI lw), .int (iI sd), jk] [] (T, iV (pB V r 5 W), R, J, z) k n (rV (T, iV (pB V r 5 (rBeg A W lw sd)), R, J, z)) := by
  obtain ⟨⟨r0, r1⟩, ⟨r2, r3, r4, r5⟩, ⟨s1, s2, s3, s4⟩⟩ := hr
  obtain ⟨⟨w0, w1, w2, w3⟩, ⟨f0, ⟨f9, -⟩, ⟨ft1, -⟩, hPR, -⟩, -, -⟩ := hw
  obtain ⟨⟨hV0, hVp, -⟩, -, -, hA, -⟩ := hC
  obtain ⟨p1, p2, -, -⟩ := hap
  have eP := fP10 hA
  refine x_aload_n dX8_begin_0 rfl ?_
  refine x_iload_n dX8_begin_1 rfl ?_
  refine b_pi0 (r := r) (m := 5) dX8_begin_2 (pX8_9 _) (by first | assumption | exact (hPR _ (by omega)).2) (fun _ _ _ => rfl) rfl rfl (by decide) ?_
  refine x_aload_n dX8_begin_5 rfl ?_
  refine x_iload_n dX8_begin_6 rfl ?_
  refine b_pi0 (r := r) (m := 5) dX8_begin_7 (pX8_15 _) (by first | assumption | exact (hPR _ (by omega)).2) (fun _ _ _ => rfl) rfl rfl (by decide) ?_
  refine x_aload_n dX8_begin_10 rfl ?_
  refine y_iconst dX8_begin_11 ?_
  refine (show X _ _ 12 _ _ _ _ _ _ from ?_)
  refine b_pi0 (r := r) (m := 5) dX8_begin_12 (pX8_18 _) (by first | assumption | exact (hPR _ (by omega)).2) (fun _ _ _ => rfl) rfl rfl (by decide) ?_
  refine x_aload_n dX8_begin_15 rfl ?_
  refine y_iconst dX8_begin_16 ?_
  refine b_pi0 (r := r) (m := 5) dX8_begin_17 (pX8_21 _) (by first | assumption | exact (hPR _ (by omega)).2) (fun _ _ _ => rfl) rfl rfl (by decide) ?_
  refine x_aload_n dX8_begin_20 rfl ?_
  refine y_iconst dX8_begin_21 ?_
  refine b_pi0 (r := r) (m := 5) dX8_begin_22 (pX8_24 _) (by first | assumption | exact (hPR _ (by omega)).2) (fun _ _ _ => rfl) rfl rfl (by decide) ?_
  refine x_aload_n dX8_begin_25 rfl ?_
  refine (show X _ _ 26 _ _ _ _ _ _ from ?_)
  refine y_iconst dX8_begin_26 ?_
  refine b_pi0 (r := r) (m := 5) dX8_begin_27 (pX8_27 _) (by first | assumption | exact (hPR _ (by omega)).2) (fun _ _ _ => rfl) (by first | rfl | exact bI_nar _) (by first | rfl | exact bI_fit _) (by decide) ?_
  refine x_aload_n dX8_begin_30 rfl ?_
  refine y_iconst dX8_begin_31 ?_
  refine b_pi0 (r := r) (m := 5) dX8_begin_32 (pX8_31 _) (by first | assumption | exact (hPR _ (by omega)).2) (fun _ _ _ => rfl) rfl rfl (by decide) ?_
  refine x_aload_n dX8_begin_35 rfl ?_
  refine y_iconst dX8_begin_36 ?_
  refine b_pi0 (r := r) (m := 5) dX8_begin_37 (pX8_34 _) (by first | assumption | exact (hPR _ (by omega)).2) (fun _ _ _ => rfl) rfl rfl (by decide) ?_
  refine (show X _ _ 40 _ _ _ _ _ _ from ?_)
  refine x_aload_n dX8_begin_40 rfl ?_
  refine y_iconst dX8_begin_41 ?_
  refine b_pi0 (r := r) (m := 5) dX8_begin_42 (pX8_37 _) (by first | assumption | exact (hPR _ (by omega)).2) (fun _ _ _ => rfl) rfl rfl (by decide) ?_
  refine x_aload_n dX8_begin_45 rfl ?_
  refine y_iconst dX8_begin_46 ?_
  refine b_pi0 (r := r) (m := 5) dX8_begin_47 (pX8_40 _) (by first | assumption | exact (hPR _ (by omega)).2) (fun _ _ _ => rfl) rfl rfl (by decide) ?_
  refine y_iconst dX8_begin_50 ?_
  refine x_istore_n dX8_begin_51 (by decide) rfl rfl ?_
  refine (show X _ _ 52 _ _ _ _ _ _ from ?_)
  refine X.pic (V' := pB V r 5 (beg0 W lw sd)) rfl ?_
  refine loopN (P := fun p => X g mX8_begin 52 [.ref r, .int (iI lw), .int (iI sd), .int (iI (p : Int))] [] (T, iV (pB V r 5 (lp p (begS A) (beg0 W lw sd))), R, J, z) k n (rV (T, iV (pB V r 5 (rBeg A W lw sd)), R, J, z))) (fP A) ?_ (fun p hp ih => ?_)
  · refine x_iload_n dX8_begin_52 rfl ?_
    refine x_aload_n dX8_begin_53 rfl ?_
    refine x_gr dX8_begin_54 fX8_56 (by first | assumption | exact (hPR _ (by omega)).2) (fun _ _ _ => rfl) (by first | assumption | exact (hPR _ (by omega)).2) ?_
    refine x_gr dX8_begin_57 fX8_60 (by first | assumption | exact (hPR _ (by omega)).2) (fun _ _ _ => rfl) (by first | assumption | exact (hPR _ (by omega)).2) ?_
    refine b_gio (r := r) (m := 5) dX8_begin_60 fX8_66 (by first | assumption | exact (hPR _ (by omega)).2) (fun _ _ _ => rfl) (by omega) ?_
    refine (show X _ _ 63 _ _ _ _ _ _ from ?_)
    refine X.val (b := A 0 3) (hV0 3 (by omega)) ?_
    refine y_icmp_ge 106 dX8_begin_63 (by decide) ⟨by omega, by omega⟩ ⟨by omega, by omega⟩ (fun h => ?_) (fun h => ?_)
    · exact x_return dX8_begin_106 rfl ⟨rfl, rfl⟩
    · omega
  rw [lp_s] at ih
  generalize lp p (begS A) (beg0 W lw sd) = W1 at *
  refine x_iload_n dX8_begin_52 rfl ?_
  refine x_aload_n dX8_begin_53 rfl ?_
  refine x_gr dX8_begin_54 fX8_56 (by first | assumption | exact (hPR _ (by omega)).2) (fun _ _ _ => rfl) (by first | assumption | exact (hPR _ (by omega)).2) ?_
  refine x_gr dX8_begin_57 fX8_60 (by first | assumption | exact (hPR _ (by omega)).2) (fun _ _ _ => rfl) (by first | assumption | exact (hPR _ (by omega)).2) ?_
  refine b_gio (r := r) (m := 5) dX8_begin_60 fX8_66 (by first | assumption | exact (hPR _ (by omega)).2) (fun _ _ _ => rfl) (by omega) ?_
  refine (show X _ _ 63 _ _ _ _ _ _ from ?_)
  refine X.val (b := A 0 3) (hV0 3 (by omega)) ?_
  refine y_icmp_ge 106 dX8_begin_63 (by decide) ⟨by omega, by omega⟩ ⟨by omega, by omega⟩ (fun h => ?_) (fun h => ?_)
  · omega
  refine x_aload_n dX8_begin_66 rfl ?_
  refine x_gr dX8_begin_67 fX8_43 (by first | assumption | exact (hPR _ (by omega)).2) (fun _ _ _ => rfl) (by first | assumption | exact (hPR _ (by omega)).2) ?_
  refine x_iload_n dX8_begin_70 rfl ?_
  refine y_iconst dX8_begin_71 ?_
  refine b_iast (r := r) (m := 5) (j := 1) (p) dX8_begin_72 (by first | assumption | exact (hPR _ (by omega)).2) (by first | rfl | omega) (by omega) (by decide) (by decide) ?_
  refine x_aload_n dX8_begin_73 rfl ?_
  refine x_gr dX8_begin_74 fX8_47 (by first | assumption | exact (hPR _ (by omega)).2) (fun _ _ _ => rfl) (by first | assumption | exact (hPR _ (by omega)).2) ?_
  refine x_iload_n dX8_begin_77 rfl ?_
  refine (show X _ _ 78 _ _ _ _ _ _ from ?_)
  refine x_aload_n dX8_begin_78 rfl ?_
  refine x_gr dX8_begin_79 fX8_56 (by first | assumption | exact (hPR _ (by omega)).2) (fun _ _ _ => rfl) (by first | assumption | exact (hPR _ (by omega)).2) ?_
  refine x_gr dX8_begin_82 fX8_60 (by first | assumption | exact (hPR _ (by omega)).2) (fun _ _ _ => rfl) (by first | assumption | exact (hPR _ (by omega)).2) ?_
  refine x_gr dX8_begin_85 fX8_71 (by first | assumption | exact (hPR _ (by omega)).2) (fun _ _ _ => rfl) (by first | assumption | exact (hPR _ (by omega)).2) ?_
  refine x_iload_n dX8_begin_88 rfl ?_
  refine y_aald (p) dX8_begin_89 (by first | assumption | exact (hPR _ (by omega)).2) (by decide) (by first | rfl | omega) (by omega) (by decide) (by first | assumption | exact (hPR _ (by omega)).1) ?_
  refine y_iconst dX8_begin_90 ?_
  refine b_ialo (r := r) (m := 5) (3) dX8_begin_91 (by first | assumption | exact (hPR _ (by omega)).2) (by first | rfl | omega) (by omega) (by decide) (by omega) ?_
  refine (show X _ _ 92 _ _ _ _ _ _ from ?_)
  refine X.val (b := A 4 p) (hVp p hp 3 (by omega)) ?_
  refine b_iast (r := r) (m := 5) (j := 2) (p) dX8_begin_92 (by first | assumption | exact (hPR _ (by omega)).2) (by first | rfl | omega) (by omega) (by decide) (by decide) ?_
  refine x_aload_n dX8_begin_93 rfl ?_
  refine x_gr dX8_begin_94 fX8_50 (by first | assumption | exact (hPR _ (by omega)).2) (fun _ _ _ => rfl) (by first | assumption | exact (hPR _ (by omega)).2) ?_
  refine x_iload_n dX8_begin_97 rfl ?_
  refine y_iconst dX8_begin_98 ?_
  refine b_iast (r := r) (m := 5) (j := 3) (p) dX8_begin_99 (by first | assumption | exact (hPR _ (by omega)).2) (by first | rfl | omega) (by omega) (by decide) (by decide) ?_
  refine y_iinc dX8_begin_100 rfl (by decide) rfl rfl ?_
  refine x_goto 52 dX8_begin_103 (by decide) ?_
  refine (show X _ _ 52 _ _ _ _ _ _ from ?_)
  exact ih
end C5
