/-! ===== the reference's run: bought; a turn ===== -/
/-- the reference's notes are N -/
def NM (A E N : Nat → Nat → Int) : Prop := E 0 38 = N 0 1 ∧ (∀ p, p < 10 → E 17 p = N 1 p) ∧ (∀ s, s < 8 → (N 0 1).toNat.testBit s = true → E 21 s = N 2 s) ∧ NOk N ∧ ∀ p, p < 10 → (N 1 p).toNat < 2 ^ fSe A
section NMs
variable {A E E' N : Nat → Nat → Int}
theorem NM_eq (h : NM A E N) (h0 : E' 0 38 = E 0 38) (h17 : E' 17 = E 17) (h21 : E' 21 = E 21) : NM A E' N := by
  obtain ⟨a, b, c, d, e⟩ := h
  exact ⟨h0.trans a, fun p hp => by rw [h17]; exact b p hp, fun s hs ht => by rw [h21]; exact c s hs ht, d, e⟩
theorem or_lt2 {a s m : Nat} (ha : a < 2 ^ m) (hs : s < m) : a ||| 2 ^ s < 2 ^ m := Nat.or_lt_two_pow ha (Nat.pow_lt_pow_right (by decide) hs)
theorem pay_rel {U : Nat → Nat → Int} {s b P : Nat} {pr : Int} (h : ∀ p, p < P → E 18 p = U 3 p) (hs : s < P) (hb : b < P) : ∀ p, p < P → payE E s b pr 18 p = payW U s b pr 3 p := by
  have h1 : ∀ p, p < P → u2 E 18 s (E 18 s - pr) 18 p = u2 U 3 s (U 3 s - pr) 3 p := by
    intro p hp
    rw [u2_s, u2_s]
    by_cases e : p = s
    · subst e; rw [u1_s, u1_s, h p hp]
    · rw [u1_n e, u1_n e, h p hp]
  intro p hp
  unfold payE payW
  have hb1 := h1 b hb
  generalize u2 E 18 s (E 18 s - pr) = E1 at *
  generalize u2 U 3 s (U 3 s - pr) = U1 at *
  rw [u2_s, u2_s]
  by_cases e : p = b
  · subst e; rw [u1_s, u1_s, h1 p hp]
  · rw [u1_n e, u1_n e]; exact h1 p hp
theorem payE_o {s b a : Nat} {pr : Int} (ha : a ≠ 18) : payE E s b pr a = E a := by unfold payE; rw [u2_n ha, u2_n ha]
end NMs
section C89
variable {g : GG} {T : Nat → Nat × Nat} {V E A B W N : Nat → Nat → Int} {R : Nat → Nat → Option Nat} {J : Nat → Nat → Int64} {z k n : Nat} {r f : Nat}
theorem c_bought {who : Int} {y can : Nat} {U : Nat → Nat → Int} (hM : MSh T R r) (hf : R r 3 = some f) (hG : FMS T R f) (hF : FMC V f A) (hA : VA A) (hB : VB A B) (hap : apF f r) (hv : NV (E 2) A B) (hw : 0 ≤ who ∧ who < A 0 3) (hy : y < 24) (hc : E 7 y = (can : Int)) (hcl : can < 1024) (hU : ∀ p, p < fP A → E 18 p = U 3 p) : X g mX12_bought 0 [.ref r, .int (iI who), .int (iI (y : Int)), jk, jk] [] (T, iV (pB V r 24 E), R, J, z) k n (fun v M => v = some (.int (iI (sold A B y can who U).1)) ∧ ∃ E' : Nat → Nat → Int, M = (T, iV (pB V r 24 E'), R, J, z) ∧ (∀ a, a ≠ 18 → E' a = E a) ∧ ∀ p, p < fP A → E' 18 p = (sold A B y can who U).2 3 p) := by
  have hso := fun (E1 : Nat → Nat → Int) (h7 : E1 7 = E 7) (now : Int) (one two : Nat) (pr : Int) hn h1 h2 => c_soldM (g := g) (V := V) (J := J) (z := z) (k := 0) (n := 0) (E := E1) (now := now) (one := one) (two := two) (pr := pr) hM hn h1 h2 hy (by rw [h7]; exact hc) hcl
  obtain ⟨m0, ⟨-, m15, -, -, -, -, -, -, -, -, -, -, -, -, -, -, -, -, -, -, -, -, -⟩, ⟨-, mk2, -, -, -, -, -, -, -, -, -, -, -, -, -, -, -, -, -, -, -, -, -⟩⟩ := id hM
  obtain ⟨g0, ⟨-, -, -, -, -, -, -, -, -, -, -, g21, g22, g23, g24, -, -, -, -, -, -, -, -⟩, ⟨-, -, -, -, -, -, -, -, -, -, -, gk12, gk13, gk14, gk15, -, -, -, -, -, -, -, -⟩⟩ := id hG
  have eP := fP10 hA
  have hA3 := hA.2.2.2.1
  have hA5 := hA.2.2.2.2.2.1
  have eB : ((fBu A : Nat) : Int) = A 0 5 := Int.toNat_of_nonneg hA5.1
  have hb2 := hB.2.2.1
  have eN : (((B 0 2).toNat : Nat) : Int) = B 0 2 := Int.toNat_of_nonneg hb2.1
  have e5 := hF.1 5 (by decide)
  have hFb := hF.2.2.2.1
  have hAb := hA.2.2.2.2.2.2.2.2.2.2.2.1
  have hBb := hB.2.2.2.2
  have hA0 := hA.1
  unfold apF at hap
  unfold sold
  rw [if_neg (by omega)]
  have s1b := sdT_b (A := A) (W := U) (y := y) (can := can) (who := who) hA hw
  have s2b := sdN_b (A := A) (B := B) (y := y) (can := can) (s := lp (fBu A) (sdT A y can) (who, U)) hB (s1b _ (Nat.le_refl _))
  refine x_iload_n dX12_bought_0 rfl ?_
  refine x_istore_n dX12_bought_1 (by decide) rfl rfl ?_
  refine y_iconst dX12_bought_2 ?_
  refine x_istore dX12_bought_3 (by decide) rfl rfl ?_
  refine (show X _ _ 5 _ _ _ _ _ _ from ?_)
  refine loopN (P := fun i => ∀ E1 : Nat → Nat → Int, (∀ a, a ≠ 18 → E1 a = E a) → (∀ p, p < fP A → E1 18 p = (lp i (sdT A y can) (who, U)).2 3 p) → X g mX12_bought 5 [.ref r, .int (iI who), .int (iI (y : Int)), .int (iI (lp i (sdT A y can) (who, U)).1), .int (iI (i : Int))] [] (T, iV (pB V r 24 E1), R, J, z) k n (fun v M => v = some (.int (iI (lp (B 0 2).toNat (sdN B y can) (lp (fBu A) (sdT A y can) (who, U))).1)) ∧ ∃ E' : Nat → Nat → Int, M = (T, iV (pB V r 24 E'), R, J, z) ∧ (∀ a, a ≠ 18 → E' a = E a) ∧ ∀ p, p < fP A → E' 18 p = (lp (B 0 2).toNat (sdN B y can) (lp (fBu A) (sdT A y can) (who, U))).2 3 p)) (fBu A) ?_ (fun i hi ih => ?_) E (fun _ _ => rfl) hU
  · intro E1 q1 q2
    refine x_iload dX12_bought_5 rfl ?_
    refine x_aload_n dX12_bought_7 rfl ?_
    refine x_gr dX12_bought_8 fX12_409 (by first | assumption) (fun _ _ _ => rfl) (by first | assumption) ?_
    refine b_gio (r := r) (m := 24) dX12_bought_11 fX12_359 (by first | assumption) (fun _ _ _ => rfl) (by omega) ?_
    refine (show X _ _ 14 _ _ _ _ _ _ from ?_)
    refine X.val e5 ?_
    refine y_icmp_ge 74 dX12_bought_14 (by decide) ⟨by omega, by omega⟩ ⟨by omega, by omega⟩ (fun h1 => ?_) (fun h1 => ?_)
    rotate_left
    · omega
    refine y_iconst dX12_bought_74 ?_
    refine x_istore dX12_bought_75 (by decide) rfl rfl ?_
    refine (show X _ _ 77 _ _ _ _ _ _ from ?_)
    generalize lp (fBu A) (sdT A y can) (who, U) = s0 at *
    refine loopN (P := fun i => ∀ E1 : Nat → Nat → Int, (∀ a, a ≠ 18 → E1 a = E a) → (∀ p, p < fP A → E1 18 p = (lp i (sdN B y can) s0).2 3 p) → X g mX12_bought 77 [.ref r, .int (iI who), .int (iI (y : Int)), .int (iI (lp i (sdN B y can) s0).1), .int (iI (i : Int))] [] (T, iV (pB V r 24 E1), R, J, z) k n (fun v M => v = some (.int (iI (lp (B 0 2).toNat (sdN B y can) s0).1)) ∧ ∃ E' : Nat → Nat → Int, M = (T, iV (pB V r 24 E'), R, J, z) ∧ (∀ a, a ≠ 18 → E' a = E a) ∧ ∀ p, p < fP A → E' 18 p = (lp (B 0 2).toNat (sdN B y can) s0).2 3 p)) (B 0 2).toNat ?_ (fun i hi ih => ?_) E1 q1 q2
    · intro E1 q1 q2
      refine x_iload dX12_bought_77 rfl ?_
      refine x_aload_n dX12_bought_79 rfl ?_
      refine x_gr dX12_bought_80 fX12_17 (by first | assumption) (fun _ _ _ => rfl) (by first | assumption) ?_
      refine y_bipush dX12_bought_83 rfl ?_
      refine b_iald (r := r) (m := 24) (j := 2) (12) dX12_bought_85 (by first | assumption) (by first | rfl | omega) (by omega) (by decide) (by decide) ?_
      refine (show X _ _ 86 _ _ _ _ _ _ from ?_)
      refine X.val (b := B 0 2) (by rw [q1 2 (by decide)]; exact hv.2.2.1) ?_
      refine y_icmp_ge 160 dX12_bought_86 (by decide) ⟨by omega, by omega⟩ ⟨by omega, by omega⟩ (fun h2 => ?_) (fun h2 => ?_)
      rotate_left
      · omega
      refine x_iload_n dX12_bought_160 rfl ?_
      refine (show X _ _ 161 _ _ _ _ _ _ from ?_)
      exact x_ireturn dX12_bought_161 rfl ⟨rfl, E1, rfl, q1, q2⟩
    · intro E1 q1 q2
      have hb := hBb i hi
      have vv : ∀ c, c < 4 → E1 2 (13 + (4 * i + c)) = B 2 (4 * i + c) := fun c hc => by rw [q1 2 (by decide)]; exact hv.2.2.2.2 (4 * i + c) (by omega)
      have v0 : E1 2 (13 + 4 * i) = B 2 (4 * i) := vv 0 (by decide)
      have v1 : E1 2 (13 + 4 * i + 1) = B 2 (4 * i + 1) := vv 1 (by decide)
      have v2 : E1 2 (13 + 4 * i + 2) = B 2 (4 * i + 2) := vv 2 (by decide)
      have v3 : E1 2 (13 + 4 * i + 3) = B 2 (4 * i + 3) := vv 3 (by decide)
      have hsb := s2b i (by omega)
      have hcall := hso E1 (q1 7 (by decide)) (lp i (sdN B y can) s0).1 (B 2 (4 * i + 1)).toNat (B 2 (4 * i + 2)).toNat (B 2 (4 * i + 3)) ⟨by omega, by omega⟩ (by omega) (by omega)
      have ih := ih
      rw [lp_s] at ih
      generalize lp i (sdN B y can) s0 = s at *
      unfold sdN at ih
      rw [Int.toNat_of_nonneg hb.2.1.1, Int.toNat_of_nonneg hb.2.2.1.1] at hcall
      refine x_iload dX12_bought_77 rfl ?_
      refine x_aload_n dX12_bought_79 rfl ?_
      refine x_gr dX12_bought_80 fX12_17 (by first | assumption) (fun _ _ _ => rfl) (by first | assumption) ?_
      refine y_bipush dX12_bought_83 rfl ?_
      refine b_iald (r := r) (m := 24) (j := 2) (12) dX12_bought_85 (by first | assumption) (by first | rfl | omega) (by omega) (by decide) (by decide) ?_
      refine (show X _ _ 86 _ _ _ _ _ _ from ?_)
      refine X.val (b := B 0 2) (by rw [q1 2 (by decide)]; exact hv.2.2.1) ?_
      refine y_icmp_ge 160 dX12_bought_86 (by decide) ⟨by omega, by omega⟩ ⟨by omega, by omega⟩ (fun h2 => ?_) (fun h2 => ?_)
      · omega
      refine x_aload_n dX12_bought_89 rfl ?_
      refine x_gr dX12_bought_90 fX12_17 (by first | assumption) (fun _ _ _ => rfl) (by first | assumption) ?_
      refine y_bipush dX12_bought_93 rfl ?_
      refine y_iconst dX12_bought_95 ?_
      refine x_iload dX12_bought_96 rfl ?_
      refine y_imul dX12_bought_98 ?_
      refine y_iadd dX12_bought_99 ?_
      refine b_iald (r := r) (m := 24) (j := 2) (13 + 4 * i) dX12_bought_100 (by first | assumption) (by first | rfl | omega) (by omega) (by decide) (by decide) ?_
      refine (show X _ _ 101 _ _ _ _ _ _ from ?_)
      refine X.val v0 ?_
      refine x_iload_n dX12_bought_101 rfl ?_
      refine (show X _ _ 102 _ _ _ _ _ _ from ?_)
      refine y_icmp_ne 154 dX12_bought_102 (by decide) ⟨by omega, by omega⟩ ⟨by omega, by omega⟩ (fun h3 => ?_) (fun h3 => ?_)
      · rw [if_neg (fun c => h3 c.1)] at ih
        refine y_iinc dX12_bought_154 rfl (by decide) rfl rfl ?_
        refine x_goto 77 dX12_bought_157 (by decide) ?_
        refine (show X _ _ 77 _ _ _ _ _ _ from ?_)
        exact ih E1 q1 q2
      refine x_aload_n dX12_bought_105 rfl ?_
      refine x_iload_n dX12_bought_106 rfl ?_
      refine x_aload_n dX12_bought_107 rfl ?_
      refine x_gr dX12_bought_108 fX12_17 (by first | assumption) (fun _ _ _ => rfl) (by first | assumption) ?_
      refine y_bipush dX12_bought_111 rfl ?_
      refine y_iconst dX12_bought_113 ?_
      refine x_iload dX12_bought_114 rfl ?_
      refine y_imul dX12_bought_116 ?_
      refine (show X _ _ 117 _ _ _ _ _ _ from ?_)
      refine y_iadd dX12_bought_117 ?_
      refine y_iconst dX12_bought_118 ?_
      refine y_iadd dX12_bought_119 ?_
      refine b_iald (r := r) (m := 24) (j := 2) (13 + 4 * i + 1) dX12_bought_120 (by first | assumption) (by first | rfl | omega) (by omega) (by decide) (by decide) ?_
      refine (show X _ _ 121 _ _ _ _ _ _ from ?_)
      refine X.val v1 ?_
      refine x_aload_n dX12_bought_121 rfl ?_
      refine x_gr dX12_bought_122 fX12_17 (by first | assumption) (fun _ _ _ => rfl) (by first | assumption) ?_
      refine y_bipush dX12_bought_125 rfl ?_
      refine y_iconst dX12_bought_127 ?_
      refine x_iload dX12_bought_128 rfl ?_
      refine y_imul dX12_bought_130 ?_
      refine y_iadd dX12_bought_131 ?_
      refine y_iconst dX12_bought_132 ?_
      refine (show X _ _ 133 _ _ _ _ _ _ from ?_)
      refine y_iadd dX12_bought_133 ?_
      refine b_iald (r := r) (m := 24) (j := 2) (13 + 4 * i + 2) dX12_bought_134 (by first | assumption) (by first | rfl | omega) (by omega) (by decide) (by decide) ?_
      refine (show X _ _ 135 _ _ _ _ _ _ from ?_)
      refine X.val v2 ?_
      refine x_aload_n dX12_bought_135 rfl ?_
      refine x_gr dX12_bought_136 fX12_17 (by first | assumption) (fun _ _ _ => rfl) (by first | assumption) ?_
      refine y_bipush dX12_bought_139 rfl ?_
      refine y_iconst dX12_bought_141 ?_
      refine x_iload dX12_bought_142 rfl ?_
      refine y_imul dX12_bought_144 ?_
      refine y_iadd dX12_bought_145 ?_
      refine y_iconst dX12_bought_146 ?_
      refine (show X _ _ 147 _ _ _ _ _ _ from ?_)
      refine y_iadd dX12_bought_147 ?_
      refine b_iald (r := r) (m := 24) (j := 2) (13 + 4 * i + 3) dX12_bought_148 (by first | assumption) (by first | rfl | omega) (by omega) (by decide) (by decide) ?_
      refine (show X _ _ 149 _ _ _ _ _ _ from ?_)
      refine X.val v3 ?_
      refine x_iload_n dX12_bought_149 rfl ?_
      refine (show X _ _ 150 _ _ _ _ _ _ from ?_)
      refine x_callV (As := [_, _, _, _, _]) (mc := 0) (ms := 0) (z := mX12_sold) (ci := 12) dX12_bought_150 lX12_481 oX12_sold (by decide) (by first | assumption) rfl rfl (Nat.le_of_ble_eq_true rfl) (Nat.le_of_ble_eq_true rfl) rfl (hcall) (k_I ?_)
      refine (show X _ _ 153 _ _ _ _ _ _ from ?_)
      by_cases hcd : s.1 = B 2 (4 * i + 1) ∧ can.testBit (B 2 (4 * i + 2)).toNat = true
      · rw [if_pos hcd, if_pos hcd]
        rw [if_pos ⟨h3, hcd.1.symm, hcd.2⟩] at ih
        refine x_istore_n dX12_bought_153 (by decide) rfl rfl ?_
        refine y_iinc dX12_bought_154 rfl (by decide) rfl rfl ?_
        refine x_goto 77 dX12_bought_157 (by decide) ?_
        refine (show X _ _ 77 _ _ _ _ _ _ from ?_)
        refine ih _ (fun a ha => by rw [payE_o ha, q1 a ha]) ?_
        intro p hp
        rw [← hcd.1]
        exact pay_rel q2 (by omega) (by omega) p hp
      · rw [if_neg hcd, if_neg hcd]
        rw [if_neg (fun c => hcd ⟨c.2.1.symm, c.2.2⟩)] at ih
        refine x_istore_n dX12_bought_153 (by decide) rfl rfl ?_
        refine y_iinc dX12_bought_154 rfl (by decide) rfl rfl ?_
        refine x_goto 77 dX12_bought_157 (by decide) ?_
        refine (show X _ _ 77 _ _ _ _ _ _ from ?_)
        exact ih E1 q1 q2
  · intro E1 q1 q2
    have hb := hAb i hi
    have v0 : V (f + 12) i = A 12 i := hFb 0 (by decide) i hi
    have v1 : V (f + 13) i = A 13 i := hFb 1 (by decide) i hi
    have v2 : V (f + 14) i = A 14 i := hFb 2 (by decide) i hi
    have v3 : V (f + 15) i = A 15 i := hFb 3 (by decide) i hi
    have hsb := s1b i (by omega)
    have hcall := hso E1 (q1 7 (by decide)) (lp i (sdT A y can) (who, U)).1 (A 13 i).toNat (A 14 i).toNat (A 15 i) ⟨by omega, by omega⟩ (by omega) (by omega)
    have ih := ih
    rw [lp_s] at ih
    generalize lp i (sdT A y can) (who, U) = s at *
    unfold sdT at ih
    rw [Int.toNat_of_nonneg hb.2.1.1, Int.toNat_of_nonneg hb.2.2.1.1] at hcall
    refine x_iload dX12_bought_5 rfl ?_
    refine x_aload_n dX12_bought_7 rfl ?_
    refine x_gr dX12_bought_8 fX12_409 (by first | assumption) (fun _ _ _ => rfl) (by first | assumption) ?_
    refine b_gio (r := r) (m := 24) dX12_bought_11 fX12_359 (by first | assumption) (fun _ _ _ => rfl) (by omega) ?_
    refine (show X _ _ 14 _ _ _ _ _ _ from ?_)
    refine X.val e5 ?_
    refine y_icmp_ge 74 dX12_bought_14 (by decide) ⟨by omega, by omega⟩ ⟨by omega, by omega⟩ (fun h2 => ?_) (fun h2 => ?_)
    · omega
    refine x_aload_n dX12_bought_17 rfl ?_
    refine x_gr dX12_bought_18 fX12_409 (by first | assumption) (fun _ _ _ => rfl) (by first | assumption) ?_
    refine x_gr dX12_bought_21 fX12_363 (by first | assumption) (fun _ _ _ => rfl) (by first | assumption) ?_
    refine x_iload dX12_bought_24 rfl ?_
    refine b_ialo (r := r) (m := 24) (i) dX12_bought_26 (by first | assumption) (by first | rfl | omega) (by omega) (by decide) (by omega) ?_
    refine (show X _ _ 27 _ _ _ _ _ _ from ?_)
    refine X.val v0 ?_
    refine x_iload_n dX12_bought_27 rfl ?_
    refine (show X _ _ 28 _ _ _ _ _ _ from ?_)
    refine y_icmp_ne 68 dX12_bought_28 (by decide) ⟨by omega, by omega⟩ ⟨by omega, by omega⟩ (fun h3 => ?_) (fun h3 => ?_)
    · rw [if_neg (fun c => h3 c.1)] at ih
      refine y_iinc dX12_bought_68 rfl (by decide) rfl rfl ?_
      refine x_goto 5 dX12_bought_71 (by decide) ?_
      refine (show X _ _ 5 _ _ _ _ _ _ from ?_)
      exact ih E1 q1 q2
    refine x_aload_n dX12_bought_31 rfl ?_
    refine x_iload_n dX12_bought_32 rfl ?_
    refine x_aload_n dX12_bought_33 rfl ?_
    refine x_gr dX12_bought_34 fX12_409 (by first | assumption) (fun _ _ _ => rfl) (by first | assumption) ?_
    refine x_gr dX12_bought_37 fX12_366 (by first | assumption) (fun _ _ _ => rfl) (by first | assumption) ?_
    refine x_iload dX12_bought_40 rfl ?_
    refine b_ialo (r := r) (m := 24) (i) dX12_bought_42 (by first | assumption) (by first | rfl | omega) (by omega) (by decide) (by omega) ?_
    refine (show X _ _ 43 _ _ _ _ _ _ from ?_)
    refine X.val v1 ?_
    refine x_aload_n dX12_bought_43 rfl ?_
    refine x_gr dX12_bought_44 fX12_409 (by first | assumption) (fun _ _ _ => rfl) (by first | assumption) ?_
    refine x_gr dX12_bought_47 fX12_369 (by first | assumption) (fun _ _ _ => rfl) (by first | assumption) ?_
    refine x_iload dX12_bought_50 rfl ?_
    refine b_ialo (r := r) (m := 24) (i) dX12_bought_52 (by first | assumption) (by first | rfl | omega) (by omega) (by decide) (by omega) ?_
    refine (show X _ _ 53 _ _ _ _ _ _ from ?_)
    refine X.val v2 ?_
    refine x_aload_n dX12_bought_53 rfl ?_
    refine x_gr dX12_bought_54 fX12_409 (by first | assumption) (fun _ _ _ => rfl) (by first | assumption) ?_
    refine x_gr dX12_bought_57 fX12_372 (by first | assumption) (fun _ _ _ => rfl) (by first | assumption) ?_
    refine x_iload dX12_bought_60 rfl ?_
    refine b_ialo (r := r) (m := 24) (i) dX12_bought_62 (by first | assumption) (by first | rfl | omega) (by omega) (by decide) (by omega) ?_
    refine (show X _ _ 63 _ _ _ _ _ _ from ?_)
    refine X.val v3 ?_
    refine x_iload_n dX12_bought_63 rfl ?_
    refine (show X _ _ 64 _ _ _ _ _ _ from ?_)
    refine x_callV (As := [_, _, _, _, _]) (mc := 0) (ms := 0) (z := mX12_sold) (ci := 12) dX12_bought_64 lX12_481 oX12_sold (by decide) (by first | assumption) rfl rfl (Nat.le_of_ble_eq_true rfl) (Nat.le_of_ble_eq_true rfl) rfl (hcall) (k_I ?_)
    refine (show X _ _ 67 _ _ _ _ _ _ from ?_)
    by_cases hcd : s.1 = A 13 i ∧ can.testBit (A 14 i).toNat = true
    · rw [if_pos hcd, if_pos hcd]
      rw [if_pos ⟨h3, hcd.1.symm, hcd.2⟩] at ih
      refine x_istore_n dX12_bought_67 (by decide) rfl rfl ?_
      refine y_iinc dX12_bought_68 rfl (by decide) rfl rfl ?_
      refine x_goto 5 dX12_bought_71 (by decide) ?_
      refine (show X _ _ 5 _ _ _ _ _ _ from ?_)
      refine ih _ (fun a ha => by rw [payE_o ha, q1 a ha]) ?_
      intro p hp
      rw [← hcd.1]
      exact pay_rel q2 (by omega) (by omega) p hp
    · rw [if_neg hcd, if_neg hcd]
      rw [if_neg (fun c => hcd ⟨c.2.1.symm, c.2.2⟩)] at ih
      refine x_istore_n dX12_bought_67 (by decide) rfl rfl ?_
      refine y_iinc dX12_bought_68 rfl (by decide) rfl rfl ?_
      refine x_goto 5 dX12_bought_71 (by decide) ?_
      refine (show X _ _ 5 _ _ _ _ _ _ from ?_)
      exact ih E1 q1 q2
end C89
