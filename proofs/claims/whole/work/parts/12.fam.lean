/-! ===== the family as a table of whole numbers; who is there; what harms ===== -/
section Fam
variable (A : Nat → Nat → Int)
abbrev fY : Nat := (A 0 0).toNat
abbrev fP : Nat := (A 0 3).toNat
abbrev fPl : Nat := (A 0 4).toNat
abbrev fBu : Nat := (A 0 5).toNat
abbrev fSe : Nat := (A 0 6).toNat
abbrev fDi : Nat := (A 0 8).toNat
/-- the bounds that a text keeps -/
def VA : Prop := (0 ≤ A 0 0 ∧ A 0 0 ≤ 24) ∧ (0 ≤ A 0 1 ∧ A 0 1 ≤ 4) ∧ (0 ≤ A 0 2 ∧ A 0 2 ≤ 99) ∧ (0 ≤ A 0 3 ∧ A 0 3 ≤ 10) ∧ (0 ≤ A 0 4 ∧ A 0 4 ≤ 12) ∧ (0 ≤ A 0 5 ∧ A 0 5 ≤ 8) ∧ (0 ≤ A 0 6 ∧ A 0 6 ≤ 8) ∧ (0 ≤ A 0 7 ∧ A 0 7 ≤ 8) ∧ (0 ≤ A 0 8 ∧ A 0 8 ≤ 8) ∧
  (∀ p, p < fP A → (0 ≤ A 1 p ∧ A 1 p ≤ 4) ∧ (0 ≤ A 2 p ∧ A 2 p ≤ 1) ∧ (-90 ≤ A 3 p ∧ A 3 p < A 0 0) ∧ (1 ≤ A 4 p ∧ A 4 p ≤ 9) ∧ (0 ≤ A 5 p ∧ A 5 p ≤ 9) ∧ (0 ≤ A 6 p ∧ A 6 p ≤ 100) ∧ (-2 ≤ A 7 p ∧ A 7 p < A 0 0)) ∧
  (∀ i, i < fPl A → (0 ≤ A 8 i ∧ A 8 i < A 0 3) ∧ (0 ≤ A 9 i ∧ A 9 i < A 0 0) ∧ (0 ≤ A 10 i ∧ A 10 i < A 0 0) ∧ (1 ≤ A 11 i ∧ A 11 i ≤ 99)) ∧
  (∀ i, i < fBu A → (0 ≤ A 12 i ∧ A 12 i < A 0 0) ∧ (0 ≤ A 13 i ∧ A 13 i < A 0 3) ∧ (0 ≤ A 14 i ∧ A 14 i < A 0 3) ∧ (0 ≤ A 15 i ∧ A 15 i ≤ 99)) ∧
  (∀ s, s < fSe A → (0 ≤ A 16 s ∧ A 16 s < A 0 3)) ∧ (∀ j, j < 80 → (0 ≤ A 17 j ∧ A 17 j < 1024)) ∧
  (∀ i, i < fDi A → (0 ≤ A 18 i ∧ A 18 i < A 0 0) ∧ (0 ≤ A 19 i ∧ A 19 i < A 0 3) ∧ (0 ≤ A 20 i ∧ A 20 i ≤ 1))
/-- what of Now a family allows -/
def VB (B : Nat → Nat → Int) : Prop := (0 ≤ B 0 0 ∧ B 0 0 ≤ 4) ∧ (0 ≤ B 0 1 ∧ B 0 1 ≤ 65536) ∧ (0 ≤ B 0 2 ∧ B 0 2 ≤ 8) ∧ (∀ p, p < fP A → -2 ≤ B 1 p ∧ B 1 p < A 0 0) ∧
  (∀ i, i < (B 0 2).toNat → (0 ≤ B 2 (4 * i) ∧ B 2 (4 * i) < A 0 0) ∧ (0 ≤ B 2 (4 * i + 1) ∧ B 2 (4 * i + 1) < A 0 3) ∧ (0 ≤ B 2 (4 * i + 2) ∧ B 2 (4 * i + 2) < A 0 3) ∧ (0 ≤ B 2 (4 * i + 3) ∧ B 2 (4 * i + 3) ≤ 99))
def thB (B : Nat → Nat → Int) (y p : Nat) : Bool := decide (A 3 p ≤ y) && (decide (B 1 p = -2) || decide ((y : Int) < B 1 p))
def cnB (B : Nat → Nat → Int) (y p : Nat) : Bool := thB A B y p && (decide (A 1 p ≠ 1) || decide ((y : Int) - A 3 p < 30))
/-- who is there in a year, but for deaths in a turn; who can be it -/
def thS (B : Nat → Nat → Int) (y : Nat) : Nat := sOf (fP A) (thB A B y)
def cnS (B : Nat → Nat → Int) (y : Nat) : Nat := sOf (fP A) (cnB A B y)
def hmS (y p : Nat) : Int := lp (fPl A) (fun i s => if A 8 i = p ∧ A 9 i ≤ y ∧ (y : Int) ≤ A 10 i then s + A 11 i else s) 0
def brS (b : Int) : Nat := sOf (fP A) (fun p => decide (A 2 p = b))
def wOf (set : Nat) : Int := lp (fP A) (fun p s => if set.testBit p then s + A 5 p else s) 0
end Fam
/-- the class's family at f: its shape -/
def FS (T : Nat → Nat × Nat) (R : Nat → Nat → Option Nat) (f : Nat) : Prop := T f = (12, 0) ∧ (R f 9 = some (f + 1) ∧ R f 10 = some (f + 12) ∧ R f 11 = some (f + 25) ∧ R f 12 = some (f + 34) ∧ R f 13 = some (f + 43) ∧ R f 14 = some (f + 44)) ∧ (T (f + 1) = (5, 10) ∧ T (f + 12) = (5, 12) ∧ T (f + 25) = (5, 8) ∧ T (f + 34) = (5, 8) ∧ T (f + 43) = (1, 8) ∧ T (f + 44) = (1, 80)) ∧
  (∀ p, p < 10 → R (f + 1) p = some (f + 2 + p) ∧ T (f + 2 + p) = (1, 7)) ∧ (∀ i, i < 12 → R (f + 12) i = some (f + 13 + i) ∧ T (f + 13 + i) = (1, 4)) ∧ (∀ i, i < 8 → R (f + 25) i = some (f + 26 + i) ∧ T (f + 26 + i) = (1, 4)) ∧ (∀ i, i < 8 → R (f + 34) i = some (f + 35 + i) ∧ T (f + 35 + i) = (1, 3))
/-- .. and what it holds -/
def FC (V : Nat → Nat → Int) (f : Nat) (A : Nat → Nat → Int) : Prop := (∀ j, j < 9 → V f j = A 0 j) ∧ (∀ p, p < fP A → ∀ j, j < 7 → V (f + 2 + p) j = A (1 + j) p) ∧ (∀ i, i < fPl A → ∀ j, j < 4 → V (f + 13 + i) j = A (8 + j) i) ∧ (∀ i, i < fBu A → ∀ j, j < 4 → V (f + 26 + i) j = A (12 + j) i) ∧ (∀ i, i < fDi A → ∀ j, j < 3 → V (f + 35 + i) j = A (18 + j) i) ∧ (∀ s, s < fSe A → V (f + 43) s = A 16 s) ∧ (∀ j, j < 80 → V (f + 44) j = A 17 j)
theorem bI_i0 (b : Bool) (h : b = false) : bI b = 0 := by rw [h]; rfl
section C1
variable {g : GG} {T : Nat → Nat × Nat} {V : Nat → Nat → Int} {R : Nat → Nat → Option Nat} {J : Nat → Nat → Int64} {z k n : Nat} {A : Nat → Nat → Int}
theorem c_has (g : GG) (b p : Nat) (M : Mem) (k n : Nat) (hb : b < 2 ^ 31) (hp : p < 31) : X g mX10_has 0 [.int (iI b), .int (iI p)] [] M k n (rI (iI (bI (b.testBit p))) M) := by
  refine x_iload_n dX10_has_0 rfl ?_
  refine x_iload_n dX10_has_1 rfl ?_
  refine y_bit _ dX10_has_2 dX10_has_3 dX10_has_4 rfl (by omega) (by omega) ?_
  refine (show X _ _ 5 _ _ _ _ _ _ from ?_)
  refine y_ifb_eq 12 dX10_has_5 (by decide) (fun h => ?_) (fun h => ?_)
  · refine y_iconst dX10_has_12 ?_
    refine (show X _ _ 13 _ _ _ _ _ _ from ?_)
    rw [h]
    exact x_zreturn dX10_has_13 rfl (by first | rfl | exact bI_nar _) ⟨rfl, rfl⟩
  · refine y_iconst dX10_has_8 ?_
    refine x_goto 13 dX10_has_9 (by decide) ?_
    refine (show X _ _ 13 _ _ _ _ _ _ from ?_)
    rw [h]
    exact x_zreturn dX10_has_13 rfl (by first | rfl | exact bI_nar _) ⟨rfl, rfl⟩
theorem c_weightOf {f set : Nat} (hf : FS T R f) (hF : FC V f A) (hA : VA A) (hset : set < 2 ^ 31) : X g mX2_weightOf 0 [.ref f, .int (iI set), jk, jk] [] (T, iV V, R, J, z) k n (rI (iI (wOf A set)) (T, iV V, R, J, z)) := by
  obtain ⟨f0, ⟨f9, -⟩, ⟨t1, -⟩, hPR, -⟩ := hf
  obtain ⟨hV0, hVp, -⟩ := hF
  have hA3 := hA.2.2.2.1
  have eP : ((fP A : Nat) : Int) = A 0 3 := Int.toNat_of_nonneg hA3.1
  have hAp := hA.2.2.2.2.2.2.2.2.2.1
  have hb : ∀ p, p ≤ fP A → (0 ≤ lp p (fun p s => if set.testBit p then s + A 5 p else s) 0 ∧ lp p (fun p s => if set.testBit p then s + A 5 p else s) 0 ≤ 9 * (p : Int)) := by
    intro p
    induction p with
    | zero => exact fun _ => ⟨Int.le_refl _, Int.le_refl _⟩
    | succ p ih =>
      intro hp
      have h1 := ih (by omega)
      have h2 := (hAp p (by omega)).2.2.2.2.1
      rw [lp_s]
      split <;> constructor <;> omega
  refine y_iconst dX2_weightOf_0 ?_
  refine x_istore_n dX2_weightOf_1 (by decide) rfl rfl ?_
  refine y_iconst dX2_weightOf_2 ?_
  refine x_istore_n dX2_weightOf_3 (by decide) rfl rfl ?_
  refine (show X _ _ 4 _ _ _ _ _ _ from ?_)
  refine loopN (P := fun p => X g mX2_weightOf 4 [.ref f, .int (iI set), .int (iI (lp p (fun p s => if set.testBit p then s + A 5 p else s) 0)), .int (iI (p : Int))] [] (T, iV V, R, J, z) k n (rI (iI (wOf A set)) (T, iV V, R, J, z))) (fP A) ?_ (fun p hp ih => ?_)
  · refine x_iload_n dX2_weightOf_4 rfl ?_
    refine x_aload_n dX2_weightOf_5 rfl ?_
    refine y_gi dX2_weightOf_6 fX2_21 (by first | assumption | exact (hPR _ (by omega)).2) (fun _ _ _ => rfl) ?_
    refine (show X _ _ 9 _ _ _ _ _ _ from ?_)
    refine X.val (hV0 3 (by omega)) ?_
    refine y_icmp_ge 37 dX2_weightOf_9 (by decide) ⟨by omega, by omega⟩ ⟨by omega, by omega⟩ (fun h => ?_) (fun h => ?_)
    · refine x_iload_n dX2_weightOf_37 rfl ?_
      refine (show X _ _ 38 _ _ _ _ _ _ from ?_)
      exact x_ireturn dX2_weightOf_38 rfl ⟨rfl, rfl⟩
    · omega
  · refine x_iload_n dX2_weightOf_4 rfl ?_
    refine x_aload_n dX2_weightOf_5 rfl ?_
    refine y_gi dX2_weightOf_6 fX2_21 (by first | assumption | exact (hPR _ (by omega)).2) (fun _ _ _ => rfl) ?_
    refine (show X _ _ 9 _ _ _ _ _ _ from ?_)
    refine X.val (hV0 3 (by omega)) ?_
    refine y_icmp_ge 37 dX2_weightOf_9 (by decide) ⟨by omega, by omega⟩ ⟨by omega, by omega⟩ (fun h => ?_) (fun h => ?_)
    · omega
    · refine x_iload_n dX2_weightOf_12 rfl ?_
      refine x_iload_n dX2_weightOf_13 rfl ?_
      refine y_bit (p) dX2_weightOf_14 dX2_weightOf_15 dX2_weightOf_16 (by first | rfl | omega) (by omega) (by omega) ?_
      refine (show X _ _ 17 _ _ _ _ _ _ from ?_)
      refine y_ifb_eq 31 dX2_weightOf_17 (by decide) (fun hb1 => ?_) (fun hb1 => ?_)
      · refine y_iinc dX2_weightOf_31 rfl (by decide) rfl rfl ?_
        refine x_goto 4 dX2_weightOf_34 (by decide) ?_
        refine (show X _ _ 4 _ _ _ _ _ _ from ?_)
        rw [lp_s, hb1] at ih
        exact ih
      · refine x_iload_n dX2_weightOf_20 rfl ?_
        refine x_aload_n dX2_weightOf_21 rfl ?_
        refine x_gr dX2_weightOf_22 fX2_41 (by first | assumption | exact (hPR _ (by omega)).2) (fun _ _ _ => rfl) (by first | assumption | exact (hPR _ (by omega)).2) ?_
        refine x_iload_n dX2_weightOf_25 rfl ?_
        refine y_aald (p) dX2_weightOf_26 (by first | assumption | exact (hPR _ (by omega)).2) (by decide) (by first | rfl | omega) (by omega) (by decide) (by first | assumption | exact (hPR _ (by omega)).1) ?_
        refine y_iconst dX2_weightOf_27 ?_
        refine y_iald (4) dX2_weightOf_28 (by first | assumption | exact (hPR _ (by omega)).2) (by first | rfl | omega) (by omega) (by decide) ?_
        refine (show X _ _ 29 _ _ _ _ _ _ from ?_)
        refine X.val (hVp p hp 4 (by omega)) ?_
        refine y_iadd dX2_weightOf_29 ?_
        refine x_istore_n dX2_weightOf_30 (by decide) rfl rfl ?_
        refine y_iinc dX2_weightOf_31 rfl (by decide) rfl rfl ?_
        refine x_goto 4 dX2_weightOf_34 (by decide) ?_
        refine (show X _ _ 4 _ _ _ _ _ _ from ?_)
        rw [lp_s, hb1] at ih
        exact ih
end C1
