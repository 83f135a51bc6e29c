/-! ===== what the annals tell ===== -/
/-- the first from p on, m places, of which c holds; the last below m -/
def fiC (c : Nat → Bool) : Nat → Nat → Int
  | 0, _ => -2
  | m + 1, p => if c p then (p : Int) else fiC c m (p + 1)
def laC (c : Nat → Bool) : Nat → Int
  | 0 => -2
  | m + 1 => if c m then (m : Int) else laC c m
theorem laC_b (c : Nat → Bool) : ∀ m, laC c m = -2 ∨ (0 ≤ laC c m ∧ laC c m < (m : Int))
  | 0 => Or.inl rfl
  | m + 1 => by
    rw [laC]
    split
    · exact Or.inr ⟨by omega, by omega⟩
    · rcases laC_b c m with h | h
      · exact Or.inl h
      · exact Or.inr ⟨h.1, by omega⟩
/-- the a-th, from y on, of which c holds: e of it -/
def dnC (c : Nat → Bool) (e : Nat → Int) : Nat → Nat → Int → Int
  | 0, _, _ => -2
  | m + 1, y, a => if a < 0 then -2 else if c y then (if a = 0 then e y else dnC c e m (y + 1) (a - 1)) else dnC c e m (y + 1) a
section An3
variable (A E : Nat → Nat → Int)
def tBeh (p : Int) (m : Nat) : Int := lp m (fun i s => if E 12 i = p then s + 1 else s) 0
def hTo (p : Int) : Int := lp (fY A) (fun i s => if E 12 i = p then s + E 4 i else s) 0
def isE (p : Int) : Nat → Bool := fun y => decide (E 12 y = p)
def fTurn (p : Int) : Int := fiC (isE E p) (fY A) 0
def lTurn (p : Int) : Int := laC (isE E p) (fY A)
def fKnow (s p : Nat) : Int := fiC (fun y => (E 6 (10 * y + p)).toNat.testBit s) (fY A) 0
def knowers (s : Nat) : Int := lp (fP A) (fun p c => if (E 14 p).toNat.testBit s then c + 1 else c) 0
def dTurn (i : Int) : Int := dnC (fun y => decide (0 ≤ E 12 y) && (E 8 5).toNat.testBit (E 12 y).toNat && decide (lTurn A E (E 12 y) = y)) (E 12) (fY A) 0 i
end An3
section C14
variable {g : GG} {T : Nat → Nat × Nat} {V E : Nat → Nat → Int} {R : Nat → Nat → Option Nat} {J : Nat → Nat → Int64} {z k n : Nat} {A B : Nat → Nat → Int} {aa w f nw al : Nat}
theorem c_turnsBehind {y : Nat} {p : Int} (hu : US T R aa w) (hy : y < 24) (hp : R32 p) (hE : ∀ i, i ≤ y → R32 (E 12 i)) : X g mX1_turnsBehind 0 [.ref aa, .int (iI p), .int (iI (y : Int)), jk, jk] [] (T, iV (pB V aa 16 E), R, J, z) k n (rI (iI (tBeh E p (y + 1))) (T, iV (pB V aa 16 E), R, J, z)) := by
  obtain ⟨⟨u0, u1', u2', u3⟩, ⟨v3, v4, v5, v6, v7, v8, v9⟩, ⟨t1, t2, t3, t4, t5, t6, t7⟩, ⟨⟨r0, r1⟩, ⟨r2, r3, r4, r5⟩, ⟨s1, s2, s3, s4⟩⟩, -⟩ := hu
  have hp1 := hp.1
  have hp2 := hp.2
  refine y_iconst dX1_turnsBehind_0 ?_
  refine x_istore_n dX1_turnsBehind_1 (by decide) rfl rfl ?_
  refine y_iconst dX1_turnsBehind_2 ?_
  refine x_istore dX1_turnsBehind_3 (by decide) rfl rfl ?_
  refine (show X _ _ 5 _ _ _ _ _ _ from ?_)
  refine loopN (P := fun i => X g mX1_turnsBehind 5 [.ref aa, .int (iI p), .int (iI (y : Int)), .int (iI (tBeh E p i)), .int (iI (i : Int))] [] (T, iV (pB V aa 16 E), R, J, z) k n (rI (iI (tBeh E p (y + 1))) (T, iV (pB V aa 16 E), R, J, z))) (y + 1) ?_ (fun i hi ih => ?_)
  · refine x_iload dX1_turnsBehind_5 rfl ?_
    refine x_iload_n dX1_turnsBehind_7 rfl ?_
    refine (show X _ _ 8 _ _ _ _ _ _ from ?_)
    refine y_icmp_gt 34 dX1_turnsBehind_8 (by decide) ⟨by omega, by omega⟩ ⟨by omega, by omega⟩ (fun h => ?_) (fun h => ?_)
    · refine x_iload_n dX1_turnsBehind_34 rfl ?_
      refine (show X _ _ 35 _ _ _ _ _ _ from ?_)
      exact x_ireturn dX1_turnsBehind_35 rfl ⟨rfl, rfl⟩
    · omega
  have e : tBeh E p (i + 1) = if E 12 i = p then tBeh E p i + 1 else tBeh E p i := rfl
  rw [e] at ih
  have hEi := hE i (by omega)
  have g1 := hEi.1
  have g2 := hEi.2
  refine x_iload dX1_turnsBehind_5 rfl ?_
  refine x_iload_n dX1_turnsBehind_7 rfl ?_
  refine (show X _ _ 8 _ _ _ _ _ _ from ?_)
  refine y_icmp_gt 34 dX1_turnsBehind_8 (by decide) ⟨by omega, by omega⟩ ⟨by omega, by omega⟩ (fun h => ?_) (fun h => ?_)
  · omega
  refine x_aload_n dX1_turnsBehind_11 rfl ?_
  refine x_gr dX1_turnsBehind_12 fX1_42 (by first | assumption) (fun _ _ _ => rfl) (by first | assumption) ?_
  refine x_gr dX1_turnsBehind_15 fX1_100 (by first | assumption) (fun _ _ _ => rfl) (by first | assumption) ?_
  refine x_iload dX1_turnsBehind_18 rfl ?_
  refine b_iald (r := aa) (m := 16) (j := 12) (i) dX1_turnsBehind_20 (by first | assumption) (by first | rfl | omega) (by omega) (by decide) (by decide) ?_
  refine x_iload_n dX1_turnsBehind_21 rfl ?_
  refine (show X _ _ 22 _ _ _ _ _ _ from ?_)
  refine y_icmp_ne 28 dX1_turnsBehind_22 (by decide) ⟨by omega, by omega⟩ ⟨by omega, by omega⟩ (fun h1 => ?_) (fun h1 => ?_)
  · rw [if_neg h1] at ih
    refine y_iinc dX1_turnsBehind_28 rfl (by decide) rfl rfl ?_
    refine x_goto 5 dX1_turnsBehind_31 (by decide) ?_
    refine (show X _ _ 5 _ _ _ _ _ _ from ?_)
    exact ih
  · rw [if_pos h1] at ih
    refine y_iinc dX1_turnsBehind_25 rfl (by decide) rfl rfl ?_
    refine y_iinc dX1_turnsBehind_28 rfl (by decide) rfl rfl ?_
    refine x_goto 5 dX1_turnsBehind_31 (by decide) ?_
    refine (show X _ _ 5 _ _ _ _ _ _ from ?_)
    exact ih
theorem c_harmTo {p : Int} (hu : US T R aa w) (hw0 : T w = (19, 0)) (hw1 : R w 0 = some f) (hf : FS T R f) (hF : FC V f A) (hA : VA A) (hap : (w < aa ∨ aa + 16 ≤ w) ∧ (f + 45 ≤ aa ∨ aa + 16 ≤ f)) (hp : R32 p) (hE : ∀ i, i < fY A → R32 (E 12 i)) : X g mX1_harmTo 0 [.ref aa, .int (iI p), jk, jk] [] (T, iV (pB V aa 16 E), R, J, z) k n (rI (iI (hTo A E p)) (T, iV (pB V aa 16 E), R, J, z)) := by
  obtain ⟨⟨u0, u1', u2', u3⟩, ⟨v3, v4, v5, v6, v7, v8, v9⟩, ⟨t1, t2, t3, t4, t5, t6, t7⟩, ⟨⟨r0, r1⟩, ⟨r2, r3, r4, r5⟩, ⟨s1, s2, s3, s4⟩⟩, -⟩ := hu
  obtain ⟨f0, -⟩ := hf
  obtain ⟨hV0, -⟩ := hF
  obtain ⟨p1, p2⟩ := hap
  have eY := fY24 hA
  have hp1 := hp.1
  have hp2 := hp.2
  refine y_iconst dX1_harmTo_0 ?_
  refine x_istore_n dX1_harmTo_1 (by decide) rfl rfl ?_
  refine y_iconst dX1_harmTo_2 ?_
  refine x_istore_n dX1_harmTo_3 (by decide) rfl rfl ?_
  refine (show X _ _ 4 _ _ _ _ _ _ from ?_)
  refine loopN (P := fun i => X g mX1_harmTo 4 [.ref aa, .int (iI p), .int (iI (lp i (fun i s => if E 12 i = p then s + E 4 i else s) 0)), .int (iI (i : Int))] [] (T, iV (pB V aa 16 E), R, J, z) k n (rI (iI (hTo A E p)) (T, iV (pB V aa 16 E), R, J, z))) (fY A) ?_ (fun i hi ih => ?_)
  · refine x_iload_n dX1_harmTo_4 rfl ?_
    refine x_aload_n dX1_harmTo_5 rfl ?_
    refine x_gr dX1_harmTo_6 fX1_33 (by first | assumption) (fun _ _ _ => rfl) (by first | assumption) ?_
    refine x_gr dX1_harmTo_9 fX1_74 (by first | assumption) (fun _ _ _ => rfl) (by first | assumption) ?_
    refine b_gio (r := aa) (m := 16) dX1_harmTo_12 fX1_78 (by first | assumption) (fun _ _ _ => rfl) (by omega) ?_
    refine (show X _ _ 15 _ _ _ _ _ _ from ?_)
    refine X.val (b := A 0 0) (hV0 0 (by omega)) ?_
    refine y_icmp_ge 46 dX1_harmTo_15 (by decide) ⟨by omega, by omega⟩ ⟨by omega, by omega⟩ (fun h => ?_) (fun h => ?_)
    · refine x_iload_n dX1_harmTo_46 rfl ?_
      refine (show X _ _ 47 _ _ _ _ _ _ from ?_)
      exact x_ireturn dX1_harmTo_47 rfl ⟨rfl, rfl⟩
    · omega
  rw [lp_s] at ih
  have hEi := hE i hi
  have g1 := hEi.1
  have g2 := hEi.2
  refine x_iload_n dX1_harmTo_4 rfl ?_
  refine x_aload_n dX1_harmTo_5 rfl ?_
  refine x_gr dX1_harmTo_6 fX1_33 (by first | assumption) (fun _ _ _ => rfl) (by first | assumption) ?_
  refine x_gr dX1_harmTo_9 fX1_74 (by first | assumption) (fun _ _ _ => rfl) (by first | assumption) ?_
  refine b_gio (r := aa) (m := 16) dX1_harmTo_12 fX1_78 (by first | assumption) (fun _ _ _ => rfl) (by omega) ?_
  refine (show X _ _ 15 _ _ _ _ _ _ from ?_)
  refine X.val (b := A 0 0) (hV0 0 (by omega)) ?_
  refine y_icmp_ge 46 dX1_harmTo_15 (by decide) ⟨by omega, by omega⟩ ⟨by omega, by omega⟩ (fun h => ?_) (fun h => ?_)
  · omega
  refine x_aload_n dX1_harmTo_18 rfl ?_
  refine x_gr dX1_harmTo_19 fX1_42 (by first | assumption) (fun _ _ _ => rfl) (by first | assumption) ?_
  refine x_gr dX1_harmTo_22 fX1_100 (by first | assumption) (fun _ _ _ => rfl) (by first | assumption) ?_
  refine x_iload_n dX1_harmTo_25 rfl ?_
  refine b_iald (r := aa) (m := 16) (j := 12) (i) dX1_harmTo_26 (by first | assumption) (by first | rfl | omega) (by omega) (by decide) (by decide) ?_
  refine x_iload_n dX1_harmTo_27 rfl ?_
  refine (show X _ _ 28 _ _ _ _ _ _ from ?_)
  refine y_icmp_ne 40 dX1_harmTo_28 (by decide) ⟨by omega, by omega⟩ ⟨by omega, by omega⟩ (fun h1 => ?_) (fun h1 => ?_)
  · rw [if_neg h1] at ih
    refine y_iinc dX1_harmTo_40 rfl (by decide) rfl rfl ?_
    refine x_goto 4 dX1_harmTo_43 (by decide) ?_
    refine (show X _ _ 4 _ _ _ _ _ _ from ?_)
    exact ih
  · rw [if_pos h1] at ih
    refine x_iload_n dX1_harmTo_31 rfl ?_
    refine x_aload_n dX1_harmTo_32 rfl ?_
    refine x_gr dX1_harmTo_33 fX1_21 (by first | assumption) (fun _ _ _ => rfl) (by first | assumption) ?_
    refine x_iload_n dX1_harmTo_36 rfl ?_
    refine b_iald (r := aa) (m := 16) (j := 4) (i) dX1_harmTo_37 (by first | assumption) (by first | rfl | omega) (by omega) (by decide) (by decide) ?_
    refine y_iadd dX1_harmTo_38 ?_
    refine x_istore_n dX1_harmTo_39 (by decide) rfl rfl ?_
    refine y_iinc dX1_harmTo_40 rfl (by decide) rfl rfl ?_
    refine (show X _ _ 43 _ _ _ _ _ _ from ?_)
    refine x_goto 4 dX1_harmTo_43 (by decide) ?_
    refine (show X _ _ 4 _ _ _ _ _ _ from ?_)
    exact ih
theorem c_firstTurn {p : Int} (hu : US T R aa w) (hw0 : T w = (19, 0)) (hw1 : R w 0 = some f) (hf : FS T R f) (hF : FC V f A) (hA : VA A) (hap : (w < aa ∨ aa + 16 ≤ w) ∧ (f + 45 ≤ aa ∨ aa + 16 ≤ f)) (hp : R32 p) (hE : ∀ i, i < fY A → R32 (E 12 i)) : X g mX1_firstTurn 0 [.ref aa, .int (iI p), jk] [] (T, iV (pB V aa 16 E), R, J, z) k n (rI (iI (fTurn A E p)) (T, iV (pB V aa 16 E), R, J, z)) := by
  obtain ⟨⟨u0, u1', u2', u3⟩, -, -, ⟨⟨r0, r1⟩, ⟨r2, r3, r4, r5⟩, ⟨s1, s2, s3, s4⟩⟩, -⟩ := hu
  obtain ⟨f0, -⟩ := hf
  obtain ⟨hV0, -⟩ := hF
  obtain ⟨p1, p2⟩ := hap
  have eY := fY24 hA
  have hp1 := hp.1
  have hp2 := hp.2
  have key : ∀ (m i : Nat), m + i = fY A → X g mX1_firstTurn 2 [.ref aa, .int (iI p), .int (iI (i : Int))] [] (T, iV (pB V aa 16 E), R, J, z) k n (rI (iI (fiC (isE E p) m i)) (T, iV (pB V aa 16 E), R, J, z)) := by
    intro m
    induction m with
    | zero =>
      intro i hi
      refine x_iload_n dX1_firstTurn_2 rfl ?_
      refine x_aload_n dX1_firstTurn_3 rfl ?_
      refine x_gr dX1_firstTurn_4 fX1_33 (by first | assumption) (fun _ _ _ => rfl) (by first | assumption) ?_
      refine x_gr dX1_firstTurn_7 fX1_74 (by first | assumption) (fun _ _ _ => rfl) (by first | assumption) ?_
      refine b_gio (r := aa) (m := 16) dX1_firstTurn_10 fX1_78 (by first | assumption) (fun _ _ _ => rfl) (by omega) ?_
      refine (show X _ _ 13 _ _ _ _ _ _ from ?_)
      refine X.val (b := A 0 0) (hV0 0 (by omega)) ?_
      refine y_icmp_ge 37 dX1_firstTurn_13 (by decide) ⟨by omega, by omega⟩ ⟨by omega, by omega⟩ (fun h => ?_) (fun h => ?_)
      · refine y_bipush dX1_firstTurn_37 rfl ?_
        refine (show X _ _ 39 _ _ _ _ _ _ from ?_)
        exact x_ireturn dX1_firstTurn_39 rfl ⟨rfl, rfl⟩
      · omega
    | succ m ih =>
      intro i hi
      have hEi := hE i (by omega)
      have g1 := hEi.1
      have g2 := hEi.2
      rw [fiC, isE]
      refine x_iload_n dX1_firstTurn_2 rfl ?_
      refine x_aload_n dX1_firstTurn_3 rfl ?_
      refine x_gr dX1_firstTurn_4 fX1_33 (by first | assumption) (fun _ _ _ => rfl) (by first | assumption) ?_
      refine x_gr dX1_firstTurn_7 fX1_74 (by first | assumption) (fun _ _ _ => rfl) (by first | assumption) ?_
      refine b_gio (r := aa) (m := 16) dX1_firstTurn_10 fX1_78 (by first | assumption) (fun _ _ _ => rfl) (by omega) ?_
      refine (show X _ _ 13 _ _ _ _ _ _ from ?_)
      refine X.val (b := A 0 0) (hV0 0 (by omega)) ?_
      refine y_icmp_ge 37 dX1_firstTurn_13 (by decide) ⟨by omega, by omega⟩ ⟨by omega, by omega⟩ (fun h => ?_) (fun h => ?_)
      · omega
      refine x_aload_n dX1_firstTurn_16 rfl ?_
      refine x_gr dX1_firstTurn_17 fX1_42 (by first | assumption) (fun _ _ _ => rfl) (by first | assumption) ?_
      refine x_gr dX1_firstTurn_20 fX1_100 (by first | assumption) (fun _ _ _ => rfl) (by first | assumption) ?_
      refine x_iload_n dX1_firstTurn_23 rfl ?_
      refine b_iald (r := aa) (m := 16) (j := 12) (i) dX1_firstTurn_24 (by first | assumption) (by first | rfl | omega) (by omega) (by decide) (by decide) ?_
      refine x_iload_n dX1_firstTurn_25 rfl ?_
      refine (show X _ _ 26 _ _ _ _ _ _ from ?_)
      refine y_icmp_ne 31 dX1_firstTurn_26 (by decide) ⟨by omega, by omega⟩ ⟨by omega, by omega⟩ (fun h1 => ?_) (fun h1 => ?_)
      · rw [if_neg (by simp [h1])]
        refine y_iinc dX1_firstTurn_31 rfl (by decide) rfl rfl ?_
        refine x_goto 2 dX1_firstTurn_34 (by decide) ?_
        refine (show X _ _ 2 _ _ _ _ _ _ from ?_)
        exact ih (i + 1) (by omega)
      · rw [if_pos (by simp [h1])]
        refine x_iload_n dX1_firstTurn_29 rfl ?_
        refine (show X _ _ 30 _ _ _ _ _ _ from ?_)
        exact x_ireturn dX1_firstTurn_30 rfl ⟨rfl, rfl⟩
  refine y_iconst dX1_firstTurn_0 ?_
  refine x_istore_n dX1_firstTurn_1 (by decide) rfl rfl ?_
  refine (show X _ _ 2 _ _ _ _ _ _ from ?_)
  exact key (fY A) 0 (by omega)
theorem c_lastTurn {p : Int} (hu : US T R aa w) (hw0 : T w = (19, 0)) (hw1 : R w 0 = some f) (hf : FS T R f) (hF : FC V f A) (hA : VA A) (hap : (w < aa ∨ aa + 16 ≤ w) ∧ (f + 45 ≤ aa ∨ aa + 16 ≤ f)) (hp : R32 p) (hE : ∀ i, i < fY A → R32 (E 12 i)) : X g mX1_lastTurn 0 [.ref aa, .int (iI p), jk] [] (T, iV (pB V aa 16 E), R, J, z) k n (rI (iI (lTurn A E p)) (T, iV (pB V aa 16 E), R, J, z)) := by
  obtain ⟨⟨u0, u1', u2', u3⟩, -, -, ⟨⟨r0, r1⟩, ⟨r2, r3, r4, r5⟩, ⟨s1, s2, s3, s4⟩⟩, -⟩ := hu
  obtain ⟨f0, -⟩ := hf
  obtain ⟨hV0, -⟩ := hF
  obtain ⟨p1, p2⟩ := hap
  have eY := fY24 hA
  have hp1 := hp.1
  have hp2 := hp.2
  have key : ∀ (m : Nat), m ≤ fY A → X g mX1_lastTurn 13 [.ref aa, .int (iI p), .int (iI ((m : Int) - 1))] [] (T, iV (pB V aa 16 E), R, J, z) k n (rI (iI (laC (isE E p) m)) (T, iV (pB V aa 16 E), R, J, z)) := by
    intro m
    induction m with
    | zero =>
      intro hm
      refine x_iload_n dX1_lastTurn_13 rfl ?_
      refine (show X _ _ 14 _ _ _ _ _ _ from ?_)
      refine y_if_lt 38 dX1_lastTurn_14 (by decide) ⟨by omega, by omega⟩ (fun h => ?_) (fun h => ?_)
      · refine y_bipush dX1_lastTurn_38 rfl ?_
        refine (show X _ _ 40 _ _ _ _ _ _ from ?_)
        exact x_ireturn dX1_lastTurn_40 rfl ⟨rfl, rfl⟩
      · omega
    | succ m ih =>
      intro hm
      have hEi := hE m (by omega)
      have g1 := hEi.1
      have g2 := hEi.2
      rw [laC, isE]
      refine x_iload_n dX1_lastTurn_13 rfl ?_
      refine (show X _ _ 14 _ _ _ _ _ _ from ?_)
      refine y_if_lt 38 dX1_lastTurn_14 (by decide) ⟨by omega, by omega⟩ (fun h => ?_) (fun h => ?_)
      · omega
      refine x_aload_n dX1_lastTurn_17 rfl ?_
      refine x_gr dX1_lastTurn_18 fX1_42 (by first | assumption) (fun _ _ _ => rfl) (by first | assumption) ?_
      refine x_gr dX1_lastTurn_21 fX1_100 (by first | assumption) (fun _ _ _ => rfl) (by first | assumption) ?_
      refine x_iload_n dX1_lastTurn_24 rfl ?_
      refine b_iald (r := aa) (m := 16) (j := 12) (m) dX1_lastTurn_25 (by first | assumption) (by first | rfl | omega) (by omega) (by decide) (by decide) ?_
      refine x_iload_n dX1_lastTurn_26 rfl ?_
      refine (show X _ _ 27 _ _ _ _ _ _ from ?_)
      refine y_icmp_ne 32 dX1_lastTurn_27 (by decide) ⟨by omega, by omega⟩ ⟨by omega, by omega⟩ (fun h1 => ?_) (fun h1 => ?_)
      · rw [if_neg (by simp [h1])]
        refine y_iinc dX1_lastTurn_32 rfl (by decide) rfl rfl ?_
        refine x_goto 13 dX1_lastTurn_35 (by decide) ?_
        refine (show X _ _ 13 _ _ _ _ _ _ from ?_)
        have e : ((m + 1 : Nat) : Int) - 1 + -1 = (m : Int) - 1 := by omega
        rw [e]
        exact ih (by omega)
      · rw [if_pos (by simp [h1])]
        refine x_iload_n dX1_lastTurn_30 rfl ?_
        refine (show X _ _ 31 _ _ _ _ _ _ from ?_)
        refine X.val (b := (m : Int)) (by omega) ?_
        exact x_ireturn dX1_lastTurn_31 rfl ⟨rfl, rfl⟩
  refine x_aload_n dX1_lastTurn_0 rfl ?_
  refine x_gr dX1_lastTurn_1 fX1_33 (by first | assumption) (fun _ _ _ => rfl) (by first | assumption) ?_
  refine x_gr dX1_lastTurn_4 fX1_74 (by first | assumption) (fun _ _ _ => rfl) (by first | assumption) ?_
  refine b_gio (r := aa) (m := 16) dX1_lastTurn_7 fX1_78 (by first | assumption) (fun _ _ _ => rfl) (by omega) ?_
  refine (show X _ _ 10 _ _ _ _ _ _ from ?_)
  refine X.val (b := ((fY A : Nat) : Int)) ((hV0 0 (by omega)).trans eY.1.symm) ?_
  refine y_iconst dX1_lastTurn_10 ?_
  refine y_isub dX1_lastTurn_11 ?_
  refine x_istore_n dX1_lastTurn_12 (by decide) rfl rfl ?_
  refine (show X _ _ 13 _ _ _ _ _ _ from ?_)
  exact key (fY A) (Nat.le_refl _)
theorem c_firstKnowing {s p : Nat} (hu : US T R aa w) (hw0 : T w = (19, 0)) (hw1 : R w 0 = some f) (hf : FS T R f) (hF : FC V f A) (hA : VA A) (hap : (w < aa ∨ aa + 16 ≤ w) ∧ (f + 45 ≤ aa ∨ aa + 16 ≤ f)) (hs : s < 8) (hp : p < 10) (hE : ∀ i, i < fY A → 0 ≤ E 6 (10 * i + p) ∧ E 6 (10 * i + p) < 256) : X g mX1_firstKnowing 0 [.ref aa, .int (iI (s : Int)), .int (iI (p : Int)), jk] [] (T, iV (pB V aa 16 E), R, J, z) k n (rI (iI (fKnow A E s p)) (T, iV (pB V aa 16 E), R, J, z)) := by
  obtain ⟨⟨u0, u1', u2', u3⟩, ⟨v3, v4, v5, v6, v7, v8, v9⟩, ⟨t1, t2, t3, t4, t5, t6, t7⟩, -, -⟩ := hu
  obtain ⟨f0, -⟩ := hf
  obtain ⟨hV0, -⟩ := hF
  obtain ⟨p1, p2⟩ := hap
  have eY := fY24 hA
  have key : ∀ (m i : Nat), m + i = fY A → X g mX1_firstKnowing 2 [.ref aa, .int (iI (s : Int)), .int (iI (p : Int)), .int (iI (i : Int))] [] (T, iV (pB V aa 16 E), R, J, z) k n (rI (iI (fiC (fun y => (E 6 (10 * y + p)).toNat.testBit s) m i)) (T, iV (pB V aa 16 E), R, J, z)) := by
    intro m
    induction m with
    | zero =>
      intro i hi
      refine x_iload_n dX1_firstKnowing_2 rfl ?_
      refine x_aload_n dX1_firstKnowing_3 rfl ?_
      refine x_gr dX1_firstKnowing_4 fX1_33 (by first | assumption) (fun _ _ _ => rfl) (by first | assumption) ?_
      refine x_gr dX1_firstKnowing_7 fX1_74 (by first | assumption) (fun _ _ _ => rfl) (by first | assumption) ?_
      refine b_gio (r := aa) (m := 16) dX1_firstKnowing_10 fX1_78 (by first | assumption) (fun _ _ _ => rfl) (by omega) ?_
      refine (show X _ _ 13 _ _ _ _ _ _ from ?_)
      refine X.val (b := A 0 0) (hV0 0 (by omega)) ?_
      refine y_icmp_ge 42 dX1_firstKnowing_13 (by decide) ⟨by omega, by omega⟩ ⟨by omega, by omega⟩ (fun h => ?_) (fun h => ?_)
      · refine y_bipush dX1_firstKnowing_42 rfl ?_
        refine (show X _ _ 44 _ _ _ _ _ _ from ?_)
        exact x_ireturn dX1_firstKnowing_44 rfl ⟨rfl, rfl⟩
      · omega
    | succ m ih =>
      intro i hi
      have hEi := hE i (by omega)
      rw [fiC]
      refine x_iload_n dX1_firstKnowing_2 rfl ?_
      refine x_aload_n dX1_firstKnowing_3 rfl ?_
      refine x_gr dX1_firstKnowing_4 fX1_33 (by first | assumption) (fun _ _ _ => rfl) (by first | assumption) ?_
      refine x_gr dX1_firstKnowing_7 fX1_74 (by first | assumption) (fun _ _ _ => rfl) (by first | assumption) ?_
      refine b_gio (r := aa) (m := 16) dX1_firstKnowing_10 fX1_78 (by first | assumption) (fun _ _ _ => rfl) (by omega) ?_
      refine (show X _ _ 13 _ _ _ _ _ _ from ?_)
      refine X.val (b := A 0 0) (hV0 0 (by omega)) ?_
      refine y_icmp_ge 42 dX1_firstKnowing_13 (by decide) ⟨by omega, by omega⟩ ⟨by omega, by omega⟩ (fun h => ?_) (fun h => ?_)
      · omega
      refine x_aload_n dX1_firstKnowing_16 rfl ?_
      refine x_gr dX1_firstKnowing_17 fX1_27 (by first | assumption) (fun _ _ _ => rfl) (by first | assumption) ?_
      refine x_iload_n dX1_firstKnowing_20 rfl ?_
      refine y_bipush dX1_firstKnowing_21 rfl ?_
      refine y_imul dX1_firstKnowing_23 ?_
      refine x_iload_n dX1_firstKnowing_24 rfl ?_
      refine y_iadd dX1_firstKnowing_25 ?_
      refine b_iald (r := aa) (m := 16) (j := 6) (10 * i + p) dX1_firstKnowing_26 (by first | assumption) (by first | rfl | omega) (by omega) (by decide) (by decide) ?_
      refine (show X _ _ 27 _ _ _ _ _ _ from ?_)
      refine X.val (b := (((E 6 (10 * i + p)).toNat : Nat) : Int)) (Int.toNat_of_nonneg hEi.1).symm ?_
      refine x_iload_n dX1_firstKnowing_27 rfl ?_
      refine (show X _ _ 28 _ _ _ _ _ _ from ?_)
      refine x_callS (As := [_, _]) (mc := 0) (ms := 0) (z := mX10_has) dX1_firstKnowing_28 lX1_125 oX10_has (by decide) rfl (Nat.le_of_ble_eq_true rfl) (Nat.le_of_ble_eq_true rfl) rfl (c_has g (E 6 (10 * i + p)).toNat s _ 0 0 (by omega) (by omega)) (k_I ?_)
      refine (show X _ _ 31 _ _ _ _ _ _ from ?_)
      refine y_ifb_eq 36 dX1_firstKnowing_31 (by decide) (fun h1 => ?_) (fun h1 => ?_)
      · rw [if_neg (by rw [h1]; decide)]
        refine y_iinc dX1_firstKnowing_36 rfl (by decide) rfl rfl ?_
        refine x_goto 2 dX1_firstKnowing_39 (by decide) ?_
        refine (show X _ _ 2 _ _ _ _ _ _ from ?_)
        exact ih (i + 1) (by omega)
      · rw [if_pos h1]
        refine x_iload_n dX1_firstKnowing_34 rfl ?_
        refine (show X _ _ 35 _ _ _ _ _ _ from ?_)
        exact x_ireturn dX1_firstKnowing_35 rfl ⟨rfl, rfl⟩
  refine y_iconst dX1_firstKnowing_0 ?_
  refine x_istore_n dX1_firstKnowing_1 (by decide) rfl rfl ?_
  refine (show X _ _ 2 _ _ _ _ _ _ from ?_)
  exact key (fY A) 0 (by omega)
theorem c_knowers {s : Nat} (hu : US T R aa w) (hw0 : T w = (19, 0)) (hw1 : R w 0 = some f) (hf : FS T R f) (hF : FC V f A) (hA : VA A) (hap : (w < aa ∨ aa + 16 ≤ w) ∧ (f + 45 ≤ aa ∨ aa + 16 ≤ f)) (hs : s < 8) (hE : ∀ p, p < 10 → 0 ≤ E 14 p ∧ E 14 p < 256) : X g mX1_knowers 0 [.ref aa, .int (iI (s : Int)), jk, jk] [] (T, iV (pB V aa 16 E), R, J, z) k n (rI (iI (knowers A E s)) (T, iV (pB V aa 16 E), R, J, z)) := by
  obtain ⟨⟨u0, u1', u2', u3⟩, -, -, -, ⟨⟨o0, o1⟩, ⟨o2, o3⟩, ⟨ot1, ot2⟩⟩⟩ := hu
  obtain ⟨f0, -⟩ := hf
  obtain ⟨hV0, -⟩ := hF
  obtain ⟨p1, p2⟩ := hap
  have eP := fP10 hA
  refine y_iconst dX1_knowers_0 ?_
  refine x_istore_n dX1_knowers_1 (by decide) rfl rfl ?_
  refine y_iconst dX1_knowers_2 ?_
  refine x_istore_n dX1_knowers_3 (by decide) rfl rfl ?_
  refine (show X _ _ 4 _ _ _ _ _ _ from ?_)
  refine loopN (P := fun p => X g mX1_knowers 4 [.ref aa, .int (iI (s : Int)), .int (iI (lp p (fun p c => if (E 14 p).toNat.testBit s then c + 1 else c) 0)), .int (iI (p : Int))] [] (T, iV (pB V aa 16 E), R, J, z) k n (rI (iI (knowers A E s)) (T, iV (pB V aa 16 E), R, J, z))) (fP A) ?_ (fun p hp ih => ?_)
  · refine x_iload_n dX1_knowers_4 rfl ?_
    refine x_aload_n dX1_knowers_5 rfl ?_
    refine x_gr dX1_knowers_6 fX1_33 (by first | assumption) (fun _ _ _ => rfl) (by first | assumption) ?_
    refine x_gr dX1_knowers_9 fX1_74 (by first | assumption) (fun _ _ _ => rfl) (by first | assumption) ?_
    refine b_gio (r := aa) (m := 16) dX1_knowers_12 fX1_129 (by first | assumption) (fun _ _ _ => rfl) (by omega) ?_
    refine (show X _ _ 15 _ _ _ _ _ _ from ?_)
    refine X.val (b := A 0 3) (hV0 3 (by omega)) ?_
    refine y_icmp_ge 43 dX1_knowers_15 (by decide) ⟨by omega, by omega⟩ ⟨by omega, by omega⟩ (fun h => ?_) (fun h => ?_)
    · refine x_iload_n dX1_knowers_43 rfl ?_
      refine (show X _ _ 44 _ _ _ _ _ _ from ?_)
      exact x_ireturn dX1_knowers_44 rfl ⟨rfl, rfl⟩
    · omega
  rw [lp_s] at ih
  have hEp := hE p (by omega)
  refine x_iload_n dX1_knowers_4 rfl ?_
  refine x_aload_n dX1_knowers_5 rfl ?_
  refine x_gr dX1_knowers_6 fX1_33 (by first | assumption) (fun _ _ _ => rfl) (by first | assumption) ?_
  refine x_gr dX1_knowers_9 fX1_74 (by first | assumption) (fun _ _ _ => rfl) (by first | assumption) ?_
  refine b_gio (r := aa) (m := 16) dX1_knowers_12 fX1_129 (by first | assumption) (fun _ _ _ => rfl) (by omega) ?_
  refine (show X _ _ 15 _ _ _ _ _ _ from ?_)
  refine X.val (b := A 0 3) (hV0 3 (by omega)) ?_
  refine y_icmp_ge 43 dX1_knowers_15 (by decide) ⟨by omega, by omega⟩ ⟨by omega, by omega⟩ (fun h => ?_) (fun h => ?_)
  · omega
  refine x_aload_n dX1_knowers_18 rfl ?_
  refine x_gr dX1_knowers_19 fX1_49 (by first | assumption) (fun _ _ _ => rfl) (by first | assumption) ?_
  refine x_gr dX1_knowers_22 fX1_113 (by first | assumption) (fun _ _ _ => rfl) (by first | assumption) ?_
  refine x_iload_n dX1_knowers_25 rfl ?_
  refine b_iald (r := aa) (m := 16) (j := 14) (p) dX1_knowers_26 (by first | assumption) (by first | rfl | omega) (by omega) (by decide) (by decide) ?_
  refine (show X _ _ 27 _ _ _ _ _ _ from ?_)
  refine X.val (b := (((E 14 p).toNat : Nat) : Int)) (Int.toNat_of_nonneg hEp.1).symm ?_
  refine x_iload_n dX1_knowers_27 rfl ?_
  refine (show X _ _ 28 _ _ _ _ _ _ from ?_)
  refine x_callS (As := [_, _]) (mc := 0) (ms := 0) (z := mX10_has) dX1_knowers_28 lX1_125 oX10_has (by decide) rfl (Nat.le_of_ble_eq_true rfl) (Nat.le_of_ble_eq_true rfl) rfl (c_has g (E 14 p).toNat s _ 0 0 (by omega) (by omega)) (k_I ?_)
  refine (show X _ _ 31 _ _ _ _ _ _ from ?_)
  refine y_ifb_eq 37 dX1_knowers_31 (by decide) (fun h1 => ?_) (fun h1 => ?_)
  · rw [if_neg (by rw [h1]; decide)] at ih
    refine y_iinc dX1_knowers_37 rfl (by decide) rfl rfl ?_
    refine x_goto 4 dX1_knowers_40 (by decide) ?_
    refine (show X _ _ 4 _ _ _ _ _ _ from ?_)
    exact ih
  · rw [if_pos h1] at ih
    refine y_iinc dX1_knowers_34 rfl (by decide) rfl rfl ?_
    refine y_iinc dX1_knowers_37 rfl (by decide) rfl rfl ?_
    refine x_goto 4 dX1_knowers_40 (by decide) ?_
    refine (show X _ _ 4 _ _ _ _ _ _ from ?_)
    exact ih
theorem c_deadInTurn {i0 : Int} (hu : US T R aa w) (hw0 : T w = (19, 0)) (hw1 : R w 0 = some f) (hf : FS T R f) (hF : FC V f A) (hA : VA A) (hap : (w < aa ∨ aa + 16 ≤ w) ∧ (f + 45 ≤ aa ∨ aa + 16 ≤ f)) (hi0 : R32 i0) (hE : ∀ i, i < fY A → -2 ≤ E 12 i ∧ E 12 i ≤ 9) (h5 : 0 ≤ E 8 5 ∧ E 8 5 < 1024) : X g mX1_deadInTurn 0 [.ref aa, .int (iI i0), jk, jk, jk] [] (T, iV (pB V aa 16 E), R, J, z) k n (rI (iI (dTurn A E i0)) (T, iV (pB V aa 16 E), R, J, z)) := by
  have hlt := fun p hp => c_lastTurn (g := g) (J := J) (z := z) (k := 0) (n := 0) (E := E) (p := p) hu hw0 hw1 hf hF hA hap hp (fun i hi => by have := hE i hi; exact ⟨by omega, by omega⟩)
  obtain ⟨⟨u0, u1', u2', u3⟩, -, -, ⟨⟨r0, r1⟩, ⟨r2, r3, r4, r5⟩, ⟨s1, s2, s3, s4⟩⟩, -⟩ := hu
  obtain ⟨f0, -⟩ := hf
  obtain ⟨hV0, -⟩ := hF
  obtain ⟨p1, p2⟩ := hap
  have eY := fY24 hA
  have q1 := hi0.1
  have q2 := hi0.2
  have key : ∀ (m y : Nat) (a : Int), m + y = fY A → R32 a → ∀ q, X g mX1_deadInTurn 4 [.ref aa, .int (iI i0), .int (iI a), .int (iI (y : Int)), q] [] (T, iV (pB V aa 16 E), R, J, z) k n (rI (iI (dnC (fun y => decide (0 ≤ E 12 y) && (E 8 5).toNat.testBit (E 12 y).toNat && decide (lTurn A E (E 12 y) = y)) (E 12) m y a)) (T, iV (pB V aa 16 E), R, J, z)) := by
    intro m
    induction m with
    | zero =>
      intro y a hy ha q
      refine x_iload_n dX1_deadInTurn_4 rfl ?_
      refine x_aload_n dX1_deadInTurn_5 rfl ?_
      refine x_gr dX1_deadInTurn_6 fX1_33 (by first | assumption) (fun _ _ _ => rfl) (by first | assumption) ?_
      refine x_gr dX1_deadInTurn_9 fX1_74 (by first | assumption) (fun _ _ _ => rfl) (by first | assumption) ?_
      refine b_gio (r := aa) (m := 16) dX1_deadInTurn_12 fX1_78 (by first | assumption) (fun _ _ _ => rfl) (by omega) ?_
      refine (show X _ _ 15 _ _ _ _ _ _ from ?_)
      refine X.val (b := A 0 0) (hV0 0 (by omega)) ?_
      refine y_icmp_ge 79 dX1_deadInTurn_15 (by decide) ⟨by omega, by omega⟩ ⟨by omega, by omega⟩ (fun h => ?_) (fun h => ?_)
      · refine y_bipush dX1_deadInTurn_79 rfl ?_
        refine (show X _ _ 81 _ _ _ _ _ _ from ?_)
        exact x_ireturn dX1_deadInTurn_81 rfl ⟨rfl, rfl⟩
      · omega
    | succ m ih =>
      intro y a hy ha q
      refine X.drop 4 rfl ?_
      refine (show X _ _ 4 [_, _, _, _, jk] _ _ _ _ _ from ?_)
      have hEy := hE y (by omega)
      have a1 := ha.1
      have a2 := ha.2
      rw [dnC]
      refine x_iload_n dX1_deadInTurn_4 rfl ?_
      refine x_aload_n dX1_deadInTurn_5 rfl ?_
      refine x_gr dX1_deadInTurn_6 fX1_33 (by first | assumption) (fun _ _ _ => rfl) (by first | assumption) ?_
      refine x_gr dX1_deadInTurn_9 fX1_74 (by first | assumption) (fun _ _ _ => rfl) (by first | assumption) ?_
      refine b_gio (r := aa) (m := 16) dX1_deadInTurn_12 fX1_78 (by first | assumption) (fun _ _ _ => rfl) (by omega) ?_
      refine (show X _ _ 15 _ _ _ _ _ _ from ?_)
      refine X.val (b := A 0 0) (hV0 0 (by omega)) ?_
      refine y_icmp_ge 79 dX1_deadInTurn_15 (by decide) ⟨by omega, by omega⟩ ⟨by omega, by omega⟩ (fun h => ?_) (fun h => ?_)
      · omega
      refine x_iload_n dX1_deadInTurn_18 rfl ?_
      refine (show X _ _ 19 _ _ _ _ _ _ from ?_)
      refine y_if_lt 79 dX1_deadInTurn_19 (by decide) ⟨by omega, by omega⟩ (fun h1 => ?_) (fun h1 => ?_)
      · rw [if_pos h1]
        refine y_bipush dX1_deadInTurn_79 rfl ?_
        refine (show X _ _ 81 _ _ _ _ _ _ from ?_)
        exact x_ireturn dX1_deadInTurn_81 rfl ⟨rfl, rfl⟩
      rw [if_neg (by omega)]
      refine x_aload_n dX1_deadInTurn_22 rfl ?_
      refine x_gr dX1_deadInTurn_23 fX1_42 (by first | assumption) (fun _ _ _ => rfl) (by first | assumption) ?_
      refine x_gr dX1_deadInTurn_26 fX1_100 (by first | assumption) (fun _ _ _ => rfl) (by first | assumption) ?_
      refine x_iload_n dX1_deadInTurn_29 rfl ?_
      refine b_iald (r := aa) (m := 16) (j := 12) (y) dX1_deadInTurn_30 (by first | assumption) (by first | rfl | omega) (by omega) (by decide) (by decide) ?_
      refine x_istore dX1_deadInTurn_31 (by decide) rfl rfl ?_
      refine x_iload dX1_deadInTurn_33 rfl ?_
      refine (show X _ _ 35 _ _ _ _ _ _ from ?_)
      refine y_if_lt 73 dX1_deadInTurn_35 (by decide) ⟨by omega, by omega⟩ (fun h2 => ?_) (fun h2 => ?_)
      · rw [if_neg (by rw [decide_eq_false (by omega)]; simp)]
        refine y_iinc dX1_deadInTurn_73 rfl (by decide) rfl rfl ?_
        refine x_goto 4 dX1_deadInTurn_76 (by decide) ?_
        refine (show X _ _ 4 _ _ _ _ _ _ from ?_)
        exact ih (y + 1) a (by omega) ha _
      rw [decide_eq_true h2, Bool.true_and]
      have hl := laC_b (isE E (E 12 y)) (fY A)
      have hlt2 := hlt (E 12 y) ⟨by omega, by omega⟩
      have el : lTurn A E (E 12 y) = laC (isE E (E 12 y)) (fY A) := rfl
      rw [← el] at hl
      obtain ⟨u, hu⟩ : ∃ u : Nat, E 12 y = (u : Int) := ⟨(E 12 y).toNat, (Int.toNat_of_nonneg h2).symm⟩
      generalize lTurn A E (E 12 y) = lt at *
      rw [hu] at hEy hlt2 ⊢
      rw [Int.toNat_natCast]
      refine x_aload_n dX1_deadInTurn_38 rfl ?_
      refine x_gr dX1_deadInTurn_39 fX1_42 (by first | assumption) (fun _ _ _ => rfl) (by first | assumption) ?_
      refine b_gi (r := aa) (m := 16) (j := 8) dX1_deadInTurn_42 fX1_132 (by first | assumption) (fun _ _ _ => rfl) (by decide) ?_
      refine (show X _ _ 45 _ _ _ _ _ _ from ?_)
      refine X.val (b := (((E 8 5).toNat : Nat) : Int)) (Int.toNat_of_nonneg h5.1).symm ?_
      refine x_iload dX1_deadInTurn_45 rfl ?_
      refine (show X _ _ 47 _ _ _ _ _ _ from ?_)
      refine x_callS (As := [_, _]) (mc := 0) (ms := 0) (z := mX10_has) dX1_deadInTurn_47 lX1_125 oX10_has (by decide) rfl (Nat.le_of_ble_eq_true rfl) (Nat.le_of_ble_eq_true rfl) rfl (c_has g (E 8 5).toNat u _ 0 0 (by omega) (by omega)) (k_I ?_)
      refine (show X _ _ 50 _ _ _ _ _ _ from ?_)
      refine y_ifb_eq 73 dX1_deadInTurn_50 (by decide) (fun h3 => ?_) (fun h3 => ?_)
      · rw [h3, if_neg (by simp)]
        refine y_iinc dX1_deadInTurn_73 rfl (by decide) rfl rfl ?_
        refine x_goto 4 dX1_deadInTurn_76 (by decide) ?_
        refine (show X _ _ 4 _ _ _ _ _ _ from ?_)
        exact ih (y + 1) a (by omega) ha _
      rw [h3, Bool.true_and]
      refine x_aload_n dX1_deadInTurn_53 rfl ?_
      refine x_iload dX1_deadInTurn_54 rfl ?_
      refine (show X _ _ 56 _ _ _ _ _ _ from ?_)
      refine x_callV (As := [_]) (mc := 0) (ms := 0) (z := mX1_lastTurn) (ci := 1) dX1_deadInTurn_56 lX1_135 oX1_lastTurn (by decide) (by first | assumption) rfl rfl (Nat.le_of_ble_eq_true rfl) (Nat.le_of_ble_eq_true rfl) rfl (hlt2) (k_I ?_)
      refine (show X _ _ 59 _ _ _ _ _ _ from ?_)
      refine x_iload_n dX1_deadInTurn_59 rfl ?_
      refine (show X _ _ 60 _ _ _ _ _ _ from ?_)
      refine y_icmp_ne 73 dX1_deadInTurn_60 (by decide) ⟨by omega, by omega⟩ ⟨by omega, by omega⟩ (fun h4 => ?_) (fun h4 => ?_)
      · rw [if_neg (by simp [h4])]
        refine y_iinc dX1_deadInTurn_73 rfl (by decide) rfl rfl ?_
        refine x_goto 4 dX1_deadInTurn_76 (by decide) ?_
        refine (show X _ _ 4 _ _ _ _ _ _ from ?_)
        exact ih (y + 1) a (by omega) ha _
      rw [if_pos (by simp [h4])]
      refine x_iload_n dX1_deadInTurn_63 rfl ?_
      refine (show X _ _ 64 _ _ _ _ _ _ from ?_)
      refine y_if_ne 70 dX1_deadInTurn_64 (by decide) ⟨by omega, by omega⟩ (fun h5' => ?_) (fun h5' => ?_)
      · rw [if_neg h5']
        refine y_iinc dX1_deadInTurn_70 rfl (by decide) rfl rfl ?_
        refine y_iinc dX1_deadInTurn_73 rfl (by decide) rfl rfl ?_
        refine x_goto 4 dX1_deadInTurn_76 (by decide) ?_
        refine (show X _ _ 4 _ _ _ _ _ _ from ?_)
        exact ih (y + 1) (a - 1) (by omega) ⟨by omega, by omega⟩ _
      · rw [if_pos h5']
        refine x_iload dX1_deadInTurn_67 rfl ?_
        refine (show X _ _ 69 _ _ _ _ _ _ from ?_)
        exact x_ireturn dX1_deadInTurn_69 rfl ⟨rfl, rfl⟩
  refine x_iload_n dX1_deadInTurn_0 rfl ?_
  refine x_istore_n dX1_deadInTurn_1 (by decide) rfl rfl ?_
  refine y_iconst dX1_deadInTurn_2 ?_
  refine x_istore_n dX1_deadInTurn_3 (by decide) rfl rfl ?_
  refine (show X _ _ 4 _ _ _ _ _ _ from ?_)
  exact key (fY A) 0 i0 (by omega) hi0 jk
end C14
