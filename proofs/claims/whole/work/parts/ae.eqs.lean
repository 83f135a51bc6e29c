/-! ===== the law: where the annals' cells are the reference's values ===== -/
section Eqs
variable {A B W0 N0 V : Nat → Nat → Int} {o : Nat} {h : Bool} {x y : Int}
abbrev EA (V : Nat → Nat → Int) (o : Nat) : Nat → Nat → Int := fun j => V (o + 155 + j)
theorem e_elder (hn : h = true → AnI A B W0 N0 (fY A) (EA V o)) : (if yTr h A x = 0 then V (o + 167) x.toNat else -1) = if yTr h A x = 0 then runTo A B W0 (fY A) 4 x.toNat else -1 := by
  by_cases c : yTr h A x = 0
  · have e : V (o + 167) = runTo A B W0 (fY A) 4 := (hn (yTr_0 c).1).1 4 (by decide)
    rw [if_pos c, if_pos c, e]
  · rw [if_neg c, if_neg c]
theorem yTr_y (c : yTr h A x = 0) : x.toNat < fY A := by
  have := noY_f (yTr_0 c).2
  show x.toNat < (A 0 0).toNat
  omega
theorem e_there (hn : h = true → AnI A B W0 N0 (fY A) (EA V o)) : (if yTr h A x = 0 then V (o + 156) x.toNat else -1) = if yTr h A x = 0 then ((rTh A B (runTo A B W0 x.toNat) x.toNat : Nat) : Int) else -1 := by
  by_cases c : yTr h A x = 0
  · have e : V (o + 156) x.toNat = _ := ((hn (yTr_0 c).1).2.2 x.toNat (yTr_y c)).1
    rw [if_pos c, if_pos c, e]
  · rw [if_neg c, if_neg c]
theorem e_can (hn : h = true → AnI A B W0 N0 (fY A) (EA V o)) : (if yTr h A x = 0 then V (o + 157) x.toNat else -1) = if yTr h A x = 0 then ((rCn A B (runTo A B W0 x.toNat) x.toNat : Nat) : Int) else -1 := by
  by_cases c : yTr h A x = 0
  · have e : V (o + 157) x.toNat = _ := ((hn (yTr_0 c).1).2.2 x.toNat (yTr_y c)).2.1
    rw [if_pos c, if_pos c, e]
  · rw [if_neg c, if_neg c]
theorem e_empty (hn : h = true → AnI A B W0 N0 (fY A) (EA V o)) : (if yTr h A x = 0 then V (o + 158) x.toNat else -1) = if yTr h A x = 0 then (if runTo A B W0 x.toNat 0 6 = 0 then 0 else 1) else -1 := by
  by_cases c : yTr h A x = 0
  · have e : V (o + 158) x.toNat = _ := ((hn (yTr_0 c).1).2.2 x.toNat (yTr_y c)).2.2.1
    rw [if_pos c, if_pos c, e]
  · rw [if_neg c, if_neg c]
theorem e_harm (hn : h = true → AnI A B W0 N0 (fY A) (EA V o)) : (if yTr h A x = 0 then V (o + 159) x.toNat else -1) = if yTr h A x = 0 then runTo A B W0 (x.toNat + 1) 0 8 - runTo A B W0 x.toNat 0 8 else -1 := by
  by_cases c : yTr h A x = 0
  · have e : V (o + 159) x.toNat = _ := ((hn (yTr_0 c).1).2.2 x.toNat (yTr_y c)).2.2.2.1
    rw [if_pos c, if_pos c, e]
  · rw [if_neg c, if_neg c]
theorem e_box (hn : h = true → AnI A B W0 N0 (fY A) (EA V o)) : (if yTr h A x = 0 then V (o + 160) x.toNat else -1) = if yTr h A x = 0 then nTo A B W0 N0 (x.toNat + 1) 0 1 else -1 := by
  by_cases c : yTr h A x = 0
  · have e : V (o + 160) x.toNat = _ := ((hn (yTr_0 c).1).2.2 x.toNat (yTr_y c)).2.2.2.2.1
    rw [if_pos c, if_pos c, e]
  · rw [if_neg c, if_neg c]
theorem e_harmAll (hn : h = true → AnI A B W0 N0 (fY A) (EA V o)) : (if h = true then V (o + 163) 8 else -1) = if h = true then runTo A B W0 (fY A) 0 8 else -1 := by
  by_cases c : h = true
  · have e : V (o + 163) = runTo A B W0 (fY A) 0 := (hn c).1 0 (by decide)
    rw [if_pos c, if_pos c, e]
  · rw [if_neg c, if_neg c]
theorem e_deaths (hn : h = true → AnI A B W0 N0 (fY A) (EA V o)) : (if h = true then V (o + 163) 9 else -1) = if h = true then runTo A B W0 (fY A) 0 9 else -1 := by
  by_cases c : h = true
  · have e : V (o + 163) = runTo A B W0 (fY A) 0 := (hn c).1 0 (by decide)
    rw [if_pos c, if_pos c, e]
  · rw [if_neg c, if_neg c]
theorem e_fair (hn : h = true → AnI A B W0 N0 (fY A) (EA V o)) : (if h = true then spread A B (fun j => V (o + 155 + 8 + j)) else -1) = if h = true then spread A B (runTo A B W0 (fY A)) else -1 := by
  by_cases c : h = true
  · have e := an_fair (hn c)
    have e2 : (fun j => V (o + 155 + 8 + j)) = fun j => EA V o (8 + j) := funext fun j => by show V (o + 155 + 8 + j) = V (o + 155 + (8 + j)); rw [Nat.add_assoc]
    rw [if_pos c, if_pos c, e2, e]
  · rw [if_neg c, if_neg c]
theorem noP_p (c : ¬ noP h A x = true) : h = true ∧ (x.toNat : Int) = x ∧ x.toNat < fP A := by
  have c1 : noP h A x = false := by cases q : noP h A x; rfl; exact absurd q c
  obtain ⟨h1, h2, h3⟩ := noP_f c1
  refine ⟨h1, by omega, ?_⟩
  show x.toNat < (A 0 3).toNat
  omega
theorem e_harmOf (hA : VA A) (hB : VB A B) (hk : ROk A W0 0) (hn : h = true → AnI A B W0 N0 (fY A) (EA V o)) : (if noP h A x = true then -1 else hTo A (EA V o) x) = if noP h A x = true then -1 else hdS (runTo A B W0) (fY A) x.toNat := by
  by_cases c : noP h A x = true
  · rw [if_pos c, if_pos c]
  · obtain ⟨h1, h2, -⟩ := noP_p c
    have e := an_harm hA hB hk (hn h1) x.toNat
    rw [h2] at e
    rw [if_neg c, if_neg c, e]
theorem e_purse (hn : h = true → AnI A B W0 N0 (fY A) (EA V o)) : (if noP h A x = true then -10000 else V (o + 166) x.toNat) = if noP h A x = true then -10000 else runTo A B W0 (fY A) 3 x.toNat := by
  by_cases c : noP h A x = true
  · rw [if_pos c, if_pos c]
  · have e : V (o + 166) = runTo A B W0 (fY A) 3 := (hn (noP_p c).1).1 3 (by decide)
    rw [if_neg c, if_neg c, e]
theorem e_first (hn : h = true → AnI A B W0 N0 (fY A) (EA V o)) : (if noP h A x = true then -1 else fTurn A (EA V o) x) = if noP h A x = true then -1 else fiC (fun y => decide (runTo A B W0 (fY A) 4 y = x)) (fY A) 0 := by
  by_cases c : noP h A x = true
  · rw [if_pos c, if_pos c]
  · rw [if_neg c, if_neg c, an_first (hn (noP_p c).1)]
theorem e_last (hn : h = true → AnI A B W0 N0 (fY A) (EA V o)) : (if noP h A x = true then -1 else lTurn A (EA V o) x) = if noP h A x = true then -1 else laC (fun y => decide (runTo A B W0 (fY A) 4 y = x)) (fY A) := by
  by_cases c : noP h A x = true
  · rw [if_pos c, if_pos c]
  · rw [if_neg c, if_neg c, an_last (hn (noP_p c).1)]
theorem e_know (hn : h = true → AnI A B W0 N0 (fY A) (EA V o)) : (if noS h A x = true then -1 else knowers A (EA V o) x.toNat) = if noS h A x = true then -1 else lp (fP A) (fun q c => if (nTo A B W0 N0 (fY A) 1 q).toNat.testBit x.toNat then c + 1 else c) 0 := by
  by_cases c : noS h A x = true
  · rw [if_pos c, if_pos c]
  · have c1 : noS h A x = false := by cases q : noS h A x; rfl; exact absurd q c
    rw [if_neg c, if_neg c, an_know (hn (noS_f c1).1)]
theorem e_soonest (hA : VA A) (hn : h = true → AnI A B W0 N0 (fY A) (EA V o)) : (if noS h A x = true ∨ noP h A y = true then -1 else fKnow A (EA V o) x.toNat y.toNat) = if noS h A x = true ∨ noP h A y = true then -1 else fiC (fun i => (nTo A B W0 N0 (i + 1) 1 y.toNat).toNat.testBit x.toNat) (fY A) 0 := by
  by_cases c : noS h A x = true ∨ noP h A y = true
  · rw [if_pos c, if_pos c]
  · obtain ⟨h1, -, h3⟩ := noP_p (fun q => c (Or.inr q))
    have := fP10 hA
    rw [if_neg c, if_neg c, an_soon (hn h1) x.toNat y.toNat (by omega)]
theorem pyTr_p (c : pyTr h A x y = 0) : h = true ∧ (x.toNat : Int) = x ∧ x.toNat < fP A ∧ y.toNat + 1 ≤ fY A := by
  obtain ⟨⟨h1, h2, h3⟩, h4, h5⟩ := pyTr_0 c
  refine ⟨h1, by omega, ?_, ?_⟩
  · show x.toNat < (A 0 3).toNat
    omega
  · show y.toNat + 1 ≤ (A 0 0).toNat
    omega
theorem e_turnsOf {Wi : Nat → Nat → Int} {lw sd : Int} (hA : VA A) (hB : VB A B) (hk : ROk A (rBeg A Wi lw sd) 0) (hn : h = true → AnI A B (rBeg A Wi lw sd) N0 (fY A) (EA V o)) : (if pyTr h A x y = 0 then tBeh (EA V o) x (y.toNat + 1) else -1) = if pyTr h A x y = 0 then runTo A B (rBeg A Wi lw sd) (y.toNat + 1) 1 x.toNat else -1 := by
  by_cases c : pyTr h A x y = 0
  · obtain ⟨h1, h2, h3, h4⟩ := pyTr_p c
    have e := an_turns hA hB hk (hn h1) x.toNat (y.toNat + 1) h4 ((rBeg_row (A := A) (W := Wi) (lw := lw) (sd := sd) (fP A)).2.2 x.toNat h3).1
    rw [h2] at e
    rw [if_pos c, if_pos c, e]
  · rw [if_neg c, if_neg c]
theorem e_strength {Wi : Nat → Nat → Int} {lw sd : Int} (hA : VA A) (hB : VB A B) (hk : ROk A (rBeg A Wi lw sd) 0) (hn : h = true → AnI A B (rBeg A Wi lw sd) N0 (fY A) (EA V o)) : (if pyTr h A x y = 0 then A 4 x.toNat - tBeh (EA V o) x (y.toNat + 1) else -1) = if pyTr h A x y = 0 then runTo A B (rBeg A Wi lw sd) (y.toNat + 1) 2 x.toNat else -1 := by
  by_cases c : pyTr h A x y = 0
  · obtain ⟨h1, h2, h3, h4⟩ := pyTr_p c
    have e := an_strong hA hB hk (hn h1) x.toNat (y.toNat + 1) h4 ((rBeg_row (A := A) (W := Wi) (lw := lw) (sd := sd) (fP A)).2.2 x.toNat h3).2.1
    rw [h2] at e
    rw [if_pos c, if_pos c, e]
  · rw [if_neg c, if_neg c]
theorem e_knows (hA : VA A) (hn : h = true → AnI A B W0 N0 (fY A) (EA V o)) : (if pyTr h A x y = 0 then V (o + 161) (10 * y.toNat + x.toNat) else -1) = if pyTr h A x y = 0 then nTo A B W0 N0 (y.toNat + 1) 1 x.toNat else -1 := by
  by_cases c : pyTr h A x y = 0
  · obtain ⟨h1, h2, h3, h4⟩ := pyTr_p c
    have := fP10 hA
    have e : V (o + 161) (10 * y.toNat + x.toNat) = _ := ((hn h1).2.2 y.toNat (by omega)).2.2.2.2.2.1 x.toNat (by omega)
    rw [if_pos c, if_pos c, e]
  · rw [if_neg c, if_neg c]
theorem e_kept (hA : VA A) (hn : h = true → AnI A B W0 N0 (fY A) (EA V o)) : (if noS h A x = true then -1 else if noY A y = true then -1 else if (V (o + 160) y.toNat).toNat.testBit x.toNat = true then V (o + 162) (8 * y.toNat + x.toNat) else -2) = if noS h A x = true then -1 else if noY A y = true then -1 else if (nTo A B W0 N0 (y.toNat + 1) 0 1).toNat.testBit x.toNat = true then nTo A B W0 N0 (y.toNat + 1) 2 x.toNat else -2 := by
  by_cases c : noS h A x = true
  · rw [if_pos c, if_pos c]
  by_cases d : noY A y = true
  · rw [if_neg c, if_neg c, if_pos d, if_pos d]
  have c1 : noS h A x = false := by cases q : noS h A x; rfl; exact absurd q c
  have d1 : noY A y = false := by cases q : noY A y; rfl; exact absurd q d
  obtain ⟨h1, h2, h3⟩ := noS_f c1
  obtain ⟨h4, h5⟩ := noY_f d1
  have e8 := fS8 hA
  have hy : y.toNat < fY A := by
    show y.toNat < (A 0 0).toNat
    omega
  have a := (hn h1).2.2 y.toNat hy
  have e1 : V (o + 160) y.toNat = _ := a.2.2.2.2.1
  have e2 : V (o + 162) (8 * y.toNat + x.toNat) = _ := a.2.2.2.2.2.2 x.toNat (by omega)
  rw [if_neg c, if_neg c, if_neg d, if_neg d, e1, e2]
end Eqs
/-- the state of the law's loop -/
def LN (b o r ou N : Nat) (xs : Nat → Int) (M : Mem) : Prop := ∃ (T : Nat → Nat × Nat) (R : Nat → Nat → Option Nat) (V : Nat → Nat → Int) (J : Nat → Nat → Int64) (z fw fr : Nat) (σ : Nat → Nat) (f : Nat) (t : Nat → Int) (tp : Nat) (h : Bool) (A B : Nat → Nat → Int) (a m : Nat) (H K : Nat → Nat → Nat → Int) (wr pl tr : Int), M = (T, iV V, R, J, z) ∧ LJ T R V z b o r ou N xs fw fr σ f t tp h A B a m H K wr pl tr
theorem LN_of {T : Nat → Nat × Nat} {R : Nat → Nat → Option Nat} {V A B : Nat → Nat → Int} {J : Nat → Nat → Int64} {z : Nat} {o fw fr r f b ou N : Nat} {σ : Nat → Nat} {xs t : Nat → Int} {tp : Nat} {h : Bool} {a m : Nat} {H K : Nat → Nat → Nat → Int} {wr pl tr : Int} (hJ : LJ T R V z b o r ou N xs fw fr σ f t tp h A B a m H K wr pl tr) : LN b o r ou N xs (T, iV V, R, J, z) := ⟨T, R, V, J, z, fw, fr, σ, f, t, tp, h, A, B, a, m, H, K, wr, pl, tr, rfl, hJ⟩
/-- what is known of two places more is forgotten -/
theorem XL_jk {g : GG} {y : MD} {pc b o r ou : Nat} {x4 x5 x6 : Int32} {M : Mem} {k n : Nat} {Q : Option Value → Mem → Prop} (h : X g y pc [.ref b, .ref o, .ref r, .ref ou, .int x4, jk, jk] [] M k n Q) : X g y pc [.ref b, .ref o, .ref r, .ref ou, .int x4, .int x5, .int x6] [] M k n Q := by
  intro l p e R s m args below meth c H ls locs cells slots QF a1 a2 a3 a4 a5 a6 a7 a8
  refine h l p e R s m args below meth c H ls locs cells slots QF a1 a2 ⟨a3.1, a3.2.1, fun i v hi hv => ?_⟩ a4 a5 a6 a7 a8
  match i, hi with
  | 0, hi => exact a3.2.2 0 v hi hv
  | 1, hi => exact a3.2.2 1 v hi hv
  | 2, hi => exact a3.2.2 2 v hi hv
  | 3, hi => exact a3.2.2 3 v hi hv
  | 4, hi => exact a3.2.2 4 v hi hv
  | 5, hi => exact absurd (Option.some.inj hi).symm hv
  | 6, hi => exact absurd (Option.some.inj hi).symm hv
  | _ + 7, hi => cases hi
theorem lg_cmp_self {a : Int64} : lg_cmp a a = iI 0 := by
  unfold lg_cmp
  first | (rw [if_neg (Int64.lt_irrefl a), if_pos rfl]; rfl) | (simp; rfl) | simp [iI]
