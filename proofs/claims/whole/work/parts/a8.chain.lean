/-! ===== the chains: class and reference ===== -/
section Ch0
variable {A B N N' : Nat → Nat → Int}
/-- notes that agree where it counts -/
def NE (A N N' : Nat → Nat → Int) : Prop := N 0 1 = N' 0 1 ∧ (∀ p, p < 10 → N 1 p = N' 1 p) ∧ ∀ s, s < fSe A → (N 0 1).toNat.testBit s = true → N 2 s = N' 2 s
theorem nB1_c : ∀ m, lp m nB1 N 0 = N 0 ∧ ∀ p, p < m → lp m nB1 N 1 p = 0
  | 0 => ⟨rfl, fun p hp => absurd hp (by omega)⟩
  | m + 1 => by
    have ih := nB1_c m
    rw [lp_s]
    unfold nB1 at ih ⊢
    refine ⟨(u2_n (by decide)).trans ih.1, fun p hp => ?_⟩
    rw [u2_s]
    by_cases e : p = m
    · rw [e, u1_s]
    · rw [u1_n e]; exact ih.2 p (by omega)
theorem nB2_c (h : ∀ p, p < 10 → N 1 p = N' 1 p) (hA : VA A) : ∀ m, m ≤ fSe A → lp m (nB2 A) N 0 = N 0 ∧ ∀ p, p < 10 → lp m (nB2 A) N 1 p = lp m (nB2 A) N' 1 p
  | 0, _ => ⟨rfl, h⟩
  | m + 1, hm => by
    have ih := nB2_c h hA m (by omega)
    have hs := hA.2.2.2.2.2.2.2.2.2.2.2.2.1 m (by omega)
    have eP := fP10 hA
    rw [lp_s, lp_s]
    generalize lp m (nB2 A) N = M at *
    generalize lp m (nB2 A) N' = M' at *
    unfold nB2
    refine ⟨(u2_n (by decide)).trans ih.1, fun p hp => ?_⟩
    rw [u2_s, u2_s, ih.2 (A 16 m).toNat (by omega)]
    by_cases e : p = (A 16 m).toNat
    · rw [e, u1_s, u1_s]
    · rw [u1_n e, u1_n e]; exact ih.2 p hp
theorem NE_beg (hA : VA A) : NE A (nBeg A N) (nBeg A N') := by
  have a1 := nB1_c (N := u2 N 0 1 0) 10
  have a2 := nB1_c (N := u2 N' 0 1 0) 10
  have b1 := nB2_c (N := lp 10 nB1 (u2 N 0 1 0)) (N' := lp 10 nB1 (u2 N' 0 1 0)) (fun p hp => by rw [a1.2 p hp, a2.2 p hp]) hA (fSe A) (Nat.le_refl _)
  have b2 := nB2_c (N := lp 10 nB1 (u2 N' 0 1 0)) (N' := lp 10 nB1 (u2 N' 0 1 0)) (fun p hp => rfl) hA (fSe A) (Nat.le_refl _)
  have z1 : nBeg A N 0 1 = 0 := by unfold nBeg; rw [b1.1, a1.1, u2_s, u1_s]
  have z2 : nBeg A N' 0 1 = 0 := by unfold nBeg; rw [b2.1, a2.1, u2_s, u1_s]
  refine ⟨by rw [z1, z2], b1.2, fun s _ h => ?_⟩
  rw [z1] at h
  simp at h
theorem nB2_bit (hA : VA A) {s p : Nat} (hp : A 16 s ≠ (p : Int)) (h0 : N 1 p = 0) : ∀ m, m ≤ fSe A → (lp m (nB2 A) N 1 p).toNat.testBit s = false
  | 0, _ => by
    show (N 1 p).toNat.testBit s = false
    rw [h0]; exact Nat.zero_testBit s
  | m + 1, hm => by
    have ih := nB2_bit hA hp h0 m (by omega)
    have hs := hA.2.2.2.2.2.2.2.2.2.2.2.2.1 m (by omega)
    rw [lp_s]
    generalize lp m (nB2 A) N = M at *
    unfold nB2
    rw [u2_s]
    by_cases e : p = (A 16 m).toNat
    · rw [← e, u1_s, Int.toNat_natCast, Nat.testBit_or, ih, Nat.testBit_two_pow]
      have : m ≠ s := fun c => hp (by rw [← c]; omega)
      simp [this]
    · rw [u1_n e]; exact ih
theorem nBeg_bit (hA : VA A) {s p : Nat} (h10 : p < 10) (hp : A 16 s ≠ (p : Int)) : (nBeg A N 1 p).toNat.testBit s = false := nB2_bit hA hp ((nB1_c (N := u2 N 0 1 0) 10).2 p h10) (fSe A) (Nat.le_refl _)
theorem NE_rd {who s : Nat} (h : NE A N N') (hw : who < 10) (hs : s < fSe A) : NE A (nRd who s N) (nRd who s N') ∧ (∀ p, p ≠ who → nRd who s N 1 p = N 1 p) := by
  obtain ⟨h1, h2, h3⟩ := h
  have ec : ((N 0 1).toNat.testBit s = true ∧ (N 2 s).toNat.testBit who = false) ↔ ((N' 0 1).toNat.testBit s = true ∧ (N' 2 s).toNat.testBit who = false) := by
    rw [← h1]
    constructor
    · exact fun ⟨q1, q2⟩ => ⟨q1, by rw [← h3 s hs q1]; exact q2⟩
    · exact fun ⟨q1, q2⟩ => ⟨q1, by rw [h3 s hs q1]; exact q2⟩
  unfold nRd
  by_cases e : (N 0 1).toNat.testBit s = true ∧ (N 2 s).toNat.testBit who = false
  · rw [if_pos e, if_pos (ec.mp e)]
    refine ⟨⟨by rw [u2_n (by decide), u2_n (by decide)]; exact h1, fun p hp => ?_, fun s' hs' hb => ?_⟩, fun p hp => by rw [u2_s, u1_n hp]⟩
    · rw [u2_s, u2_s, h2 who hw]
      by_cases e2 : p = who
      · rw [e2, u1_s, u1_s]
      · rw [u1_n e2, u1_n e2]; exact h2 p hp
    · rw [u2_n (by decide)] at hb
      rw [u2_n (by decide), u2_n (by decide)]
      exact h3 s' hs' hb
  · rw [if_neg e, if_neg (fun c => e (ec.mpr c))]
    exact ⟨⟨h1, h2, h3⟩, fun _ _ => rfl⟩
theorem NE_read {who : Nat} (h : NE A N N') (hw : who < 10) : ∀ m, m ≤ fSe A → NE A (lp m (nRd who) N) (lp m (nRd who) N') ∧ (∀ p, p ≠ who → lp m (nRd who) N 1 p = N 1 p)
  | 0, _ => ⟨h, fun _ _ => rfl⟩
  | m + 1, hm => by
    have ih := NE_read h hw m (by omega)
    rw [lp_s, lp_s]
    have := NE_rd ih.1 hw (show m < fSe A by omega)
    exact ⟨this.1, fun p hp => (this.2 p hp).trans (ih.2 p hp)⟩
theorem nWr_c {who : Nat} : ∀ m, lp m (nWr A who) N 0 = N 0 ∧ lp m (nWr A who) N 1 = N 1 ∧ ∀ s, lp m (nWr A who) N 2 s = if s < m ∧ (N 1 who).toNat.testBit s = true then (if (N 0 1).toNat.testBit s = true then (((N 2 s).toNat &&& (A 17 (8 * who + s)).toNat : Nat) : Int) else A 17 (8 * who + s)) else N 2 s
  | 0 => ⟨rfl, rfl, fun s => by rw [if_neg (by omega)]; rfl⟩
  | m + 1 => by
    obtain ⟨i1, i2, i3⟩ := nWr_c m
    rw [lp_s]
    generalize lp m (nWr A who) N = M at *
    unfold nWr
    rw [i1, i2]
    by_cases e : (N 1 who).toNat.testBit m = true
    · rw [if_pos e]
      refine ⟨(u2_n (by decide)).trans i1, (u2_n (by decide)).trans i2, fun s => ?_⟩
      rw [u2_s]
      by_cases e2 : s = m
      · rw [e2, u1_s, if_pos (show m < m + 1 ∧ (N 1 who).toNat.testBit m = true from ⟨by omega, e⟩), i3 m, if_neg (show ¬ (m < m ∧ (N 1 who).toNat.testBit m = true) from fun c => by omega)]
      · rw [u1_n e2, i3 s]
        by_cases e3 : s < m ∧ (N 1 who).toNat.testBit s = true
        · rw [if_pos e3, if_pos (show s < m + 1 ∧ (N 1 who).toNat.testBit s = true from ⟨by omega, e3.2⟩)]
        · rw [if_neg e3, if_neg (show ¬ (s < m + 1 ∧ (N 1 who).toNat.testBit s = true) from fun c => e3 ⟨by omega, c.2⟩)]
    · rw [if_neg e]
      refine ⟨i1, i2, fun s => ?_⟩
      rw [i3 s]
      by_cases e3 : s < m ∧ (N 1 who).toNat.testBit s = true
      · rw [if_pos e3, if_pos (show s < m + 1 ∧ (N 1 who).toNat.testBit s = true from ⟨by omega, e3.2⟩)]
      · rw [if_neg e3, if_neg (show ¬ (s < m + 1 ∧ (N 1 who).toNat.testBit s = true) from fun c => e3 ⟨by
          by_cases e2 : s = m
          · exact absurd (e2 ▸ c.2) e
          · omega, c.2⟩)]
theorem NE_write {who : Nat} (h : NE A N N') (hw : who < 10) : NE A (nWrite A who N) (nWrite A who N') ∧ nWrite A who N 1 = N 1 := by
  obtain ⟨a1, a2, a3⟩ := nWr_c (A := A) (N := N) (who := who) (fSe A)
  obtain ⟨b1, b2, b3⟩ := nWr_c (A := A) (N := N') (who := who) (fSe A)
  obtain ⟨h1, h2, h3⟩ := h
  unfold nWrite nWrite1
  rw [a1, a2, b1, b2]
  refine ⟨⟨?_, fun p hp => ?_, fun s hs hb => ?_⟩, ?_⟩
  · rw [u2_s, u2_s, u1_s, u1_s, h1, h2 who hw]
  · rw [u2_n (by decide), u2_n (by decide), a2, b2]; exact h2 p hp
  · rw [u2_s, u1_s, Int.toNat_natCast, Nat.testBit_or] at hb
    rw [u2_n (by decide), u2_n (by decide), a3 s, b3 s, ← h2 who hw, ← h1]
    by_cases e : (N 1 who).toNat.testBit s = true
    · have hse : s < fSe A ∧ (N 1 who).toNat.testBit s = true := ⟨hs, e⟩
      rw [if_pos hse, if_pos hse]
      by_cases e2 : (N 0 1).toNat.testBit s = true
      · rw [if_pos e2, if_pos e2, h3 s hs e2]
      · rw [if_neg e2, if_neg e2]
    · rw [if_neg (fun c => e c.2), if_neg (fun c => e c.2)]
      refine h3 s hs ?_
      cases q : (N 0 1).toNat.testBit s
      · rw [q] at hb
        simp at hb
        exact absurd hb e
      · rfl
  · rw [u2_n (by decide)]; exact a2
theorem NE_turn {who : Nat} {d : Bool} (h : NE A N N') (hw : who < 10) : NE A (nTurn A who d N) (nTurn A who d N') ∧ (∀ p, p ≠ who → nTurn A who d N 1 p = N 1 p) := by
  have hr := NE_read h hw (fSe A) (Nat.le_refl _)
  unfold nTurn nRead
  cases d
  · rw [if_neg (by decide), if_neg (by decide)]
    have := NE_write hr.1 hw
    exact ⟨this.1, fun p hp => by rw [this.2]; exact hr.2 p hp⟩
  · rw [if_pos rfl, if_pos rfl]
    exact hr
theorem NE_rfl : NE A N N := ⟨rfl, fun _ _ => rfl, fun _ _ _ => rfl⟩
end Ch0
section Ch1
variable {A B : Nat → Nat → Int} {s p : Nat}
abbrev CS2 : Type := (Nat → Nat → Int) × (Nat → Nat → Int)
abbrev hiC (s p : Nat) (S : CS2) (y : Nat) : Prop := S.1 4 y = (p : Int) ∧ (S.2 1 p).toNat.testBit s = true
def mnC (t x : Int) : Int := if x < 0 ∨ t < x then t else x
theorem mnC_c {a b x : Int} (ha : 0 ≤ a) (hb : 0 ≤ b) : mnC a (mnC b x) = mnC b (mnC a x) := by
  unfold mnC
  repeat' split
  all_goals omega
theorem mnC_i {a x : Int} (ha : 0 ≤ a) : mnC a (mnC a x) = mnC a x := by
  unfold mnC
  repeat' split
  all_goals omega
def chE (s p : Nat) (S : CS2) (y : Nat) (x : Int) : Int := if hiC s p S y then mnC ((y + 1 : Nat) : Int) x else x
def chX (A B : Nat → Nat → Int) (S : CS2) (y : Nat) (w : Int) : CS2 := (mwW A B S.1 y w, nst A (mwW A B S.1 y w) S.2 y)
def chG (A B : Nat → Nat → Int) (s p : Nat) : Sr CS2 Int := (fP A, fun S y w => mwOk A B S.1 y w, chX A B, chE s p, fun _ x => x, fun _ _ => false)
theorem chE_c (t : CS2) (y : Nat) (S : CS2) (y' : Nat) (x : Int) : chE s p t y (chE s p S y' x) = chE s p S y' (chE s p t y x) := by
  unfold chE
  by_cases h1 : hiC s p t y
  · by_cases h2 : hiC s p S y'
    · rw [if_pos h1, if_pos h2, if_pos h2, if_pos h1]
      exact mnC_c (by omega) (by omega)
    · rw [if_pos h1, if_neg h2, if_neg h2, if_pos h1]
  · by_cases h2 : hiC s p S y'
    · rw [if_neg h1, if_pos h2, if_pos h2, if_neg h1]
    · rw [if_neg h1, if_neg h2, if_neg h2, if_neg h1]
theorem chE_i (t : CS2) (y : Nat) (x : Int) : chE s p t y (chE s p t y x) = chE s p t y x := by
  unfold chE
  by_cases h1 : hiC s p t y
  · rw [if_pos h1, if_pos h1]
    exact mnC_i (by omega)
  · rw [if_neg h1, if_neg h1]
theorem chG_ok (hP : 1 ≤ fP A) : SrOk (chG A B s p) := ⟨hP, (fun _ _ _ _ _ h => by cases h), chE_c, chE_i, fun _ _ _ _ => rfl, fun _ _ _ _ => rfl⟩
/-- one row of learning, seen from one cell -/
theorem ln_cell {who : Nat} {t : Int} (hp : p < 10) (hw : who < 10) {E : Nat → Nat → Int} : ∀ m, (∀ a, a ≠ 5 → lp m (lnS who t) E a = E a) ∧ lp m (lnS who t) E 5 (10 * s + p) = if s < m ∧ who = p ∧ (E 12 who).toNat.testBit s = true ∧ (E 5 (10 * s + p) < 0 ∨ t < E 5 (10 * s + p)) then t else E 5 (10 * s + p)
  | 0 => ⟨fun _ _ => rfl, by rw [if_neg (by omega)]; rfl⟩
  | m + 1 => by
    obtain ⟨i1, i2⟩ := ln_cell (t := t) hp hw (E := E) m
    rw [lp_s]
    generalize lp m (lnS who t) E = F at *
    have e12 := i1 12 (by decide)
    unfold lnS
    rw [e12]
    constructor
    · intro a ha
      split
      · rw [u2_n ha]; exact i1 a ha
      · exact i1 a ha
    · by_cases e : 10 * m + who = 10 * s + p
      · have em : m = s := by omega
        have ew : who = p := by omega
        subst em
        subst ew
        rw [i2, if_neg (by omega : ¬ (m < m ∧ _))]
        by_cases c : (E 12 who).toNat.testBit m = true ∧ (E 5 (10 * m + who) < 0 ∨ t < E 5 (10 * m + who))
        · rw [if_pos c, if_pos ⟨by omega, rfl, c⟩, u2_s, u1_s]
        · rw [if_neg c, if_neg (fun q => c q.2.2), i2, if_neg (by omega : ¬ (m < m ∧ _))]
      · have q : (if (E 12 who).toNat.testBit m = true ∧ (F 5 (10 * m + who) < 0 ∨ t < F 5 (10 * m + who)) then u2 F 5 (10 * m + who) t else F) 5 (10 * s + p) = F 5 (10 * s + p) := by
          split
          · rw [u2_s, u1_n (by omega)]
          · rfl
        rw [q, i2]
        by_cases c : s < m ∧ who = p ∧ (E 12 who).toNat.testBit s = true ∧ (E 5 (10 * s + p) < 0 ∨ t < E 5 (10 * s + p))
        · rw [if_pos c, if_pos ⟨by omega, c.2⟩]
        · rw [if_neg c, if_neg (fun q => c ⟨by
            by_cases c2 : s = m
            · exact absurd (by omega : 10 * m + who = 10 * s + p) e
            · omega, q.2⟩)]
theorem pnA_I (hA : VA A) (hB : VB A B) (hs : s < fSe A) (hp : p < 10) : ∀ (d i : Nat) (F : Nat → Nat → Int) (S : CS2), i + d = 4 → PnOk A F i → RE A i (fun j => F (6 + j)) S.1 → NE A (fun j => F (11 + j)) S.2 → (pnA A B d i F).1.toNat = (tyS (chG A B s p) 4 d i S (F 1) (F 5 (10 * s + p))).1 ∧ (pnA A B d i F).2 5 (10 * s + p) = (tyS (chG A B s p) 4 d i S (F 1) (F 5 (10 * s + p))).2 ∧ (pnA A B d i F).2 1 = F 1
  | 0, i, F, S, hi, hk, h1, h2 => ⟨rfl, rfl, rfl⟩
  | d + 1, i, F, S, hi, hk, h1, h2 => by
    rw [pnA, tyS]
    have hok : sO (chG A B s p) S i (F 1 i) = mwOk A B (fun j => F (6 + j)) i (F 1 i) := (RE_mwOk h1 _).symm
    rw [hok]
    by_cases e : mwOk A B (fun j => F (6 + j)) i (F 1 i) = true
    · have hct : sCt (chG A B s p) (sX (chG A B s p) S i (F 1 i)) (sE (chG A B s p) (sX (chG A B s p) S i (F 1 i)) i (F 5 (10 * s + p))) = false := rfl
      rw [if_pos e, if_pos e, hct, if_neg (show ¬ (false = true) by decide)]
      have h0 := (hk.2.2.2 i (by omega)).1
      have hr := RE_mwW hA hk.1 h1 h0 e
      have hk1 := pnR_ok hA hk (by omega) e
      have hel : -2 ≤ pnR A B i F 10 i ∧ pnR A B i F 10 i < A 0 3 := hk1.1.2.2.2.2.2.2.2.2.2 i (by omega)
      have eP := fP10 hA
      have hk2 := pnT_ok (i := i) hA hk1 (by omega) (by omega)
      have r6 : ∀ j, j < 5 → pnR A B i F (6 + j) = mwW A B (fun j => F (6 + j)) i (F 1 i) j := fun j hj => by unfold pnR; rw [pB_at hj]
      have rO : ∀ a, (a < 6 ∨ 11 ≤ a) → pnR A B i F a = F a := fun a ha => by unfold pnR; rw [pB_out (by omega)]
      have r4 : mwW A B S.1 i (F 1 i) 4 i = pnR A B i F 10 i := by
        rw [show pnR A B i F 10 = _ from r6 4 (by decide)]
        exact (RE_4 hr (by omega)).symm
      have r06 : mwW A B S.1 i (F 1 i) 0 6 = pnR A B i F 6 6 := by
        rw [show pnR A B i F 6 = _ from r6 0 (by decide)]
        exact (RE_0 hr (by decide) (by decide)).symm
      have hre : RE A (i + 1) (fun j => pnR A B i F (6 + j)) (mwW A B S.1 i (F 1 i)) := by
        intro a j hd
        have ha : a < 5 := by unfold dm at hd; omega
        show pnR A B i F (6 + a) j = _
        rw [r6 a ha]
        exact hr a j hd
      have hne : NE A (fun j => pnR A B i F (11 + j)) S.2 := by
        have ee : (fun j => pnR A B i F (11 + j)) = fun j => F (11 + j) := funext fun j => rO _ (by omega)
        rw [ee]; exact h2
      have r1 : pnR A B i F 1 = F 1 := rO 1 (by decide)
      have r5 : pnR A B i F 5 = F 5 := rO 5 (by decide)
      generalize pnR A B i F = F1 at *
      have key : RE A (i + 1) (fun j => pnT A i F1 (6 + j)) (mwW A B S.1 i (F 1 i)) ∧ NE A (fun j => pnT A i F1 (11 + j)) (nst A (mwW A B S.1 i (F 1 i)) S.2 i) ∧ pnT A i F1 1 = F 1 ∧ pnT A i F1 5 (10 * s + p) = chE s p (chX A B S i (F 1 i)) i (F 5 (10 * s + p)) := by
        unfold pnT nst chE hiC chX mnC
        show _ ∧ NE A _ (if 0 ≤ mwW A B S.1 i (F 1 i) 4 i then _ else _) ∧ _ ∧ _ = if (mwW A B S.1 i (F 1 i) 4 i = (p : Int) ∧ ((nst A (mwW A B S.1 i (F 1 i)) S.2 i) 1 p).toNat.testBit s = true) then _ else _
        rw [r4, r06]
        by_cases c : 0 ≤ F1 10 i
        · rw [if_pos c, if_pos c]
          have hw : (F1 10 i).toNat < 10 := by omega
          have nO : ∀ a, (a < 11 ∨ 14 ≤ a) → pnN A i F1 a = F1 a := fun a ha => by unfold pnN; rw [pB_out (by omega)]
          have nI : ∀ j, j < 3 → pnN A i F1 (11 + j) = nTurn A (F1 10 i).toNat (decide (F1 6 6 ≠ 0)) (fun j => F1 (11 + j)) j := fun j hj => by unfold pnN; rw [pB_at hj]
          have nt := NE_turn (d := decide (F1 6 6 ≠ 0)) hne hw
          unfold lnE
          obtain ⟨l1, l2⟩ := ln_cell (s := s) (p := p) (who := (F1 10 i).toNat) (t := ((i + 1 : Nat) : Int)) hp hw (E := pnN A i F1) (fSe A)
          refine ⟨fun a j hd => ?_, ⟨?_, fun q hq => ?_, fun s' hs' hb => ?_⟩, ?_, ?_⟩
          · have ha : a < 5 := by unfold dm at hd; omega
            show lp (fSe A) (lnS _ _) (pnN A i F1) (6 + a) j = _
            rw [l1 _ (by omega), nO _ (by omega)]
            exact hre a j hd
          · show lp (fSe A) (lnS _ _) (pnN A i F1) 11 1 = _
            rw [l1 _ (by omega), show pnN A i F1 11 = _ from nI 0 (by decide)]
            exact nt.1.1
          · show lp (fSe A) (lnS _ _) (pnN A i F1) 12 q = _
            rw [l1 _ (by omega), show pnN A i F1 12 = _ from nI 1 (by decide)]
            exact nt.1.2.1 q hq
          · show lp (fSe A) (lnS _ _) (pnN A i F1) 13 s' = _
            have hb : ((lp (fSe A) (lnS (F1 10 i).toNat ((i + 1 : Nat) : Int)) (pnN A i F1)) 11 1).toNat.testBit s' = true := hb
            rw [l1 _ (by omega), show pnN A i F1 11 = _ from nI 0 (by decide)] at hb
            rw [l1 _ (by omega), show pnN A i F1 13 = _ from nI 2 (by decide)]
            exact nt.1.2.2 s' hs' hb
          · show lp (fSe A) (lnS _ _) (pnN A i F1) 1 = _
            rw [l1 _ (by omega), nO _ (by omega)]
            exact r1
          · rw [l2]
            have e5 : pnN A i F1 5 = F 5 := (nO 5 (by omega)).trans r5
            have e12 : pnN A i F1 12 = nTurn A (F1 10 i).toNat (decide (F1 6 6 ≠ 0)) (fun j => F1 (11 + j)) 1 := nI 1 (by decide)
            have en : nst A (mwW A B S.1 i (F 1 i)) S.2 i = nTurn A (F1 10 i).toNat (decide (F1 6 6 ≠ 0)) S.2 := by
              unfold nst
              rw [r4, r06, if_pos c]
            rw [en, e5, e12, nt.1.2.1 _ hw]
            by_cases c1 : F1 10 i = (p : Int)
            · have c2 : (F1 10 i).toNat = p := by omega
              rw [c2]
              by_cases c3 : (nTurn A p (decide (F1 6 6 ≠ 0)) S.2 1 p).toNat.testBit s = true
              · rw [if_pos (show F1 10 i = (p : Int) ∧ _ from ⟨c1, c3⟩)]
                by_cases c4 : F 5 (10 * s + p) < 0 ∨ ((i + 1 : Nat) : Int) < F 5 (10 * s + p)
                · rw [if_pos c4, if_pos ⟨hs, rfl, c3, c4⟩]
                · rw [if_neg c4, if_neg (fun q => c4 q.2.2.2)]
              · rw [if_neg (fun q => c3 q.2.2.1), if_neg (fun q => c3 q.2)]
            · rw [if_neg (fun q => by have := q.2.1; omega), if_neg (fun q => c1 q.1)]
        · rw [if_neg c, if_neg c, if_neg (by omega)]
          exact ⟨hre, hne, r1, by rw [r5]⟩
      obtain ⟨y1, y2, y3, y4⟩ := key
      have ih := pnA_I hA hB hs hp d (i + 1) (pnT A i F1) (chX A B S i (F 1 i)) (by omega) hk2 y1 y2
      rw [y3, y4] at ih
      exact ih
    · rw [if_neg e, if_neg e]
      exact ⟨Int.toNat_natCast _, rfl, rfl⟩
end Ch1
