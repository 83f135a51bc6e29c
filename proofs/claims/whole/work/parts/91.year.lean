/-! ===== the reference's run and the class's, year by year ===== -/
/-- the reference's run ahead of year y is W -/
def RM (A E W : Nat → Nat → Int) (y : Nat) : Prop :=
  (E 0 40 = W 0 1 ∧ E 0 39 = W 0 2 ∧ E 0 44 = W 0 9 ∧ E 0 46 = W 0 8 ∧ E 0 45 = if W 0 7 = -1 then -2 else W 0 7) ∧
  (∀ p, p < fP A → E 15 p = W 1 p ∧ E 16 p = W 2 p ∧ E 18 p = W 3 p) ∧
  (∀ p, p < fP A → (1 ≤ E 20 p ∧ (E 20 p ≤ (y : Int) ∨ E 20 p = 25)) ∧ (dd W).testBit p = decide (E 20 p ≤ (y : Int))) ∧
  (W 0 6 ≠ 0 ↔ (y ≠ 0 ∧ 0 ≤ W 4 (y - 1) ∧ E 20 (W 4 (y - 1)).toNat = (y : Int))) ∧
  ElM A E W y ∧ (∀ p, p < fP A → (dd W).testBit p = false → 1 ≤ W 2 p) ∧ ROk A W y ∧ TrM E W
section Tk
variable {A W : Nat → Nat → Int} {y : Nat}
theorem tk1_r (who : Int) : (∀ c, c ≠ 6 → c ≠ 10 → tk1 W y who 0 c = W 0 c) ∧ tk1 W y who 0 6 = 0 ∧ tk1 W y who 1 = W 1 ∧ tk1 W y who 2 = W 2 ∧ tk1 W y who 3 = W 3 ∧ tk1 W y who 4 = u1 (W 4) y who := by
  unfold tk1
  by_cases h : W 0 6 = 0
  · rw [if_pos h]
    exact ⟨fun c h1 h2 => by rw [u2_s, u1_n h1, u2_n (by decide)], by rw [u2_s, u1_s], by rw [u2_n (by decide), u2_n (by decide)], by rw [u2_n (by decide), u2_n (by decide)], by rw [u2_n (by decide), u2_n (by decide)], by rw [u2_n (by decide), u2_s]⟩
  · rw [if_neg h]
    exact ⟨fun c h1 h2 => by rw [u2_s, u1_n h1, u2_s, u1_n h2, u2_n (by decide)], by rw [u2_s, u1_s], by rw [u2_n (by decide), u2_n (by decide), u2_n (by decide)], by rw [u2_n (by decide), u2_n (by decide), u2_n (by decide)], by rw [u2_n (by decide), u2_n (by decide), u2_n (by decide)], by rw [u2_n (by decide), u2_n (by decide), u2_s]⟩
/-- what a turn of q leaves in the class's run -/
theorem takeT_q (q : Nat) : (∀ c, c ≠ 5 → c ≠ 6 → c ≠ 7 → c ≠ 8 → c ≠ 9 → c ≠ 10 → takeT A W y (q : Int) 0 c = W 0 c) ∧ takeT A W y (q : Int) 0 7 = (q : Int) ∧ takeT A W y (q : Int) 0 8 = W 0 8 + hmS A y q ∧ takeT A W y (q : Int) 1 = u1 (W 1) q (W 1 q + 1) ∧ takeT A W y (q : Int) 2 = u1 (W 2) q (W 2 q - 1) ∧ takeT A W y (q : Int) 3 = (if A 1 q = 2 then u1 (W 3) q (W 3 q - A 0 2) else W 3) ∧ takeT A W y (q : Int) 4 = u1 (W 4) y (q : Int) ∧
    (if 0 < W 2 q - 1 then takeT A W y (q : Int) 0 5 = W 0 5 ∧ takeT A W y (q : Int) 0 6 = 0 ∧ takeT A W y (q : Int) 0 9 = W 0 9 else takeT A W y (q : Int) 0 5 = ((dd W ||| 2 ^ q : Nat) : Int) ∧ takeT A W y (q : Int) 0 6 = 1 ∧ takeT A W y (q : Int) 0 9 = W 0 9 + 1) := by
  obtain ⟨a1, a2, a3, a4, a5, a6⟩ := tk1_r (W := W) (y := y) (q : Int)
  unfold takeT
  rw [if_pos (by omega), Int.toNat_natCast]
  unfold tkT
  generalize tk1 W y (q : Int) = U at *
  have b1 : (∀ c, c ≠ 7 → c ≠ 8 → tk2 A U y q 0 c = U 0 c) ∧ tk2 A U y q 0 7 = (q : Int) ∧ tk2 A U y q 0 8 = U 0 8 + hmS A y q ∧ tk2 A U y q 1 = u1 (U 1) q (U 1 q + 1) ∧ tk2 A U y q 2 = u1 (U 2) q (U 2 q - 1) ∧ tk2 A U y q 3 = U 3 ∧ tk2 A U y q 4 = U 4 := by
    unfold tk2
    refine ⟨fun c h1 h2 => ?_, ?_, ?_, ?_, ?_, ?_, ?_⟩
    · rw [u2_s, u1_n h2, u2_n (by decide), u2_n (by decide), u2_s, u1_n h1]
    · rw [u2_s, u1_n (by decide), u2_n (by decide), u2_n (by decide), u2_s, u1_s]
    · rw [u2_s, u1_s]
    · rw [u2_n (by decide), u2_n (by decide), u2_s, u2_n (by decide)]
    · rw [u2_n (by decide), u2_s, u2_n (by decide), u2_n (by decide)]
    · rw [u2_n (by decide), u2_n (by decide), u2_n (by decide), u2_n (by decide)]
    · rw [u2_n (by decide), u2_n (by decide), u2_n (by decide), u2_n (by decide)]
  obtain ⟨b1, b2, b3, b4, b5, b6, b7⟩ := b1
  generalize tk2 A U y q = U2 at *
  have c1 : (∀ a, a ≠ 3 → tk3 A U2 q a = U2 a) ∧ tk3 A U2 q 3 = (if A 1 q = 2 then u1 (U2 3) q (U2 3 q - A 0 2) else U2 3) := by
    unfold tk3
    split
    · exact ⟨fun a ha => u2_n ha, by rw [u2_s]⟩
    · exact ⟨fun _ _ => rfl, rfl⟩
  obtain ⟨c1, c2⟩ := c1
  generalize tk3 A U2 q = U3 at *
  have e0 : ∀ c, c ≠ 7 → c ≠ 8 → U3 0 c = U 0 c := fun c h1 h2 => by rw [c1 0 (by decide), b1 c h1 h2]
  have e2 : U3 2 q = W 2 q - 1 := by rw [c1 2 (by decide), b5, u1_s, a4]
  have e5 : dd U3 = dd W := by show (U3 0 5).toNat = (W 0 5).toNat; rw [e0 5 (by decide) (by decide), a1 5 (by decide) (by decide)]
  unfold tk4
  by_cases h : 0 < W 2 q - 1
  · rw [if_pos (by rw [e2]; exact h)]
    rw [if_pos h]
    refine ⟨fun c h5 h6 h7 h8 h9 h10 => by rw [e0 c h7 h8, a1 c h6 h10], by rw [c1 0 (by decide), b2], by rw [c1 0 (by decide), b3, a1 8 (by decide) (by decide)], by rw [c1 1 (by decide), b4, a3], by rw [c1 2 (by decide), b5, a4], by rw [c2, b6, a5], by rw [c1 4 (by decide), b7, a6], by rw [e0 5 (by decide) (by decide), a1 5 (by decide) (by decide)], by rw [e0 6 (by decide) (by decide), a2], by rw [e0 9 (by decide) (by decide), a1 9 (by decide) (by decide)]⟩
  · rw [if_neg (by rw [e2]; exact h)]
    rw [if_neg h, e5]
    refine ⟨fun c h5 h6 h7 h8 h9 h10 => by rw [u2_s, u1_n h9, u2_s, u1_n h6, u2_s, u1_n h5, e0 c h7 h8, a1 c h6 h10], by rw [u2_s, u1_n (by decide), u2_s, u1_n (by decide), u2_s, u1_n (by decide), c1 0 (by decide), b2], by rw [u2_s, u1_n (by decide), u2_s, u1_n (by decide), u2_s, u1_n (by decide), c1 0 (by decide), b3, a1 8 (by decide) (by decide)], by rw [u2_n (by decide), u2_n (by decide), u2_n (by decide), c1 1 (by decide), b4, a3], by rw [u2_n (by decide), u2_n (by decide), u2_n (by decide), c1 2 (by decide), b5, a4], by rw [u2_n (by decide), u2_n (by decide), u2_n (by decide), c2, b6, a5], by rw [u2_n (by decide), u2_n (by decide), u2_n (by decide), c1 4 (by decide), b7, a6], by rw [u2_s, u1_n (by decide), u2_s, u1_n (by decide), u2_s, u1_s], by rw [u2_s, u1_n (by decide), u2_s, u1_s], by rw [u2_s, u1_s, e0 9 (by decide) (by decide), a1 9 (by decide) (by decide)]⟩
theorem takeT_n : takeT A W y (-2) = tk1 W y (-2) := by
  unfold takeT
  rw [if_neg (by decide)]
end Tk
section RMs
variable {A B E E' W W1 : Nat → Nat → Int} {y : Nat}
theorem RM_none (h : RM A E W y) (hy : y < 24) (hok : ROk A (takeT A W y (-2)) (y + 1)) (h0 : ∀ c, c = 39 ∨ c = 40 ∨ c = 42 ∨ c = 43 ∨ c = 44 ∨ c = 45 ∨ c = 46 → E' 0 c = E 0 c) (h15 : E' 15 = E 15) (h16 : E' 16 = E 16) (h18 : E' 18 = E 18) (h20 : E' 20 = E 20) (h5 : E' 5 = u1 (E 5) y (-2)) : RM A E' (takeT A W y (-2)) (y + 1) := by
  obtain ⟨⟨r1, r2, r3, r4, r5⟩, rp, rd, r6, re, ra, rk, rt⟩ := h
  rw [takeT_n] at hok ⊢
  obtain ⟨a1, a2, a3, a4, a5, a6⟩ := tk1_r (W := W) (y := y) (-2)
  have ed : dd (tk1 W y (-2)) = dd W := by show (tk1 W y (-2) 0 5).toNat = _; rw [a1 5 (by decide) (by decide)]
  refine ⟨⟨by rw [h0 40 (by omega), r1, a1 1 (by decide) (by decide)], by rw [h0 39 (by omega), r2, a1 2 (by decide) (by decide)], by rw [h0 44 (by omega), r3, a1 9 (by decide) (by decide)], by rw [h0 46 (by omega), r4, a1 8 (by decide) (by decide)], by rw [h0 45 (by omega), r5, a1 7 (by decide) (by decide)]⟩, fun p hp => by rw [h15, h16, h18, a3, a4, a5]; exact rp p hp, fun p hp => ?_, ?_, fun i hi => ?_, fun p hp hd => by rw [a4]; rw [ed] at hd; exact ra p hp hd, hok, ?_⟩
  · have := rd p hp
    rw [h20, ed, this.2]
    refine ⟨⟨this.1.1, by omega⟩, ?_⟩
    rcases this.1.2 with e | e
    · rw [decide_eq_true e, decide_eq_true (by omega)]
    · rw [e, decide_eq_false (by omega), decide_eq_false (by omega)]
  · rw [a2, Nat.add_sub_cancel, a6, u1_s]
    constructor
    · intro c; exact absurd rfl c
    · intro c; exact absurd c.2.1 (by decide)
  · rw [h5, a6]
    by_cases e : i = y
    · rw [e, u1_s, u1_s]
      exact ⟨rfl, Or.inl rfl, by have := rk.2.2.2.2.2.2.1; omega⟩
    · rw [u1_n e, u1_n e]; exact re i (by omega)
  · unfold TrM
    rw [h0 42 (by omega), h0 43 (by omega), a1 3 (by decide) (by decide), a1 4 (by decide) (by decide)]
    exact rt
theorem RM_take {q : Nat} (h : RM A E W y) (hy : y < 24) (hq : q < fP A) (hP : (fP A : Int) = A 0 3) (hal : (dd W).testBit q = false) (w1 : ∀ a j, ¬ (a = 0 ∧ j = 2) → a ≠ 3 → W1 a j = W a j) (hok : ROk A (takeT A W1 y (q : Int)) (y + 1))
    (h0 : ∀ c, c = 40 ∨ c = 42 ∨ c = 43 → E' 0 c = E 0 c) (h39 : E' 0 39 = W1 0 2) (h45 : E' 0 45 = (q : Int)) (h46 : E' 0 46 = E 0 46 + hmS A y q) (h15 : E' 15 = u1 (E 15) q (E 15 q + 1)) (h16 : E' 16 = u1 (E 16) q (E 16 q - 1)) (h18 : ∀ p, p < fP A → E' 18 p = (if A 1 q = 2 then u1 (W1 3) q (W1 3 q - A 0 2) else W1 3) p)
    (h20 : if E 16 q - 1 = 0 then E' 20 = u1 (E 20) q ((y : Int) + 1) ∧ E' 0 44 = E 0 44 + 1 else E' 20 = E 20 ∧ E' 0 44 = E 0 44) (h5 : E' 5 = u1 (E 5) y (q : Int)) : RM A E' (takeT A W1 y (q : Int)) (y + 1) ∧ (takeT A W1 y (q : Int) 0 6 ≠ 0 ↔ E 16 q - 1 = 0) := by
  obtain ⟨⟨r1, r2, r3, r4, r5⟩, rp, rd, r6, re, ra, rk, rt⟩ := h
  obtain ⟨t1, t7, t8, t11, t12, t13, t14, t5⟩ := takeT_q (A := A) (W := W1) (y := y) q
  have eW1 : W1 1 = W 1 := by funext j; exact w1 1 j (by omega) (by decide)
  have eW2 : W1 2 = W 2 := by funext j; exact w1 2 j (by omega) (by decide)
  have eW4 : W1 4 = W 4 := by funext j; exact w1 4 j (by omega) (by decide)
  have e0 : ∀ c, c ≠ 2 → W1 0 c = W 0 c := fun c hc => w1 0 c (by omega) (by decide)
  have hqa := ra q hq hal
  have hq16 := (rp q hq).2.1
  rw [eW1] at t11
  rw [eW2] at t12 t5
  rw [eW4] at t14
  have edd : dd W1 = dd W := by show (W1 0 5).toNat = _; rw [e0 5 (by decide)]
  have hq20 : E 20 q = 25 := by
    have := rd q hq
    rw [hal] at this
    have h1 := of_decide_eq_false this.2.symm
    omega
  generalize takeT A W1 y (q : Int) = W' at *
  have h6 : (W' 0 6 ≠ 0 ↔ E 16 q - 1 = 0) := by
    rw [hq16]
    by_cases c : 0 < W 2 q - 1
    · rw [if_pos c] at t5
      rw [t5.2.1]
      constructor
      · intro d; exact absurd rfl d
      · intro d; omega
    · rw [if_neg c] at t5
      rw [t5.2.1]
      constructor
      · intro _; omega
      · intro _; decide
  refine ⟨⟨⟨by rw [h0 40 (by omega), r1, t1 1 (by decide) (by decide) (by decide) (by decide) (by decide) (by decide), e0 1 (by decide)], by rw [h39, t1 2 (by decide) (by decide) (by decide) (by decide) (by decide) (by decide)], ?_, by rw [h46, r4, t8, e0 8 (by decide)], by rw [h45, t7, if_neg (by omega)]⟩, fun p hp => ⟨?_, ?_, ?_⟩, fun p hp => ?_, ?_, fun i hi => ?_, fun p hp hd => ?_, hok, ?_⟩, h6⟩
  · by_cases c : 0 < W 2 q - 1
    · rw [if_pos c] at t5
      rw [if_neg (by omega)] at h20
      rw [h20.2, t5.2.2, r3, e0 9 (by decide)]
    · rw [if_neg c] at t5
      rw [if_pos (by omega)] at h20
      rw [h20.2, t5.2.2, r3, e0 9 (by decide)]
  · rw [h15, t11]
    by_cases e : p = q
    · rw [e, u1_s, u1_s, (rp q hq).1]
    · rw [u1_n e, u1_n e, (rp p hp).1]
  · rw [h16, t12]
    by_cases e : p = q
    · rw [e, u1_s, u1_s, (rp q hq).2.1]
    · rw [u1_n e, u1_n e, (rp p hp).2.1]
  · rw [h18 p hp, t13]
  · have hr := rd p hp
    by_cases c : 0 < W 2 q - 1
    · rw [if_pos c] at t5
      rw [if_neg (by omega)] at h20
      have ed : dd W' = dd W := by show (W' 0 5).toNat = _; rw [t5.1]; exact edd
      rw [h20.1, ed, hr.2]
      refine ⟨⟨hr.1.1, by omega⟩, ?_⟩
      rcases hr.1.2 with e | e
      · rw [decide_eq_true e, decide_eq_true (by omega)]
      · rw [e, decide_eq_false (by omega), decide_eq_false (by omega)]
    · rw [if_neg c] at t5
      rw [if_pos (by omega)] at h20
      have ed : dd W' = dd W ||| 2 ^ q := by show (W' 0 5).toNat = _; rw [t5.1, edd, Int.toNat_natCast]
      rw [h20.1, ed, Nat.testBit_or, hr.2]
      by_cases e : p = q
      · rw [e, u1_s, Nat.testBit_two_pow_self, Bool.or_true]
        exact ⟨⟨by omega, by omega⟩, (decide_eq_true (by omega)).symm⟩
      · rw [u1_n e, Nat.testBit_two_pow_of_ne (fun c => e c.symm), Bool.or_false]
        refine ⟨⟨hr.1.1, by omega⟩, ?_⟩
        rcases hr.1.2 with e | e
        · rw [decide_eq_true e, decide_eq_true (by omega)]
        · rw [e, decide_eq_false (by omega), decide_eq_false (by omega)]
  · rw [h6, Nat.add_sub_cancel, t14, u1_s, Int.toNat_natCast]
    by_cases c : E 16 q - 1 = 0
    · rw [if_pos c] at h20
      rw [h20.1, u1_s]
      exact ⟨fun _ => ⟨by omega, by omega, by omega⟩, fun _ => c⟩
    · rw [if_neg c] at h20
      rw [h20.1, hq20]
      exact ⟨fun d => absurd d c, fun d => by omega⟩
  · rw [h5, t14]
    by_cases e : i = y
    · rw [e, u1_s, u1_s]
      exact ⟨rfl, Or.inr (by omega), by omega⟩
    · rw [u1_n e, u1_n e]; exact re i (by omega)
  · rw [t12]
    by_cases c : 0 < W 2 q - 1
    · rw [if_pos c] at t5
      have ed : dd W' = dd W := by show (W' 0 5).toNat = _; rw [t5.1]; exact edd
      rw [ed] at hd
      by_cases e : p = q
      · rw [e, u1_s]; omega
      · rw [u1_n e]; exact ra p hp hd
    · rw [if_neg c] at t5
      have ed : dd W' = dd W ||| 2 ^ q := by show (W' 0 5).toNat = _; rw [t5.1, edd, Int.toNat_natCast]
      rw [ed, Nat.testBit_or] at hd
      by_cases e : p = q
      · rw [e, Nat.testBit_two_pow_self, Bool.or_true] at hd; cases hd
      · rw [u1_n e]
        rw [Nat.testBit_two_pow_of_ne (fun c => e c.symm), Bool.or_false] at hd
        exact ra p hp hd
  · unfold TrM
    rw [h0 42 (by omega), h0 43 (by omega), t1 3 (by decide) (by decide) (by decide) (by decide) (by decide) (by decide), t1 4 (by decide) (by decide) (by decide) (by decide) (by decide) (by decide), e0 3 (by decide), e0 4 (by decide)]
    exact rt
/-- who comes, when somebody can -/
theorem comes_sec (h6 : W 0 6 = 0) (hne : rCn A B W y ≠ 0) : rComes A B W y = if secB A W (rCn A B W y) y then W 4 (y - 1) else -3 := by
  unfold rComes
  rw [if_neg (fun c => by rcases c with c | c; exact c h6; exact hne c)]
  by_cases hs : secB A W (rCn A B W y) y = true
  · rw [if_pos hs]
    obtain ⟨s1, s2, s3, s4, s5⟩ := of_decide_eq_true hs
    rw [if_neg s1, if_neg (fun c => by rcases c with c | c | c; omega; rw [s5] at c; cases c; exact c s3), if_neg (fun c => by omega)]
  · rw [if_neg hs]
    by_cases h0 : y = 0
    · rw [if_pos h0]
    rw [if_neg h0]
    by_cases h1 : W 4 (y - 1) < 0 ∨ (rCn A B W y).testBit (W 4 (y - 1)).toNat = false ∨ A 1 (W 4 (y - 1)).toNat ≠ 3
    · rw [if_pos h1]
    rw [if_neg h1]
    by_cases h2 : 1 < y ∧ W 4 (y - 2) = W 4 (y - 1)
    · rw [if_pos h2]
    · exfalso
      apply hs
      refine decide_eq_true ⟨h0, ?_, ?_, ?_, ?_⟩
      · exact Int.not_lt.mp fun c => h1 (Or.inl c)
      · exact Classical.byContradiction fun c => h1 (Or.inr (Or.inr c))
      · by_cases c : y = 1
        · exact Or.inl c
        · exact Or.inr (fun d => h2 ⟨by omega, d⟩)
      · cases hb : (rCn A B W y).testBit (W 4 (y - 1)).toNat
        · exact absurd (Or.inr (Or.inl hb)) h1
        · rfl
end RMs
section Mem
variable {A B W : Nat → Nat → Int} {y : Nat}
theorem fiF_t (set : Nat) : ∀ m p, 0 ≤ fiF set m p → set.testBit (fiF set m p).toNat = true
  | 0, p, h => absurd h (by rw [fiF]; decide)
  | m + 1, p, h => by
    rw [fiF] at h ⊢
    cases hb : set.testBit p
    · rw [hb] at h
      rw [if_neg (by decide)] at h ⊢
      exact fiF_t set m (p + 1) h
    · rw [if_pos rfl, Int.toNat_natCast]; exact hb
theorem nthF_t (set : Nat) : ∀ m p a, 0 ≤ nthF set m p a → set.testBit (nthF set m p a).toNat = true
  | 0, p, a, h => absurd h (by rw [nthF]; decide)
  | m + 1, p, a, h => by
    rw [nthF] at h ⊢
    cases hb : set.testBit p
    · rw [hb] at h
      rw [if_neg (by decide)] at h ⊢
      exact nthF_t set m (p + 1) a h
    · rw [hb] at h
      rw [if_pos rfl] at h ⊢
      by_cases e : a = 0
      · rw [if_pos e, Int.toNat_natCast]; exact hb
      · rw [if_neg e] at h ⊢
        exact nthF_t set m (p + 1) (a - 1) h
theorem few_sub {set p : Nat} (hc : ∀ p, p < fP A → cnt A W p < 1000000000) (h : (fewest A W set).testBit p = true) : set.testBit p = true := by
  have := (fw_o (set := set) hc (fP A) (Nat.le_refl _)).2.1 p
  unfold fewest at h
  rw [this] at h
  cases hb : set.testBit p
  · rw [hb, Bool.and_false] at h; cases h
  · rfl
theorem by_mem {set : Nat} {sg : Int} (hA : VA A) (hc : ∀ p, p < fP A → cnt A W p < 1000000000) (hs : sg = 1 ∨ sg = -1) (h : 0 ≤ byAge A (fewest A W set) sg) : set.testBit (byAge A (fewest A W set) sg).toNat = true := by
  rw [← fm_by hA hc hs] at h ⊢
  rcases fmL_o (A := A) (W := W) (set := set) (sg := sg) (fP A) with ⟨e, -⟩ | ⟨q, e, h1, h2, -⟩
  · rw [e] at h; exact absurd h (by decide)
  · rw [e, Int.toNat_natCast]; exact h2
theorem law_mem (hA : VA A) (hWb : ∀ p, p < fP A → 0 ≤ W 1 p ∧ W 1 p ≤ 24) (h : 0 ≤ byLawV A B W y) : (rCn A B W y).testBit (byLawV A B W y).toNat = true := by
  have hc : ∀ p, p < fP A → cnt A W p < 1000000000 := by
    intro p hp
    have := hWb p hp
    unfold cnt
    split <;> omega
  revert h
  unfold byLawV
  split
  · unfold rRound
    split
    · exact fun h => fiF_t _ _ _ h
    · exact fun h => fiF_t _ _ _ h
  split
  · exact fun h => by_mem hA hc (Or.inl rfl) h
  split
  · exact fun h => by_mem hA hc (Or.inr rfl) h
  split
  · unfold drawn
    split
    · intro h; exact absurd h (by decide)
    · exact fun h => few_sub hc (nthF_t _ _ _ _ h)
  · have key : ∀ b, 0 ≤ byAge A (fewest A W (rCn A B W y &&& brS A b)) 1 → (rCn A B W y).testBit (byAge A (fewest A W (rCn A B W y &&& brS A b)) 1).toNat = true := by
      intro b hb
      have := by_mem hA hc (Or.inl rfl) hb
      rw [Nat.testBit_and] at this
      cases hd : (rCn A B W y).testBit (byAge A (fewest A W (rCn A B W y &&& brS A b)) 1).toNat
      · rw [hd] at this; cases this
      · rfl
    have k0 := key 0
    have k1 := key 1
    unfold voted
    repeat' split
    all_goals first | exact k0 | exact k1
theorem sold_mem {can : Nat} {who : Int} (hw : 0 ≤ who) (hm : can.testBit who.toNat = true) (hA : VA A) (hB : VB A B) (hP : who < A 0 3) : can.testBit (sold A B y can who W).1.toNat = true := by
  unfold sold
  rw [if_neg (by omega)]
  have h1 : ∀ i, can.testBit (lp i (sdT A y can) (who, W)).1.toNat = true := by
    intro i
    induction i with
    | zero => exact hm
    | succ i ih =>
      rw [lp_s]
      generalize lp i (sdT A y can) (who, W) = s at *
      unfold sdT
      split
      · rename_i hc; exact hc.2.2
      · exact ih
  have h2 := h1 (fBu A)
  generalize lp (fBu A) (sdT A y can) (who, W) = s0 at *
  generalize (B 0 2).toNat = nn
  induction nn with
  | zero => exact h2
  | succ i ih =>
    rw [lp_s]
    generalize lp i (sdN B y can) s0 = s at *
    unfold sdN
    split
    · rename_i hc; exact hc.2.2
    · exact ih
theorem inPl_mem {can : Nat} {who : Int} {W' : Nat → Nat → Int} (hm : can.testBit who.toNat = true) : can.testBit (inPl W' can who).toNat = true := by
  unfold inPl
  split
  · rename_i h; exact h.2.2
  split
  · rename_i h; exact h.2.2
  · exact hm
theorem inPl_0 {can : Nat} {who : Int} {W' : Nat → Nat → Int} (hm : 0 ≤ who) : 0 ≤ inPl W' can who := by
  unfold inPl
  split
  · rename_i h; exact h.2.1
  split
  · rename_i h; exact h.2.1
  · exact hm
theorem cn_dd {q : Nat} (h : (rCn A B W y).testBit q = true) : (dd W).testBit q = false := by
  rw [andn_bit] at h
  cases hd : (dd W).testBit q
  · rfl
  · rw [hd] at h; simp at h
end Mem
