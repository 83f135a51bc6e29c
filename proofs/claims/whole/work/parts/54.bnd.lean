/-! ===== the parser keeps the bounds ===== -/
theorem VA_Pers {A : Nat → Nat → Int} {x0 x1 x2 x3 x4 x5 x6 : Int} (hA : VA A) (hroom : A 0 3 < 10) (h0 : 0 ≤ x0 ∧ x0 ≤ 4) (h1 : 0 ≤ x1 ∧ x1 ≤ 1) (h2 : -90 ≤ x2 ∧ x2 < A 0 0) (h3 : 1 ≤ x3 ∧ x3 ≤ 9) (h4 : 0 ≤ x4 ∧ x4 ≤ 9) (h5 : 0 ≤ x5 ∧ x5 ≤ 100) (h6 : -2 ≤ x6 ∧ x6 < A 0 0) : VA (aPers A x0 x1 x2 x3 x4 x5 x6) := by
  obtain ⟨hA0, hA1, hA2, hA3, hA4, hA5, hA6, hA7, hA8, hAp, hApl, hAb, hAs, hAh, hAd⟩ := hA
  have ec : ∀ c, c ≠ 3 → (aPers A x0 x1 x2 x3 x4 x5 x6) 0 c = A 0 c := fun c hc => by unfold aPers; simp only [u2_ap]; (repeat' split) <;> first | rfl | omega
  have ec1 : (aPers A x0 x1 x2 x3 x4 x5 x6) 0 3 = A 0 3 + 1 := by unfold aPers; rw [u2_s, u1_s]
  have er : ∀ r c, r ≠ 0 → (r < 1 ∨ 8 ≤ r ∨ c ≠ (A 0 3).toNat) → (aPers A x0 x1 x2 x3 x4 x5 x6) r c = A r c := fun r c h0 hr => by unfold aPers; simp only [u2_ap]; (repeat' split) <;> first | rfl | omega
  have e1 : (aPers A x0 x1 x2 x3 x4 x5 x6) 1 (A 0 3).toNat = x0 := by unfold aPers; simp [u2_ap]
  have e2 : (aPers A x0 x1 x2 x3 x4 x5 x6) 2 (A 0 3).toNat = x1 := by unfold aPers; simp [u2_ap]
  have e3 : (aPers A x0 x1 x2 x3 x4 x5 x6) 3 (A 0 3).toNat = x2 := by unfold aPers; simp [u2_ap]
  have e4 : (aPers A x0 x1 x2 x3 x4 x5 x6) 4 (A 0 3).toNat = x3 := by unfold aPers; simp [u2_ap]
  have e5 : (aPers A x0 x1 x2 x3 x4 x5 x6) 5 (A 0 3).toNat = x4 := by unfold aPers; simp [u2_ap]
  have e6 : (aPers A x0 x1 x2 x3 x4 x5 x6) 6 (A 0 3).toNat = x5 := by unfold aPers; simp [u2_ap]
  have e7 : (aPers A x0 x1 x2 x3 x4 x5 x6) 7 (A 0 3).toNat = x6 := by unfold aPers; simp [u2_ap]
  generalize aPers A x0 x1 x2 x3 x4 x5 x6 = A' at *
  unfold VA fP fPl fBu fSe fDi
  rw [ec 0 (by decide), ec 1 (by decide), ec 2 (by decide), ec1, ec 4 (by decide), ec 5 (by decide), ec 6 (by decide), ec 7 (by decide), ec 8 (by decide)]
  refine ⟨hA0, hA1, hA2, ⟨by omega, by omega⟩, hA4, hA5, hA6, hA7, hA8, ?_, ?_, ?_, ?_, ?_, ?_⟩
  · intro i hi
    by_cases hi2 : i = (A 0 3).toNat
    · subst hi2
      rw [e1, e2, e3, e4, e5, e6, e7]
      exact ⟨h0, h1, h2, h3, h4, h5, h6⟩
    · rw [er 1 i (by decide) (by omega), er 2 i (by decide) (by omega), er 3 i (by decide) (by omega), er 4 i (by decide) (by omega), er 5 i (by decide) (by omega), er 6 i (by decide) (by omega), er 7 i (by decide) (by omega)]
      have := hAp i (show i < (A 0 3).toNat by omega)
      exact this
  · intro i hi
    rw [er 8 i (by decide) (by omega), er 9 i (by decide) (by omega), er 10 i (by decide) (by omega), er 11 i (by decide) (by omega)]
    have := hApl i hi
    omega
  · intro i hi
    rw [er 12 i (by decide) (by omega), er 13 i (by decide) (by omega), er 14 i (by decide) (by omega), er 15 i (by decide) (by omega)]
    have := hAb i hi
    omega
  · intro i hi
    rw [er 16 i (by decide) (by omega)]
    have := hAs i hi
    omega
  · intro j hj
    rw [er 17 j (by decide) (by omega)]
    exact hAh j hj
  · intro i hi
    rw [er 18 i (by decide) (by omega), er 19 i (by decide) (by omega), er 20 i (by decide) (by omega)]
    have := hAd i hi
    omega
theorem VA_Plan {A : Nat → Nat → Int} {x0 x1 x2 x3 : Int} (hA : VA A) (hroom : A 0 4 < 12) (h0 : 0 ≤ x0 ∧ x0 < A 0 3) (h1 : 0 ≤ x1 ∧ x1 < A 0 0) (h2 : 0 ≤ x2 ∧ x2 < A 0 0) (h3 : 1 ≤ x3 ∧ x3 ≤ 99) : VA (aPlan A x0 x1 x2 x3) := by
  obtain ⟨hA0, hA1, hA2, hA3, hA4, hA5, hA6, hA7, hA8, hAp, hApl, hAb, hAs, hAh, hAd⟩ := hA
  have ec : ∀ c, c ≠ 4 → (aPlan A x0 x1 x2 x3) 0 c = A 0 c := fun c hc => by unfold aPlan; simp only [u2_ap]; (repeat' split) <;> first | rfl | omega
  have ec1 : (aPlan A x0 x1 x2 x3) 0 4 = A 0 4 + 1 := by unfold aPlan; rw [u2_s, u1_s]
  have er : ∀ r c, r ≠ 0 → (r < 8 ∨ 12 ≤ r ∨ c ≠ (A 0 4).toNat) → (aPlan A x0 x1 x2 x3) r c = A r c := fun r c h0 hr => by unfold aPlan; simp only [u2_ap]; (repeat' split) <;> first | rfl | omega
  have e8 : (aPlan A x0 x1 x2 x3) 8 (A 0 4).toNat = x0 := by unfold aPlan; simp [u2_ap]
  have e9 : (aPlan A x0 x1 x2 x3) 9 (A 0 4).toNat = x1 := by unfold aPlan; simp [u2_ap]
  have e10 : (aPlan A x0 x1 x2 x3) 10 (A 0 4).toNat = x2 := by unfold aPlan; simp [u2_ap]
  have e11 : (aPlan A x0 x1 x2 x3) 11 (A 0 4).toNat = x3 := by unfold aPlan; simp [u2_ap]
  generalize aPlan A x0 x1 x2 x3 = A' at *
  unfold VA fP fPl fBu fSe fDi
  rw [ec 0 (by decide), ec 1 (by decide), ec 2 (by decide), ec 3 (by decide), ec1, ec 5 (by decide), ec 6 (by decide), ec 7 (by decide), ec 8 (by decide)]
  refine ⟨hA0, hA1, hA2, hA3, ⟨by omega, by omega⟩, hA5, hA6, hA7, hA8, ?_, ?_, ?_, ?_, ?_, ?_⟩
  · intro i hi
    rw [er 1 i (by decide) (by omega), er 2 i (by decide) (by omega), er 3 i (by decide) (by omega), er 4 i (by decide) (by omega), er 5 i (by decide) (by omega), er 6 i (by decide) (by omega), er 7 i (by decide) (by omega)]
    exact hAp i hi
  · intro i hi
    by_cases hi2 : i = (A 0 4).toNat
    · subst hi2
      rw [e8, e9, e10, e11]
      exact ⟨h0, h1, h2, h3⟩
    · rw [er 8 i (by decide) (by omega), er 9 i (by decide) (by omega), er 10 i (by decide) (by omega), er 11 i (by decide) (by omega)]
      have := hApl i (show i < (A 0 4).toNat by omega)
      exact this
  · intro i hi
    rw [er 12 i (by decide) (by omega), er 13 i (by decide) (by omega), er 14 i (by decide) (by omega), er 15 i (by decide) (by omega)]
    exact hAb i hi
  · intro i hi
    rw [er 16 i (by decide) (by omega)]
    exact hAs i hi
  · intro j hj
    rw [er 17 j (by decide) (by omega)]
    exact hAh j hj
  · intro i hi
    rw [er 18 i (by decide) (by omega), er 19 i (by decide) (by omega), er 20 i (by decide) (by omega)]
    exact hAd i hi
theorem VA_Buys {A : Nat → Nat → Int} {x0 x1 x2 x3 : Int} (hA : VA A) (hroom : A 0 5 < 8) (h0 : 0 ≤ x0 ∧ x0 < A 0 0) (h1 : 0 ≤ x1 ∧ x1 < A 0 3) (h2 : 0 ≤ x2 ∧ x2 < A 0 3) (h3 : 0 ≤ x3 ∧ x3 ≤ 99) : VA (aBuys A x0 x1 x2 x3) := by
  obtain ⟨hA0, hA1, hA2, hA3, hA4, hA5, hA6, hA7, hA8, hAp, hApl, hAb, hAs, hAh, hAd⟩ := hA
  have ec : ∀ c, c ≠ 5 → (aBuys A x0 x1 x2 x3) 0 c = A 0 c := fun c hc => by unfold aBuys; simp only [u2_ap]; (repeat' split) <;> first | rfl | omega
  have ec1 : (aBuys A x0 x1 x2 x3) 0 5 = A 0 5 + 1 := by unfold aBuys; rw [u2_s, u1_s]
  have er : ∀ r c, r ≠ 0 → (r < 12 ∨ 16 ≤ r ∨ c ≠ (A 0 5).toNat) → (aBuys A x0 x1 x2 x3) r c = A r c := fun r c h0 hr => by unfold aBuys; simp only [u2_ap]; (repeat' split) <;> first | rfl | omega
  have e12 : (aBuys A x0 x1 x2 x3) 12 (A 0 5).toNat = x0 := by unfold aBuys; simp [u2_ap]
  have e13 : (aBuys A x0 x1 x2 x3) 13 (A 0 5).toNat = x1 := by unfold aBuys; simp [u2_ap]
  have e14 : (aBuys A x0 x1 x2 x3) 14 (A 0 5).toNat = x2 := by unfold aBuys; simp [u2_ap]
  have e15 : (aBuys A x0 x1 x2 x3) 15 (A 0 5).toNat = x3 := by unfold aBuys; simp [u2_ap]
  generalize aBuys A x0 x1 x2 x3 = A' at *
  unfold VA fP fPl fBu fSe fDi
  rw [ec 0 (by decide), ec 1 (by decide), ec 2 (by decide), ec 3 (by decide), ec 4 (by decide), ec1, ec 6 (by decide), ec 7 (by decide), ec 8 (by decide)]
  refine ⟨hA0, hA1, hA2, hA3, hA4, ⟨by omega, by omega⟩, hA6, hA7, hA8, ?_, ?_, ?_, ?_, ?_, ?_⟩
  · intro i hi
    rw [er 1 i (by decide) (by omega), er 2 i (by decide) (by omega), er 3 i (by decide) (by omega), er 4 i (by decide) (by omega), er 5 i (by decide) (by omega), er 6 i (by decide) (by omega), er 7 i (by decide) (by omega)]
    exact hAp i hi
  · intro i hi
    rw [er 8 i (by decide) (by omega), er 9 i (by decide) (by omega), er 10 i (by decide) (by omega), er 11 i (by decide) (by omega)]
    exact hApl i hi
  · intro i hi
    by_cases hi2 : i = (A 0 5).toNat
    · subst hi2
      rw [e12, e13, e14, e15]
      exact ⟨h0, h1, h2, h3⟩
    · rw [er 12 i (by decide) (by omega), er 13 i (by decide) (by omega), er 14 i (by decide) (by omega), er 15 i (by decide) (by omega)]
      have := hAb i (show i < (A 0 5).toNat by omega)
      exact this
  · intro i hi
    rw [er 16 i (by decide) (by omega)]
    exact hAs i hi
  · intro j hj
    rw [er 17 j (by decide) (by omega)]
    exact hAh j hj
  · intro i hi
    rw [er 18 i (by decide) (by omega), er 19 i (by decide) (by omega), er 20 i (by decide) (by omega)]
    exact hAd i hi
theorem VA_Secr {A : Nat → Nat → Int} {x0 : Int} (hA : VA A) (hroom : A 0 6 < 8) (h0 : 0 ≤ x0 ∧ x0 < A 0 3) : VA (aSecr A x0) := by
  obtain ⟨hA0, hA1, hA2, hA3, hA4, hA5, hA6, hA7, hA8, hAp, hApl, hAb, hAs, hAh, hAd⟩ := hA
  have ec : ∀ c, c ≠ 6 → (aSecr A x0) 0 c = A 0 c := fun c hc => by unfold aSecr; simp only [u2_ap]; (repeat' split) <;> first | rfl | omega
  have ec1 : (aSecr A x0) 0 6 = A 0 6 + 1 := by unfold aSecr; rw [u2_s, u1_s]
  have er : ∀ r c, r ≠ 0 → (r < 16 ∨ 17 ≤ r ∨ c ≠ (A 0 6).toNat) → (aSecr A x0) r c = A r c := fun r c h0 hr => by unfold aSecr; simp only [u2_ap]; (repeat' split) <;> first | rfl | omega
  have e16 : (aSecr A x0) 16 (A 0 6).toNat = x0 := by unfold aSecr; simp [u2_ap]
  generalize aSecr A x0 = A' at *
  unfold VA fP fPl fBu fSe fDi
  rw [ec 0 (by decide), ec 1 (by decide), ec 2 (by decide), ec 3 (by decide), ec 4 (by decide), ec 5 (by decide), ec1, ec 7 (by decide), ec 8 (by decide)]
  refine ⟨hA0, hA1, hA2, hA3, hA4, hA5, ⟨by omega, by omega⟩, hA7, hA8, ?_, ?_, ?_, ?_, ?_, ?_⟩
  · intro i hi
    rw [er 1 i (by decide) (by omega), er 2 i (by decide) (by omega), er 3 i (by decide) (by omega), er 4 i (by decide) (by omega), er 5 i (by decide) (by omega), er 6 i (by decide) (by omega), er 7 i (by decide) (by omega)]
    exact hAp i hi
  · intro i hi
    rw [er 8 i (by decide) (by omega), er 9 i (by decide) (by omega), er 10 i (by decide) (by omega), er 11 i (by decide) (by omega)]
    exact hApl i hi
  · intro i hi
    rw [er 12 i (by decide) (by omega), er 13 i (by decide) (by omega), er 14 i (by decide) (by omega), er 15 i (by decide) (by omega)]
    exact hAb i hi
  · intro i hi
    by_cases hi2 : i = (A 0 6).toNat
    · subst hi2
      rw [e16]
      exact h0
    · rw [er 16 i (by decide) (by omega)]
      have := hAs i (show i < (A 0 6).toNat by omega)
      exact this
  · intro j hj
    rw [er 17 j (by decide) (by omega)]
    exact hAh j hj
  · intro i hi
    rw [er 18 i (by decide) (by omega), er 19 i (by decide) (by omega), er 20 i (by decide) (by omega)]
    exact hAd i hi
theorem VA_Diar {A : Nat → Nat → Int} {x0 x1 x2 : Int} (hA : VA A) (hroom : A 0 8 < 8) (h0 : 0 ≤ x0 ∧ x0 < A 0 0) (h1 : 0 ≤ x1 ∧ x1 < A 0 3) (h2 : 0 ≤ x2 ∧ x2 ≤ 1) : VA (aDiar A x0 x1 x2) := by
  obtain ⟨hA0, hA1, hA2, hA3, hA4, hA5, hA6, hA7, hA8, hAp, hApl, hAb, hAs, hAh, hAd⟩ := hA
  have ec : ∀ c, c ≠ 8 → (aDiar A x0 x1 x2) 0 c = A 0 c := fun c hc => by unfold aDiar; simp only [u2_ap]; (repeat' split) <;> first | rfl | omega
  have ec1 : (aDiar A x0 x1 x2) 0 8 = A 0 8 + 1 := by unfold aDiar; rw [u2_s, u1_s]
  have er : ∀ r c, r ≠ 0 → (r < 18 ∨ 21 ≤ r ∨ c ≠ (A 0 8).toNat) → (aDiar A x0 x1 x2) r c = A r c := fun r c h0 hr => by unfold aDiar; simp only [u2_ap]; (repeat' split) <;> first | rfl | omega
  have e18 : (aDiar A x0 x1 x2) 18 (A 0 8).toNat = x0 := by unfold aDiar; simp [u2_ap]
  have e19 : (aDiar A x0 x1 x2) 19 (A 0 8).toNat = x1 := by unfold aDiar; simp [u2_ap]
  have e20 : (aDiar A x0 x1 x2) 20 (A 0 8).toNat = x2 := by unfold aDiar; simp [u2_ap]
  generalize aDiar A x0 x1 x2 = A' at *
  unfold VA fP fPl fBu fSe fDi
  rw [ec 0 (by decide), ec 1 (by decide), ec 2 (by decide), ec 3 (by decide), ec 4 (by decide), ec 5 (by decide), ec 6 (by decide), ec 7 (by decide), ec1]
  refine ⟨hA0, hA1, hA2, hA3, hA4, hA5, hA6, hA7, ⟨by omega, by omega⟩, ?_, ?_, ?_, ?_, ?_, ?_⟩
  · intro i hi
    rw [er 1 i (by decide) (by omega), er 2 i (by decide) (by omega), er 3 i (by decide) (by omega), er 4 i (by decide) (by omega), er 5 i (by decide) (by omega), er 6 i (by decide) (by omega), er 7 i (by decide) (by omega)]
    exact hAp i hi
  · intro i hi
    rw [er 8 i (by decide) (by omega), er 9 i (by decide) (by omega), er 10 i (by decide) (by omega), er 11 i (by decide) (by omega)]
    exact hApl i hi
  · intro i hi
    rw [er 12 i (by decide) (by omega), er 13 i (by decide) (by omega), er 14 i (by decide) (by omega), er 15 i (by decide) (by omega)]
    exact hAb i hi
  · intro i hi
    rw [er 16 i (by decide) (by omega)]
    exact hAs i hi
  · intro j hj
    rw [er 17 j (by decide) (by omega)]
    exact hAh j hj
  · intro i hi
    by_cases hi2 : i = (A 0 8).toNat
    · subst hi2
      rw [e18, e19, e20]
      exact ⟨h0, h1, h2⟩
    · rw [er 18 i (by decide) (by omega), er 19 i (by decide) (by omega), er 20 i (by decide) (by omega)]
      have := hAd i (show i < (A 0 8).toNat by omega)
      exact this
theorem VA_Hide {A : Nat → Nat → Int} {p s q : Int} (hA : VA A) (hroom : A 0 7 < 8) (hq : 0 ≤ q ∧ q < 10) : VA (aHide A p s q) := by
  obtain ⟨hA0, hA1, hA2, hA3, hA4, hA5, hA6, hA7, hA8, hAp, hApl, hAb, hAs, hAh, hAd⟩ := hA
  unfold aHide
  generalize (p * 8 + s).toNat = m
  have hb : m < 80 → ((A 17 m).toNat ||| 2 ^ q.toNat) < 1024 := fun hm => Nat.or_lt_two_pow (n := 10) (by have := hAh m hm; omega) (Nat.pow_lt_pow_right (by decide) (by omega))
  have ec : ∀ x c, c ≠ 7 → u2 (u2 A 17 m x) 0 7 (A 0 7 + 1) 0 c = A 0 c := fun x c hc => by rw [u2_s, u1_n hc, u2_n (by decide)]
  have ec1 : ∀ x, u2 (u2 A 17 m x) 0 7 (A 0 7 + 1) 0 7 = A 0 7 + 1 := fun x => by rw [u2_s, u1_s]
  have er : ∀ x r c, r ≠ 0 → (r ≠ 17 ∨ c ≠ m) → u2 (u2 A 17 m x) 0 7 (A 0 7 + 1) r c = A r c := fun x r c h0 hr => by simp only [u2_ap]; (repeat' split) <;> first | rfl | omega
  have em : ∀ x, u2 (u2 A 17 m x) 0 7 (A 0 7 + 1) 17 m = x := fun x => by rw [u2_n (by decide), u2_s, u1_s]
  generalize hx : (((A 17 m).toNat ||| 2 ^ q.toNat : Nat) : Int) = x
  have ec := ec x
  have ec1 := ec1 x
  have er := er x
  have em := em x
  generalize u2 (u2 A 17 m x) 0 7 (A 0 7 + 1) = A' at *
  unfold VA fP fPl fBu fSe fDi
  rw [ec 0 (by decide), ec 1 (by decide), ec 2 (by decide), ec 3 (by decide), ec 4 (by decide), ec 5 (by decide), ec 6 (by decide), ec1, ec 8 (by decide)]
  refine ⟨hA0, hA1, hA2, hA3, hA4, hA5, hA6, ⟨by omega, by omega⟩, hA8, ?_, ?_, ?_, ?_, ?_, ?_⟩
  · intro i hi; rw [er 1 i (by decide) (by omega), er 2 i (by decide) (by omega), er 3 i (by decide) (by omega), er 4 i (by decide) (by omega), er 5 i (by decide) (by omega), er 6 i (by decide) (by omega), er 7 i (by decide) (by omega)]; exact hAp i hi
  · intro i hi; rw [er 8 i (by decide) (by omega), er 9 i (by decide) (by omega), er 10 i (by decide) (by omega), er 11 i (by decide) (by omega)]; exact hApl i hi
  · intro i hi; rw [er 12 i (by decide) (by omega), er 13 i (by decide) (by omega), er 14 i (by decide) (by omega), er 15 i (by decide) (by omega)]; exact hAb i hi
  · intro i hi; rw [er 16 i (by decide) (by omega)]; exact hAs i hi
  · intro j hj
    by_cases e1 : j = m
    · subst e1; rw [em]; have := hb hj; omega
    · rw [er 17 j (by decide) (Or.inr e1)]; exact hAh j hj
  · intro i hi; rw [er 18 i (by decide) (by omega), er 19 i (by decide) (by omega), er 20 i (by decide) (by omega)]; exact hAd i hi
theorem VA_dies {A : Nat → Nat → Int} {p : Nat} {y : Int} (hA : VA A) (hy : 0 ≤ y ∧ y < A 0 0) : VA (u2 A 7 p y) := by
  obtain ⟨hA0, hA1, hA2, hA3, hA4, hA5, hA6, hA7, hA8, hAp, hApl, hAb, hAs, hAh, hAd⟩ := hA
  have er : ∀ r, r ≠ 7 → u2 A 7 p y r = A r := fun r h => u2_n h
  unfold VA fP fPl fBu fSe fDi
  rw [er 0 (by decide), er 1 (by decide), er 2 (by decide), er 3 (by decide), er 4 (by decide), er 5 (by decide), er 6 (by decide), er 8 (by decide), er 9 (by decide), er 10 (by decide), er 11 (by decide), er 12 (by decide), er 13 (by decide), er 14 (by decide), er 15 (by decide), er 16 (by decide), er 17 (by decide), er 18 (by decide), er 19 (by decide), er 20 (by decide)]
  refine ⟨hA0, hA1, hA2, hA3, hA4, hA5, hA6, hA7, hA8, fun i hi => ?_, hApl, hAb, hAs, hAh, hAd⟩
  obtain ⟨a1, a2, a3, a4, a5, a6, a7⟩ := hAp i hi
  refine ⟨a1, a2, a3, a4, a5, a6, ?_⟩
  rw [u2_s]
  by_cases e1 : i = p
  · subst e1; rw [u1_s]; omega
  · rw [u1_n e1]; exact a7
theorem eT_r {b : Bool} {c : Int} {s : Nat} {k : PR} {x : (Nat → Nat → Int) × Nat} (h : eT b c s k = .inr x) : b = true ∧ k = .inr x := by
  unfold eT at h
  split at h
  · exact ⟨by assumption, h⟩
  · cases h
/-- names and counts as they were -/
theorem VP_same {A A' : Nat → Nat → Int} (hP : VP A) (hY : 4 ≤ A 0 0) (hA : VA A') (h0 : A' 0 0 = A 0 0) (h3 : A' 0 3 = A 0 3) (h6 : A' 0 6 = A 0 6) (h9 : A' 0 9 = A 0 9) (h22 : A' 22 = A 22) (h23 : A' 23 = A 23) : VP A' := by
  obtain ⟨-, b, c, d, e⟩ := hP
  unfold VP
  rw [h0, h3, h6, h9, h22, h23]
  exact ⟨hA, b, c, d, fun h => by omega⟩
section VPs
variable {t : Nat → Int} {e i : Nat} {A : Nat → Nat → Int} {x : (Nat → Nat → Int) × Nat}
theorem pPlan_VP (hP : VP A) (hY : 4 ≤ A 0 0) (hr : A 0 4 < 12) (h : pPlan t e A i = .inr x) : VP x.1 := by
  unfold pPlan eM eN eW at h
  obtain ⟨b1, h⟩ := eT_r h
  obtain ⟨b2, h⟩ := eT_r h
  obtain ⟨b3, h⟩ := eT_r h
  obtain ⟨b4, h⟩ := eT_r h
  obtain ⟨b5, h⟩ := eT_r h
  obtain ⟨b6, h⟩ := eT_r h
  have n1 := nm_b0 hP b1
  have n2 := (of_decide_eq_true b2).2
  have n4 := (of_decide_eq_true b4).2
  have n6 := (of_decide_eq_true b6).2
  cases h
  exact VP_same hP hY (VA_Plan hP.1 hr n1 ⟨n2.1, by omega⟩ ⟨by omega, by omega⟩ n6) (by unfold aPlan; simp [u2_ap]) (by unfold aPlan; simp [u2_ap]) (by unfold aPlan; simp [u2_ap]) (by unfold aPlan; simp [u2_ap]) (by unfold aPlan; dsimp only; rw [u2_n (by decide), u2_n (by decide), u2_n (by decide), u2_n (by decide), u2_n (by decide)]) (by unfold aPlan; dsimp only; rw [u2_n (by decide), u2_n (by decide), u2_n (by decide), u2_n (by decide), u2_n (by decide)])
theorem pDies_VP (hP : VP A) (hY : 4 ≤ A 0 0) (h : pDies t e A i = .inr x) : VP x.1 := by
  unfold pDies eM eN at h
  obtain ⟨b1, h⟩ := eT_r h
  dsimp only at h
  split at h
  · obtain ⟨b2, h⟩ := eT_r h
    have n2 := (of_decide_eq_true b2).2
    cases h
    exact VP_same hP hY (VA_dies hP.1 ⟨n2.1, by omega⟩) (by dsimp only; rw [u2_n (by decide)]) (by dsimp only; rw [u2_n (by decide)]) (by dsimp only; rw [u2_n (by decide)]) (by dsimp only; rw [u2_n (by decide)]) (by dsimp only; rw [u2_n (by decide)]) (by dsimp only; rw [u2_n (by decide)])
  · cases h
theorem pBuys_VP (hP : VP A) (hY : 4 ≤ A 0 0) (hr : A 0 5 < 8) (h : pBuys t e A i = .inr x) : VP x.1 := by
  unfold pBuys eM eN eW at h
  obtain ⟨b1, h⟩ := eT_r h
  obtain ⟨b2, h⟩ := eT_r h
  obtain ⟨b3, h⟩ := eT_r h
  dsimp only at h
  split at h
  · cases h
  obtain ⟨b4, h⟩ := eT_r h
  obtain ⟨b5, h⟩ := eT_r h
  have n1 := (of_decide_eq_true b1).2
  have n2 := nm_b0 hP b2
  have n3 := nm_b0 hP b3
  have n5 := (of_decide_eq_true b5).2
  cases h
  exact VP_same hP hY (VA_Buys hP.1 hr ⟨n1.1, by omega⟩ n2 n3 n5) (by unfold aBuys; simp [u2_ap]) (by unfold aBuys; simp [u2_ap]) (by unfold aBuys; simp [u2_ap]) (by unfold aBuys; simp [u2_ap]) (by unfold aBuys; dsimp only; rw [u2_n (by decide), u2_n (by decide), u2_n (by decide), u2_n (by decide), u2_n (by decide)]) (by unfold aBuys; dsimp only; rw [u2_n (by decide), u2_n (by decide), u2_n (by decide), u2_n (by decide), u2_n (by decide)])
theorem pDiar_VP {c : Int} (hc : 0 ≤ c ∧ c ≤ 1) (hP : VP A) (hY : 4 ≤ A 0 0) (hr : A 0 8 < 8) (h : pDiar t e A i c = .inr x) : VP x.1 := by
  unfold pDiar eM eN at h
  obtain ⟨b1, h⟩ := eT_r h
  obtain ⟨b2, h⟩ := eT_r h
  have n1 := (of_decide_eq_true b1).2
  have n2 := nm_b0 hP b2
  cases h
  exact VP_same hP hY (VA_Diar hP.1 hr ⟨n1.1, by omega⟩ n2 hc) (by unfold aDiar; simp [u2_ap]) (by unfold aDiar; simp [u2_ap]) (by unfold aDiar; simp [u2_ap]) (by unfold aDiar; simp [u2_ap]) (by unfold aDiar; dsimp only; rw [u2_n (by decide), u2_n (by decide), u2_n (by decide), u2_n (by decide)]) (by unfold aDiar; dsimp only; rw [u2_n (by decide), u2_n (by decide), u2_n (by decide), u2_n (by decide)])
theorem pHide_VP (hP : VP A) (hY : 4 ≤ A 0 0) (hr : A 0 7 < 8) (h : pHide t e A i = .inr x) : VP x.1 := by
  unfold pHide eM at h
  obtain ⟨b1, h⟩ := eT_r h
  obtain ⟨b2, h⟩ := eT_r h
  obtain ⟨b3, h⟩ := eT_r h
  dsimp only at h
  split at h
  · cases h
  have n3 := nm_b0 hP b3
  have h3 := hP.1.2.2.2.1
  cases h
  exact VP_same hP hY (VA_Hide hP.1 hr ⟨n3.1, by omega⟩) (by unfold aHide; simp [u2_ap]) (by unfold aHide; simp [u2_ap]) (by unfold aHide; simp [u2_ap]) (by unfold aHide; simp [u2_ap]) (by unfold aHide; dsimp only; rw [u2_n (by decide), u2_n (by decide)]) (by unfold aHide; dsimp only; rw [u2_n (by decide), u2_n (by decide)])
theorem pSecr_VP (hP : VP A) (hY : 4 ≤ A 0 0) (hr : A 0 6 < 8) (h : pSecr t e A i = .inr x) : VP x.1 := by
  unfold pSecr eM eF at h
  obtain ⟨b1, h⟩ := eT_r h
  obtain ⟨b2, h⟩ := eT_r h
  have n2 := nm_b0 hP b2
  have h9 := hP.2.2.1
  have hA3 := hP.1.2.2.2.1
  have hA6 := hP.1.2.2.2.2.2.2.1
  cases h
  have e3 : adN A (tkX t e i) 1 (A 0 6) 0 3 = A 0 3 := adN_0 (by decide)
  have e6 : adN A (tkX t e i) 1 (A 0 6) 0 6 = A 0 6 := adN_0 (by decide)
  have hva : VA (aSecr (adN A (tkX t e i) 1 (A 0 6)) (nmX t e A (tkN t e i))) := VA_Secr (VA_N hP.1) (by rw [e6]; exact hr) (by rw [e3]; exact n2)
  have f0 : ∀ c, c ≠ 6 → aSecr (adN A (tkX t e i) 1 (A 0 6)) (nmX t e A (tkN t e i)) 0 c = adN A (tkX t e i) 1 (A 0 6) 0 c := fun c hc => by unfold aSecr; rw [u2_s, u1_n hc, u2_n (by decide)]
  have f6 : aSecr (adN A (tkX t e i) 1 (A 0 6)) (nmX t e A (tkN t e i)) 0 6 = A 0 6 + 1 := by unfold aSecr; rw [u2_s, u1_s, e6]
  have fr : ∀ r, 21 ≤ r → aSecr (adN A (tkX t e i) 1 (A 0 6)) (nmX t e A (tkN t e i)) r = adN A (tkX t e i) 1 (A 0 6) r := fun r hr => by unfold aSecr; rw [u2_n (by omega), u2_n (by omega)]
  have g0 := f0 0 (by decide)
  have g3 := f0 3 (by decide)
  have g9 := f0 9 (by decide)
  rw [adN_0 (by decide)] at g0 g3
  rw [adN_09] at g9
  have gr : ∀ k, aSecr (adN A (tkX t e i) 1 (A 0 6)) (nmX t e A (tkN t e i)) 22 k = adN A (tkX t e i) 1 (A 0 6) 22 k ∧ aSecr (adN A (tkX t e i) 1 (A 0 6)) (nmX t e A (tkN t e i)) 23 k = adN A (tkX t e i) 1 (A 0 6) 23 k := fun k => ⟨congrFun (fr 22 (by decide)) k, congrFun (fr 23 (by decide)) k⟩
  clear fr f0
  show VP (aSecr (adN A (tkX t e i) 1 (A 0 6)) (nmX t e A (tkN t e i)))
  generalize aSecr (adN A (tkX t e i) 1 (A 0 6)) (nmX t e A (tkN t e i)) = A2 at *
  refine ⟨hva, by rw [g0]; exact hP.2.1, by rw [g9, g3, f6]; omega, fun k hk => ?_, fun h => by rw [g0] at h; omega⟩
  rw [g9] at hk
  rw [(gr k).1, (gr k).2, g3, f6]
  by_cases e1 : k = (A 0 9).toNat
  · subst e1
    rw [adN_n.2.1, adN_n.2.2]
    exact ⟨⟨by decide, by decide⟩, fun h => by omega, fun _ => ⟨hA6.1, by omega⟩⟩
  · rw [adN_r (by decide) (Or.inr (Or.inr e1)), adN_r (by decide) (Or.inr (Or.inr e1))]
    have := hP.2.2.2.1 k (by omega)
    exact ⟨this.1, this.2.1, fun h => ⟨(this.2.2 h).1, by have := (this.2.2 h).2; omega⟩⟩
theorem pPers_VP (hP : VP A) (hY : 4 ≤ A 0 0) (hr : A 0 3 < 10) (h : pPers t e A i = .inr x) : VP x.1 := by
  unfold pPers eF eC eN eW at h
  obtain ⟨b1, h⟩ := eT_r h
  obtain ⟨b2, h⟩ := eT_r h
  obtain ⟨b3, h⟩ := eT_r h
  obtain ⟨b4, h⟩ := eT_r h
  obtain ⟨b5, h⟩ := eT_r h
  obtain ⟨b6, h⟩ := eT_r h
  obtain ⟨b7, h⟩ := eT_r h
  obtain ⟨b8, h⟩ := eT_r h
  obtain ⟨b9, h⟩ := eT_r h
  obtain ⟨b10, h⟩ := eT_r h
  obtain ⟨b11, h⟩ := eT_r h
  obtain ⟨b12, h⟩ := eT_r h
  generalize tkN t e i = i1 at *
  generalize tkN t e i1 = i2 at *
  generalize tkN t e i2 = i3 at *
  generalize tkN t e i3 = i4 at *
  generalize tkN t e i4 = i5 at *
  generalize tkN t e i5 = i6 at *
  generalize tkN t e i6 = i7 at *
  generalize tkN t e i7 = i8 at *
  generalize tkN t e i8 = i9 at *
  generalize tkN t e i9 = i10 at *
  generalize tkN t e i10 = i11 at *
  generalize tkN t e i11 = i12 at *
  have n2 : 0 ≤ kdOf t e i1 ∧ kdOf t e i1 ≤ 4 := ⟨of_decide_eq_true b2, (kdOf_b t e i1).2⟩
  have n4 : 0 ≤ sdOf t e i3 ∧ sdOf t e i3 ≤ 1 := ⟨of_decide_eq_true b4, (sdOf_b t e i3).2⟩
  have n5 : 0 ≤ agOf t e i4 := of_decide_eq_true b5
  have n6 := (of_decide_eq_true b6).2
  have n8 := (of_decide_eq_true b8).2
  have n10 := (of_decide_eq_true b10).2
  have n12 := (of_decide_eq_true b12).2
  have hA3 := hP.1.2.2.2.1
  have h9 := hP.2.2.1
  have hA6 := hP.1.2.2.2.2.2.2.1
  have nb : -90 ≤ (if agOf t e i4 = 0 then -tkX t e i5 else tkX t e i5) ∧ (if agOf t e i4 = 0 then -tkX t e i5 else tkX t e i5) < A 0 0 := by
    split at n6
    · rename_i hz; rw [if_pos hz]; omega
    · rename_i hz; rw [if_neg hz]; omega
  generalize (if agOf t e i4 = 0 then -tkX t e i5 else tkX t e i5) = bb at *
  cases h
  have e3 : adN A (tkX t e i) 0 (A 0 3) 0 3 = A 0 3 := adN_0 (by decide)
  have e0 : adN A (tkX t e i) 0 (A 0 3) 0 0 = A 0 0 := adN_0 (by decide)
  have e6 : adN A (tkX t e i) 0 (A 0 3) 0 6 = A 0 6 := adN_0 (by decide)
  have e9 : adN A (tkX t e i) 0 (A 0 3) 0 9 = A 0 9 + 1 := adN_09
  have en := adN_n (A := A) (w := tkX t e i) (sec := 0) (num := A 0 3)
  have er : ∀ r c, r ≠ 0 → c ≠ (A 0 9).toNat → adN A (tkX t e i) 0 (A 0 3) r c = A r c := fun r c h1 h2 => adN_r h1 (Or.inr (Or.inr h2))
  have hva := VA_Pers (A := adN A (tkX t e i) 0 (A 0 3)) (x6 := -2) (VA_N hP.1) (by rw [e3]; exact hr) n2 n4 (by rw [e0]; exact nb) n8 n10 n12 (by rw [e0]; omega)
  generalize adN A (tkX t e i) 0 (A 0 3) = A1 at *
  generalize kdOf t e i1 = y0 at *
  generalize sdOf t e i3 = y1 at *
  generalize tkX t e i7 = y3 at *
  generalize tkX t e i9 = y4 at *
  generalize tkX t e i11 = y5 at *
  have g0 : aPers A1 y0 y1 bb y3 y4 y5 (-2) 0 0 = A 0 0 := by unfold aPers; simp [u2_ap, e0]
  have g6 : aPers A1 y0 y1 bb y3 y4 y5 (-2) 0 6 = A 0 6 := by unfold aPers; simp [u2_ap, e6]
  have g3 : aPers A1 y0 y1 bb y3 y4 y5 (-2) 0 3 = A 0 3 + 1 := by unfold aPers; rw [u2_s, u1_s, e3]
  have g9 : aPers A1 y0 y1 bb y3 y4 y5 (-2) 0 9 = A 0 9 + 1 := aPers_9.trans e9
  have gr : ∀ k, aPers A1 y0 y1 bb y3 y4 y5 (-2) 22 k = A1 22 k ∧ aPers A1 y0 y1 bb y3 y4 y5 (-2) 23 k = A1 23 k := fun k => ⟨aPers_r 22 k (by decide) (by decide), aPers_r 23 k (by decide) (by decide)⟩
  show VP (aPers A1 y0 y1 bb y3 y4 y5 (-2))
  generalize aPers A1 y0 y1 bb y3 y4 y5 (-2) = A2 at *
  refine ⟨hva, by rw [g0]; exact hP.2.1, by rw [g9, g3, g6]; omega, fun k hk => ?_, fun h => by rw [g0] at h; omega⟩
  rw [g9] at hk
  rw [(gr k).1, (gr k).2, g3, g6]
  by_cases c1 : k = (A 0 9).toNat
  · subst c1
    rw [en.2.1, en.2.2]
    exact ⟨⟨by decide, by decide⟩, fun _ => ⟨hA3.1, by omega⟩, fun h => by omega⟩
  · rw [er 22 k (by decide) c1, er 23 k (by decide) c1]
    have := hP.2.2.2.1 k (by omega)
    exact ⟨this.1, fun h => ⟨(this.2.1 h).1, by have := (this.2.1 h).2; omega⟩, this.2.2⟩
theorem pFam_VP (hP : VP A) (hY : A 0 0 = 0) (h : pFam t e A i = .inr x) : VP x.1 := by
  unfold pFam eC eN eW at h
  obtain ⟨b1, h⟩ := eT_r h
  obtain ⟨b2, h⟩ := eT_r h
  obtain ⟨b3, h⟩ := eT_r h
  obtain ⟨b4, h⟩ := eT_r h
  obtain ⟨b5, h⟩ := eT_r h
  obtain ⟨b6, h⟩ := eT_r h
  generalize tkN t e i = i1 at *
  generalize tkN t e i1 = i2 at *
  generalize tkN t e i2 = i3 at *
  generalize tkN t e i3 = i4 at *
  generalize tkN t e i4 = i5 at *
  generalize tkN t e i5 = i6 at *
  have n2 := (of_decide_eq_true b2).2
  have n4 : 0 ≤ lwOf t e i3 ∧ lwOf t e i3 ≤ 4 := ⟨of_decide_eq_true b4, (lwOf_b t e i3).2⟩
  have n6 := (of_decide_eq_true b6).2
  cases h
  generalize tkX t e i1 = y0 at *
  generalize lwOf t e i3 = y1 at *
  generalize tkX t e i5 = y2 at *
  obtain ⟨⟨hA0, hA1, hA2, hA3, hA4, hA5, hA6, hA7, hA8, hAp, hApl, hAb, hAs, hAh, hAd⟩, -, h9, hk, hz⟩ := hP
  obtain ⟨z3, z4, z5, z6, z7, z8⟩ := hz hY
  show VP (aFam A y0 y1 y2)
  have g0 : aFam A y0 y1 y2 0 0 = y0 := by unfold aFam; simp [u2_ap]
  have g1 : aFam A y0 y1 y2 0 1 = y1 := by unfold aFam; simp [u2_ap]
  have g2 : aFam A y0 y1 y2 0 2 = y2 := by unfold aFam; simp [u2_ap]
  have gc : ∀ c, 3 ≤ c → aFam A y0 y1 y2 0 c = A 0 c := fun c hc => by unfold aFam; simp only [u2_ap]; (repeat' split) <;> first | rfl | omega
  have gr : ∀ r, r ≠ 0 → aFam A y0 y1 y2 r = A r := fun r h => by unfold aFam; rw [u2_n h, u2_n h, u2_n h]
  generalize aFam A y0 y1 y2 = A' at *
  unfold VP VA fP fPl fBu fSe fDi
  rw [g0, g1, g2, gc 3 (by decide), gc 4 (by decide), gc 5 (by decide), gc 6 (by decide), gc 7 (by decide), gc 8 (by decide), gc 9 (by decide), gr 22 (by decide), gr 23 (by decide), gr 17 (by decide), z3, z4, z5, z6, z7, z8]
  rw [z3, z6] at h9
  refine ⟨⟨⟨by omega, by omega⟩, n4, n6, ⟨by decide, by decide⟩, ⟨by decide, by decide⟩, ⟨by decide, by decide⟩, ⟨by decide, by decide⟩, ⟨by decide, by decide⟩, ⟨by decide, by decide⟩, fun p hp => absurd hp (by omega), fun p hp => absurd hp (by omega), fun p hp => absurd hp (by omega), fun p hp => absurd hp (by omega), hAh, fun p hp => absurd hp (by omega)⟩, Or.inr n2.1, h9, fun k hk => by rw [h9] at hk; exact absurd hk (by omega), fun h => by omega⟩
theorem pLine_VP (hP : VP A) (h : pLine t e A i = .inr x) : VP x.1 ∧ 4 ≤ x.1 0 0 := by
  have hlb := lnOf_b t e i
  have y4 : VP x.1 → (x.1 0 0 = 0 → False) → VP x.1 ∧ 4 ≤ x.1 0 0 := fun a b => ⟨a, by rcases a.2.1 with c | c; exact absurd c b; exact c⟩
  unfold pLine at h
  split at h
  · cases h
  split at h
  · cases h
  split at h
  · cases h
  split at h
  · cases h
  rename_i h1 h2 h3 h4
  have h4 := of_decide_eq_false (Bool.eq_false_iff.mpr h4)
  have hA0 := hP.1.1
  have hY := hP.2.1
  unfold pBody at h
  by_cases l0 : lnOf t e i = 0
  · rw [if_pos l0] at h
    have := pFam_VP hP (by omega) h
    refine ⟨this, ?_⟩
    unfold pFam eC eN eW at h
    obtain ⟨b1, h⟩ := eT_r h
    obtain ⟨b2, h⟩ := eT_r h
    obtain ⟨b3, h⟩ := eT_r h
    obtain ⟨b4, h⟩ := eT_r h
    obtain ⟨b5, h⟩ := eT_r h
    obtain ⟨b6, h⟩ := eT_r h
    have n2 := (of_decide_eq_true b2).2
    cases h
    dsimp only
    unfold aFam
    simp [u2_ap]
    exact n2.1
  rw [if_neg l0] at h
  have hY : 4 ≤ A 0 0 := by omega
  split at h
  · have := pPers_VP hP hY (by omega) h
    refine ⟨this, ?_⟩
    unfold pPers eF eC eN eW at h
    obtain ⟨-, h⟩ := eT_r h
    obtain ⟨-, h⟩ := eT_r h
    obtain ⟨-, h⟩ := eT_r h
    obtain ⟨-, h⟩ := eT_r h
    obtain ⟨-, h⟩ := eT_r h
    obtain ⟨-, h⟩ := eT_r h
    obtain ⟨-, h⟩ := eT_r h
    obtain ⟨-, h⟩ := eT_r h
    obtain ⟨-, h⟩ := eT_r h
    obtain ⟨-, h⟩ := eT_r h
    obtain ⟨-, h⟩ := eT_r h
    obtain ⟨-, h⟩ := eT_r h
    cases h
    dsimp only
    unfold aPers
    simp [u2_ap]
    rw [adN_0 (by decide)]
    exact hY
  split at h
  · have := pPlan_VP hP hY (by omega) h
    refine ⟨this, ?_⟩
    unfold pPlan eM eN eW at h
    obtain ⟨-, h⟩ := eT_r h
    obtain ⟨-, h⟩ := eT_r h
    obtain ⟨-, h⟩ := eT_r h
    obtain ⟨-, h⟩ := eT_r h
    obtain ⟨-, h⟩ := eT_r h
    obtain ⟨-, h⟩ := eT_r h
    cases h
    dsimp only
    unfold aPlan
    simp [u2_ap]
    exact hY
  split at h
  · have := pDies_VP hP hY h
    refine ⟨this, ?_⟩
    unfold pDies eM eN at h
    obtain ⟨-, h⟩ := eT_r h
    dsimp only at h
    split at h
    · obtain ⟨-, h⟩ := eT_r h
      cases h
      dsimp only
      rw [u2_n (by decide)]
      exact hY
    · cases h
  split at h
  · have := pBuys_VP hP hY (by omega) h
    refine ⟨this, ?_⟩
    unfold pBuys eM eN eW at h
    obtain ⟨-, h⟩ := eT_r h
    obtain ⟨-, h⟩ := eT_r h
    obtain ⟨-, h⟩ := eT_r h
    dsimp only at h
    split at h
    · cases h
    obtain ⟨-, h⟩ := eT_r h
    obtain ⟨-, h⟩ := eT_r h
    cases h
    dsimp only
    unfold aBuys
    simp [u2_ap]
    exact hY
  split at h
  · have := pSecr_VP hP hY (by omega) h
    refine ⟨this, ?_⟩
    unfold pSecr eM eF at h
    obtain ⟨-, h⟩ := eT_r h
    obtain ⟨-, h⟩ := eT_r h
    cases h
    dsimp only
    unfold aSecr
    rw [u2_s, u1_n (by decide), u2_n (by decide), adN_0 (by decide)]
    exact hY
  split at h
  · have := pHide_VP hP hY (by omega) h
    refine ⟨this, ?_⟩
    unfold pHide eM at h
    obtain ⟨-, h⟩ := eT_r h
    obtain ⟨-, h⟩ := eT_r h
    obtain ⟨-, h⟩ := eT_r h
    dsimp only at h
    split at h
    · cases h
    cases h
    dsimp only
    unfold aHide
    rw [u2_s, u1_n (by decide), u2_n (by decide)]
    exact hY
  split at h
  · have := pDiar_VP ⟨by decide, by decide⟩ hP hY (by omega) h
    refine ⟨this, ?_⟩
    unfold pDiar eM eN at h
    obtain ⟨-, h⟩ := eT_r h
    obtain ⟨-, h⟩ := eT_r h
    cases h
    dsimp only
    unfold aDiar
    simp [u2_ap]
    exact hY
  · have := pDiar_VP ⟨by decide, by decide⟩ hP hY (by omega) h
    refine ⟨this, ?_⟩
    unfold pDiar eM eN at h
    obtain ⟨-, h⟩ := eT_r h
    obtain ⟨-, h⟩ := eT_r h
    cases h
    dsimp only
    unfold aDiar
    simp [u2_ap]
    exact hY
end VPs
