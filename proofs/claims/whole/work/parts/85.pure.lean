/-! ===== who comes first, two ways ===== -/
section FM
variable {A W : Nat → Nat → Int} {set : Nat} {sg : Int}
def fmB (A W : Nat → Nat → Int) (sg : Int) (p : Nat) (b : Int) : Bool := decide (b = -2 ∨ cnt A W p < cnt A W b.toNat ∨ (cnt A W p = cnt A W b.toNat ∧ sg * A 3 p < sg * A 3 b.toNat))
def fmL (A W : Nat → Nat → Int) (set : Nat) (sg : Int) (m : Nat) : Int := lp m (fun p b => if set.testBit p then (if fmB A W sg p b then (p : Int) else b) else b) (-2)
/-- q is the foremost of those below m -/
def FMo (A W : Nat → Nat → Int) (set : Nat) (sg : Int) (m : Nat) (b : Int) : Prop := (b = -2 ∧ ∀ p, p < m → set.testBit p = false) ∨ ∃ q : Nat, b = (q : Int) ∧ q < m ∧ set.testBit q = true ∧ ∀ p, p < m → set.testBit p = true → cnt A W q < cnt A W p ∨ (cnt A W q = cnt A W p ∧ (sg * A 3 q < sg * A 3 p ∨ (sg * A 3 q = sg * A 3 p ∧ q ≤ p)))
theorem FMo_u {m : Nat} {b c : Int} (h1 : FMo A W set sg m b) (h2 : FMo A W set sg m c) : b = c := by
  rcases h1 with ⟨e1, a1⟩ | ⟨q, e1, l1, t1, a1⟩
  · rcases h2 with ⟨e2, -⟩ | ⟨q2, e2, l2, t2, -⟩
    · rw [e1, e2]
    · rw [a1 q2 l2] at t2; cases t2
  · rcases h2 with ⟨e2, a2⟩ | ⟨q2, e2, l2, t2, a2⟩
    · rw [a2 q l1] at t1; cases t1
    · have h3 := a1 q2 l2 t2
      have h4 := a2 q l1 t1
      rw [e1, e2]
      omega
theorem fmL_o : ∀ m, FMo A W set sg m (fmL A W set sg m)
  | 0 => Or.inl ⟨rfl, fun p hp => absurd hp (by omega)⟩
  | m + 1 => by
    have ih := fmL_o m
    have es : fmL A W set sg (m + 1) = if set.testBit m then (if fmB A W sg m (fmL A W set sg m) then (m : Int) else fmL A W set sg m) else fmL A W set sg m := rfl
    rw [es]
    generalize fmL A W set sg m = b at *
    cases hb : set.testBit m
    · rw [if_neg (by decide)]
      rcases ih with ⟨e1, a1⟩ | ⟨q, e1, l1, t1, a1⟩
      · refine Or.inl ⟨e1, fun p hp => ?_⟩
        by_cases e : p = m
        · rw [e]; exact hb
        · exact a1 p (by omega)
      · refine Or.inr ⟨q, e1, by omega, t1, fun p hp ht => ?_⟩
        by_cases e : p = m
        · rw [e, hb] at ht; cases ht
        · exact a1 p (by omega) ht
    · rw [if_pos rfl]
      rcases ih with ⟨e1, a1⟩ | ⟨q, e1, l1, t1, a1⟩
      · rw [if_pos (by unfold fmB; exact decide_eq_true (Or.inl e1))]
        refine Or.inr ⟨m, rfl, by omega, hb, fun p hp ht => ?_⟩
        by_cases e : p = m
        · rw [e]; omega
        · rw [a1 p (by omega)] at ht; cases ht
      · have eq : b.toNat = q := by omega
        by_cases hc : cnt A W m < cnt A W q ∨ (cnt A W m = cnt A W q ∧ sg * A 3 m < sg * A 3 q)
        · rw [if_pos (by unfold fmB; rw [eq]; exact decide_eq_true (Or.inr hc))]
          refine Or.inr ⟨m, rfl, by omega, hb, fun p hp ht => ?_⟩
          by_cases e : p = m
          · rw [e]; omega
          · have := a1 p (by omega) ht; omega
        · rw [if_neg (by unfold fmB; rw [eq]; exact fun c => by have := of_decide_eq_true c; omega)]
          refine Or.inr ⟨q, e1, by omega, t1, fun p hp ht => ?_⟩
          by_cases e : p = m
          · rw [e]; omega
          · exact a1 p (by omega) ht
/-- those with fewest turns -/
theorem fw_o (hc : ∀ p, p < fP A → cnt A W p < 1000000000) : ∀ m, m ≤ fP A → (∀ p, p < m → set.testBit p = true → (fwL A W set m).1 ≤ cnt A W p) ∧ (∀ p, (fwL A W set m).2.testBit p = (decide (p < m) && set.testBit p && decide (cnt A W p = (fwL A W set m).1))) ∧ ((∃ p, p < m ∧ set.testBit p = true) → ∃ p, p < m ∧ set.testBit p = true ∧ cnt A W p = (fwL A W set m).1)
  | 0, _ => ⟨fun p hp => absurd hp (by omega), fun p => by show (0 : Nat).testBit p = _; simp, fun ⟨p, hp, _⟩ => absurd hp (by omega)⟩
  | m + 1, hm => by
    obtain ⟨i1, i2, i3⟩ := fw_o hc m (by omega)
    have hcm := hc m (by omega)
    have es : fwL A W set (m + 1) = fwSt A W set m (fwL A W set m) := rfl
    have hl : (fwL A W set m).1 = 1000000000 ∨ ∃ p, p < m ∧ set.testBit p = true := by
      clear i1 i2 i3 es
      induction m with
      | zero => exact Or.inl rfl
      | succ c ih =>
        by_cases hb : set.testBit c = true
        · exact Or.inr ⟨c, by omega, hb⟩
        · have e2 : fwL A W set (c + 1) = fwL A W set c := by
            show fwSt A W set c (fwL A W set c) = _
            unfold fwSt; rw [if_neg hb]
          rw [e2]
          rcases ih (by omega) (hc c (by omega)) with h | ⟨p, hp, ht⟩
          · exact Or.inl h
          · exact Or.inr ⟨p, by omega, ht⟩
    rw [es]
    unfold fwSt
    generalize fwL A W set m = s at *
    cases hb : set.testBit m
    · rw [if_neg (by decide)]
      refine ⟨fun p hp ht => ?_, fun p => ?_, fun ⟨p, hp, ht⟩ => ?_⟩
      · by_cases e : p = m
        · rw [e, hb] at ht; cases ht
        · exact i1 p (by omega) ht
      · rw [i2 p]
        by_cases e : p = m
        · rw [e, hb]; simp
        · rw [show decide (p < m + 1) = decide (p < m) by simp; omega]
      · by_cases e : p = m
        · rw [e, hb] at ht; cases ht
        · obtain ⟨q, a1, a2, a3⟩ := i3 ⟨p, by omega, ht⟩
          exact ⟨q, by omega, a2, a3⟩
    · rw [if_pos rfl]
      by_cases h1 : cnt A W m < s.1
      · rw [if_pos h1]
        refine ⟨fun p hp ht => ?_, fun p => ?_, fun _ => ⟨m, by omega, hb, rfl⟩⟩
        · by_cases e : p = m
          · rw [e]; exact Int.le_refl _
          · have := i1 p (by omega) ht
            show cnt A W m ≤ _
            omega
        · show (2 ^ m).testBit p = _
          by_cases e : p = m
          · rw [e, Nat.testBit_two_pow_self, hb]; simp
          · rw [Nat.testBit_two_pow_of_ne (fun c => e c.symm)]
            by_cases hp : p < m ∧ set.testBit p = true
            · have := i1 p hp.1 hp.2
              rw [show decide (cnt A W p = cnt A W m) = false from decide_eq_false (by omega)]; simp
            · cases ht : set.testBit p
              · simp
              · rw [show decide (p < m + 1) = false from decide_eq_false (fun c => hp ⟨by omega, ht⟩)]; simp
      · rw [if_neg h1]
        by_cases h2 : cnt A W m = s.1
        · rw [if_pos h2]
          refine ⟨fun p hp ht => ?_, fun p => ?_, fun _ => ⟨m, by omega, hb, h2⟩⟩
          · by_cases e : p = m
            · rw [e]; show s.1 ≤ _; omega
            · exact i1 p (by omega) ht
          · show (s.2 ||| 2 ^ m).testBit p = _
            rw [Nat.testBit_or, i2 p]
            by_cases e : p = m
            · rw [e, Nat.testBit_two_pow_self, hb]
              show _ = (decide (m < m + 1) && true && decide (cnt A W m = s.1))
              rw [decide_eq_true h2]; simp
            · rw [Nat.testBit_two_pow_of_ne (fun c => e c.symm), Bool.or_false]
              show _ = (decide (p < m + 1) && set.testBit p && decide (cnt A W p = s.1))
              rw [show decide (p < m + 1) = decide (p < m) by simp; omega]
        · rw [if_neg h2]
          rcases hl with hl | hl
          · omega
          refine ⟨fun p hp ht => ?_, fun p => ?_, fun _ => ?_⟩
          · by_cases e : p = m
            · rw [e]; omega
            · exact i1 p (by omega) ht
          · rw [i2 p]
            by_cases e : p = m
            · rw [e, decide_eq_false h2]; simp
            · rw [show decide (p < m + 1) = decide (p < m) by simp; omega]
          · obtain ⟨q, a1, a2, a3⟩ := i3 hl
            exact ⟨q, by omega, a2, a3⟩
/-- the first by age -/
theorem bg_o {st : Nat} (hk : ∀ p, p < fP A → sg * A 3 p < 1000000000) : ∀ m, m ≤ fP A → ((bgL A st sg m).1 = -2 ∧ (bgL A st sg m).2 = 1000000000 ∧ ∀ p, p < m → st.testBit p = false) ∨ ∃ q : Nat, (bgL A st sg m).1 = (q : Int) ∧ (bgL A st sg m).2 = sg * A 3 q ∧ q < m ∧ st.testBit q = true ∧ ∀ p, p < m → st.testBit p = true → sg * A 3 q < sg * A 3 p ∨ (sg * A 3 q = sg * A 3 p ∧ q ≤ p)
  | 0, _ => Or.inl ⟨rfl, rfl, fun p hp => absurd hp (by omega)⟩
  | m + 1, hm => by
    have ih := bg_o (st := st) hk m (by omega)
    have hkm := hk m (by omega)
    have es : bgL A st sg (m + 1) = bgSt A st sg m (bgL A st sg m) := rfl
    rw [es]
    unfold bgSt
    generalize bgL A st sg m = s at *
    cases hb : st.testBit m
    · rw [if_neg (by exact fun c => by cases c.1)]
      rcases ih with ⟨e1, e2, a1⟩ | ⟨q, e1, e2, l1, t1, a1⟩
      · refine Or.inl ⟨e1, e2, fun p hp => ?_⟩
        by_cases e : p = m
        · rw [e]; exact hb
        · exact a1 p (by omega)
      · refine Or.inr ⟨q, e1, e2, by omega, t1, fun p hp ht => ?_⟩
        by_cases e : p = m
        · rw [e, hb] at ht; cases ht
        · exact a1 p (by omega) ht
    · by_cases h1 : sg * A 3 m < s.2
      · rw [if_pos ⟨rfl, h1⟩]
        refine Or.inr ⟨m, rfl, rfl, by omega, hb, fun p hp ht => ?_⟩
        by_cases e : p = m
        · rw [e]; omega
        · rcases ih with ⟨e1, e2, a1⟩ | ⟨q, e1, e2, l1, t1, a1⟩
          · rw [a1 p (by omega)] at ht; cases ht
          · have := a1 p (by omega) ht; omega
      · rw [if_neg (fun c => h1 c.2)]
        rcases ih with ⟨e1, e2, a1⟩ | ⟨q, e1, e2, l1, t1, a1⟩
        · omega
        · refine Or.inr ⟨q, e1, e2, by omega, t1, fun p hp ht => ?_⟩
          by_cases e : p = m
          · rw [e]; omega
          · exact a1 p (by omega) ht
theorem few_bit (hc : ∀ p, p < fP A → cnt A W p < 1000000000) {q p : Nat} (hq : q < fP A ∧ set.testBit q = true ∧ ∀ p, p < fP A → set.testBit p = true → cnt A W q ≤ cnt A W p) : (fewest A W set).testBit p = (decide (p < fP A) && set.testBit p && decide (cnt A W p = cnt A W q)) := by
  obtain ⟨i1, i2, i3⟩ := fw_o (set := set) hc (fP A) (Nat.le_refl _)
  obtain ⟨w, w1, w2, w3⟩ := i3 ⟨q, hq.1, hq.2.1⟩
  have h1 := i1 q hq.1 hq.2.1
  have h2 := hq.2.2 w w1 w2
  have e : (fwL A W set (fP A)).1 = cnt A W q := by omega
  unfold fewest
  rw [i2 p, e]
theorem fm_by (hA : VA A) (hc : ∀ p, p < fP A → cnt A W p < 1000000000) (hs : sg = 1 ∨ sg = -1) : fmL A W set sg (fP A) = byAge A (fewest A W set) sg := by
  have hk : ∀ p, p < fP A → sg * A 3 p < 1000000000 := by
    intro p hp
    have h1 := (hA.2.2.2.2.2.2.2.2.2.1 p hp).2.2.1
    have h2 := hA.1
    rcases hs with rfl | rfl <;> omega
  refine FMo_u (fmL_o (fP A)) ?_
  obtain ⟨i1, i2, i3⟩ := fw_o (set := set) hc (fP A) (Nat.le_refl _)
  have hb := bg_o (st := fewest A W set) hk (fP A) (Nat.le_refl _)
  unfold byAge
  unfold fewest at hb ⊢
  generalize fwL A W set (fP A) = s at *
  rcases hb with ⟨e1, -, a1⟩ | ⟨q, e1, e2, l1, t1, a1⟩
  · refine Or.inl ⟨e1, fun p hp => ?_⟩
    cases ht : set.testBit p
    · rfl
    · obtain ⟨w, w1, w2, w3⟩ := i3 ⟨p, hp, ht⟩
      have := a1 w w1
      rw [i2 w, w2, decide_eq_true w1, decide_eq_true w3] at this
      cases this
  · rw [i2 q] at t1
    have t2 : set.testBit q = true ∧ cnt A W q = s.1 := by
      rw [decide_eq_true l1] at t1
      cases hb : set.testBit q
      · rw [hb] at t1; cases t1
      · rw [hb] at t1; exact ⟨rfl, of_decide_eq_true t1⟩
    refine Or.inr ⟨q, e1, l1, t2.1, fun p hp ht => ?_⟩
    have h1 := i1 p hp ht
    by_cases h2 : cnt A W p = s.1
    · refine Or.inr ⟨by omega, a1 p hp ?_⟩
      rw [i2 p, decide_eq_true hp, ht, decide_eq_true h2]; rfl
    · exact Or.inl (by omega)
end FM
section CF
/-- how many of a set lie from p on, m places -/
def cF (set : Nat) : Nat → Nat → Int
  | 0, _ => 0
  | m + 1, p => (if set.testBit p then 1 else 0) + cF set m (p + 1)
theorem cF_app (set : Nat) : ∀ a b p, cF set (a + b) p = cF set a p + cF set b (p + a)
  | 0, b, p => by rw [Nat.zero_add, Nat.add_zero, cF, Int.zero_add]
  | a + 1, b, p => by
    rw [show a + 1 + b = (a + b) + 1 by omega, cF, cF, cF_app set a b (p + 1), show p + 1 + a = p + (a + 1) by omega]
    omega
theorem cF_0 (set : Nat) : ∀ m p, 0 ≤ cF set m p
  | 0, _ => Int.le_refl _
  | m + 1, p => by
    rw [cF]
    have := cF_0 set m (p + 1)
    split <;> omega
theorem cF_lp (set : Nat) : ∀ m, lp m (fun p s => if set.testBit p then s + 1 else s) (0 : Int) = cF set m 0
  | 0 => rfl
  | m + 1 => by
    rw [lp_s, cF_lp set m, cF_app set m 1 0, Nat.zero_add, cF, cF]
    split <;> omega
theorem cF_z {set m : Nat} : ∀ d p, (∀ i, p ≤ i → set.testBit i = false) → cF set d p = 0
  | 0, p, _ => rfl
  | d + 1, p, h => by
    rw [cF, h p (by omega), cF_z (m := m) d (p + 1) (fun i hi => h i (by omega))]
    rfl
theorem popc_cF {set P : Nat} (h : set < 2 ^ P) (hP : P ≤ 10) : popc set = cF set P 0 := by
  unfold popc
  rw [cF_lp, show 10 = P + (10 - P) by omega, cF_app, Nat.zero_add, cF_z (m := 0) (10 - P) P (fun i hi => Nat.testBit_lt_two_pow (Nat.lt_of_lt_of_le h (Nat.pow_le_pow_right (by decide) hi))), Int.add_zero]
theorem nth_ok (set : Nat) : ∀ m p (a : Int), 0 ≤ a → a < cF set m p → nthF set m p a ≠ -2
  | 0, p, a, h0, h => by rw [cF] at h; omega
  | m + 1, p, a, h0, h => by
    rw [nthF]
    rw [cF] at h
    cases hb : set.testBit p
    · rw [hb] at h
      rw [if_neg (by decide)]
      rw [if_neg (by decide)] at h
      exact nth_ok set m (p + 1) a h0 (by omega)
    · rw [hb] at h
      rw [if_pos rfl] at h ⊢
      by_cases e : a = 0
      · rw [if_pos e]; omega
      · rw [if_neg e]
        exact nth_ok set m (p + 1) (a - 1) (by omega) (by omega)
theorem fiF_n (set : Nat) : ∀ m p, fiF set m p = -2 → ∀ i, p ≤ i → i < p + m → set.testBit i = false
  | 0, p, _, i, h1, h2 => absurd h2 (by omega)
  | m + 1, p, h, i, h1, h2 => by
    rw [fiF] at h
    cases hb : set.testBit p
    · rw [hb] at h
      rw [if_neg (by decide)] at h
      by_cases e : i = p
      · rw [e]; exact hb
      · exact fiF_n set m (p + 1) h i (by omega) (by omega)
    · rw [hb] at h
      rw [if_pos rfl] at h
      omega
end CF
