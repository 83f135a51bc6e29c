/-! ===== what the annals tell is what the reference tells ===== -/
section Ans
variable {A B W W0 N0 E : Nat → Nat → Int} {y : Nat}
theorem inPl_m {can : Nat} {who : Int} {W' : Nat → Nat → Int} (h0 : 0 ≤ inPl W' can who) (hm : 0 ≤ who → can.testBit who.toNat = true) : can.testBit (inPl W' can who).toNat = true := by
  unfold inPl at h0 ⊢
  by_cases h1 : who = W' 0 3 ∧ 0 ≤ W' 0 4 ∧ can.testBit (W' 0 4).toNat = true
  · rw [if_pos h1]; exact h1.2.2
  · rw [if_neg h1] at h0 ⊢
    by_cases h2 : who = W' 0 4 ∧ 0 ≤ W' 0 3 ∧ can.testBit (W' 0 3).toNat = true
    · rw [if_pos h2]; exact h2.2.2
    · rw [if_neg h2] at h0 ⊢
      exact hm h0
/-- who sits can sit -/
theorem yr_mem (hA : VA A) (hB : VB A B) (hk : ROk A W y) (hy : y ≤ 24) (h0 : 0 ≤ (sold A B y (rCn A B W y) (yrWho A B W y) (yrW A B W y)).1) : (rCn A B W y).testBit (sold A B y (rCn A B W y) (yrWho A B W y) (yrW A B W y)).1.toNat = true := by
  have hb := yrWho_b (B := B) hk hA
  have hw0 : 0 ≤ yrWho A B W y := by
    refine Classical.byContradiction fun c => ?_
    unfold sold at h0
    rw [if_pos (by omega)] at h0
    exact c h0
  refine sold_mem hw0 ?_ hA hB hb.2
  unfold yrWho at hw0 ⊢
  by_cases e : rComes A B W y = -3
  · rw [if_pos e] at hw0 ⊢
    refine inPl_m hw0 (fun hl => law_mem hA (fun p hp => ?_) hl)
    have := hk.2.2.2.2.2.2.2.1 p hp
    omega
  · rw [if_neg e] at hw0 ⊢
    unfold rComes at hw0 ⊢
    by_cases c1 : W 0 6 ≠ 0 ∨ rCn A B W y = 0
    · rw [if_pos c1] at hw0; omega
    rw [if_neg c1] at hw0 ⊢
    by_cases c2 : y = 0
    · rw [if_pos c2] at hw0; omega
    rw [if_neg c2] at hw0 ⊢
    by_cases c3 : W 4 (y - 1) < 0 ∨ (rCn A B W y).testBit (W 4 (y - 1)).toNat = false ∨ A 1 (W 4 (y - 1)).toNat ≠ 3
    · rw [if_pos c3] at hw0; omega
    rw [if_neg c3] at hw0 ⊢
    by_cases c4 : 1 < y ∧ W 4 (y - 2) = W 4 (y - 1)
    · rw [if_pos c4] at hw0; omega
    rw [if_neg c4]
    cases hb : (rCn A B W y).testBit (W 4 (y - 1)).toNat
    · exact absurd (Or.inr (Or.inl hb)) c3
    · rfl
/-- one year, row by row -/
theorem passY_r (hA : VA A) (hB : VB A B) (hk : ROk A W y) (hy : y ≤ 24) : (∀ j, j ≠ y → passY A B W y 4 j = W 4 j) ∧ (∀ p : Nat, passY A B W y 1 p = W 1 p + if passY A B W y 4 y = (p : Int) then 1 else 0) ∧ (∀ p : Nat, passY A B W y 2 p = W 2 p - if passY A B W y 4 y = (p : Int) then 1 else 0) ∧ (∀ p : Nat, (dd (passY A B W y)).testBit p = true → (dd W).testBit p = true ∨ passY A B W y 4 y = (p : Int)) ∧ (∀ p : Nat, (dd W).testBit p = true → (dd (passY A B W y)).testBit p = true) ∧ (0 ≤ passY A B W y 4 y → (dd W).testBit (passY A B W y 4 y).toNat = false) := by
  have hm := yr_mem hA hB hk hy
  unfold passY
  have u0 : ∀ a j, ¬ (a = 0 ∧ j = 2) → a ≠ 3 → (sold A B y (rCn A B W y) (yrWho A B W y) (yrW A B W y)).2 a j = W a j := fun a j h1 h2 => by rw [sold_row a h2, yrW_row a j h1]
  generalize hU : (sold A B y (rCn A B W y) (yrWho A B W y) (yrW A B W y)).2 = U at *
  generalize hw : (sold A B y (rCn A B W y) (yrWho A B W y) (yrW A B W y)).1 = who at *
  have u1' : U 1 = W 1 := funext fun j => u0 1 j (by omega) (by decide)
  have u2' : U 2 = W 2 := funext fun j => u0 2 j (by omega) (by decide)
  have u4' : U 4 = W 4 := funext fun j => u0 4 j (by omega) (by decide)
  have u5' : U 0 5 = W 0 5 := u0 0 5 (by omega) (by decide)
  by_cases h0 : 0 ≤ who
  · obtain ⟨q, rfl⟩ : ∃ q : Nat, who = (q : Int) := ⟨who.toNat, (Int.toNat_of_nonneg h0).symm⟩
    obtain ⟨-, -, -, t1, t2, -, t4, t5⟩ := takeT_q (A := A) (W := U) (y := y) q
    have hbit := hm h0
    rw [andn_bit] at hbit
    have e4 : takeT A U y (q : Int) 4 y = (q : Int) := by rw [t4, u1_s]
    rw [e4]
    have hdd : (∀ p : Nat, (dd (takeT A U y (q : Int))).testBit p = true → (dd W).testBit p = true ∨ ((q : Int) = (p : Int))) ∧ ∀ p : Nat, (dd W).testBit p = true → (dd (takeT A U y (q : Int))).testBit p = true := by
      by_cases c : 0 < U 2 q - 1
      · rw [if_pos c] at t5
        have e5 : dd (takeT A U y (q : Int)) = dd W := by show (takeT A U y (q : Int) 0 5).toNat = (W 0 5).toNat; rw [t5.1, u5']
        rw [e5]
        exact ⟨fun p h => Or.inl h, fun p h => h⟩
      · rw [if_neg c] at t5
        have e5 : dd (takeT A U y (q : Int)) = dd W ||| 2 ^ q := by
          show (takeT A U y (q : Int) 0 5).toNat = (W 0 5).toNat ||| 2 ^ q
          rw [t5.1, Int.toNat_natCast]
          show (U 0 5).toNat ||| 2 ^ q = _
          rw [u5']
        rw [e5]
        refine ⟨fun p h => ?_, fun p h => ?_⟩
        · rw [Nat.testBit_or, Nat.testBit_two_pow] at h
          by_cases e : q = p
          · exact Or.inr (by rw [e])
          · rw [decide_eq_false e, Bool.or_false] at h
            exact Or.inl h
        · rw [Nat.testBit_or, h]; rfl
    refine ⟨fun j hj => by rw [t4, u1_n hj, u4'], fun p => ?_, fun p => ?_, hdd.1, hdd.2, fun _ => ?_⟩
    · rw [t1, u1']
      by_cases e : p = q
      · rw [e, u1_s, if_pos rfl]
      · rw [u1_n e, if_neg (by omega)]; omega
    · rw [t2, u2']
      by_cases e : p = q
      · rw [e, u1_s, if_pos rfl]
      · rw [u1_n e, if_neg (by omega)]; omega
    · rw [Int.toNat_natCast] at hbit ⊢
      cases hb : (dd W).testBit q
      · rfl
      · rw [hb] at hbit
        simp at hbit
  · have et : takeT A U y who = tk1 U y who := by unfold takeT; rw [if_neg h0]
    rw [et]
    obtain ⟨a1, a2, a3, a4, a5, a6⟩ := tk1_r (W := U) (y := y) who
    have e4 : tk1 U y who 4 y = who := by rw [a6, u1_s]
    have e5 : dd (tk1 U y who) = dd W := by show (tk1 U y who 0 5).toNat = (W 0 5).toNat; rw [a1 5 (by decide) (by decide), u5']
    rw [e4, e5]
    refine ⟨fun j hj => by rw [a6, u1_n hj, u4'], fun p => ?_, fun p => ?_, fun p h => Or.inl h, fun p h => h, fun h => absurd h h0⟩
    · rw [a3, u1', if_neg (by omega)]; omega
    · rw [a4, u2', if_neg (by omega)]; omega
theorem run_s (m : Nat) : runTo A B W0 (m + 1) = passY A B (runTo A B W0 m) m := rfl
theorem run_el (hA : VA A) (hB : VB A B) (hk : ROk A W0 0) (i : Nat) : ∀ M, i < M → M ≤ 24 → runTo A B W0 M 4 i = runTo A B W0 (i + 1) 4 i
  | 0, h, _ => by omega
  | M + 1, h, h24 => by
    by_cases e : i = M
    · rw [e]
    · rw [run_s, (passY_r hA hB (runTo_ok hA hB hk M) (by omega)).1 i e]
      exact run_el hA hB hk i M (by omega) (by omega)
theorem run_cnt (hA : VA A) (hB : VB A B) (hk : ROk A W0 0) (p : Nat) : ∀ m, m ≤ 24 → runTo A B W0 m 1 p = W0 1 p + lp m (fun i s => if runTo A B W0 (i + 1) 4 i = (p : Int) then s + 1 else s) 0 ∧ runTo A B W0 m 2 p = W0 2 p - lp m (fun i s => if runTo A B W0 (i + 1) 4 i = (p : Int) then s + 1 else s) 0
  | 0, _ => ⟨(Int.add_zero _).symm, (Int.sub_zero _).symm⟩
  | m + 1, h => by
    obtain ⟨i1, i2⟩ := run_cnt hA hB hk p m (by omega)
    obtain ⟨-, r1, r2, -⟩ := passY_r hA hB (runTo_ok hA hB hk m) (show m ≤ 24 by omega)
    rw [lp_s]
    generalize lp m (fun i s => if runTo A B W0 (i + 1) 4 i = (p : Int) then s + 1 else s) 0 = c at *
    rw [run_s, r1 p, r2 p, i1, i2]
    split <;> omega
theorem lp_c {σ : Type} {f h : Nat → σ → σ} : ∀ n s, (∀ i s, i < n → f i s = h i s) → lp n f s = lp n h s
  | 0, _, _ => rfl
  | n + 1, s, e => by rw [lp_s, lp_s, lp_c n s (fun i s hi => e i s (by omega)), e n _ (by omega)]
section An
theorem an_12 (hA : VA A) (hB : VB A B) (hk : ROk A W0 0) (hn : AnI A B W0 N0 (fY A) E) (i : Nat) (hi : i < fY A) : E 12 i = runTo A B W0 (i + 1) 4 i := by
  have e : E 12 = runTo A B W0 (fY A) 4 := hn.1 4 (by decide)
  rw [e, run_el hA hB hk i (fY A) hi (fY24 hA).2]
theorem an_beh (hA : VA A) (hB : VB A B) (hk : ROk A W0 0) (hn : AnI A B W0 N0 (fY A) E) (p m : Nat) (hm : m ≤ fY A) : tBeh E (p : Int) m = lp m (fun i s => if runTo A B W0 (i + 1) 4 i = (p : Int) then s + 1 else s) 0 := by
  unfold tBeh
  refine lp_c m 0 (fun i s hi => ?_)
  rw [an_12 hA hB hk hn i (by omega)]
theorem an_turns (hA : VA A) (hB : VB A B) (hk : ROk A W0 0) (hn : AnI A B W0 N0 (fY A) E) (p m : Nat) (hm : m ≤ fY A) (h0 : W0 1 p = 0) : tBeh E (p : Int) m = runTo A B W0 m 1 p := by
  rw [an_beh hA hB hk hn p m hm, (run_cnt hA hB hk p m (Nat.le_trans hm (fY24 hA).2)).1, h0, Int.zero_add]
theorem an_strong (hA : VA A) (hB : VB A B) (hk : ROk A W0 0) (hn : AnI A B W0 N0 (fY A) E) (p m : Nat) (hm : m ≤ fY A) (h0 : W0 2 p = A 4 p) : A 4 p - tBeh E (p : Int) m = runTo A B W0 m 2 p := by
  rw [an_beh hA hB hk hn p m hm, (run_cnt hA hB hk p m (Nat.le_trans hm (fY24 hA).2)).2, h0]
theorem an_harm (hA : VA A) (hB : VB A B) (hk : ROk A W0 0) (hn : AnI A B W0 N0 (fY A) E) (p : Nat) : hTo A E (p : Int) = hdS (runTo A B W0) (fY A) p := by
  unfold hTo hdS
  refine lp_c _ _ (fun i s hi => ?_)
  rw [an_12 hA hB hk hn i hi, (hn.2.2 i hi).2.2.2.1]
  split <;> omega
theorem an_first (hn : AnI A B W0 N0 (fY A) E) (p : Int) : fTurn A E p = fiC (fun y => decide (runTo A B W0 (fY A) 4 y = p)) (fY A) 0 := by
  have e : E 12 = runTo A B W0 (fY A) 4 := hn.1 4 (by decide)
  unfold fTurn isE
  rw [e]
theorem an_last (hn : AnI A B W0 N0 (fY A) E) (p : Int) : lTurn A E p = laC (fun y => decide (runTo A B W0 (fY A) 4 y = p)) (fY A) := by
  have e : E 12 = runTo A B W0 (fY A) 4 := hn.1 4 (by decide)
  unfold lTurn isE
  rw [e]
theorem an_soon (hn : AnI A B W0 N0 (fY A) E) (s p : Nat) (hp : p < 10) : fKnow A E s p = fiC (fun y => (nTo A B W0 N0 (y + 1) 1 p).toNat.testBit s) (fY A) 0 := by
  unfold fKnow
  refine fiCc _ _ (fun i h1 h2 => ?_)
  rw [(hn.2.2 i (by omega)).2.2.2.2.2.1 p hp]
theorem an_know (hn : AnI A B W0 N0 (fY A) E) (s : Nat) : knowers A E s = lp (fP A) (fun q c => if (nTo A B W0 N0 (fY A) 1 q).toNat.testBit s then c + 1 else c) 0 := by
  have e : E 14 = nTo A B W0 N0 (fY A) 1 := hn.2.1 1 (by decide)
  unfold knowers
  rw [e]
theorem an_fair (hn : AnI A B W0 N0 (fY A) E) : spread A B (fun j => E (8 + j)) = spread A B (runTo A B W0 (fY A)) := by
  have e0 : E 8 = runTo A B W0 (fY A) 0 := hn.1 0 (by decide)
  have e1 : E 9 = runTo A B W0 (fY A) 1 := hn.1 1 (by decide)
  have et : rTh A B (fun j => E (8 + j)) (fY A - 1) = rTh A B (runTo A B W0 (fY A)) (fY A - 1) := by
    show andn (thS A B (fY A - 1)) (E 8 5).toNat = andn (thS A B (fY A - 1)) (runTo A B W0 (fY A) 0 5).toNat
    rw [e0]
  unfold spread
  rw [et]
  unfold spL
  rw [show (fun j => E (8 + j)) 1 = runTo A B W0 (fY A) 1 from e1]
theorem dd_up (hA : VA A) (hB : VB A B) (hk : ROk A W0 0) (p : Nat) : ∀ d m, m + d ≤ 24 → (dd (runTo A B W0 m)).testBit p = true → (dd (runTo A B W0 (m + d))).testBit p = true
  | 0, _, _, h => h
  | d + 1, m, hd, h => by
    have := dd_up hA hB hk p d m (by omega) h
    rw [show m + (d + 1) = (m + d) + 1 by omega, run_s]
    exact (passY_r hA hB (runTo_ok hA hB hk (m + d)) (by omega)).2.2.2.2.1 p this
theorem dd_dn (hA : VA A) (hB : VB A B) (hk : ROk A W0 0) (p : Nat) : ∀ d m, m + d ≤ 24 → (dd (runTo A B W0 m)).testBit p = false → (dd (runTo A B W0 (m + d))).testBit p = true → ∃ i, m ≤ i ∧ i < m + d ∧ runTo A B W0 (i + 1) 4 i = (p : Int) ∧ (dd (runTo A B W0 i)).testBit p = false ∧ (dd (runTo A B W0 (i + 1))).testBit p = true
  | 0, m, _, h, h2 => by
    rw [Nat.add_zero, h] at h2; cases h2
  | d + 1, m, hd, h, h2 => by
    cases hb : (dd (runTo A B W0 (m + d))).testBit p
    · refine ⟨m + d, by omega, by omega, ?_, hb, h2⟩
      rw [show m + (d + 1) = (m + d) + 1 by omega, run_s] at h2
      rcases (passY_r hA hB (runTo_ok hA hB hk (m + d)) (by omega)).2.2.2.1 p h2 with h3 | h3
      · rw [hb] at h3; cases h3
      · exact h3
    · obtain ⟨i, i1, i2, i3⟩ := dd_dn hA hB hk p d m (by omega) h hb
      exact ⟨i, i1, by omega, i3⟩
theorem dnC_c {c c' : Nat → Bool} {e e' : Nat → Int} : ∀ m y a, (∀ i, y ≤ i → i < y + m → c i = c' i ∧ e i = e' i) → dnC c e m y a = dnC c' e' m y a
  | 0, _, _, _ => rfl
  | m + 1, y, a, h => by
    have h1 := h y (by omega) (by omega)
    rw [dnC, dnC, h1.1, h1.2, dnC_c m (y + 1) (a - 1) (fun i q1 q2 => h i (by omega) (by omega)), dnC_c m (y + 1) a (fun i q1 q2 => h i (by omega) (by omega))]
/-- none but people die in it -/
theorem dd_lt (hA : VA A) (hB : VB A B) (hk : ROk A W0 0) (h0 : W0 0 5 = 0) (m : Nat) (hm : m ≤ 24) : dd (runTo A B W0 m) < 1024 := by
  refine Nat.lt_pow_two_of_testBit (n := 10) _ (fun p hp => ?_)
  cases hb : (dd (runTo A B W0 m)).testBit p
  · rfl
  · have hz : (dd (runTo A B W0 0)).testBit p = false := by
      show (W0 0 5).toNat.testBit p = false
      rw [h0]; exact Nat.zero_testBit p
    obtain ⟨i, i1, i2, i3, -⟩ := dd_dn hA hB hk p m 0 (by omega) hz (by rw [Nat.zero_add]; exact hb)
    have := (runTo_ok hA hB hk (i + 1)).2.2.2.2.2.2.2.2.2 i (by omega)
    have hA3 := hA.2.2.2.1
    omega
end An
theorem laC_is (c : Nat → Bool) : ∀ m y, y < m → (laC c m = (y : Int) ↔ (c y = true ∧ ∀ i, y < i → i < m → c i = false))
  | 0, y, h => by omega
  | m + 1, y, h => by
    rw [laC]
    by_cases hc : c m = true
    · rw [if_pos hc]
      constructor
      · intro e
        have e : m = y := by omega
        subst e
        exact ⟨hc, fun i h1 h2 => by omega⟩
      · rintro ⟨h1, h2⟩
        by_cases e : y = m
        · rw [e]
        · have := h2 m (by omega) (by omega)
          rw [hc] at this; cases this
    · have hf : c m = false := by cases hq : c m; rfl; exact absurd hq hc
      rw [if_neg hc]
      by_cases e : y = m
      · subst e
        constructor
        · intro q
          rcases laC_b c y with h3 | h3 <;> omega
        · rintro ⟨h1, -⟩
          rw [hf] at h1; cases h1
      · rw [laC_is c m y (by omega)]
        constructor
        · rintro ⟨h1, h2⟩
          refine ⟨h1, fun i q1 q2 => ?_⟩
          by_cases e2 : i = m
          · rw [e2]; exact hf
          · exact h2 i q1 (by omega)
        · rintro ⟨h1, h2⟩
          exact ⟨h1, fun i q1 q2 => h2 i q1 (by omega)⟩
/-- who is led away in a turn: class and reference -/
theorem an_led (hA : VA A) (hB : VB A B) (hk : ROk A W0 0) (hn : AnI A B W0 N0 (fY A) E) (a : Int) : dTurn A E a = dnC (ldB (runTo A B W0) (runTo A B W0 (fY A))) (runTo A B W0 (fY A) 4) (fY A) 0 a := by
  have e12 : E 12 = runTo A B W0 (fY A) 4 := hn.1 4 (by decide)
  have e8 : E 8 = runTo A B W0 (fY A) 0 := hn.1 0 (by decide)
  have h24 := (fY24 hA).2
  unfold dTurn
  refine dnC_c _ _ _ (fun y _ hy => ⟨?_, by rw [e12]⟩)
  have hy : y < fY A := by omega
  rw [an_last hn]
  unfold ldB
  rw [e12, e8]
  have eel := fun i hi => run_el hA hB hk i (fY A) hi h24
  by_cases c0 : 0 ≤ runTo A B W0 (fY A) 4 y
  rotate_left
  · rw [decide_eq_false c0]; rfl
  obtain ⟨p, hp⟩ : ∃ p : Nat, runTo A B W0 (fY A) 4 y = (p : Int) := ⟨(runTo A B W0 (fY A) 4 y).toNat, (Int.toNat_of_nonneg c0).symm⟩
  rw [hp, Int.toNat_natCast]
  have hel : runTo A B W0 (y + 1) 4 y = (p : Int) := by rw [← eel y hy]; exact hp
  have alive : ∀ i, i < fY A → runTo A B W0 (i + 1) 4 i = (p : Int) → (dd (runTo A B W0 i)).testBit p = false := fun i hi he => by
    have := (passY_r hA hB (runTo_ok hA hB hk i) (show i ≤ 24 by omega)).2.2.2.2.2
    rw [← run_s, he, Int.toNat_natCast] at this
    exact this (by omega)
  have hnd := alive y hy hel
  rw [hnd]
  have key : ((runTo A B W0 (fY A) 0 5).toNat.testBit p = true ∧ laC (fun i => decide (runTo A B W0 (fY A) 4 i = (p : Int))) (fY A) = (y : Int)) ↔ (dd (runTo A B W0 (y + 1))).testBit p = true := by
    rw [laC_is _ _ _ hy]
    constructor
    · rintro ⟨h1, h2, h3⟩
      obtain ⟨i, i1, i2, i3, i4, i5⟩ := dd_dn hA hB hk p (fY A - y) y (by omega) hnd (by rw [show y + (fY A - y) = fY A by omega]; exact h1)
      have ei : i = y := by
        refine Classical.byContradiction fun c => ?_
        have := h3 i (by omega) (by omega)
        rw [eel i (by omega), i3, decide_eq_true rfl] at this
        cases this
      rw [← ei]
      exact i5
    · intro h
      refine ⟨?_, ?_, fun i q1 q2 => ?_⟩
      · have := dd_up hA hB hk p (fY A - (y + 1)) (y + 1) (by omega) h
        rw [show y + 1 + (fY A - (y + 1)) = fY A by omega] at this
        exact this
      · rw [hp]; exact decide_eq_true rfl
      · refine decide_eq_false fun c => ?_
        rw [eel i q2] at c
        have d1 := alive i q2 c
        have d2 := dd_up hA hB hk p (i - (y + 1)) (y + 1) (by omega) h
        rw [show y + 1 + (i - (y + 1)) = i by omega, d1] at d2
        cases d2
  cases hb : (dd (runTo A B W0 (y + 1))).testBit p
  · have nk : ¬ ((runTo A B W0 (fY A) 0 5).toNat.testBit p = true ∧ laC (fun i => decide (runTo A B W0 (fY A) 4 i = (p : Int))) (fY A) = (y : Int)) := fun q => by
      have := key.mp q
      rw [hb] at this; cases this
    cases h1 : (runTo A B W0 (fY A) 0 5).toNat.testBit p
    · simp
    · rw [decide_eq_false (fun q => nk ⟨h1, q⟩)]
      simp
  · obtain ⟨h1, h2⟩ := key.mpr hb
    rw [h1, decide_eq_true h2]
    simp
end Ans
