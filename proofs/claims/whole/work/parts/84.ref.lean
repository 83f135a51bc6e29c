/-! ===== the reference's object and its family ===== -/
def MSh (T : Nat → Nat × Nat) (R : Nat → Nat → Option Nat) (r : Nat) : Prop := T r = (22, 0) ∧ (R r 5 = some (r + 1) ∧ R r 15 = some (r + 2) ∧ R r 16 = some (r + 3) ∧ R r 17 = some (r + 4) ∧ R r 20 = some (r + 5) ∧ R r 21 = some (r + 6) ∧ R r 22 = some (r + 7) ∧ R r 23 = some (r + 8) ∧ R r 24 = some (r + 9) ∧ R r 25 = some (r + 10) ∧ R r 26 = some (r + 11) ∧ R r 27 = some (r + 12) ∧ R r 28 = some (r + 13) ∧ R r 29 = some (r + 14) ∧ R r 30 = some (r + 15) ∧ R r 31 = some (r + 16) ∧ R r 32 = some (r + 17) ∧ R r 33 = some (r + 18) ∧ R r 34 = some (r + 19) ∧ R r 35 = some (r + 20) ∧ R r 36 = some (r + 21) ∧ R r 37 = some (r + 22) ∧ R r 47 = some (r + 23)) ∧ (T (r + 1) = (2, 1100) ∧ T (r + 2) = (1, 45) ∧ T (r + 3) = (1, 540) ∧ T (r + 4) = (1, 135) ∧ T (r + 5) = (1, 24) ∧ T (r + 6) = (1, 25) ∧ T (r + 7) = (1, 24) ∧ T (r + 8) = (1, 24) ∧ T (r + 9) = (1, 24) ∧ T (r + 10) = (3, 24) ∧ T (r + 11) = (1, 240) ∧ T (r + 12) = (1, 240) ∧ T (r + 13) = (1, 240) ∧ T (r + 14) = (1, 192) ∧ T (r + 15) = (1, 10) ∧ T (r + 16) = (1, 10) ∧ T (r + 17) = (1, 10) ∧ T (r + 18) = (1, 10) ∧ T (r + 19) = (1, 10) ∧ T (r + 20) = (1, 10) ∧ T (r + 21) = (1, 8) ∧ T (r + 22) = (1, 4) ∧ T (r + 23) = (1, 4))
def FMS (T : Nat → Nat × Nat) (R : Nat → Nat → Option Nat) (f : Nat) : Prop := T f = (21, 0) ∧ (R f 10 = some (f + 1) ∧ R f 11 = some (f + 2) ∧ R f 12 = some (f + 3) ∧ R f 13 = some (f + 4) ∧ R f 14 = some (f + 5) ∧ R f 15 = some (f + 6) ∧ R f 16 = some (f + 7) ∧ R f 17 = some (f + 8) ∧ R f 18 = some (f + 9) ∧ R f 19 = some (f + 10) ∧ R f 20 = some (f + 11) ∧ R f 21 = some (f + 12) ∧ R f 22 = some (f + 13) ∧ R f 23 = some (f + 14) ∧ R f 24 = some (f + 15) ∧ R f 25 = some (f + 16) ∧ R f 26 = some (f + 17) ∧ R f 27 = some (f + 18) ∧ R f 28 = some (f + 19) ∧ R f 29 = some (f + 20) ∧ R f 30 = some (f + 21) ∧ R f 31 = some (f + 22) ∧ R f 32 = some (f + 23)) ∧ (T (f + 1) = (1, 10) ∧ T (f + 2) = (1, 10) ∧ T (f + 3) = (1, 10) ∧ T (f + 4) = (1, 10) ∧ T (f + 5) = (1, 10) ∧ T (f + 6) = (1, 10) ∧ T (f + 7) = (1, 10) ∧ T (f + 8) = (1, 12) ∧ T (f + 9) = (1, 12) ∧ T (f + 10) = (1, 12) ∧ T (f + 11) = (1, 12) ∧ T (f + 12) = (1, 8) ∧ T (f + 13) = (1, 8) ∧ T (f + 14) = (1, 8) ∧ T (f + 15) = (1, 8) ∧ T (f + 16) = (1, 8) ∧ T (f + 17) = (1, 80) ∧ T (f + 18) = (1, 8) ∧ T (f + 19) = (1, 8) ∧ T (f + 20) = (3, 8) ∧ T (f + 21) = (4, 18) ∧ T (f + 22) = (3, 18) ∧ T (f + 23) = (1, 18))
/-- what the reference's family holds -/
def FMC (V : Nat → Nat → Int) (f : Nat) (A : Nat → Nat → Int) : Prop := (∀ j, j < 9 → V f j = A 0 j) ∧ (∀ c, c < 7 → ∀ p, p < fP A → V (f + 1 + c) p = A (1 + c) p) ∧ (∀ c, c < 4 → ∀ i, i < fPl A → V (f + 8 + c) i = A (8 + c) i) ∧ (∀ c, c < 4 → ∀ i, i < fBu A → V (f + 12 + c) i = A (12 + c) i) ∧ (∀ s, s < fSe A → V (f + 16) s = A 16 s) ∧ (∀ j, j < 80 → V (f + 17) j = A 17 j) ∧ (∀ i, i < fDi A → V (f + 18) i = A 18 i ∧ V (f + 19) i = A 19 i ∧ V (f + 20) i = 1 - A 20 i)
/-- what its row v holds -/
def NV (v : Nat → Int) (A B : Nat → Nat → Int) : Prop := v 0 = B 0 0 ∧ v 1 = B 0 1 ∧ v 12 = B 0 2 ∧ (∀ p, p < fP A → v (2 + p) = B 1 p) ∧ ∀ j, j < 4 * (B 0 2).toNat → v (13 + j) = B 2 j
def apF (f r : Nat) : Prop := f + 24 ≤ r ∨ r + 24 ≤ f
/-- in the reference's run: dies only by the day she is told; by her turns -/
def thE (A B E : Nat → Nat → Int) (y p : Nat) : Bool := thB A B y p && decide ((y : Int) < E 20 p)
def cnE (A B E : Nat → Nat → Int) (y p : Nat) : Bool := thE A B E y p && (decide (A 1 p ≠ 1) || decide ((y : Int) - A 3 p < 30))
section C84
variable {g : GG} {T : Nat → Nat × Nat} {V E A B : Nat → Nat → Int} {R : Nat → Nat → Option Nat} {J : Nat → Nat → Int64} {z k n : Nat} {r f : Nat}
theorem c_in {M : Mem} {x lo hi : Int} (hx : R32 x) (hl : R32 lo) (hh : R32 hi) : X g mX12_in 0 [.int (iI x), .int (iI lo), .int (iI hi)] [] M k n (rI (iI (bI (decide (lo ≤ x ∧ x ≤ hi)))) M) := by
  obtain ⟨x1, x2⟩ := hx
  obtain ⟨l1, l2⟩ := hl
  obtain ⟨q1, q2⟩ := hh
  refine x_iload_n dX12_in_0 rfl ?_
  refine x_iload_n dX12_in_1 rfl ?_
  refine (show X _ _ 2 _ _ _ _ _ _ from ?_)
  refine y_icmp_lt 14 dX12_in_2 (by decide) ⟨by omega, by omega⟩ ⟨by omega, by omega⟩ (fun h1 => ?_) (fun h1 => ?_)
  · rw [decide_eq_false (by omega)]
    refine y_iconst dX12_in_14 ?_
    refine (show X _ _ 15 _ _ _ _ _ _ from ?_)
    exact x_zreturn dX12_in_15 rfl rfl ⟨rfl, rfl⟩
  refine x_iload_n dX12_in_5 rfl ?_
  refine x_iload_n dX12_in_6 rfl ?_
  refine (show X _ _ 7 _ _ _ _ _ _ from ?_)
  refine y_icmp_gt 14 dX12_in_7 (by decide) ⟨by omega, by omega⟩ ⟨by omega, by omega⟩ (fun h2 => ?_) (fun h2 => ?_)
  · rw [decide_eq_false (by omega)]
    refine y_iconst dX12_in_14 ?_
    refine (show X _ _ 15 _ _ _ _ _ _ from ?_)
    exact x_zreturn dX12_in_15 rfl rfl ⟨rfl, rfl⟩
  · rw [decide_eq_true (by omega)]
    refine y_iconst dX12_in_10 ?_
    refine x_goto 15 dX12_in_11 (by decide) ?_
    refine (show X _ _ 15 _ _ _ _ _ _ from ?_)
    exact x_zreturn dX12_in_15 rfl rfl ⟨rfl, rfl⟩
theorem c_bit (g : GG) (b p : Nat) (M : Mem) (k n : Nat) (hb : b < 2 ^ 31) (hp : p < 31) : X g mX12_bit 0 [.int (iI b), .int (iI p)] [] M k n (rI (iI (bI (b.testBit p))) M) := by
  refine x_iload_n dX12_bit_0 rfl ?_
  refine x_iload_n dX12_bit_1 rfl ?_
  refine y_bit (p) dX12_bit_2 dX12_bit_3 dX12_bit_4 (by first | rfl | omega) (by omega) (by omega) ?_
  refine y_iconst dX12_bit_5 ?_
  refine (show X _ _ 6 _ _ _ _ _ _ from ?_)
  have eb0 : bI false = 0 := rfl
  have eb1 : bI true = 1 := rfl
  cases h : b.testBit p
  · refine y_icmp_ne 13 dX12_bit_6 (by decide) ⟨by omega, by omega⟩ ⟨by omega, by omega⟩ (fun h1 => ?_) (fun h1 => ?_)
    · refine y_iconst dX12_bit_13 ?_
      refine (show X _ _ 14 _ _ _ _ _ _ from ?_)
      exact x_zreturn dX12_bit_14 rfl rfl ⟨rfl, rfl⟩
    · exact absurd h1 (by decide)
  · refine y_icmp_ne 13 dX12_bit_6 (by decide) ⟨by omega, by omega⟩ ⟨by omega, by omega⟩ (fun h1 => ?_) (fun h1 => ?_)
    · exact absurd rfl h1
    · refine y_iconst dX12_bit_9 ?_
      refine x_goto 14 dX12_bit_10 (by decide) ?_
      refine (show X _ _ 14 _ _ _ _ _ _ from ?_)
      exact x_zreturn dX12_bit_14 rfl rfl ⟨rfl, rfl⟩
theorem c_isBorn {p : Nat} {y : Int} (hG : FMS T R f) (hF : FMC V f A) (hA : VA A) (hap : apF f r) (hp : p < fP A) (hy : R32 y) : X g mX11_isBorn 0 [.ref f, .int (iI (p : Int)), .int (iI y)] [] (T, iV (pB V r 24 E), R, J, z) k n (rI (iI (bI (decide (A 3 p ≤ y)))) (T, iV (pB V r 24 E), R, J, z)) := by
  obtain ⟨g0, ⟨-, -, g12, -⟩, ⟨-, -, gk3, -⟩⟩ := id hG
  have e3 : V (f + 3) p = A 3 p := hF.2.1 2 (by decide) p hp
  have hb := (hA.2.2.2.2.2.2.2.2.2.1 p hp).2.2.1
  have eP := fP10 hA
  have hY := hA.1
  unfold apF at hap
  obtain ⟨y1, y2⟩ := hy
  refine x_aload_n dX11_isBorn_0 rfl ?_
  refine x_gr dX11_isBorn_1 fX11_18 (by first | assumption) (fun _ _ _ => rfl) (by first | assumption) ?_
  refine x_iload_n dX11_isBorn_4 rfl ?_
  refine b_ialo (r := r) (m := 24) (p) dX11_isBorn_5 (by first | assumption) (by first | rfl | omega) (by omega) (by decide) (by omega) ?_
  refine (show X _ _ 6 _ _ _ _ _ _ from ?_)
  refine X.val e3 ?_
  refine x_iload_n dX11_isBorn_6 rfl ?_
  refine (show X _ _ 7 _ _ _ _ _ _ from ?_)
  refine y_icmp_gt 14 dX11_isBorn_7 (by decide) ⟨by omega, by omega⟩ ⟨by omega, by omega⟩ (fun h1 => ?_) (fun h1 => ?_)
  · rw [decide_eq_false (by omega)]
    refine y_iconst dX11_isBorn_14 ?_
    refine (show X _ _ 15 _ _ _ _ _ _ from ?_)
    exact x_zreturn dX11_isBorn_15 rfl rfl ⟨rfl, rfl⟩
  · rw [decide_eq_true h1]
    refine y_iconst dX11_isBorn_10 ?_
    refine x_goto 15 dX11_isBorn_11 (by decide) ?_
    refine (show X _ _ 15 _ _ _ _ _ _ from ?_)
    exact x_zreturn dX11_isBorn_15 rfl rfl ⟨rfl, rfl⟩
theorem c_ageM {p : Nat} {y : Int} (hG : FMS T R f) (hF : FMC V f A) (hA : VA A) (hap : apF f r) (hp : p < fP A) : X g mX11_age 0 [.ref f, .int (iI (p : Int)), .int (iI y)] [] (T, iV (pB V r 24 E), R, J, z) k n (rI (iI (y - A 3 p)) (T, iV (pB V r 24 E), R, J, z)) := by
  obtain ⟨g0, ⟨-, -, g12, -⟩, ⟨-, -, gk3, -⟩⟩ := id hG
  have e3 : V (f + 3) p = A 3 p := hF.2.1 2 (by decide) p hp
  have eP := fP10 hA
  unfold apF at hap
  refine x_iload_n dX11_age_0 rfl ?_
  refine x_aload_n dX11_age_1 rfl ?_
  refine x_gr dX11_age_2 fX11_18 (by first | assumption) (fun _ _ _ => rfl) (by first | assumption) ?_
  refine x_iload_n dX11_age_5 rfl ?_
  refine b_ialo (r := r) (m := 24) (p) dX11_age_6 (by first | assumption) (by first | rfl | omega) (by omega) (by decide) (by omega) ?_
  refine (show X _ _ 7 _ _ _ _ _ _ from ?_)
  refine X.val e3 ?_
  refine y_isub dX11_age_7 ?_
  refine (show X _ _ 8 _ _ _ _ _ _ from ?_)
  exact x_ireturn dX11_age_8 rfl ⟨rfl, rfl⟩
theorem c_isThere {p y : Nat} (hM : MSh T R r) (hf : R r 3 = some f) (hG : FMS T R f) (hF : FMC V f A) (hA : VA A) (hB : VB A B) (hap : apF f r) (hv : NV (E 2) A B) (hp : p < fP A) (hy : y ≤ 24) (hd : 0 ≤ E 20 p ∧ E 20 p ≤ 25) : X g mX12_isThere 0 [.ref r, .int (iI (p : Int)), .int (iI (y : Int))] [] (T, iV (pB V r 24 E), R, J, z) k n (rI (iI (bI (thE A B E y p))) (T, iV (pB V r 24 E), R, J, z)) := by
  have hib := c_isBorn (g := g) (J := J) (z := z) (k := 0) (n := 0) (E := E) (p := p) (y := (y : Int)) hG hF hA hap hp ⟨by omega, by omega⟩
  obtain ⟨m0, ⟨-, m15, -, -, -, -, -, -, -, -, -, -, -, -, -, -, -, -, -, m35, -, -, -⟩, ⟨-, mk2, -, -, -, -, -, -, -, -, -, -, -, -, -, -, -, -, -, mk20, -, -, -⟩⟩ := id hM
  have g0 := hG.1
  have eP := fP10 hA
  have e2 := hv.2.2.2.1 p hp
  have hb := hB.2.2.2.1 p hp
  have hY := hA.1
  have no : thE A B E y p = false → X g mX12_isThere 51 [.ref r, .int (iI (p : Int)), .int (iI (y : Int))] [] (T, iV (pB V r 24 E), R, J, z) k n (rI (iI (bI (thE A B E y p))) (T, iV (pB V r 24 E), R, J, z)) := by
    intro e
    rw [e]
    refine y_iconst dX12_isThere_51 ?_
    refine (show X _ _ 52 _ _ _ _ _ _ from ?_)
    exact x_zreturn dX12_isThere_52 rfl rfl ⟨rfl, rfl⟩
  have last : (A 3 p ≤ (y : Int)) → (B 1 p = -2 ∨ (y : Int) < B 1 p) → X g mX12_isThere 37 [.ref r, .int (iI (p : Int)), .int (iI (y : Int))] [] (T, iV (pB V r 24 E), R, J, z) k n (rI (iI (bI (thE A B E y p))) (T, iV (pB V r 24 E), R, J, z)) := by
    intro h1 h2
    have h3 : thB A B y p = true := by
      unfold thB
      rw [decide_eq_true h1]
      rcases h2 with h2 | h2
      · rw [decide_eq_true h2]; rfl
      · rw [decide_eq_true h2, Bool.or_true]; rfl
    refine x_iload_n dX12_isThere_37 rfl ?_
    refine x_aload_n dX12_isThere_38 rfl ?_
    refine x_gr dX12_isThere_39 fX12_73 (by first | assumption) (fun _ _ _ => rfl) (by first | assumption) ?_
    refine x_iload_n dX12_isThere_42 rfl ?_
    refine b_iald (r := r) (m := 24) (j := 20) (p) dX12_isThere_43 (by first | assumption) (by first | rfl | omega) (by omega) (by decide) (by decide) ?_
    refine (show X _ _ 44 _ _ _ _ _ _ from ?_)
    refine y_icmp_ge 51 dX12_isThere_44 (by decide) ⟨by omega, by omega⟩ ⟨by omega, by omega⟩ (fun h4 => ?_) (fun h4 => ?_)
    · exact no (by unfold thE; rw [decide_eq_false (by omega), Bool.and_false])
    · have e : thE A B E y p = true := by unfold thE; rw [h3, decide_eq_true h4]; rfl
      rw [e]
      refine y_iconst dX12_isThere_47 ?_
      refine x_goto 52 dX12_isThere_48 (by decide) ?_
      refine (show X _ _ 52 _ _ _ _ _ _ from ?_)
      exact x_zreturn dX12_isThere_52 rfl rfl ⟨rfl, rfl⟩
  refine x_aload_n dX12_isThere_0 rfl ?_
  refine x_gr dX12_isThere_1 fX12_409 (by first | assumption) (fun _ _ _ => rfl) (by first | assumption) ?_
  refine x_iload_n dX12_isThere_4 rfl ?_
  refine x_iload_n dX12_isThere_5 rfl ?_
  refine (show X _ _ 6 _ _ _ _ _ _ from ?_)
  refine x_callV (As := [_, _]) (mc := 0) (ms := 0) (z := mX11_isBorn) (ci := 11) dX12_isThere_6 lX12_452 oX11_isBorn (by decide) (by first | assumption) rfl rfl (Nat.le_of_ble_eq_true rfl) (Nat.le_of_ble_eq_true rfl) rfl (hib) (k_I ?_)
  refine (show X _ _ 9 _ _ _ _ _ _ from ?_)
  refine y_ifb_eq 51 dX12_isThere_9 (by decide) (fun h1 => ?_) (fun h1 => ?_)
  · exact no (by unfold thE thB; rw [h1]; rfl)
  have h1 := of_decide_eq_true h1
  refine x_aload_n dX12_isThere_12 rfl ?_
  refine x_gr dX12_isThere_13 fX12_17 (by first | assumption) (fun _ _ _ => rfl) (by first | assumption) ?_
  refine y_iconst dX12_isThere_16 ?_
  refine x_iload_n dX12_isThere_17 rfl ?_
  refine y_iadd dX12_isThere_18 ?_
  refine b_iald (r := r) (m := 24) (j := 2) (2 + p) dX12_isThere_19 (by first | assumption) (by first | rfl | omega) (by omega) (by decide) (by decide) ?_
  refine (show X _ _ 20 _ _ _ _ _ _ from ?_)
  refine X.val e2 ?_
  refine y_bipush dX12_isThere_20 rfl ?_
  refine (show X _ _ 22 _ _ _ _ _ _ from ?_)
  refine y_icmp_eq 37 dX12_isThere_22 (by decide) ⟨by omega, by omega⟩ ⟨by omega, by omega⟩ (fun h2 => ?_) (fun h2 => ?_)
  · exact last h1 (Or.inl h2)
  refine x_iload_n dX12_isThere_25 rfl ?_
  refine x_aload_n dX12_isThere_26 rfl ?_
  refine x_gr dX12_isThere_27 fX12_17 (by first | assumption) (fun _ _ _ => rfl) (by first | assumption) ?_
  refine y_iconst dX12_isThere_30 ?_
  refine x_iload_n dX12_isThere_31 rfl ?_
  refine y_iadd dX12_isThere_32 ?_
  refine b_iald (r := r) (m := 24) (j := 2) (2 + p) dX12_isThere_33 (by first | assumption) (by first | rfl | omega) (by omega) (by decide) (by decide) ?_
  refine (show X _ _ 34 _ _ _ _ _ _ from ?_)
  refine X.val e2 ?_
  refine y_icmp_ge 51 dX12_isThere_34 (by decide) ⟨by omega, by omega⟩ ⟨by omega, by omega⟩ (fun h3 => ?_) (fun h3 => ?_)
  · exact no (by unfold thE thB; rw [decide_eq_false h2, decide_eq_false (show ¬ ((y : Int) < B 1 p) by omega), Bool.or_false, Bool.and_false]; rfl)
  · exact last h1 (Or.inr h3)
theorem c_isAble {p y : Nat} (hM : MSh T R r) (hf : R r 3 = some f) (hG : FMS T R f) (hF : FMC V f A) (hA : VA A) (hB : VB A B) (hap : apF f r) (hv : NV (E 2) A B) (hp : p < fP A) (hy : y ≤ 24) (hd : 0 ≤ E 20 p ∧ E 20 p ≤ 25) : X g mX12_isAble 0 [.ref r, .int (iI (p : Int)), .int (iI (y : Int))] [] (T, iV (pB V r 24 E), R, J, z) k n (rI (iI (bI (cnE A B E y p))) (T, iV (pB V r 24 E), R, J, z)) := by
  have hit := c_isThere (g := g) (J := J) (z := z) (k := 0) (n := 0) hM hf hG hF hA hB hap hv hp hy hd
  have hag := c_ageM (g := g) (J := J) (z := z) (k := 0) (n := 0) (E := E) (p := p) (y := (y : Int)) hG hF hA hap hp
  obtain ⟨m0, -, -⟩ := id hM
  obtain ⟨g0, ⟨g10, -, -, -, -, -, -, -, -, -, -, -, -, -, -, -, -, -, -, -, -, -, -⟩, ⟨gk1, -, -, -, -, -, -, -, -, -, -, -, -, -, -, -, -, -, -, -, -, -, -⟩⟩ := id hG
  have eP := fP10 hA
  have e1 : V (f + 1) p = A 1 p := hF.2.1 0 (by decide) p hp
  have hb := hA.2.2.2.2.2.2.2.2.2.1 p hp
  have hY := hA.1
  unfold apF at hap
  have no : cnE A B E y p = false → X g mX12_isAble 40 [.ref r, .int (iI (p : Int)), .int (iI (y : Int))] [] (T, iV (pB V r 24 E), R, J, z) k n (rI (iI (bI (cnE A B E y p))) (T, iV (pB V r 24 E), R, J, z)) := by
    intro e
    rw [e]
    refine y_iconst dX12_isAble_40 ?_
    refine (show X _ _ 41 _ _ _ _ _ _ from ?_)
    exact x_zreturn dX12_isAble_41 rfl rfl ⟨rfl, rfl⟩
  have yes : cnE A B E y p = true → X g mX12_isAble 36 [.ref r, .int (iI (p : Int)), .int (iI (y : Int))] [] (T, iV (pB V r 24 E), R, J, z) k n (rI (iI (bI (cnE A B E y p))) (T, iV (pB V r 24 E), R, J, z)) := by
    intro e
    rw [e]
    refine y_iconst dX12_isAble_36 ?_
    refine x_goto 41 dX12_isAble_37 (by decide) ?_
    refine (show X _ _ 41 _ _ _ _ _ _ from ?_)
    exact x_zreturn dX12_isAble_41 rfl rfl ⟨rfl, rfl⟩
  refine x_aload_n dX12_isAble_0 rfl ?_
  refine x_iload_n dX12_isAble_1 rfl ?_
  refine x_iload_n dX12_isAble_2 rfl ?_
  refine (show X _ _ 3 _ _ _ _ _ _ from ?_)
  refine x_callV (As := [_, _]) (mc := 0) (ms := 0) (z := mX12_isThere) (ci := 12) dX12_isAble_3 lX12_455 oX12_isThere (by decide) (by first | assumption) rfl rfl (Nat.le_of_ble_eq_true rfl) (Nat.le_of_ble_eq_true rfl) rfl (hit) (k_I ?_)
  refine (show X _ _ 6 _ _ _ _ _ _ from ?_)
  refine y_ifb_eq 40 dX12_isAble_6 (by decide) (fun h1 => ?_) (fun h1 => ?_)
  · exact no (by unfold cnE; rw [h1]; rfl)
  refine x_aload_n dX12_isAble_9 rfl ?_
  refine x_gr dX12_isAble_10 fX12_409 (by first | assumption) (fun _ _ _ => rfl) (by first | assumption) ?_
  refine x_gr dX12_isAble_13 fX12_323 (by first | assumption) (fun _ _ _ => rfl) (by first | assumption) ?_
  refine x_iload_n dX12_isAble_16 rfl ?_
  refine b_ialo (r := r) (m := 24) (p) dX12_isAble_17 (by first | assumption) (by first | rfl | omega) (by omega) (by decide) (by omega) ?_
  refine (show X _ _ 18 _ _ _ _ _ _ from ?_)
  refine X.val e1 ?_
  refine y_iconst dX12_isAble_18 ?_
  refine (show X _ _ 19 _ _ _ _ _ _ from ?_)
  refine y_icmp_ne 36 dX12_isAble_19 (by decide) ⟨by omega, by omega⟩ ⟨by omega, by omega⟩ (fun h2 => ?_) (fun h2 => ?_)
  · exact yes (by unfold cnE; rw [h1, decide_eq_true h2]; rfl)
  refine x_aload_n dX12_isAble_22 rfl ?_
  refine x_gr dX12_isAble_23 fX12_409 (by first | assumption) (fun _ _ _ => rfl) (by first | assumption) ?_
  refine x_iload_n dX12_isAble_26 rfl ?_
  refine x_iload_n dX12_isAble_27 rfl ?_
  refine (show X _ _ 28 _ _ _ _ _ _ from ?_)
  refine x_callV (As := [_, _]) (mc := 0) (ms := 0) (z := mX11_age) (ci := 11) dX12_isAble_28 lX12_458 oX11_age (by decide) (by first | assumption) rfl rfl (Nat.le_of_ble_eq_true rfl) (Nat.le_of_ble_eq_true rfl) rfl (hag) (k_I ?_)
  refine (show X _ _ 31 _ _ _ _ _ _ from ?_)
  refine y_bipush dX12_isAble_31 rfl ?_
  refine (show X _ _ 33 _ _ _ _ _ _ from ?_)
  refine y_icmp_ge 40 dX12_isAble_33 (by decide) ⟨by omega, by omega⟩ ⟨by omega, by omega⟩ (fun h3 => ?_) (fun h3 => ?_)
  · exact no (by unfold cnE; rw [h1, decide_eq_false (by omega), decide_eq_false (by omega)]; rfl)
  · exact yes (by unfold cnE; rw [h1, decide_eq_true h3, Bool.or_true]; rfl)
theorem c_thereIn {y : Nat} (hM : MSh T R r) (hf : R r 3 = some f) (hG : FMS T R f) (hF : FMC V f A) (hA : VA A) (hB : VB A B) (hap : apF f r) (hv : NV (E 2) A B) (hy : y ≤ 24) (hd : ∀ p, p < fP A → 0 ≤ E 20 p ∧ E 20 p ≤ 25) : X g mX12_thereIn 0 [.ref r, .int (iI (y : Int)), jk, jk] [] (T, iV (pB V r 24 E), R, J, z) k n (rI (iI ((sOf (fP A) (thE A B E y) : Nat) : Int)) (T, iV (pB V r 24 E), R, J, z)) := by
  have hit := fun p hp => c_isThere (g := g) (J := J) (z := z) (k := 0) (n := 0) (p := p) hM hf hG hF hA hB hap hv hp hy (hd p hp)
  obtain ⟨m0, -, -⟩ := id hM
  obtain ⟨g0, -, -⟩ := id hG
  have eP := fP10 hA
  have e3 := hF.1 3 (by decide)
  have hA3 := hA.2.2.2.1
  unfold apF at hap
  refine y_iconst dX12_thereIn_0 ?_
  refine x_istore_n dX12_thereIn_1 (by decide) rfl rfl ?_
  refine y_iconst dX12_thereIn_2 ?_
  refine x_istore_n dX12_thereIn_3 (by decide) rfl rfl ?_
  refine (show X _ _ 4 _ _ _ _ _ _ from ?_)
  refine loopN (P := fun p => X g mX12_thereIn 4 [.ref r, .int (iI (y : Int)), .int (iI ((sOf p (thE A B E y) : Nat) : Int)), .int (iI (p : Int))] [] (T, iV (pB V r 24 E), R, J, z) k n (rI (iI ((sOf (fP A) (thE A B E y) : Nat) : Int)) (T, iV (pB V r 24 E), R, J, z))) (fP A) ?_ (fun p hp ih => ?_)
  · refine x_iload_n dX12_thereIn_4 rfl ?_
    refine x_aload_n dX12_thereIn_5 rfl ?_
    refine x_gr dX12_thereIn_6 fX12_409 (by first | assumption) (fun _ _ _ => rfl) (by first | assumption) ?_
    refine b_gio (r := r) (m := 24) dX12_thereIn_9 fX12_230 (by first | assumption) (fun _ _ _ => rfl) (by omega) ?_
    refine (show X _ _ 12 _ _ _ _ _ _ from ?_)
    refine X.val e3 ?_
    refine y_icmp_ge 40 dX12_thereIn_12 (by decide) ⟨by omega, by omega⟩ ⟨by omega, by omega⟩ (fun h1 => ?_) (fun h1 => ?_)
    rotate_left
    · omega
    refine x_iload_n dX12_thereIn_40 rfl ?_
    refine (show X _ _ 41 _ _ _ _ _ _ from ?_)
    exact x_ireturn dX12_thereIn_41 rfl ⟨rfl, rfl⟩
  · have es : sOf (p + 1) (thE A B E y) = if thE A B E y p then sOf p (thE A B E y) ||| 2 ^ p else sOf p (thE A B E y) := rfl
    rw [es] at ih
    refine x_iload_n dX12_thereIn_4 rfl ?_
    refine x_aload_n dX12_thereIn_5 rfl ?_
    refine x_gr dX12_thereIn_6 fX12_409 (by first | assumption) (fun _ _ _ => rfl) (by first | assumption) ?_
    refine b_gio (r := r) (m := 24) dX12_thereIn_9 fX12_230 (by first | assumption) (fun _ _ _ => rfl) (by omega) ?_
    refine (show X _ _ 12 _ _ _ _ _ _ from ?_)
    refine X.val e3 ?_
    refine y_icmp_ge 40 dX12_thereIn_12 (by decide) ⟨by omega, by omega⟩ ⟨by omega, by omega⟩ (fun h1 => ?_) (fun h1 => ?_)
    · omega
    refine x_iload_n dX12_thereIn_15 rfl ?_
    refine x_aload_n dX12_thereIn_16 rfl ?_
    refine x_iload_n dX12_thereIn_17 rfl ?_
    refine x_iload_n dX12_thereIn_18 rfl ?_
    refine (show X _ _ 19 _ _ _ _ _ _ from ?_)
    refine x_callV (As := [_, _]) (mc := 0) (ms := 0) (z := mX12_isThere) (ci := 12) dX12_thereIn_19 lX12_455 oX12_isThere (by decide) (by first | assumption) rfl rfl (Nat.le_of_ble_eq_true rfl) (Nat.le_of_ble_eq_true rfl) rfl (hit p hp) (k_I ?_)
    refine (show X _ _ 22 _ _ _ _ _ _ from ?_)
    refine y_ifb_eq 31 dX12_thereIn_22 (by decide) (fun h2 => ?_) (fun h2 => ?_)
    · rw [if_neg (by rw [h2]; decide)] at ih
      refine y_iconst dX12_thereIn_31 ?_
      refine (show X _ _ 32 _ _ _ _ _ _ from ?_)
      refine y_ior (b := 0) dX12_thereIn_32 ?_
      rw [Nat.or_zero]
      refine x_istore_n dX12_thereIn_33 (by decide) rfl rfl ?_
      refine y_iinc dX12_thereIn_34 rfl (by decide) rfl rfl ?_
      refine x_goto 4 dX12_thereIn_37 (by decide) ?_
      refine (show X _ _ 4 _ _ _ _ _ _ from ?_)
      exact ih
    · rw [if_pos h2] at ih
      refine y_iconst dX12_thereIn_25 ?_
      refine x_iload_n dX12_thereIn_26 rfl ?_
      refine y_ishl (p) dX12_thereIn_27 (by first | rfl | omega) (by omega) ?_
      refine x_goto 32 dX12_thereIn_28 (by decide) ?_
      refine y_ior dX12_thereIn_32 ?_
      refine x_istore_n dX12_thereIn_33 (by decide) rfl rfl ?_
      refine y_iinc dX12_thereIn_34 rfl (by decide) rfl rfl ?_
      refine x_goto 4 dX12_thereIn_37 (by decide) ?_
      refine (show X _ _ 4 _ _ _ _ _ _ from ?_)
      exact ih
theorem c_counted {p : Nat} {W : Nat → Nat → Int} (hM : MSh T R r) (hf : R r 3 = some f) (hG : FMS T R f) (hF : FMC V f A) (hA : VA A) (hap : apF f r) (hp : p < fP A) (hW : E 15 p = W 1 p) : X g mX12_counted 0 [.ref r, .int (iI (p : Int))] [] (T, iV (pB V r 24 E), R, J, z) k n (rI (iI (cnt A W p)) (T, iV (pB V r 24 E), R, J, z)) := by
  obtain ⟨m0, ⟨-, -, -, -, -, -, -, -, -, -, -, -, -, -, m30, -, -, -, -, -, -, -, -⟩, ⟨-, -, -, -, -, -, -, -, -, -, -, -, -, -, mk15, -, -, -, -, -, -, -, -⟩⟩ := id hM
  obtain ⟨g0, ⟨g10, -, -, -, -, -, -, -, -, -, -, -, -, -, -, -, -, -, -, -, -, -, -⟩, ⟨gk1, -, -, -, -, -, -, -, -, -, -, -, -, -, -, -, -, -, -, -, -, -, -⟩⟩ := id hG
  have eP := fP10 hA
  have e1 : V (f + 1) p = A 1 p := hF.2.1 0 (by decide) p hp
  have hb := hA.2.2.2.2.2.2.2.2.2.1 p hp
  unfold apF at hap
  unfold cnt
  refine x_aload_n dX12_counted_0 rfl ?_
  refine x_gr dX12_counted_1 fX12_58 (by first | assumption) (fun _ _ _ => rfl) (by first | assumption) ?_
  refine x_iload_n dX12_counted_4 rfl ?_
  refine b_iald (r := r) (m := 24) (j := 15) (p) dX12_counted_5 (by first | assumption) (by first | rfl | omega) (by omega) (by decide) (by decide) ?_
  refine (show X _ _ 6 _ _ _ _ _ _ from ?_)
  refine X.val hW ?_
  refine x_aload_n dX12_counted_6 rfl ?_
  refine x_gr dX12_counted_7 fX12_409 (by first | assumption) (fun _ _ _ => rfl) (by first | assumption) ?_
  refine x_gr dX12_counted_10 fX12_323 (by first | assumption) (fun _ _ _ => rfl) (by first | assumption) ?_
  refine x_iload_n dX12_counted_13 rfl ?_
  refine b_ialo (r := r) (m := 24) (p) dX12_counted_14 (by first | assumption) (by first | rfl | omega) (by omega) (by decide) (by omega) ?_
  refine (show X _ _ 15 _ _ _ _ _ _ from ?_)
  refine X.val e1 ?_
  refine y_iconst dX12_counted_15 ?_
  refine (show X _ _ 16 _ _ _ _ _ _ from ?_)
  refine y_icmp_ne 23 dX12_counted_16 (by decide) ⟨by omega, by omega⟩ ⟨by omega, by omega⟩ (fun h1 => ?_) (fun h1 => ?_)
  · rw [if_neg h1]
    refine y_iconst dX12_counted_23 ?_
    refine y_isub dX12_counted_24 ?_
    refine (show X _ _ 25 _ _ _ _ _ _ from ?_)
    rw [Int.sub_zero]
    exact x_ireturn dX12_counted_25 rfl ⟨rfl, rfl⟩
  · rw [if_pos h1]
    refine y_iconst dX12_counted_19 ?_
    refine x_goto 24 dX12_counted_20 (by decide) ?_
    refine y_isub dX12_counted_24 ?_
    refine (show X _ _ 25 _ _ _ _ _ _ from ?_)
    exact x_ireturn dX12_counted_25 rfl ⟨rfl, rfl⟩
end C84
