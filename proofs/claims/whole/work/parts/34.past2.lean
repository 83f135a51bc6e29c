/-! ===== Past: keeping an act ===== -/
section C23
variable {g : GG} {T : Nat → Nat × Nat} {V : Nat → Nat → Int} {R R' : Nat → Nat → Option Nat} {J : Nat → Nat → Int64} {z k n : Nat} {B : Nat → Nat → Int} {pa nw a m : Nat} {σ : Nat → Nat} {H K : Nat → Nat → Nat → Int}
def rot (σ : Nat → Nat) : Nat → Nat := fun i => if i = 11 then σ 0 else σ (i + 1)
theorem NS_r {q : Nat} (h : NS T R nw) (ho : ∀ b, b ≠ q → R' b = R b) (hq : nw ≠ q) : NS T R' nw := by
  unfold NS at *
  rw [ho nw hq]
  exact h
theorem PS_rot (h : PS T R pa σ) (ho : ∀ b, b ≠ pa + 1 → R' b = R b) (hr : ∀ i, i < 12 → R' (pa + 1) i = some (pa + 3 + 3 * rot σ i)) : PS T R' pa (rot σ) := by
  obtain ⟨⟨q0, q1, q2, q3, q4⟩, h1, h2, h3, hNS⟩ := h
  refine ⟨⟨q0, by rw [ho pa (by omega)]; exact q1, by rw [ho pa (by omega)]; exact q2, q3, q4⟩, fun i hi => ⟨hr i hi, ?_⟩, fun i j hi hj e => ?_, fun i hi => by rw [ho (pa + 2) (by omega)]; exact h3 i hi, fun i hi => NS_r (hNS i hi) ho (by omega)⟩
  · unfold rot
    split
    · exact (h1 0 (by omega)).2
    · exact (h1 (i + 1) (by omega)).2
  · unfold rot at e
    by_cases e1 : i = 11 <;> by_cases e2 : j = 11
    · omega
    · rw [if_pos e1, if_neg e2] at e
      have := h2 0 (j + 1) (by omega) (by omega) e
      omega
    · rw [if_neg e1, if_pos e2] at e
      have := h2 (i + 1) 0 (by omega) (by omega) e
      omega
    · rw [if_neg e1, if_neg e2] at e
      have := h2 (i + 1) (j + 1) (by omega) (by omega) e
      omega
theorem c_dropOldest (hp : PS T R pa σ) : X g mX5_dropOldest 0 [.ref pa, jk, jk] [] (T, iV V, R, J, z) k n (fun v M1 => v = none ∧ ∃ R', M1 = (T, iV (u2 V pa 0 11), R', J, z) ∧ (∀ b, b ≠ pa + 1 → R' b = R b) ∧ PS T R' pa (rot σ)) := by
  obtain ⟨⟨q0, q1, q2, q3, q4⟩, h1, h2, h3, hNS⟩ := id hp
  obtain ⟨e0, l0⟩ := h1 0 (by omega)
  have t0 := (hNS (σ 0) (by omega)).1
  have k1 : ∀ (d c : Nat) (R1 : Nat → Nat → Option Nat), c + d = 11 → (∀ b, b ≠ pa + 1 → R1 b = R b) → (∀ j, j < c → R1 (pa + 1) j = some (pa + 3 + 3 * σ (j + 1))) → (∀ j, c < j → j < 12 → R1 (pa + 1) j = some (pa + 3 + 3 * σ j)) → X g mX5_dropOldest 9 [.ref pa, .ref (pa + 3 + 3 * σ 0), .int (iI ((c + 1 : Nat) : Int))] [] (T, iV V, R1, J, z) k n (fun v M1 => v = none ∧ ∃ R', M1 = (T, iV (u2 V pa 0 11), R', J, z) ∧ (∀ b, b ≠ pa + 1 → R' b = R b) ∧ PS T R' pa (rot σ)) := by
    intro d
    induction d with
    | zero =>
      intro c R1 hc ho hb ha
      have r1 : R1 pa 2 = some (pa + 1) := by rw [ho pa (by omega)]; exact q1
      refine x_iload_n dX5_dropOldest_9 rfl ?_
      refine y_bipush dX5_dropOldest_10 rfl ?_
      refine (show X _ _ 12 _ _ _ _ _ _ from ?_)
      refine y_icmp_ge 35 dX5_dropOldest_12 (by decide) ⟨by omega, by omega⟩ ⟨by omega, by omega⟩ (fun h => ?_) (fun h => ?_)
      rotate_left
      · omega
      refine x_aload_n dX5_dropOldest_35 rfl ?_
      refine x_gr dX5_dropOldest_36 fX5_20 (by first | assumption) (fun _ _ _ => rfl) (by first | assumption) ?_
      refine y_bipush dX5_dropOldest_39 rfl ?_
      refine x_aload_n dX5_dropOldest_41 rfl ?_
      refine (show X _ _ 42 _ _ _ _ _ _ from ?_)
      refine x_aast (p := 11) dX5_dropOldest_42 q3 t0 (ix_nat (by omega)) (by omega) (by decide) ?_
      refine (show X _ _ 43 _ _ _ _ _ _ from ?_)
      refine x_aload_n dX5_dropOldest_43 rfl ?_
      refine y_bipush dX5_dropOldest_44 rfl ?_
      refine y_pi dX5_dropOldest_46 (pX5_9 _) (by first | assumption) (fun _ _ _ => rfl) rfl rfl ?_
      refine (show X _ _ 49 _ _ _ _ _ _ from ?_)
      have ho2 : ∀ b, b ≠ pa + 1 → u2 R1 (pa + 1) 11 (some (pa + 3 + 3 * σ 0)) b = R b := fun b hb => by rw [u2_n hb]; exact ho b hb
      refine x_return dX5_dropOldest_49 rfl ⟨rfl, _, rfl, ho2, PS_rot hp ho2 (fun i hi => ?_)⟩
      rw [u2_s]
      unfold rot
      by_cases e : i = 11
      · subst e; rw [u1_s, if_pos rfl]
      · rw [u1_n e, if_neg e]; exact hb i (by omega)
    | succ d ih =>
      intro c R1 hc ho hb ha
      have r1 : R1 pa 2 = some (pa + 1) := by rw [ho pa (by omega)]; exact q1
      have r2 := ha (c + 1) (by omega) (by omega)
      have t1 := (hNS (σ (c + 1)) (by have := (h1 (c + 1) (by omega)).2; omega)).1
      refine x_iload_n dX5_dropOldest_9 rfl ?_
      refine y_bipush dX5_dropOldest_10 rfl ?_
      refine (show X _ _ 12 _ _ _ _ _ _ from ?_)
      refine y_icmp_ge 35 dX5_dropOldest_12 (by decide) ⟨by omega, by omega⟩ ⟨by omega, by omega⟩ (fun h => ?_) (fun h => ?_)
      · omega
      refine x_aload_n dX5_dropOldest_15 rfl ?_
      refine x_gr dX5_dropOldest_16 fX5_20 (by first | assumption) (fun _ _ _ => rfl) (by first | assumption) ?_
      refine x_iload_n dX5_dropOldest_19 rfl ?_
      refine y_iconst dX5_dropOldest_20 ?_
      refine y_isub dX5_dropOldest_21 ?_
      refine x_aload_n dX5_dropOldest_22 rfl ?_
      refine x_gr dX5_dropOldest_23 fX5_20 (by first | assumption) (fun _ _ _ => rfl) (by first | assumption) ?_
      refine x_iload_n dX5_dropOldest_26 rfl ?_
      refine (show X _ _ 27 _ _ _ _ _ _ from ?_)
      refine y_aald (c + 1) dX5_dropOldest_27 (by first | assumption) (by decide) (by first | rfl | omega) (by omega) (by decide) (by first | assumption) ?_
      refine (show X _ _ 28 _ _ _ _ _ _ from ?_)
      refine x_aast (p := c) dX5_dropOldest_28 q3 t1 (ix_nat (by omega)) (by omega) (by decide) ?_
      refine (show X _ _ 29 _ _ _ _ _ _ from ?_)
      refine y_iinc dX5_dropOldest_29 rfl (by decide) rfl rfl ?_
      refine x_goto 9 dX5_dropOldest_32 (by decide) ?_
      refine (show X _ _ 9 _ _ _ _ _ _ from ?_)
      have e : ((c + 1 : Nat) : Int) + 1 = ((c + 1 + 1 : Nat) : Int) := by omega
      rw [e]
      refine ih (c + 1) _ (by omega) (fun b hb => by rw [u2_n hb]; exact ho b hb) (fun j hj => ?_) (fun j hj hj2 => ?_)
      · rw [u2_s]
        by_cases e : j = c
        · subst e; rw [u1_s]
        · rw [u1_n e]; exact hb j (by omega)
      · rw [u2_s, u1_n (by omega)]; exact ha j (by omega) hj2
  refine x_aload_n dX5_dropOldest_0 rfl ?_
  refine x_gr dX5_dropOldest_1 fX5_20 (by first | assumption) (fun _ _ _ => rfl) (by first | assumption) ?_
  refine y_iconst dX5_dropOldest_4 ?_
  refine y_aald (0) dX5_dropOldest_5 (by first | assumption) (by decide) (by first | rfl | omega) (by omega) (by decide) (by first | assumption) ?_
  refine x_astore_n dX5_dropOldest_6 (by decide) rfl rfl ?_
  refine y_iconst dX5_dropOldest_7 ?_
  refine x_istore_n dX5_dropOldest_8 (by decide) rfl rfl ?_
  refine (show X _ _ 9 _ _ _ _ _ _ from ?_)
  exact k1 11 0 R (by omega) (fun _ _ => rfl) (fun j hj => absurd hj (Nat.not_lt_zero _)) (fun j _ hj => (h1 j hj).1)
theorem c_keep13 (hp : PS T R pa σ) (a1 : V pa 0 = (a : Int)) (h0 : a < 12) (hn : NS T R nw) (hN : NC V nw B) (hd : nw + 3 ≤ pa ∨ pa + 48 ≤ nw) : X g mX5_keepAct 13 [.ref pa, .ref nw] [] (T, iV V, R, J, z) k n (fun v M1 => v = none ∧ ∃ W, M1 = (T, iV (u2 (pB V (pa + 3 + 3 * σ a) 3 W) pa 0 ((a + 1 : Nat) : Int)), R, J, z) ∧ NC (pB V (pa + 3 + 3 * σ a) 3 W) (pa + 3 + 3 * σ a) B) := by
  obtain ⟨⟨q0, q1, q2, q3, q4⟩, h1, -, -, hNS⟩ := hp
  obtain ⟨e1, e2⟩ := h1 a h0
  have hNm := hNS (σ a) (by omega)
  have n0 := hNm.1
  have hcp := c_copyFrom (g := g) (J := J) (z := z) (k := 0) (n := 0) (V := V) (B := B) hNm hn (by omega) hN
  refine x_aload_n dX5_keepAct_13 rfl ?_
  refine x_gr dX5_keepAct_14 fX5_20 (by first | assumption) (fun _ _ _ => rfl) (by first | assumption) ?_
  refine x_aload_n dX5_keepAct_17 rfl ?_
  refine y_gi dX5_keepAct_18 fX5_9 (by first | assumption) (fun _ _ _ => rfl) ?_
  refine (show X _ _ 21 _ _ _ _ _ _ from ?_)
  refine X.val a1 ?_
  refine y_aald (a) dX5_keepAct_21 (by first | assumption) (by decide) (by first | rfl | omega) (by omega) (by decide) (by first | assumption) ?_
  refine x_aload_n dX5_keepAct_22 rfl ?_
  refine (show X _ _ 23 _ _ _ _ _ _ from ?_)
  refine x_callV (As := [_]) (mc := 0) (ms := 0) (z := mX4_copyFrom) (ci := 4) dX5_keepAct_23 lX5_31 oX4_copyFrom (by decide) (by first | assumption) rfl rfl (Nat.le_of_ble_eq_true rfl) (Nat.le_of_ble_eq_true rfl) rfl (hcp) (fun v M1 hq => ?_)
  obtain ⟨rfl, W, rfl, hW⟩ := hq
  refine (show X _ _ 26 _ _ _ _ _ _ from ?_)
  have ev : pB V (pa + 3 + 3 * σ a) 3 W pa 0 = (a : Int) := by rw [pB_out (by omega)]; exact a1
  refine x_aload_n dX5_keepAct_26 rfl ?_
  refine x_dup dX5_keepAct_27 rfl ?_
  refine y_gi dX5_keepAct_28 fX5_9 (by first | assumption) (fun _ _ _ => rfl) ?_
  refine (show X _ _ 31 _ _ _ _ _ _ from ?_)
  refine X.val ev ?_
  refine y_iconst dX5_keepAct_31 ?_
  refine y_iadd dX5_keepAct_32 ?_
  refine (show X _ _ 33 _ _ _ _ _ _ from ?_)
  have ec : (a : Int) + 1 = ((a + 1 : Nat) : Int) := by omega
  rw [ec]
  refine y_pi dX5_keepAct_33 (pX5_9 _) (by first | assumption) (fun _ _ _ => rfl) rfl rfl ?_
  refine (show X _ _ 36 _ _ _ _ _ _ from ?_)
  exact x_return dX5_keepAct_36 rfl ⟨rfl, W, rfl, hW⟩
end C23
section C24
variable {g : GG} {T : Nat → Nat × Nat} {V W : Nat → Nat → Int} {R R' : Nat → Nat → Option Nat} {J : Nat → Nat → Int64} {z k n : Nat} {B : Nat → Nat → Int} {pa nw a m : Nat} {σ : Nat → Nat} {H K : Nat → Nat → Nat → Int}
theorem PC_keep (hp : PS T R pa σ) (hC : PC V pa σ a m H K) (h0 : a < 12) (hW : NC (pB V (pa + 3 + 3 * σ a) 3 W) (pa + 3 + 3 * σ a) B) : PC (u2 (pB V (pa + 3 + 3 * σ a) 3 W) pa 0 ((a + 1 : Nat) : Int)) pa σ (a + 1) m (fun i => if i = a then B else H i) K := by
  obtain ⟨-, h1, h2, -, -⟩ := hp
  obtain ⟨⟨a1, a2⟩, ⟨m1, m2⟩, hH, hK⟩ := hC
  have la := (h1 a h0).2
  refine ⟨⟨by rw [u2_s, u1_s], by omega⟩, ⟨by rw [u2_s, u1_n (by decide), pB_out (by omega)]; exact m1, m2⟩, fun i hi => NC_u2 ?_ (by omega), fun i hi => NC_u2 (NC_out (hK i hi) (by omega)) (by omega)⟩
  show NC _ _ (if i = a then B else H i)
  by_cases e : i = a
  · rw [if_pos e, e]; exact hW
  · rw [if_neg e]
    have hne : σ i ≠ σ a := fun h => e (h2 i a (by omega) h0 h)
    exact NC_out (hH i (by omega)) (by omega)
theorem PC_rot (hC : PC V pa σ 12 m H K) : PC (u2 V pa 0 11) pa (rot σ) 11 m (fun i => H (i + 1)) K := by
  obtain ⟨⟨a1, a2⟩, ⟨m1, m2⟩, hH, hK⟩ := hC
  refine ⟨⟨by rw [u2_s, u1_s]; rfl, by omega⟩, ⟨by rw [u2_s, u1_n (by decide)]; exact m1, m2⟩, fun i hi => NC_u2 ?_ (by omega), fun i hi => NC_u2 (hK i hi) (by omega)⟩
  have e : rot σ i = σ (i + 1) := if_neg (by omega)
  rw [e]
  exact hH (i + 1) (by omega)
def kaN (a : Nat) : Nat := if a < 12 then a + 1 else 12
def kaH (a : Nat) (H : Nat → Nat → Nat → Int) (B : Nat → Nat → Int) : Nat → Nat → Nat → Int := if a < 12 then (fun i => if i = a then B else H i) else (fun i => if i = 11 then B else H (i + 1))
theorem c_keepAct (hp : PS T R pa σ) (hC : PC V pa σ a m H K) (hn : NS T R nw) (hN : NC V nw B) (hd : nw + 3 ≤ pa ∨ pa + 48 ≤ nw) : X g mX5_keepAct 0 [.ref pa, .ref nw] [] (T, iV V, R, J, z) k n (fun v M1 => v = none ∧ ∃ R' V' σ', M1 = (T, iV V', R', J, z) ∧ (∀ b, b ≠ pa + 1 → R' b = R b) ∧ (∀ b, b < pa ∨ pa + 48 ≤ b → V' b = V b) ∧ PS T R' pa σ' ∧ PC V' pa σ' (kaN a) m (kaH a H B) K) := by
  obtain ⟨⟨q0, q1, q2, q3, q4⟩, h1, -, -, hNS⟩ := id hp
  obtain ⟨⟨a1, a2⟩, -⟩ := id hC
  unfold kaN kaH
  refine x_aload_n dX5_keepAct_0 rfl ?_
  refine y_gi dX5_keepAct_1 fX5_9 (by first | assumption) (fun _ _ _ => rfl) ?_
  refine (show X _ _ 4 _ _ _ _ _ _ from ?_)
  refine X.val a1 ?_
  refine y_bipush dX5_keepAct_4 rfl ?_
  refine (show X _ _ 6 _ _ _ _ _ _ from ?_)
  refine y_icmp_lt 13 dX5_keepAct_6 (by decide) ⟨by omega, by omega⟩ ⟨by omega, by omega⟩ (fun h => ?_) (fun h => ?_)
  · rw [if_pos (by omega), if_pos (by omega)]
    have l := (h1 a (by omega)).2
    refine X.mono (c_keep13 hp a1 (by omega) hn hN hd) ?_
    intro v M1 hq
    obtain ⟨rfl, W, rfl, hW⟩ := hq
    exact ⟨rfl, R, _, σ, rfl, fun _ _ => rfl, fun b hb => by rw [u2_n (by omega), pB_out (by omega)], hp, PC_keep hp hC (by omega) hW⟩
  · have ea : a = 12 := by omega
    subst ea
    rw [if_neg (by omega), if_neg (by omega)]
    have hdo := c_dropOldest (g := g) (J := J) (z := z) (k := 0) (n := 0) (V := V) hp
    refine x_aload_n dX5_keepAct_9 rfl ?_
    refine (show X _ _ 10 _ _ _ _ _ _ from ?_)
    refine x_callV (As := []) (mc := 0) (ms := 0) (z := mX5_dropOldest) (ci := 5) dX5_keepAct_10 lX5_28 oX5_dropOldest (by decide) (by first | assumption) rfl rfl (Nat.le_of_ble_eq_true rfl) (Nat.le_of_ble_eq_true rfl) rfl (hdo) (fun v M1 hq => ?_)
    obtain ⟨rfl, R', rfl, ho, hp'⟩ := hq
    refine (show X _ _ 13 _ _ _ _ _ _ from ?_)
    have hC' := PC_rot hC
    have l := (hp'.2.1 11 (by omega)).2
    refine X.mono (c_keep13 (a := 11) hp' hC'.1.1 (by omega) (NS_r hn ho (by omega)) (NC_u2 hN (by omega)) hd) ?_
    intro v M1 hq
    obtain ⟨rfl, W, rfl, hW⟩ := hq
    exact ⟨rfl, R', _, rot σ, rfl, ho, fun b hb => by rw [u2_n (by omega), pB_out (by omega), u2_n (by omega)], hp', PC_keep hp' hC' (by omega) hW⟩
end C24
