/-! ===== Reader: wholes ===== -/
def flE (V : Nat → Nat → Int) (rd : Nat) (x : Int) : Nat → Nat → Int := u2 (u2 V rd 1 x) rd 2 (V rd 8)
def twB (V : Nat → Nat → Int) (rd : Nat) (lo hi : Int) : Bool := decide (V rd 7 = 2 ∧ lo ≤ V rd 10 ∧ V rd 10 ≤ hi)
def twE (V : Nat → Nat → Int) (rd tx e i a p : Nat) (lo hi : Int) : Nat → Nat → Int := if V rd 7 = 2 then (if lo ≤ V rd 10 ∧ V rd 10 ≤ hi then avE (u2 V a p (V rd 10)) rd tx e i else flE V rd 4) else flE V rd 1
section C28
variable {g : GG} {T : Nat → Nat × Nat} {V : Nat → Nat → Int} {R : Nat → Nat → Option Nat} {J : Nat → Nat → Int64} {z k n : Nat} {rd tx q e i nm st len : Nat}
theorem c_takeWhole {a p N : Nat} {lo hi : Int} (hS : DS T R rd tx) (h6 : V rd 6 = (i : Int)) (h5 : V rd 5 = (e : Int)) (hi1 : i ≤ e) (he : e ≤ 1100) (ht : ∀ j, j < e → -128 ≤ V tx j ∧ V tx j ≤ 127) (hne : tx ≠ rd) (hT : T a = (1, N)) (hp : p < N) (hN : N ≤ 1000) (hl : -1000 ≤ lo ∧ lo ≤ 1000) (hh : -1000 ≤ hi ∧ hi ≤ 1000) (h7 : 0 ≤ V rd 7 ∧ V rd 7 ≤ 4) (hv : V rd 7 = 2 → 0 ≤ V rd 10 ∧ V rd 10 ≤ 999) : X g mX6_takeWhole 0 [.ref rd, .ref a, .int (iI (p : Int)), .int (iI lo), .int (iI hi)] [] (T, iV V, R, J, z) k n (rI (iI (bI (twB V rd lo hi))) (T, iV (twE V rd tx e i a p lo hi), R, J, z)) := by
  have n1 : a ≠ rd := fun h => by rw [h, hS.1] at hT; exact absurd (congrArg Prod.fst hT) (by decide : ¬ (16 : Nat) = 1)
  have n2 : tx ≠ a := fun h => by rw [← h, hS.2.2] at hT; exact absurd (congrArg Prod.fst hT) (by decide : ¬ (2 : Nat) = 1)
  have hf := fun x => c_fail (g := g) (J := J) (z := z) (k := 0) (n := 0) (V := V) (x := x) hS
  have ha := c_advance (g := g) (J := J) (z := z) (k := 0) (n := 0) (V := u2 V a p (V rd 10)) (i := i) (e := e) hS (by rw [u2_n n1.symm]; exact h6) (by rw [u2_n n1.symm]; exact h5) hi1 he (by rw [u2_n n2]; exact ht) hne
  obtain ⟨s0, s1, s2⟩ := hS
  unfold twE twB flE
  refine x_aload_n dX6_takeWhole_0 rfl ?_
  refine y_gi dX6_takeWhole_1 fX6_38 (by first | assumption) (fun _ _ _ => rfl) ?_
  refine y_iconst dX6_takeWhole_4 ?_
  refine (show X _ _ 5 _ _ _ _ _ _ from ?_)
  refine y_icmp_eq 14 dX6_takeWhole_5 (by decide) ⟨by omega, by omega⟩ ⟨by omega, by omega⟩ (fun h => ?_) (fun h => ?_)
  rotate_left
  · rw [if_neg h, decide_eq_false (fun c => h c.1)]
    refine x_aload_n dX6_takeWhole_8 rfl ?_
    refine y_iconst dX6_takeWhole_9 ?_
    refine (show X _ _ 10 _ _ _ _ _ _ from ?_)
    refine x_callV (As := [_]) (mc := 0) (ms := 0) (z := mX6_fail) (ci := 6) dX6_takeWhole_10 lX6_89 oX6_fail (by decide) (by first | assumption) rfl rfl (Nat.le_of_ble_eq_true rfl) (Nat.le_of_ble_eq_true rfl) rfl (hf _) (k_I ?_)
    refine (show X _ _ 13 _ _ _ _ _ _ from ?_)
    exact x_zreturn dX6_takeWhole_13 rfl rfl ⟨rfl, rfl⟩
  rw [if_pos h]
  have hv := hv h
  have bad : ¬ (lo ≤ V rd 10 ∧ V rd 10 ≤ hi) → X g mX6_takeWhole 31 [.ref rd, .ref a, .int (iI (p : Int)), .int (iI lo), .int (iI hi)] [] (T, iV V, R, J, z) k n (rI (iI (bI (decide (V rd 7 = 2 ∧ lo ≤ V rd 10 ∧ V rd 10 ≤ hi)))) (T, iV (if lo ≤ V rd 10 ∧ V rd 10 ≤ hi then avE (u2 V a p (V rd 10)) rd tx e i else u2 (u2 V rd 1 4) rd 2 (V rd 8)), R, J, z)) := by
    intro hb
    rw [if_neg hb, decide_eq_false (fun c => hb c.2)]
    refine x_aload_n dX6_takeWhole_31 rfl ?_
    refine y_iconst dX6_takeWhole_32 ?_
    refine (show X _ _ 33 _ _ _ _ _ _ from ?_)
    refine x_callV (As := [_]) (mc := 0) (ms := 0) (z := mX6_fail) (ci := 6) dX6_takeWhole_33 lX6_89 oX6_fail (by decide) (by first | assumption) rfl rfl (Nat.le_of_ble_eq_true rfl) (Nat.le_of_ble_eq_true rfl) rfl (hf _) (k_I ?_)
    refine (show X _ _ 36 _ _ _ _ _ _ from ?_)
    exact x_zreturn dX6_takeWhole_36 rfl rfl ⟨rfl, rfl⟩
  refine x_aload_n dX6_takeWhole_14 rfl ?_
  refine y_gi dX6_takeWhole_15 fX6_47 (by first | assumption) (fun _ _ _ => rfl) ?_
  refine x_iload_n dX6_takeWhole_18 rfl ?_
  refine (show X _ _ 19 _ _ _ _ _ _ from ?_)
  refine y_icmp_lt 31 dX6_takeWhole_19 (by decide) ⟨by omega, by omega⟩ ⟨by omega, by omega⟩ (fun h1 => ?_) (fun h1 => ?_)
  · exact bad (by omega)
  refine x_aload_n dX6_takeWhole_22 rfl ?_
  refine y_gi dX6_takeWhole_23 fX6_47 (by first | assumption) (fun _ _ _ => rfl) ?_
  refine x_iload dX6_takeWhole_26 rfl ?_
  refine (show X _ _ 28 _ _ _ _ _ _ from ?_)
  refine y_icmp_le 37 dX6_takeWhole_28 (by decide) ⟨by omega, by omega⟩ ⟨by omega, by omega⟩ (fun h2 => ?_) (fun h2 => ?_)
  rotate_left
  · exact bad (by omega)
  rw [if_pos ⟨h1, h2⟩, decide_eq_true ⟨h, h1, h2⟩]
  refine x_aload_n dX6_takeWhole_37 rfl ?_
  refine x_iload_n dX6_takeWhole_38 rfl ?_
  refine x_aload_n dX6_takeWhole_39 rfl ?_
  refine y_gi dX6_takeWhole_40 fX6_47 (by first | assumption) (fun _ _ _ => rfl) ?_
  refine (show X _ _ 43 _ _ _ _ _ _ from ?_)
  refine y_iast p dX6_takeWhole_43 hT rfl hp (by omega) ?_
  refine (show X _ _ 44 _ _ _ _ _ _ from ?_)
  refine x_aload_n dX6_takeWhole_44 rfl ?_
  refine (show X _ _ 45 _ _ _ _ _ _ from ?_)
  refine x_callV (As := []) (mc := 0) (ms := 0) (z := mX6_advance) (ci := 6) dX6_takeWhole_45 lX6_82 oX6_advance (by decide) (by first | assumption) rfl rfl (Nat.le_of_ble_eq_true rfl) (Nat.le_of_ble_eq_true rfl) rfl (ha) (k_V ?_)
  refine (show X _ _ 48 _ _ _ _ _ _ from ?_)
  refine y_iconst dX6_takeWhole_48 ?_
  refine (show X _ _ 49 _ _ _ _ _ _ from ?_)
  exact x_zreturn dX6_takeWhole_49 rfl rfl ⟨rfl, rfl⟩
end C28
