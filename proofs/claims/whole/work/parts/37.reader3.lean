/-! ===== Reader: names ===== -/
/-- the reader's rows of names and its heads -/
def DN (T : Nat → Nat × Nat) (R : Nat → Nat → Option Nat) (rd q : Nat) : Prop := (R rd 13 = some q ∧ R rd 14 = some (q + 1) ∧ R rd 15 = some (q + 2) ∧ R rd 16 = some (q + 3) ∧ R rd 17 = some (q + 4)) ∧ (T q = (1, 18) ∧ T (q + 1) = (1, 18) ∧ T (q + 2) = (1, 18) ∧ T (q + 3) = (3, 18) ∧ T (q + 4) = (1, 3))
/-- which of the names stands here -/
def snF (t ns nl : Nat → Int) (st len : Nat) : Nat → Nat → Int
  | 0, _ => -1
  | d + 1, i => if nl i = (len : Int) ∧ stA t len (ns i).toNat st = true then (i : Int) else snF t ns nl st len d (i + 1)
section C27
variable {g : GG} {T : Nat → Nat × Nat} {V : Nat → Nat → Int} {R : Nat → Nat → Option Nat} {J : Nat → Nat → Int64} {z k n : Nat} {rd tx q e i nm st len : Nat}
theorem c_seenName (hS : DS T R rd tx) (hD : DN T R rd q) (h12 : V rd 12 = (nm : Int)) (hn : nm ≤ 18) (h9 : V rd 9 = (len : Int)) (h8 : V rd 8 = (st : Int)) (hs : st + len ≤ 1100) (hN : ∀ i, i < nm → (0 ≤ V q i) ∧ (0 ≤ V (q + 1) i) ∧ V q i + V (q + 1) i ≤ 1100) (ht : ∀ j, j < 1100 → -128 ≤ V tx j ∧ V tx j ≤ 127) : X g mX6_seenName 0 [.ref rd, jk] [] (T, iV V, R, J, z) k n (rI (iI (snF (V tx) (V q) (V (q + 1)) st len nm 0)) (T, iV V, R, J, z)) := by
  have hst := fun (c : Nat) hc => c_standsAt (g := g) (J := J) (z := z) (k := 0) (n := 0) (V := V) (c := c) hS h9 h8 hs hc ht
  obtain ⟨s0, s1, s2⟩ := hS
  obtain ⟨⟨d3, d4, d5, d6, d7⟩, ⟨u3, u4, u5, u6, u7⟩⟩ := hD
  have k1 : ∀ (d i : Nat), i + d = nm → X g mX6_seenName 2 [.ref rd, .int (iI (i : Int))] [] (T, iV V, R, J, z) k n (rI (iI (snF (V tx) (V q) (V (q + 1)) st len d i)) (T, iV V, R, J, z)) := by
    intro d
    induction d with
    | zero =>
      intro i hi
      refine x_iload_n dX6_seenName_2 rfl ?_
      refine x_aload_n dX6_seenName_3 rfl ?_
      refine y_gi dX6_seenName_4 fX6_53 (by first | assumption) (fun _ _ _ => rfl) ?_
      refine (show X _ _ 7 _ _ _ _ _ _ from ?_)
      refine X.val h12 ?_
      refine y_icmp_ge 44 dX6_seenName_7 (by decide) ⟨by omega, by omega⟩ ⟨by omega, by omega⟩ (fun h => ?_) (fun h => ?_)
      · refine y_iconst dX6_seenName_44 ?_
        refine (show X _ _ 45 _ _ _ _ _ _ from ?_)
        exact x_ireturn dX6_seenName_45 rfl ⟨rfl, rfl⟩
      · omega
    | succ d ih =>
      intro i hi
      have hb := hN i (by omega)
      have e1 : (i : Int) + 1 = ((i + 1 : Nat) : Int) := by omega
      rw [snF]
      refine x_iload_n dX6_seenName_2 rfl ?_
      refine x_aload_n dX6_seenName_3 rfl ?_
      refine y_gi dX6_seenName_4 fX6_53 (by first | assumption) (fun _ _ _ => rfl) ?_
      refine (show X _ _ 7 _ _ _ _ _ _ from ?_)
      refine X.val h12 ?_
      refine y_icmp_ge 44 dX6_seenName_7 (by decide) ⟨by omega, by omega⟩ ⟨by omega, by omega⟩ (fun h => ?_) (fun h => ?_)
      · omega
      refine x_aload_n dX6_seenName_10 rfl ?_
      refine x_gr dX6_seenName_11 fX6_60 (by first | assumption) (fun _ _ _ => rfl) (by first | assumption) ?_
      refine x_iload_n dX6_seenName_14 rfl ?_
      refine y_iald (i) dX6_seenName_15 (by first | assumption) (by first | rfl | omega) (by omega) (by decide) ?_
      refine x_aload_n dX6_seenName_16 rfl ?_
      refine y_gi dX6_seenName_17 fX6_44 (by first | assumption) (fun _ _ _ => rfl) ?_
      refine (show X _ _ 20 _ _ _ _ _ _ from ?_)
      refine X.val h9 ?_
      refine y_icmp_ne 38 dX6_seenName_20 (by decide) ⟨by omega, by omega⟩ ⟨by omega, by omega⟩ (fun h1 => ?_) (fun h1 => ?_)
      · rw [if_neg (fun h => h1 h.1)]
        refine y_iinc dX6_seenName_38 rfl (by decide) rfl rfl ?_
        refine x_goto 2 dX6_seenName_41 (by decide) ?_
        refine (show X _ _ 2 _ _ _ _ _ _ from ?_)
        rw [e1]
        exact ih (i + 1) (by omega)
      have c := hst (V q i).toNat (by omega)
      rw [Int.toNat_of_nonneg hb.1] at c
      refine x_aload_n dX6_seenName_23 rfl ?_
      refine x_aload_n dX6_seenName_24 rfl ?_
      refine x_gr dX6_seenName_25 fX6_56 (by first | assumption) (fun _ _ _ => rfl) (by first | assumption) ?_
      refine x_iload_n dX6_seenName_28 rfl ?_
      refine y_iald (i) dX6_seenName_29 (by first | assumption) (by first | rfl | omega) (by omega) (by decide) ?_
      refine (show X _ _ 30 _ _ _ _ _ _ from ?_)
      refine x_callV (As := [_]) (mc := 0) (ms := 0) (z := mX6_standsAt) (ci := 6) dX6_seenName_30 lX6_116 oX6_standsAt (by decide) (by first | assumption) rfl rfl (Nat.le_of_ble_eq_true rfl) (Nat.le_of_ble_eq_true rfl) rfl (c) (k_I ?_)
      refine (show X _ _ 33 _ _ _ _ _ _ from ?_)
      refine y_ifb_eq 38 dX6_seenName_33 (by decide) (fun h2 => ?_) (fun h2 => ?_)
      · rw [if_neg (fun h => by rw [h2] at h; exact absurd h.2 (by decide))]
        refine y_iinc dX6_seenName_38 rfl (by decide) rfl rfl ?_
        refine x_goto 2 dX6_seenName_41 (by decide) ?_
        refine (show X _ _ 2 _ _ _ _ _ _ from ?_)
        rw [e1]
        exact ih (i + 1) (by omega)
      · rw [if_pos ⟨h1, h2⟩]
        refine x_iload_n dX6_seenName_36 rfl ?_
        refine (show X _ _ 37 _ _ _ _ _ _ from ?_)
        exact x_ireturn dX6_seenName_37 rfl ⟨rfl, rfl⟩
  refine y_iconst dX6_seenName_0 ?_
  refine x_istore_n dX6_seenName_1 (by decide) rfl rfl ?_
  refine (show X _ _ 2 _ _ _ _ _ _ from ?_)
  exact k1 nm 0 (by omega)
/-- a choice is taken, or there is a fault -/
def tcE (V : Nat → Nat → Int) (rd tx e i a p : Nat) (x : Int) : Nat → Nat → Int := if x < 0 then u2 (u2 V rd 1 1) rd 2 (V rd 8) else avE (u2 V a p x) rd tx e i
theorem c_takeChoice {a p N : Nat} {x : Int} (hS : DS T R rd tx) (h6 : V rd 6 = (i : Int)) (h5 : V rd 5 = (e : Int)) (hi1 : i ≤ e) (he : e ≤ 1100) (ht : ∀ j, j < e → -128 ≤ V tx j ∧ V tx j ≤ 127) (hne : tx ≠ rd) (hT : T a = (1, N)) (hp : p < N) (hN : N ≤ 1000) (hx : -1 ≤ x ∧ x ≤ 99) : X g mX6_takeChoice 0 [.ref rd, .ref a, .int (iI (p : Int)), .int (iI x)] [] (T, iV V, R, J, z) k n (rI (iI (bI (decide (0 ≤ x)))) (T, iV (tcE V rd tx e i a p x), R, J, z)) := by
  have n1 : a ≠ rd := fun h => by rw [h, hS.1] at hT; exact absurd (congrArg Prod.fst hT) (by decide : ¬ (16 : Nat) = 1)
  have n2 : tx ≠ a := fun h => by rw [← h, hS.2.2] at hT; exact absurd (congrArg Prod.fst hT) (by decide : ¬ (2 : Nat) = 1)
  have hf := c_fail (g := g) (J := J) (z := z) (k := 0) (n := 0) (V := V) (x := 1) hS
  have ha := c_advance (g := g) (J := J) (z := z) (k := 0) (n := 0) (V := u2 V a p x) (i := i) (e := e) hS (by rw [u2_n n1.symm]; exact h6) (by rw [u2_n n1.symm]; exact h5) hi1 he (by rw [u2_n n2]; exact ht) hne
  obtain ⟨s0, s1, s2⟩ := hS
  unfold tcE
  refine x_iload_n dX6_takeChoice_0 rfl ?_
  refine (show X _ _ 1 _ _ _ _ _ _ from ?_)
  refine y_if_ge 10 dX6_takeChoice_1 (by decide) ⟨by omega, by omega⟩ (fun h => ?_) (fun h => ?_)
  · rw [if_neg (by omega), decide_eq_true h]
    refine x_aload_n dX6_takeChoice_10 rfl ?_
    refine x_iload_n dX6_takeChoice_11 rfl ?_
    refine x_iload_n dX6_takeChoice_12 rfl ?_
    refine (show X _ _ 13 _ _ _ _ _ _ from ?_)
    refine y_iast p dX6_takeChoice_13 hT rfl hp (by omega) ?_
    refine (show X _ _ 14 _ _ _ _ _ _ from ?_)
    refine x_aload_n dX6_takeChoice_14 rfl ?_
    refine (show X _ _ 15 _ _ _ _ _ _ from ?_)
    refine x_callV (As := []) (mc := 0) (ms := 0) (z := mX6_advance) (ci := 6) dX6_takeChoice_15 lX6_82 oX6_advance (by decide) (by first | assumption) rfl rfl (Nat.le_of_ble_eq_true rfl) (Nat.le_of_ble_eq_true rfl) rfl (ha) (k_V ?_)
    refine (show X _ _ 18 _ _ _ _ _ _ from ?_)
    refine y_iconst dX6_takeChoice_18 ?_
    refine (show X _ _ 19 _ _ _ _ _ _ from ?_)
    exact x_zreturn dX6_takeChoice_19 rfl rfl ⟨rfl, rfl⟩
  · rw [if_pos (by omega), decide_eq_false (by omega)]
    refine x_aload_n dX6_takeChoice_4 rfl ?_
    refine y_iconst dX6_takeChoice_5 ?_
    refine (show X _ _ 6 _ _ _ _ _ _ from ?_)
    refine x_callV (As := [_]) (mc := 0) (ms := 0) (z := mX6_fail) (ci := 6) dX6_takeChoice_6 lX6_89 oX6_fail (by decide) (by first | assumption) rfl rfl (Nat.le_of_ble_eq_true rfl) (Nat.le_of_ble_eq_true rfl) rfl (hf) (k_I ?_)
    refine (show X _ _ 9 _ _ _ _ _ _ from ?_)
    exact x_zreturn dX6_takeChoice_9 rfl rfl ⟨rfl, rfl⟩
end C27
