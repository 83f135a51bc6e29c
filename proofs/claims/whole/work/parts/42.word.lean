/-! ===== Reader: takeWord ===== -/
def twoE (V : Nat → Nat → Int) (rd tx e i ln : Nat) (wd : Nat → Int) : Nat → Nat → Int := if seB V rd tx ln wd = true then avE V rd tx e i else flE V rd 1
section C32
variable {g : GG} {T : Nat → Nat × Nat} {V : Nat → Nat → Int} {R : Nat → Nat → Option Nat} {J : Nat → Nat → Int64} {z k n : Nat} {rd tx st j ln e i : Nat} {wd : Nat → Int}
theorem c_takeWord (hS : DS T R rd tx) (hL : Lit j ln wd) (h7 : 0 ≤ V rd 7 ∧ V rd 7 ≤ 4) (h9 : 0 ≤ V rd 9 ∧ V rd 9 ≤ 1100) (h8 : V rd 8 = (st : Int)) (hs : V rd 7 = 1 → (st : Int) + V rd 9 ≤ 1100) (ht : ∀ i, i < 1100 → -128 ≤ V tx i ∧ V tx i ≤ 127) (h6 : V rd 6 = (i : Int)) (h5 : V rd 5 = (e : Int)) (hi1 : i ≤ e) (he : e ≤ 1100) (hne : tx ≠ rd) : X g mX6_takeWord 0 [.ref rd, .ref (g.2.2.1 j)] [] (T, iV V, R, J, z) k n (rI (iI (bI (seB V rd tx ln wd))) (T, iV (twoE V rd tx e i ln wd), R, J, z)) := by
  have hse := c_sees (g := g) (J := J) (z := z) (k := 0) (n := 0) (V := V) hS hL h7 h9 h8 hs ht
  have hf := c_fail (g := g) (J := J) (z := z) (k := 0) (n := 0) (V := V) (x := 1) hS
  have ha := c_advance (g := g) (J := J) (z := z) (k := 0) (n := 0) (V := V) (i := i) (e := e) hS h6 h5 hi1 he (fun j hj => ht j (by omega)) hne
  obtain ⟨s0, s1, s2⟩ := hS
  unfold twoE flE
  refine x_aload_n dX6_takeWord_0 rfl ?_
  refine x_aload_n dX6_takeWord_1 rfl ?_
  refine (show X _ _ 2 _ _ _ _ _ _ from ?_)
  refine x_callV (As := [_]) (mc := 0) (ms := 0) (z := mX6_sees) (ci := 6) dX6_takeWord_2 lX6_112 oX6_sees (by decide) (by first | assumption) rfl rfl (Nat.le_of_ble_eq_true rfl) (Nat.le_of_ble_eq_true rfl) rfl (hse) (k_I ?_)
  refine (show X _ _ 5 _ _ _ _ _ _ from ?_)
  refine y_ifb_ne 14 dX6_takeWord_5 (by decide) (fun h => ?_) (fun h => ?_)
  · rw [h, if_pos rfl]
    refine x_aload_n dX6_takeWord_14 rfl ?_
    refine (show X _ _ 15 _ _ _ _ _ _ from ?_)
    refine x_callV (As := []) (mc := 0) (ms := 0) (z := mX6_advance) (ci := 6) dX6_takeWord_15 lX6_82 oX6_advance (by decide) (by first | assumption) rfl rfl (Nat.le_of_ble_eq_true rfl) (Nat.le_of_ble_eq_true rfl) rfl (ha) (k_V ?_)
    refine (show X _ _ 18 _ _ _ _ _ _ from ?_)
    refine y_iconst dX6_takeWord_18 ?_
    refine (show X _ _ 19 _ _ _ _ _ _ from ?_)
    exact x_zreturn dX6_takeWord_19 rfl rfl ⟨rfl, rfl⟩
  · rw [h, if_neg (by decide)]
    refine x_aload_n dX6_takeWord_8 rfl ?_
    refine y_iconst dX6_takeWord_9 ?_
    refine (show X _ _ 10 _ _ _ _ _ _ from ?_)
    refine x_callV (As := [_]) (mc := 0) (ms := 0) (z := mX6_fail) (ci := 6) dX6_takeWord_10 lX6_89 oX6_fail (by decide) (by first | assumption) rfl rfl (Nat.le_of_ble_eq_true rfl) (Nat.le_of_ble_eq_true rfl) rfl (hf) (k_I ?_)
    refine (show X _ _ 13 _ _ _ _ _ _ from ?_)
    exact x_zreturn dX6_takeWord_13 rfl rfl ⟨rfl, rfl⟩
end C32
