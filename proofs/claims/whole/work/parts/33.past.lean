/-! ===== Past ===== -/
def PS (T : Nat → Nat × Nat) (R : Nat → Nat → Option Nat) (pa : Nat) (σ : Nat → Nat) : Prop := (T pa = (15, 0) ∧ R pa 2 = some (pa + 1) ∧ R pa 3 = some (pa + 2) ∧ T (pa + 1) = (6, 12) ∧ T (pa + 2) = (6, 3)) ∧ (∀ i, i < 12 → R (pa + 1) i = some (pa + 3 + 3 * σ i) ∧ σ i < 12) ∧ (∀ i j, i < 12 → j < 12 → σ i = σ j → i = j) ∧ (∀ i, i < 3 → R (pa + 2) i = some (pa + 39 + 3 * i)) ∧ (∀ i, i < 15 → NS T R (pa + 3 + 3 * i))
def PC (V : Nat → Nat → Int) (pa : Nat) (σ : Nat → Nat) (a m : Nat) (H K : Nat → Nat → Nat → Int) : Prop := (V pa 0 = (a : Int) ∧ a ≤ 12) ∧ (V pa 1 = (m : Int) ∧ m ≤ 3) ∧ (∀ i, i < a → NC V (pa + 3 + 3 * σ i) (H i)) ∧ (∀ i, i < m → NC V (pa + 39 + 3 * i) (K i))
theorem NC_u2 {V B : Nat → Nat → Int} {o r i : Nat} {v : Int} (h : NC V o B) (hr : r < o ∨ o + 3 ≤ r) : NC (u2 V r i v) o B := by
  obtain ⟨h0, h1, h2⟩ := h
  unfold NC
  rw [u2_n (show o ≠ r by omega), u2_n (show o + 1 ≠ r by omega), u2_n (show o + 2 ≠ r by omega)]
  exact ⟨h0, h1, h2⟩
section C22
variable {g : GG} {T : Nat → Nat × Nat} {V : Nat → Nat → Int} {R : Nat → Nat → Option Nat} {J : Nat → Nat → Int64} {z k n : Nat} {B : Nat → Nat → Int} {pa nw a m : Nat} {σ : Nat → Nat} {H K : Nat → Nat → Nat → Int}
theorem c_pForget (hp : PS T R pa σ) : X g mX5_forget 0 [.ref pa] [] (T, iV V, R, J, z) k n (rV (T, iV (u2 (u2 V pa 0 0) pa 1 0), R, J, z)) := by
  obtain ⟨⟨q0, q1, q2, q3, q4⟩, -⟩ := hp
  refine x_aload_n dX5_forget_0 rfl ?_
  refine y_iconst dX5_forget_1 ?_
  refine y_pi dX5_forget_2 (pX5_9 _) (by first | assumption) (fun _ _ _ => rfl) rfl rfl ?_
  refine x_aload_n dX5_forget_5 rfl ?_
  refine y_iconst dX5_forget_6 ?_
  refine y_pi dX5_forget_7 (pX5_15 _) (by first | assumption) (fun _ _ _ => rfl) rfl rfl ?_
  refine (show X _ _ 10 _ _ _ _ _ _ from ?_)
  exact x_return dX5_forget_10 rfl ⟨rfl, rfl⟩
theorem c_takeBack0 (hp : PS T R pa σ) (hC : PC V pa σ a m H K) (h0 : a = 0) : X g mX5_takeBack 0 [.ref pa, .ref nw] [] (T, iV V, R, J, z) k n (rI (iI 0) (T, iV V, R, J, z)) := by
  obtain ⟨⟨q0, q1, q2, q3, q4⟩, -⟩ := hp
  obtain ⟨⟨a1, a2⟩, -⟩ := hC
  refine x_aload_n dX5_takeBack_0 rfl ?_
  refine y_gi dX5_takeBack_1 fX5_9 (by first | assumption) (fun _ _ _ => rfl) ?_
  refine (show X _ _ 4 _ _ _ _ _ _ from ?_)
  refine X.val a1 ?_
  refine y_if_gt 9 dX5_takeBack_4 (by decide) ⟨by omega, by omega⟩ (fun h => ?_) (fun h => ?_)
  · omega
  refine y_iconst dX5_takeBack_7 ?_
  refine (show X _ _ 8 _ _ _ _ _ _ from ?_)
  exact x_zreturn dX5_takeBack_8 rfl rfl ⟨rfl, rfl⟩
theorem c_takeBack {c : Nat} (hp : PS T R pa σ) (hC : PC V pa σ a m H K) (h0 : a = c + 1) (hn : NS T R nw) (hd : nw + 3 ≤ pa ∨ pa + 48 ≤ nw) : X g mX5_takeBack 0 [.ref pa, .ref nw] [] (T, iV V, R, J, z) k n (fun v M1 => v = some (.int (iI 1)) ∧ ∃ W, M1 = (T, iV (pB (u2 V pa 0 (c : Int)) nw 3 W), R, J, z) ∧ NC (pB (u2 V pa 0 (c : Int)) nw 3 W) nw (H c)) := by
  obtain ⟨⟨q0, q1, q2, q3, q4⟩, h1, -, -, hNS⟩ := hp
  obtain ⟨⟨a1, a2⟩, -, hH, -⟩ := hC
  obtain ⟨e1, e2⟩ := h1 c (by omega)
  have hcp := c_copyFrom (g := g) (J := J) (z := z) (k := 0) (n := 0) (V := u2 V pa 0 (c : Int)) (B := H c) hn (hNS (σ c) (by omega)) (by omega) (NC_u2 (hH c (by omega)) (by omega))
  have n0 := hn.1
  refine x_aload_n dX5_takeBack_0 rfl ?_
  refine y_gi dX5_takeBack_1 fX5_9 (by first | assumption) (fun _ _ _ => rfl) ?_
  refine (show X _ _ 4 _ _ _ _ _ _ from ?_)
  refine X.val a1 ?_
  refine y_if_gt 9 dX5_takeBack_4 (by decide) ⟨by omega, by omega⟩ (fun h => ?_) (fun h => ?_)
  rotate_left
  · omega
  refine x_aload_n dX5_takeBack_9 rfl ?_
  refine x_dup dX5_takeBack_10 rfl ?_
  refine y_gi dX5_takeBack_11 fX5_9 (by first | assumption) (fun _ _ _ => rfl) ?_
  refine (show X _ _ 14 _ _ _ _ _ _ from ?_)
  refine X.val a1 ?_
  refine y_iconst dX5_takeBack_14 ?_
  refine y_isub dX5_takeBack_15 ?_
  refine (show X _ _ 16 _ _ _ _ _ _ from ?_)
  have ec : (a : Int) - 1 = (c : Int) := by omega
  rw [ec]
  refine y_pi dX5_takeBack_16 (pX5_9 _) (by first | assumption) (fun _ _ _ => rfl) rfl rfl ?_
  refine x_aload_n dX5_takeBack_19 rfl ?_
  refine x_aload_n dX5_takeBack_20 rfl ?_
  refine x_gr dX5_takeBack_21 fX5_20 (by first | assumption) (fun _ _ _ => rfl) (by first | assumption) ?_
  refine x_aload_n dX5_takeBack_24 rfl ?_
  refine y_gi dX5_takeBack_25 fX5_9 (by first | assumption) (fun _ _ _ => rfl) ?_
  refine (show X _ _ 28 _ _ _ _ _ _ from ?_)
  refine X.val (b := (c : Int)) (by rw [u2_s, u1_s]) ?_
  refine y_aald (c) dX5_takeBack_28 (by first | assumption) (by decide) (by first | rfl | omega) (by omega) (by decide) (by first | assumption) ?_
  refine (show X _ _ 29 _ _ _ _ _ _ from ?_)
  refine x_callV (As := [_]) (mc := 0) (ms := 0) (z := mX4_copyFrom) (ci := 4) dX5_takeBack_29 lX5_31 oX4_copyFrom (by decide) (by first | assumption) rfl rfl (Nat.le_of_ble_eq_true rfl) (Nat.le_of_ble_eq_true rfl) rfl (hcp) (fun v M1 hq => ?_)
  obtain ⟨rfl, W, rfl, hW⟩ := hq
  refine (show X _ _ 32 _ _ _ _ _ _ from ?_)
  refine y_iconst dX5_takeBack_32 ?_
  refine (show X _ _ 33 _ _ _ _ _ _ from ?_)
  exact x_zreturn dX5_takeBack_33 rfl rfl ⟨rfl, W, rfl, hW⟩
theorem c_setMark3 (hp : PS T R pa σ) (hC : PC V pa σ a m H K) (h0 : m = 3) : X g mX5_setMark 0 [.ref pa, .ref nw] [] (T, iV V, R, J, z) k n (rI (iI (-1)) (T, iV V, R, J, z)) := by
  obtain ⟨⟨q0, q1, q2, q3, q4⟩, -⟩ := hp
  obtain ⟨-, ⟨a1, a2⟩, -⟩ := hC
  refine x_aload_n dX5_setMark_0 rfl ?_
  refine y_gi dX5_setMark_1 fX5_15 (by first | assumption) (fun _ _ _ => rfl) ?_
  refine (show X _ _ 4 _ _ _ _ _ _ from ?_)
  refine X.val a1 ?_
  refine y_iconst dX5_setMark_4 ?_
  refine (show X _ _ 5 _ _ _ _ _ _ from ?_)
  refine y_icmp_lt 10 dX5_setMark_5 (by decide) ⟨by omega, by omega⟩ ⟨by omega, by omega⟩ (fun h => ?_) (fun h => ?_)
  · omega
  refine y_iconst dX5_setMark_8 ?_
  refine (show X _ _ 9 _ _ _ _ _ _ from ?_)
  exact x_ireturn dX5_setMark_9 rfl ⟨rfl, rfl⟩
theorem c_setMark (hp : PS T R pa σ) (hC : PC V pa σ a m H K) (h0 : m < 3) (hn : NS T R nw) (hN : NC V nw B) (hd : nw + 3 ≤ pa ∨ pa + 48 ≤ nw) : X g mX5_setMark 0 [.ref pa, .ref nw] [] (T, iV V, R, J, z) k n (fun v M1 => v = some (.int (iI (m : Int))) ∧ ∃ W, M1 = (T, iV (u2 (pB V (pa + 39 + 3 * m) 3 W) pa 1 ((m + 1 : Nat) : Int)), R, J, z) ∧ NC (pB V (pa + 39 + 3 * m) 3 W) (pa + 39 + 3 * m) B) := by
  obtain ⟨⟨q0, q1, q2, q3, q4⟩, -, -, h3, hNS⟩ := hp
  obtain ⟨-, ⟨a1, a2⟩, -, -⟩ := hC
  have e1 := h3 m h0
  have hNm := hNS (12 + m) (by omega)
  rw [show pa + 3 + 3 * (12 + m) = pa + 39 + 3 * m by omega] at hNm
  have n0 := hNm.1
  have hcp := c_copyFrom (g := g) (J := J) (z := z) (k := 0) (n := 0) (V := V) (B := B) hNm hn (by omega) hN
  refine x_aload_n dX5_setMark_0 rfl ?_
  refine y_gi dX5_setMark_1 fX5_15 (by first | assumption) (fun _ _ _ => rfl) ?_
  refine (show X _ _ 4 _ _ _ _ _ _ from ?_)
  refine X.val a1 ?_
  refine y_iconst dX5_setMark_4 ?_
  refine (show X _ _ 5 _ _ _ _ _ _ from ?_)
  refine y_icmp_lt 10 dX5_setMark_5 (by decide) ⟨by omega, by omega⟩ ⟨by omega, by omega⟩ (fun h => ?_) (fun h => ?_)
  rotate_left
  · omega
  refine x_aload_n dX5_setMark_10 rfl ?_
  refine x_gr dX5_setMark_11 fX5_24 (by first | assumption) (fun _ _ _ => rfl) (by first | assumption) ?_
  refine x_aload_n dX5_setMark_14 rfl ?_
  refine y_gi dX5_setMark_15 fX5_15 (by first | assumption) (fun _ _ _ => rfl) ?_
  refine (show X _ _ 18 _ _ _ _ _ _ from ?_)
  refine X.val a1 ?_
  refine y_aald (m) dX5_setMark_18 (by first | assumption) (by decide) (by first | rfl | omega) (by omega) (by decide) (by first | assumption) ?_
  refine x_aload_n dX5_setMark_19 rfl ?_
  refine (show X _ _ 20 _ _ _ _ _ _ from ?_)
  refine x_callV (As := [_]) (mc := 0) (ms := 0) (z := mX4_copyFrom) (ci := 4) dX5_setMark_20 lX5_31 oX4_copyFrom (by decide) (by first | assumption) rfl rfl (Nat.le_of_ble_eq_true rfl) (Nat.le_of_ble_eq_true rfl) rfl (hcp) (fun v M1 hq => ?_)
  obtain ⟨rfl, W, rfl, hW⟩ := hq
  refine (show X _ _ 23 _ _ _ _ _ _ from ?_)
  have ev : pB V (pa + 39 + 3 * m) 3 W pa 1 = (m : Int) := by rw [pB_out (by omega)]; exact a1
  refine x_aload_n dX5_setMark_23 rfl ?_
  refine x_dup dX5_setMark_24 rfl ?_
  refine y_gi dX5_setMark_25 fX5_15 (by first | assumption) (fun _ _ _ => rfl) ?_
  refine (show X _ _ 28 _ _ _ _ _ _ from ?_)
  refine X.val ev ?_
  refine y_iconst dX5_setMark_28 ?_
  refine y_iadd dX5_setMark_29 ?_
  refine (show X _ _ 30 _ _ _ _ _ _ from ?_)
  have ec : (m : Int) + 1 = ((m + 1 : Nat) : Int) := by omega
  rw [ec]
  refine y_pi dX5_setMark_30 (pX5_15 _) (by first | assumption) (fun _ _ _ => rfl) rfl rfl ?_
  refine x_aload_n dX5_setMark_33 rfl ?_
  refine y_gi dX5_setMark_34 fX5_15 (by first | assumption) (fun _ _ _ => rfl) ?_
  refine (show X _ _ 37 _ _ _ _ _ _ from ?_)
  refine X.val (b := ((m + 1 : Nat) : Int)) (by rw [u2_s, u1_s]) ?_
  refine y_iconst dX5_setMark_37 ?_
  refine y_isub dX5_setMark_38 ?_
  refine (show X _ _ 39 _ _ _ _ _ _ from ?_)
  have ed : ((m + 1 : Nat) : Int) - 1 = (m : Int) := by omega
  rw [ed]
  exact x_ireturn dX5_setMark_39 rfl ⟨rfl, W, rfl, hW⟩
theorem c_goBack0 {x : Int} (hp : PS T R pa σ) (hC : PC V pa σ a m H K) (hx : R32 x) (h0 : x < 0 ∨ (m : Int) ≤ x) : X g mX5_goBack 0 [.ref pa, .int (iI x), .ref nw] [] (T, iV V, R, J, z) k n (rI (iI 0) (T, iV V, R, J, z)) := by
  obtain ⟨⟨q0, q1, q2, q3, q4⟩, -⟩ := hp
  obtain ⟨-, ⟨a1, a2⟩, -⟩ := hC
  obtain ⟨x1, x2⟩ := hx
  refine x_iload_n dX5_goBack_0 rfl ?_
  refine (show X _ _ 1 _ _ _ _ _ _ from ?_)
  refine y_if_lt 12 dX5_goBack_1 (by decide) ⟨by omega, by omega⟩ (fun h => ?_) (fun h => ?_)
  · refine y_iconst dX5_goBack_12 ?_
    refine (show X _ _ 13 _ _ _ _ _ _ from ?_)
    exact x_zreturn dX5_goBack_13 rfl rfl ⟨rfl, rfl⟩
  refine x_iload_n dX5_goBack_4 rfl ?_
  refine x_aload_n dX5_goBack_5 rfl ?_
  refine y_gi dX5_goBack_6 fX5_15 (by first | assumption) (fun _ _ _ => rfl) ?_
  refine (show X _ _ 9 _ _ _ _ _ _ from ?_)
  refine X.val a1 ?_
  refine y_icmp_lt 14 dX5_goBack_9 (by decide) ⟨by omega, by omega⟩ ⟨by omega, by omega⟩ (fun h2 => ?_) (fun h2 => ?_)
  · omega
  refine y_iconst dX5_goBack_12 ?_
  refine (show X _ _ 13 _ _ _ _ _ _ from ?_)
  exact x_zreturn dX5_goBack_13 rfl rfl ⟨rfl, rfl⟩
theorem c_goBack {c : Nat} (hp : PS T R pa σ) (hC : PC V pa σ a m H K) (h0 : c < m) (hn : NS T R nw) (hd : nw + 3 ≤ pa ∨ pa + 48 ≤ nw) : X g mX5_goBack 0 [.ref pa, .int (iI (c : Int)), .ref nw] [] (T, iV V, R, J, z) k n (fun v M1 => v = some (.int (iI 1)) ∧ ∃ W, M1 = (T, iV (u2 (pB V nw 3 W) pa 0 0), R, J, z) ∧ NC (pB V nw 3 W) nw (K c)) := by
  obtain ⟨⟨q0, q1, q2, q3, q4⟩, -, -, h3, hNS⟩ := hp
  obtain ⟨-, ⟨a1, a2⟩, -, hK⟩ := hC
  have e1 := h3 c (by omega)
  have hNm := hNS (12 + c) (by omega)
  rw [show pa + 3 + 3 * (12 + c) = pa + 39 + 3 * c by omega] at hNm
  have n0 := hn.1
  have hcp := c_copyFrom (g := g) (J := J) (z := z) (k := 0) (n := 0) (V := V) (B := K c) hn hNm (by omega) (hK c h0)
  refine x_iload_n dX5_goBack_0 rfl ?_
  refine (show X _ _ 1 _ _ _ _ _ _ from ?_)
  refine y_if_lt 12 dX5_goBack_1 (by decide) ⟨by omega, by omega⟩ (fun h => ?_) (fun h => ?_)
  · omega
  refine x_iload_n dX5_goBack_4 rfl ?_
  refine x_aload_n dX5_goBack_5 rfl ?_
  refine y_gi dX5_goBack_6 fX5_15 (by first | assumption) (fun _ _ _ => rfl) ?_
  refine (show X _ _ 9 _ _ _ _ _ _ from ?_)
  refine X.val a1 ?_
  refine y_icmp_lt 14 dX5_goBack_9 (by decide) ⟨by omega, by omega⟩ ⟨by omega, by omega⟩ (fun h2 => ?_) (fun h2 => ?_)
  rotate_left
  · omega
  refine x_aload_n dX5_goBack_14 rfl ?_
  refine x_aload_n dX5_goBack_15 rfl ?_
  refine x_gr dX5_goBack_16 fX5_24 (by first | assumption) (fun _ _ _ => rfl) (by first | assumption) ?_
  refine x_iload_n dX5_goBack_19 rfl ?_
  refine y_aald (c) dX5_goBack_20 (by first | assumption) (by decide) (by first | rfl | omega) (by omega) (by decide) (by first | assumption) ?_
  refine (show X _ _ 21 _ _ _ _ _ _ from ?_)
  refine x_callV (As := [_]) (mc := 0) (ms := 0) (z := mX4_copyFrom) (ci := 4) dX5_goBack_21 lX5_31 oX4_copyFrom (by decide) (by first | assumption) rfl rfl (Nat.le_of_ble_eq_true rfl) (Nat.le_of_ble_eq_true rfl) rfl (hcp) (fun v M1 hq => ?_)
  obtain ⟨rfl, W, rfl, hW⟩ := hq
  refine (show X _ _ 24 _ _ _ _ _ _ from ?_)
  refine x_aload_n dX5_goBack_24 rfl ?_
  refine y_iconst dX5_goBack_25 ?_
  refine y_pi dX5_goBack_26 (pX5_9 _) (by first | assumption) (fun _ _ _ => rfl) rfl rfl ?_
  refine y_iconst dX5_goBack_29 ?_
  refine (show X _ _ 30 _ _ _ _ _ _ from ?_)
  exact x_zreturn dX5_goBack_30 rfl rfl ⟨rfl, W, rfl, hW⟩
end C22
