/-! ===== a run does not depend on what its rows held ahead of it ===== -/
def dm (A : Nat → Nat → Int) (y a j : Nat) : Prop := (a = 0 ∧ 1 ≤ j ∧ j ≤ 10) ∨ ((a = 1 ∨ a = 2 ∨ a = 3) ∧ j < fP A) ∨ (a = 4 ∧ j < y)
def RE (A : Nat → Nat → Int) (y : Nat) (W W' : Nat → Nat → Int) : Prop := ∀ a j, dm A y a j → W a j = W' a j
section RE
variable {A B W W' : Nat → Nat → Int} {y : Nat}
theorem RE_u2 {a j : Nat} {v v' : Int} (h : RE A y W W') (hv : dm A y a j → v = v') : RE A y (u2 W a j v) (u2 W' a j v') := by
  intro b i hd
  by_cases e : b = a
  · subst e
    by_cases e2 : i = j
    · subst e2; rw [u2_s, u1_s, u2_s, u1_s]; exact hv hd
    · rw [u2_s, u1_n e2, u2_s, u1_n e2]; exact h b i hd
  · rw [u2_n e, u2_n e]; exact h b i hd
theorem RE_0 {j : Nat} (h : RE A y W W') (h1 : 1 ≤ j) (h2 : j ≤ 10) : W 0 j = W' 0 j := h 0 j (Or.inl ⟨rfl, h1, h2⟩)
theorem RE_p {a p : Nat} (h : RE A y W W') (ha : a = 1 ∨ a = 2 ∨ a = 3) (hp : p < fP A) : W a p = W' a p := h a p (Or.inr (Or.inl ⟨ha, hp⟩))
theorem RE_4 {i : Nat} (h : RE A y W W') (hi : i < y) : W 4 i = W' 4 i := h 4 i (Or.inr (Or.inr ⟨rfl, hi⟩))
theorem RE_y {who : Int} (h : RE A y W W') : RE A (y + 1) (u2 W 4 y who) (u2 W' 4 y who) := by
  intro b i hd
  by_cases e : b = 4
  · subst e
    by_cases e2 : i = y
    · subst e2; rw [u2_s, u1_s, u2_s, u1_s]
    · rw [u2_s, u1_n e2, u2_s, u1_n e2]
      refine h 4 i ?_
      unfold dm at hd ⊢
      omega
  · rw [u2_n e, u2_n e]
    refine h b i ?_
    unfold dm at hd ⊢
    omega
theorem RE_cn (h : RE A y W W') (c : Nat) : rCn A B W c = rCn A B W' c := by
  show andn _ (W 0 5).toNat = andn _ (W' 0 5).toNat
  rw [RE_0 h (j := 5) (by decide) (by decide)]
theorem RE_th (h : RE A y W W') (c : Nat) : rTh A B W c = rTh A B W' c := by
  show andn _ (W 0 5).toNat = andn _ (W' 0 5).toNat
  rw [RE_0 h (j := 5) (by decide) (by decide)]
theorem RE_comes (h : RE A y W W') : rComes A B W y = rComes A B W' y := by
  unfold rComes
  rw [RE_cn h y, RE_0 h (j := 6) (by decide) (by decide)]
  by_cases e : y = 0
  · rw [if_pos e, if_pos e]
  · rw [if_neg e, if_neg e, RE_4 h (i := y - 1) (by omega), RE_4 h (i := y - 2) (by omega)]
theorem RE_cnt {p : Nat} (h : RE A y W W') (hp : p < fP A) : cnt A W p = cnt A W' p := by
  unfold cnt
  rw [RE_p h (Or.inl rfl) hp]
theorem RE_fwL (h : RE A y W W') (set : Nat) : ∀ m, m ≤ fP A → fwL A W set m = fwL A W' set m
  | 0, _ => rfl
  | m + 1, hm => by
    have ih := RE_fwL h set m (by omega)
    unfold fwL at ih ⊢
    rw [lp_s, lp_s, ih]
    unfold fwSt
    rw [RE_cnt h (by omega)]
theorem RE_few (h : RE A y W W') (set : Nat) : fewest A W set = fewest A W' set := by
  unfold fewest
  rw [RE_fwL h set _ (Nat.le_refl _)]
theorem RE_law (h : RE A y W W') : byLawV A B W y = byLawV A B W' y := by
  have e2 := RE_0 h (j := 2) (by decide) (by decide)
  have e7 := RE_0 h (j := 7) (by decide) (by decide)
  unfold byLawV
  rw [RE_cn h y, RE_0 h (j := 1) (by decide) (by decide)]
  unfold rRound drawn voted vLeft vRight dSeed
  rw [RE_few h, RE_few h, RE_few h, e2, e7, RE_th h y]
theorem RE_lawW (h : RE A y W W') : RE A y (byLawW A B W y) (byLawW A B W' y) := by
  have e2 := RE_0 h (j := 2) (by decide) (by decide)
  unfold byLawW
  rw [RE_cn h y, RE_0 h (j := 1) (by decide) (by decide), RE_few h]
  unfold drawnW dSeed
  rw [e2]
  by_cases e : W' 0 1 = 3
  · rw [if_pos e, if_pos e]
    by_cases e3 : popc (fewest A W' (rCn A B W' y)) = 0
    · rw [if_pos e3, if_pos e3]; exact h
    · rw [if_neg e3, if_neg e3]; exact RE_u2 h (fun _ => rfl)
  · rw [if_neg e, if_neg e]; exact h
theorem RE_who (h : RE A y W W') : yrWho A B W y = yrWho A B W' y := by
  unfold yrWho
  rw [RE_comes h, RE_cn h y, RE_law h]
  unfold inPl
  rw [RE_0 (RE_lawW h) (j := 3) (by decide) (by decide), RE_0 (RE_lawW h) (j := 4) (by decide) (by decide)]
theorem RE_yrW (h : RE A y W W') : RE A y (yrW A B W y) (yrW A B W' y) := by
  unfold yrW
  rw [RE_comes h]
  by_cases e : rComes A B W' y = -3
  · rw [if_pos e, if_pos e]; exact RE_lawW h
  · rw [if_neg e, if_neg e]; exact h
theorem RE_pay {s b : Nat} {pr : Int} (h : RE A y W W') : RE A y (payW W s b pr) (payW W' s b pr) := by
  unfold payW
  have h1 : RE A y (u2 W 3 s (W 3 s - pr)) (u2 W' 3 s (W' 3 s - pr)) := RE_u2 h (fun hd => by rw [h _ _ hd])
  exact RE_u2 h1 (fun hd => by rw [h1 _ _ hd])
theorem RE_sold (h : RE A y W W') (can : Nat) (who : Int) : (sold A B y can who W).1 = (sold A B y can who W').1 ∧ RE A y (sold A B y can who W).2 (sold A B y can who W').2 := by
  unfold sold
  by_cases e : who < 0
  · rw [if_pos e, if_pos e]; exact ⟨rfl, h⟩
  rw [if_neg e, if_neg e]
  have h1 : ∀ i, (lp i (sdT A y can) (who, W)).1 = (lp i (sdT A y can) (who, W')).1 ∧ RE A y (lp i (sdT A y can) (who, W)).2 (lp i (sdT A y can) (who, W')).2 := by
    intro i
    induction i with
    | zero => exact ⟨rfl, h⟩
    | succ i ih =>
      rw [lp_s, lp_s]
      generalize lp i (sdT A y can) (who, W) = s at ih ⊢
      generalize lp i (sdT A y can) (who, W') = s' at ih ⊢
      unfold sdT
      rw [ih.1]
      split
      · exact ⟨rfl, RE_pay ih.2⟩
      · exact ih
  have h2 := h1 (fBu A)
  generalize lp (fBu A) (sdT A y can) (who, W) = s0 at h2 ⊢
  generalize lp (fBu A) (sdT A y can) (who, W') = s0' at h2 ⊢
  generalize (B 0 2).toNat = nn
  induction nn with
  | zero => exact h2
  | succ i ih =>
    rw [lp_s, lp_s]
    generalize lp i (sdN B y can) s0 = s at ih ⊢
    generalize lp i (sdN B y can) s0' = s' at ih ⊢
    unfold sdN
    rw [ih.1]
    split
    · exact ⟨rfl, RE_pay ih.2⟩
    · exact ih
theorem RE_take {who : Int} (h : RE A y W W') (hw : who < A 0 3) : RE A (y + 1) (takeT A W y who) (takeT A W' y who) := by
  have h1 : RE A (y + 1) (tk1 W y who) (tk1 W' y who) := by
    unfold tk1
    refine RE_u2 ?_ (fun _ => rfl)
    rw [RE_0 h (j := 6) (by decide) (by decide), RE_0 h (j := 10) (by decide) (by decide)]
    split
    · exact RE_y h
    · exact RE_u2 (RE_y h) (fun _ => rfl)
  unfold takeT
  by_cases e : 0 ≤ who
  rotate_left
  · rw [if_neg e, if_neg e]; exact h1
  rw [if_pos e, if_pos e]
  have hp : who.toNat < fP A := by show who.toNat < (A 0 3).toNat; omega
  unfold tkT
  generalize tk1 W y who = U at h1 ⊢
  generalize tk1 W' y who = U' at h1 ⊢
  generalize who.toNat = p at hp ⊢
  have h2 : RE A (y + 1) (tk2 A U y p) (tk2 A U' y p) := by
    unfold tk2
    exact RE_u2 (RE_u2 (RE_u2 (RE_u2 h1 (fun _ => rfl)) (fun hd => by rw [h1 _ _ hd])) (fun hd => by rw [h1 _ _ hd])) (fun hd => by rw [h1 _ _ hd])
  generalize tk2 A U y p = U2 at h2 ⊢
  generalize tk2 A U' y p = U2' at h2 ⊢
  have h3 : RE A (y + 1) (tk3 A U2 p) (tk3 A U2' p) := by
    unfold tk3
    split
    · exact RE_u2 h2 (fun hd => by rw [h2 _ _ hd])
    · exact h2
  generalize tk3 A U2 p = U3 at h3 ⊢
  generalize tk3 A U2' p = U3' at h3 ⊢
  unfold tk4
  rw [RE_p h3 (Or.inr (Or.inl rfl)) hp, show dd U3 = dd U3' from congrArg Int.toNat (RE_0 h3 (j := 5) (by decide) (by decide)), RE_0 h3 (j := 9) (by decide) (by decide)]
  split
  · exact h3
  · exact RE_u2 (RE_u2 (RE_u2 h3 (fun _ => rfl)) (fun _ => rfl)) (fun _ => rfl)
theorem RE_pass (hA : VA A) (hB : VB A B) (hk : ROk A W y) (h : RE A y W W') : RE A (y + 1) (passY A B W y) (passY A B W' y) := by
  unfold passY
  rw [← RE_who h, ← RE_cn h y]
  have h1 := RE_sold (A := A) (B := B) (RE_yrW (B := B) h) (rCn A B W y) (yrWho A B W y)
  rw [← h1.1]
  exact RE_take h1.2 (sold_b hA hB (yrWho_b hk hA)).2
theorem RE_run (hA : VA A) (hB : VB A B) (hk : ROk A W 0) (h : RE A 0 W W') : ∀ m, RE A m (runTo A B W m) (runTo A B W' m)
  | 0 => h
  | m + 1 => RE_pass hA hB (runTo_ok hA hB hk m) (RE_run hA hB hk h m)
theorem RE_beg {lw sd : Int} : RE A 0 (rBeg A W lw sd) (rBeg A W' lw sd) := by
  obtain ⟨a1, a2, a3⟩ := rBeg_row (A := A) (W := W) (lw := lw) (sd := sd) (fP A)
  obtain ⟨b1, b2, b3⟩ := rBeg_row (A := A) (W := W') (lw := lw) (sd := sd) (fP A)
  intro a j hd
  unfold rBeg
  rcases hd with ⟨rfl, h1, h2⟩ | ⟨ha, hj⟩ | ⟨-, hj⟩
  · rw [a1, b1]
    unfold beg0
    have hj : j = 1 ∨ j = 2 ∨ j = 3 ∨ j = 4 ∨ j = 5 ∨ j = 6 ∨ j = 7 ∨ j = 8 ∨ j = 9 ∨ j = 10 := by omega
    rcases hj with rfl | rfl | rfl | rfl | rfl | rfl | rfl | rfl | rfl | rfl <;> simp (discharger := decide) only [u2_s, u1_s, u1_n]
  · rcases ha with rfl | rfl | rfl
    · rw [(a3 j hj).1, (b3 j hj).1]
    · rw [(a3 j hj).2.1, (b3 j hj).2.1]
    · rw [(a3 j hj).2.2, (b3 j hj).2.2]
  · omega
theorem RE.symm (h : RE A y W W') : RE A y W' W := fun a j hd => (h a j hd).symm
theorem RE.trans {W2 : Nat → Nat → Int} (h : RE A y W W') (h2 : RE A y W' W2) : RE A y W W2 := fun a j hd => (h a j hd).trans (h2 a j hd)
theorem RE_spread (h : RE A (fY A) W W') : spread A B W = spread A B W' := by
  have hs : ∀ th m, m ≤ fP A → spL W th m = spL W' th m := by
    intro th m
    induction m with
    | zero => exact fun _ => rfl
    | succ m ih =>
      intro hm
      have ih := ih (by omega)
      unfold spL at ih ⊢
      rw [lp_s, lp_s, ih, RE_p h (Or.inl rfl) (show m < fP A by omega)]
  unfold spread
  rw [RE_th h, hs _ _ (Nat.le_refl _)]
end RE
/-- the canonical run by a law from a seed; with two who change -/
def rn (A B : Nat → Nat → Int) (lw sd : Int) : Nat → Nat → Int := runTo A B (rBeg A A0 lw sd) (fY A)
def tBeg (A W : Nat → Nat → Int) (lw sd p q : Int) : Nat → Nat → Int := u2 (u2 (rBeg A W lw sd) 0 3 p) 0 4 q
def rnT (A B : Nat → Nat → Int) (p q : Int) : Nat → Nat → Int := runTo A B (tBeg A A0 (B 0 0) (B 0 1) p q) (fY A)
theorem rn_eq {A B W : Nat → Nat → Int} {lw sd : Int} (hA : VA A) (hB : VB A B) (hl : 0 ≤ lw ∧ lw ≤ 4) (hs : 0 ≤ sd ∧ sd ≤ 65536) : RE A (fY A) (runTo A B (rBeg A W lw sd) (fY A)) (rn A B lw sd) := RE_run hA hB (rBeg_ok hA hl hs) RE_beg _
theorem tBeg_ok {A W : Nat → Nat → Int} {lw sd p q : Int} (hA : VA A) (hl : 0 ≤ lw ∧ lw ≤ 4) (hs : 0 ≤ sd ∧ sd ≤ 65536) (hp : 0 ≤ p ∧ p ≤ 9) (hq : 0 ≤ q ∧ q ≤ 9) : ROk A (tBeg A W lw sd p q) 0 := by
  obtain ⟨k1, k2, k3, k4, k5, k6, k7, k8, k9, k10⟩ := rBeg_ok (W := W) hA hl hs
  unfold tBeg
  refine ⟨?_, ?_, ?_, ?_, ?_, ?_, ?_, ?_, ?_, ?_⟩
  all_goals simp (discharger := decide) only [u2_s, u1_s, u1_n, u2_n]
  · exact k1
  · exact k2
  · omega
  · omega
  · exact k5
  · exact k6
  · exact k7
  · exact k8
  · exact k9
  · exact k10
theorem rnT_eq {A B W : Nat → Nat → Int} {p q : Int} (hA : VA A) (hB : VB A B) (hp : 0 ≤ p ∧ p ≤ 9) (hq : 0 ≤ q ∧ q ≤ 9) : RE A (fY A) (runTo A B (tBeg A W (B 0 0) (B 0 1) p q) (fY A)) (rnT A B p q) := RE_run hA hB (tBeg_ok hA hB.1 hB.2.1 hp hq) (RE_u2 (RE_u2 RE_beg (fun _ => rfl)) (fun _ => rfl)) _
