/-! ===== Run: votes, by law, a year, all years, how fair ===== -/
section TS
variable {g : GG} {y : MD} {pc : Nat} {L S : List Value} {M : Mem} {k n : Nat} {Q : Option Value → Mem → Prop}
theorem y_tsOut {dflt lo hi : Int} {offs : Array Int} {len : Nat} {v : Int} (tgt : Nat) (hd : decode y.2.1 pc = .ok (.tableswitch dflt lo hi offs, len)) (hv : R32 v) (h : v < lo ∨ hi < v) (ht : (pc : Int) + dflt = (tgt : Int)) (kk : X g y tgt L S M k n Q) : X g y pc L (.int (iI v) :: S) M k n Q := x_tsOut tgt hd (by rw [iI_toInt hv]; exact h) ht kk
theorem y_tsIn {dflt lo hi : Int} {offs : Array Int} {len : Nat} {v off : Int} (tgt : Nat) (hd : decode y.2.1 pc = .ok (.tableswitch dflt lo hi offs, len)) (hv : R32 v) (h1 : ¬ v < lo) (h2 : ¬ hi < v) (ho : offs[(v - lo).toNat]? = some off) (ht : (pc : Int) + off = (tgt : Int)) (kk : X g y tgt L S M k n Q) : X g y pc L (.int (iI v) :: S) M k n Q := x_tsIn tgt hd (by rw [iI_toInt hv]; exact h1) (by rw [iI_toInt hv]; exact h2) (by rw [iI_toInt hv]; exact ho) ht kk
end TS
theorem and_lt {a b m : Nat} (h : a < m) : a &&& b < m := Nat.lt_of_le_of_lt Nat.and_le_left h
theorem fiF_b (set : Nat) : ∀ m p, fiF set m p = -2 ∨ ((p : Int) ≤ fiF set m p ∧ fiF set m p < (p : Int) + m)
  | 0, _ => Or.inl rfl
  | m + 1, p => by
    rw [fiF]
    split
    · exact Or.inr ⟨by omega, by omega⟩
    · rcases fiF_b set m (p + 1) with h | h
      · exact Or.inl h
      · exact Or.inr ⟨by omega, by omega⟩
theorem nthF_b (set : Nat) : ∀ m p a, nthF set m p a = -2 ∨ ((p : Int) ≤ nthF set m p a ∧ nthF set m p a < (p : Int) + m)
  | 0, _, _ => Or.inl rfl
  | m + 1, p, a => by
    rw [nthF]
    split
    · split
      · exact Or.inr ⟨by omega, by omega⟩
      · rcases nthF_b set m (p + 1) (a - 1) with h | h
        · exact Or.inl h
        · exact Or.inr ⟨by omega, by omega⟩
    · rcases nthF_b set m (p + 1) a with h | h
      · exact Or.inl h
      · exact Or.inr ⟨by omega, by omega⟩
section Bounds
variable {A B W : Nat → Nat → Int} {y : Nat}
theorem rComes_b (h : ROk A W y) (hP : 0 ≤ A 0 3) : -3 ≤ rComes A B W y ∧ rComes A B W y < A 0 3 ∧ (rComes A B W y = -3 ∨ -2 ≤ rComes A B W y) := by
  have hE := h.2.2.2.2.2.2.2.2.2
  unfold rComes
  split
  · omega
  split
  · omega
  have := hE (y - 1) (by omega)
  split
  · omega
  split <;> omega
theorem byLawV_b (h : ROk A W y) (hA : VA A) : -2 ≤ byLawV A B W y ∧ byLawV A B W y < A 0 3 := by
  have eP := fP10 hA
  have h7 := h.2.2.2.2.2.2.1
  unfold byLawV
  split
  · unfold rRound
    have h1 := fiF_b (rCn A B W y) (fP A - (W 0 7 + 1).toNat) (W 0 7 + 1).toNat
    have h2 := fiF_b (rCn A B W y) (W 0 7 + 1).toNat 0
    split <;> omega
  split
  · exact byAge_b hA (Or.inl rfl)
  split
  · exact byAge_b hA (Or.inr rfl)
  split
  · unfold drawn
    split
    · omega
    · have h1 := nthF_b (fewest A W (rCn A B W y)) (fP A) 0 (dSeed W % popc (fewest A W (rCn A B W y)))
      omega
  · unfold voted vLeft vRight
    have h1 := byAge_b (set := fewest A W (rCn A B W y &&& brS A 0)) hA (Or.inl rfl)
    have h2 := byAge_b (set := fewest A W (rCn A B W y &&& brS A 1)) hA (Or.inl rfl)
    split
    · split <;> omega
    · split
      · split <;> omega
      · split <;> omega
theorem rCn_bit {p : Nat} (h : (rCn A B W y).testBit p = true) : p < fP A := by
  rw [andn_bit, cnS, sOf_bit] at h
  by_cases q : p < fP A
  · exact q
  · rw [decide_eq_false q] at h
    simp at h
theorem inPl_b {who : Int} {W' : Nat → Nat → Int} (hA : VA A) (h : -2 ≤ who ∧ who < A 0 3) : -2 ≤ inPl W' (rCn A B W y) who ∧ inPl W' (rCn A B W y) who < A 0 3 := by
  have eP := fP10 hA
  unfold inPl
  split
  · rename_i h1
    have := rCn_bit h1.2.2
    omega
  · split
    · rename_i h1
      have := rCn_bit h1.2.2
      omega
    · exact h
theorem lawW_row (a : Nat) (j : Nat) (h : ¬ (a = 0 ∧ j = 2)) : byLawW A B W y a j = W a j := by
  unfold byLawW drawnW
  split
  · split
    · rfl
    · by_cases e : a = 0
      · subst e
        rw [u2_s, u1_n (fun q => h ⟨rfl, q⟩)]
      · rw [u2_n e]
  · rfl
theorem yrW_row (a : Nat) (j : Nat) (h : ¬ (a = 0 ∧ j = 2)) : yrW A B W y a j = W a j := by
  unfold yrW
  split
  · exact lawW_row a j h
  · rfl
theorem yrW_seed (h : 0 ≤ W 0 2 ∧ W 0 2 ≤ 65536) : 0 ≤ yrW A B W y 0 2 ∧ yrW A B W y 0 2 ≤ 65536 := by
  have hs1 : 0 ≤ dSeed W ∧ dSeed W < 65537 := ⟨Int.emod_nonneg _ (by decide), Int.emod_lt_of_pos _ (by decide)⟩
  unfold yrW byLawW drawnW
  split
  · split
    · split
      · exact h
      · rw [u2_s, u1_s]
        omega
    · exact h
  · exact h
theorem yrWho_b (h : ROk A W y) (hA : VA A) : -2 ≤ yrWho A B W y ∧ yrWho A B W y < A 0 3 := by
  have hc := rComes_b (B := B) h (by have := hA.2.2.2.1.1; omega)
  unfold yrWho
  split
  · exact inPl_b hA (byLawV_b h hA)
  · omega
theorem payW_row {s b : Nat} {pr : Int} (a : Nat) (h : a ≠ 3) : payW W s b pr a = W a := by unfold payW; rw [u2_n h, u2_n h]
theorem sold_row {can : Nat} {who : Int} (a : Nat) (h : a ≠ 3) : (sold A B y can who W).2 a = W a := by
  unfold sold
  split
  · rfl
  have h1 : ∀ i, (lp i (sdT A y can) (who, W)).2 a = W a := by
    intro i
    induction i with
    | zero => rfl
    | succ i ih =>
      rw [lp_s, sdT]
      split
      · exact (payW_row a h).trans ih
      · exact ih
  have h2 : ∀ i s, (lp i (sdN B y can) s).2 a = s.2 a := by
    intro i s
    induction i with
    | zero => rfl
    | succ i ih =>
      rw [lp_s, sdN]
      split
      · exact (payW_row a h).trans ih
      · exact ih
  rw [h2, h1]
end Bounds
section C7
variable {g : GG} {T : Nat → Nat × Nat} {V W : Nat → Nat → Int} {R : Nat → Nat → Option Nat} {J : Nat → Nat → Int64} {z k n : Nat} {A B : Nat → Nat → Int} {r w f nw al : Nat}
theorem wOf_b (hA : VA A) (set : Nat) : 0 ≤ wOf A set ∧ wOf A set ≤ 90 := by
  have hAp := hA.2.2.2.2.2.2.2.2.2.1
  have eP := fP10 hA
  have hb : ∀ p, p ≤ fP A → (0 ≤ lp p (fun p s => if set.testBit p then s + A 5 p else s) 0 ∧ lp p (fun p s => if set.testBit p then s + A 5 p else s) 0 ≤ 9 * (p : Int)) := by
    intro p
    induction p with
    | zero => exact fun _ => ⟨Int.le_refl _, Int.le_refl _⟩
    | succ p ih =>
      intro hp
      have h1 := ih (by omega)
      have h2 := (hAp p (by omega)).2.2.2.2.1
      rw [lp_s]
      split <;> constructor <;> omega
  have h := hb (fP A) (Nat.le_refl _)
  unfold wOf
  omega
theorem wOf_out (hA : VA A) {f : Nat} (hF : FC V f A) (hf : f + 45 ≤ r ∨ r + 5 ≤ f) : FC (pB V r 5 W) f A := by
  obtain ⟨h1, h2, h3, h4, h5, h6, h7⟩ := hF
  have eP := fP10 hA
  have e4 := hA.2.2.2.2.1
  have e5 := hA.2.2.2.2.2.1
  have e8 := hA.2.2.2.2.2.2.2.2.1
  have g4 : fPl A ≤ 12 := by show (A 0 4).toNat ≤ 12; omega
  have g5 : fBu A ≤ 8 := by show (A 0 5).toNat ≤ 8; omega
  have g8 : fDi A ≤ 8 := by show (A 0 8).toNat ≤ 8; omega
  refine ⟨fun j hj => ?_, fun p hp j hj => ?_, fun p hp j hj => ?_, fun p hp j hj => ?_, fun p hp j hj => ?_, fun j hj => ?_, fun j hj => ?_⟩
  · rw [pB_out (by omega)]; exact h1 j hj
  · rw [pB_out (by omega)]; exact h2 p hp j hj
  · rw [pB_out (by omega)]; exact h3 p hp j hj
  · rw [pB_out (by omega)]; exact h4 p hp j hj
  · rw [pB_out (by omega)]; exact h5 p hp j hj
  · rw [pB_out (by omega)]; exact h6 j hj
  · rw [pB_out (by omega)]; exact h7 j hj
theorem c_voted {y can : Nat} (hr : RS T R r w) (hw : WS T R w f nw al) (hC : WC V f nw al A B) (hap : AP r w f nw al) (hd : 0 ≤ W 0 5) (hy : y < fY A) (hcan : can < 1024) (hW : ∀ p, p < fP A → 0 ≤ W 1 p ∧ W 1 p ≤ 24) : X g mX8_voted 0 [.ref r, .int (iI (y : Int)), .int (iI can), jk, jk, jk, jk, jk, jk, jk] [] (T, iV (pB V r 5 W), R, J, z) k n (rI (iI (voted A B W y can)) (T, iV (pB V r 5 W), R, J, z)) := by
  have hfw := fun set h => c_fewest (g := g) (J := J) (z := z) (k := 0) (n := 0) (set := set) hr hw hC hap hW h
  have hba := fun set h => c_byAge (g := g) (W := W) (J := J) (z := z) (k := 0) (n := 0) (set := set) (sg := 1) (Or.inl rfl) hr hw hC hap h
  have hth := c_whoIsThere (g := g) (J := J) (z := z) (k := 0) (n := 0) hr hw hC hap hd hy
  have hA := hC.2.2.2.1
  have hwt := fun set h => c_weightOf (g := g) (V := pB V r 5 W) (J := J) (z := z) (k := 0) (n := 0) (set := set) hw.2.1 (wOf_out hA hC.1 hap.2.1) hA h
  obtain ⟨⟨r0, r1⟩, ⟨r2, r3, r4, r5⟩, ⟨s1, s2, s3, s4⟩⟩ := hr
  obtain ⟨⟨w0, w1, w2, w3⟩, ⟨f0, ⟨f9, -⟩, ⟨ft1, -⟩, hPR, -⟩, -, a0, ⟨a1, a2, a3, a4⟩, ⟨t1, t2, t3, t4⟩⟩ := hw
  obtain ⟨-, -, ⟨hAy, hb0, hb1⟩, -, -⟩ := hC
  obtain ⟨p1, p2, p3, p4⟩ := hap
  have eP := fP10 hA
  have eY := fY24 hA
  have hl := byAge_b (set := fewest A W (can &&& brS A 0)) hA (Or.inl rfl)
  have hrr := byAge_b (set := fewest A W (can &&& brS A 1)) hA (Or.inl rfl)
  have htl : rTh A B W y < 1024 := andn_lt (thS_lt hA y)
  have hw0 := wOf_b hA (rTh A B W y &&& brS A 0)
  have hw1 := wOf_b hA (rTh A B W y &&& brS A 1)
  have hz0 : (fewest A W (can &&& brS A 0)) < 1024 := fewest_lt hA hW
  have hz1 : (fewest A W (can &&& brS A 1)) < 1024 := fewest_lt hA hW
  unfold voted vLeft vRight
  refine x_aload_n dX8_voted_0 rfl ?_
  refine x_gr dX8_voted_1 fX8_56 (by first | assumption | exact (hPR _ (by omega)).2) (fun _ _ _ => rfl) (by first | assumption | exact (hPR _ (by omega)).2) ?_
  refine x_gr dX8_voted_4 fX8_103 (by first | assumption | exact (hPR _ (by omega)).2) (fun _ _ _ => rfl) (by first | assumption | exact (hPR _ (by omega)).2) ?_
  refine x_gr dX8_voted_7 fX8_141 (by first | assumption | exact (hPR _ (by omega)).2) (fun _ _ _ => rfl) (by first | assumption | exact (hPR _ (by omega)).2) ?_
  refine y_iconst dX8_voted_10 ?_
  refine b_ialo (r := r) (m := 5) (0) dX8_voted_11 (by first | assumption | exact (hPR _ (by omega)).2) (by first | rfl | omega) (by omega) (by decide) (by omega) ?_
  refine (show X _ _ 12 _ _ _ _ _ _ from ?_)
  refine X.val hb0 ?_
  refine x_istore_n dX8_voted_12 (by decide) rfl rfl ?_
  refine x_aload_n dX8_voted_13 rfl ?_
  refine x_gr dX8_voted_14 fX8_56 (by first | assumption | exact (hPR _ (by omega)).2) (fun _ _ _ => rfl) (by first | assumption | exact (hPR _ (by omega)).2) ?_
  refine x_gr dX8_voted_17 fX8_103 (by first | assumption | exact (hPR _ (by omega)).2) (fun _ _ _ => rfl) (by first | assumption | exact (hPR _ (by omega)).2) ?_
  refine x_gr dX8_voted_20 fX8_141 (by first | assumption | exact (hPR _ (by omega)).2) (fun _ _ _ => rfl) (by first | assumption | exact (hPR _ (by omega)).2) ?_
  refine y_iconst dX8_voted_23 ?_
  refine b_ialo (r := r) (m := 5) (1) dX8_voted_24 (by first | assumption | exact (hPR _ (by omega)).2) (by first | rfl | omega) (by omega) (by decide) (by omega) ?_
  refine (show X _ _ 25 _ _ _ _ _ _ from ?_)
  refine X.val hb1 ?_
  refine x_istore dX8_voted_25 (by decide) rfl rfl ?_
  refine x_aload_n dX8_voted_27 rfl ?_
  refine x_aload_n dX8_voted_28 rfl ?_
  refine x_iload_n dX8_voted_29 rfl ?_
  refine x_iload_n dX8_voted_30 rfl ?_
  refine y_iand dX8_voted_31 ?_
  refine (show X _ _ 32 _ _ _ _ _ _ from ?_)
  refine x_callV (As := [_]) (mc := 0) (ms := 0) (z := mX8_fewestTurns) (ci := 8) dX8_voted_32 lX8_122 oX8_fewestTurns (by decide) (by first | assumption | exact (hPR _ (by omega)).2) rfl rfl (Nat.le_of_ble_eq_true rfl) (Nat.le_of_ble_eq_true rfl) rfl (hfw _ (and_lt hcan)) (k_I ?_)
  refine (show X _ _ 35 _ _ _ _ _ _ from ?_)
  refine y_iconst dX8_voted_35 ?_
  refine (show X _ _ 36 _ _ _ _ _ _ from ?_)
  refine x_callV (As := [_, _]) (mc := 0) (ms := 0) (z := mX8_byAge) (ci := 8) dX8_voted_36 lX8_125 oX8_byAge (by decide) (by first | assumption | exact (hPR _ (by omega)).2) rfl rfl (Nat.le_of_ble_eq_true rfl) (Nat.le_of_ble_eq_true rfl) rfl (hba _ hz0) (k_I ?_)
  refine (show X _ _ 39 _ _ _ _ _ _ from ?_)
  refine x_istore dX8_voted_39 (by decide) rfl rfl ?_
  refine x_aload_n dX8_voted_41 rfl ?_
  refine x_aload_n dX8_voted_42 rfl ?_
  refine x_iload_n dX8_voted_43 rfl ?_
  refine x_iload dX8_voted_44 rfl ?_
  refine y_iand dX8_voted_46 ?_
  refine (show X _ _ 47 _ _ _ _ _ _ from ?_)
  refine x_callV (As := [_]) (mc := 0) (ms := 0) (z := mX8_fewestTurns) (ci := 8) dX8_voted_47 lX8_122 oX8_fewestTurns (by decide) (by first | assumption | exact (hPR _ (by omega)).2) rfl rfl (Nat.le_of_ble_eq_true rfl) (Nat.le_of_ble_eq_true rfl) rfl (hfw _ (and_lt hcan)) (k_I ?_)
  refine (show X _ _ 50 _ _ _ _ _ _ from ?_)
  refine y_iconst dX8_voted_50 ?_
  refine (show X _ _ 51 _ _ _ _ _ _ from ?_)
  refine x_callV (As := [_, _]) (mc := 0) (ms := 0) (z := mX8_byAge) (ci := 8) dX8_voted_51 lX8_125 oX8_byAge (by decide) (by first | assumption | exact (hPR _ (by omega)).2) rfl rfl (Nat.le_of_ble_eq_true rfl) (Nat.le_of_ble_eq_true rfl) rfl (hba _ hz1) (k_I ?_)
  refine (show X _ _ 54 _ _ _ _ _ _ from ?_)
  generalize byAge A (fewest A W (can &&& brS A 0)) 1 = lf at *
  generalize byAge A (fewest A W (can &&& brS A 1)) 1 = rt at *
  refine x_istore dX8_voted_54 (by decide) rfl rfl ?_
  refine x_iload dX8_voted_56 rfl ?_
  refine (show X _ _ 58 _ _ _ _ _ _ from ?_)
  refine y_if_lt 66 dX8_voted_58 (by decide) ⟨by omega, by omega⟩ (fun h1 => ?_) (fun h1 => ?_)
  · rw [if_pos (Or.inl h1), if_pos h1]
    refine x_iload dX8_voted_66 rfl ?_
    refine (show X _ _ 68 _ _ _ _ _ _ from ?_)
    refine y_if_ge 76 dX8_voted_68 (by decide) ⟨by omega, by omega⟩ (fun h2 => ?_) (fun h2 => ?_)
    · omega
    refine x_iload dX8_voted_71 rfl ?_
    refine x_goto 78 dX8_voted_73 (by decide) ?_
    refine (show X _ _ 78 _ _ _ _ _ _ from ?_)
    exact x_ireturn dX8_voted_78 rfl ⟨rfl, rfl⟩
  refine x_iload dX8_voted_61 rfl ?_
  refine (show X _ _ 63 _ _ _ _ _ _ from ?_)
  refine y_if_ge 79 dX8_voted_63 (by decide) ⟨by omega, by omega⟩ (fun h2 => ?_) (fun h2 => ?_)
  rotate_left
  · rw [if_pos (Or.inr h2), if_neg (by omega)]
    refine x_iload dX8_voted_66 rfl ?_
    refine (show X _ _ 68 _ _ _ _ _ _ from ?_)
    refine y_if_ge 76 dX8_voted_68 (by decide) ⟨by omega, by omega⟩ (fun h3 => ?_) (fun h3 => ?_)
    · refine x_iload dX8_voted_76 rfl ?_
      refine (show X _ _ 78 _ _ _ _ _ _ from ?_)
      exact x_ireturn dX8_voted_78 rfl ⟨rfl, rfl⟩
    · omega
  rw [if_neg (by omega)]
  refine x_aload_n dX8_voted_79 rfl ?_
  refine x_iload_n dX8_voted_80 rfl ?_
  refine (show X _ _ 81 _ _ _ _ _ _ from ?_)
  refine x_callV (As := [_]) (mc := 0) (ms := 0) (z := mX8_whoIsThere) (ci := 8) dX8_voted_81 lX8_144 oX8_whoIsThere (by decide) (by first | assumption | exact (hPR _ (by omega)).2) rfl rfl (Nat.le_of_ble_eq_true rfl) (Nat.le_of_ble_eq_true rfl) rfl (hth) (k_I ?_)
  refine (show X _ _ 84 _ _ _ _ _ _ from ?_)
  refine x_istore dX8_voted_84 (by decide) rfl rfl ?_
  refine x_aload_n dX8_voted_86 rfl ?_
  refine x_gr dX8_voted_87 fX8_56 (by first | assumption | exact (hPR _ (by omega)).2) (fun _ _ _ => rfl) (by first | assumption | exact (hPR _ (by omega)).2) ?_
  refine x_gr dX8_voted_90 fX8_60 (by first | assumption | exact (hPR _ (by omega)).2) (fun _ _ _ => rfl) (by first | assumption | exact (hPR _ (by omega)).2) ?_
  refine x_iload dX8_voted_93 rfl ?_
  refine x_iload_n dX8_voted_95 rfl ?_
  refine y_iand dX8_voted_96 ?_
  refine (show X _ _ 97 _ _ _ _ _ _ from ?_)
  refine x_callV (As := [_]) (mc := 0) (ms := 0) (z := mX2_weightOf) (ci := 2) dX8_voted_97 lX8_147 oX2_weightOf (by decide) (by first | assumption | exact (hPR _ (by omega)).2) rfl rfl (Nat.le_of_ble_eq_true rfl) (Nat.le_of_ble_eq_true rfl) rfl (hwt _ (Nat.lt_trans (and_lt htl) (by decide))) (k_I ?_)
  refine (show X _ _ 100 _ _ _ _ _ _ from ?_)
  refine x_istore dX8_voted_100 (by decide) rfl rfl ?_
  refine x_aload_n dX8_voted_102 rfl ?_
  refine x_gr dX8_voted_103 fX8_56 (by first | assumption | exact (hPR _ (by omega)).2) (fun _ _ _ => rfl) (by first | assumption | exact (hPR _ (by omega)).2) ?_
  refine x_gr dX8_voted_106 fX8_60 (by first | assumption | exact (hPR _ (by omega)).2) (fun _ _ _ => rfl) (by first | assumption | exact (hPR _ (by omega)).2) ?_
  refine x_iload dX8_voted_109 rfl ?_
  refine x_iload dX8_voted_111 rfl ?_
  refine y_iand dX8_voted_113 ?_
  refine (show X _ _ 114 _ _ _ _ _ _ from ?_)
  refine x_callV (As := [_]) (mc := 0) (ms := 0) (z := mX2_weightOf) (ci := 2) dX8_voted_114 lX8_147 oX2_weightOf (by decide) (by first | assumption | exact (hPR _ (by omega)).2) rfl rfl (Nat.le_of_ble_eq_true rfl) (Nat.le_of_ble_eq_true rfl) rfl (hwt _ (Nat.lt_trans (and_lt htl) (by decide))) (k_I ?_)
  refine (show X _ _ 117 _ _ _ _ _ _ from ?_)
  generalize wOf A (rTh A B W y &&& brS A 0) = q0 at *
  generalize wOf A (rTh A B W y &&& brS A 1) = q1 at *
  refine x_istore dX8_voted_117 (by decide) rfl rfl ?_
  refine x_iload dX8_voted_119 rfl ?_
  refine x_iload dX8_voted_121 rfl ?_
  refine (show X _ _ 123 _ _ _ _ _ _ from ?_)
  refine y_icmp_ne 141 dX8_voted_123 (by decide) ⟨by omega, by omega⟩ ⟨by omega, by omega⟩ (fun h3 => ?_) (fun h3 => ?_)
  · rw [if_neg h3]
    refine x_iload dX8_voted_141 rfl ?_
    refine x_iload dX8_voted_143 rfl ?_
    refine (show X _ _ 145 _ _ _ _ _ _ from ?_)
    refine y_icmp_le 153 dX8_voted_145 (by decide) ⟨by omega, by omega⟩ ⟨by omega, by omega⟩ (fun h4 => ?_) (fun h4 => ?_)
    · rw [if_neg (by omega)]
      refine x_iload dX8_voted_153 rfl ?_
      refine (show X _ _ 155 _ _ _ _ _ _ from ?_)
      exact x_ireturn dX8_voted_155 rfl ⟨rfl, rfl⟩
    · rw [if_pos h4]
      refine x_iload dX8_voted_148 rfl ?_
      refine x_goto 155 dX8_voted_150 (by decide) ?_
      refine (show X _ _ 155 _ _ _ _ _ _ from ?_)
      exact x_ireturn dX8_voted_155 rfl ⟨rfl, rfl⟩
  · rw [if_pos h3]
    refine x_iload dX8_voted_126 rfl ?_
    refine x_iload dX8_voted_128 rfl ?_
    refine (show X _ _ 130 _ _ _ _ _ _ from ?_)
    refine y_icmp_ge 138 dX8_voted_130 (by decide) ⟨by omega, by omega⟩ ⟨by omega, by omega⟩ (fun h4 => ?_) (fun h4 => ?_)
    · rw [if_neg (by omega)]
      refine x_iload dX8_voted_138 rfl ?_
      refine (show X _ _ 140 _ _ _ _ _ _ from ?_)
      exact x_ireturn dX8_voted_140 rfl ⟨rfl, rfl⟩
    · rw [if_pos h4]
      refine x_iload dX8_voted_133 rfl ?_
      refine x_goto 140 dX8_voted_135 (by decide) ?_
      refine (show X _ _ 140 _ _ _ _ _ _ from ?_)
      exact x_ireturn dX8_voted_140 rfl ⟨rfl, rfl⟩
theorem c_whoByLaw {y : Nat} (hr : RS T R r w) (hw : WS T R w f nw al) (hC : WC V f nw al A B) (hap : AP r w f nw al) (hy : y < fY A) (hk : ROk A W y) : X g mX8_whoByLaw 0 [.ref r, .int (iI (y : Int)), jk] [] (T, iV (pB V r 5 W), R, J, z) k n (rI (iI (byLawV A B W y)) (T, iV (pB V r 5 (byLawW A B W y)), R, J, z)) := by
  have hA := hC.2.2.2.1
  have eP := fP10 hA
  have eY := fY24 hA
  obtain ⟨k1, k2, k3, k4, k5, k6, k7, k8, k9, k10⟩ := hk
  have hW : ∀ p, p < fP A → 0 ≤ W 1 p ∧ W 1 p ≤ 24 := fun p hp => by have := k8 p hp; omega
  have hcl : rCn A B W y < 1024 := andn_lt (cnS_lt hA y)
  have hwc := c_whoCan (g := g) (J := J) (z := z) (k := 0) (n := 0) hr hw hC hap k5 hy
  have hfw := c_fewest (g := g) (J := J) (z := z) (k := 0) (n := 0) (set := rCn A B W y) hr hw hC hap hW hcl
  have hfl : fewest A W (rCn A B W y) < 1024 := fewest_lt hA hW
  have hba := fun sg hs => c_byAge (g := g) (W := W) (J := J) (z := z) (k := 0) (n := 0) (set := fewest A W (rCn A B W y)) (sg := sg) hs hr hw hC hap hfl
  have hdr := c_drawn (g := g) (J := J) (z := z) (k := 0) (n := 0) (set := fewest A W (rCn A B W y)) hr hw hC hap hfl k2
  have hnr := c_nextRound (g := g) (J := J) (z := z) (k := 0) (n := 0) (can := rCn A B W y) hr hw hC hap hcl k7
  have hvt := c_voted (g := g) (J := J) (z := z) (k := 0) (n := 0) (can := rCn A B W y) hr hw hC hap k5 hy hcl hW
  obtain ⟨⟨r0, r1⟩, -⟩ := hr
  have hPR : True := trivial
  refine x_aload_n dX8_whoByLaw_0 rfl ?_
  refine x_iload_n dX8_whoByLaw_1 rfl ?_
  refine (show X _ _ 2 _ _ _ _ _ _ from ?_)
  refine x_callV (As := [_]) (mc := 0) (ms := 0) (z := mX8_whoCan) (ci := 8) dX8_whoByLaw_2 lX8_89 oX8_whoCan (by decide) (by first | assumption | exact (hPR _ (by omega)).2) rfl rfl (Nat.le_of_ble_eq_true rfl) (Nat.le_of_ble_eq_true rfl) rfl (hwc) (k_I ?_)
  refine (show X _ _ 5 _ _ _ _ _ _ from ?_)
  refine x_istore_n dX8_whoByLaw_5 (by decide) rfl rfl ?_
  refine x_aload_n dX8_whoByLaw_6 rfl ?_
  refine b_gi0 (r := r) (m := 5) dX8_whoByLaw_7 fX8_9 (by first | assumption | exact (hPR _ (by omega)).2) (fun _ _ _ => rfl) (by decide) ?_
  refine (show X _ _ 10 _ _ _ _ _ _ from ?_)
  unfold byLawV byLawW
  rcases (show W 0 1 = 0 ∨ W 0 1 = 1 ∨ W 0 1 = 2 ∨ W 0 1 = 3 ∨ W 0 1 = 4 by omega) with h | h | h | h | h <;> rw [h]
  · refine y_tsIn 40 dX8_whoByLaw_10 ⟨by omega, by omega⟩ (by omega) (by omega) rfl (by decide) ?_
    rw [if_pos rfl, if_neg (by decide)]
    refine x_aload_n dX8_whoByLaw_40 rfl ?_
    refine x_iload_n dX8_whoByLaw_41 rfl ?_
    refine (show X _ _ 42 _ _ _ _ _ _ from ?_)
    refine x_callV (As := [_]) (mc := 0) (ms := 0) (z := mX8_nextRound) (ci := 8) dX8_whoByLaw_42 lX8_119 oX8_nextRound (by decide) (by first | assumption | exact (hPR _ (by omega)).2) rfl rfl (Nat.le_of_ble_eq_true rfl) (Nat.le_of_ble_eq_true rfl) rfl (hnr) (k_I ?_)
    refine (show X _ _ 45 _ _ _ _ _ _ from ?_)
    exact x_ireturn dX8_whoByLaw_45 rfl ⟨rfl, rfl⟩
  · refine y_tsIn 46 dX8_whoByLaw_10 ⟨by omega, by omega⟩ (by omega) (by omega) rfl (by decide) ?_
    rw [if_neg (by decide), if_pos rfl, if_neg (by decide)]
    refine x_aload_n dX8_whoByLaw_46 rfl ?_
    refine x_aload_n dX8_whoByLaw_47 rfl ?_
    refine x_iload_n dX8_whoByLaw_48 rfl ?_
    refine (show X _ _ 49 _ _ _ _ _ _ from ?_)
    refine x_callV (As := [_]) (mc := 0) (ms := 0) (z := mX8_fewestTurns) (ci := 8) dX8_whoByLaw_49 lX8_122 oX8_fewestTurns (by decide) (by first | assumption | exact (hPR _ (by omega)).2) rfl rfl (Nat.le_of_ble_eq_true rfl) (Nat.le_of_ble_eq_true rfl) rfl (hfw) (k_I ?_)
    refine (show X _ _ 52 _ _ _ _ _ _ from ?_)
    refine y_iconst dX8_whoByLaw_52 ?_
    refine (show X _ _ 53 _ _ _ _ _ _ from ?_)
    refine x_callV (As := [_, _]) (mc := 0) (ms := 0) (z := mX8_byAge) (ci := 8) dX8_whoByLaw_53 lX8_125 oX8_byAge (by decide) (by first | assumption | exact (hPR _ (by omega)).2) rfl rfl (Nat.le_of_ble_eq_true rfl) (Nat.le_of_ble_eq_true rfl) rfl (hba 1 (Or.inl rfl)) (k_I ?_)
    refine (show X _ _ 56 _ _ _ _ _ _ from ?_)
    exact x_ireturn dX8_whoByLaw_56 rfl ⟨rfl, rfl⟩
  · refine y_tsIn 57 dX8_whoByLaw_10 ⟨by omega, by omega⟩ (by omega) (by omega) rfl (by decide) ?_
    rw [if_neg (by decide), if_neg (by decide), if_pos rfl, if_neg (by decide)]
    refine x_aload_n dX8_whoByLaw_57 rfl ?_
    refine x_aload_n dX8_whoByLaw_58 rfl ?_
    refine x_iload_n dX8_whoByLaw_59 rfl ?_
    refine (show X _ _ 60 _ _ _ _ _ _ from ?_)
    refine x_callV (As := [_]) (mc := 0) (ms := 0) (z := mX8_fewestTurns) (ci := 8) dX8_whoByLaw_60 lX8_122 oX8_fewestTurns (by decide) (by first | assumption | exact (hPR _ (by omega)).2) rfl rfl (Nat.le_of_ble_eq_true rfl) (Nat.le_of_ble_eq_true rfl) rfl (hfw) (k_I ?_)
    refine (show X _ _ 63 _ _ _ _ _ _ from ?_)
    refine y_iconst dX8_whoByLaw_63 ?_
    refine (show X _ _ 64 _ _ _ _ _ _ from ?_)
    refine x_callV (As := [_, _]) (mc := 0) (ms := 0) (z := mX8_byAge) (ci := 8) dX8_whoByLaw_64 lX8_125 oX8_byAge (by decide) (by first | assumption | exact (hPR _ (by omega)).2) rfl rfl (Nat.le_of_ble_eq_true rfl) (Nat.le_of_ble_eq_true rfl) rfl (hba (-1) (Or.inr rfl)) (k_I ?_)
    refine (show X _ _ 67 _ _ _ _ _ _ from ?_)
    exact x_ireturn dX8_whoByLaw_67 rfl ⟨rfl, rfl⟩
  · refine y_tsIn 68 dX8_whoByLaw_10 ⟨by omega, by omega⟩ (by omega) (by omega) rfl (by decide) ?_
    rw [if_neg (by decide), if_neg (by decide), if_neg (by decide), if_pos rfl, if_pos rfl]
    refine x_aload_n dX8_whoByLaw_68 rfl ?_
    refine x_aload_n dX8_whoByLaw_69 rfl ?_
    refine x_iload_n dX8_whoByLaw_70 rfl ?_
    refine (show X _ _ 71 _ _ _ _ _ _ from ?_)
    refine x_callV (As := [_]) (mc := 0) (ms := 0) (z := mX8_fewestTurns) (ci := 8) dX8_whoByLaw_71 lX8_122 oX8_fewestTurns (by decide) (by first | assumption | exact (hPR _ (by omega)).2) rfl rfl (Nat.le_of_ble_eq_true rfl) (Nat.le_of_ble_eq_true rfl) rfl (hfw) (k_I ?_)
    refine (show X _ _ 74 _ _ _ _ _ _ from ?_)
    refine x_callV (As := [_]) (mc := 0) (ms := 0) (z := mX8_drawn) (ci := 8) dX8_whoByLaw_74 lX8_128 oX8_drawn (by decide) (by first | assumption | exact (hPR _ (by omega)).2) rfl rfl (Nat.le_of_ble_eq_true rfl) (Nat.le_of_ble_eq_true rfl) rfl (hdr) (k_I ?_)
    refine (show X _ _ 77 _ _ _ _ _ _ from ?_)
    exact x_ireturn dX8_whoByLaw_77 rfl ⟨rfl, rfl⟩
  · refine y_tsOut 78 dX8_whoByLaw_10 ⟨by omega, by omega⟩ (by omega) (by decide) ?_
    rw [if_neg (by decide), if_neg (by decide), if_neg (by decide), if_neg (by decide), if_neg (by decide)]
    refine x_aload_n dX8_whoByLaw_78 rfl ?_
    refine x_iload_n dX8_whoByLaw_79 rfl ?_
    refine x_iload_n dX8_whoByLaw_80 rfl ?_
    refine (show X _ _ 81 _ _ _ _ _ _ from ?_)
    refine x_callV (As := [_, _]) (mc := 0) (ms := 0) (z := mX8_voted) (ci := 8) dX8_whoByLaw_81 lX8_131 oX8_voted (by decide) (by first | assumption | exact (hPR _ (by omega)).2) rfl rfl (Nat.le_of_ble_eq_true rfl) (Nat.le_of_ble_eq_true rfl) rfl (hvt) (k_I ?_)
    refine (show X _ _ 84 _ _ _ _ _ _ from ?_)
    exact x_ireturn dX8_whoByLaw_84 rfl ⟨rfl, rfl⟩
theorem c_passYear {y : Nat} (hr : RS T R r w) (hw : WS T R w f nw al) (hC : WC V f nw al A B) (hap : AP r w f nw al) (hy : y < fY A) (hk : ROk A W y) : X g mX8_passYear 0 [.ref r, .int (iI (y : Int)), jk] [] (T, iV (pB V r 5 W), R, J, z) k n (rV (T, iV (pB V r 5 (passY A B W y)), R, J, z)) := by
  have hA := hC.2.2.2.1
  have hB := hC.2.2.2.2
  have eP := fP10 hA
  have eY := fY24 hA
  have hcm := rComes_b (B := B) hk (by omega)
  have hlv := byLawV_b (B := B) hk hA
  have hyb := yrWho_b (B := B) hk hA
  have hkk := hk
  obtain ⟨k1, k2, k3, k4, k5, k6, k7, k8, k9, k10⟩ := hk
  have hcl : rCn A B W y < 1024 := andn_lt (cnS_lt hA y)
  have hwc := c_whoComes (g := g) (J := J) (z := z) (k := 0) (n := 0) hr hw hC hap k5 ⟨by omega, by omega⟩ k10 hy
  have hbl := c_whoByLaw (g := g) (J := J) (z := z) (k := 0) (n := 0) hr hw hC hap hy hkk
  have el5 : byLawW A B W y 0 5 = W 0 5 := lawW_row 0 5 (by decide)
  have hcn := c_whoCan (g := g) (J := J) (z := z) (k := 0) (n := 0) (W := byLawW A B W y) (y := y) hr hw hC hap (by rw [el5]; exact k5) hy
  have ecn : rCn A B (byLawW A B W y) y = rCn A B W y := by show andn _ (byLawW A B W y 0 5).toNat = _; rw [el5]
  rw [ecn] at hcn
  have hip := c_inPlaceOf (g := g) (V := V) (J := J) (z := z) (k := 0) (n := 0) (W := byLawW A B W y) (can := rCn A B W y) (who := byLawV A B W y) hr hcl ⟨by omega, by omega⟩ (by rw [lawW_row 0 3 (by decide)]; exact k3) (by rw [lawW_row 0 4 (by decide)]; exact k4)
  have ey5 : yrW A B W y 0 5 = W 0 5 := yrW_row 0 5 (by decide)
  have hsd := c_soldTo (g := g) (J := J) (z := z) (k := 0) (n := 0) (W := yrW A B W y) (who := yrWho A B W y) hr hw hC hap (by rw [ey5]; exact k5) hy hyb
  have eyn : rCn A B (yrW A B W y) y = rCn A B W y := by show andn _ (yrW A B W y 0 5).toNat = _; rw [ey5]
  rw [eyn] at hsd
  have hsb := sold_b (y := y) (can := rCn A B W y) (who := yrWho A B W y) (W := yrW A B W y) hA hB hyb
  have es : ∀ a, a ≠ 3 → (sold A B y (rCn A B W y) (yrWho A B W y) (yrW A B W y)).2 a = yrW A B W y a := fun a h => sold_row a h
  have htt := c_takeTurn (g := g) (J := J) (z := z) (k := 0) (n := 0) (W := (sold A B y (rCn A B W y) (yrWho A B W y) (yrW A B W y)).2) (who := (sold A B y (rCn A B W y) (yrWho A B W y) (yrW A B W y)).1) hr hw hC hap hy hsb (by rw [es 0 (by decide), yrW_row 0 6 (by decide)]; exact ⟨by omega, by omega⟩) (by rw [es 0 (by decide), ey5]; exact k5) (fun p hp => by rw [es 2 (by decide), yrW_row 2 p (by omega)]; have := k9 p hp; exact ⟨by omega, by omega⟩)
  obtain ⟨⟨r0, r1⟩, -⟩ := hr
  have hPR : True := trivial
  have fin : X g mX8_passYear 27 [.ref r, .int (iI (y : Int)), .int (iI (yrWho A B W y))] [] (T, iV (pB V r 5 (yrW A B W y)), R, J, z) k n (rV (T, iV (pB V r 5 (passY A B W y)), R, J, z)) := by
    refine x_aload_n dX8_passYear_27 rfl ?_
    refine x_iload_n dX8_passYear_28 rfl ?_
    refine x_aload_n dX8_passYear_29 rfl ?_
    refine x_iload_n dX8_passYear_30 rfl ?_
    refine x_iload_n dX8_passYear_31 rfl ?_
    refine (show X _ _ 32 _ _ _ _ _ _ from ?_)
    refine x_callV (As := [_, _]) (mc := 0) (ms := 0) (z := mX8_soldTo) (ci := 8) dX8_passYear_32 lX8_96 oX8_soldTo (by decide) (by first | assumption | exact (hPR _ (by omega)).2) rfl rfl (Nat.le_of_ble_eq_true rfl) (Nat.le_of_ble_eq_true rfl) rfl (hsd) (k_I ?_)
    refine (show X _ _ 35 _ _ _ _ _ _ from ?_)
    refine x_callV (As := [_, _]) (mc := 0) (ms := 0) (z := mX8_takeTurn) (ci := 8) dX8_passYear_35 lX8_99 oX8_takeTurn (by decide) (by first | assumption | exact (hPR _ (by omega)).2) rfl rfl (Nat.le_of_ble_eq_true rfl) (Nat.le_of_ble_eq_true rfl) rfl (htt) (k_V ?_)
    refine (show X _ _ 38 _ _ _ _ _ _ from ?_)
    exact x_return dX8_passYear_38 rfl ⟨rfl, rfl⟩
  refine x_aload_n dX8_passYear_0 rfl ?_
  refine x_iload_n dX8_passYear_1 rfl ?_
  refine (show X _ _ 2 _ _ _ _ _ _ from ?_)
  refine x_callV (As := [_]) (mc := 0) (ms := 0) (z := mX8_whoComes) (ci := 8) dX8_passYear_2 lX8_82 oX8_whoComes (by decide) (by first | assumption | exact (hPR _ (by omega)).2) rfl rfl (Nat.le_of_ble_eq_true rfl) (Nat.le_of_ble_eq_true rfl) rfl (hwc) (k_I ?_)
  refine (show X _ _ 5 _ _ _ _ _ _ from ?_)
  refine x_istore_n dX8_passYear_5 (by decide) rfl rfl ?_
  refine x_iload_n dX8_passYear_6 rfl ?_
  refine y_bipush dX8_passYear_7 rfl ?_
  refine (show X _ _ 9 _ _ _ _ _ _ from ?_)
  refine y_icmp_ne 27 dX8_passYear_9 (by decide) ⟨by omega, by omega⟩ ⟨by omega, by omega⟩ (fun h1 => ?_) (fun h1 => ?_)
  · have e1 : yrWho A B W y = rComes A B W y := if_neg h1
    have e2 : yrW A B W y = W := if_neg h1
    rw [e1, e2] at fin
    exact fin
  · have e1 : yrWho A B W y = inPl (byLawW A B W y) (rCn A B W y) (byLawV A B W y) := if_pos h1
    have e2 : yrW A B W y = byLawW A B W y := if_pos h1
    rw [e1, e2] at fin
    refine x_aload_n dX8_passYear_12 rfl ?_
    refine x_aload_n dX8_passYear_13 rfl ?_
    refine x_iload_n dX8_passYear_14 rfl ?_
    refine (show X _ _ 15 _ _ _ _ _ _ from ?_)
    refine x_callV (As := [_]) (mc := 0) (ms := 0) (z := mX8_whoByLaw) (ci := 8) dX8_passYear_15 lX8_86 oX8_whoByLaw (by decide) (by first | assumption | exact (hPR _ (by omega)).2) rfl rfl (Nat.le_of_ble_eq_true rfl) (Nat.le_of_ble_eq_true rfl) rfl (hbl) (k_I ?_)
    refine (show X _ _ 18 _ _ _ _ _ _ from ?_)
    refine x_aload_n dX8_passYear_18 rfl ?_
    refine x_iload_n dX8_passYear_19 rfl ?_
    refine (show X _ _ 20 _ _ _ _ _ _ from ?_)
    refine x_callV (As := [_]) (mc := 0) (ms := 0) (z := mX8_whoCan) (ci := 8) dX8_passYear_20 lX8_89 oX8_whoCan (by decide) (by first | assumption | exact (hPR _ (by omega)).2) rfl rfl (Nat.le_of_ble_eq_true rfl) (Nat.le_of_ble_eq_true rfl) rfl (hcn) (k_I ?_)
    refine (show X _ _ 23 _ _ _ _ _ _ from ?_)
    refine x_callV (As := [_, _]) (mc := 0) (ms := 0) (z := mX8_inPlaceOf) (ci := 8) dX8_passYear_23 lX8_92 oX8_inPlaceOf (by decide) (by first | assumption | exact (hPR _ (by omega)).2) rfl rfl (Nat.le_of_ble_eq_true rfl) (Nat.le_of_ble_eq_true rfl) rfl (hip) (k_I ?_)
    refine (show X _ _ 26 _ _ _ _ _ _ from ?_)
    refine x_istore_n dX8_passYear_26 (by decide) rfl rfl ?_
    refine (show X _ _ 27 _ _ _ _ _ _ from ?_)
    exact fin
end C7
