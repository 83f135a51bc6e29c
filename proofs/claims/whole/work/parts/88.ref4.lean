/-! ===== the reference's run: by law, traded, bought ===== -/
section C88
variable {g : GG} {T : Nat → Nat × Nat} {V E A B W : Nat → Nat → Int} {R : Nat → Nat → Option Nat} {J : Nat → Nat → Int64} {z k n : Nat} {r f : Nat}
theorem c_lawful {y : Nat} (hM : MSh T R r) (hf : R r 3 = some f) (hG : FMS T R f) (hF : FMC V f A) (hA : VA A) (hap : apF f r) (hW : ∀ p, p < fP A → E 15 p = W 1 p) (hWb : ∀ p, p < fP A → 0 ≤ W 1 p ∧ W 1 p ≤ 24) (hy : y < 24) (hc : E 7 y = (rCn A B W y : Int)) (ht : E 6 y = (rTh A B W y : Int)) (hs : E 0 39 = W 0 2) (hsb : 0 ≤ W 0 2 ∧ W 0 2 ≤ 65536) (hl : E 0 40 = W 0 1) (hlb : 0 ≤ W 0 1 ∧ W 0 1 ≤ 4) (hla : E 0 45 = if W 0 7 = -1 then -2 else W 0 7) (hlab : -1 ≤ W 0 7 ∧ W 0 7 < A 0 3) (hne : rCn A B W y ≠ 0) : (0 ≤ byLawV A B W y ∧ byLawV A B W y < A 0 3) ∧ X g mX12_lawful 0 [.ref r, .int (iI (y : Int)), jk] [] (T, iV (pB V r 24 E), R, J, z) k n (rI (iI (byLawV A B W y)) (T, iV (pB V r 24 (u2 E 0 39 (byLawW A B W y 0 2))), R, J, z)) := by
  have eP := fP10 hA
  have hA3 := hA.2.2.2.1
  have hcl : rCn A B W y < 1024 := andn_lt (cnS_lt hA y)
  have hex : ∃ p, p < fP A ∧ (rCn A B W y).testBit p = true := by
    refine Classical.byContradiction fun c => hne ?_
    apply Nat.eq_of_testBit_eq
    intro i
    rw [Nat.zero_testBit]
    cases hb : (rCn A B W y).testBit i
    · rfl
    · exact absurd ⟨i, rCn_bit hb, hb⟩ c
  have hcb : ∀ p, p < fP A → cnt A W p < 1000000000 := by
    intro p hp
    have := hWb p hp
    unfold cnt
    split <;> omega
  have hEs : u2 E 0 39 (W 0 2) = E := by
    funext b
    by_cases e : b = 0
    · subst e
      rw [u2_s]
      funext j
      by_cases e2 : j = 39
      · rw [e2, u1_s, hs]
      · rw [u1_n e2]
    · rw [u2_n e]
  have hfm := fun yb => c_foremost (g := g) (J := J) (z := z) (k := 0) (n := 0) (E := E) (W := W) (set := rCn A B W y) (y := y) (yb := yb) hM hf hG hF hA hap hW hWb hcl (by omega)
  have hvt := c_votedM (g := g) (J := J) (z := z) (k := 0) (n := 0) (B := B) hM hf hG hF hA hap hW hWb hy hc hcl ht rfl
  have hdr := c_drawnOf (g := g) (J := J) (z := z) (k := 0) (n := 0) hM hf hG hF hA hap hW hWb hy hc hcl hs hsb hex
  have fmp := fun sg => fm_some (A := A) (W := W) (set := rCn A B W y) (sg := sg) hex
  have bt := fun p hp => c_bit g (rCn A B W y) p (T, iV (pB V r 24 E), R, J, z) 0 0 (by omega) hp
  obtain ⟨m0, ⟨-, -, -, -, -, -, m22, -, -, -, -, -, -, -, -, -, -, -, -, -, -, -, -⟩, ⟨-, -, -, -, -, -, mk7, -, -, -, -, -, -, -, -, -, -, -, -, -, -, -, -⟩⟩ := id hM
  obtain ⟨g0, -, -⟩ := id hG
  have e3 := hF.1 3 (by decide)
  unfold apF at hap
  unfold byLawV byLawW
  by_cases h0 : W 0 1 = 0
  · rw [if_pos h0, if_neg (by omega), hEs]
    unfold rRound
    generalize hs0 : (W 0 7 + 1).toNat = s at *
    have hsP : s ≤ fP A := by omega
    generalize hcn : rCn A B W y = can at *
    generalize hR : (if fiF can (fP A - s) s < 0 then fiF can s 0 else fiF can (fP A - s) s) = Rr
    have hRr : 0 ≤ Rr ∧ Rr < A 0 3 := by
      rw [← hR]
      have b1 := fiF_b can (fP A - s) s
      have b2 := fiF_b can s 0
      split
      · rename_i hlt
        rcases b2 with b2 | b2
        · exfalso
          obtain ⟨p, hp, hpb⟩ := hex
          by_cases e : p < s
          · rw [fiF_n can s 0 b2 p (by omega) (by omega)] at hpb; cases hpb
          · rw [fiF_n can (fP A - s) s (by omega) p (by omega) (by omega)] at hpb; cases hpb
        · omega
      · omega
    refine ⟨hRr, ?_⟩
    have ph2 : ∀ (d p : Nat), p + d = s → fiF can d p = Rr → X g mX12_lawful 35 [.ref r, .int (iI (y : Int)), .int (iI (p : Int))] [] (T, iV (pB V r 24 E), R, J, z) k n (rI (iI Rr) (T, iV (pB V r 24 E), R, J, z)) := by
      intro d
      induction d with
      | zero =>
        intro p hp hn
        rw [fiF] at hn
        omega
      | succ d ih =>
        intro p hp hn
        rw [fiF] at hn
        refine x_aload_n dX12_lawful_35 rfl ?_
        refine x_gr dX12_lawful_36 fX12_33 (by first | assumption) (fun _ _ _ => rfl) (by first | assumption) ?_
        refine x_iload_n dX12_lawful_39 rfl ?_
        refine b_iald (r := r) (m := 24) (j := 7) (y) dX12_lawful_40 (by first | assumption) (by first | rfl | omega) (by omega) (by decide) (by decide) ?_
        refine (show X _ _ 41 _ _ _ _ _ _ from ?_)
        refine X.val hc ?_
        refine x_iload_n dX12_lawful_41 rfl ?_
        refine (show X _ _ 42 _ _ _ _ _ _ from ?_)
        refine x_callS (As := [_, _]) (mc := 0) (ms := 0) (z := mX12_bit) dX12_lawful_42 lX12_386 oX12_bit (by decide) rfl (Nat.le_of_ble_eq_true rfl) (Nat.le_of_ble_eq_true rfl) rfl (bt p (by omega)) (k_I ?_)
        refine (show X _ _ 45 _ _ _ _ _ _ from ?_)
        refine y_ifb_ne 63 dX12_lawful_45 (by decide) (fun h1 => ?_) (fun h1 => ?_)
        · rw [h1, if_pos rfl] at hn
          rw [← hn]
          refine x_iload_n dX12_lawful_63 rfl ?_
          refine (show X _ _ 64 _ _ _ _ _ _ from ?_)
          exact x_ireturn dX12_lawful_64 rfl ⟨rfl, rfl⟩
        · rw [h1, if_neg (by decide)] at hn
          have hd0 : d ≠ 0 := fun c => by rw [c, fiF] at hn; omega
          refine x_iload_n dX12_lawful_48 rfl ?_
          refine y_iconst dX12_lawful_49 ?_
          refine y_iadd dX12_lawful_50 ?_
          refine x_aload_n dX12_lawful_51 rfl ?_
          refine x_gr dX12_lawful_52 fX12_409 (by first | assumption) (fun _ _ _ => rfl) (by first | assumption) ?_
          refine b_gio (r := r) (m := 24) dX12_lawful_55 fX12_230 (by first | assumption) (fun _ _ _ => rfl) (by omega) ?_
          refine (show X _ _ 58 _ _ _ _ _ _ from ?_)
          refine X.val e3 ?_
          refine y_irem dX12_lawful_58 ⟨by omega, by omega⟩ ⟨by omega, by omega⟩ (by omega) (by omega) ?_
          refine (show X _ _ 59 _ _ _ _ _ _ from ?_)
          rw [Int.emod_eq_of_lt (by omega) (by omega)]
          refine x_istore_n dX12_lawful_59 (by decide) rfl rfl ?_
          refine x_goto 35 dX12_lawful_60 (by decide) ?_
          refine (show X _ _ 35 _ _ _ _ _ _ from ?_)
          exact ih (p + 1) (by omega) hn
    have ph1 : ∀ (d p : Nat), p + d = fP A → (if fiF can d p < 0 then fiF can s 0 else fiF can d p) = Rr → s ≤ p → 0 < d → X g mX12_lawful 35 [.ref r, .int (iI (y : Int)), .int (iI (p : Int))] [] (T, iV (pB V r 24 E), R, J, z) k n (rI (iI Rr) (T, iV (pB V r 24 E), R, J, z)) := by
      intro d
      induction d with
      | zero =>
        intro p hp hn hsp hd
        omega
      | succ d ih =>
        intro p hp hn hsp hd
        rw [fiF] at hn
        refine x_aload_n dX12_lawful_35 rfl ?_
        refine x_gr dX12_lawful_36 fX12_33 (by first | assumption) (fun _ _ _ => rfl) (by first | assumption) ?_
        refine x_iload_n dX12_lawful_39 rfl ?_
        refine b_iald (r := r) (m := 24) (j := 7) (y) dX12_lawful_40 (by first | assumption) (by first | rfl | omega) (by omega) (by decide) (by decide) ?_
        refine (show X _ _ 41 _ _ _ _ _ _ from ?_)
        refine X.val hc ?_
        refine x_iload_n dX12_lawful_41 rfl ?_
        refine (show X _ _ 42 _ _ _ _ _ _ from ?_)
        refine x_callS (As := [_, _]) (mc := 0) (ms := 0) (z := mX12_bit) dX12_lawful_42 lX12_386 oX12_bit (by decide) rfl (Nat.le_of_ble_eq_true rfl) (Nat.le_of_ble_eq_true rfl) rfl (bt p (by omega)) (k_I ?_)
        refine (show X _ _ 45 _ _ _ _ _ _ from ?_)
        refine y_ifb_ne 63 dX12_lawful_45 (by decide) (fun h1 => ?_) (fun h1 => ?_)
        · rw [h1, if_pos rfl, if_neg (by omega)] at hn
          rw [← hn]
          refine x_iload_n dX12_lawful_63 rfl ?_
          refine (show X _ _ 64 _ _ _ _ _ _ from ?_)
          exact x_ireturn dX12_lawful_64 rfl ⟨rfl, rfl⟩
        · rw [show (if can.testBit p = true then (p : Int) else fiF can d (p + 1)) = fiF can d (p + 1) by rw [h1]; rfl] at hn
          refine x_iload_n dX12_lawful_48 rfl ?_
          refine y_iconst dX12_lawful_49 ?_
          refine y_iadd dX12_lawful_50 ?_
          refine x_aload_n dX12_lawful_51 rfl ?_
          refine x_gr dX12_lawful_52 fX12_409 (by first | assumption) (fun _ _ _ => rfl) (by first | assumption) ?_
          refine b_gio (r := r) (m := 24) dX12_lawful_55 fX12_230 (by first | assumption) (fun _ _ _ => rfl) (by omega) ?_
          refine (show X _ _ 58 _ _ _ _ _ _ from ?_)
          refine X.val e3 ?_
          refine y_irem dX12_lawful_58 ⟨by omega, by omega⟩ ⟨by omega, by omega⟩ (by omega) (by omega) ?_
          refine (show X _ _ 59 _ _ _ _ _ _ from ?_)
          by_cases hd0 : d = 0
          · subst hd0
            rw [fiF, if_pos (by decide)] at hn
            rw [show ((p : Int) + 1) % A 0 3 = 0 by rw [show (p : Int) + 1 = A 0 3 by omega, Int.emod_self]]
            refine x_istore_n dX12_lawful_59 (by decide) rfl rfl ?_
            refine x_goto 35 dX12_lawful_60 (by decide) ?_
            refine (show X _ _ 35 _ _ _ _ _ _ from ?_)
            exact ph2 s 0 (by omega) hn
          · rw [Int.emod_eq_of_lt (by omega) (by omega)]
            refine x_istore_n dX12_lawful_59 (by decide) rfl rfl ?_
            refine x_goto 35 dX12_lawful_60 (by decide) ?_
            refine (show X _ _ 35 _ _ _ _ _ _ from ?_)
            exact ih (p + 1) (by omega) hn (by omega) (by omega)
    refine x_aload_n dX12_lawful_0 rfl ?_
    refine b_gi0 (r := r) (m := 24) dX12_lawful_1 fX12_430 (by first | assumption) (fun _ _ _ => rfl) (by decide) ?_
    refine (show X _ _ 4 _ _ _ _ _ _ from ?_)
    refine X.val hl ?_
    refine y_if_ne 65 dX12_lawful_4 (by decide) ⟨by omega, by omega⟩ (fun h1 => ?_) (fun h1 => ?_)
    · exact absurd h0 h1
    refine x_aload_n dX12_lawful_7 rfl ?_
    refine b_gi0 (r := r) (m := 24) dX12_lawful_8 fX12_443 (by first | assumption) (fun _ _ _ => rfl) (by decide) ?_
    refine (show X _ _ 11 _ _ _ _ _ _ from ?_)
    refine X.val hla ?_
    by_cases h7 : W 0 7 = -1
    · rw [if_pos h7]
      have es : s = 0 := by omega
      refine y_bipush dX12_lawful_11 rfl ?_
      refine (show X _ _ 13 _ _ _ _ _ _ from ?_)
      refine y_icmp_ne 20 dX12_lawful_13 (by decide) ⟨by omega, by omega⟩ ⟨by omega, by omega⟩ (fun h2 => ?_) (fun h2 => ?_)
      · exact absurd rfl h2
      refine y_iconst dX12_lawful_16 ?_
      refine x_goto 34 dX12_lawful_17 (by decide) ?_
      refine x_istore_n dX12_lawful_34 (by decide) rfl rfl ?_
      refine (show X _ _ 35 _ _ _ _ _ _ from ?_)
      exact ph1 (fP A) 0 (by omega) (by rw [← hR, es]; rfl) (by omega) (by obtain ⟨p, hp, -⟩ := hex; omega)
    · rw [if_neg h7]
      rw [if_neg h7] at hla
      refine y_bipush dX12_lawful_11 rfl ?_
      refine (show X _ _ 13 _ _ _ _ _ _ from ?_)
      refine y_icmp_ne 20 dX12_lawful_13 (by decide) ⟨by omega, by omega⟩ ⟨by omega, by omega⟩ (fun h2 => ?_) (fun h2 => ?_)
      rotate_left
      · omega
      refine x_aload_n dX12_lawful_20 rfl ?_
      refine b_gi0 (r := r) (m := 24) dX12_lawful_21 fX12_443 (by first | assumption) (fun _ _ _ => rfl) (by decide) ?_
      refine (show X _ _ 24 _ _ _ _ _ _ from ?_)
      refine X.val hla ?_
      refine y_iconst dX12_lawful_24 ?_
      refine y_iadd dX12_lawful_25 ?_
      refine x_aload_n dX12_lawful_26 rfl ?_
      refine x_gr dX12_lawful_27 fX12_409 (by first | assumption) (fun _ _ _ => rfl) (by first | assumption) ?_
      refine b_gio (r := r) (m := 24) dX12_lawful_30 fX12_230 (by first | assumption) (fun _ _ _ => rfl) (by omega) ?_
      refine (show X _ _ 33 _ _ _ _ _ _ from ?_)
      refine X.val e3 ?_
      refine y_irem dX12_lawful_33 ⟨by omega, by omega⟩ ⟨by omega, by omega⟩ (by omega) (by omega) ?_
      refine (show X _ _ 34 _ _ _ _ _ _ from ?_)
      by_cases hsp : s = fP A
      · rw [show (W 0 7 + 1) % A 0 3 = 0 by rw [show W 0 7 + 1 = A 0 3 by omega, Int.emod_self]]
        refine x_istore_n dX12_lawful_34 (by decide) rfl rfl ?_
        refine (show X _ _ 35 _ _ _ _ _ _ from ?_)
        refine ph2 s 0 (by omega) ?_
        rw [← hR, hsp, Nat.sub_self, fiF, if_pos (by decide)]
      · rw [Int.emod_eq_of_lt (by omega) (by omega), show W 0 7 + 1 = (s : Int) by omega]
        refine x_istore_n dX12_lawful_34 (by decide) rfl rfl ?_
        refine (show X _ _ 35 _ _ _ _ _ _ from ?_)
        exact ph1 (fP A - s) s (by omega) hR (by omega) (by omega)
  rw [if_neg h0]
  have w0 : X g mX12_lawful 65 [.ref r, .int (iI (y : Int)), jk] [] (T, iV (pB V r 24 E), R, J, z) k n (rI (iI (if W 0 1 = 1 then byAge A (fewest A W (rCn A B W y)) 1 else if W 0 1 = 2 then byAge A (fewest A W (rCn A B W y)) (-1) else if W 0 1 = 3 then drawn A W (fewest A W (rCn A B W y)) else voted A B W y (rCn A B W y))) (T, iV (pB V r 24 (u2 E 0 39 ((if W 0 1 = 3 then drawnW W (fewest A W (rCn A B W y)) else W) 0 2))), R, J, z)) := by
    by_cases h4 : W 0 1 = 4
    · rw [if_neg (by omega), if_neg (by omega), if_neg (by omega), if_neg (by omega), hEs]
      refine x_aload_n dX12_lawful_65 rfl ?_
      refine b_gi0 (r := r) (m := 24) dX12_lawful_66 fX12_430 (by first | assumption) (fun _ _ _ => rfl) (by decide) ?_
      refine (show X _ _ 69 _ _ _ _ _ _ from ?_)
      refine X.val hl ?_
      refine y_iconst dX12_lawful_69 ?_
      refine (show X _ _ 70 _ _ _ _ _ _ from ?_)
      refine y_icmp_ne 79 dX12_lawful_70 (by decide) ⟨by omega, by omega⟩ ⟨by omega, by omega⟩ (fun h1 => ?_) (fun h1 => ?_)
      · exact absurd h4 h1
      refine x_aload_n dX12_lawful_73 rfl ?_
      refine x_iload_n dX12_lawful_74 rfl ?_
      refine (show X _ _ 75 _ _ _ _ _ _ from ?_)
      refine x_callV (As := [_]) (mc := 0) (ms := 0) (z := mX12_voted) (ci := 12) dX12_lawful_75 lX12_485 oX12_voted (by decide) (by first | assumption) rfl rfl (Nat.le_of_ble_eq_true rfl) (Nat.le_of_ble_eq_true rfl) rfl (hvt) (k_I ?_)
      refine (show X _ _ 78 _ _ _ _ _ _ from ?_)
      exact x_ireturn dX12_lawful_78 rfl ⟨rfl, rfl⟩
    refine x_aload_n dX12_lawful_65 rfl ?_
    refine b_gi0 (r := r) (m := 24) dX12_lawful_66 fX12_430 (by first | assumption) (fun _ _ _ => rfl) (by decide) ?_
    refine (show X _ _ 69 _ _ _ _ _ _ from ?_)
    refine X.val hl ?_
    refine y_iconst dX12_lawful_69 ?_
    refine (show X _ _ 70 _ _ _ _ _ _ from ?_)
    refine y_icmp_ne 79 dX12_lawful_70 (by decide) ⟨by omega, by omega⟩ ⟨by omega, by omega⟩ (fun h1 => ?_) (fun h1 => ?_)
    rotate_left
    · exact absurd h1 h4
    refine x_aload_n dX12_lawful_79 rfl ?_
    refine b_gi0 (r := r) (m := 24) dX12_lawful_80 fX12_430 (by first | assumption) (fun _ _ _ => rfl) (by decide) ?_
    refine (show X _ _ 83 _ _ _ _ _ _ from ?_)
    refine X.val hl ?_
    refine y_iconst dX12_lawful_83 ?_
    refine (show X _ _ 84 _ _ _ _ _ _ from ?_)
    refine y_icmp_ne 93 dX12_lawful_84 (by decide) ⟨by omega, by omega⟩ ⟨by omega, by omega⟩ (fun h2 => ?_) (fun h2 => ?_)
    rotate_left
    · rw [if_neg (by omega), if_neg (by omega), if_pos h2, if_pos h2]
      obtain ⟨-, d2, d3⟩ := hdr
      have ed : drawnW W (fewest A W (rCn A B W y)) 0 2 = dSeed W := by unfold drawnW; rw [if_neg d2, u2_s, u1_s]
      rw [ed]
      refine x_aload_n dX12_lawful_87 rfl ?_
      refine x_iload_n dX12_lawful_88 rfl ?_
      refine (show X _ _ 89 _ _ _ _ _ _ from ?_)
      refine x_callV (As := [_]) (mc := 0) (ms := 0) (z := mX12_drawnOf) (ci := 12) dX12_lawful_89 lX12_488 oX12_drawnOf (by decide) (by first | assumption) rfl rfl (Nat.le_of_ble_eq_true rfl) (Nat.le_of_ble_eq_true rfl) rfl (d3) (k_I ?_)
      refine (show X _ _ 92 _ _ _ _ _ _ from ?_)
      exact x_ireturn dX12_lawful_92 rfl ⟨rfl, rfl⟩
    rw [if_neg h2, if_neg h2, hEs]
    refine x_aload_n dX12_lawful_93 rfl ?_
    refine x_aload_n dX12_lawful_94 rfl ?_
    refine x_gr dX12_lawful_95 fX12_33 (by first | assumption) (fun _ _ _ => rfl) (by first | assumption) ?_
    refine x_iload_n dX12_lawful_98 rfl ?_
    refine b_iald (r := r) (m := 24) (j := 7) (y) dX12_lawful_99 (by first | assumption) (by first | rfl | omega) (by omega) (by decide) (by decide) ?_
    refine (show X _ _ 100 _ _ _ _ _ _ from ?_)
    refine X.val hc ?_
    refine x_iload_n dX12_lawful_100 rfl ?_
    refine x_aload_n dX12_lawful_101 rfl ?_
    refine b_gi0 (r := r) (m := 24) dX12_lawful_102 fX12_430 (by first | assumption) (fun _ _ _ => rfl) (by decide) ?_
    refine (show X _ _ 105 _ _ _ _ _ _ from ?_)
    refine X.val hl ?_
    refine y_iconst dX12_lawful_105 ?_
    refine (show X _ _ 106 _ _ _ _ _ _ from ?_)
    refine y_icmp_ne 113 dX12_lawful_106 (by decide) ⟨by omega, by omega⟩ ⟨by omega, by omega⟩ (fun h3 => ?_) (fun h3 => ?_)
    · rw [if_pos (by omega)]
      have hf1 := hfm false
      rw [if_neg (by decide), fm_by hA hcb (Or.inl rfl)] at hf1
      refine y_iconst dX12_lawful_113 ?_
      refine (show X _ _ 114 _ _ _ _ _ _ from ?_)
      refine X.val (b := bI false) rfl ?_
      refine x_callV (As := [_, _, _]) (mc := 0) (ms := 0) (z := mX12_foremost) (ci := 12) dX12_lawful_114 lX12_491 oX12_foremost (by decide) (by first | assumption) rfl rfl (Nat.le_of_ble_eq_true rfl) (Nat.le_of_ble_eq_true rfl) rfl (hf1) (k_I ?_)
      refine (show X _ _ 117 _ _ _ _ _ _ from ?_)
      exact x_ireturn dX12_lawful_117 rfl ⟨rfl, rfl⟩
    · rw [if_neg (by omega), if_pos h3]
      have hf1 := hfm true
      rw [if_pos rfl, fm_by hA hcb (Or.inr rfl)] at hf1
      refine y_iconst dX12_lawful_109 ?_
      refine x_goto 114 dX12_lawful_110 (by decide) ?_
      refine (show X _ _ 114 _ _ _ _ _ _ from ?_)
      refine X.val (b := bI true) rfl ?_
      refine x_callV (As := [_, _, _]) (mc := 0) (ms := 0) (z := mX12_foremost) (ci := 12) dX12_lawful_114 lX12_491 oX12_foremost (by decide) (by first | assumption) rfl rfl (Nat.le_of_ble_eq_true rfl) (Nat.le_of_ble_eq_true rfl) rfl (hf1) (k_I ?_)
      refine (show X _ _ 117 _ _ _ _ _ _ from ?_)
      exact x_ireturn dX12_lawful_117 rfl ⟨rfl, rfl⟩
  refine ⟨?_, ?_⟩
  · split
    · obtain ⟨q, e, hq, -⟩ := fmp 1
      rw [← fm_by hA hcb (Or.inl rfl), e]; omega
    split
    · obtain ⟨q, e, hq, -⟩ := fmp (-1)
      rw [← fm_by hA hcb (Or.inr rfl), e]; omega
    split
    · refine ⟨hdr.1, ?_⟩
      have := byLawV_b (A := A) (B := B) (W := u2 W 0 1 3) (y := 0)
      unfold drawn
      rw [if_neg hdr.2.1]
      have hb := nthF_b (fewest A W (rCn A B W y)) (fP A) 0 (dSeed W % popc (fewest A W (rCn A B W y)))
      omega
    · have hq : ∀ b : Int, fmL A W (rCn A B W y &&& brS A b) 1 (fP A) = byAge A (fewest A W (rCn A B W y &&& brS A b)) 1 := fun b => fm_by hA hcb (Or.inl rfl)
      obtain ⟨p, hp, hpb⟩ := hex
      have hb2 := (hA.2.2.2.2.2.2.2.2.2.1 p hp).2.1
      have some1 : ∀ b, A 2 p = b → 0 ≤ byAge A (fewest A W (rCn A B W y &&& brS A b)) 1 := by
        intro b hb
        rw [← hq b]
        obtain ⟨q, e, hq, -⟩ := fm_some (A := A) (W := W) (set := rCn A B W y &&& brS A b) (sg := 1) ⟨p, hp, by rw [Nat.testBit_and, hpb]; unfold brS; rw [sOf_bit, decide_eq_true hp, decide_eq_true hb]; rfl⟩
        rw [e]; omega
      have bd : ∀ b, byAge A (fewest A W (rCn A B W y &&& brS A b)) 1 < A 0 3 := fun b => (byAge_b hA (Or.inl rfl)).2
      have b0 := bd 0
      have b1 := bd 1
      unfold voted vLeft vRight
      rcases (by omega : A 2 p = 0 ∨ A 2 p = 1) with e | e
      · have s0 := some1 0 e
        repeat' split
        all_goals omega
      · have s1 := some1 1 e
        repeat' split
        all_goals omega
  · refine x_aload_n dX12_lawful_0 rfl ?_
    refine b_gi0 (r := r) (m := 24) dX12_lawful_1 fX12_430 (by first | assumption) (fun _ _ _ => rfl) (by decide) ?_
    refine (show X _ _ 4 _ _ _ _ _ _ from ?_)
    refine X.val hl ?_
    refine y_if_ne 65 dX12_lawful_4 (by decide) ⟨by omega, by omega⟩ (fun h1 => ?_) (fun h1 => ?_)
    · exact w0
    · exact absurd h1 h0
theorem c_traded {p : Int} {y can : Nat} {W' : Nat → Nat → Int} (hM : MSh T R r) (hA3 : A 0 3 ≤ 10) (hp : 0 ≤ p ∧ p < A 0 3) (hy : y < 24) (hc : E 7 y = (can : Int)) (hcl : can < 1024) (hT : TrM E W) (hb : (W 0 3 ≤ 9 ∧ W 0 4 ≤ 9)) (e3 : W' 0 3 = W 0 3) (e4 : W' 0 4 = W 0 4) : X g mX12_traded 0 [.ref r, .int (iI p), .int (iI (y : Int)), jk] [] (T, iV (pB V r 24 E), R, J, z) k n (rI (iI (inPl W' can p)) (T, iV (pB V r 24 E), R, J, z)) := by
  have bt := fun p hp => c_bit g can p (T, iV (pB V r 24 E), R, J, z) 0 0 (by omega) hp
  obtain ⟨m0, ⟨-, -, -, -, -, -, m22, -, -, -, -, -, -, -, -, -, -, -, -, -, -, -, -⟩, ⟨-, -, -, -, -, -, mk7, -, -, -, -, -, -, -, -, -, -, -, -, -, -, -, -⟩⟩ := id hM
  obtain ⟨t1, t2, t3⟩ := hT
  unfold inPl
  rw [e3, e4]
  have tail : ∀ ot : Int, 0 ≤ ot → ot ≤ 9 → X g mX12_traded 31 [.ref r, .int (iI p), .int (iI (y : Int)), jk] [.int (iI ot)] (T, iV (pB V r 24 E), R, J, z) k n (rI (iI (if E 0 42 ≠ -2 ∧ can.testBit ot.toNat = true then ot else p)) (T, iV (pB V r 24 E), R, J, z)) := by
    intro ot h0 h9
    have btp := bt ot.toNat (by omega)
    rw [Int.toNat_of_nonneg h0] at btp
    refine x_istore_n dX12_traded_31 (by decide) rfl rfl ?_
    refine x_aload_n dX12_traded_32 rfl ?_
    refine b_gi0 (r := r) (m := 24) dX12_traded_33 fX12_423 (by first | assumption) (fun _ _ _ => rfl) (by decide) ?_
    refine y_bipush dX12_traded_36 rfl ?_
    refine (show X _ _ 38 _ _ _ _ _ _ from ?_)
    refine y_icmp_eq 58 dX12_traded_38 (by decide) ⟨by omega, by omega⟩ ⟨by omega, by omega⟩ (fun h1 => ?_) (fun h1 => ?_)
    · rw [if_neg (fun c => c.1 h1)]
      refine x_iload_n dX12_traded_58 rfl ?_
      refine (show X _ _ 59 _ _ _ _ _ _ from ?_)
      exact x_ireturn dX12_traded_59 rfl ⟨rfl, rfl⟩
    refine x_aload_n dX12_traded_41 rfl ?_
    refine x_gr dX12_traded_42 fX12_33 (by first | assumption) (fun _ _ _ => rfl) (by first | assumption) ?_
    refine x_iload_n dX12_traded_45 rfl ?_
    refine b_iald (r := r) (m := 24) (j := 7) (y) dX12_traded_46 (by first | assumption) (by first | rfl | omega) (by omega) (by decide) (by decide) ?_
    refine (show X _ _ 47 _ _ _ _ _ _ from ?_)
    refine X.val hc ?_
    refine x_iload_n dX12_traded_47 rfl ?_
    refine (show X _ _ 48 _ _ _ _ _ _ from ?_)
    refine x_callS (As := [_, _]) (mc := 0) (ms := 0) (z := mX12_bit) dX12_traded_48 lX12_386 oX12_bit (by decide) rfl (Nat.le_of_ble_eq_true rfl) (Nat.le_of_ble_eq_true rfl) rfl (btp) (k_I ?_)
    refine (show X _ _ 51 _ _ _ _ _ _ from ?_)
    refine y_ifb_eq 58 dX12_traded_51 (by decide) (fun h2 => ?_) (fun h2 => ?_)
    · rw [if_neg (fun c => by rw [h2] at c; cases c.2)]
      refine x_iload_n dX12_traded_58 rfl ?_
      refine (show X _ _ 59 _ _ _ _ _ _ from ?_)
      exact x_ireturn dX12_traded_59 rfl ⟨rfl, rfl⟩
    · rw [if_pos ⟨h1, h2⟩]
      refine x_iload_n dX12_traded_54 rfl ?_
      refine x_goto 59 dX12_traded_55 (by decide) ?_
      refine (show X _ _ 59 _ _ _ _ _ _ from ?_)
      exact x_ireturn dX12_traded_59 rfl ⟨rfl, rfl⟩
  have out : ∀ x : Int, x = p → X g mX12_traded 58 [.ref r, .int (iI p), .int (iI (y : Int)), jk] [] (T, iV (pB V r 24 E), R, J, z) k n (rI (iI x) (T, iV (pB V r 24 E), R, J, z)) := by
    intro x hx
    rw [hx]
    refine x_iload_n dX12_traded_58 rfl ?_
    refine (show X _ _ 59 _ _ _ _ _ _ from ?_)
    exact x_ireturn dX12_traded_59 rfl ⟨rfl, rfl⟩
  refine x_iload_n dX12_traded_0 rfl ?_
  refine x_aload_n dX12_traded_1 rfl ?_
  refine b_gi0 (r := r) (m := 24) dX12_traded_2 fX12_423 (by first | assumption) (fun _ _ _ => rfl) (by decide) ?_
  refine (show X _ _ 5 _ _ _ _ _ _ from ?_)
  refine y_icmp_ne 15 dX12_traded_5 (by decide) ⟨by omega, by omega⟩ ⟨by omega, by omega⟩ (fun h1 => ?_) (fun h1 => ?_)
  rotate_left
  · rcases t3 with ⟨a1, a2, a3⟩ | ⟨a1, a2, a3, a4, a5⟩
    · omega
    · refine x_aload_n dX12_traded_8 rfl ?_
      refine b_gi0 (r := r) (m := 24) dX12_traded_9 fX12_478 (by first | assumption) (fun _ _ _ => rfl) (by decide) ?_
      refine (show X _ _ 12 _ _ _ _ _ _ from ?_)
      refine X.val a5 ?_
      refine x_goto 31 dX12_traded_12 (by decide) ?_
      refine (show X _ _ 31 _ _ _ _ _ _ from ?_)
      refine X.mono (tail (W 0 4) a2 hb.2) ?_
      rintro v M ⟨rfl, rfl⟩
      refine ⟨?_, rfl⟩
      by_cases c : can.testBit (W 0 4).toNat = true
      · rw [if_pos ⟨by omega, c⟩, if_pos ⟨by omega, a2, c⟩]
      · rw [if_neg (fun q => c q.2), if_neg (fun q => c q.2.2), if_neg (fun q => by omega)]
  refine x_iload_n dX12_traded_15 rfl ?_
  refine x_aload_n dX12_traded_16 rfl ?_
  refine b_gi0 (r := r) (m := 24) dX12_traded_17 fX12_478 (by first | assumption) (fun _ _ _ => rfl) (by decide) ?_
  refine (show X _ _ 20 _ _ _ _ _ _ from ?_)
  refine y_icmp_ne 30 dX12_traded_20 (by decide) ⟨by omega, by omega⟩ ⟨by omega, by omega⟩ (fun h2 => ?_) (fun h2 => ?_)
  rotate_left
  · rcases t3 with ⟨a1, a2, a3⟩ | ⟨a1, a2, a3, a4, a5⟩
    · rw [if_neg (by omega), if_neg (by omega)]
      refine x_aload_n dX12_traded_23 rfl ?_
      refine b_gi0 (r := r) (m := 24) dX12_traded_24 fX12_423 (by first | assumption) (fun _ _ _ => rfl) (by decide) ?_
      refine x_goto 31 dX12_traded_27 (by decide) ?_
      refine x_istore_n dX12_traded_31 (by decide) rfl rfl ?_
      refine x_aload_n dX12_traded_32 rfl ?_
      refine b_gi0 (r := r) (m := 24) dX12_traded_33 fX12_423 (by first | assumption) (fun _ _ _ => rfl) (by decide) ?_
      refine y_bipush dX12_traded_36 rfl ?_
      refine (show X _ _ 38 _ _ _ _ _ _ from ?_)
      refine y_icmp_eq 58 dX12_traded_38 (by decide) ⟨by omega, by omega⟩ ⟨by omega, by omega⟩ (fun h3 => ?_) (fun h3 => ?_)
      rotate_left
      · exact absurd a3 h3
      exact X.drop 3 rfl (out p rfl)
    · refine x_aload_n dX12_traded_23 rfl ?_
      refine b_gi0 (r := r) (m := 24) dX12_traded_24 fX12_423 (by first | assumption) (fun _ _ _ => rfl) (by decide) ?_
      refine (show X _ _ 27 _ _ _ _ _ _ from ?_)
      refine X.val a4 ?_
      refine x_goto 31 dX12_traded_27 (by decide) ?_
      refine (show X _ _ 31 _ _ _ _ _ _ from ?_)
      refine X.mono (tail (W 0 3) a1 hb.1) ?_
      rintro v M ⟨rfl, rfl⟩
      refine ⟨?_, rfl⟩
      by_cases c : can.testBit (W 0 3).toNat = true
      · rw [if_pos ⟨by omega, c⟩, if_neg (fun q => by omega), if_pos ⟨by omega, a1, c⟩]
      · rw [if_neg (fun q => c q.2), if_neg (fun q => by omega), if_neg (fun q => c q.2.2)]
  have e0 : (if p = W 0 3 ∧ 0 ≤ W 0 4 ∧ can.testBit (W 0 4).toNat = true then W 0 4 else if p = W 0 4 ∧ 0 ≤ W 0 3 ∧ can.testBit (W 0 3).toNat = true then W 0 3 else p) = p := by
    rcases t3 with ⟨a1, a2, a3⟩ | ⟨a1, a2, a3, a4, a5⟩
    · rw [if_neg (by omega), if_neg (by omega)]
    · rw [if_neg (by omega), if_neg (by omega)]
  rw [e0]
  refine x_iload_n dX12_traded_30 rfl ?_
  refine (show X _ _ 31 _ _ _ _ _ _ from ?_)
  refine X.mono (tail p hp.1 (by omega)) ?_
  rintro v M ⟨rfl, rfl⟩
  refine ⟨?_, rfl⟩
  split <;> rfl
theorem c_soldM {now : Int} {one two y can : Nat} {pr : Int} (hM : MSh T R r) (hn : R32 now) (h1 : one < 10) (h2 : two < 10) (hy : y < 24) (hc : E 7 y = (can : Int)) (hcl : can < 1024) : X g mX12_sold 0 [.ref r, .int (iI now), .int (iI (one : Int)), .int (iI (two : Int)), .int (iI pr), .int (iI (y : Int))] [] (T, iV (pB V r 24 E), R, J, z) k n (rI (iI (if now = (one : Int) ∧ can.testBit two = true then (two : Int) else now)) (T, iV (pB V r 24 (if now = (one : Int) ∧ can.testBit two = true then payE E one two pr else E)), R, J, z)) := by
  have bt := c_bit g can two (T, iV (pB V r 24 E), R, J, z) 0 0 (by omega) (by omega)
  obtain ⟨m0, ⟨-, -, -, -, -, -, m22, -, -, -, -, -, -, -, -, -, -, m33, -, -, -, -, -⟩, ⟨-, -, -, -, -, -, mk7, -, -, -, -, -, -, -, -, -, -, mk18, -, -, -, -, -⟩⟩ := id hM
  obtain ⟨n1, n2⟩ := hn
  refine x_iload_n dX12_sold_0 rfl ?_
  refine x_iload_n dX12_sold_1 rfl ?_
  refine (show X _ _ 2 _ _ _ _ _ _ from ?_)
  refine y_icmp_ne 19 dX12_sold_2 (by decide) ⟨by omega, by omega⟩ ⟨by omega, by omega⟩ (fun e1 => ?_) (fun e1 => ?_)
  · rw [if_neg (fun c => e1 c.1), if_neg (fun c => e1 c.1)]
    refine x_iload_n dX12_sold_19 rfl ?_
    refine (show X _ _ 20 _ _ _ _ _ _ from ?_)
    exact x_ireturn dX12_sold_20 rfl ⟨rfl, rfl⟩
  refine x_aload_n dX12_sold_5 rfl ?_
  refine x_gr dX12_sold_6 fX12_33 (by first | assumption) (fun _ _ _ => rfl) (by first | assumption) ?_
  refine x_iload dX12_sold_9 rfl ?_
  refine b_iald (r := r) (m := 24) (j := 7) (y) dX12_sold_11 (by first | assumption) (by first | rfl | omega) (by omega) (by decide) (by decide) ?_
  refine (show X _ _ 12 _ _ _ _ _ _ from ?_)
  refine X.val hc ?_
  refine x_iload_n dX12_sold_12 rfl ?_
  refine (show X _ _ 13 _ _ _ _ _ _ from ?_)
  refine x_callS (As := [_, _]) (mc := 0) (ms := 0) (z := mX12_bit) dX12_sold_13 lX12_386 oX12_bit (by decide) rfl (Nat.le_of_ble_eq_true rfl) (Nat.le_of_ble_eq_true rfl) rfl (bt) (k_I ?_)
  refine (show X _ _ 16 _ _ _ _ _ _ from ?_)
  refine y_ifb_ne 21 dX12_sold_16 (by decide) (fun e2 => ?_) (fun e2 => ?_)
  rotate_left
  · rw [if_neg (fun c => by rw [e2] at c; cases c.2), if_neg (fun c => by rw [e2] at c; cases c.2)]
    refine x_iload_n dX12_sold_19 rfl ?_
    refine (show X _ _ 20 _ _ _ _ _ _ from ?_)
    exact x_ireturn dX12_sold_20 rfl ⟨rfl, rfl⟩
  rw [if_pos ⟨e1, e2⟩, if_pos ⟨e1, e2⟩]
  refine x_aload_n dX12_sold_21 rfl ?_
  refine x_gr dX12_sold_22 fX12_67 (by first | assumption) (fun _ _ _ => rfl) (by first | assumption) ?_
  refine x_iload_n dX12_sold_25 rfl ?_
  refine x_dup2 dX12_sold_26 rfl rfl ?_
  refine b_iald (r := r) (m := 24) (j := 18) (one) dX12_sold_27 (by first | assumption) (by first | rfl | omega) (by omega) (by decide) (by decide) ?_
  refine x_iload dX12_sold_28 rfl ?_
  refine y_isub dX12_sold_30 ?_
  refine b_iast (r := r) (m := 24) (j := 18) (one) dX12_sold_31 (by first | assumption) (by first | rfl | omega) (by omega) (by decide) (by decide) ?_
  refine (show X _ _ 32 _ _ _ _ _ _ from ?_)
  refine x_aload_n dX12_sold_32 rfl ?_
  refine x_gr dX12_sold_33 fX12_67 (by first | assumption) (fun _ _ _ => rfl) (by first | assumption) ?_
  refine x_iload_n dX12_sold_36 rfl ?_
  refine x_dup2 dX12_sold_37 rfl rfl ?_
  refine b_iald (r := r) (m := 24) (j := 18) (two) dX12_sold_38 (by first | assumption) (by first | rfl | omega) (by omega) (by decide) (by decide) ?_
  refine x_iload dX12_sold_39 rfl ?_
  refine y_iadd dX12_sold_41 ?_
  refine b_iast (r := r) (m := 24) (j := 18) (two) dX12_sold_42 (by first | assumption) (by first | rfl | omega) (by omega) (by decide) (by decide) ?_
  refine (show X _ _ 43 _ _ _ _ _ _ from ?_)
  refine x_iload_n dX12_sold_43 rfl ?_
  refine (show X _ _ 44 _ _ _ _ _ _ from ?_)
  exact x_ireturn dX12_sold_44 rfl ⟨rfl, rfl⟩
end C88
