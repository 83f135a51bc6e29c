/-! ===== the reference's getters, over all years ===== -/
def fiCc {c d : Nat → Bool} : ∀ m p, (∀ i, p ≤ i → i < p + m → c i = d i) → fiC c m p = fiC d m p
  | 0, _, _ => rfl
  | m + 1, p, h => by
    rw [fiC, fiC, h p (by omega) (by omega), fiCc m (p + 1) (fun i h1 h2 => h i (by omega) (by omega))]
section Fair
variable {A B E W : Nat → Nat → Int}
/-- the fairness of the reference: most and least, -1 at first -/
def fnL (W : Nat → Nat → Int) (th m : Nat) : Int × Int := lp m (fun p s => if th.testBit p then (if s.1 < W 1 p then W 1 p else s.1, if s.2 = -1 ∨ W 1 p < s.2 then W 1 p else s.2) else s) (-1, -1)
theorem fnL_sp {th : Nat} (hW : ∀ p, p < fP A → 0 ≤ W 1 p ∧ W 1 p ≤ 24) : ∀ m, m ≤ fP A → ((∀ p, p < m → th.testBit p = false) ∧ fnL W th m = (-1, -1) ∧ spL W th m = (0, 1000000000)) ∨ ((∃ p, p < m ∧ th.testBit p = true) ∧ fnL W th m = spL W th m ∧ 0 ≤ (fnL W th m).1 ∧ (0 ≤ (fnL W th m).2 ∧ (fnL W th m).2 ≤ 24))
  | 0, _ => Or.inl ⟨fun p hp => absurd hp (by omega), rfl, rfl⟩
  | m + 1, hm => by
    have ih := fnL_sp (th := th) hW m (by omega)
    have hb := hW m (by omega)
    have e1 : fnL W th (m + 1) = if th.testBit m then (if (fnL W th m).1 < W 1 m then W 1 m else (fnL W th m).1, if (fnL W th m).2 = -1 ∨ W 1 m < (fnL W th m).2 then W 1 m else (fnL W th m).2) else fnL W th m := rfl
    have e2 : spL W th (m + 1) = if th.testBit m then (if (spL W th m).1 < W 1 m then W 1 m else (spL W th m).1, if W 1 m < (spL W th m).2 then W 1 m else (spL W th m).2) else spL W th m := rfl
    rw [e1, e2]
    cases ht : th.testBit m
    · rw [if_neg (by decide), if_neg (by decide)]
      rcases ih with ⟨h1, h2, h3⟩ | ⟨⟨p, hp, hpt⟩, h2, h3⟩
      · refine Or.inl ⟨fun p hp => ?_, h2, h3⟩
        by_cases e : p = m
        · rw [e]; exact ht
        · exact h1 p (by omega)
      · exact Or.inr ⟨⟨p, by omega, hpt⟩, h2, h3⟩
    · rw [if_pos rfl, if_pos rfl]
      refine Or.inr ⟨⟨m, by omega, ht⟩, ?_⟩
      rcases ih with ⟨h1, h2, h3⟩ | ⟨⟨p, hp, hpt⟩, h2, h3, h4⟩
      · rw [h2, h3]
        dsimp only
        rw [if_pos (show (-1 : Int) < W 1 m by omega), if_pos (Or.inl rfl), if_pos (show W 1 m < 1000000000 by omega)]
        by_cases c : (0 : Int) < W 1 m
        · rw [if_pos c]; exact ⟨rfl, hb.1, hb⟩
        · rw [if_neg c, show W 1 m = 0 by omega]; exact ⟨rfl, by decide, by decide, by decide⟩
      · rw [← h2]
        generalize fnL W th m = s at *
        have e3 : (if s.2 = -1 ∨ W 1 m < s.2 then W 1 m else s.2) = (if W 1 m < s.2 then W 1 m else s.2) := by
          by_cases c : W 1 m < s.2
          · rw [if_pos (Or.inr c), if_pos c]
          · rw [if_neg (by omega), if_neg c]
        rw [e3]
        refine ⟨rfl, ?_, ?_, ?_⟩
        · dsimp only; split <;> omega
        · dsimp only; split <;> omega
        · dsimp only; split <;> omega
/-- who is there behind the last year -/
theorem th_end (hA : VA A) (hB : VB A B) (hY : 1 ≤ A 0 0) (h : RM A E W (fY A)) : sOf (fP A) (thE A B E (fY A)) = rTh A B W (fY A - 1) := by
  have eY := fY24 hA
  apply Nat.eq_of_testBit_eq
  intro i
  rw [sOf_bit, andn_bit]
  unfold thS
  rw [sOf_bit]
  by_cases hi : i < fP A
  · rw [decide_eq_true hi, (h.2.2.1 i hi).2, Bool.true_and, Bool.true_and]
    have hb := (hA.2.2.2.2.2.2.2.2.2.1 i hi).2.2.1
    have hd := hB.2.2.2.1 i hi
    have e : thB A B (fY A) i = thB A B (fY A - 1) i := by
      unfold thB
      rw [decide_eq_true (show A 3 i ≤ ((fY A : Nat) : Int) by omega), decide_eq_true (show A 3 i ≤ ((fY A - 1 : Nat) : Int) by omega), decide_eq_false (show ¬ ((fY A : Nat) : Int) < B 1 i by omega), decide_eq_false (show ¬ ((fY A - 1 : Nat) : Int) < B 1 i by omega)]
    unfold thE
    rw [e]
    by_cases c : E 20 i ≤ ((fY A : Nat) : Int)
    · rw [decide_eq_true c, decide_eq_false (show ¬ ((fY A : Nat) : Int) < E 20 i by omega)]; rfl
    · rw [decide_eq_false c, decide_eq_true (show ((fY A : Nat) : Int) < E 20 i by omega)]; rfl
  · rw [decide_eq_false hi]; rfl
end Fair
section C97
variable {g : GG} {T : Nat → Nat × Nat} {V E A B Wi Ni : Nat → Nat → Int} {R : Nat → Nat → Option Nat} {J : Nat → Nat → Int64} {z k n : Nat} {r f : Nat} {t : Nat → Int} {tp : Nat} {h : Bool} {a m : Nat} {H K : Nat → Nat → Nat → Int} {wr pl tr : Int}
theorem k_fairNow {W : Nat → Nat → Int} (hM : MSh T R r) (hf : R r 3 = some f) (hG : FMS T R f) (hF : FMC V f A) (hA : VA A) (hB : VB A B) (hap : apF f r) (hY : 1 ≤ A 0 0) (hR : RM A E W (fY A)) (h6 : E 6 (fY A) = (sOf (fP A) (thE A B E (fY A)) : Nat)) : X g mX12_fairNow 0 [.ref r, jk, jk, jk] [] (T, iV (pB V r 24 E), R, J, z) k n (rI (iI (spread A B W)) (T, iV (pB V r 24 E), R, J, z)) := by
  rw [th_end hA hB hY hR] at h6
  have eP := fP10 hA
  have eY := fY24 hA
  have hA3 := hA.2.2.2.1
  have htl : rTh A B W (fY A - 1) < 1024 := andn_lt (thS_lt hA _)
  have hkk := hR.2.2.2.2.2.2.1
  have hWb : ∀ p, p < fP A → 0 ≤ W 1 p ∧ W 1 p ≤ 24 := fun p hp => by have := hkk.2.2.2.2.2.2.2.1 p hp; omega
  have bt := fun p hp => c_bit g (rTh A B W (fY A - 1)) p (T, iV (pB V r 24 E), R, J, z) 0 0 (by omega) hp
  have hfn := fnL_sp (A := A) (W := W) (th := rTh A B W (fY A - 1)) hWb
  have hthb : ∀ i, (rTh A B W (fY A - 1)).testBit i = true → i < fP A := by
    intro i hi
    refine Classical.byContradiction fun c => ?_
    rw [andn_bit] at hi
    unfold thS at hi
    rw [sOf_bit, decide_eq_false c] at hi
    cases hi
  obtain ⟨m0, ⟨-, -, -, -, -, m21, -, -, -, -, -, -, -, -, m30, -, -, -, -, -, -, -, -⟩, ⟨-, -, -, -, -, mk6, -, -, -, -, -, -, -, -, mk15, -, -, -, -, -, -, -, -⟩⟩ := id hM
  obtain ⟨g0, -, -⟩ := id hG
  have e3 := hF.1 3 (by decide)
  have e0 := hF.1 0 (by decide)
  unfold apF at hap
  unfold spread
  generalize rTh A B W (fY A - 1) = th at *
  refine y_iconst dX12_fairNow_0 ?_
  refine x_istore_n dX12_fairNow_1 (by decide) rfl rfl ?_
  refine y_iconst dX12_fairNow_2 ?_
  refine x_istore_n dX12_fairNow_3 (by decide) rfl rfl ?_
  refine y_iconst dX12_fairNow_4 ?_
  refine x_istore_n dX12_fairNow_5 (by decide) rfl rfl ?_
  refine (show X _ _ 6 _ _ _ _ _ _ from ?_)
  refine loopN (P := fun p => X g mX12_fairNow 6 [.ref r, .int (iI (fnL W th p).1), .int (iI (fnL W th p).2), .int (iI (p : Int))] [] (T, iV (pB V r 24 E), R, J, z) k n (rI (iI (if th = 0 then 0 else (spL W th (fP A)).1 - (spL W th (fP A)).2)) (T, iV (pB V r 24 E), R, J, z))) (fP A) ?_ (fun p hp ih => ?_)
  · refine x_iload_n dX12_fairNow_6 rfl ?_
    refine x_aload_n dX12_fairNow_7 rfl ?_
    refine x_gr dX12_fairNow_8 fX12_409 (by first | assumption) (fun _ _ _ => rfl) (by first | assumption) ?_
    refine b_gio (r := r) (m := 24) dX12_fairNow_11 fX12_230 (by first | assumption) (fun _ _ _ => rfl) (by omega) ?_
    refine (show X _ _ 14 _ _ _ _ _ _ from ?_)
    refine X.val e3 ?_
    refine y_icmp_ge 92 dX12_fairNow_14 (by decide) ⟨by omega, by omega⟩ ⟨by omega, by omega⟩ (fun h1 => ?_) (fun h1 => ?_)
    rotate_left
    · omega
    rcases hfn (fP A) (Nat.le_refl _) with ⟨a1, a2, a3⟩ | ⟨⟨q, hq1, hq2⟩, a2, a3, a4⟩
    · have ez : th = 0 := by
        apply Nat.eq_of_testBit_eq
        intro i
        rw [Nat.zero_testBit]
        cases hb : th.testBit i
        · rfl
        · rw [a1 i (hthb i hb)] at hb; cases hb
      rw [if_pos ez, a2]
      refine x_iload_n dX12_fairNow_92 rfl ?_
      refine y_iconst dX12_fairNow_93 ?_
      refine (show X _ _ 94 _ _ _ _ _ _ from ?_)
      refine y_icmp_ne 101 dX12_fairNow_94 (by decide) ⟨by omega, by omega⟩ ⟨by omega, by omega⟩ (fun h2 => ?_) (fun h2 => ?_)
      · exact absurd rfl h2
      refine y_iconst dX12_fairNow_97 ?_
      refine x_goto 104 dX12_fairNow_98 (by decide) ?_
      refine (show X _ _ 104 _ _ _ _ _ _ from ?_)
      exact x_ireturn dX12_fairNow_104 rfl ⟨rfl, rfl⟩
    · have ez : th ≠ 0 := fun c => by rw [c, Nat.zero_testBit] at hq2; cases hq2
      rw [if_neg ez, ← a2]
      have a5 : (fnL W th (fP A)).1 ≤ 1000000000 := by rw [a2]; have := (sp_b (A := A) (W := W) (th := th) hWb (fP A) (Nat.le_refl _)).1; omega
      refine x_iload_n dX12_fairNow_92 rfl ?_
      refine y_iconst dX12_fairNow_93 ?_
      refine (show X _ _ 94 _ _ _ _ _ _ from ?_)
      refine y_icmp_ne 101 dX12_fairNow_94 (by decide) ⟨by omega, by omega⟩ ⟨by omega, by omega⟩ (fun h2 => ?_) (fun h2 => ?_)
      · refine x_iload_n dX12_fairNow_101 rfl ?_
        refine x_iload_n dX12_fairNow_102 rfl ?_
        refine y_isub dX12_fairNow_103 ?_
        refine (show X _ _ 104 _ _ _ _ _ _ from ?_)
        exact x_ireturn dX12_fairNow_104 rfl ⟨rfl, rfl⟩
      · omega
  · have es : fnL W th (p + 1) = if th.testBit p then (if (fnL W th p).1 < W 1 p then W 1 p else (fnL W th p).1, if (fnL W th p).2 = -1 ∨ W 1 p < (fnL W th p).2 then W 1 p else (fnL W th p).2) else fnL W th p := rfl
    rw [es] at ih
    have hw := hWb p hp
    have e15 := (hR.2.1 p hp).1
    have hbd : (-1 ≤ (fnL W th p).1 ∧ (fnL W th p).1 ≤ 1000000000) ∧ (-1 ≤ (fnL W th p).2 ∧ (fnL W th p).2 ≤ 1000000000) := by
      rcases hfn p (by omega) with ⟨a1, a2, a3⟩ | ⟨-, a2, a3, a4⟩
      · rw [a2]; exact ⟨⟨by decide, by decide⟩, by decide, by decide⟩
      · have a5 : (fnL W th p).1 ≤ 1000000000 := by rw [a2]; have := (sp_b (A := A) (W := W) (th := th) hWb p (by omega)).1; omega
        omega
    generalize fnL W th p = s at *
    refine x_iload_n dX12_fairNow_6 rfl ?_
    refine x_aload_n dX12_fairNow_7 rfl ?_
    refine x_gr dX12_fairNow_8 fX12_409 (by first | assumption) (fun _ _ _ => rfl) (by first | assumption) ?_
    refine b_gio (r := r) (m := 24) dX12_fairNow_11 fX12_230 (by first | assumption) (fun _ _ _ => rfl) (by omega) ?_
    refine (show X _ _ 14 _ _ _ _ _ _ from ?_)
    refine X.val e3 ?_
    refine y_icmp_ge 92 dX12_fairNow_14 (by decide) ⟨by omega, by omega⟩ ⟨by omega, by omega⟩ (fun h1 => ?_) (fun h1 => ?_)
    · omega
    refine x_aload_n dX12_fairNow_17 rfl ?_
    refine x_gr dX12_fairNow_18 fX12_30 (by first | assumption) (fun _ _ _ => rfl) (by first | assumption) ?_
    refine x_aload_n dX12_fairNow_21 rfl ?_
    refine x_gr dX12_fairNow_22 fX12_409 (by first | assumption) (fun _ _ _ => rfl) (by first | assumption) ?_
    refine b_gio (r := r) (m := 24) dX12_fairNow_25 fX12_176 (by first | assumption) (fun _ _ _ => rfl) (by omega) ?_
    refine (show X _ _ 28 _ _ _ _ _ _ from ?_)
    refine X.val e0 ?_
    refine b_iald (r := r) (m := 24) (j := 6) (fY A) dX12_fairNow_28 (by first | assumption) (by first | rfl | omega) (by omega) (by decide) (by decide) ?_
    refine (show X _ _ 29 _ _ _ _ _ _ from ?_)
    refine X.val h6 ?_
    refine x_iload_n dX12_fairNow_29 rfl ?_
    refine (show X _ _ 30 _ _ _ _ _ _ from ?_)
    refine x_callS (As := [_, _]) (mc := 0) (ms := 0) (z := mX12_bit) dX12_fairNow_30 lX12_386 oX12_bit (by decide) rfl (Nat.le_of_ble_eq_true rfl) (Nat.le_of_ble_eq_true rfl) rfl (bt p (by omega)) (k_I ?_)
    refine (show X _ _ 33 _ _ _ _ _ _ from ?_)
    refine y_ifb_ne 39 dX12_fairNow_33 (by decide) (fun h2 => ?_) (fun h2 => ?_)
    rotate_left
    · rw [h2, if_neg (by decide)] at ih
      refine x_goto 86 dX12_fairNow_36 (by decide) ?_
      refine y_iinc dX12_fairNow_86 rfl (by decide) rfl rfl ?_
      refine x_goto 6 dX12_fairNow_89 (by decide) ?_
      refine (show X _ _ 6 _ _ _ _ _ _ from ?_)
      exact ih
    rw [h2, if_pos rfl] at ih
    dsimp only at ih
    have snd : ∀ mo : Int, mo = (if s.1 < W 1 p then W 1 p else s.1) → X g mX12_fairNow 59 [.ref r, .int (iI s.1), .int (iI s.2), .int (iI (p : Int))] [.int (iI mo)] (T, iV (pB V r 24 E), R, J, z) k n (rI (iI (if th = 0 then 0 else (spL W th (fP A)).1 - (spL W th (fP A)).2)) (T, iV (pB V r 24 E), R, J, z)) := by
      intro mo hmo
      rw [← hmo] at ih
      have fin : ∀ le : Int, le = (if s.2 = -1 ∨ W 1 p < s.2 then W 1 p else s.2) → X g mX12_fairNow 85 [.ref r, .int (iI mo), .int (iI s.2), .int (iI (p : Int))] [.int (iI le)] (T, iV (pB V r 24 E), R, J, z) k n (rI (iI (if th = 0 then 0 else (spL W th (fP A)).1 - (spL W th (fP A)).2)) (T, iV (pB V r 24 E), R, J, z)) := by
        intro le hle
        rw [← hle] at ih
        refine x_istore_n dX12_fairNow_85 (by decide) rfl rfl ?_
        refine y_iinc dX12_fairNow_86 rfl (by decide) rfl rfl ?_
        refine x_goto 6 dX12_fairNow_89 (by decide) ?_
        refine (show X _ _ 6 _ _ _ _ _ _ from ?_)
        exact ih
      refine x_istore_n dX12_fairNow_59 (by decide) rfl rfl ?_
      refine x_iload_n dX12_fairNow_60 rfl ?_
      refine y_iconst dX12_fairNow_61 ?_
      refine (show X _ _ 62 _ _ _ _ _ _ from ?_)
      refine y_icmp_eq 75 dX12_fairNow_62 (by decide) ⟨by omega, by omega⟩ ⟨by omega, by omega⟩ (fun h4 => ?_) (fun h4 => ?_)
      · refine x_aload_n dX12_fairNow_75 rfl ?_
        refine x_gr dX12_fairNow_76 fX12_58 (by first | assumption) (fun _ _ _ => rfl) (by first | assumption) ?_
        refine x_iload_n dX12_fairNow_79 rfl ?_
        refine b_iald (r := r) (m := 24) (j := 15) (p) dX12_fairNow_80 (by first | assumption) (by first | rfl | omega) (by omega) (by decide) (by decide) ?_
        refine (show X _ _ 81 _ _ _ _ _ _ from ?_)
        refine X.val e15 ?_
        refine x_goto 85 dX12_fairNow_81 (by decide) ?_
        refine (show X _ _ 85 _ _ _ _ _ _ from ?_)
        exact fin _ (by rw [if_pos (Or.inl h4)])
      refine x_aload_n dX12_fairNow_65 rfl ?_
      refine x_gr dX12_fairNow_66 fX12_58 (by first | assumption) (fun _ _ _ => rfl) (by first | assumption) ?_
      refine x_iload_n dX12_fairNow_69 rfl ?_
      refine b_iald (r := r) (m := 24) (j := 15) (p) dX12_fairNow_70 (by first | assumption) (by first | rfl | omega) (by omega) (by decide) (by decide) ?_
      refine (show X _ _ 71 _ _ _ _ _ _ from ?_)
      refine X.val e15 ?_
      refine x_iload_n dX12_fairNow_71 rfl ?_
      refine (show X _ _ 72 _ _ _ _ _ _ from ?_)
      refine y_icmp_ge 84 dX12_fairNow_72 (by decide) ⟨by omega, by omega⟩ ⟨by omega, by omega⟩ (fun h5 => ?_) (fun h5 => ?_)
      · refine x_iload_n dX12_fairNow_84 rfl ?_
        refine (show X _ _ 85 _ _ _ _ _ _ from ?_)
        exact fin _ (by rw [if_neg (by omega)])
      · refine x_aload_n dX12_fairNow_75 rfl ?_
        refine x_gr dX12_fairNow_76 fX12_58 (by first | assumption) (fun _ _ _ => rfl) (by first | assumption) ?_
        refine x_iload_n dX12_fairNow_79 rfl ?_
        refine b_iald (r := r) (m := 24) (j := 15) (p) dX12_fairNow_80 (by first | assumption) (by first | rfl | omega) (by omega) (by decide) (by decide) ?_
        refine (show X _ _ 81 _ _ _ _ _ _ from ?_)
        refine X.val e15 ?_
        refine x_goto 85 dX12_fairNow_81 (by decide) ?_
        refine (show X _ _ 85 _ _ _ _ _ _ from ?_)
        exact fin _ (by rw [if_pos (Or.inr h5)])
    refine x_aload_n dX12_fairNow_39 rfl ?_
    refine x_gr dX12_fairNow_40 fX12_58 (by first | assumption) (fun _ _ _ => rfl) (by first | assumption) ?_
    refine x_iload_n dX12_fairNow_43 rfl ?_
    refine b_iald (r := r) (m := 24) (j := 15) (p) dX12_fairNow_44 (by first | assumption) (by first | rfl | omega) (by omega) (by decide) (by decide) ?_
    refine (show X _ _ 45 _ _ _ _ _ _ from ?_)
    refine X.val e15 ?_
    refine x_iload_n dX12_fairNow_45 rfl ?_
    refine (show X _ _ 46 _ _ _ _ _ _ from ?_)
    refine y_icmp_le 58 dX12_fairNow_46 (by decide) ⟨by omega, by omega⟩ ⟨by omega, by omega⟩ (fun h3 => ?_) (fun h3 => ?_)
    · refine x_iload_n dX12_fairNow_58 rfl ?_
      refine (show X _ _ 59 _ _ _ _ _ _ from ?_)
      exact snd _ (by rw [if_neg (by omega)])
    · refine x_aload_n dX12_fairNow_49 rfl ?_
      refine x_gr dX12_fairNow_50 fX12_58 (by first | assumption) (fun _ _ _ => rfl) (by first | assumption) ?_
      refine x_iload_n dX12_fairNow_53 rfl ?_
      refine b_iald (r := r) (m := 24) (j := 15) (p) dX12_fairNow_54 (by first | assumption) (by first | rfl | omega) (by omega) (by decide) (by decide) ?_
      refine (show X _ _ 55 _ _ _ _ _ _ from ?_)
      refine X.val e15 ?_
      refine x_goto 59 dX12_fairNow_55 (by decide) ?_
      refine (show X _ _ 59 _ _ _ _ _ _ from ?_)
      exact snd _ (by rw [if_pos h3])
theorem k_harmAll (hI : DI T R V r f E t tp h A B a m H K wr pl tr) (hNi : NOk Ni) : X g mX12_harmAll 0 [.ref r] [] (T, iV (pB V r 24 E), R, J, z) k n (DQ T R J z V r f (some (.int (iI (if h = true then runTo A B (rBeg A Wi (B 0 0) (B 0 1)) (fY A) 0 8 else -1)))) t tp h A B a m H K wr pl (if h = true then 0 else 1)) := by
  have hM := hI.1
  have hI1 := DI_sc hI (Sc_th hI 0)
  cases h
  · have hak := k_asks0 (g := g) (J := J) (z := z) (k := 0) (n := 0) (b := true) hI1 (fun c => by cases c.1)
    have hrf := k_refused (g := g) (V := V) (E := u2 E 0 0 0) (J := J) (z := z) (k := 0) (n := 0) (x := 1) hM
    rw [if_neg (by decide), if_neg (by decide)]
    obtain ⟨m0, -, -⟩ := id hM
    refine x_aload_n dX12_harmAll_0 rfl ?_
    refine y_iconst dX12_harmAll_1 ?_
    refine b_pi0 (r := r) (m := 24) dX12_harmAll_2 (pX12_85 _) (by first | assumption) (fun _ _ _ => rfl) rfl rfl (by decide) ?_
    refine x_aload_n dX12_harmAll_5 rfl ?_
    refine (show X _ _ 6 _ _ _ _ _ _ from ?_)
    refine y_iconst dX12_harmAll_6 ?_
    refine X.val (b := bI true) rfl ?_
    refine (show X _ _ 7 _ _ _ _ _ _ from ?_)
    refine x_callV (As := [_]) (mc := 0) (ms := 0) (z := mX12_asks) (ci := 12) dX12_harmAll_7 lX12_523 oX12_asks (by decide) (by first | assumption) rfl rfl (Nat.le_of_ble_eq_true rfl) (Nat.le_of_ble_eq_true rfl) rfl (hak) (k_I ?_)
    refine (show X _ _ 10 _ _ _ _ _ _ from ?_)
    refine y_ifb_eq 24 dX12_harmAll_10 (by decide) (fun c => ?_) (fun c => ?_)
    rotate_left
    · cases c
    refine x_aload_n dX12_harmAll_24 rfl ?_
    refine y_iconst dX12_harmAll_25 ?_
    refine (show X _ _ 26 _ _ _ _ _ _ from ?_)
    refine x_callV (As := [_]) (mc := 0) (ms := 0) (z := mX12_refused) (ci := 12) dX12_harmAll_26 lX12_91 oX12_refused (by decide) (by first | assumption) rfl rfl (Nat.le_of_ble_eq_true rfl) (Nat.le_of_ble_eq_true rfl) rfl (hrf) (k_I ?_)
    refine (show X _ _ 29 _ _ _ _ _ _ from ?_)
    exact x_ireturn dX12_harmAll_29 rfl (DQ_tr hI1 1 (by decide) _)
  · have hak := k_asks (g := g) (J := J) (z := z) (k := 0) (n := 0) (Wi := Wi) (Ni := Ni) hI1 hNi
    have hgo := fun (E' : Nat → Nat → Int) x => k_good (g := g) (V := V) (E := E') (J := J) (z := z) (k := 0) (n := 0) (x := x) hM
    obtain ⟨⟨hf, hG, hF, hap⟩, ⟨hA, hB, hY4, -⟩, -⟩ := hI.2.2.2.2.2.2 rfl
    rw [if_pos rfl, if_pos rfl]
    obtain ⟨m0, -, -⟩ := id hM
    refine x_aload_n dX12_harmAll_0 rfl ?_
    refine y_iconst dX12_harmAll_1 ?_
    refine b_pi0 (r := r) (m := 24) dX12_harmAll_2 (pX12_85 _) (by first | assumption) (fun _ _ _ => rfl) rfl rfl (by decide) ?_
    refine x_aload_n dX12_harmAll_5 rfl ?_
    refine (show X _ _ 6 _ _ _ _ _ _ from ?_)
    refine y_iconst dX12_harmAll_6 ?_
    refine X.val (b := bI true) rfl ?_
    refine (show X _ _ 7 _ _ _ _ _ _ from ?_)
    refine x_callV (As := [_]) (mc := 0) (ms := 0) (z := mX12_asks) (ci := 12) dX12_harmAll_7 lX12_523 oX12_asks (by decide) (by first | assumption) rfl rfl (Nat.le_of_ble_eq_true rfl) (Nat.le_of_ble_eq_true rfl) rfl (hak) (fun v M1 hq => ?_)
    obtain ⟨rfl, E', rfl, hq⟩ := hq
    refine (show X _ _ 10 _ [.int (iI (bI true))] _ _ _ _ from ?_)
    have hI2 := DI_sc hI1 (RnQ_sc hI1 hq)
    obtain ⟨⟨hRM, hNM, hrc, hhd, -⟩, h6⟩ := hq
    refine y_ifb_eq 24 dX12_harmAll_10 (by decide) (fun c => ?_) (fun c => ?_)
    · cases c
    refine x_aload_n dX12_harmAll_13 rfl ?_
    refine x_aload_n dX12_harmAll_14 rfl ?_
    refine b_gi0 (r := r) (m := 24) dX12_harmAll_15 fX12_437 (by first | assumption) (fun _ _ _ => rfl) (by decide) ?_
    refine (show X _ _ 18 _ _ _ _ _ _ from ?_)
    refine X.val hRM.1.2.2.2.1 ?_
    refine x_callV (As := [_]) (mc := 0) (ms := 0) (z := mX12_good) (ci := 12) dX12_harmAll_18 lX12_95 oX12_good (by decide) (by first | assumption) rfl rfl (Nat.le_of_ble_eq_true rfl) (Nat.le_of_ble_eq_true rfl) rfl (hgo _ _) (k_I ?_)
    refine (show X _ _ 21 _ _ _ _ _ _ from ?_)
    refine x_goto 29 dX12_harmAll_21 (by decide) ?_
    refine (show X _ _ 29 _ _ _ _ _ _ from ?_)
    exact x_ireturn dX12_harmAll_29 rfl (DQ_tr hI2 0 (by decide) _)
theorem k_deaths (hI : DI T R V r f E t tp h A B a m H K wr pl tr) (hNi : NOk Ni) : X g mX12_deaths 0 [.ref r] [] (T, iV (pB V r 24 E), R, J, z) k n (DQ T R J z V r f (some (.int (iI (if h = true then runTo A B (rBeg A Wi (B 0 0) (B 0 1)) (fY A) 0 9 else -1)))) t tp h A B a m H K wr pl (if h = true then 0 else 1)) := by
  have hM := hI.1
  have hI1 := DI_sc hI (Sc_th hI 0)
  cases h
  · have hak := k_asks0 (g := g) (J := J) (z := z) (k := 0) (n := 0) (b := true) hI1 (fun c => by cases c.1)
    have hrf := k_refused (g := g) (V := V) (E := u2 E 0 0 0) (J := J) (z := z) (k := 0) (n := 0) (x := 1) hM
    rw [if_neg (by decide), if_neg (by decide)]
    obtain ⟨m0, -, -⟩ := id hM
    refine x_aload_n dX12_deaths_0 rfl ?_
    refine y_iconst dX12_deaths_1 ?_
    refine b_pi0 (r := r) (m := 24) dX12_deaths_2 (pX12_85 _) (by first | assumption) (fun _ _ _ => rfl) rfl rfl (by decide) ?_
    refine x_aload_n dX12_deaths_5 rfl ?_
    refine (show X _ _ 6 _ _ _ _ _ _ from ?_)
    refine y_iconst dX12_deaths_6 ?_
    refine X.val (b := bI true) rfl ?_
    refine (show X _ _ 7 _ _ _ _ _ _ from ?_)
    refine x_callV (As := [_]) (mc := 0) (ms := 0) (z := mX12_asks) (ci := 12) dX12_deaths_7 lX12_523 oX12_asks (by decide) (by first | assumption) rfl rfl (Nat.le_of_ble_eq_true rfl) (Nat.le_of_ble_eq_true rfl) rfl (hak) (k_I ?_)
    refine (show X _ _ 10 _ _ _ _ _ _ from ?_)
    refine y_ifb_eq 24 dX12_deaths_10 (by decide) (fun c => ?_) (fun c => ?_)
    rotate_left
    · cases c
    refine x_aload_n dX12_deaths_24 rfl ?_
    refine y_iconst dX12_deaths_25 ?_
    refine (show X _ _ 26 _ _ _ _ _ _ from ?_)
    refine x_callV (As := [_]) (mc := 0) (ms := 0) (z := mX12_refused) (ci := 12) dX12_deaths_26 lX12_91 oX12_refused (by decide) (by first | assumption) rfl rfl (Nat.le_of_ble_eq_true rfl) (Nat.le_of_ble_eq_true rfl) rfl (hrf) (k_I ?_)
    refine (show X _ _ 29 _ _ _ _ _ _ from ?_)
    exact x_ireturn dX12_deaths_29 rfl (DQ_tr hI1 1 (by decide) _)
  · have hak := k_asks (g := g) (J := J) (z := z) (k := 0) (n := 0) (Wi := Wi) (Ni := Ni) hI1 hNi
    have hgo := fun (E' : Nat → Nat → Int) x => k_good (g := g) (V := V) (E := E') (J := J) (z := z) (k := 0) (n := 0) (x := x) hM
    obtain ⟨⟨hf, hG, hF, hap⟩, ⟨hA, hB, hY4, -⟩, -⟩ := hI.2.2.2.2.2.2 rfl
    rw [if_pos rfl, if_pos rfl]
    obtain ⟨m0, -, -⟩ := id hM
    refine x_aload_n dX12_deaths_0 rfl ?_
    refine y_iconst dX12_deaths_1 ?_
    refine b_pi0 (r := r) (m := 24) dX12_deaths_2 (pX12_85 _) (by first | assumption) (fun _ _ _ => rfl) rfl rfl (by decide) ?_
    refine x_aload_n dX12_deaths_5 rfl ?_
    refine (show X _ _ 6 _ _ _ _ _ _ from ?_)
    refine y_iconst dX12_deaths_6 ?_
    refine X.val (b := bI true) rfl ?_
    refine (show X _ _ 7 _ _ _ _ _ _ from ?_)
    refine x_callV (As := [_]) (mc := 0) (ms := 0) (z := mX12_asks) (ci := 12) dX12_deaths_7 lX12_523 oX12_asks (by decide) (by first | assumption) rfl rfl (Nat.le_of_ble_eq_true rfl) (Nat.le_of_ble_eq_true rfl) rfl (hak) (fun v M1 hq => ?_)
    obtain ⟨rfl, E', rfl, hq⟩ := hq
    refine (show X _ _ 10 _ [.int (iI (bI true))] _ _ _ _ from ?_)
    have hI2 := DI_sc hI1 (RnQ_sc hI1 hq)
    obtain ⟨⟨hRM, hNM, hrc, hhd, -⟩, h6⟩ := hq
    refine y_ifb_eq 24 dX12_deaths_10 (by decide) (fun c => ?_) (fun c => ?_)
    · cases c
    refine x_aload_n dX12_deaths_13 rfl ?_
    refine x_aload_n dX12_deaths_14 rfl ?_
    refine b_gi0 (r := r) (m := 24) dX12_deaths_15 fX12_434 (by first | assumption) (fun _ _ _ => rfl) (by decide) ?_
    refine (show X _ _ 18 _ _ _ _ _ _ from ?_)
    refine X.val hRM.1.2.2.1 ?_
    refine x_callV (As := [_]) (mc := 0) (ms := 0) (z := mX12_good) (ci := 12) dX12_deaths_18 lX12_95 oX12_good (by decide) (by first | assumption) rfl rfl (Nat.le_of_ble_eq_true rfl) (Nat.le_of_ble_eq_true rfl) rfl (hgo _ _) (k_I ?_)
    refine (show X _ _ 21 _ _ _ _ _ _ from ?_)
    refine x_goto 29 dX12_deaths_21 (by decide) ?_
    refine (show X _ _ 29 _ _ _ _ _ _ from ?_)
    exact x_ireturn dX12_deaths_29 rfl (DQ_tr hI2 0 (by decide) _)
theorem k_fair (hI : DI T R V r f E t tp h A B a m H K wr pl tr) (hNi : NOk Ni) : X g mX12_fair 0 [.ref r] [] (T, iV (pB V r 24 E), R, J, z) k n (DQ T R J z V r f (some (.int (iI (if h = true then spread A B (runTo A B (rBeg A Wi (B 0 0) (B 0 1)) (fY A)) else -1)))) t tp h A B a m H K wr pl (if h = true then 0 else 1)) := by
  have hM := hI.1
  have hI1 := DI_sc hI (Sc_th hI 0)
  cases h
  · have hak := k_asks0 (g := g) (J := J) (z := z) (k := 0) (n := 0) (b := true) hI1 (fun c => by cases c.1)
    have hrf := k_refused (g := g) (V := V) (E := u2 E 0 0 0) (J := J) (z := z) (k := 0) (n := 0) (x := 1) hM
    rw [if_neg (by decide), if_neg (by decide)]
    obtain ⟨m0, -, -⟩ := id hM
    refine x_aload_n dX12_fair_0 rfl ?_
    refine y_iconst dX12_fair_1 ?_
    refine b_pi0 (r := r) (m := 24) dX12_fair_2 (pX12_85 _) (by first | assumption) (fun _ _ _ => rfl) rfl rfl (by decide) ?_
    refine x_aload_n dX12_fair_5 rfl ?_
    refine (show X _ _ 6 _ _ _ _ _ _ from ?_)
    refine y_iconst dX12_fair_6 ?_
    refine X.val (b := bI true) rfl ?_
    refine (show X _ _ 7 _ _ _ _ _ _ from ?_)
    refine x_callV (As := [_]) (mc := 0) (ms := 0) (z := mX12_asks) (ci := 12) dX12_fair_7 lX12_523 oX12_asks (by decide) (by first | assumption) rfl rfl (Nat.le_of_ble_eq_true rfl) (Nat.le_of_ble_eq_true rfl) rfl (hak) (k_I ?_)
    refine (show X _ _ 10 _ _ _ _ _ _ from ?_)
    refine y_ifb_eq 24 dX12_fair_10 (by decide) (fun c => ?_) (fun c => ?_)
    rotate_left
    · cases c
    refine x_aload_n dX12_fair_24 rfl ?_
    refine y_iconst dX12_fair_25 ?_
    refine (show X _ _ 26 _ _ _ _ _ _ from ?_)
    refine x_callV (As := [_]) (mc := 0) (ms := 0) (z := mX12_refused) (ci := 12) dX12_fair_26 lX12_91 oX12_refused (by decide) (by first | assumption) rfl rfl (Nat.le_of_ble_eq_true rfl) (Nat.le_of_ble_eq_true rfl) rfl (hrf) (k_I ?_)
    refine (show X _ _ 29 _ _ _ _ _ _ from ?_)
    exact x_ireturn dX12_fair_29 rfl (DQ_tr hI1 1 (by decide) _)
  · have hak := k_asks (g := g) (J := J) (z := z) (k := 0) (n := 0) (Wi := Wi) (Ni := Ni) hI1 hNi
    have hgo := fun (E' : Nat → Nat → Int) x => k_good (g := g) (V := V) (E := E') (J := J) (z := z) (k := 0) (n := 0) (x := x) hM
    obtain ⟨⟨hf, hG, hF, hap⟩, ⟨hA, hB, hY4, -⟩, -⟩ := hI.2.2.2.2.2.2 rfl
    rw [if_pos rfl, if_pos rfl]
    obtain ⟨m0, -, -⟩ := id hM
    refine x_aload_n dX12_fair_0 rfl ?_
    refine y_iconst dX12_fair_1 ?_
    refine b_pi0 (r := r) (m := 24) dX12_fair_2 (pX12_85 _) (by first | assumption) (fun _ _ _ => rfl) rfl rfl (by decide) ?_
    refine x_aload_n dX12_fair_5 rfl ?_
    refine (show X _ _ 6 _ _ _ _ _ _ from ?_)
    refine y_iconst dX12_fair_6 ?_
    refine X.val (b := bI true) rfl ?_
    refine (show X _ _ 7 _ _ _ _ _ _ from ?_)
    refine x_callV (As := [_]) (mc := 0) (ms := 0) (z := mX12_asks) (ci := 12) dX12_fair_7 lX12_523 oX12_asks (by decide) (by first | assumption) rfl rfl (Nat.le_of_ble_eq_true rfl) (Nat.le_of_ble_eq_true rfl) rfl (hak) (fun v M1 hq => ?_)
    obtain ⟨rfl, E', rfl, hq⟩ := hq
    refine (show X _ _ 10 _ [.int (iI (bI true))] _ _ _ _ from ?_)
    have hI2 := DI_sc hI1 (RnQ_sc hI1 hq)
    obtain ⟨⟨hRM, hNM, hrc, hhd, -⟩, h6⟩ := hq
    refine y_ifb_eq 24 dX12_fair_10 (by decide) (fun c => ?_) (fun c => ?_)
    · cases c
    have hfa := k_fairNow (g := g) (J := J) (z := z) (k := 0) (n := 0) (W := runTo A B (rBeg A Wi (B 0 0) (B 0 1)) (fY A)) hM hf hG hF hA hB hap (by omega) hRM h6
    refine x_aload_n dX12_fair_13 rfl ?_
    refine x_aload_n dX12_fair_14 rfl ?_
    refine (show X _ _ 15 _ _ _ _ _ _ from ?_)
    refine x_callV (As := []) (mc := 0) (ms := 0) (z := mX12_fairNow) (ci := 12) dX12_fair_15 lX12_530 oX12_fairNow (by decide) (by first | assumption) rfl rfl (Nat.le_of_ble_eq_true rfl) (Nat.le_of_ble_eq_true rfl) rfl (hfa) (k_I ?_)
    refine (show X _ _ 18 _ _ _ _ _ _ from ?_)
    refine x_callV (As := [_]) (mc := 0) (ms := 0) (z := mX12_good) (ci := 12) dX12_fair_18 lX12_95 oX12_good (by decide) (by first | assumption) rfl rfl (Nat.le_of_ble_eq_true rfl) (Nat.le_of_ble_eq_true rfl) rfl (hgo _ _) (k_I ?_)
    refine (show X _ _ 21 _ _ _ _ _ _ from ?_)
    refine x_goto 29 dX12_fair_21 (by decide) ?_
    refine (show X _ _ 29 _ _ _ _ _ _ from ?_)
    exact x_ireturn dX12_fair_29 rfl (DQ_tr hI2 0 (by decide) _)
theorem k_harmOf {p : Int} (hI : DI T R V r f E t tp h A B a m H K wr pl tr) (hp : R32 p) (hNi : NOk Ni) : X g mX12_harmOf 0 [.ref r, .int (iI p)] [] (T, iV (pB V r 24 E), R, J, z) k n (DQ T R J z V r f (some (.int (iI (if noP h A p = true then -1 else hdS (runTo A B (rBeg A Wi (B 0 0) (B 0 1))) (fY A) p.toNat)))) t tp h A B a m H K wr pl (if noP h A p = true then 1 else 0)) := by
  have hM := hI.1
  have hI1 := DI_sc hI (Sc_th hI 0)
  have hip := k_isPerson (g := g) (J := J) (z := z) (k := 0) (n := 0) (p := p) hI1 hp
  cases e : noP h A p
  rotate_left
  · rw [e] at hip
    have hak := k_asks0 (g := g) (J := J) (z := z) (k := 0) (n := 0) (b := !true) hI1 (fun c => by cases c.2)
    have hrf := k_refused (g := g) (V := V) (E := u2 E 0 0 0) (J := J) (z := z) (k := 0) (n := 0) (x := 1) hM
    rw [if_pos rfl, if_pos rfl]
    obtain ⟨m0, ⟨-, -, -, -, -, -, -, -, -, -, -, -, -, -, -, -, -, -, m34, -, -, -, -⟩, ⟨-, -, -, -, -, -, -, -, -, -, -, -, -, -, -, -, -, -, mk19, -, -, -, -⟩⟩ := id hM
    refine x_aload_n dX12_harmOf_0 rfl ?_
    refine y_iconst dX12_harmOf_1 ?_
    refine b_pi0 (r := r) (m := 24) dX12_harmOf_2 (pX12_85 _) (by first | assumption) (fun _ _ _ => rfl) rfl rfl (by decide) ?_
    refine x_aload_n dX12_harmOf_5 rfl ?_
    refine x_aload_n dX12_harmOf_6 rfl ?_
    refine x_iload_n dX12_harmOf_7 rfl ?_
    refine (show X _ _ 8 _ _ _ _ _ _ from ?_)
    refine x_callV (As := [_]) (mc := 0) (ms := 0) (z := mX12_isPerson) (ci := 12) dX12_harmOf_8 lX12_513 oX12_isPerson (by decide) (by first | assumption) rfl rfl (Nat.le_of_ble_eq_true rfl) (Nat.le_of_ble_eq_true rfl) rfl (hip) (k_I ?_)
    refine (show X _ _ 11 _ _ _ _ _ _ from ?_)
    refine x_callV (As := [_]) (mc := 0) (ms := 0) (z := mX12_asks) (ci := 12) dX12_harmOf_11 lX12_523 oX12_asks (by decide) (by first | assumption) rfl rfl (Nat.le_of_ble_eq_true rfl) (Nat.le_of_ble_eq_true rfl) rfl (hak) (k_I ?_)
    refine (show X _ _ 14 _ _ _ _ _ _ from ?_)
    refine y_ifb_eq 30 dX12_harmOf_14 (by decide) (fun c => ?_) (fun c => ?_)
    rotate_left
    · cases c
    refine x_aload_n dX12_harmOf_30 rfl ?_
    refine y_iconst dX12_harmOf_31 ?_
    refine (show X _ _ 32 _ _ _ _ _ _ from ?_)
    refine x_callV (As := [_]) (mc := 0) (ms := 0) (z := mX12_refused) (ci := 12) dX12_harmOf_32 lX12_91 oX12_refused (by decide) (by first | assumption) rfl rfl (Nat.le_of_ble_eq_true rfl) (Nat.le_of_ble_eq_true rfl) rfl (hrf) (k_I ?_)
    refine (show X _ _ 35 _ _ _ _ _ _ from ?_)
    exact x_ireturn dX12_harmOf_35 rfl (DQ_tr hI1 1 (by decide) _)
  · obtain ⟨rfl, e3, e4⟩ := noP_f e
    rw [e] at hip
    have hak := k_asks (g := g) (J := J) (z := z) (k := 0) (n := 0) (Wi := Wi) (Ni := Ni) hI1 hNi
    have hgo := fun (E' : Nat → Nat → Int) x => k_good (g := g) (V := V) (E := E') (J := J) (z := z) (k := 0) (n := 0) (x := x) hM
    obtain ⟨⟨hf, hG, hF, hap⟩, ⟨hA, hB, hY4, -⟩, -⟩ := hI.2.2.2.2.2.2 rfl
    have eP := fP10 hA
    have eS := fS8 hA
    have eY := fY24 hA
    rw [if_neg (by decide), if_neg (by decide)]
    obtain ⟨m0, ⟨-, -, -, -, -, -, -, -, -, -, -, -, -, -, -, -, -, -, m34, -, -, -, -⟩, ⟨-, -, -, -, -, -, -, -, -, -, -, -, -, -, -, -, -, -, mk19, -, -, -, -⟩⟩ := id hM
    refine x_aload_n dX12_harmOf_0 rfl ?_
    refine y_iconst dX12_harmOf_1 ?_
    refine b_pi0 (r := r) (m := 24) dX12_harmOf_2 (pX12_85 _) (by first | assumption) (fun _ _ _ => rfl) rfl rfl (by decide) ?_
    refine x_aload_n dX12_harmOf_5 rfl ?_
    refine x_aload_n dX12_harmOf_6 rfl ?_
    refine x_iload_n dX12_harmOf_7 rfl ?_
    refine (show X _ _ 8 _ _ _ _ _ _ from ?_)
    refine x_callV (As := [_]) (mc := 0) (ms := 0) (z := mX12_isPerson) (ci := 12) dX12_harmOf_8 lX12_513 oX12_isPerson (by decide) (by first | assumption) rfl rfl (Nat.le_of_ble_eq_true rfl) (Nat.le_of_ble_eq_true rfl) rfl (hip) (k_I ?_)
    refine (show X _ _ 11 _ _ _ _ _ _ from ?_)
    refine x_callV (As := [_]) (mc := 0) (ms := 0) (z := mX12_asks) (ci := 12) dX12_harmOf_11 lX12_523 oX12_asks (by decide) (by first | assumption) rfl rfl (Nat.le_of_ble_eq_true rfl) (Nat.le_of_ble_eq_true rfl) rfl (hak) (fun v M1 hq => ?_)
    obtain ⟨rfl, E', rfl, hq⟩ := hq
    refine (show X _ _ 14 _ [.int (iI (bI true))] _ _ _ _ from ?_)
    have hI2 := DI_sc hI1 (RnQ_sc hI1 hq)
    obtain ⟨⟨hRM, hNM, hrc, hhd, -⟩, h6⟩ := hq
    refine y_ifb_eq 30 dX12_harmOf_14 (by decide) (fun c => ?_) (fun c => ?_)
    · cases c

    have hpn : p.toNat < 10 := by omega
    refine x_aload_n dX12_harmOf_17 rfl ?_
    refine x_aload_n dX12_harmOf_18 rfl ?_
    refine x_gr dX12_harmOf_19 fX12_70 (by first | assumption) (fun _ _ _ => rfl) (by first | assumption) ?_
    refine x_iload_n dX12_harmOf_22 rfl ?_
    refine b_iald (r := r) (m := 24) (j := 19) (p.toNat) dX12_harmOf_23 (by first | assumption) (by first | rfl | omega) (by omega) (by decide) (by decide) ?_
    refine (show X _ _ 24 _ _ _ _ _ _ from ?_)
    refine X.val (hhd.1 p.toNat hpn) ?_
    refine x_callV (As := [_]) (mc := 0) (ms := 0) (z := mX12_good) (ci := 12) dX12_harmOf_24 lX12_95 oX12_good (by decide) (by first | assumption) rfl rfl (Nat.le_of_ble_eq_true rfl) (Nat.le_of_ble_eq_true rfl) rfl (hgo _ _) (k_I ?_)
    refine (show X _ _ 27 _ _ _ _ _ _ from ?_)
    refine x_goto 35 dX12_harmOf_27 (by decide) ?_
    refine (show X _ _ 35 _ _ _ _ _ _ from ?_)
    exact x_ireturn dX12_harmOf_35 rfl (DQ_tr hI2 0 (by decide) _)
theorem k_purse {p : Int} (hI : DI T R V r f E t tp h A B a m H K wr pl tr) (hp : R32 p) (hNi : NOk Ni) : X g mX12_purse 0 [.ref r, .int (iI p)] [] (T, iV (pB V r 24 E), R, J, z) k n (DQ T R J z V r f (some (.int (iI (if noP h A p = true then -10000 else runTo A B (rBeg A Wi (B 0 0) (B 0 1)) (fY A) 3 p.toNat)))) t tp h A B a m H K wr pl (if noP h A p = true then 1 else 0)) := by
  have hM := hI.1
  have hI1 := DI_sc hI (Sc_th hI 0)
  have hip := k_isPerson (g := g) (J := J) (z := z) (k := 0) (n := 0) (p := p) hI1 hp
  cases e : noP h A p
  rotate_left
  · rw [e] at hip
    have hak := k_asks0 (g := g) (J := J) (z := z) (k := 0) (n := 0) (b := !true) hI1 (fun c => by cases c.2)
    have hrf := k_refusedFar (g := g) (V := V) (E := u2 E 0 0 0) (J := J) (z := z) (k := 0) (n := 0) (x := 1) hM
    rw [if_pos rfl, if_pos rfl]
    obtain ⟨m0, ⟨-, -, -, -, -, -, -, -, -, -, -, -, -, -, -, -, -, m33, -, -, -, -, -⟩, ⟨-, -, -, -, -, -, -, -, -, -, -, -, -, -, -, -, -, mk18, -, -, -, -, -⟩⟩ := id hM
    refine x_aload_n dX12_purse_0 rfl ?_
    refine y_iconst dX12_purse_1 ?_
    refine b_pi0 (r := r) (m := 24) dX12_purse_2 (pX12_85 _) (by first | assumption) (fun _ _ _ => rfl) rfl rfl (by decide) ?_
    refine x_aload_n dX12_purse_5 rfl ?_
    refine x_aload_n dX12_purse_6 rfl ?_
    refine x_iload_n dX12_purse_7 rfl ?_
    refine (show X _ _ 8 _ _ _ _ _ _ from ?_)
    refine x_callV (As := [_]) (mc := 0) (ms := 0) (z := mX12_isPerson) (ci := 12) dX12_purse_8 lX12_513 oX12_isPerson (by decide) (by first | assumption) rfl rfl (Nat.le_of_ble_eq_true rfl) (Nat.le_of_ble_eq_true rfl) rfl (hip) (k_I ?_)
    refine (show X _ _ 11 _ _ _ _ _ _ from ?_)
    refine x_callV (As := [_]) (mc := 0) (ms := 0) (z := mX12_asks) (ci := 12) dX12_purse_11 lX12_523 oX12_asks (by decide) (by first | assumption) rfl rfl (Nat.le_of_ble_eq_true rfl) (Nat.le_of_ble_eq_true rfl) rfl (hak) (k_I ?_)
    refine (show X _ _ 14 _ _ _ _ _ _ from ?_)
    refine y_ifb_eq 30 dX12_purse_14 (by decide) (fun c => ?_) (fun c => ?_)
    rotate_left
    · cases c
    refine x_aload_n dX12_purse_30 rfl ?_
    refine y_iconst dX12_purse_31 ?_
    refine (show X _ _ 32 _ _ _ _ _ _ from ?_)
    refine x_callV (As := [_]) (mc := 0) (ms := 0) (z := mX12_refusedFar) (ci := 12) dX12_purse_32 lX12_527 oX12_refusedFar (by decide) (by first | assumption) rfl rfl (Nat.le_of_ble_eq_true rfl) (Nat.le_of_ble_eq_true rfl) rfl (hrf) (k_I ?_)
    refine (show X _ _ 35 _ _ _ _ _ _ from ?_)
    exact x_ireturn dX12_purse_35 rfl (DQ_tr hI1 1 (by decide) _)
  · obtain ⟨rfl, e3, e4⟩ := noP_f e
    rw [e] at hip
    have hak := k_asks (g := g) (J := J) (z := z) (k := 0) (n := 0) (Wi := Wi) (Ni := Ni) hI1 hNi
    have hgo := fun (E' : Nat → Nat → Int) x => k_good (g := g) (V := V) (E := E') (J := J) (z := z) (k := 0) (n := 0) (x := x) hM
    obtain ⟨⟨hf, hG, hF, hap⟩, ⟨hA, hB, hY4, -⟩, -⟩ := hI.2.2.2.2.2.2 rfl
    have eP := fP10 hA
    have eS := fS8 hA
    have eY := fY24 hA
    rw [if_neg (by decide), if_neg (by decide)]
    obtain ⟨m0, ⟨-, -, -, -, -, -, -, -, -, -, -, -, -, -, -, -, -, m33, -, -, -, -, -⟩, ⟨-, -, -, -, -, -, -, -, -, -, -, -, -, -, -, -, -, mk18, -, -, -, -, -⟩⟩ := id hM
    refine x_aload_n dX12_purse_0 rfl ?_
    refine y_iconst dX12_purse_1 ?_
    refine b_pi0 (r := r) (m := 24) dX12_purse_2 (pX12_85 _) (by first | assumption) (fun _ _ _ => rfl) rfl rfl (by decide) ?_
    refine x_aload_n dX12_purse_5 rfl ?_
    refine x_aload_n dX12_purse_6 rfl ?_
    refine x_iload_n dX12_purse_7 rfl ?_
    refine (show X _ _ 8 _ _ _ _ _ _ from ?_)
    refine x_callV (As := [_]) (mc := 0) (ms := 0) (z := mX12_isPerson) (ci := 12) dX12_purse_8 lX12_513 oX12_isPerson (by decide) (by first | assumption) rfl rfl (Nat.le_of_ble_eq_true rfl) (Nat.le_of_ble_eq_true rfl) rfl (hip) (k_I ?_)
    refine (show X _ _ 11 _ _ _ _ _ _ from ?_)
    refine x_callV (As := [_]) (mc := 0) (ms := 0) (z := mX12_asks) (ci := 12) dX12_purse_11 lX12_523 oX12_asks (by decide) (by first | assumption) rfl rfl (Nat.le_of_ble_eq_true rfl) (Nat.le_of_ble_eq_true rfl) rfl (hak) (fun v M1 hq => ?_)
    obtain ⟨rfl, E', rfl, hq⟩ := hq
    refine (show X _ _ 14 _ [.int (iI (bI true))] _ _ _ _ from ?_)
    have hI2 := DI_sc hI1 (RnQ_sc hI1 hq)
    obtain ⟨⟨hRM, hNM, hrc, hhd, -⟩, h6⟩ := hq
    refine y_ifb_eq 30 dX12_purse_14 (by decide) (fun c => ?_) (fun c => ?_)
    · cases c

    have hpn : p.toNat < fP A := by omega
    refine x_aload_n dX12_purse_17 rfl ?_
    refine x_aload_n dX12_purse_18 rfl ?_
    refine x_gr dX12_purse_19 fX12_67 (by first | assumption) (fun _ _ _ => rfl) (by first | assumption) ?_
    refine x_iload_n dX12_purse_22 rfl ?_
    refine b_iald (r := r) (m := 24) (j := 18) (p.toNat) dX12_purse_23 (by first | assumption) (by first | rfl | omega) (by omega) (by decide) (by decide) ?_
    refine (show X _ _ 24 _ _ _ _ _ _ from ?_)
    refine X.val (hRM.2.1 p.toNat hpn).2.2 ?_
    refine x_callV (As := [_]) (mc := 0) (ms := 0) (z := mX12_good) (ci := 12) dX12_purse_24 lX12_95 oX12_good (by decide) (by first | assumption) rfl rfl (Nat.le_of_ble_eq_true rfl) (Nat.le_of_ble_eq_true rfl) rfl (hgo _ _) (k_I ?_)
    refine (show X _ _ 27 _ _ _ _ _ _ from ?_)
    refine x_goto 35 dX12_purse_27 (by decide) ?_
    refine (show X _ _ 35 _ _ _ _ _ _ from ?_)
    exact x_ireturn dX12_purse_35 rfl (DQ_tr hI2 0 (by decide) _)
theorem k_first {p : Int} (hI : DI T R V r f E t tp h A B a m H K wr pl tr) (hp : R32 p) (hNi : NOk Ni) : X g mX12_first 0 [.ref r, .int (iI p), jk] [] (T, iV (pB V r 24 E), R, J, z) k n (DQ T R J z V r f (some (.int (iI (if noP h A p = true then -1 else fiC (fun y => decide (runTo A B (rBeg A Wi (B 0 0) (B 0 1)) (fY A) 4 y = p)) (fY A) 0)))) t tp h A B a m H K wr pl (if noP h A p = true then 1 else 0)) := by
  have hM := hI.1
  have hI1 := DI_sc hI (Sc_th hI 0)
  have hip := k_isPerson (g := g) (J := J) (z := z) (k := 0) (n := 0) (p := p) hI1 hp
  cases e : noP h A p
  rotate_left
  · rw [e] at hip
    have hak := k_asks0 (g := g) (J := J) (z := z) (k := 0) (n := 0) (b := !true) hI1 (fun c => by cases c.2)
    have hrf := k_refused (g := g) (V := V) (E := u2 E 0 0 0) (J := J) (z := z) (k := 0) (n := 0) (x := 1) hM
    rw [if_pos rfl, if_pos rfl]
    obtain ⟨m0, ⟨-, -, -, -, m20, -, -, -, -, -, -, -, -, -, -, -, -, -, -, -, -, -, -⟩, ⟨-, -, -, -, mk5, -, -, -, -, -, -, -, -, -, -, -, -, -, -, -, -, -, -⟩⟩ := id hM
    refine x_aload_n dX12_first_0 rfl ?_
    refine y_iconst dX12_first_1 ?_
    refine b_pi0 (r := r) (m := 24) dX12_first_2 (pX12_85 _) (by first | assumption) (fun _ _ _ => rfl) rfl rfl (by decide) ?_
    refine x_aload_n dX12_first_5 rfl ?_
    refine x_aload_n dX12_first_6 rfl ?_
    refine x_iload_n dX12_first_7 rfl ?_
    refine (show X _ _ 8 _ _ _ _ _ _ from ?_)
    refine x_callV (As := [_]) (mc := 0) (ms := 0) (z := mX12_isPerson) (ci := 12) dX12_first_8 lX12_513 oX12_isPerson (by decide) (by first | assumption) rfl rfl (Nat.le_of_ble_eq_true rfl) (Nat.le_of_ble_eq_true rfl) rfl (hip) (k_I ?_)
    refine (show X _ _ 11 _ _ _ _ _ _ from ?_)
    refine x_callV (As := [_]) (mc := 0) (ms := 0) (z := mX12_asks) (ci := 12) dX12_first_11 lX12_523 oX12_asks (by decide) (by first | assumption) rfl rfl (Nat.le_of_ble_eq_true rfl) (Nat.le_of_ble_eq_true rfl) rfl (hak) (k_I ?_)
    refine (show X _ _ 14 _ _ _ _ _ _ from ?_)
    refine y_ifb_ne 23 dX12_first_14 (by decide) (fun c => ?_) (fun c => ?_)
    · cases c

    refine x_aload_n dX12_first_17 rfl ?_
    refine y_iconst dX12_first_18 ?_
    refine (show X _ _ 19 _ _ _ _ _ _ from ?_)
    refine x_callV (As := [_]) (mc := 0) (ms := 0) (z := mX12_refused) (ci := 12) dX12_first_19 lX12_91 oX12_refused (by decide) (by first | assumption) rfl rfl (Nat.le_of_ble_eq_true rfl) (Nat.le_of_ble_eq_true rfl) rfl (hrf) (k_I ?_)
    refine (show X _ _ 22 _ _ _ _ _ _ from ?_)
    exact x_ireturn dX12_first_22 rfl (DQ_tr hI1 1 (by decide) _)
  · obtain ⟨rfl, e3, e4⟩ := noP_f e
    rw [e] at hip
    have hak := k_asks (g := g) (J := J) (z := z) (k := 0) (n := 0) (Wi := Wi) (Ni := Ni) hI1 hNi
    have hgo := fun (E' : Nat → Nat → Int) x => k_good (g := g) (V := V) (E := E') (J := J) (z := z) (k := 0) (n := 0) (x := x) hM
    obtain ⟨⟨hf, hG, hF, hap⟩, ⟨hA, hB, hY4, -⟩, -⟩ := hI.2.2.2.2.2.2 rfl
    have eP := fP10 hA
    have eS := fS8 hA
    have eY := fY24 hA
    rw [if_neg (by decide), if_neg (by decide)]
    obtain ⟨m0, ⟨-, -, -, -, m20, -, -, -, -, -, -, -, -, -, -, -, -, -, -, -, -, -, -⟩, ⟨-, -, -, -, mk5, -, -, -, -, -, -, -, -, -, -, -, -, -, -, -, -, -, -⟩⟩ := id hM
    refine x_aload_n dX12_first_0 rfl ?_
    refine y_iconst dX12_first_1 ?_
    refine b_pi0 (r := r) (m := 24) dX12_first_2 (pX12_85 _) (by first | assumption) (fun _ _ _ => rfl) rfl rfl (by decide) ?_
    refine x_aload_n dX12_first_5 rfl ?_
    refine x_aload_n dX12_first_6 rfl ?_
    refine x_iload_n dX12_first_7 rfl ?_
    refine (show X _ _ 8 _ _ _ _ _ _ from ?_)
    refine x_callV (As := [_]) (mc := 0) (ms := 0) (z := mX12_isPerson) (ci := 12) dX12_first_8 lX12_513 oX12_isPerson (by decide) (by first | assumption) rfl rfl (Nat.le_of_ble_eq_true rfl) (Nat.le_of_ble_eq_true rfl) rfl (hip) (k_I ?_)
    refine (show X _ _ 11 _ _ _ _ _ _ from ?_)
    refine x_callV (As := [_]) (mc := 0) (ms := 0) (z := mX12_asks) (ci := 12) dX12_first_11 lX12_523 oX12_asks (by decide) (by first | assumption) rfl rfl (Nat.le_of_ble_eq_true rfl) (Nat.le_of_ble_eq_true rfl) rfl (hak) (fun v M1 hq => ?_)
    obtain ⟨rfl, E', rfl, hq⟩ := hq
    refine (show X _ _ 14 _ [.int (iI (bI true))] _ _ _ _ from ?_)
    have hI2 := DI_sc hI1 (RnQ_sc hI1 hq)
    obtain ⟨⟨hRM, hNM, hrc, hhd, -⟩, h6⟩ := hq
    refine y_ifb_ne 23 dX12_first_14 (by decide) (fun c => ?_) (fun c => ?_)
    rotate_left
    · cases c
    have g0 := hG.1
    have e0 := hF.1 0 (by decide)
    have hel := hRM.2.2.2.2.1
    have hA3 := hA.2.2.2.1
    unfold apF at hap
    generalize runTo A B (rBeg A Wi (B 0 0) (B 0 1)) (fY A) = W at *
    refine y_iconst dX12_first_23 ?_
    refine x_istore_n dX12_first_24 (by decide) rfl rfl ?_
    refine (show X _ _ 25 _ _ _ _ _ _ from ?_)
    refine loopN (P := fun i => fiC (fun y => decide (W 4 y = p)) (fY A) 0 = fiC (fun y => decide (W 4 y = p)) (fY A - i) i → X g mX12_first 25 [.ref r, .int (iI p), .int (iI (i : Int))] [] (T, iV (pB V r 24 E'), R, J, z) k n (DQ T R J z V r f (some (.int (iI (fiC (fun y => decide (W 4 y = p)) (fY A) 0)))) t tp true A B a m H K wr pl (0))) (fY A) ?_ (fun i hi ih => ?_) rfl
    · intro he
      rw [he, Nat.sub_self]
      refine x_iload_n dX12_first_25 rfl ?_
      refine x_aload_n dX12_first_26 rfl ?_
      refine x_gr dX12_first_27 fX12_409 (by first | assumption) (fun _ _ _ => rfl) (by first | assumption) ?_
      refine b_gio (r := r) (m := 24) dX12_first_30 fX12_176 (by first | assumption) (fun _ _ _ => rfl) (by omega) ?_
      refine (show X _ _ 33 _ _ _ _ _ _ from ?_)
      refine X.val e0 ?_
      refine y_icmp_ge 58 dX12_first_33 (by decide) ⟨by omega, by omega⟩ ⟨by omega, by omega⟩ (fun h1 => ?_) (fun h1 => ?_)
      rotate_left
      · omega
      refine x_aload_n dX12_first_58 rfl ?_
      refine y_bipush dX12_first_59 rfl ?_
      refine (show X _ _ 61 _ _ _ _ _ _ from ?_)
      refine x_callV (As := [_]) (mc := 0) (ms := 0) (z := mX12_good) (ci := 12) dX12_first_61 lX12_95 oX12_good (by decide) (by first | assumption) rfl rfl (Nat.le_of_ble_eq_true rfl) (Nat.le_of_ble_eq_true rfl) rfl (hgo _ _) (k_I ?_)
      refine (show X _ _ 64 _ _ _ _ _ _ from ?_)
      exact x_ireturn dX12_first_64 rfl (DQ_tr hI2 0 (by decide) _)
    · intro he
      have es : fiC (fun y => decide (W 4 y = p)) (fY A - i) i = if decide (W 4 i = p) = true then (i : Int) else fiC (fun y => decide (W 4 y = p)) (fY A - (i + 1)) (i + 1) := by
        rw [show fY A - i = (fY A - (i + 1)) + 1 by omega]; rfl
      obtain ⟨d1, d2, d3⟩ := hel i hi
      refine x_iload_n dX12_first_25 rfl ?_
      refine x_aload_n dX12_first_26 rfl ?_
      refine x_gr dX12_first_27 fX12_409 (by first | assumption) (fun _ _ _ => rfl) (by first | assumption) ?_
      refine b_gio (r := r) (m := 24) dX12_first_30 fX12_176 (by first | assumption) (fun _ _ _ => rfl) (by omega) ?_
      refine (show X _ _ 33 _ _ _ _ _ _ from ?_)
      refine X.val e0 ?_
      refine y_icmp_ge 58 dX12_first_33 (by decide) ⟨by omega, by omega⟩ ⟨by omega, by omega⟩ (fun h1 => ?_) (fun h1 => ?_)
      · omega
      refine x_aload_n dX12_first_36 rfl ?_
      refine x_gr dX12_first_37 fX12_27 (by first | assumption) (fun _ _ _ => rfl) (by first | assumption) ?_
      refine x_iload_n dX12_first_40 rfl ?_
      refine b_iald (r := r) (m := 24) (j := 5) (i) dX12_first_41 (by first | assumption) (by first | rfl | omega) (by omega) (by decide) (by decide) ?_
      refine (show X _ _ 42 _ _ _ _ _ _ from ?_)
      refine X.val d1 ?_
      refine x_iload_n dX12_first_42 rfl ?_
      refine (show X _ _ 43 _ _ _ _ _ _ from ?_)
      refine y_icmp_ne 52 dX12_first_43 (by decide) ⟨by omega, by omega⟩ ⟨by omega, by omega⟩ (fun h2 => ?_) (fun h2 => ?_)
      · rw [es, if_neg (by rw [decide_eq_false h2]; decide)] at he
        refine y_iinc dX12_first_52 rfl (by decide) rfl rfl ?_
        refine x_goto 25 dX12_first_55 (by decide) ?_
        refine (show X _ _ 25 _ _ _ _ _ _ from ?_)
        exact ih he
      · rw [es, if_pos (decide_eq_true h2)] at he
        rw [he]
        refine x_aload_n dX12_first_46 rfl ?_
        refine x_iload_n dX12_first_47 rfl ?_
        refine (show X _ _ 48 _ _ _ _ _ _ from ?_)
        refine x_callV (As := [_]) (mc := 0) (ms := 0) (z := mX12_good) (ci := 12) dX12_first_48 lX12_95 oX12_good (by decide) (by first | assumption) rfl rfl (Nat.le_of_ble_eq_true rfl) (Nat.le_of_ble_eq_true rfl) rfl (hgo _ _) (k_I ?_)
        refine (show X _ _ 51 _ _ _ _ _ _ from ?_)
        exact x_ireturn dX12_first_51 rfl (DQ_tr hI2 0 (by decide) _)
theorem k_last {p : Int} (hI : DI T R V r f E t tp h A B a m H K wr pl tr) (hp : R32 p) (hNi : NOk Ni) : X g mX12_last 0 [.ref r, .int (iI p), jk] [] (T, iV (pB V r 24 E), R, J, z) k n (DQ T R J z V r f (some (.int (iI (if noP h A p = true then -1 else laC (fun y => decide (runTo A B (rBeg A Wi (B 0 0) (B 0 1)) (fY A) 4 y = p)) (fY A))))) t tp h A B a m H K wr pl (if noP h A p = true then 1 else 0)) := by
  have hM := hI.1
  have hI1 := DI_sc hI (Sc_th hI 0)
  have hip := k_isPerson (g := g) (J := J) (z := z) (k := 0) (n := 0) (p := p) hI1 hp
  cases e : noP h A p
  rotate_left
  · rw [e] at hip
    have hak := k_asks0 (g := g) (J := J) (z := z) (k := 0) (n := 0) (b := !true) hI1 (fun c => by cases c.2)
    have hrf := k_refused (g := g) (V := V) (E := u2 E 0 0 0) (J := J) (z := z) (k := 0) (n := 0) (x := 1) hM
    rw [if_pos rfl, if_pos rfl]
    obtain ⟨m0, ⟨-, -, -, -, m20, -, -, -, -, -, -, -, -, -, -, -, -, -, -, -, -, -, -⟩, ⟨-, -, -, -, mk5, -, -, -, -, -, -, -, -, -, -, -, -, -, -, -, -, -, -⟩⟩ := id hM
    refine x_aload_n dX12_last_0 rfl ?_
    refine y_iconst dX12_last_1 ?_
    refine b_pi0 (r := r) (m := 24) dX12_last_2 (pX12_85 _) (by first | assumption) (fun _ _ _ => rfl) rfl rfl (by decide) ?_
    refine x_aload_n dX12_last_5 rfl ?_
    refine x_aload_n dX12_last_6 rfl ?_
    refine x_iload_n dX12_last_7 rfl ?_
    refine (show X _ _ 8 _ _ _ _ _ _ from ?_)
    refine x_callV (As := [_]) (mc := 0) (ms := 0) (z := mX12_isPerson) (ci := 12) dX12_last_8 lX12_513 oX12_isPerson (by decide) (by first | assumption) rfl rfl (Nat.le_of_ble_eq_true rfl) (Nat.le_of_ble_eq_true rfl) rfl (hip) (k_I ?_)
    refine (show X _ _ 11 _ _ _ _ _ _ from ?_)
    refine x_callV (As := [_]) (mc := 0) (ms := 0) (z := mX12_asks) (ci := 12) dX12_last_11 lX12_523 oX12_asks (by decide) (by first | assumption) rfl rfl (Nat.le_of_ble_eq_true rfl) (Nat.le_of_ble_eq_true rfl) rfl (hak) (k_I ?_)
    refine (show X _ _ 14 _ _ _ _ _ _ from ?_)
    refine y_ifb_ne 23 dX12_last_14 (by decide) (fun c => ?_) (fun c => ?_)
    · cases c

    refine x_aload_n dX12_last_17 rfl ?_
    refine y_iconst dX12_last_18 ?_
    refine (show X _ _ 19 _ _ _ _ _ _ from ?_)
    refine x_callV (As := [_]) (mc := 0) (ms := 0) (z := mX12_refused) (ci := 12) dX12_last_19 lX12_91 oX12_refused (by decide) (by first | assumption) rfl rfl (Nat.le_of_ble_eq_true rfl) (Nat.le_of_ble_eq_true rfl) rfl (hrf) (k_I ?_)
    refine (show X _ _ 22 _ _ _ _ _ _ from ?_)
    exact x_ireturn dX12_last_22 rfl (DQ_tr hI1 1 (by decide) _)
  · obtain ⟨rfl, e3, e4⟩ := noP_f e
    rw [e] at hip
    have hak := k_asks (g := g) (J := J) (z := z) (k := 0) (n := 0) (Wi := Wi) (Ni := Ni) hI1 hNi
    have hgo := fun (E' : Nat → Nat → Int) x => k_good (g := g) (V := V) (E := E') (J := J) (z := z) (k := 0) (n := 0) (x := x) hM
    obtain ⟨⟨hf, hG, hF, hap⟩, ⟨hA, hB, hY4, -⟩, -⟩ := hI.2.2.2.2.2.2 rfl
    have eP := fP10 hA
    have eS := fS8 hA
    have eY := fY24 hA
    rw [if_neg (by decide), if_neg (by decide)]
    obtain ⟨m0, ⟨-, -, -, -, m20, -, -, -, -, -, -, -, -, -, -, -, -, -, -, -, -, -, -⟩, ⟨-, -, -, -, mk5, -, -, -, -, -, -, -, -, -, -, -, -, -, -, -, -, -, -⟩⟩ := id hM
    refine x_aload_n dX12_last_0 rfl ?_
    refine y_iconst dX12_last_1 ?_
    refine b_pi0 (r := r) (m := 24) dX12_last_2 (pX12_85 _) (by first | assumption) (fun _ _ _ => rfl) rfl rfl (by decide) ?_
    refine x_aload_n dX12_last_5 rfl ?_
    refine x_aload_n dX12_last_6 rfl ?_
    refine x_iload_n dX12_last_7 rfl ?_
    refine (show X _ _ 8 _ _ _ _ _ _ from ?_)
    refine x_callV (As := [_]) (mc := 0) (ms := 0) (z := mX12_isPerson) (ci := 12) dX12_last_8 lX12_513 oX12_isPerson (by decide) (by first | assumption) rfl rfl (Nat.le_of_ble_eq_true rfl) (Nat.le_of_ble_eq_true rfl) rfl (hip) (k_I ?_)
    refine (show X _ _ 11 _ _ _ _ _ _ from ?_)
    refine x_callV (As := [_]) (mc := 0) (ms := 0) (z := mX12_asks) (ci := 12) dX12_last_11 lX12_523 oX12_asks (by decide) (by first | assumption) rfl rfl (Nat.le_of_ble_eq_true rfl) (Nat.le_of_ble_eq_true rfl) rfl (hak) (fun v M1 hq => ?_)
    obtain ⟨rfl, E', rfl, hq⟩ := hq
    refine (show X _ _ 14 _ [.int (iI (bI true))] _ _ _ _ from ?_)
    have hI2 := DI_sc hI1 (RnQ_sc hI1 hq)
    obtain ⟨⟨hRM, hNM, hrc, hhd, -⟩, h6⟩ := hq
    refine y_ifb_ne 23 dX12_last_14 (by decide) (fun c => ?_) (fun c => ?_)
    rotate_left
    · cases c
    have g0 := hG.1
    have e0 := hF.1 0 (by decide)
    have hel := hRM.2.2.2.2.1
    have hA3 := hA.2.2.2.1
    unfold apF at hap
    generalize runTo A B (rBeg A Wi (B 0 0) (B 0 1)) (fY A) = W at *
    have loop : ∀ i : Nat, i ≤ fY A → laC (fun y => decide (W 4 y = p)) (fY A) = laC (fun y => decide (W 4 y = p)) i → X g mX12_last 33 [.ref r, .int (iI p), .int (iI ((i : Int) - 1))] [] (T, iV (pB V r 24 E'), R, J, z) k n (DQ T R J z V r f (some (.int (iI (laC (fun y => decide (W 4 y = p)) (fY A))))) t tp true A B a m H K wr pl (0)) := by
      intro i
      induction i with
      | zero =>
        intro _ he
        rw [he]
        refine x_iload_n dX12_last_33 rfl ?_
        refine (show X _ _ 34 _ _ _ _ _ _ from ?_)
        refine y_if_lt 59 dX12_last_34 (by decide) ⟨by omega, by omega⟩ (fun h1 => ?_) (fun h1 => ?_)
        rotate_left
        · omega
        refine x_aload_n dX12_last_59 rfl ?_
        refine y_bipush dX12_last_60 rfl ?_
        refine (show X _ _ 62 _ _ _ _ _ _ from ?_)
        refine x_callV (As := [_]) (mc := 0) (ms := 0) (z := mX12_good) (ci := 12) dX12_last_62 lX12_95 oX12_good (by decide) (by first | assumption) rfl rfl (Nat.le_of_ble_eq_true rfl) (Nat.le_of_ble_eq_true rfl) rfl (hgo _ _) (k_I ?_)
        refine (show X _ _ 65 _ _ _ _ _ _ from ?_)
        exact x_ireturn dX12_last_65 rfl (DQ_tr hI2 0 (by decide) _)
      | succ i ih =>
        intro hi he
        have es : laC (fun y => decide (W 4 y = p)) (i + 1) = if decide (W 4 i = p) = true then (i : Int) else laC (fun y => decide (W 4 y = p)) i := rfl
        obtain ⟨d1, d2, d3⟩ := hel i (by omega)
        refine X.mono (Q := (DQ T R J z V r f (some (.int (iI (laC (fun y => decide (W 4 y = p)) (fY A))))) t tp true A B a m H K wr pl (0))) ?_ (fun _ _ h => h)
        rw [show (((i + 1 : Nat) : Int) - 1) = (i : Int) by omega]
        refine x_iload_n dX12_last_33 rfl ?_
        refine (show X _ _ 34 _ _ _ _ _ _ from ?_)
        refine y_if_lt 59 dX12_last_34 (by decide) ⟨by omega, by omega⟩ (fun h1 => ?_) (fun h1 => ?_)
        · omega
        refine x_aload_n dX12_last_37 rfl ?_
        refine x_gr dX12_last_38 fX12_27 (by first | assumption) (fun _ _ _ => rfl) (by first | assumption) ?_
        refine x_iload_n dX12_last_41 rfl ?_
        refine b_iald (r := r) (m := 24) (j := 5) (i) dX12_last_42 (by first | assumption) (by first | rfl | omega) (by omega) (by decide) (by decide) ?_
        refine (show X _ _ 43 _ _ _ _ _ _ from ?_)
        refine X.val d1 ?_
        refine x_iload_n dX12_last_43 rfl ?_
        refine (show X _ _ 44 _ _ _ _ _ _ from ?_)
        refine y_icmp_ne 53 dX12_last_44 (by decide) ⟨by omega, by omega⟩ ⟨by omega, by omega⟩ (fun h2 => ?_) (fun h2 => ?_)
        · rw [es, if_neg (by rw [decide_eq_false h2]; decide)] at he
          refine y_iinc dX12_last_53 rfl (by decide) rfl rfl ?_
          refine x_goto 33 dX12_last_56 (by decide) ?_
          refine (show X _ _ 33 _ _ _ _ _ _ from ?_)
          exact ih (by omega) he
        · rw [es, if_pos (decide_eq_true h2)] at he
          rw [he]
          refine x_aload_n dX12_last_47 rfl ?_
          refine x_iload_n dX12_last_48 rfl ?_
          refine (show X _ _ 49 _ _ _ _ _ _ from ?_)
          refine x_callV (As := [_]) (mc := 0) (ms := 0) (z := mX12_good) (ci := 12) dX12_last_49 lX12_95 oX12_good (by decide) (by first | assumption) rfl rfl (Nat.le_of_ble_eq_true rfl) (Nat.le_of_ble_eq_true rfl) rfl (hgo _ _) (k_I ?_)
          refine (show X _ _ 52 _ _ _ _ _ _ from ?_)
          exact x_ireturn dX12_last_52 rfl (DQ_tr hI2 0 (by decide) _)
    refine x_aload_n dX12_last_23 rfl ?_
    refine x_gr dX12_last_24 fX12_409 (by first | assumption) (fun _ _ _ => rfl) (by first | assumption) ?_
    refine b_gio (r := r) (m := 24) dX12_last_27 fX12_176 (by first | assumption) (fun _ _ _ => rfl) (by omega) ?_
    refine (show X _ _ 30 _ _ _ _ _ _ from ?_)
    refine X.val e0 ?_
    refine y_iconst dX12_last_30 ?_
    refine y_isub dX12_last_31 ?_
    refine x_istore_n dX12_last_32 (by decide) rfl rfl ?_
    refine (show X _ _ 33 _ _ _ _ _ _ from ?_)
    have := loop (fY A) (Nat.le_refl _) rfl
    rw [eY.1] at this
    exact this
theorem k_know {p : Int} (hI : DI T R V r f E t tp h A B a m H K wr pl tr) (hp : R32 p) (hNi : NOk Ni) : X g mX12_know 0 [.ref r, .int (iI p), jk, jk] [] (T, iV (pB V r 24 E), R, J, z) k n (DQ T R J z V r f (some (.int (iI (if noS h A p = true then -1 else lp (fP A) (fun q c => if (nTo A B (rBeg A Wi (B 0 0) (B 0 1)) (nBeg A Ni) (fY A) 1 q).toNat.testBit p.toNat then c + 1 else c) 0)))) t tp h A B a m H K wr pl (if noS h A p = true then 1 else 0)) := by
  have hM := hI.1
  have hI1 := DI_sc hI (Sc_th hI 0)
  have hip := k_isSecret (g := g) (J := J) (z := z) (k := 0) (n := 0) (p := p) hI1 hp
  cases e : noS h A p
  rotate_left
  · rw [e] at hip
    have hak := k_asks0 (g := g) (J := J) (z := z) (k := 0) (n := 0) (b := !true) hI1 (fun c => by cases c.2)
    have hrf := k_refused (g := g) (V := V) (E := u2 E 0 0 0) (J := J) (z := z) (k := 0) (n := 0) (x := 1) hM
    rw [if_pos rfl, if_pos rfl]
    obtain ⟨m0, ⟨-, -, -, -, -, -, -, -, -, -, -, -, -, -, -, -, m32, -, -, -, -, -, -⟩, ⟨-, -, -, -, -, -, -, -, -, -, -, -, -, -, -, -, mk17, -, -, -, -, -, -⟩⟩ := id hM
    refine x_aload_n dX12_know_0 rfl ?_
    refine y_iconst dX12_know_1 ?_
    refine b_pi0 (r := r) (m := 24) dX12_know_2 (pX12_85 _) (by first | assumption) (fun _ _ _ => rfl) rfl rfl (by decide) ?_
    refine x_aload_n dX12_know_5 rfl ?_
    refine x_aload_n dX12_know_6 rfl ?_
    refine x_iload_n dX12_know_7 rfl ?_
    refine (show X _ _ 8 _ _ _ _ _ _ from ?_)
    refine x_callV (As := [_]) (mc := 0) (ms := 0) (z := mX12_isSecretNumber) (ci := 12) dX12_know_8 lX12_516 oX12_isSecretNumber (by decide) (by first | assumption) rfl rfl (Nat.le_of_ble_eq_true rfl) (Nat.le_of_ble_eq_true rfl) rfl (hip) (k_I ?_)
    refine (show X _ _ 11 _ _ _ _ _ _ from ?_)
    refine x_callV (As := [_]) (mc := 0) (ms := 0) (z := mX12_asks) (ci := 12) dX12_know_11 lX12_523 oX12_asks (by decide) (by first | assumption) rfl rfl (Nat.le_of_ble_eq_true rfl) (Nat.le_of_ble_eq_true rfl) rfl (hak) (k_I ?_)
    refine (show X _ _ 14 _ _ _ _ _ _ from ?_)
    refine y_ifb_ne 23 dX12_know_14 (by decide) (fun c => ?_) (fun c => ?_)
    · cases c

    refine x_aload_n dX12_know_17 rfl ?_
    refine y_iconst dX12_know_18 ?_
    refine (show X _ _ 19 _ _ _ _ _ _ from ?_)
    refine x_callV (As := [_]) (mc := 0) (ms := 0) (z := mX12_refused) (ci := 12) dX12_know_19 lX12_91 oX12_refused (by decide) (by first | assumption) rfl rfl (Nat.le_of_ble_eq_true rfl) (Nat.le_of_ble_eq_true rfl) rfl (hrf) (k_I ?_)
    refine (show X _ _ 22 _ _ _ _ _ _ from ?_)
    exact x_ireturn dX12_know_22 rfl (DQ_tr hI1 1 (by decide) _)
  · obtain ⟨rfl, e3, e4⟩ := noS_f e
    rw [e] at hip
    have hak := k_asks (g := g) (J := J) (z := z) (k := 0) (n := 0) (Wi := Wi) (Ni := Ni) hI1 hNi
    have hgo := fun (E' : Nat → Nat → Int) x => k_good (g := g) (V := V) (E := E') (J := J) (z := z) (k := 0) (n := 0) (x := x) hM
    obtain ⟨⟨hf, hG, hF, hap⟩, ⟨hA, hB, hY4, -⟩, -⟩ := hI.2.2.2.2.2.2 rfl
    have eP := fP10 hA
    have eS := fS8 hA
    have eY := fY24 hA
    rw [if_neg (by decide), if_neg (by decide)]
    obtain ⟨m0, ⟨-, -, -, -, -, -, -, -, -, -, -, -, -, -, -, -, m32, -, -, -, -, -, -⟩, ⟨-, -, -, -, -, -, -, -, -, -, -, -, -, -, -, -, mk17, -, -, -, -, -, -⟩⟩ := id hM
    refine x_aload_n dX12_know_0 rfl ?_
    refine y_iconst dX12_know_1 ?_
    refine b_pi0 (r := r) (m := 24) dX12_know_2 (pX12_85 _) (by first | assumption) (fun _ _ _ => rfl) rfl rfl (by decide) ?_
    refine x_aload_n dX12_know_5 rfl ?_
    refine x_aload_n dX12_know_6 rfl ?_
    refine x_iload_n dX12_know_7 rfl ?_
    refine (show X _ _ 8 _ _ _ _ _ _ from ?_)
    refine x_callV (As := [_]) (mc := 0) (ms := 0) (z := mX12_isSecretNumber) (ci := 12) dX12_know_8 lX12_516 oX12_isSecretNumber (by decide) (by first | assumption) rfl rfl (Nat.le_of_ble_eq_true rfl) (Nat.le_of_ble_eq_true rfl) rfl (hip) (k_I ?_)
    refine (show X _ _ 11 _ _ _ _ _ _ from ?_)
    refine x_callV (As := [_]) (mc := 0) (ms := 0) (z := mX12_asks) (ci := 12) dX12_know_11 lX12_523 oX12_asks (by decide) (by first | assumption) rfl rfl (Nat.le_of_ble_eq_true rfl) (Nat.le_of_ble_eq_true rfl) rfl (hak) (fun v M1 hq => ?_)
    obtain ⟨rfl, E', rfl, hq⟩ := hq
    refine (show X _ _ 14 _ [.int (iI (bI true))] _ _ _ _ from ?_)
    have hI2 := DI_sc hI1 (RnQ_sc hI1 hq)
    obtain ⟨⟨hRM, hNM, hrc, hhd, -⟩, h6⟩ := hq
    refine y_ifb_ne 23 dX12_know_14 (by decide) (fun c => ?_) (fun c => ?_)
    rotate_left
    · cases c
    have g0 := hG.1
    have e3' := hF.1 3 (by decide)
    have hA3 := hA.2.2.2.1
    have hA6 := hA.2.2.2.2.2.2.1
    unfold apF at hap
    obtain ⟨-, n2, -, n4, -⟩ := hNM
    generalize nTo A B (rBeg A Wi (B 0 0) (B 0 1)) (nBeg A Ni) (fY A) = N at *
    have hbt := fun q (hq : q < 10) => c_bit g (N 1 q).toNat p.toNat (T, iV (pB V r 24 E'), R, J, z) 0 0 (by have := n4.2.1 q hq; omega) (by omega)
    rw [Int.toNat_of_nonneg e3] at hbt
    refine y_iconst dX12_know_23 ?_
    refine x_istore_n dX12_know_24 (by decide) rfl rfl ?_
    refine y_iconst dX12_know_25 ?_
    refine x_istore_n dX12_know_26 (by decide) rfl rfl ?_
    refine (show X _ _ 27 _ _ _ _ _ _ from ?_)
    refine loopN (P := fun i => X g mX12_know 27 [.ref r, .int (iI p), .int (iI (lp i (fun q c => if (N 1 q).toNat.testBit p.toNat then c + 1 else c) 0)), .int (iI (i : Int))] [] (T, iV (pB V r 24 E'), R, J, z) k n (DQ T R J z V r f (some (.int (iI (lp (fP A) (fun q c => if (N 1 q).toNat.testBit p.toNat then c + 1 else c) 0)))) t tp true A B a m H K wr pl (0))) (fP A) ?_ (fun i hi ih => ?_)
    · refine x_iload_n dX12_know_27 rfl ?_
      refine x_aload_n dX12_know_28 rfl ?_
      refine x_gr dX12_know_29 fX12_409 (by first | assumption) (fun _ _ _ => rfl) (by first | assumption) ?_
      refine b_gio (r := r) (m := 24) dX12_know_32 fX12_230 (by first | assumption) (fun _ _ _ => rfl) (by omega) ?_
      refine (show X _ _ 35 _ _ _ _ _ _ from ?_)
      refine X.val e3' ?_
      refine y_icmp_ge 65 dX12_know_35 (by decide) ⟨by omega, by omega⟩ ⟨by omega, by omega⟩ (fun h1 => ?_) (fun h1 => ?_)
      rotate_left
      · omega
      refine x_aload_n dX12_know_65 rfl ?_
      refine x_iload_n dX12_know_66 rfl ?_
      refine (show X _ _ 67 _ _ _ _ _ _ from ?_)
      refine x_callV (As := [_]) (mc := 0) (ms := 0) (z := mX12_good) (ci := 12) dX12_know_67 lX12_95 oX12_good (by decide) (by first | assumption) rfl rfl (Nat.le_of_ble_eq_true rfl) (Nat.le_of_ble_eq_true rfl) rfl (hgo _ _) (k_I ?_)
      refine (show X _ _ 70 _ _ _ _ _ _ from ?_)
      exact x_ireturn dX12_know_70 rfl (DQ_tr hI2 0 (by decide) _)
    · have e17 : E' 17 i = ((N 1 i).toNat : Int) := by rw [n2 i (by omega)]; have := n4.2.1 i (by omega); omega
      rw [lp_s] at ih
      refine x_iload_n dX12_know_27 rfl ?_
      refine x_aload_n dX12_know_28 rfl ?_
      refine x_gr dX12_know_29 fX12_409 (by first | assumption) (fun _ _ _ => rfl) (by first | assumption) ?_
      refine b_gio (r := r) (m := 24) dX12_know_32 fX12_230 (by first | assumption) (fun _ _ _ => rfl) (by omega) ?_
      refine (show X _ _ 35 _ _ _ _ _ _ from ?_)
      refine X.val e3' ?_
      refine y_icmp_ge 65 dX12_know_35 (by decide) ⟨by omega, by omega⟩ ⟨by omega, by omega⟩ (fun h1 => ?_) (fun h1 => ?_)
      · omega
      refine x_iload_n dX12_know_38 rfl ?_
      refine x_aload_n dX12_know_39 rfl ?_
      refine x_gr dX12_know_40 fX12_64 (by first | assumption) (fun _ _ _ => rfl) (by first | assumption) ?_
      refine x_iload_n dX12_know_43 rfl ?_
      refine b_iald (r := r) (m := 24) (j := 17) (i) dX12_know_44 (by first | assumption) (by first | rfl | omega) (by omega) (by decide) (by decide) ?_
      refine (show X _ _ 45 _ _ _ _ _ _ from ?_)
      refine X.val e17 ?_
      refine x_iload_n dX12_know_45 rfl ?_
      refine (show X _ _ 46 _ _ _ _ _ _ from ?_)
      refine x_callS (As := [_, _]) (mc := 0) (ms := 0) (z := mX12_bit) dX12_know_46 lX12_386 oX12_bit (by decide) rfl (Nat.le_of_ble_eq_true rfl) (Nat.le_of_ble_eq_true rfl) rfl (hbt i (by omega)) (k_I ?_)
      refine (show X _ _ 49 _ _ _ _ _ _ from ?_)
      refine y_ifb_eq 56 dX12_know_49 (by decide) (fun h2 => ?_) (fun h2 => ?_)
      · rw [h2, if_neg (by decide)] at ih
        refine y_iconst dX12_know_56 ?_
        refine y_iadd dX12_know_57 ?_
        refine (show X _ _ 58 _ _ _ _ _ _ from ?_)
        rw [Int.add_zero]
        refine x_istore_n dX12_know_58 (by decide) rfl rfl ?_
        refine y_iinc dX12_know_59 rfl (by decide) rfl rfl ?_
        refine x_goto 27 dX12_know_62 (by decide) ?_
        refine (show X _ _ 27 _ _ _ _ _ _ from ?_)
        exact ih
      · rw [h2, if_pos rfl] at ih
        refine y_iconst dX12_know_52 ?_
        refine x_goto 57 dX12_know_53 (by decide) ?_
        refine y_iadd dX12_know_57 ?_
        refine x_istore_n dX12_know_58 (by decide) rfl rfl ?_
        refine y_iinc dX12_know_59 rfl (by decide) rfl rfl ?_
        refine x_goto 27 dX12_know_62 (by decide) ?_
        refine (show X _ _ 27 _ _ _ _ _ _ from ?_)
        exact ih
end C97
