/-! ===== Rows: who learns what in a row ===== -/
section Ln
def lnS (who : Nat) (turn : Int) (s : Nat) (E : Nat → Nat → Int) : Nat → Nat → Int := if (E 12 who).toNat.testBit s = true ∧ (E 5 (10 * s + who) < 0 ∨ turn < E 5 (10 * s + who)) then u2 E 5 (10 * s + who) turn else E
def lnE (A : Nat → Nat → Int) (who : Nat) (turn : Int) (E : Nat → Nat → Int) : Nat → Nat → Int := lp (fSe A) (lnS who turn) E
def CHk (E : Nat → Nat → Int) : Prop := ∀ j, j < 80 → -2 ≤ E 5 j ∧ E 5 j ≤ 9
theorem ln_ok {who : Nat} {turn : Int} {E : Nat → Nat → Int} (hE : CHk E) (ht : 0 ≤ turn ∧ turn ≤ 9) : ∀ s, CHk (lp s (lnS who turn) E) ∧ ∀ a, a ≠ 5 → lp s (lnS who turn) E a = E a
  | 0 => ⟨hE, fun _ _ => rfl⟩
  | s + 1 => by
    obtain ⟨h1, h2⟩ := ln_ok (who := who) hE ht s
    have e : lp (s + 1) (lnS who turn) E = lnS who turn s (lp s (lnS who turn) E) := rfl
    rw [e]
    generalize lp s (lnS who turn) E = F at *
    unfold lnS
    split
    · refine ⟨fun j hj => ?_, fun a ha => ?_⟩
      · rw [u2_s]
        by_cases e : j = 10 * s + who
        · rw [e, u1_s]; omega
        · rw [u1_n e]; exact h1 j hj
      · rw [u2_n ha]; exact h2 a ha
    · exact ⟨h1, h2⟩
end Ln
section C19
variable {g : GG} {T : Nat → Nat × Nat} {V E W : Nat → Nat → Int} {R : Nat → Nat → Option Nat} {J : Nat → Nat → Int64} {z k n : Nat} {A B : Nat → Nat → Int} {rr w f nw al : Nat}
theorem c_learn {who turn : Nat} (hq : QS T R rr w) (hw0 : T w = (19, 0)) (hw1 : R w 0 = some f) (hf : FS T R f) (hF : FC V f A) (hA : VA A) (hap : (w < rr ∨ rr + 14 ≤ w) ∧ (f + 45 ≤ rr ∨ rr + 14 ≤ f)) (hwho : who < 10) (ht : turn ≤ 9) (hK : 0 ≤ E 12 who ∧ E 12 who < 256) (hE : CHk E) : X g mX7_learn 0 [.ref rr, .int (iI (who : Int)), .int (iI (turn : Int)), jk, jk] [] (T, iV (pB V rr 14 E), R, J, z) k n (rV (T, iV (pB V rr 14 (lnE A who turn E)), R, J, z)) := by
  obtain ⟨⟨q0, q1, q2, q3⟩, ⟨v3, v4, v5, v6, v8⟩, ⟨t1, t2, t3, t4, t5⟩, -, ⟨⟨o0, o1⟩, ⟨o2, o3⟩, ⟨ot1, ot2⟩⟩⟩ := hq
  obtain ⟨f0, -⟩ := hf
  obtain ⟨hV0, -⟩ := hF
  obtain ⟨p1, p2⟩ := hap
  have eS := fS8 hA
  refine y_iconst dX7_learn_0 ?_
  refine x_istore_n dX7_learn_1 (by decide) rfl rfl ?_
  refine (show X _ _ 2 _ _ _ _ _ _ from ?_)
  refine loopN (P := fun s => ∀ q, X g mX7_learn 2 [.ref rr, .int (iI (who : Int)), .int (iI (turn : Int)), .int (iI (s : Int)), q] [] (T, iV (pB V rr 14 (lp s (lnS who turn) E)), R, J, z) k n (rV (T, iV (pB V rr 14 (lnE A who turn E)), R, J, z))) (fSe A) ?_ (fun s hs ih => ?_) jk
  · intro q
    refine x_iload_n dX7_learn_2 rfl ?_
    refine x_aload_n dX7_learn_3 rfl ?_
    refine x_gr dX7_learn_4 fX7_32 (by first | assumption) (fun _ _ _ => rfl) (by first | assumption) ?_
    refine x_gr dX7_learn_7 fX7_70 (by first | assumption) (fun _ _ _ => rfl) (by first | assumption) ?_
    refine b_gio (r := rr) (m := 14) dX7_learn_10 fX7_133 (by first | assumption) (fun _ _ _ => rfl) (by omega) ?_
    refine (show X _ _ 13 _ _ _ _ _ _ from ?_)
    refine X.val (b := A 0 6) (hV0 6 (by omega)) ?_
    refine y_icmp_ge 75 dX7_learn_13 (by decide) ⟨by omega, by omega⟩ ⟨by omega, by omega⟩ (fun h => ?_) (fun h => ?_)
    · exact x_return dX7_learn_75 rfl ⟨rfl, rfl⟩
    · omega
  intro q
  obtain ⟨hc, h12⟩ := ln_ok (who := who) (turn := turn) hE ⟨by omega, by omega⟩ s
  have e12 := h12 12 (by decide)
  have e : lp (s + 1) (lnS who turn) E = lnS who turn s (lp s (lnS who turn) E) := rfl
  rw [e] at ih
  generalize lp s (lnS who turn) E = F at *
  have hcj := hc (10 * s + who) (by omega)
  rw [← e12] at hK
  obtain ⟨kn, hkn⟩ : ∃ kn : Nat, F 12 who = (kn : Int) := ⟨(F 12 who).toNat, (Int.toNat_of_nonneg hK.1).symm⟩
  unfold lnS at ih
  rw [hkn, Int.toNat_natCast] at ih
  rw [hkn] at hK
  refine x_iload_n dX7_learn_2 rfl ?_
  refine x_aload_n dX7_learn_3 rfl ?_
  refine x_gr dX7_learn_4 fX7_32 (by first | assumption) (fun _ _ _ => rfl) (by first | assumption) ?_
  refine x_gr dX7_learn_7 fX7_70 (by first | assumption) (fun _ _ _ => rfl) (by first | assumption) ?_
  refine b_gio (r := rr) (m := 14) dX7_learn_10 fX7_133 (by first | assumption) (fun _ _ _ => rfl) (by omega) ?_
  refine (show X _ _ 13 _ _ _ _ _ _ from ?_)
  refine X.val (b := A 0 6) (hV0 6 (by omega)) ?_
  refine y_icmp_ge 75 dX7_learn_13 (by decide) ⟨by omega, by omega⟩ ⟨by omega, by omega⟩ (fun h => ?_) (fun h => ?_)
  · omega
  refine x_iload_n dX7_learn_16 rfl ?_
  refine y_bipush dX7_learn_17 rfl ?_
  refine y_imul dX7_learn_19 ?_
  refine x_iload_n dX7_learn_20 rfl ?_
  refine y_iadd dX7_learn_21 ?_
  refine x_istore dX7_learn_22 (by decide) rfl rfl ?_
  refine x_aload_n dX7_learn_24 rfl ?_
  refine x_gr dX7_learn_25 fX7_48 (by first | assumption) (fun _ _ _ => rfl) (by first | assumption) ?_
  refine (show X _ _ 28 _ _ _ _ _ _ from ?_)
  refine x_gr dX7_learn_28 fX7_154 (by first | assumption) (fun _ _ _ => rfl) (by first | assumption) ?_
  refine x_iload_n dX7_learn_31 rfl ?_
  refine b_iald (r := rr) (m := 14) (j := 12) (who) dX7_learn_32 (by first | assumption) (by first | rfl | omega) (by omega) (by decide) (by decide) ?_
  refine (show X _ _ 33 _ _ _ _ _ _ from ?_)
  refine X.val hkn ?_
  refine x_iload_n dX7_learn_33 rfl ?_
  refine (show X _ _ 34 _ _ _ _ _ _ from ?_)
  refine x_callS (As := [_, _]) (mc := 0) (ms := 0) (z := mX10_has) dX7_learn_34 lX7_126 oX10_has (by decide) rfl (Nat.le_of_ble_eq_true rfl) (Nat.le_of_ble_eq_true rfl) rfl (c_has g kn s _ 0 0 (by omega) (by omega)) (k_I ?_)
  refine (show X _ _ 37 _ _ _ _ _ _ from ?_)
  have e1 : (s : Int) + 1 = ((s + 1 : Nat) : Int) := by omega
  refine y_ifb_eq 69 dX7_learn_37 (by decide) (fun h1 => ?_) (fun h1 => ?_)
  · rw [if_neg (fun h => by rw [h1] at h; exact absurd h.1 (by decide))] at ih
    refine y_iinc dX7_learn_69 rfl (by decide) rfl rfl ?_
    refine x_goto 2 dX7_learn_72 (by decide) ?_
    refine (show X _ _ 2 _ _ _ _ _ _ from ?_)
    rw [e1]
    exact ih _
  refine x_aload_n dX7_learn_40 rfl ?_
  refine x_gr dX7_learn_41 fX7_29 (by first | assumption) (fun _ _ _ => rfl) (by first | assumption) ?_
  refine x_iload dX7_learn_44 rfl ?_
  refine b_iald (r := rr) (m := 14) (j := 5) (10 * s + who) dX7_learn_46 (by first | assumption) (by first | rfl | omega) (by omega) (by decide) (by decide) ?_
  refine (show X _ _ 47 _ _ _ _ _ _ from ?_)
  refine y_if_lt 61 dX7_learn_47 (by decide) ⟨by omega, by omega⟩ (fun h2 => ?_) (fun h2 => ?_)
  · rw [if_pos ⟨h1, Or.inl h2⟩] at ih
    refine x_aload_n dX7_learn_61 rfl ?_
    refine x_gr dX7_learn_62 fX7_29 (by first | assumption) (fun _ _ _ => rfl) (by first | assumption) ?_
    refine x_iload dX7_learn_65 rfl ?_
    refine x_iload_n dX7_learn_67 rfl ?_
    refine b_iast (r := rr) (m := 14) (j := 5) (10 * s + who) dX7_learn_68 (by first | assumption) (by first | rfl | omega) (by omega) (by decide) (by decide) ?_
    refine y_iinc dX7_learn_69 rfl (by decide) rfl rfl ?_
    refine x_goto 2 dX7_learn_72 (by decide) ?_
    refine (show X _ _ 2 _ _ _ _ _ _ from ?_)
    rw [e1]
    exact ih _
  refine x_aload_n dX7_learn_50 rfl ?_
  refine x_gr dX7_learn_51 fX7_29 (by first | assumption) (fun _ _ _ => rfl) (by first | assumption) ?_
  refine x_iload dX7_learn_54 rfl ?_
  refine b_iald (r := rr) (m := 14) (j := 5) (10 * s + who) dX7_learn_56 (by first | assumption) (by first | rfl | omega) (by omega) (by decide) (by decide) ?_
  refine x_iload_n dX7_learn_57 rfl ?_
  refine (show X _ _ 58 _ _ _ _ _ _ from ?_)
  refine y_icmp_le 69 dX7_learn_58 (by decide) ⟨by omega, by omega⟩ ⟨by omega, by omega⟩ (fun h3 => ?_) (fun h3 => ?_)
  · rw [if_neg (fun h => by omega)] at ih
    refine y_iinc dX7_learn_69 rfl (by decide) rfl rfl ?_
    refine x_goto 2 dX7_learn_72 (by decide) ?_
    refine (show X _ _ 2 _ _ _ _ _ _ from ?_)
    rw [e1]
    exact ih _
  · rw [if_pos ⟨h1, Or.inr (by omega)⟩] at ih
    refine x_aload_n dX7_learn_61 rfl ?_
    refine x_gr dX7_learn_62 fX7_29 (by first | assumption) (fun _ _ _ => rfl) (by first | assumption) ?_
    refine x_iload dX7_learn_65 rfl ?_
    refine x_iload_n dX7_learn_67 rfl ?_
    refine b_iast (r := rr) (m := 14) (j := 5) (10 * s + who) dX7_learn_68 (by first | assumption) (by first | rfl | omega) (by omega) (by decide) (by decide) ?_
    refine y_iinc dX7_learn_69 rfl (by decide) rfl rfl ?_
    refine x_goto 2 dX7_learn_72 (by decide) ?_
    refine (show X _ _ 2 _ _ _ _ _ _ from ?_)
    rw [e1]
    exact ih _
end C19
