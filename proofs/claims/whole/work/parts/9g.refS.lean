/-! ===== the reference: searching rows ===== -/
section Wt
variable {A B W0 : Nat → Nat → Int} {ch ch' : Nat → Int}
/-- the run behind i wished years -/
def wt (A B : Nat → Nat → Int) (ch : Nat → Int) (W0 : Nat → Nat → Int) (i : Nat) : Nat → Nat → Int := lp i (fun y W => mwW A B W y (ch y)) W0
def nt (A B : Nat → Nat → Int) (ch : Nat → Int) (W0 N0 : Nat → Nat → Int) (i : Nat) : Nat → Nat → Int := lp i (fun y N => nst A (wt A B ch W0 (y + 1)) N y) N0
theorem rTo_wt {rw : Nat} : ∀ i, i ≤ rw → rTo A B rw ch W0 i = wt A B ch W0 i
  | 0, _ => rfl
  | i + 1, h => by
    show stp A B rw ch (rTo A B rw ch W0 i) i = mwW A B (wt A B ch W0 i) i (ch i)
    rw [rTo_wt i (by omega)]
    unfold stp
    rw [if_pos (by omega)]
theorem mTo_nt {rw : Nat} {N0 : Nat → Nat → Int} : ∀ i, i ≤ rw → mTo A B rw ch W0 N0 i = nt A B ch W0 N0 i
  | 0, _ => rfl
  | i + 1, h => by
    show nst A (rTo A B rw ch W0 (i + 1)) (mTo A B rw ch W0 N0 i) i = nst A (wt A B ch W0 (i + 1)) (nt A B ch W0 N0 i) i
    rw [mTo_nt i (by omega), rTo_wt (i + 1) h]
theorem wt_c : ∀ i, (∀ j, j < i → ch j = ch' j) → wt A B ch W0 i = wt A B ch' W0 i
  | 0, _ => rfl
  | i + 1, h => by
    show mwW A B (wt A B ch W0 i) i (ch i) = mwW A B (wt A B ch' W0 i) i (ch' i)
    rw [wt_c i (fun j hj => h j (by omega)), h i (by omega)]
theorem nt_c {N0 : Nat → Nat → Int} : ∀ i, (∀ j, j < i → ch j = ch' j) → nt A B ch W0 N0 i = nt A B ch' W0 N0 i
  | 0, _ => rfl
  | i + 1, h => by
    show nst A (wt A B ch W0 (i + 1)) (nt A B ch W0 N0 i) i = nst A (wt A B ch' W0 (i + 1)) (nt A B ch' W0 N0 i) i
    rw [nt_c i (fun j hj => h j (by omega)), wt_c (i + 1) h]
/-- the wishes up to y can be met -/
def Pv (A B : Nat → Nat → Int) (ch : Nat → Int) (W0 : Nat → Nat → Int) (y : Nat) : Prop := ∀ i, i < y → rComes A B (wt A B ch W0 i) i = -3 → 0 ≤ ch i ∧ (rCn A B (wt A B ch W0 i) i).testBit (ch i).toNat = true
theorem Pv_c {y : Nat} (h : Pv A B ch W0 y) (hc : ∀ j, j < y → ch j = ch' j) : Pv A B ch' W0 y := by
  intro i hi
  rw [← wt_c (ch := ch) (ch' := ch') i (fun j hj => hc j (by omega)), ← hc i hi]
  exact h i hi
end Wt
/-- who may be wished for in year y -/
def frS (A B W : Nat → Nat → Int) (y : Nat) : Nat := if rComes A B W y = -3 then rCn A B W y else 0
abbrev wB (A B : Nat → Nat → Int) : Nat → Nat → Int := rBeg A A0 (B 0 0) (B 0 1)
abbrev nB0 (A : Nat → Nat → Int) : Nat → Nat → Int := nBeg A A0
section C9g
variable {g : GG} {T : Nat → Nat × Nat} {V E E0 A B : Nat → Nat → Int} {R : Nat → Nat → Option Nat} {J : Nat → Nat → Int64} {z k n : Nat} {r f : Nat} {t : Nat → Int} {tp : Nat} {h : Bool} {a m : Nat} {H K : Nat → Nat → Nat → Int} {wr pl tr : Int}
/-- what a search keeps: nothing that is kept has changed; its own rows -/
def ScT (E E' : Nat → Nat → Int) : Prop := Sc E E' ∧ E' 22 = E 22 ∧ E' 23 = E 23 ∧ ∀ c, c = 0 ∨ c = 41 ∨ c = 42 ∨ c = 48 ∨ c = 49 ∨ c = 50 ∨ c = 51 ∨ c = 43 → E' 0 c = E 0 c
theorem ScT_t {E2 E1 : Nat → Nat → Int} (h1 : ScT E E1) (h2 : ScT E1 E2) : ScT E E2 := ⟨Sc_t h1.1 h2.1, h2.2.1.trans h1.2.1, h2.2.2.1.trans h1.2.2.1, fun c hc => (h2.2.2.2 c hc).trans (h1.2.2.2 c hc)⟩
theorem GI_scT {Ws Ns : Nat → Nat → Nat → Int} {E' : Nat → Nat → Int} {y : Nat} (h43 : -2 ≤ E 0 43 ∧ E 0 43 ≤ 9) (h : GI A B Ws Ns E E' y) : ScT E E' := by
  obtain ⟨-, -, -, -, h1, h2⟩ := h
  refine ⟨⟨fun b hb => h1 b (by omega), fun c hc => h2 c (by omega) (by omega) (by omega) (by omega) (by omega) (by omega), by rw [h2 43 (by decide) (by decide) (by decide) (by decide) (by decide) (by decide)]; exact h43⟩, h1 22 (by omega), h1 23 (by omega), fun c hc => h2 c (by omega) (by omega) (by omega) (by omega) (by omega) (by omega)⟩
theorem k_choices {y rw : Nat} (hI : DI T R V r f E t tp true A B a m H K wr pl tr) (hy : y ≤ 3) (hP : Pv A B (E 22) (wB A B) y) (h42 : E 0 42 = -2) (h41 : E 0 41 = (rw : Int)) : X g mX12_choices 0 [.ref r, .int (iI (y : Int)), jk, jk, jk] [] (T, iV (pB V r 24 E), R, J, z) k n (fun v M => v = some (.int (iI (frS A B (wt A B (E 22) (wB A B) y) y : Nat))) ∧ ∃ E', M = (T, iV (pB V r 24 E'), R, J, z) ∧ ScT E E') := by
  have hM := hI.1
  have h43 := hI.2.2.2.2.1
  obtain ⟨⟨hf, hG, hF, hap⟩, ⟨hA, hB, hY4, hP1⟩, hv, -⟩ := hI.2.2.2.2.2.2 rfl
  have eP := fP10 hA
  have eY := fY24 hA
  have hA3 := hA.2.2.2.1
  obtain ⟨hBg, b3, b4⟩ := Bg_beg (Wi := A0) hA hB.1 hB.2.1
  have hgo := c_goes (g := g) (J := J) (z := z) (k := 0) (n := 0) (E := u2 E 0 41 (y : Int)) (W0 := wB A B) (Ni := A0) (m := y) (rw := y) (lw := B 0 0) (sd := B 0 1) hM hf hG hF hA hB hap (by rw [u2_n (by decide)]; exact hv) (by omega) (by rw [u2_s, u1_s]) (by omega) hBg (by
    unfold TrM
    rw [u2_s, u1_n (by decide), u1_n (by decide)]
    exact ⟨by omega, h43, Or.inl ⟨b3, b4, h42⟩⟩) NOk_0 (by
    intro i hi hi2
    rw [u2_n (by decide), rTo_wt i (by omega)]
    exact hP i hi)
  obtain ⟨m0, ⟨-, m15, -, -, m20, -, m22, -, -, -, -, -, -, -, -, -, -, -, -, m35, -, -, -⟩, ⟨-, mk2, -, -, mk5, -, mk7, -, -, -, -, -, -, -, -, -, -, -, -, mk20, -, -, -⟩⟩ := id hM
  obtain ⟨g0, -, -⟩ := id hG
  have e3 := hF.1 3 (by decide)
  have hap0 := hap
  unfold apF at hap
  refine x_aload_n dX12_choices_0 rfl ?_
  refine b_gi0 (r := r) (m := 24) dX12_choices_1 fX12_420 (by first | assumption) (fun _ _ _ => rfl) (by decide) ?_
  refine (show X _ _ 4 _ _ _ _ _ _ from ?_)
  refine X.val h41 ?_
  refine x_istore_n dX12_choices_4 (by decide) rfl rfl ?_
  refine x_aload_n dX12_choices_5 rfl ?_
  refine x_iload_n dX12_choices_6 rfl ?_
  refine b_pi0 (r := r) (m := 24) dX12_choices_7 (pX12_420 _) (by first | assumption) (fun _ _ _ => rfl) rfl rfl (by decide) ?_
  refine x_aload_n dX12_choices_10 rfl ?_
  refine x_aload_n dX12_choices_11 rfl ?_
  refine x_gr dX12_choices_12 fX12_17 (by first | assumption) (fun _ _ _ => rfl) (by first | assumption) ?_
  refine y_iconst dX12_choices_15 ?_
  refine (show X _ _ 16 _ _ _ _ _ _ from ?_)
  refine b_iald (r := r) (m := 24) (j := 2) (0) dX12_choices_16 (by first | assumption) (by first | rfl | omega) (by omega) (by decide) (by decide) ?_
  refine (show X _ _ 17 _ _ _ _ _ _ from ?_)
  refine X.val (b := B 0 0) (by rw [u2_n (by decide)]; exact hv.1) ?_
  refine x_aload_n dX12_choices_17 rfl ?_
  refine x_gr dX12_choices_18 fX12_17 (by first | assumption) (fun _ _ _ => rfl) (by first | assumption) ?_
  refine y_iconst dX12_choices_21 ?_
  refine b_iald (r := r) (m := 24) (j := 2) (1) dX12_choices_22 (by first | assumption) (by first | rfl | omega) (by omega) (by decide) (by decide) ?_
  refine (show X _ _ 23 _ _ _ _ _ _ from ?_)
  refine X.val (b := B 0 1) (by rw [u2_n (by decide)]; exact hv.2.1) ?_
  refine x_iload_n dX12_choices_23 rfl ?_
  refine (show X _ _ 24 _ _ _ _ _ _ from ?_)
  refine x_callV (As := [_, _, _]) (mc := 0) (ms := 0) (z := mX12_goes) (ci := 12) dX12_choices_24 lX12_426 oX12_goes (by decide) (by first | assumption) rfl rfl (Nat.le_of_ble_eq_true rfl) (Nat.le_of_ble_eq_true rfl) rfl (hgo) (fun v M1 hq => ?_)
  obtain ⟨rfl, E1, rfl, hg, -⟩ := hq
  refine (show X _ _ 27 _ [] _ _ _ _ from ?_)
  have hsc1 := GI_scT (by rw [u2_s, u1_n (by decide)]; exact h43) hg
  have hRM := hg.1
  have hra := hg.2.2.2.2.1
  rw [show rTo A B y (u2 E 0 41 (y : Int) 22) (wB A B) y = wt A B (E 22) (wB A B) y by rw [u2_n (by decide), rTo_wt y (Nat.le_refl _)]] at hRM
  have hsc : ∀ x : Int, ScT E (u2 (u2 E1 0 41 (rw : Int)) 7 y x) := by
    intro x
    obtain ⟨⟨s1, s2, s3⟩, s4, s5, s6⟩ := hsc1
    have q0 : ∀ c, c ≠ 41 → E1 0 c = u2 E 0 41 (y : Int) 0 c → u2 (u2 E1 0 41 (rw : Int)) 7 y x 0 c = E 0 c := fun c hc he => by rw [u2_n (by decide), u2_s, u1_n hc, he, u2_s, u1_n hc]
    refine ⟨⟨fun b hb => ?_, fun c hc => q0 c (by omega) (s2 c hc), ?_⟩, ?_, ?_, fun c hc => ?_⟩
    · rw [u2_n (by omega), u2_n (by omega), s1 b hb, u2_n (by omega)]
    · rw [u2_n (by decide), u2_s, u1_n (by decide)]; exact s3
    · rw [u2_n (by decide), u2_n (by decide), s4, u2_n (by decide)]
    · rw [u2_n (by decide), u2_n (by decide), s5, u2_n (by decide)]
    · by_cases e : c = 41
      · rw [e, u2_n (by decide), u2_s, u1_s, h41]
      · exact q0 c e (s6 c hc)
  have hsc0 : ScT E (u2 E1 0 41 (rw : Int)) := by
    obtain ⟨⟨s1, s2, s3⟩, s4, s5, s6⟩ := hsc1
    refine ⟨⟨fun b hb => by rw [u2_n (by omega), s1 b hb, u2_n (by omega)], fun c hc => by rw [u2_s, u1_n (by omega), s2 c hc, u2_s, u1_n (by omega)], by rw [u2_s, u1_n (by decide)]; exact s3⟩, by rw [u2_n (by decide), s4, u2_n (by decide)], by rw [u2_n (by decide), s5, u2_n (by decide)], fun c hc => ?_⟩
    by_cases e : c = 41
    · rw [e, u2_s, u1_s, h41]
    · rw [u2_s, u1_n e, s6 c hc, u2_s, u1_n e]
  generalize hW : wt A B (E 22) (wB A B) y = W at *
  have hR2 : RM A (u2 E1 0 41 (rw : Int)) W y := RM_con hRM (fun c hc => by rw [u2_s, u1_n (by omega)]) (u2_n (by decide)) (u2_n (by decide)) (u2_n (by decide)) (u2_n (by decide)) (u2_n (by decide))
  have hd : ∀ p, p < fP A → 0 ≤ u2 E1 0 41 (rw : Int) 20 p ∧ u2 E1 0 41 (rw : Int) 20 p ≤ 25 := fun p hp => by have := (hR2.2.2.1 p hp).1; omega
  have hab := fun p hp => c_isAble (g := g) (J := J) (z := z) (k := 0) (n := 0) (E := u2 E1 0 41 (rw : Int)) (p := p) (y := y) hM hf hG hF hA hB hap0 (by rw [u2_n (by decide), hra 2 (by omega), u2_n (by decide)]; exact hv) hp (by omega) (hd p hp)
  have hcl : rCn A B W y < 1024 := andn_lt (cnS_lt hA y)
  have hE7 : u2 (u2 E1 0 41 (rw : Int)) 7 y (rCn A B W y : Nat) 7 y = (rCn A B W y : Nat) := by rw [u2_s, u1_s]
  have hse := c_isSecond (g := g) (J := J) (z := z) (k := 0) (n := 0) (E := u2 (u2 E1 0 41 (rw : Int)) 7 y (rCn A B W y : Nat)) (W := W) hM hf hG hF hA hap0 (show y < 24 by omega) (fun i hi => by rw [u2_n (by decide)]; exact hR2.2.2.2.2.1 i hi) hE7 hcl
  have rel := hR2.2.2.2.2.1
  have r6 := hR2.2.2.2.1
  refine x_aload_n dX12_choices_27 rfl ?_
  refine x_iload_n dX12_choices_28 rfl ?_
  refine b_pi0 (r := r) (m := 24) dX12_choices_29 (pX12_420 _) (by first | assumption) (fun _ _ _ => rfl) rfl rfl (by decide) ?_
  refine y_iconst dX12_choices_32 ?_
  refine x_istore_n dX12_choices_33 (by decide) rfl rfl ?_
  refine y_iconst dX12_choices_34 ?_
  refine x_istore dX12_choices_35 (by decide) rfl rfl ?_
  refine (show X _ _ 37 _ _ _ _ _ _ from ?_)
  refine loopN (P := fun p => X g mX12_choices 37 [.ref r, .int (iI (y : Int)), .int (iI (rw : Int)), .int (iI ((sOf p (cnE A B (u2 E1 0 41 (rw : Int)) y) : Nat) : Int)), .int (iI (p : Int))] [] (T, iV (pB V r 24 (u2 E1 0 41 (rw : Int))), R, J, z) k n (fun v M => v = some (.int (iI (frS A B W y : Nat))) ∧ ∃ E', M = (T, iV (pB V r 24 E'), R, J, z) ∧ ScT E E')) (fP A) ?_ (fun p hp ih => ?_)
  · rw [cn_eq hR2]
    have rest : W 0 6 = 0 → ∀ x : Int, X g mX12_choices 112 [.ref r, .int (iI (y : Int)), .int (iI (rw : Int)), .int (iI (rCn A B W y : Nat)), .int (iI x)] [] (T, iV (pB V r 24 (u2 E1 0 41 (rw : Int))), R, J, z) k n (fun v M => v = some (.int (iI (frS A B W y : Nat))) ∧ ∃ E', M = (T, iV (pB V r 24 E'), R, J, z) ∧ ScT E E') := by
      intro h6 x
      unfold frS
      refine x_aload_n dX12_choices_112 rfl ?_
      refine x_gr dX12_choices_113 fX12_33 (by first | assumption) (fun _ _ _ => rfl) (by first | assumption) ?_
      refine x_iload_n dX12_choices_116 rfl ?_
      refine x_iload_n dX12_choices_117 rfl ?_
      refine b_iast (r := r) (m := 24) (j := 7) (y) dX12_choices_118 (by first | assumption) (by first | rfl | omega) (by omega) (by decide) (by decide) ?_
      refine x_aload_n dX12_choices_119 rfl ?_
      refine x_iload_n dX12_choices_120 rfl ?_
      refine (show X _ _ 121 _ _ _ _ _ _ from ?_)
      refine x_callV (As := [_]) (mc := 0) (ms := 0) (z := mX12_isSecond) (ci := 12) dX12_choices_121 lX12_463 oX12_isSecond (by decide) (by first | assumption) rfl rfl (Nat.le_of_ble_eq_true rfl) (Nat.le_of_ble_eq_true rfl) rfl (hse) (k_I ?_)
      refine (show X _ _ 124 _ _ _ _ _ _ from ?_)
      refine y_ifb_eq 131 dX12_choices_124 (by decide) (fun c1 => ?_) (fun c1 => ?_)
      · refine x_iload_n dX12_choices_131 rfl ?_
        refine (show X _ _ 132 _ _ _ _ _ _ from ?_)
        have efr : (if rComes A B W y = -3 then rCn A B W y else 0) = rCn A B W y := by
          by_cases hz : rCn A B W y = 0
          · rw [hz]; split <;> rfl
          · rw [comes_sec h6 hz, c1, if_pos (show (if false = true then W 4 (y - 1) else -3) = -3 from rfl)]
        rw [efr]
        exact x_ireturn dX12_choices_132 rfl ⟨rfl, _, rfl, hsc _⟩
      · refine y_iconst dX12_choices_127 ?_
        refine x_goto 132 dX12_choices_128 (by decide) ?_
        refine (show X _ _ 132 _ _ _ _ _ _ from ?_)
        have efr : (if rComes A B W y = -3 then rCn A B W y else 0) = 0 := by
          by_cases hz : rCn A B W y = 0
          · rw [hz]; split <;> rfl
          · rw [comes_sec h6 hz, c1, if_pos rfl]
            have := (of_decide_eq_true c1).2.1
            rw [if_neg (by omega)]
        rw [efr]
        exact x_ireturn dX12_choices_132 rfl ⟨rfl, _, rfl, hsc _⟩
    refine x_iload dX12_choices_37 rfl ?_
    refine x_aload_n dX12_choices_39 rfl ?_
    refine x_gr dX12_choices_40 fX12_409 (by first | assumption) (fun _ _ _ => rfl) (by first | assumption) ?_
    refine b_gio (r := r) (m := 24) dX12_choices_43 fX12_230 (by first | assumption) (fun _ _ _ => rfl) (by omega) ?_
    refine (show X _ _ 46 _ _ _ _ _ _ from ?_)
    refine X.val e3 ?_
    refine y_icmp_ge 76 dX12_choices_46 (by decide) ⟨by omega, by omega⟩ ⟨by omega, by omega⟩ (fun h1 => ?_) (fun h1 => ?_)
    rotate_left
    · omega
    refine x_iload_n dX12_choices_76 rfl ?_
    refine (show X _ _ 77 _ _ _ _ _ _ from ?_)
    refine y_if_le 112 dX12_choices_77 (by decide) ⟨by omega, by omega⟩ (fun h2 => ?_) (fun h2 => ?_)
    · exact rest (Classical.byContradiction fun c => (r6.mp c).1 (by omega)) _
    obtain ⟨d1, d2, d3⟩ := rel (y - 1) (by omega)
    refine x_aload_n dX12_choices_80 rfl ?_
    refine x_gr dX12_choices_81 fX12_27 (by first | assumption) (fun _ _ _ => rfl) (by first | assumption) ?_
    refine x_iload_n dX12_choices_84 rfl ?_
    refine y_iconst dX12_choices_85 ?_
    refine y_isub dX12_choices_86 ?_
    refine b_iald (r := r) (m := 24) (j := 5) (y - 1) dX12_choices_87 (by first | assumption) (by first | rfl | omega) (by omega) (by decide) (by decide) ?_
    refine (show X _ _ 88 _ _ _ _ _ _ from ?_)
    refine X.val d1 ?_
    refine y_bipush dX12_choices_88 rfl ?_
    refine (show X _ _ 90 _ _ _ _ _ _ from ?_)
    refine y_icmp_eq 112 dX12_choices_90 (by decide) ⟨by omega, by omega⟩ ⟨by omega, by omega⟩ (fun h3 => ?_) (fun h3 => ?_)
    · exact rest (Classical.byContradiction fun c => by have := (r6.mp c).2.1; omega) _
    have d0 : 0 ≤ W 4 (y - 1) := by omega
    have hdq := hd (W 4 (y - 1)).toNat (by omega)
    refine x_aload_n dX12_choices_93 rfl ?_
    refine x_gr dX12_choices_94 fX12_73 (by first | assumption) (fun _ _ _ => rfl) (by first | assumption) ?_
    refine x_aload_n dX12_choices_97 rfl ?_
    refine x_gr dX12_choices_98 fX12_27 (by first | assumption) (fun _ _ _ => rfl) (by first | assumption) ?_
    refine x_iload_n dX12_choices_101 rfl ?_
    refine y_iconst dX12_choices_102 ?_
    refine y_isub dX12_choices_103 ?_
    refine b_iald (r := r) (m := 24) (j := 5) (y - 1) dX12_choices_104 (by first | assumption) (by first | rfl | omega) (by omega) (by decide) (by decide) ?_
    refine (show X _ _ 105 _ _ _ _ _ _ from ?_)
    refine X.val d1 ?_
    refine b_iald (r := r) (m := 24) (j := 20) ((W 4 (y - 1)).toNat) dX12_choices_105 (by first | assumption) (by first | rfl | omega) (by omega) (by decide) (by decide) ?_
    refine x_iload_n dX12_choices_106 rfl ?_
    refine (show X _ _ 107 _ _ _ _ _ _ from ?_)
    refine y_icmp_ne 112 dX12_choices_107 (by decide) ⟨by omega, by omega⟩ ⟨by omega, by omega⟩ (fun h4 => ?_) (fun h4 => ?_)
    · exact rest (Classical.byContradiction fun c => h4 (r6.mp c).2.2) _
    · have hc6 : W 0 6 ≠ 0 := r6.mpr ⟨by omega, d0, h4⟩
      have efr : frS A B W y = 0 := by unfold frS; rw [comes_n (Or.inl hc6), if_neg (by decide)]
      rw [efr]
      refine y_iconst dX12_choices_110 ?_
      refine (show X _ _ 111 _ _ _ _ _ _ from ?_)
      exact x_ireturn dX12_choices_111 rfl ⟨rfl, _, rfl, hsc0⟩
  · have es : sOf (p + 1) (cnE A B (u2 E1 0 41 (rw : Int)) y) = if cnE A B (u2 E1 0 41 (rw : Int)) y p then sOf p (cnE A B (u2 E1 0 41 (rw : Int)) y) ||| 2 ^ p else sOf p (cnE A B (u2 E1 0 41 (rw : Int)) y) := rfl
    rw [es] at ih
    refine x_iload dX12_choices_37 rfl ?_
    refine x_aload_n dX12_choices_39 rfl ?_
    refine x_gr dX12_choices_40 fX12_409 (by first | assumption) (fun _ _ _ => rfl) (by first | assumption) ?_
    refine b_gio (r := r) (m := 24) dX12_choices_43 fX12_230 (by first | assumption) (fun _ _ _ => rfl) (by omega) ?_
    refine (show X _ _ 46 _ _ _ _ _ _ from ?_)
    refine X.val e3 ?_
    refine y_icmp_ge 76 dX12_choices_46 (by decide) ⟨by omega, by omega⟩ ⟨by omega, by omega⟩ (fun h1 => ?_) (fun h1 => ?_)
    · omega
    refine x_iload_n dX12_choices_49 rfl ?_
    refine x_aload_n dX12_choices_50 rfl ?_
    refine x_iload dX12_choices_51 rfl ?_
    refine x_iload_n dX12_choices_53 rfl ?_
    refine (show X _ _ 54 _ _ _ _ _ _ from ?_)
    refine x_callV (As := [_, _]) (mc := 0) (ms := 0) (z := mX12_isAble) (ci := 12) dX12_choices_54 lX12_460 oX12_isAble (by decide) (by first | assumption) rfl rfl (Nat.le_of_ble_eq_true rfl) (Nat.le_of_ble_eq_true rfl) rfl (hab p hp) (k_I ?_)
    refine (show X _ _ 57 _ _ _ _ _ _ from ?_)
    refine y_ifb_eq 67 dX12_choices_57 (by decide) (fun h2 => ?_) (fun h2 => ?_)
    · rw [h2, if_neg (by decide)] at ih
      refine y_iconst dX12_choices_67 ?_
      refine (show X _ _ 68 _ _ _ _ _ _ from ?_)
      refine y_ior (b := 0) dX12_choices_68 ?_
      rw [Nat.or_zero]
      refine x_istore_n dX12_choices_69 (by decide) rfl rfl ?_
      refine y_iinc dX12_choices_70 rfl (by decide) rfl rfl ?_
      refine x_goto 37 dX12_choices_73 (by decide) ?_
      refine (show X _ _ 37 _ _ _ _ _ _ from ?_)
      exact ih
    · rw [h2, if_pos rfl] at ih
      refine y_iconst dX12_choices_60 ?_
      refine x_iload dX12_choices_61 rfl ?_
      refine y_ishl (p) dX12_choices_63 (by first | rfl | omega) (by omega) ?_
      refine x_goto 68 dX12_choices_64 (by decide) ?_
      refine y_ior dX12_choices_68 ?_
      refine x_istore_n dX12_choices_69 (by decide) rfl rfl ?_
      refine y_iinc dX12_choices_70 rfl (by decide) rfl rfl ?_
      refine x_goto 37 dX12_choices_73 (by decide) ?_
      refine (show X _ _ 37 _ _ _ _ _ _ from ?_)
      exact ih
end C9g
