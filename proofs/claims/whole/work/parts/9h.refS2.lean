/-! ===== the reference: a search, depth first ===== -/
abbrev SS : Type := Int × (Nat → Int) × Bool
section Lf
variable (A B : Nat → Nat → Int) (n s p : Nat)
def lfR (ch : Nat → Int) (σ : SS) : SS := if σ.1 = -1 ∨ rTo A B n ch (wB A B) (fY A) 0 8 < σ.1 then (rTo A B n ch (wB A B) (fY A) 0 8, rTo A B n ch (wB A B) (fY A) 4, σ.2.2) else σ
def lfN (ch : Nat → Int) (σ : SS) : SS := (σ.1, σ.2.1, (nt A B ch (wB A B) (nB0 A) n 1 p).toNat.testBit s)
def lfS (bh : Bool) (ch : Nat → Int) (σ : SS) : SS := if bh then lfR A B n ch σ else lfN A B n s p ch σ
variable (bh : Bool)
def trS : Nat → Nat → (Nat → Int) → SS → SS
  | 0, _, ch, σ => lfS A B n s p bh ch σ
  | d + 1, y, ch, σ => if rComes A B (wt A B ch (wB A B) y) y = -3 then lp (fP A) (fun q σ => if σ.2.2 then σ else if (rCn A B (wt A B ch (wB A B) y) y).testBit q then trS d (y + 1) (u1 ch y (q : Int)) σ else σ) σ else trS d (y + 1) (u1 ch y 10) σ
end Lf
/-- the search's own cells -/
def EnS (n : Nat) (E : Nat → Nat → Int) (σ : SS) : Prop := E 0 48 = σ.1 ∧ (-1 ≤ σ.1 ∧ σ.1 ≤ 1000000) ∧ (σ.1 ≠ -1 → ∀ j, j < n → E 23 j = σ.2.1 j) ∧ E 0 51 = bI σ.2.2
def ScV (n : Nat) (E0 E : Nat → Nat → Int) : Prop := Sc E0 E ∧ (∀ c, c = 0 ∨ c = 49 ∨ c = 50 ∨ c = 43 → E 0 c = E0 0 c) ∧ E 0 41 = (n : Int) ∧ E 0 42 = -2
section C9h
variable {g : GG} {T : Nat → Nat × Nat} {V E E0 A B : Nat → Nat → Int} {R : Nat → Nat → Option Nat} {J : Nat → Nat → Int64} {z k n : Nat} {r f : Nat} {t : Nat → Int} {tp : Nat} {a m : Nat} {H K : Nat → Nat → Nat → Int} {wr pl tr : Int}
theorem EnS_T {N : Nat} {E' : Nat → Nat → Int} {σ : SS} (h : EnS N E σ) (hs : ScT E E') : EnS N E' σ := ⟨by rw [hs.2.2.2 48 (by omega)]; exact h.1, h.2.1, by rw [hs.2.2.1]; exact h.2.2.1, by rw [hs.2.2.2 51 (by omega)]; exact h.2.2.2⟩
theorem ScV_T {N : Nat} {E' : Nat → Nat → Int} (h : ScV N E0 E) (hs : ScT E E') : ScV N E0 E' := ⟨Sc_t h.1 hs.1, fun c hc => by rw [hs.2.2.2 c (by omega)]; exact h.2.1 c hc, by rw [hs.2.2.2 41 (by omega)]; exact h.2.2.1, by rw [hs.2.2.2 42 (by omega)]; exact h.2.2.2⟩
theorem rTo_c {ch ch' : Nat → Int} {W0 : Nat → Nat → Int} {rw : Nat} (h : ∀ j, j < rw → ch j = ch' j) : ∀ i, rTo A B rw ch W0 i = rTo A B rw ch' W0 i
  | 0 => rfl
  | i + 1 => by
    show stp A B rw ch (rTo A B rw ch W0 i) i = stp A B rw ch' (rTo A B rw ch' W0 i) i
    rw [rTo_c h i]
    unfold stp
    by_cases c : i < rw
    · rw [if_pos c, if_pos c, h i c]
    · rw [if_neg c, if_neg c]
theorem k_ends {N s p : Nat} {bh : Bool} {ch : Nat → Int} {σ : SS} (hI : DI T R V r f E t tp true A B a m H K wr pl tr) (hN4 : 1 ≤ N ∧ N ≤ 4) (hc : ∀ j, j < 4 → E 22 j = ch j) (hP : Pv A B ch (wB A B) N) (h42 : E 0 42 = -2) (h41 : E 0 41 = (N : Int)) (hS : EnS N E σ) (hsp : bh = false → (E 0 49 = (s : Int) ∧ s < 8) ∧ (E 0 50 = (p : Int) ∧ p < 10)) : X g mX12_ends 0 [.ref r, .int (iI (N : Int)), .int (iI (bI bh)), jk] [] (T, iV (pB V r 24 E), R, J, z) k n (fun v M => v = none ∧ ∃ E', M = (T, iV (pB V r 24 E'), R, J, z) ∧ Sc E E' ∧ E' 22 = E 22 ∧ (∀ c, c = 0 ∨ c = 41 ∨ c = 42 ∨ c = 49 ∨ c = 50 ∨ c = 43 → E' 0 c = E 0 c) ∧ EnS N E' (lfS A B N s p bh ch σ)) := by
  have hM := hI.1
  have h43 := hI.2.2.2.2.1
  obtain ⟨⟨hf, hG, hF, hap⟩, ⟨hA, hB, hY4, hP1⟩, hv, -⟩ := hI.2.2.2.2.2.2 rfl
  have eP := fP10 hA
  have eY := fY24 hA
  obtain ⟨hBg, b3, b4⟩ := Bg_beg (Wi := A0) hA hB.1 hB.2.1
  have hPv : Pv A B (E 22) (wB A B) N := Pv_c hP (fun j hj => (hc j (by omega)).symm)
  have hgo := fun (mm : Nat) (hmm : mm ≤ fY A) => c_goes (g := g) (J := J) (z := z) (k := 0) (n := 0) (E := E) (W0 := wB A B) (Ni := A0) (m := mm) (rw := N) (lw := B 0 0) (sd := B 0 1) hM hf hG hF hA hB hap hv hmm h41 (by omega) hBg (by
    unfold TrM
    exact ⟨by omega, h43, Or.inl ⟨b3, b4, h42⟩⟩) NOk_0 (by
    intro i hi hi2
    rw [rTo_wt i (by omega)]
    exact hPv i hi2)
  obtain ⟨m0, ⟨-, m15, -, -, m20, -, -, -, -, -, -, -, -, -, -, -, m32, -, -, -, -, -, m47⟩, ⟨-, mk2, -, -, mk5, -, -, -, -, -, -, -, -, -, -, -, mk17, -, -, -, -, -, mk23⟩⟩ := id hM
  obtain ⟨g0, -, -⟩ := id hG
  have e0 := hF.1 0 (by decide)
  have hapF := hap
  unfold apF at hap
  unfold lfS
  refine x_aload_n dX12_ends_0 rfl ?_
  refine x_aload_n dX12_ends_1 rfl ?_
  refine x_gr dX12_ends_2 fX12_17 (by first | assumption) (fun _ _ _ => rfl) (by first | assumption) ?_
  refine y_iconst dX12_ends_5 ?_
  refine b_iald (r := r) (m := 24) (j := 2) (0) dX12_ends_6 (by first | assumption) (by first | rfl | omega) (by omega) (by decide) (by decide) ?_
  refine (show X _ _ 7 _ _ _ _ _ _ from ?_)
  refine X.val hv.1 ?_
  refine x_aload_n dX12_ends_7 rfl ?_
  refine x_gr dX12_ends_8 fX12_17 (by first | assumption) (fun _ _ _ => rfl) (by first | assumption) ?_
  refine y_iconst dX12_ends_11 ?_
  refine b_iald (r := r) (m := 24) (j := 2) (1) dX12_ends_12 (by first | assumption) (by first | rfl | omega) (by omega) (by decide) (by decide) ?_
  refine (show X _ _ 13 _ _ _ _ _ _ from ?_)
  refine X.val hv.2.1 ?_
  refine x_iload_n dX12_ends_13 rfl ?_
  refine (show X _ _ 14 _ _ _ _ _ _ from ?_)
  refine y_ifb_eq 27 dX12_ends_14 (by decide) (fun c1 => ?_) (fun c1 => ?_)
  · -- by the notes
    obtain ⟨hs, hp⟩ := hsp c1
    have hgo := hgo N (by omega)
    refine x_iload_n dX12_ends_27 rfl ?_
    refine (show X _ _ 28 _ _ _ _ _ _ from ?_)
    refine x_callV (As := [_, _, _]) (mc := 0) (ms := 0) (z := mX12_goes) (ci := 12) dX12_ends_28 lX12_426 oX12_goes (by decide) (by first | assumption) rfl rfl (Nat.le_of_ble_eq_true rfl) (Nat.le_of_ble_eq_true rfl) rfl (hgo) (fun v M1 hq => ?_)
    obtain ⟨rfl, E1, rfl, hg, -⟩ := hq
    refine (show X _ _ 31 _ [] _ _ _ _ from ?_)
    have hsc := GI_scT h43 hg
    have hNM := hg.2.1
    rw [mTo_nt N (Nat.le_refl _), nt_c (ch := E 22) (ch' := ch) N (fun j hj => hc j (by omega))] at hNM
    rw [if_neg (by rw [c1]; decide)]
    unfold lfN
    obtain ⟨-, n2, -, n4, -⟩ := hNM
    generalize nt A B ch (wB A B) (nBeg A A0) N = Nt at *
    have hkb := n4.2.1 p hp.2
    have bt := c_bit g (Nt 1 p).toNat s (T, iV (pB V r 24 E1), R, J, z) 0 0 (by omega) (by omega)
    refine x_iload_n dX12_ends_31 rfl ?_
    refine (show X _ _ 32 _ _ _ _ _ _ from ?_)
    refine y_ifb_ne 58 dX12_ends_32 (by decide) (fun c2 => ?_) (fun c2 => ?_)
    · rw [c1] at c2; cases c2
    refine x_aload_n dX12_ends_35 rfl ?_
    refine x_aload_n dX12_ends_36 rfl ?_
    refine x_gr dX12_ends_37 fX12_64 (by first | assumption) (fun _ _ _ => rfl) (by first | assumption) ?_
    refine x_aload_n dX12_ends_40 rfl ?_
    refine b_gi0 (r := r) (m := 24) dX12_ends_41 fX12_553 (by first | assumption) (fun _ _ _ => rfl) (by decide) ?_
    refine (show X _ _ 44 _ _ _ _ _ _ from ?_)
    refine X.val (b := (p : Int)) (by rw [hsc.2.2.2 50 (by omega)]; exact hp.1) ?_
    refine b_iald (r := r) (m := 24) (j := 17) (p) dX12_ends_44 (by first | assumption) (by first | rfl | omega) (by omega) (by decide) (by decide) ?_
    refine (show X _ _ 45 _ _ _ _ _ _ from ?_)
    refine X.val (b := ((Nt 1 p).toNat : Int)) (by rw [n2 p hp.2]; omega) ?_
    refine x_aload_n dX12_ends_45 rfl ?_
    refine b_gi0 (r := r) (m := 24) dX12_ends_46 fX12_556 (by first | assumption) (fun _ _ _ => rfl) (by decide) ?_
    refine (show X _ _ 49 _ _ _ _ _ _ from ?_)
    refine X.val (b := (s : Int)) (by rw [hsc.2.2.2 49 (by omega)]; exact hs.1) ?_
    refine x_callS (As := [_, _]) (mc := 0) (ms := 0) (z := mX12_bit) dX12_ends_49 lX12_386 oX12_bit (by decide) rfl (Nat.le_of_ble_eq_true rfl) (Nat.le_of_ble_eq_true rfl) rfl (bt) (k_I ?_)
    refine (show X _ _ 52 _ _ _ _ _ _ from ?_)
    refine b_pi0 (r := r) (m := 24) dX12_ends_52 (pX12_542 _) (by first | assumption) (fun _ _ _ => rfl) (by first | rfl | exact bI_nar _) (by first | rfl | exact bI_fit _) (by decide) ?_
    refine x_goto 110 dX12_ends_55 (by decide) ?_
    refine (show X _ _ 110 _ _ _ _ _ _ from ?_)
    refine x_return dX12_ends_110 rfl ⟨rfl, _, rfl, ?_, ?_, fun c hc => ?_, ?_, hS.2.1, ?_, ?_⟩
    · refine Sc_t hsc.1 ⟨fun b hb => u2_n (by omega), fun c hc => by rw [u2_s, u1_n (by omega)], by rw [u2_s, u1_n (by decide)]; exact hsc.1.2.2⟩
    · rw [u2_n (by decide)]; exact hsc.2.1
    · rw [u2_s, u1_n (by omega)]; exact hsc.2.2.2 c (by omega)
    · rw [u2_s, u1_n (by decide), hsc.2.2.2 48 (by omega)]; exact hS.1
    · rw [u2_n (by decide), hsc.2.2.1]; exact hS.2.2.1
    · rw [u2_s, u1_s]
  · -- by the harm
    have hgo := hgo (fY A) (Nat.le_refl _)
    rw [eY.1] at hgo
    refine x_aload_n dX12_ends_17 rfl ?_
    refine x_gr dX12_ends_18 fX12_409 (by first | assumption) (fun _ _ _ => rfl) (by first | assumption) ?_
    refine b_gio (r := r) (m := 24) dX12_ends_21 fX12_176 (by first | assumption) (fun _ _ _ => rfl) (by omega) ?_
    refine (show X _ _ 24 _ _ _ _ _ _ from ?_)
    refine X.val e0 ?_
    refine x_goto 28 dX12_ends_24 (by decide) ?_
    refine (show X _ _ 28 _ _ _ _ _ _ from ?_)
    refine x_callV (As := [_, _, _]) (mc := 0) (ms := 0) (z := mX12_goes) (ci := 12) dX12_ends_28 lX12_426 oX12_goes (by decide) (by first | assumption) rfl rfl (Nat.le_of_ble_eq_true rfl) (Nat.le_of_ble_eq_true rfl) rfl (hgo) (fun v M1 hq => ?_)
    obtain ⟨rfl, E1, rfl, hg, -⟩ := hq
    refine (show X _ _ 31 _ [] _ _ _ _ from ?_)
    have hsc := GI_scT h43 hg
    have hRM := hg.1
    rw [rTo_c (ch := E 22) (ch' := ch) (fun j hj => hc j (by omega))] at hRM
    rw [if_pos c1]
    unfold lfR
    have hel := hRM.2.2.2.2.1
    have hhm := hRM.1.2.2.2.1
    have hHB : HB (rTo A B N ch (wB A B) (fY A)) (fY A) := by
      have key : ∀ i, HB (rTo A B N ch (wB A B) i) i := by
        intro i
        induction i with
        | zero => exact rBeg_hb
        | succ i ih =>
          show HB (stp A B N ch (rTo A B N ch (wB A B) i) i) (i + 1)
          unfold stp
          split
          · exact mwW_hb hA ih
          · exact passY_hb hA ih
      exact key _
    generalize rTo A B N ch (wB A B) (fY A) = W at *
    unfold HB at hHB
    have hsb := hS.2.1
    have h48 : E1 0 48 = σ.1 := by rw [hsc.2.2.2 48 (by omega)]; exact hS.1
    have upd : (σ.1 = -1 ∨ W 0 8 < σ.1) → X g mX12_ends 77 [.ref r, .int (iI (N : Int)), .int (iI (bI bh)), jk] [] (T, iV (pB V r 24 E1), R, J, z) k n (fun v M => v = none ∧ ∃ E', M = (T, iV (pB V r 24 E'), R, J, z) ∧ Sc E E' ∧ E' 22 = E 22 ∧ (∀ c, c = 0 ∨ c = 41 ∨ c = 42 ∨ c = 49 ∨ c = 50 ∨ c = 43 → E' 0 c = E 0 c) ∧ EnS N E' (if σ.1 = -1 ∨ W 0 8 < σ.1 then (W 0 8, W 4, σ.2.2) else σ)) := by
      intro hu
      rw [if_pos hu]
      refine x_aload_n dX12_ends_77 rfl ?_
      refine x_aload_n dX12_ends_78 rfl ?_
      refine b_gi0 (r := r) (m := 24) dX12_ends_79 fX12_437 (by first | assumption) (fun _ _ _ => rfl) (by decide) ?_
      refine (show X _ _ 82 _ _ _ _ _ _ from ?_)
      refine X.val hhm ?_
      refine b_pi0 (r := r) (m := 24) dX12_ends_82 (pX12_539 _) (by first | assumption) (fun _ _ _ => rfl) rfl rfl (by decide) ?_
      refine y_iconst dX12_ends_85 ?_
      refine x_istore_n dX12_ends_86 (by decide) rfl rfl ?_
      refine (show X _ _ 87 _ _ _ _ _ _ from ?_)
      refine loopN (P := fun i => ∀ E2 : Nat → Nat → Int, (∀ b, b ≠ 23 → E2 b = u2 E1 0 48 (W 0 8) b) → (∀ j, j < i → E2 23 j = W 4 j) → X g mX12_ends 87 [.ref r, .int (iI (N : Int)), .int (iI (bI bh)), .int (iI (i : Int))] [] (T, iV (pB V r 24 E2), R, J, z) k n (fun v M => v = none ∧ ∃ E', M = (T, iV (pB V r 24 E'), R, J, z) ∧ Sc E E' ∧ E' 22 = E 22 ∧ (∀ c, c = 0 ∨ c = 41 ∨ c = 42 ∨ c = 49 ∨ c = 50 ∨ c = 43 → E' 0 c = E 0 c) ∧ EnS N E' (W 0 8, W 4, σ.2.2))) N ?_ (fun i hi ih => ?_) _ (fun _ _ => rfl) (fun j hj => absurd hj (by omega))
      · intro E2 w1 w2
        refine x_iload_n dX12_ends_87 rfl ?_
        refine x_iload_n dX12_ends_88 rfl ?_
        refine (show X _ _ 89 _ _ _ _ _ _ from ?_)
        refine y_icmp_ge 110 dX12_ends_89 (by decide) ⟨by omega, by omega⟩ ⟨by omega, by omega⟩ (fun h1 => ?_) (fun h1 => ?_)
        rotate_left
        · omega
        refine x_return dX12_ends_110 rfl ⟨rfl, E2, rfl, Sc_t hsc.1 ⟨fun b hb => ?_, fun c hc => ?_, ?_⟩, ?_, fun c hc => ?_, ?_, ?_, fun _ j hj => w2 j hj, ?_⟩
        · rw [w1 b (by omega), u2_n (by omega)]
        · rw [w1 0 (by decide), u2_s, u1_n (by omega)]
        · rw [w1 0 (by decide), u2_s, u1_n (by decide)]; exact hsc.1.2.2
        · rw [w1 22 (by decide), u2_n (by decide)]; exact hsc.2.1
        · rw [w1 0 (by decide), u2_s, u1_n (by omega)]; exact hsc.2.2.2 c (by omega)
        · rw [w1 0 (by decide), u2_s, u1_s]
        · exact ⟨by show -1 ≤ W 0 8; omega, by show W 0 8 ≤ 1000000; omega⟩
        · rw [w1 0 (by decide), u2_s, u1_n (by decide), hsc.2.2.2 51 (by omega)]; exact hS.2.2.2
      · intro E2 w1 w2
        obtain ⟨d1, -, -⟩ := hel i (by omega)
        refine x_iload_n dX12_ends_87 rfl ?_
        refine x_iload_n dX12_ends_88 rfl ?_
        refine (show X _ _ 89 _ _ _ _ _ _ from ?_)
        refine y_icmp_ge 110 dX12_ends_89 (by decide) ⟨by omega, by omega⟩ ⟨by omega, by omega⟩ (fun h1 => ?_) (fun h1 => ?_)
        · omega
        refine x_aload_n dX12_ends_92 rfl ?_
        refine x_gr dX12_ends_93 fX12_82 (by first | assumption) (fun _ _ _ => rfl) (by first | assumption) ?_
        refine x_iload_n dX12_ends_96 rfl ?_
        refine x_aload_n dX12_ends_97 rfl ?_
        refine x_gr dX12_ends_98 fX12_27 (by first | assumption) (fun _ _ _ => rfl) (by first | assumption) ?_
        refine x_iload_n dX12_ends_101 rfl ?_
        refine b_iald (r := r) (m := 24) (j := 5) (i) dX12_ends_102 (by first | assumption) (by first | rfl | omega) (by omega) (by decide) (by decide) ?_
        refine (show X _ _ 103 _ _ _ _ _ _ from ?_)
        refine X.val (b := W 4 i) (by rw [w1 5 (by decide), u2_n (by decide)]; exact d1) ?_
        refine b_iast (r := r) (m := 24) (j := 23) (i) dX12_ends_103 (by first | assumption) (by first | rfl | omega) (by omega) (by decide) (by decide) ?_
        refine y_iinc dX12_ends_104 rfl (by decide) rfl rfl ?_
        refine x_goto 87 dX12_ends_107 (by decide) ?_
        refine (show X _ _ 87 _ _ _ _ _ _ from ?_)
        refine ih _ (fun b hb => by rw [u2_n hb, w1 b hb]) (fun j hj => ?_)
        rw [u2_s]
        by_cases e : j = i
        · rw [e, u1_s]
        · rw [u1_n e]; exact w2 j (by omega)
    refine x_iload_n dX12_ends_31 rfl ?_
    refine (show X _ _ 32 _ _ _ _ _ _ from ?_)
    refine y_ifb_ne 58 dX12_ends_32 (by decide) (fun c2 => ?_) (fun c2 => ?_)
    rotate_left
    · rw [c1] at c2; cases c2
    refine x_aload_n dX12_ends_58 rfl ?_
    refine b_gi0 (r := r) (m := 24) dX12_ends_59 fX12_539 (by first | assumption) (fun _ _ _ => rfl) (by decide) ?_
    refine (show X _ _ 62 _ _ _ _ _ _ from ?_)
    refine X.val h48 ?_
    refine y_iconst dX12_ends_62 ?_
    refine (show X _ _ 63 _ _ _ _ _ _ from ?_)
    refine y_icmp_eq 77 dX12_ends_63 (by decide) ⟨by omega, by omega⟩ ⟨by omega, by omega⟩ (fun h2 => ?_) (fun h2 => ?_)
    · exact upd (Or.inl h2)
    refine x_aload_n dX12_ends_66 rfl ?_
    refine b_gi0 (r := r) (m := 24) dX12_ends_67 fX12_437 (by first | assumption) (fun _ _ _ => rfl) (by decide) ?_
    refine (show X _ _ 70 _ _ _ _ _ _ from ?_)
    refine X.val hhm ?_
    refine x_aload_n dX12_ends_70 rfl ?_
    refine b_gi0 (r := r) (m := 24) dX12_ends_71 fX12_539 (by first | assumption) (fun _ _ _ => rfl) (by decide) ?_
    refine (show X _ _ 74 _ _ _ _ _ _ from ?_)
    refine X.val h48 ?_
    refine y_icmp_ge 110 dX12_ends_74 (by decide) ⟨by omega, by omega⟩ ⟨by omega, by omega⟩ (fun h3 => ?_) (fun h3 => ?_)
    · rw [if_neg (by omega)]
      exact x_return dX12_ends_110 rfl ⟨rfl, E1, rfl, hsc.1, hsc.2.1, fun c hc => hsc.2.2.2 c (by omega), EnS_T hS hsc⟩
    · exact upd (Or.inr h3)
end C9h
