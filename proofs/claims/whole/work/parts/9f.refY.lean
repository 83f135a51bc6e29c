/-! ===== the reference: led ===== -/
theorem dnC_neg {c : Nat → Bool} {e : Nat → Int} : ∀ m y a, a < 0 → dnC c e m y a = -2
  | 0, _, _, _ => rfl
  | m + 1, y, a, h => by rw [dnC, if_pos h]
/-- in year y somebody died in her turn -/
def ldB (Ws : Nat → Nat → Nat → Int) (W : Nat → Nat → Int) (y : Nat) : Bool := decide (0 ≤ W 4 y) && (dd (Ws (y + 1))).testBit (W 4 y).toNat && !(dd (Ws y)).testBit (W 4 y).toNat
section C9f
variable {g : GG} {T : Nat → Nat × Nat} {V E A B Wi Ni : Nat → Nat → Int} {R : Nat → Nat → Option Nat} {J : Nat → Nat → Int64} {z k n : Nat} {r f : Nat} {t : Nat → Int} {tp : Nat} {h : Bool} {a m : Nat} {H K : Nat → Nat → Nat → Int} {wr pl tr : Int}
def LdQ (T : Nat → Nat × Nat) (R : Nat → Nat → Option Nat) (J : Nat → Nat → Int64) (z : Nat) (V : Nat → Nat → Int) (r f : Nat) (x : Int) (t : Nat → Int) (tp : Nat) (h : Bool) (A B : Nat → Nat → Int) (a m : Nat) (H K : Nat → Nat → Nat → Int) (wr pl tr : Int) : Option Value → Mem → Prop := fun v M => ∃ E' : Nat → Nat → Int, M = (T, iV (pB V r 24 E'), R, J, z) ∧ DI T R V r f E' t tp h A B a m H K wr pl tr ∧ ((0 ≤ x ∧ v = some (.int (iI x)) ∧ E' 0 0 = 0) ∨ (x < 0 ∧ v = some (.int (iI 0)) ∧ E' 0 0 = 1))
theorem k_led0 {i : Int} (hI : DI T R V r f E t tp false A B a m H K wr pl tr) : X g mX12_led 0 [.ref r, .int (iI i), jk, jk] [] (T, iV (pB V r 24 E), R, J, z) k n (LdQ T R J z V r f (-2) t tp false A B a m H K wr pl tr) := by
  have hM := hI.1
  have hI1 := DI_sc hI (Sc_th hI 0)
  have hI2 := DI_sc hI1 (Sc_th hI1 1)
  have hn := (hI.2.2.2.2.2.1 rfl).1
  obtain ⟨m0, ⟨-, -, -, -, m20, -, -, -, -, -, -, -, -, -, -, -, -, -, -, m35, -, -, -⟩, ⟨-, -, -, -, mk5, -, -, -, -, -, -, -, -, -, -, -, -, -, -, mk20, -, -, -⟩⟩ := id hM
  refine x_aload_n dX12_led_0 rfl ?_
  refine y_iconst dX12_led_1 ?_
  refine b_pi0 (r := r) (m := 24) dX12_led_2 (pX12_85 _) (by first | assumption) (fun _ _ _ => rfl) rfl rfl (by decide) ?_
  refine y_iconst dX12_led_5 ?_
  refine x_istore_n dX12_led_6 (by decide) rfl rfl ?_
  refine x_aload_n dX12_led_7 rfl ?_
  refine (show X _ _ 8 _ _ _ _ _ _ from ?_)
  refine x_gn dX12_led_8 fX12_409 (by first | assumption) (fun _ _ _ => rfl) (by first | assumption) ?_
  refine (show X _ _ 11 _ _ _ _ _ _ from ?_)
  refine x_ifnull_n 18 dX12_led_11 (by decide) ?_
  refine (show X _ _ 18 _ _ _ _ _ _ from ?_)
  refine y_iconst dX12_led_18 ?_
  refine x_istore_n dX12_led_19 (by decide) rfl rfl ?_
  refine x_aload_n dX12_led_20 rfl ?_
  refine (show X _ _ 21 _ _ _ _ _ _ from ?_)
  refine x_gn dX12_led_21 fX12_409 (by first | assumption) (fun _ _ _ => rfl) (by first | assumption) ?_
  refine (show X _ _ 24 _ _ _ _ _ _ from ?_)
  refine x_ifnull_n 90 dX12_led_24 (by decide) ?_
  refine (show X _ _ 90 _ _ _ _ _ _ from ?_)
  refine x_aload_n dX12_led_90 rfl ?_
  refine y_iconst dX12_led_91 ?_
  refine b_pi0 (r := r) (m := 24) dX12_led_92 (pX12_85 _) (by first | assumption) (fun _ _ _ => rfl) rfl rfl (by decide) ?_
  refine y_iconst dX12_led_95 ?_
  refine (show X _ _ 96 _ _ _ _ _ _ from ?_)
  exact x_ireturn dX12_led_96 rfl ⟨_, rfl, hI2, Or.inr ⟨by decide, rfl, by rw [u2_s, u1_s]⟩⟩
theorem k_led {i : Int} (hI : DI T R V r f E t tp true A B a m H K wr pl tr) (hi : R32 i) (hNi : NOk Ni) : X g mX12_led 0 [.ref r, .int (iI i), jk, jk] [] (T, iV (pB V r 24 E), R, J, z) k n (LdQ T R J z V r f (dnC (ldB (runTo A B (rBeg A Wi (B 0 0) (B 0 1))) (runTo A B (rBeg A Wi (B 0 0) (B 0 1)) (fY A))) (runTo A B (rBeg A Wi (B 0 0) (B 0 1)) (fY A) 4) (fY A) 0 i) t tp true A B a m H K wr pl tr) := by
  have hM := hI.1
  have hI1 := DI_sc hI (Sc_th hI 0)
  have hru := k_runs (g := g) (J := J) (z := z) (k := 0) (n := 0) (Wi := Wi) (Ni := Ni) hI1 hNi
  obtain ⟨⟨hf, hG, hF, hap⟩, ⟨hA, hB, hY4, -⟩, -⟩ := hI.2.2.2.2.2.2 rfl
  have eP := fP10 hA
  have eY := fY24 hA
  have hA3 := hA.2.2.2.1
  obtain ⟨i1, i2⟩ := hi
  obtain ⟨m0, ⟨-, -, -, -, m20, -, -, -, -, -, -, -, -, -, -, -, -, -, -, m35, -, -, -⟩, ⟨-, -, -, -, mk5, -, -, -, -, -, -, -, -, -, -, -, -, -, -, mk20, -, -, -⟩⟩ := id hM
  obtain ⟨g0, -, -⟩ := id hG
  have e0 := hF.1 0 (by decide)
  unfold apF at hap
  refine x_aload_n dX12_led_0 rfl ?_
  refine y_iconst dX12_led_1 ?_
  refine b_pi0 (r := r) (m := 24) dX12_led_2 (pX12_85 _) (by first | assumption) (fun _ _ _ => rfl) rfl rfl (by decide) ?_
  refine y_iconst dX12_led_5 ?_
  refine x_istore_n dX12_led_6 (by decide) rfl rfl ?_
  refine x_aload_n dX12_led_7 rfl ?_
  refine x_gr dX12_led_8 fX12_409 (by first | assumption) (fun _ _ _ => rfl) (by first | assumption) ?_
  refine (show X _ _ 11 _ _ _ _ _ _ from ?_)
  refine x_ifnull_r dX12_led_11 ?_
  refine (show X _ _ 14 _ _ _ _ _ _ from ?_)
  refine x_aload_n dX12_led_14 rfl ?_
  refine (show X _ _ 15 _ _ _ _ _ _ from ?_)
  refine x_callV (As := []) (mc := 0) (ms := 0) (z := mX12_runs) (ci := 12) dX12_led_15 lX12_510 oX12_runs (by decide) (by first | assumption) rfl rfl (Nat.le_of_ble_eq_true rfl) (Nat.le_of_ble_eq_true rfl) rfl (hru) (fun v M1 hq => ?_)
  obtain ⟨rfl, E', rfl, hq⟩ := hq
  refine (show X _ _ 18 _ [] _ _ _ _ from ?_)
  have hI2 := DI_sc hI1 (RnQ_sc hI1 hq)
  have hI3 := DI_sc hI2 (Sc_th hI2 1)
  obtain ⟨⟨hRM, hNM, hrc, ⟨-, hhi⟩, -, hr0⟩, -⟩ := hq
  have h00 : E' 0 0 = 0 := by rw [hr0 0 (by decide) (by decide) (by decide) (by decide) (by decide) (by decide), u2_s, u1_n (by decide), u2_s, u1_n (by decide), u2_s, u1_s]
  have hel := hRM.2.2.2.2.1
  have hdb := fun p hp => (hRM.2.2.1 p hp).1
  generalize runTo A B (rBeg A Wi (B 0 0) (B 0 1)) = Ws at *
  generalize hx : dnC (ldB Ws (Ws (fY A))) (Ws (fY A) 4) (fY A) 0 i = x
  refine y_iconst dX12_led_18 ?_
  refine x_istore_n dX12_led_19 (by decide) rfl rfl ?_
  refine (show X _ _ 20 _ _ _ _ _ _ from ?_)
  refine loopN (P := fun y => ∀ c : Nat, c ≤ y → dnC (ldB Ws (Ws (fY A))) (Ws (fY A) 4) (fY A - y) y (i - c) = x → X g mX12_led 20 [.ref r, .int (iI i), .int (iI (c : Int)), .int (iI (y : Int))] [] (T, iV (pB V r 24 E'), R, J, z) k n (LdQ T R J z V r f x t tp true A B a m H K wr pl tr)) (fY A) ?_ (fun y hy ih => ?_) 0 (Nat.le_refl _) (by rw [← hx]; show dnC _ _ (fY A - 0) 0 (i - 0) = _; rw [Int.sub_zero]; rfl)
  · intro c hc he
    rw [Nat.sub_self] at he
    have hx2 : x = -2 := he.symm
    refine x_aload_n dX12_led_20 rfl ?_
    refine x_gr dX12_led_21 fX12_409 (by first | assumption) (fun _ _ _ => rfl) (by first | assumption) ?_
    refine (show X _ _ 24 _ _ _ _ _ _ from ?_)
    refine x_ifnull_r dX12_led_24 ?_
    refine (show X _ _ 27 _ _ _ _ _ _ from ?_)
    refine x_iload_n dX12_led_27 rfl ?_
    refine x_aload_n dX12_led_28 rfl ?_
    refine x_gr dX12_led_29 fX12_409 (by first | assumption) (fun _ _ _ => rfl) (by first | assumption) ?_
    refine b_gio (r := r) (m := 24) dX12_led_32 fX12_176 (by first | assumption) (fun _ _ _ => rfl) (by omega) ?_
    refine (show X _ _ 35 _ _ _ _ _ _ from ?_)
    refine X.val e0 ?_
    refine y_icmp_ge 90 dX12_led_35 (by decide) ⟨by omega, by omega⟩ ⟨by omega, by omega⟩ (fun h1 => ?_) (fun h1 => ?_)
    rotate_left
    · omega
    refine x_aload_n dX12_led_90 rfl ?_
    refine y_iconst dX12_led_91 ?_
    refine b_pi0 (r := r) (m := 24) dX12_led_92 (pX12_85 _) (by first | assumption) (fun _ _ _ => rfl) rfl rfl (by decide) ?_
    refine y_iconst dX12_led_95 ?_
    refine (show X _ _ 96 _ _ _ _ _ _ from ?_)
    exact x_ireturn dX12_led_96 rfl ⟨_, rfl, hI3, Or.inr ⟨by omega, rfl, by rw [u2_s, u1_s]⟩⟩
  · intro c hc he
    obtain ⟨d1, d2, d3⟩ := hel y hy
    have es : dnC (ldB Ws (Ws (fY A))) (Ws (fY A) 4) (fY A - y) y (i - c) = if i - c < 0 then -2 else if ldB Ws (Ws (fY A)) y then (if i - c = 0 then Ws (fY A) 4 y else dnC (ldB Ws (Ws (fY A))) (Ws (fY A) 4) (fY A - (y + 1)) (y + 1) (i - c - 1)) else dnC (ldB Ws (Ws (fY A))) (Ws (fY A) 4) (fY A - (y + 1)) (y + 1) (i - c) := by
      rw [show fY A - y = (fY A - (y + 1)) + 1 by omega, dnC]
    have next0 : ldB Ws (Ws (fY A)) y = false → X g mX12_led 84 [.ref r, .int (iI i), .int (iI (c : Int)), .int (iI (y : Int))] [] (T, iV (pB V r 24 E'), R, J, z) k n (LdQ T R J z V r f x t tp true A B a m H K wr pl tr) := by
      intro hl
      have he2 : dnC (ldB Ws (Ws (fY A))) (Ws (fY A) 4) (fY A - (y + 1)) (y + 1) (i - c) = x := by
        by_cases hn : i - (c : Int) < 0
        · rw [dnC_neg _ _ _ hn, ← he, dnC_neg _ _ _ hn]
        · rw [es, if_neg hn, if_neg (by rw [hl]; decide)] at he; exact he
      refine y_iinc dX12_led_84 rfl (by decide) rfl rfl ?_
      refine x_goto 20 dX12_led_87 (by decide) ?_
      refine (show X _ _ 20 _ _ _ _ _ _ from ?_)
      exact ih c (by omega) he2
    refine x_aload_n dX12_led_20 rfl ?_
    refine x_gr dX12_led_21 fX12_409 (by first | assumption) (fun _ _ _ => rfl) (by first | assumption) ?_
    refine (show X _ _ 24 _ _ _ _ _ _ from ?_)
    refine x_ifnull_r dX12_led_24 ?_
    refine (show X _ _ 27 _ _ _ _ _ _ from ?_)
    refine x_iload_n dX12_led_27 rfl ?_
    refine x_aload_n dX12_led_28 rfl ?_
    refine x_gr dX12_led_29 fX12_409 (by first | assumption) (fun _ _ _ => rfl) (by first | assumption) ?_
    refine b_gio (r := r) (m := 24) dX12_led_32 fX12_176 (by first | assumption) (fun _ _ _ => rfl) (by omega) ?_
    refine (show X _ _ 35 _ _ _ _ _ _ from ?_)
    refine X.val e0 ?_
    refine y_icmp_ge 90 dX12_led_35 (by decide) ⟨by omega, by omega⟩ ⟨by omega, by omega⟩ (fun h1 => ?_) (fun h1 => ?_)
    · omega
    refine x_aload_n dX12_led_38 rfl ?_
    refine x_gr dX12_led_39 fX12_27 (by first | assumption) (fun _ _ _ => rfl) (by first | assumption) ?_
    refine x_iload_n dX12_led_42 rfl ?_
    refine b_iald (r := r) (m := 24) (j := 5) (y) dX12_led_43 (by first | assumption) (by first | rfl | omega) (by omega) (by decide) (by decide) ?_
    refine (show X _ _ 44 _ _ _ _ _ _ from ?_)
    refine X.val d1 ?_
    refine y_bipush dX12_led_44 rfl ?_
    refine (show X _ _ 46 _ _ _ _ _ _ from ?_)
    refine y_icmp_eq 84 dX12_led_46 (by decide) ⟨by omega, by omega⟩ ⟨by omega, by omega⟩ (fun h2 => ?_) (fun h2 => ?_)
    · exact next0 (by unfold ldB; rw [decide_eq_false (by omega)]; rfl)
    have h3 : 0 ≤ Ws (fY A) 4 y := by omega
    have hqn : (Ws (fY A) 4 y).toNat < fP A := by omega
    have hh0 := hhi _ hqn y (by omega)
    have hh1 := hhi _ hqn (y + 1) (by omega)
    have hbq := hdb _ hqn
    refine x_aload_n dX12_led_49 rfl ?_
    refine x_gr dX12_led_50 fX12_73 (by first | assumption) (fun _ _ _ => rfl) (by first | assumption) ?_
    refine x_aload_n dX12_led_53 rfl ?_
    refine x_gr dX12_led_54 fX12_27 (by first | assumption) (fun _ _ _ => rfl) (by first | assumption) ?_
    refine x_iload_n dX12_led_57 rfl ?_
    refine b_iald (r := r) (m := 24) (j := 5) (y) dX12_led_58 (by first | assumption) (by first | rfl | omega) (by omega) (by decide) (by decide) ?_
    refine (show X _ _ 59 _ _ _ _ _ _ from ?_)
    refine X.val d1 ?_
    refine b_iald (r := r) (m := 24) (j := 20) ((Ws (fY A) 4 y).toNat) dX12_led_59 (by first | assumption) (by first | rfl | omega) (by omega) (by decide) (by decide) ?_
    refine x_iload_n dX12_led_60 rfl ?_
    refine y_iconst dX12_led_61 ?_
    refine y_iadd dX12_led_62 ?_
    refine (show X _ _ 63 _ _ _ _ _ _ from ?_)
    refine y_icmp_eq 69 dX12_led_63 (by decide) ⟨by omega, by omega⟩ ⟨by omega, by omega⟩ (fun h4 => ?_) (fun h4 => ?_)
    rotate_left
    · refine x_goto 84 dX12_led_66 (by decide) ?_
      refine (show X _ _ 84 _ _ _ _ _ _ from ?_)
      refine next0 ?_
      unfold ldB
      rw [hh0, hh1, decide_eq_true h3]
      by_cases c1 : E' 20 (Ws (fY A) 4 y).toNat ≤ (y : Int)
      · rw [decide_eq_true c1, Bool.not_true, Bool.and_false]
      · rw [decide_eq_false (show ¬ E' 20 (Ws (fY A) 4 y).toNat ≤ ((y + 1 : Nat) : Int) by omega)]; rfl
    have hl : ldB Ws (Ws (fY A)) y = true := by
      unfold ldB
      rw [hh0, hh1, decide_eq_true h3, decide_eq_true (by omega), decide_eq_false (by omega)]
      rfl
    refine x_iload_n dX12_led_69 rfl ?_
    refine x_iload_n dX12_led_70 rfl ?_
    refine (show X _ _ 71 _ _ _ _ _ _ from ?_)
    refine y_icmp_ne 81 dX12_led_71 (by decide) ⟨by omega, by omega⟩ ⟨by omega, by omega⟩ (fun h5 => ?_) (fun h5 => ?_)
    · have he2 : dnC (ldB Ws (Ws (fY A))) (Ws (fY A) 4) (fY A - (y + 1)) (y + 1) (i - ((c + 1 : Nat) : Int)) = x := by
        by_cases hn : i - (c : Int) < 0
        · rw [dnC_neg _ _ _ (by omega), ← he, dnC_neg _ _ _ hn]
        · rw [es, if_neg hn, if_pos hl, if_neg (by omega)] at he
          rw [← he]
          congr 1
          omega
      refine y_iinc dX12_led_81 rfl (by decide) rfl rfl ?_
      refine y_iinc dX12_led_84 rfl (by decide) rfl rfl ?_
      refine x_goto 20 dX12_led_87 (by decide) ?_
      refine (show X _ _ 20 _ _ _ _ _ _ from ?_)
      exact ih (c + 1) (by omega) he2
    · rw [es, if_neg (by omega), if_pos hl, if_pos (by omega)] at he
      refine x_aload_n dX12_led_74 rfl ?_
      refine x_gr dX12_led_75 fX12_27 (by first | assumption) (fun _ _ _ => rfl) (by first | assumption) ?_
      refine x_iload_n dX12_led_78 rfl ?_
      refine b_iald (r := r) (m := 24) (j := 5) (y) dX12_led_79 (by first | assumption) (by first | rfl | omega) (by omega) (by decide) (by decide) ?_
      refine (show X _ _ 80 _ _ _ _ _ _ from ?_)
      refine X.val (b := x) (by rw [d1, he]) ?_
      exact x_ireturn dX12_led_80 rfl ⟨_, rfl, hI2, Or.inl ⟨by omega, rfl, h00⟩⟩
end C9f
