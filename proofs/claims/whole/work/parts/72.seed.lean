/-! ===== the class's face: seed ===== -/
section C72
variable {g : GG} {T : Nat → Nat × Nat} {V V' A B : Nat → Nat → Int} {R : Nat → Nat → Option Nat} {J : Nat → Nat → Int64} {z k n : Nat} {o fw fr : Nat} {σ : Nat → Nat} {t : Nat → Int} {tp : Nat} {h : Bool} {a m : Nat} {H K : Nat → Nat → Nat → Int} {wr pl tr : Int}
theorem f_seed0 {x : Int} (hI : CI T R V o fw fr σ t tp h A B a m H K wr pl tr) (hx : R32 x) (hb : ¬ (h = true ∧ 0 ≤ x ∧ x < 65537)) : X g mX10_seed 0 [.ref o, .int (iI x)] [] (T, iV V, R, J, z) k n (CQ T R J z V o (some (.int (iI 0))) t tp h A B a m H K wr pl (if h = true then 2 else 1)) := by
  have hI0 := hI
  obtain ⟨hC, ⟨p6, p7⟩, -⟩ := hI
  have hdn := fun y => c_deny (g := g) (J := J) (z := z) (k := 0) (n := 0) (V := V) (x := y) hC
  have hns := c_isNoSeed (g := g) (k := 0) (n := 0) (p := x) (M := (T, iV V, R, J, z)) hx
  obtain ⟨⟨c0, -⟩, -⟩ := hC
  refine x_aload_n dX10_seed_0 rfl ?_
  refine y_gi dX10_seed_1 fX10_53 (by first | assumption) (fun _ _ _ => rfl) ?_
  refine (show X _ _ 4 _ _ _ _ _ _ from ?_)
  refine X.val p6 ?_
  refine y_ifb_ne 13 dX10_seed_4 (by decide) (fun e => ?_) (fun e => ?_)
  rotate_left
  · rw [if_neg (by rw [e]; decide)]
    refine x_aload_n dX10_seed_7 rfl ?_
    refine y_iconst dX10_seed_8 ?_
    refine (show X _ _ 9 _ _ _ _ _ _ from ?_)
    refine x_callV (As := [_]) (mc := 0) (ms := 0) (z := mX10_deny) (ci := 10) dX10_seed_9 lX10_279 oX10_deny (by decide) (by first | assumption) rfl rfl (Nat.le_of_ble_eq_true rfl) (Nat.le_of_ble_eq_true rfl) rfl (hdn _) (k_I ?_)
    refine (show X _ _ 12 _ _ _ _ _ _ from ?_)
    exact x_zreturn dX10_seed_12 rfl rfl (CQ_tr hI0 _ _)
  rw [if_pos e]
  refine x_iload_n dX10_seed_13 rfl ?_
  refine (show X _ _ 14 _ _ _ _ _ _ from ?_)
  refine x_callS (As := [_]) (mc := 0) (ms := 0) (z := mX10_isNoSeed) dX10_seed_14 lX10_265 oX10_isNoSeed (by decide) rfl (Nat.le_of_ble_eq_true rfl) (Nat.le_of_ble_eq_true rfl) rfl (hns) (k_I ?_)
  refine (show X _ _ 17 _ _ _ _ _ _ from ?_)
  refine y_ifb_eq 26 dX10_seed_17 (by decide) (fun e1 => ?_) (fun e1 => ?_)
  · exact absurd ⟨e, Classical.byContradiction fun c => (of_decide_eq_false e1) c⟩ hb
  refine x_aload_n dX10_seed_20 rfl ?_
  refine y_iconst dX10_seed_21 ?_
  refine (show X _ _ 22 _ _ _ _ _ _ from ?_)
  refine x_callV (As := [_]) (mc := 0) (ms := 0) (z := mX10_deny) (ci := 10) dX10_seed_22 lX10_279 oX10_deny (by decide) (by first | assumption) rfl rfl (Nat.le_of_ble_eq_true rfl) (Nat.le_of_ble_eq_true rfl) rfl (hdn _) (k_I ?_)
  refine (show X _ _ 25 _ _ _ _ _ _ from ?_)
  exact x_zreturn dX10_seed_25 rfl rfl (CQ_tr hI0 _ _)
theorem f_seed {x : Int} (hI : CI T R V o fw fr σ t tp true A B a m H K wr pl tr) (hx : 0 ≤ x ∧ x < 65537) : X g mX10_seed 0 [.ref o, .int (iI x)] [] (T, iV V, R, J, z) k n (CQ T R J z V o (some (.int (iI 1))) t tp true A (u2 B 0 1 x) a m H K wr pl 0) := by
  have hI0 := hI
  obtain ⟨hC, ⟨p6, p7⟩, hr, htx, hP, ⟨f1, f2, f3, f4⟩, ⟨n1, n2⟩, -, g1, -⟩ := hI
  obtain ⟨hy, -, -, hv, -⟩ := g1 rfl
  have hns := c_isNoSeed (g := g) (k := 0) (n := 0) (p := x) (M := (T, iV V, R, J, z)) ⟨by omega, by omega⟩
  have hsep := hC.2.2.2.2.2.2.2
  have hσ : ∀ i, i < 12 → σ i < 12 := fun i hi => (hC.2.2.2.1.2.1 i hi).2
  have hB : VB A (u2 B 0 1 x) := by
    obtain ⟨b0, b1, b2, b3, b4⟩ := f4
    refine ⟨by rw [u2_s, u1_n (by decide)]; exact b0, by rw [u2_s, u1_s]; omega, by rw [u2_s, u1_n (by decide)]; exact b2, fun p hp => by rw [u2_n (by decide)]; exact b3 p hp, fun i hi => ?_⟩
    rw [u2_n (by decide)]
    exact b4 i (by rw [u2_s, u1_n (by decide)] at hi; exact hi)
  have hN : NC (u2 V (o + 99) 1 x) (o + 99) (u2 B 0 1 x) := by
    refine ⟨fun j hj => ?_, fun p hp => ?_, fun j hj => ?_⟩
    · by_cases e : j = 1
      · subst e; rw [u2_s, u1_s, u2_s, u1_s]
      · rw [u2_s, u1_n e, u2_s, u1_n e]; exact f2.1 j hj
    · rw [u2_n (by omega), u2_n (by decide)]; exact f2.2.1 p hp
    · rw [u2_n (by omega), u2_n (by decide)]; exact f2.2.2 j hj
  have hF : FC (u2 V (o + 99) 1 x) fw A := FC_eq f1 f3 (fun b c1 c2 => u2_n (by omega))
  have ac := c_acted (g := g) (J := J) (z := z) (k := 0) (n := 0) (V := u2 V (o + 99) 1 x) hC hF hN f3 hB (NOk_eq n1 (fun b c1 c2 => u2_n (by omega)))
  have hC0 := hC
  obtain ⟨⟨c0, c1, c2, -⟩, -, ⟨⟨w0, w1, w2, w3⟩, -, hNS, -⟩, -⟩ := hC
  have hn0 := hNS.1
  refine x_aload_n dX10_seed_0 rfl ?_
  refine y_gi dX10_seed_1 fX10_53 (by first | assumption) (fun _ _ _ => rfl) ?_
  refine (show X _ _ 4 _ _ _ _ _ _ from ?_)
  refine X.val p6 ?_
  refine y_ifb_ne 13 dX10_seed_4 (by decide) (fun e => ?_) (fun e => ?_)
  rotate_left
  · cases e
  refine x_iload_n dX10_seed_13 rfl ?_
  refine (show X _ _ 14 _ _ _ _ _ _ from ?_)
  refine x_callS (As := [_]) (mc := 0) (ms := 0) (z := mX10_isNoSeed) dX10_seed_14 lX10_265 oX10_isNoSeed (by decide) rfl (Nat.le_of_ble_eq_true rfl) (Nat.le_of_ble_eq_true rfl) rfl (hns) (k_I ?_)
  refine (show X _ _ 17 _ _ _ _ _ _ from ?_)
  refine y_ifb_eq 26 dX10_seed_17 (by decide) (fun e1 => ?_) (fun e1 => ?_)
  rotate_left
  · exact absurd hx (of_decide_eq_true e1)
  refine x_aload_n dX10_seed_26 rfl ?_
  refine x_gr dX10_seed_27 fX10_19 (by first | assumption) (fun _ _ _ => rfl) (by first | assumption) ?_
  refine x_gr dX10_seed_30 fX10_81 (by first | assumption) (fun _ _ _ => rfl) (by first | assumption) ?_
  refine x_iload_n dX10_seed_33 rfl ?_
  refine y_pi dX10_seed_34 (pX10_237 _) (by first | assumption) (fun _ _ _ => rfl) rfl rfl ?_
  refine x_aload_n dX10_seed_37 rfl ?_
  refine (show X _ _ 38 _ _ _ _ _ _ from ?_)
  refine x_callV (As := []) (mc := 0) (ms := 0) (z := mX10_acted) (ci := 10) dX10_seed_38 lX10_94 oX10_acted (by decide) (by first | assumption) rfl rfl (Nat.le_of_ble_eq_true rfl) (Nat.le_of_ble_eq_true rfl) rfl (ac) (fun v M1 hq => ?_)
  obtain ⟨rfl, V2, rfl, hq⟩ := hq
  refine (show X _ _ 41 _ [.int (iI 1)] _ _ _ _ from ?_)
  refine x_zreturn dX10_seed_41 rfl rfl ⟨rfl, V2, R, fw, fr, σ, rfl, fun b hb => ⟨?_, rfl⟩, CI_act hC0 (by rw [u2_n (by omega)]; exact p6) (by rw [u2_n (by omega)]; exact hr) (by rw [u2_n (by omega)]; exact htx) (PC_eq hP hσ (fun b c1 c2 => u2_n (by omega))) hF hN f3 hB (NOk_eq n2 (fun b c1 c2 => u2_n (by omega))) hy hv hq⟩
  rw [hq.1 b (by omega) (by omega), u2_n (by omega)]
end C72
