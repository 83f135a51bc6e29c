/-! ===== the class's face: acts ===== -/
section C74
variable {g : GG} {T : Nat → Nat × Nat} {V V1 V2 V' A B B' : Nat → Nat → Int} {R R1 : Nat → Nat → Option Nat} {J : Nat → Nat → Int64} {z k n : Nat} {o fw fr : Nat} {σ σ1 : Nat → Nat} {t : Nat → Int} {tp : Nat} {h : Bool} {a m a1 m1 : Nat} {H K H1 K1 : Nat → Nat → Nat → Int} {wr pl tr : Int}
theorem pre_act (hI : CI T R V o fw fr σ t tp true A B a m H K wr pl tr) (hR : ∀ b, b ≠ o + 107 + 1 → R1 b = R b) (hPS : PS T R1 (o + 107) σ1) (hV : ∀ b, (b < o + 99 ∨ (o + 102 ≤ b ∧ b < o + 107) ∨ o + 155 ≤ b) → V2 b = V b) (hPC : PC V2 (o + 107) σ1 a1 m1 H1 K1) (hN : NC V2 (o + 99) B') (hB : VB A B') (hv : (∀ i, i < a1 → VB A (H1 i)) ∧ (∀ i, i < m1 → VB A (K1 i))) :
    CS T R1 o fw fr σ1 ∧ FC V2 fw A ∧ NOk (fun j => V2 (o + 168 + j)) ∧ VA A ∧ ∀ V3, AcQ V2 V3 o A B' → CI T R1 V3 o fw fr σ1 t tp true A B' a1 m1 H1 K1 wr pl 0 ∧ ∀ b, b < o ∨ o + 190 ≤ b → V3 b = V b ∧ R1 b = R b := by
  obtain ⟨hC, ⟨p6, p7⟩, hr, htx, hP, ⟨f1, f2, f3, f4⟩, ⟨n1, n2⟩, -, g1, -⟩ := hI
  obtain ⟨hy, -⟩ := g1 rfl
  have hsep := hC.2.2.2.2.2.2.2
  have hF : FC V2 fw A := FC_eq f1 f3 (fun b c1 c2 => hV b (by omega))
  have hC1 := CS_R hC hR hPS
  refine ⟨hC1, hF, NOk_eq n1 (fun b c1 c2 => hV b (by omega)), f3, fun V3 hq => ⟨CI_act hC1 (by rw [hV _ (by omega)]; exact p6) (by rw [hV _ (by omega)]; exact hr) (by rw [hV _ (by omega)]; exact htx) hPC hF hN f3 hB (NOk_eq n2 (fun b c1 c2 => hV b (by omega))) hy hv hq, fun b hb => ⟨?_, hR b (by omega)⟩⟩⟩
  rw [hq.1 b (by omega) (by omega), hV b (by omega)]
theorem hv_keep (hv : (∀ i, i < a → VB A (H i)) ∧ (∀ i, i < m → VB A (K i))) (hB : VB A B) (ha : a ≤ 12) : (∀ i, i < kaN a → VB A (kaH a H B i)) ∧ (∀ i, i < m → VB A (K i)) := by
  refine ⟨fun i hi => ?_, hv.2⟩
  unfold kaN at hi
  unfold kaH
  by_cases e : a < 12
  · rw [if_pos e] at hi ⊢
    show VB A (if i = a then B else H i)
    by_cases e2 : i = a
    · rw [if_pos e2]; exact hB
    · rw [if_neg e2]; exact hv.1 i (by omega)
  · rw [if_neg e] at hi ⊢
    show VB A (if i = 11 then B else H (i + 1))
    by_cases e2 : i = 11
    · rw [if_pos e2]; exact hB
    · rw [if_neg e2]; exact hv.1 _ (by omega)
/-- what lies behind an act's last call -/
theorem act_end (hI : CI T R V o fw fr σ t tp true A B a m H K wr pl tr) (hR : ∀ b, b ≠ o + 107 + 1 → R1 b = R b) (hPS : PS T R1 (o + 107) σ1) (hV : ∀ b, (b < o + 99 ∨ (o + 102 ≤ b ∧ b < o + 107) ∨ o + 155 ≤ b) → V2 b = V b) (hPC : PC V2 (o + 107) σ1 a1 m1 H1 K1) (hN : NC V2 (o + 99) B') (hB : VB A B') (hv : (∀ i, i < a1 → VB A (H1 i)) ∧ (∀ i, i < m1 → VB A (K1 i))) :
    X g mX10_acted 0 [.ref o] [] (T, iV V2, R1, J, z) k n (CQ T R J z V o (some (.int (iI 1))) t tp true A B' a1 m1 H1 K1 wr pl 0) := by
  obtain ⟨e1, e2, e3, e4, e5⟩ := pre_act hI hR hPS hV hPC hN hB hv
  refine X.mono (c_acted e1 e2 hN e4 hB e3) ?_
  intro v M1 hq
  obtain ⟨rfl, V3, rfl, hq⟩ := hq
  exact ⟨rfl, V3, R1, fw, fr, σ1, rfl, (e5 V3 hq).2, (e5 V3 hq).1⟩
theorem f_law0 {x : Int} (hI : CI T R V o fw fr σ t tp h A B a m H K wr pl tr) (hx : R32 x) (hb : ¬ (h = true ∧ 0 ≤ x ∧ x < 5 ∧ B 0 0 ≠ x)) : X g mX10_law 0 [.ref o, .int (iI x)] [] (T, iV V, R, J, z) k n (CQ T R J z V o (some (.int (iI 0))) t tp h A B a m H K wr pl (if h = true ∧ 0 ≤ x ∧ x < 5 then 5 else 1)) := by
  have hI0 := hI
  obtain ⟨hC, ⟨p6, p7⟩, -, -, -, ⟨-, f2, -, f4⟩, -⟩ := hI
  have hdn := fun y => c_deny (g := g) (J := J) (z := z) (k := 0) (n := 0) (V := V) (x := y) hC
  have hns := c_isNoLaw (g := g) (k := 0) (n := 0) (p := x) (M := (T, iV V, R, J, z)) hx
  obtain ⟨⟨c0, c1, c2, -⟩, -, ⟨⟨w0, w1, w2, w3⟩, -, hNS, -⟩, -⟩ := hC
  have hn0 := hNS.1
  have h00 := f2.1 0 (by decide)
  have hf4 := f4.1
  refine x_aload_n dX10_law_0 rfl ?_
  refine y_gi dX10_law_1 fX10_53 (by first | assumption) (fun _ _ _ => rfl) ?_
  refine (show X _ _ 4 _ _ _ _ _ _ from ?_)
  refine X.val p6 ?_
  refine y_ifb_eq 14 dX10_law_4 (by decide) (fun e => ?_) (fun e => ?_)
  · rw [if_neg (by rw [e]; exact fun c => by cases c.1)]
    refine x_aload_n dX10_law_14 rfl ?_
    refine y_iconst dX10_law_15 ?_
    refine (show X _ _ 16 _ _ _ _ _ _ from ?_)
    refine x_callV (As := [_]) (mc := 0) (ms := 0) (z := mX10_deny) (ci := 10) dX10_law_16 lX10_279 oX10_deny (by decide) (by first | assumption) rfl rfl (Nat.le_of_ble_eq_true rfl) (Nat.le_of_ble_eq_true rfl) rfl (hdn _) (k_I ?_)
    refine (show X _ _ 19 _ _ _ _ _ _ from ?_)
    exact x_zreturn dX10_law_19 rfl rfl (CQ_tr hI0 _ _)
  refine x_iload_n dX10_law_7 rfl ?_
  refine (show X _ _ 8 _ _ _ _ _ _ from ?_)
  refine x_callS (As := [_]) (mc := 0) (ms := 0) (z := mX10_isNoLaw) dX10_law_8 lX10_206 oX10_isNoLaw (by decide) rfl (Nat.le_of_ble_eq_true rfl) (Nat.le_of_ble_eq_true rfl) rfl (hns) (k_I ?_)
  refine (show X _ _ 11 _ _ _ _ _ _ from ?_)
  refine y_ifb_eq 20 dX10_law_11 (by decide) (fun e1 => ?_) (fun e1 => ?_)
  rotate_left
  · rw [if_neg (fun c => (of_decide_eq_true e1) c.2)]
    refine x_aload_n dX10_law_14 rfl ?_
    refine y_iconst dX10_law_15 ?_
    refine (show X _ _ 16 _ _ _ _ _ _ from ?_)
    refine x_callV (As := [_]) (mc := 0) (ms := 0) (z := mX10_deny) (ci := 10) dX10_law_16 lX10_279 oX10_deny (by decide) (by first | assumption) rfl rfl (Nat.le_of_ble_eq_true rfl) (Nat.le_of_ble_eq_true rfl) rfl (hdn _) (k_I ?_)
    refine (show X _ _ 19 _ _ _ _ _ _ from ?_)
    exact x_zreturn dX10_law_19 rfl rfl (CQ_tr hI0 _ _)
  have e2 : 0 ≤ x ∧ x < 5 := Classical.byContradiction fun c => (of_decide_eq_false e1) c
  rw [if_pos ⟨e, e2⟩]
  refine x_aload_n dX10_law_20 rfl ?_
  refine x_gr dX10_law_21 fX10_19 (by first | assumption) (fun _ _ _ => rfl) (by first | assumption) ?_
  refine x_gr dX10_law_24 fX10_81 (by first | assumption) (fun _ _ _ => rfl) (by first | assumption) ?_
  refine y_gi dX10_law_27 fX10_293 (by first | assumption) (fun _ _ _ => rfl) ?_
  refine (show X _ _ 30 _ _ _ _ _ _ from ?_)
  refine X.val h00 ?_
  refine x_iload_n dX10_law_30 rfl ?_
  refine (show X _ _ 31 _ _ _ _ _ _ from ?_)
  refine y_icmp_ne 40 dX10_law_31 (by decide) ⟨by omega, by omega⟩ ⟨by omega, by omega⟩ (fun e3 => ?_) (fun e3 => ?_)
  · exact absurd ⟨e, e2.1, e2.2, e3⟩ hb
  refine x_aload_n dX10_law_34 rfl ?_
  refine y_iconst dX10_law_35 ?_
  refine (show X _ _ 36 _ _ _ _ _ _ from ?_)
  refine x_callV (As := [_]) (mc := 0) (ms := 0) (z := mX10_deny) (ci := 10) dX10_law_36 lX10_279 oX10_deny (by decide) (by first | assumption) rfl rfl (Nat.le_of_ble_eq_true rfl) (Nat.le_of_ble_eq_true rfl) rfl (hdn _) (k_I ?_)
  refine (show X _ _ 39 _ _ _ _ _ _ from ?_)
  exact x_zreturn dX10_law_39 rfl rfl (CQ_tr hI0 _ _)
theorem f_law {x : Int} (hI : CI T R V o fw fr σ t tp true A B a m H K wr pl tr) (hx : 0 ≤ x ∧ x < 5) (hb : B 0 0 ≠ x) : X g mX10_law 0 [.ref o, .int (iI x)] [] (T, iV V, R, J, z) k n (CQ T R J z V o (some (.int (iI 1))) t tp true A (u2 B 0 0 x) (kaN a) m (kaH a H B) K wr pl 0) := by
  have hI0 := hI
  obtain ⟨hC, ⟨p6, p7⟩, hr, htx, hP, ⟨f1, f2, f3, f4⟩, ⟨n1, n2⟩, -, g1, -⟩ := hI
  obtain ⟨hy, -, -, hv, -⟩ := g1 rfl
  have hns := c_isNoLaw (g := g) (k := 0) (n := 0) (p := x) (M := (T, iV V, R, J, z)) ⟨by omega, by omega⟩
  have hB : VB A (u2 B 0 0 x) := by
    obtain ⟨b0, b1, b2, b3, b4⟩ := f4
    refine ⟨by rw [u2_s, u1_s]; omega, by rw [u2_s, u1_n (by decide)]; exact b1, by rw [u2_s, u1_n (by decide)]; exact b2, fun p hp => by rw [u2_n (by decide)]; exact b3 p hp, fun i hi => ?_⟩
    rw [u2_n (by decide)]
    exact b4 i (by rw [u2_s, u1_n (by decide)] at hi; exact hi)
  have hC0 := hC
  obtain ⟨⟨c0, c1, c2, c3, -⟩, -, ⟨⟨w0, w1, w2, w3⟩, -, hNS, -⟩, hPS, -⟩ := hC
  have hn0 := hNS.1
  have h00 := f2.1 0 (by decide)
  have hf4 := f4.1
  have hk := c_keepAct (g := g) (J := J) (z := z) (k := 0) (n := 0) (V := V) hPS hP hNS f2 (by omega)
  have hP0 := hPS.1.1
  refine x_aload_n dX10_law_0 rfl ?_
  refine y_gi dX10_law_1 fX10_53 (by first | assumption) (fun _ _ _ => rfl) ?_
  refine (show X _ _ 4 _ _ _ _ _ _ from ?_)
  refine X.val p6 ?_
  refine y_ifb_eq 14 dX10_law_4 (by decide) (fun e => ?_) (fun e => ?_)
  · cases e
  refine x_iload_n dX10_law_7 rfl ?_
  refine (show X _ _ 8 _ _ _ _ _ _ from ?_)
  refine x_callS (As := [_]) (mc := 0) (ms := 0) (z := mX10_isNoLaw) dX10_law_8 lX10_206 oX10_isNoLaw (by decide) rfl (Nat.le_of_ble_eq_true rfl) (Nat.le_of_ble_eq_true rfl) rfl (hns) (k_I ?_)
  refine (show X _ _ 11 _ _ _ _ _ _ from ?_)
  refine y_ifb_eq 20 dX10_law_11 (by decide) (fun e1 => ?_) (fun e1 => ?_)
  rotate_left
  · exact absurd hx (of_decide_eq_true e1)
  refine x_aload_n dX10_law_20 rfl ?_
  refine x_gr dX10_law_21 fX10_19 (by first | assumption) (fun _ _ _ => rfl) (by first | assumption) ?_
  refine x_gr dX10_law_24 fX10_81 (by first | assumption) (fun _ _ _ => rfl) (by first | assumption) ?_
  refine y_gi dX10_law_27 fX10_293 (by first | assumption) (fun _ _ _ => rfl) ?_
  refine (show X _ _ 30 _ _ _ _ _ _ from ?_)
  refine X.val h00 ?_
  refine x_iload_n dX10_law_30 rfl ?_
  refine (show X _ _ 31 _ _ _ _ _ _ from ?_)
  refine y_icmp_ne 40 dX10_law_31 (by decide) ⟨by omega, by omega⟩ ⟨by omega, by omega⟩ (fun e3 => ?_) (fun e3 => ?_)
  rotate_left
  · exact absurd e3 hb
  refine x_aload_n dX10_law_40 rfl ?_
  refine x_gr dX10_law_41 fX10_26 (by first | assumption) (fun _ _ _ => rfl) (by first | assumption) ?_
  refine x_aload_n dX10_law_44 rfl ?_
  refine x_gr dX10_law_45 fX10_19 (by first | assumption) (fun _ _ _ => rfl) (by first | assumption) ?_
  refine x_gr dX10_law_48 fX10_81 (by first | assumption) (fun _ _ _ => rfl) (by first | assumption) ?_
  refine (show X _ _ 51 _ _ _ _ _ _ from ?_)
  refine x_callV (As := [_]) (mc := 0) (ms := 0) (z := mX5_keepAct) (ci := 5) dX10_law_51 lX10_285 oX5_keepAct (by decide) (by first | assumption) rfl rfl (Nat.le_of_ble_eq_true rfl) (Nat.le_of_ble_eq_true rfl) rfl (hk) (fun v M1 hq => ?_)
  obtain ⟨rfl, R1, V1, σ1, rfl, k1, k2, k3, k4⟩ := hq
  refine (show X _ _ 54 _ [] _ _ _ _ from ?_)
  have c1' : R1 o 1 = some (o + 53) := by rw [k1 _ (by omega)]; exact c2
  have w1' : R1 (o + 53) 1 = some (o + 99) := by rw [k1 _ (by omega)]; exact w2
  have hN : NC (u2 V1 (o + 99) 0 x) (o + 99) (u2 B 0 0 x) := by
    refine ⟨fun j hj => ?_, fun p hp => ?_, fun j hj => ?_⟩
    · by_cases e : j = 0
      · subst e; rw [u2_s, u1_s, u2_s, u1_s]
      · rw [u2_s, u1_n e, u2_s, u1_n e, k2 _ (by omega)]; exact f2.1 j hj
    · rw [u2_n (by omega), u2_n (by decide), k2 _ (by omega)]; exact f2.2.1 p hp
    · rw [u2_n (by omega), u2_n (by decide), k2 _ (by omega)]; exact f2.2.2 j hj
  have hσ : ∀ i, i < 12 → σ1 i < 12 := fun i hi => (k3.2.1 i hi).2
  have ac := act_end (g := g) (J := J) (z := z) (k := 0) (n := 0) (V2 := u2 V1 (o + 99) 0 x) hI0 k1 k3 (fun b hb => by rw [u2_n (by omega), k2 b (by omega)]) (PC_eq k4 hσ (fun b q1 q2 => u2_n (by omega))) hN hB (hv_keep hv f4 hP.1.2)
  refine x_aload_n dX10_law_54 rfl ?_
  refine x_gr dX10_law_55 fX10_19 (by first | assumption) (fun _ _ _ => rfl) (by first | assumption) ?_
  refine x_gr dX10_law_58 fX10_81 (by first | assumption) (fun _ _ _ => rfl) (by first | assumption) ?_
  refine x_iload_n dX10_law_61 rfl ?_
  refine y_pi dX10_law_62 (pX10_293 _) (by first | assumption) (fun _ _ _ => rfl) rfl rfl ?_
  refine x_aload_n dX10_law_65 rfl ?_
  refine (show X _ _ 66 _ _ _ _ _ _ from ?_)
  refine x_callV (As := []) (mc := 0) (ms := 0) (z := mX10_acted) (ci := 10) dX10_law_66 lX10_94 oX10_acted (by decide) (by first | assumption) rfl rfl (Nat.le_of_ble_eq_true rfl) (Nat.le_of_ble_eq_true rfl) rfl (ac) (fun v M1 hq => ?_)
  obtain ⟨rfl, hq⟩ := hq
  exact x_zreturn dX10_law_69 rfl rfl ⟨rfl, hq⟩
theorem f_death0 {x y : Int} (hI : CI T R V o fw fr σ t tp h A B a m H K wr pl tr) (hx : R32 x) (hy : R32 y) (hb : ¬ (noP h A x = false ∧ (y = -2 ∨ noY A y = false) ∧ B 1 x.toNat ≠ y)) : X g mX10_death 0 [.ref o, .int (iI x), .int (iI y)] [] (T, iV V, R, J, z) k n (CQ T R J z V o (some (.int (iI 0))) t tp h A B a m H K wr pl (if noP h A x = true then 1 else if y ≠ -2 ∧ noY A y = true then 2 else 5)) := by
  have hI0 := hI
  obtain ⟨hC, ⟨p6, p7⟩, -, -, -, ⟨f1, f2, f3, f4⟩, -⟩ := hI
  have hdn := fun y => c_deny (g := g) (J := J) (z := z) (k := 0) (n := 0) (V := V) (x := y) hC
  have hnp := c_isNoPerson (g := g) (J := J) (z := z) (k := 0) (n := 0) (p := x) hC p6 f1 f3 hx
  have hny := c_isNoYear (g := g) (J := J) (z := z) (k := 0) (n := 0) (p := y) hC f1 f3 hy
  obtain ⟨⟨c0, c1, c2, -⟩, -, ⟨⟨w0, w1, w2, w3⟩, -, hNS, -⟩, -⟩ := hC
  obtain ⟨n0, nd, -, nt, -⟩ := hNS
  have hA3 := f3.2.2.2.1
  have hA0 := f3.1
  obtain ⟨hy1, hy2⟩ := hy
  have tail : noP h A x = false → (y = -2 ∨ noY A y = false) → X g mX10_death 34 [.ref o, .int (iI x), .int (iI y)] [] (T, iV V, R, J, z) k n (CQ T R J z V o (some (.int (iI 0))) t tp h A B a m H K wr pl 5) := by
    intro e1 e2
    have e3 := noP_f e1
    have hd := f2.2.1 x.toNat (by omega)
    have hdb := f4.2.2.2.1 x.toNat (show x.toNat < (A 0 3).toNat by omega)
    refine x_aload_n dX10_death_34 rfl ?_
    refine x_gr dX10_death_35 fX10_19 (by first | assumption) (fun _ _ _ => rfl) (by first | assumption) ?_
    refine x_gr dX10_death_38 fX10_81 (by first | assumption) (fun _ _ _ => rfl) (by first | assumption) ?_
    refine x_gr dX10_death_41 fX10_119 (by first | assumption) (fun _ _ _ => rfl) (by first | assumption) ?_
    refine x_iload_n dX10_death_44 rfl ?_
    refine y_iald (x.toNat) dX10_death_45 (by first | assumption) (by first | rfl | omega) (by omega) (by decide) ?_
    refine (show X _ _ 46 _ _ _ _ _ _ from ?_)
    refine X.val hd ?_
    refine x_iload_n dX10_death_46 rfl ?_
    refine (show X _ _ 47 _ _ _ _ _ _ from ?_)
    refine y_icmp_ne 56 dX10_death_47 (by decide) ⟨by omega, by omega⟩ ⟨by omega, by omega⟩ (fun e4 => ?_) (fun e4 => ?_)
    · exact absurd ⟨e1, e2, e4⟩ hb
    refine x_aload_n dX10_death_50 rfl ?_
    refine y_iconst dX10_death_51 ?_
    refine (show X _ _ 52 _ _ _ _ _ _ from ?_)
    refine x_callV (As := [_]) (mc := 0) (ms := 0) (z := mX10_deny) (ci := 10) dX10_death_52 lX10_279 oX10_deny (by decide) (by first | assumption) rfl rfl (Nat.le_of_ble_eq_true rfl) (Nat.le_of_ble_eq_true rfl) rfl (hdn _) (k_I ?_)
    refine (show X _ _ 55 _ _ _ _ _ _ from ?_)
    exact x_zreturn dX10_death_55 rfl rfl (CQ_tr hI0 _ _)
  refine x_aload_n dX10_death_0 rfl ?_
  refine x_iload_n dX10_death_1 rfl ?_
  refine (show X _ _ 2 _ _ _ _ _ _ from ?_)
  refine x_callV (As := [_]) (mc := 0) (ms := 0) (z := mX10_isNoPerson) (ci := 10) dX10_death_2 lX10_109 oX10_isNoPerson (by decide) (by first | assumption) rfl rfl (Nat.le_of_ble_eq_true rfl) (Nat.le_of_ble_eq_true rfl) rfl (hnp) (k_I ?_)
  refine (show X _ _ 5 _ _ _ _ _ _ from ?_)
  refine y_ifb_eq 14 dX10_death_5 (by decide) (fun e => ?_) (fun e => ?_)
  rotate_left
  · rw [if_pos e]
    refine x_aload_n dX10_death_8 rfl ?_
    refine y_iconst dX10_death_9 ?_
    refine (show X _ _ 10 _ _ _ _ _ _ from ?_)
    refine x_callV (As := [_]) (mc := 0) (ms := 0) (z := mX10_deny) (ci := 10) dX10_death_10 lX10_279 oX10_deny (by decide) (by first | assumption) rfl rfl (Nat.le_of_ble_eq_true rfl) (Nat.le_of_ble_eq_true rfl) rfl (hdn _) (k_I ?_)
    refine (show X _ _ 13 _ _ _ _ _ _ from ?_)
    exact x_zreturn dX10_death_13 rfl rfl (CQ_tr hI0 _ _)
  rw [if_neg (by rw [e]; decide)]
  refine x_iload_n dX10_death_14 rfl ?_
  refine y_bipush dX10_death_15 rfl ?_
  refine (show X _ _ 17 _ _ _ _ _ _ from ?_)
  refine y_icmp_eq 34 dX10_death_17 (by decide) ⟨by omega, by omega⟩ ⟨by omega, by omega⟩ (fun e1 => ?_) (fun e1 => ?_)
  · rw [if_neg (by omega)]
    exact tail e (Or.inl e1)
  refine x_aload_n dX10_death_20 rfl ?_
  refine x_iload_n dX10_death_21 rfl ?_
  refine (show X _ _ 22 _ _ _ _ _ _ from ?_)
  refine x_callV (As := [_]) (mc := 0) (ms := 0) (z := mX10_isNoYear) (ci := 10) dX10_death_22 lX10_166 oX10_isNoYear (by decide) (by first | assumption) rfl rfl (Nat.le_of_ble_eq_true rfl) (Nat.le_of_ble_eq_true rfl) rfl (hny) (k_I ?_)
  refine (show X _ _ 25 _ _ _ _ _ _ from ?_)
  refine y_ifb_eq 34 dX10_death_25 (by decide) (fun e2 => ?_) (fun e2 => ?_)
  · rw [if_neg (by rw [e2]; exact fun c => by cases c.2)]
    exact tail e (Or.inr e2)
  rw [if_pos ⟨e1, e2⟩]
  refine x_aload_n dX10_death_28 rfl ?_
  refine y_iconst dX10_death_29 ?_
  refine (show X _ _ 30 _ _ _ _ _ _ from ?_)
  refine x_callV (As := [_]) (mc := 0) (ms := 0) (z := mX10_deny) (ci := 10) dX10_death_30 lX10_279 oX10_deny (by decide) (by first | assumption) rfl rfl (Nat.le_of_ble_eq_true rfl) (Nat.le_of_ble_eq_true rfl) rfl (hdn _) (k_I ?_)
  refine (show X _ _ 33 _ _ _ _ _ _ from ?_)
  exact x_zreturn dX10_death_33 rfl rfl (CQ_tr hI0 _ _)
theorem f_death {x y : Int} (hI : CI T R V o fw fr σ t tp h A B a m H K wr pl tr) (hx : R32 x) (hy : R32 y) (b1 : noP h A x = false) (b2 : y = -2 ∨ noY A y = false) (b3 : B 1 x.toNat ≠ y) : X g mX10_death 0 [.ref o, .int (iI x), .int (iI y)] [] (T, iV V, R, J, z) k n (CQ T R J z V o (some (.int (iI 1))) t tp true A (u2 B 1 x.toNat y) (kaN a) m (kaH a H B) K wr pl 0) := by
  have b4 := noP_f b1
  obtain ⟨rfl, b5, b6⟩ := b4
  have hI0 := hI
  obtain ⟨hC, ⟨p6, p7⟩, hr, htx, hP, ⟨f1, f2, f3, f4⟩, ⟨n1, n2⟩, -, g1, -⟩ := hI
  obtain ⟨-, -, -, hv, -⟩ := g1 rfl
  have hnp := c_isNoPerson (g := g) (J := J) (z := z) (k := 0) (n := 0) (p := x) hC p6 f1 f3 hx
  have hny := c_isNoYear (g := g) (J := J) (z := z) (k := 0) (n := 0) (p := y) hC f1 f3 hy
  have hA3 := f3.2.2.2.1
  have hA0 := f3.1
  obtain ⟨hy1, hy2⟩ := hy
  have hyb : -2 ≤ y ∧ y < A 0 0 := by
    rcases b2 with b2 | b2
    · omega
    · have : 0 ≤ y ∧ y < A 0 0 := Classical.byContradiction fun c => (of_decide_eq_false b2) c
      omega
  have hB : VB A (u2 B 1 x.toNat y) := by
    obtain ⟨b0, b1, b2, b3, b4⟩ := f4
    refine ⟨by rw [u2_n (by decide)]; exact b0, by rw [u2_n (by decide)]; exact b1, by rw [u2_n (by decide)]; exact b2, fun p hp => ?_, fun i hi => ?_⟩
    · by_cases e : p = x.toNat
      · subst e; rw [u2_s, u1_s]; exact hyb
      · rw [u2_s, u1_n e]; exact b3 p hp
    rw [u2_n (by decide)]
    exact b4 i (by rw [u2_n (by decide)] at hi; exact hi)
  obtain ⟨⟨c0, c1, c2, c3, -⟩, -, ⟨⟨w0, w1, w2, w3⟩, -, hNS, -⟩, hPS, -⟩ := hC
  have hk := c_keepAct (g := g) (J := J) (z := z) (k := 0) (n := 0) (V := V) hPS hP hNS f2 (by omega)
  obtain ⟨n0, nd, -, nt, -⟩ := hNS
  have hP0 := hPS.1.1
  have hd := f2.2.1 x.toNat (by omega)
  have hdb := f4.2.2.2.1 x.toNat (show x.toNat < (A 0 3).toNat by omega)
  have tail : X g mX10_death 34 [.ref o, .int (iI x), .int (iI y)] [] (T, iV V, R, J, z) k n (CQ T R J z V o (some (.int (iI 1))) t tp true A (u2 B 1 x.toNat y) (kaN a) m (kaH a H B) K wr pl 0) := by
    refine x_aload_n dX10_death_34 rfl ?_
    refine x_gr dX10_death_35 fX10_19 (by first | assumption) (fun _ _ _ => rfl) (by first | assumption) ?_
    refine x_gr dX10_death_38 fX10_81 (by first | assumption) (fun _ _ _ => rfl) (by first | assumption) ?_
    refine x_gr dX10_death_41 fX10_119 (by first | assumption) (fun _ _ _ => rfl) (by first | assumption) ?_
    refine x_iload_n dX10_death_44 rfl ?_
    refine y_iald (x.toNat) dX10_death_45 (by first | assumption) (by first | rfl | omega) (by omega) (by decide) ?_
    refine (show X _ _ 46 _ _ _ _ _ _ from ?_)
    refine X.val hd ?_
    refine x_iload_n dX10_death_46 rfl ?_
    refine (show X _ _ 47 _ _ _ _ _ _ from ?_)
    refine y_icmp_ne 56 dX10_death_47 (by decide) ⟨by omega, by omega⟩ ⟨by omega, by omega⟩ (fun e4 => ?_) (fun e4 => ?_)
    rotate_left
    · exact absurd e4 b3
    refine x_aload_n dX10_death_56 rfl ?_
    refine x_gr dX10_death_57 fX10_26 (by first | assumption) (fun _ _ _ => rfl) (by first | assumption) ?_
    refine x_aload_n dX10_death_60 rfl ?_
    refine x_gr dX10_death_61 fX10_19 (by first | assumption) (fun _ _ _ => rfl) (by first | assumption) ?_
    refine x_gr dX10_death_64 fX10_81 (by first | assumption) (fun _ _ _ => rfl) (by first | assumption) ?_
    refine (show X _ _ 67 _ _ _ _ _ _ from ?_)
    refine x_callV (As := [_]) (mc := 0) (ms := 0) (z := mX5_keepAct) (ci := 5) dX10_death_67 lX10_285 oX5_keepAct (by decide) (by first | assumption) rfl rfl (Nat.le_of_ble_eq_true rfl) (Nat.le_of_ble_eq_true rfl) rfl (hk) (fun v M1 hq => ?_)
    obtain ⟨rfl, R1, V1, σ1, rfl, k1, k2, k3, k4⟩ := hq
    refine (show X _ _ 70 _ [] _ _ _ _ from ?_)
    have c1' : R1 o 1 = some (o + 53) := by rw [k1 _ (by omega)]; exact c2
    have w1' : R1 (o + 53) 1 = some (o + 99) := by rw [k1 _ (by omega)]; exact w2
    have nd' : R1 (o + 99) 3 = some (o + 99 + 1) := by rw [k1 _ (by omega)]; exact nd
    have hN : NC (u2 V1 (o + 99 + 1) x.toNat y) (o + 99) (u2 B 1 x.toNat y) := by
      refine ⟨fun j hj => ?_, fun p hp => ?_, fun j hj => ?_⟩
      · rw [u2_n (by omega), u2_n (by decide), k2 _ (by omega)]; exact f2.1 j hj
      · by_cases e : p = x.toNat
        · subst e; rw [u2_s, u1_s, u2_s, u1_s]
        · rw [u2_s, u1_n e, u2_s, u1_n e, k2 _ (by omega)]; exact f2.2.1 p hp
      · rw [u2_n (by omega), u2_n (by decide), k2 _ (by omega)]; exact f2.2.2 j hj
    have hσ : ∀ i, i < 12 → σ1 i < 12 := fun i hi => (k3.2.1 i hi).2
    have ac := act_end (g := g) (J := J) (z := z) (k := 0) (n := 0) (V2 := u2 V1 (o + 99 + 1) x.toNat y) hI0 k1 k3 (fun b hb => by rw [u2_n (by omega), k2 b (by omega)]) (PC_eq k4 hσ (fun b q1 q2 => u2_n (by omega))) hN hB (hv_keep hv f4 hP.1.2)
    refine x_aload_n dX10_death_70 rfl ?_
    refine x_gr dX10_death_71 fX10_19 (by first | assumption) (fun _ _ _ => rfl) (by first | assumption) ?_
    refine x_gr dX10_death_74 fX10_81 (by first | assumption) (fun _ _ _ => rfl) (by first | assumption) ?_
    refine x_gr dX10_death_77 fX10_119 (by first | assumption) (fun _ _ _ => rfl) (by first | assumption) ?_
    refine x_iload_n dX10_death_80 rfl ?_
    refine x_iload_n dX10_death_81 rfl ?_
    refine y_iast (x.toNat) dX10_death_82 (by first | assumption) (by first | rfl | omega) (by omega) (by decide) ?_
    refine x_aload_n dX10_death_83 rfl ?_
    refine (show X _ _ 84 _ _ _ _ _ _ from ?_)
    refine x_callV (As := []) (mc := 0) (ms := 0) (z := mX10_acted) (ci := 10) dX10_death_84 lX10_94 oX10_acted (by decide) (by first | assumption) rfl rfl (Nat.le_of_ble_eq_true rfl) (Nat.le_of_ble_eq_true rfl) rfl (ac) (fun v M1 hq => ?_)
    obtain ⟨rfl, hq⟩ := hq
    exact x_zreturn dX10_death_87 rfl rfl ⟨rfl, hq⟩
  refine x_aload_n dX10_death_0 rfl ?_
  refine x_iload_n dX10_death_1 rfl ?_
  refine (show X _ _ 2 _ _ _ _ _ _ from ?_)
  refine x_callV (As := [_]) (mc := 0) (ms := 0) (z := mX10_isNoPerson) (ci := 10) dX10_death_2 lX10_109 oX10_isNoPerson (by decide) (by first | assumption) rfl rfl (Nat.le_of_ble_eq_true rfl) (Nat.le_of_ble_eq_true rfl) rfl (hnp) (k_I ?_)
  refine (show X _ _ 5 _ _ _ _ _ _ from ?_)
  refine y_ifb_eq 14 dX10_death_5 (by decide) (fun e => ?_) (fun e => ?_)
  rotate_left
  · rw [b1] at e; cases e
  refine x_iload_n dX10_death_14 rfl ?_
  refine y_bipush dX10_death_15 rfl ?_
  refine (show X _ _ 17 _ _ _ _ _ _ from ?_)
  refine y_icmp_eq 34 dX10_death_17 (by decide) ⟨by omega, by omega⟩ ⟨by omega, by omega⟩ (fun e1 => ?_) (fun e1 => ?_)
  · exact tail
  refine x_aload_n dX10_death_20 rfl ?_
  refine x_iload_n dX10_death_21 rfl ?_
  refine (show X _ _ 22 _ _ _ _ _ _ from ?_)
  refine x_callV (As := [_]) (mc := 0) (ms := 0) (z := mX10_isNoYear) (ci := 10) dX10_death_22 lX10_166 oX10_isNoYear (by decide) (by first | assumption) rfl rfl (Nat.le_of_ble_eq_true rfl) (Nat.le_of_ble_eq_true rfl) rfl (hny) (k_I ?_)
  refine (show X _ _ 25 _ _ _ _ _ _ from ?_)
  refine y_ifb_eq 34 dX10_death_25 (by decide) (fun e2 => ?_) (fun e2 => ?_)
  · exact tail
  rcases b2 with b2 | b2
  · exact absurd b2 e1
  · rw [b2] at e2; cases e2
end C74
