/-! ===== constructors: World, Annals, Rows ===== -/
theorem FS_k {T T' : Nat → Nat × Nat} {R R' : Nat → Nat → Option Nat} {f : Nat} (h : FS T R f) (hk : ∀ b, f ≤ b → b < f + 45 → T' b = T b ∧ R' b = R b) : FS T' R' f := by
  obtain ⟨h0, ⟨h1, h2, h3, h4, h5, h6⟩, ⟨g1, g2, g3, g4, g5, g6⟩, p1, p2, p3, p4⟩ := h
  have a := hk f (by omega) (by omega)
  refine ⟨a.1.trans h0, ⟨(congrFun a.2 9).trans h1, (congrFun a.2 10).trans h2, (congrFun a.2 11).trans h3, (congrFun a.2 12).trans h4, (congrFun a.2 13).trans h5, (congrFun a.2 14).trans h6⟩, ⟨(hk _ (by omega) (by omega)).1.trans g1, (hk _ (by omega) (by omega)).1.trans g2, (hk _ (by omega) (by omega)).1.trans g3, (hk _ (by omega) (by omega)).1.trans g4, (hk _ (by omega) (by omega)).1.trans g5, (hk _ (by omega) (by omega)).1.trans g6⟩, fun p hp => ⟨(congrFun (hk _ (by omega) (by omega)).2 p).trans (p1 p hp).1, (hk _ (by omega) (by omega)).1.trans (p1 p hp).2⟩, fun p hp => ⟨(congrFun (hk _ (by omega) (by omega)).2 p).trans (p2 p hp).1, (hk _ (by omega) (by omega)).1.trans (p2 p hp).2⟩, fun p hp => ⟨(congrFun (hk _ (by omega) (by omega)).2 p).trans (p3 p hp).1, (hk _ (by omega) (by omega)).1.trans (p3 p hp).2⟩, fun p hp => ⟨(congrFun (hk _ (by omega) (by omega)).2 p).trans (p4 p hp).1, (hk _ (by omega) (by omega)).1.trans (p4 p hp).2⟩⟩
theorem NS_k {T T' : Nat → Nat × Nat} {R R' : Nat → Nat → Option Nat} {f : Nat} (h : NS T R f) (hk : ∀ b, f ≤ b → b < f + 3 → T' b = T b ∧ R' b = R b) : NS T' R' f := by
  obtain ⟨h0, h1, h2, h3, h4⟩ := h
  have a := hk f (by omega) (by omega)
  exact ⟨a.1.trans h0, (congrFun a.2 3).trans h1, (congrFun a.2 4).trans h2, (hk _ (by omega) (by omega)).1.trans h3, (hk _ (by omega) (by omega)).1.trans h4⟩
theorem AS_k {T T' : Nat → Nat × Nat} {R R' : Nat → Nat → Option Nat} {f : Nat} (h : AS T R f) (hk : ∀ b, f ≤ b → b < f + 5 → T' b = T b ∧ R' b = R b) : AS T' R' f := by
  obtain ⟨h0, ⟨h1, h2, h3, h4⟩, ⟨g1, g2, g3, g4⟩⟩ := h
  have a := hk f (by omega) (by omega)
  exact ⟨a.1.trans h0, ⟨(congrFun a.2 0).trans h1, (congrFun a.2 1).trans h2, (congrFun a.2 2).trans h3, (congrFun a.2 3).trans h4⟩, ⟨(hk _ (by omega) (by omega)).1.trans g1, (hk _ (by omega) (by omega)).1.trans g2, (hk _ (by omega) (by omega)).1.trans g3, (hk _ (by omega) (by omega)).1.trans g4⟩⟩
theorem RS_k {T T' : Nat → Nat × Nat} {R R' : Nat → Nat → Option Nat} {f w : Nat} (h : RS T R f w) (hk : ∀ b, f ≤ b → b < f + 5 → T' b = T b ∧ R' b = R b) : RS T' R' f w := by
  obtain ⟨⟨h0, h9⟩, ⟨h1, h2, h3, h4⟩, ⟨g1, g2, g3, g4⟩⟩ := h
  have a := hk f (by omega) (by omega)
  exact ⟨⟨a.1.trans h0, (congrFun a.2 0).trans h9⟩, ⟨(congrFun a.2 11).trans h1, (congrFun a.2 12).trans h2, (congrFun a.2 13).trans h3, (congrFun a.2 14).trans h4⟩, ⟨(hk _ (by omega) (by omega)).1.trans g1, (hk _ (by omega) (by omega)).1.trans g2, (hk _ (by omega) (by omega)).1.trans g3, (hk _ (by omega) (by omega)).1.trans g4⟩⟩
theorem OS_k {T T' : Nat → Nat × Nat} {R R' : Nat → Nat → Option Nat} {f w : Nat} (h : OS T R f w) (hk : ∀ b, f ≤ b → b < f + 3 → T' b = T b ∧ R' b = R b) : OS T' R' f w := by
  obtain ⟨⟨h0, h9⟩, ⟨h1, h2⟩, ⟨g1, g2⟩⟩ := h
  have a := hk f (by omega) (by omega)
  exact ⟨⟨a.1.trans h0, (congrFun a.2 0).trans h9⟩, ⟨(congrFun a.2 2).trans h1, (congrFun a.2 3).trans h2⟩, ⟨(hk _ (by omega) (by omega)).1.trans g1, (hk _ (by omega) (by omega)).1.trans g2⟩⟩
section C59
variable {g : GG} {T : Nat → Nat × Nat} {V : Nat → Nat → Int} {R : Nat → Nat → Option Nat} {J : Nat → Nat → Int64} {r w k n : Nat}
theorem i_World (hT : T r = (19, 0)) : X g mX9_init 0 [.ref r] [] (T, iV V, R, J, r + 1) 53 656 (MKQ T V R J r 54 (fun T' V' R' => WS T' R' r (r + 1) (r + 46) (r + 49) ∧ (∀ c, c < 9 → V' (r + 1) c = 0) ∧ (∀ b, r + 1 < b → b < r + 46 → V' b = fun _ => 0) ∧ (∀ c, c < 3 → V' (r + 46) c = 0) ∧ (∀ b, r + 46 < b → b < r + 49 → V' b = fun _ => 0))) := by
  refine x_aload_n dX9_init_0 rfl ?_
  refine x_objInit dX9_init_1 lX9_1 objI objC (by decide) (Nat.le_of_ble_eq_true rfl) ?_
  refine x_aload_n dX9_init_4 rfl ?_
  refine y_new (ci := 2) dX9_init_5 rfl cX9_7 nX2 iX2 dfX2 ?_
  refine x_dup dX9_init_8 rfl ?_
  refine (show X _ _ 9 _ _ _ _ _ _ from ?_)
  refine x_callI (As := []) (mc := 44) (ms := 300) (z := mX2_init) dX9_init_9 lX9_9 oX2_init (by decide) rfl (Nat.le_of_ble_eq_true rfl) (Nat.le_of_ble_eq_true rfl) rfl (i_Fam (by rw [u1_s])) (fun v M1 hq => ?_)
  obtain ⟨rfl, T1, V1, R1, J1, rfl, k1, s1, a1, z1⟩ := hq
  have kT1 := fun b h => (k1 b h).1
  have kV1 := fun b h => (k1 b h).2.1
  have kR1 := fun b h => (k1 b h).2.2.1
  have kJ1 := fun b h => (k1 b h).2.2.2
  refine (show X _ _ 12 _ _ _ _ _ _ from ?_)
  refine x_pr dX9_init_12 (pX9_10 _) (by first | assumption | (simp (discharger := omega) only [u1_s, u1_n, u2_s, u2_n, kT1, kV1, kR1, kJ1]; first | assumption | rfl)) (fun _ _ _ => rfl) rfl rfl ?_
  refine x_aload_n dX9_init_15 rfl ?_
  refine y_new (ci := 4) dX9_init_16 rfl cX9_16 nX4 iX4 dfX4 ?_
  refine x_dup dX9_init_19 rfl ?_
  refine (show X _ _ 20 _ _ _ _ _ _ from ?_)
  refine x_callI (As := []) (mc := 2) (ms := 42) (z := mX4_init) dX9_init_20 lX9_18 oX4_init (by decide) rfl (Nat.le_of_ble_eq_true rfl) (Nat.le_of_ble_eq_true rfl) rfl (i_Now (by rw [u1_s])) (fun v M1 hq => ?_)
  obtain ⟨rfl, T2, V2, R2, J2, rfl, k2, s2, a2, z2⟩ := hq
  have kT2 := fun b h => (k2 b h).1
  have kV2 := fun b h => (k2 b h).2.1
  have kR2 := fun b h => (k2 b h).2.2.1
  have kJ2 := fun b h => (k2 b h).2.2.2
  refine (show X _ _ 23 _ _ _ _ _ _ from ?_)
  refine x_pr dX9_init_23 pX9_init_19 (by first | assumption | (simp (discharger := omega) only [u1_s, u1_n, u2_s, u2_n, kT1, kV1, kR1, kJ1, kT2, kV2, kR2, kJ2]; first | assumption | rfl)) (fun _ _ _ => rfl) rfl rfl ?_
  refine x_aload_n dX9_init_26 rfl ?_
  refine y_new (ci := 0) dX9_init_27 rfl cX9_23 nX0 iX0 dfX0 ?_
  refine x_dup dX9_init_30 rfl ?_
  refine (show X _ _ 31 _ _ _ _ _ _ from ?_)
  refine x_callI (As := []) (mc := 4) (ms := 290) (z := mX0_init) dX9_init_31 lX9_25 oX0_init (by decide) rfl (Nat.le_of_ble_eq_true rfl) (Nat.le_of_ble_eq_true rfl) rfl (i_Alm (by rw [u1_s])) (fun v M1 hq => ?_)
  obtain ⟨rfl, T3, V3, R3, J3, rfl, k3, s3, a3, z3⟩ := hq
  have kT3 := fun b h => (k3 b h).1
  have kV3 := fun b h => (k3 b h).2.1
  have kR3 := fun b h => (k3 b h).2.2.1
  have kJ3 := fun b h => (k3 b h).2.2.2
  refine (show X _ _ 34 _ _ _ _ _ _ from ?_)
  refine x_pr dX9_init_34 pX9_init_26 (by first | assumption | (simp (discharger := omega) only [u1_s, u1_n, u2_s, u2_n, kT1, kV1, kR1, kJ1, kT2, kV2, kR2, kJ2, kT3, kV3, kR3, kJ3]; first | assumption | rfl)) (fun _ _ _ => rfl) rfl rfl ?_
  refine (show X _ _ 37 _ _ _ _ _ _ from ?_)
  refine x_return dX9_init_37 rfl ⟨rfl, _, _, _, _, rfl, fun b hb => ⟨?_, ?_, ?_, ?_⟩, ⟨⟨?_, ?_, ?_, ?_⟩, FS_k s1 (fun b h1 h2 => ⟨?_, ?_⟩), NS_k s2 (fun b h1 h2 => ⟨?_, ?_⟩), AS_k s3 (fun b h1 h2 => ⟨?_, ?_⟩)⟩, fun c hc => ?_, fun b h1 h2 => ?_, fun c hc => ?_, fun b h1 h2 => ?_⟩
  · simp (discharger := omega) only [u1_s, u1_n, u2_s, u2_n, kT1, kV1, kR1, kJ1, kT2, kV2, kR2, kJ2, kT3, kV3, kR3, kJ3]
  · simp (discharger := omega) only [u1_s, u1_n, u2_s, u2_n, kT1, kV1, kR1, kJ1, kT2, kV2, kR2, kJ2, kT3, kV3, kR3, kJ3]
  · simp (discharger := omega) only [u1_s, u1_n, u2_s, u2_n, kT1, kV1, kR1, kJ1, kT2, kV2, kR2, kJ2, kT3, kV3, kR3, kJ3]
  · simp (discharger := omega) only [u1_s, u1_n, u2_s, u2_n, kT1, kV1, kR1, kJ1, kT2, kV2, kR2, kJ2, kT3, kV3, kR3, kJ3]
  · simp (discharger := omega) only [u1_s, u1_n, u2_s, u2_n, kT1, kV1, kR1, kJ1, kT2, kV2, kR2, kJ2, kT3, kV3, kR3, kJ3]; exact hT
  · simp (discharger := omega) only [u1_s, u1_n, u2_s, u2_n, kT1, kV1, kR1, kJ1, kT2, kV2, kR2, kJ2, kT3, kV3, kR3, kJ3]
  · simp (discharger := omega) only [u1_s, u1_n, u2_s, u2_n, kT1, kV1, kR1, kJ1, kT2, kV2, kR2, kJ2, kT3, kV3, kR3, kJ3]
  · simp (discharger := omega) only [u1_s, u1_n, u2_s, u2_n, kT1, kV1, kR1, kJ1, kT2, kV2, kR2, kJ2, kT3, kV3, kR3, kJ3]
  · simp (discharger := omega) only [u1_s, u1_n, u2_s, u2_n, kT1, kV1, kR1, kJ1, kT2, kV2, kR2, kJ2, kT3, kV3, kR3, kJ3]
  · simp (discharger := omega) only [u1_s, u1_n, u2_s, u2_n, kT1, kV1, kR1, kJ1, kT2, kV2, kR2, kJ2, kT3, kV3, kR3, kJ3]
  · simp (discharger := omega) only [u1_s, u1_n, u2_s, u2_n, kT1, kV1, kR1, kJ1, kT2, kV2, kR2, kJ2, kT3, kV3, kR3, kJ3]
  · simp (discharger := omega) only [u1_s, u1_n, u2_s, u2_n, kT1, kV1, kR1, kJ1, kT2, kV2, kR2, kJ2, kT3, kV3, kR3, kJ3]
  · rfl
  · simp (discharger := omega) only [u1_s, u1_n, u2_s, u2_n, kT1, kV1, kR1, kJ1, kT2, kV2, kR2, kJ2, kT3, kV3, kR3, kJ3]
  · rw [← a1 c hc]; simp (discharger := omega) only [u1_s, u1_n, u2_s, u2_n, kT1, kV1, kR1, kJ1, kT2, kV2, kR2, kJ2, kT3, kV3, kR3, kJ3]
  · rw [← z1 b h1 (by omega)]; simp (discharger := omega) only [u1_s, u1_n, u2_s, u2_n, kT1, kV1, kR1, kJ1, kT2, kV2, kR2, kJ2, kT3, kV3, kR3, kJ3]
  · rw [← a2 c hc]; simp (discharger := omega) only [u1_s, u1_n, u2_s, u2_n, kT1, kV1, kR1, kJ1, kT2, kV2, kR2, kJ2, kT3, kV3, kR3, kJ3]
  · rw [← z2 b (by omega) (by omega)]; simp (discharger := omega) only [u1_s, u1_n, u2_s, u2_n, kT1, kV1, kR1, kJ1, kT2, kV2, kR2, kJ2, kT3, kV3, kR3, kJ3]
theorem i_Annals (hT : T r = (11, 0)) : X g mX1_init 0 [.ref r, .ref w] [] (T, iV V, R, J, r + 1) 15 643 (MKQ T V R J r 16 (fun T' V' R' => US T' R' r w ∧ (V' (r + 13) 1 = 0) ∧ (∀ b, r < b → b < r + 16 → b ≠ r + 8 → b ≠ r + 13 → V' b = fun _ => 0))) := by
  refine x_aload_n dX1_init_0 rfl ?_
  refine x_objInit dX1_init_1 lX1_3 objI objC (by decide) (Nat.le_of_ble_eq_true rfl) ?_
  refine x_aload_n dX1_init_4 rfl ?_
  refine y_bipush dX1_init_5 rfl ?_
  refine y_newa (t := 1) (N := (24)) dX1_init_7 rfl (by decide) (by decide) acI rfl (by decide) ?_
  refine (show X _ _ 9 _ _ _ _ _ _ from ?_)
  refine x_pr dX1_init_9 pX1_init_9 (by first | assumption | (simp (discharger := omega) only [u1_s, u1_n, u2_s, u2_n]; first | assumption | rfl)) (fun _ _ _ => rfl) rfl rfl ?_
  refine x_aload_n dX1_init_12 rfl ?_
  refine y_bipush dX1_init_13 rfl ?_
  refine y_newa (t := 1) (N := (24)) dX1_init_15 rfl (by decide) (by decide) acI rfl (by decide) ?_
  refine (show X _ _ 17 _ _ _ _ _ _ from ?_)
  refine x_pr dX1_init_17 pX1_init_15 (by first | assumption | (simp (discharger := omega) only [u1_s, u1_n, u2_s, u2_n]; first | assumption | rfl)) (fun _ _ _ => rfl) rfl rfl ?_
  refine x_aload_n dX1_init_20 rfl ?_
  refine y_bipush dX1_init_21 rfl ?_
  refine y_newa (t := 1) (N := (24)) dX1_init_23 rfl (by decide) (by decide) acI rfl (by decide) ?_
  refine (show X _ _ 25 _ _ _ _ _ _ from ?_)
  refine x_pr dX1_init_25 pX1_init_18 (by first | assumption | (simp (discharger := omega) only [u1_s, u1_n, u2_s, u2_n]; first | assumption | rfl)) (fun _ _ _ => rfl) rfl rfl ?_
  refine x_aload_n dX1_init_28 rfl ?_
  refine y_bipush dX1_init_29 rfl ?_
  refine y_newa (t := 1) (N := (24)) dX1_init_31 rfl (by decide) (by decide) acI rfl (by decide) ?_
  refine (show X _ _ 33 _ _ _ _ _ _ from ?_)
  refine x_pr dX1_init_33 pX1_init_21 (by first | assumption | (simp (discharger := omega) only [u1_s, u1_n, u2_s, u2_n]; first | assumption | rfl)) (fun _ _ _ => rfl) rfl rfl ?_
  refine x_aload_n dX1_init_36 rfl ?_
  refine y_bipush dX1_init_37 rfl ?_
  refine y_newa (t := 1) (N := (24)) dX1_init_39 rfl (by decide) (by decide) acI rfl (by decide) ?_
  refine (show X _ _ 41 _ _ _ _ _ _ from ?_)
  refine x_pr dX1_init_41 pX1_init_24 (by first | assumption | (simp (discharger := omega) only [u1_s, u1_n, u2_s, u2_n]; first | assumption | rfl)) (fun _ _ _ => rfl) rfl rfl ?_
  refine x_aload_n dX1_init_44 rfl ?_
  refine y_sipush dX1_init_45 rfl ?_
  refine y_newa (t := 1) (N := (240)) dX1_init_48 rfl (by decide) (by decide) acI rfl (by decide) ?_
  refine (show X _ _ 50 _ _ _ _ _ _ from ?_)
  refine x_pr dX1_init_50 pX1_init_27 (by first | assumption | (simp (discharger := omega) only [u1_s, u1_n, u2_s, u2_n]; first | assumption | rfl)) (fun _ _ _ => rfl) rfl rfl ?_
  refine x_aload_n dX1_init_53 rfl ?_
  refine y_sipush dX1_init_54 rfl ?_
  refine y_newa (t := 1) (N := (192)) dX1_init_57 rfl (by decide) (by decide) acI rfl (by decide) ?_
  refine (show X _ _ 59 _ _ _ _ _ _ from ?_)
  refine x_pr dX1_init_59 pX1_init_30 (by first | assumption | (simp (discharger := omega) only [u1_s, u1_n, u2_s, u2_n]; first | assumption | rfl)) (fun _ _ _ => rfl) rfl rfl ?_
  refine x_aload_n dX1_init_62 rfl ?_
  refine x_aload_n dX1_init_63 rfl ?_
  refine x_pr dX1_init_64 pX1_init_33 (by first | assumption | (simp (discharger := omega) only [u1_s, u1_n, u2_s, u2_n]; first | assumption | rfl)) (fun _ _ _ => rfl) rfl rfl ?_
  refine x_aload_n dX1_init_67 rfl ?_
  refine y_new (ci := 8) dX1_init_68 rfl cX1_37 nX8 iX8 dfX8 ?_
  refine x_dup dX1_init_71 rfl ?_
  refine x_aload_n dX1_init_72 rfl ?_
  refine (show X _ _ 73 _ _ _ _ _ _ from ?_)
  refine x_callI (As := [_]) (mc := 4) (ms := 54) (z := mX8_init) dX1_init_73 lX1_39 oX8_init (by decide) rfl (Nat.le_of_ble_eq_true rfl) (Nat.le_of_ble_eq_true rfl) rfl (i_Run (w := w) (by rw [u1_s])) (fun v M1 hq => ?_)
  obtain ⟨rfl, T1, V1, R1, J1, rfl, k1, s1, a1, z1⟩ := hq
  have kT1 := fun b h => (k1 b h).1
  have kV1 := fun b h => (k1 b h).2.1
  have kR1 := fun b h => (k1 b h).2.2.1
  have kJ1 := fun b h => (k1 b h).2.2.2
  refine (show X _ _ 76 _ _ _ _ _ _ from ?_)
  refine x_pr dX1_init_76 pX1_init_42 (by first | assumption | (simp (discharger := omega) only [u1_s, u1_n, u2_s, u2_n, kT1, kV1, kR1, kJ1]; first | assumption | rfl)) (fun _ _ _ => rfl) rfl rfl ?_
  refine x_aload_n dX1_init_79 rfl ?_
  refine y_new (ci := 3) dX1_init_80 rfl cX1_46 nX3 iX3 dfX3 ?_
  refine x_dup dX1_init_83 rfl ?_
  refine x_aload_n dX1_init_84 rfl ?_
  refine (show X _ _ 85 _ _ _ _ _ _ from ?_)
  refine x_callI (As := [_]) (mc := 2) (ms := 18) (z := mX3_init) dX1_init_85 lX1_48 oX3_init (by decide) rfl (Nat.le_of_ble_eq_true rfl) (Nat.le_of_ble_eq_true rfl) rfl (i_Notes (w := w) (by rw [u1_s])) (fun v M1 hq => ?_)
  obtain ⟨rfl, T2, V2, R2, J2, rfl, k2, s2, a2, z2⟩ := hq
  have kT2 := fun b h => (k2 b h).1
  have kV2 := fun b h => (k2 b h).2.1
  have kR2 := fun b h => (k2 b h).2.2.1
  have kJ2 := fun b h => (k2 b h).2.2.2
  refine (show X _ _ 88 _ _ _ _ _ _ from ?_)
  refine x_pr dX1_init_88 pX1_init_49 (by first | assumption | (simp (discharger := omega) only [u1_s, u1_n, u2_s, u2_n, kT1, kV1, kR1, kJ1, kT2, kV2, kR2, kJ2]; first | assumption | rfl)) (fun _ _ _ => rfl) rfl rfl ?_
  refine (show X _ _ 91 _ _ _ _ _ _ from ?_)
  refine x_return dX1_init_91 rfl ⟨rfl, _, _, _, _, rfl, fun b hb => ⟨?_, ?_, ?_, ?_⟩, ⟨⟨?_, ?_, ?_, ?_⟩, ⟨?_, ?_, ?_, ?_, ?_, ?_, ?_⟩, ⟨?_, ?_, ?_, ?_, ?_, ?_, ?_⟩, RS_k s1 (fun b h1 h2 => ⟨?_, ?_⟩), OS_k s2 (fun b h1 h2 => ⟨?_, ?_⟩)⟩, ?_, fun b h1 h2 h3 h4 => ?_⟩
  · simp (discharger := omega) only [u1_s, u1_n, u2_s, u2_n, kT1, kV1, kR1, kJ1, kT2, kV2, kR2, kJ2]
  · simp (discharger := omega) only [u1_s, u1_n, u2_s, u2_n, kT1, kV1, kR1, kJ1, kT2, kV2, kR2, kJ2]
  · simp (discharger := omega) only [u1_s, u1_n, u2_s, u2_n, kT1, kV1, kR1, kJ1, kT2, kV2, kR2, kJ2]
  · simp (discharger := omega) only [u1_s, u1_n, u2_s, u2_n, kT1, kV1, kR1, kJ1, kT2, kV2, kR2, kJ2]
  · simp (discharger := omega) only [u1_s, u1_n, u2_s, u2_n, kT1, kV1, kR1, kJ1, kT2, kV2, kR2, kJ2]; exact hT
  · simp (discharger := omega) only [u1_s, u1_n, u2_s, u2_n, kT1, kV1, kR1, kJ1, kT2, kV2, kR2, kJ2]
  · simp (discharger := omega) only [u1_s, u1_n, u2_s, u2_n, kT1, kV1, kR1, kJ1, kT2, kV2, kR2, kJ2]
  · simp (discharger := omega) only [u1_s, u1_n, u2_s, u2_n, kT1, kV1, kR1, kJ1, kT2, kV2, kR2, kJ2]
  · simp (discharger := omega) only [u1_s, u1_n, u2_s, u2_n, kT1, kV1, kR1, kJ1, kT2, kV2, kR2, kJ2]
  · simp (discharger := omega) only [u1_s, u1_n, u2_s, u2_n, kT1, kV1, kR1, kJ1, kT2, kV2, kR2, kJ2]
  · simp (discharger := omega) only [u1_s, u1_n, u2_s, u2_n, kT1, kV1, kR1, kJ1, kT2, kV2, kR2, kJ2]
  · simp (discharger := omega) only [u1_s, u1_n, u2_s, u2_n, kT1, kV1, kR1, kJ1, kT2, kV2, kR2, kJ2]
  · simp (discharger := omega) only [u1_s, u1_n, u2_s, u2_n, kT1, kV1, kR1, kJ1, kT2, kV2, kR2, kJ2]
  · simp (discharger := omega) only [u1_s, u1_n, u2_s, u2_n, kT1, kV1, kR1, kJ1, kT2, kV2, kR2, kJ2]
  · simp (discharger := omega) only [u1_s, u1_n, u2_s, u2_n, kT1, kV1, kR1, kJ1, kT2, kV2, kR2, kJ2]
  · simp (discharger := omega) only [u1_s, u1_n, u2_s, u2_n, kT1, kV1, kR1, kJ1, kT2, kV2, kR2, kJ2]
  · simp (discharger := omega) only [u1_s, u1_n, u2_s, u2_n, kT1, kV1, kR1, kJ1, kT2, kV2, kR2, kJ2]
  · simp (discharger := omega) only [u1_s, u1_n, u2_s, u2_n, kT1, kV1, kR1, kJ1, kT2, kV2, kR2, kJ2]
  · simp (discharger := omega) only [u1_s, u1_n, u2_s, u2_n, kT1, kV1, kR1, kJ1, kT2, kV2, kR2, kJ2]
  · simp (discharger := omega) only [u1_s, u1_n, u2_s, u2_n, kT1, kV1, kR1, kJ1, kT2, kV2, kR2, kJ2]
  · simp (discharger := omega) only [u1_s, u1_n, u2_s, u2_n, kT1, kV1, kR1, kJ1, kT2, kV2, kR2, kJ2]
  · simp (discharger := omega) only [u1_s, u1_n, u2_s, u2_n, kT1, kV1, kR1, kJ1, kT2, kV2, kR2, kJ2]
  · simp (discharger := omega) only [u1_s, u1_n, u2_s, u2_n, kT1, kV1, kR1, kJ1, kT2, kV2, kR2, kJ2]
  · simp (discharger := omega) only [u1_s, u1_n, u2_s, u2_n, kT1, kV1, kR1, kJ1, kT2, kV2, kR2, kJ2]
  · rfl
  · simp (discharger := omega) only [u1_s, u1_n, u2_s, u2_n, kT1, kV1, kR1, kJ1, kT2, kV2, kR2, kJ2]
  · rw [← a2]
  · rcases (by omega : b = r + 1 ∨ b = r + 2 ∨ b = r + 3 ∨ b = r + 4 ∨ b = r + 5 ∨ b = r + 6 ∨ b = r + 7 ∨ (r + 8 < b ∧ b < r + 13) ∨ (r + 13 < b ∧ b < r + 16)) with rfl | rfl | rfl | rfl | rfl | rfl | rfl | h5 | h5
    · simp (discharger := omega) only [u1_s, u1_n, u2_s, u2_n, kT1, kV1, kR1, kJ1, kT2, kV2, kR2, kJ2]
    · simp (discharger := omega) only [u1_s, u1_n, u2_s, u2_n, kT1, kV1, kR1, kJ1, kT2, kV2, kR2, kJ2]
    · simp (discharger := omega) only [u1_s, u1_n, u2_s, u2_n, kT1, kV1, kR1, kJ1, kT2, kV2, kR2, kJ2]
    · simp (discharger := omega) only [u1_s, u1_n, u2_s, u2_n, kT1, kV1, kR1, kJ1, kT2, kV2, kR2, kJ2]
    · simp (discharger := omega) only [u1_s, u1_n, u2_s, u2_n, kT1, kV1, kR1, kJ1, kT2, kV2, kR2, kJ2]
    · simp (discharger := omega) only [u1_s, u1_n, u2_s, u2_n, kT1, kV1, kR1, kJ1, kT2, kV2, kR2, kJ2]
    · simp (discharger := omega) only [u1_s, u1_n, u2_s, u2_n, kT1, kV1, kR1, kJ1, kT2, kV2, kR2, kJ2]
    · rw [← z1 b (by omega) (by omega)]; simp (discharger := omega) only [u1_s, u1_n, u2_s, u2_n, kT1, kV1, kR1, kJ1, kT2, kV2, kR2, kJ2]
    · rw [← z2 b (by omega) (by omega)]
theorem i_Rows (hT : T r = (17, 0)) : X g mX7_init 0 [.ref r, .ref w] [] (T, iV V, R, J, r + 1) 13 205 (MKQ T V R J r 14 (fun T' V' R' => QS T' R' r w ∧ (V' r 7 = 0 ∧ V' (r + 11) 1 = 0) ∧ (∀ b, r < b → b < r + 14 → b ≠ r + 6 → b ≠ r + 11 → V' b = fun _ => 0))) := by
  refine x_aload_n dX7_init_0 rfl ?_
  refine x_objInit dX7_init_1 lX7_3 objI objC (by decide) (Nat.le_of_ble_eq_true rfl) ?_
  refine x_aload_n dX7_init_4 rfl ?_
  refine y_iconst dX7_init_5 ?_
  refine y_newa (t := 1) (N := (4)) dX7_init_6 rfl (by decide) (by decide) acI rfl (by decide) ?_
  refine (show X _ _ 8 _ _ _ _ _ _ from ?_)
  refine x_pr dX7_init_8 pX7_init_9 (by first | assumption | (simp (discharger := omega) only [u1_s, u1_n, u2_s, u2_n]; first | assumption | rfl)) (fun _ _ _ => rfl) rfl rfl ?_
  refine x_aload_n dX7_init_11 rfl ?_
  refine y_iconst dX7_init_12 ?_
  refine y_newa (t := 3) (N := (5)) dX7_init_13 rfl (by decide) (by decide) acZ rfl (by decide) ?_
  refine (show X _ _ 15 _ _ _ _ _ _ from ?_)
  refine x_pr dX7_init_15 pX7_init_15 (by first | assumption | (simp (discharger := omega) only [u1_s, u1_n, u2_s, u2_n]; first | assumption | rfl)) (fun _ _ _ => rfl) rfl rfl ?_
  refine x_aload_n dX7_init_18 rfl ?_
  refine y_iconst dX7_init_19 ?_
  refine y_newa (t := 1) (N := (5)) dX7_init_20 rfl (by decide) (by decide) acI rfl (by decide) ?_
  refine (show X _ _ 22 _ _ _ _ _ _ from ?_)
  refine x_pr dX7_init_22 pX7_init_19 (by first | assumption | (simp (discharger := omega) only [u1_s, u1_n, u2_s, u2_n]; first | assumption | rfl)) (fun _ _ _ => rfl) rfl rfl ?_
  refine x_aload_n dX7_init_25 rfl ?_
  refine y_bipush dX7_init_26 rfl ?_
  refine y_newa (t := 1) (N := (20)) dX7_init_28 rfl (by decide) (by decide) acI rfl (by decide) ?_
  refine (show X _ _ 30 _ _ _ _ _ _ from ?_)
  refine x_pr dX7_init_30 pX7_init_22 (by first | assumption | (simp (discharger := omega) only [u1_s, u1_n, u2_s, u2_n]; first | assumption | rfl)) (fun _ _ _ => rfl) rfl rfl ?_
  refine x_aload_n dX7_init_33 rfl ?_
  refine y_iconst dX7_init_34 ?_
  refine y_pi dX7_init_35 (pX7_25 _) (by first | assumption | (simp (discharger := omega) only [u1_s, u1_n, u2_s, u2_n]; first | assumption | rfl)) (fun _ _ _ => rfl) (by first | rfl | exact bI_nar _) (by first | rfl | exact bI_fit _) ?_
  refine x_aload_n dX7_init_38 rfl ?_
  refine y_bipush dX7_init_39 rfl ?_
  refine y_newa (t := 1) (N := (80)) dX7_init_41 rfl (by decide) (by decide) acI rfl (by decide) ?_
  refine (show X _ _ 43 _ _ _ _ _ _ from ?_)
  refine x_pr dX7_init_43 pX7_init_29 (by first | assumption | (simp (discharger := omega) only [u1_s, u1_n, u2_s, u2_n]; first | assumption | rfl)) (fun _ _ _ => rfl) rfl rfl ?_
  refine x_aload_n dX7_init_46 rfl ?_
  refine x_aload_n dX7_init_47 rfl ?_
  refine x_pr dX7_init_48 pX7_init_32 (by first | assumption | (simp (discharger := omega) only [u1_s, u1_n, u2_s, u2_n]; first | assumption | rfl)) (fun _ _ _ => rfl) rfl rfl ?_
  refine x_aload_n dX7_init_51 rfl ?_
  refine y_new (ci := 8) dX7_init_52 rfl cX7_36 nX8 iX8 dfX8 ?_
  refine x_dup dX7_init_55 rfl ?_
  refine x_aload_n dX7_init_56 rfl ?_
  refine (show X _ _ 57 _ _ _ _ _ _ from ?_)
  refine x_callI (As := [_]) (mc := 4) (ms := 54) (z := mX8_init) dX7_init_57 lX7_38 oX8_init (by decide) rfl (Nat.le_of_ble_eq_true rfl) (Nat.le_of_ble_eq_true rfl) rfl (i_Run (w := w) (by rw [u1_s])) (fun v M1 hq => ?_)
  obtain ⟨rfl, T1, V1, R1, J1, rfl, k1, s1, a1, z1⟩ := hq
  have kT1 := fun b h => (k1 b h).1
  have kV1 := fun b h => (k1 b h).2.1
  have kR1 := fun b h => (k1 b h).2.2.1
  have kJ1 := fun b h => (k1 b h).2.2.2
  refine (show X _ _ 60 _ _ _ _ _ _ from ?_)
  refine x_pr dX7_init_60 pX7_init_41 (by first | assumption | (simp (discharger := omega) only [u1_s, u1_n, u2_s, u2_n, kT1, kV1, kR1, kJ1]; first | assumption | rfl)) (fun _ _ _ => rfl) rfl rfl ?_
  refine x_aload_n dX7_init_63 rfl ?_
  refine y_new (ci := 3) dX7_init_64 rfl cX7_45 nX3 iX3 dfX3 ?_
  refine x_dup dX7_init_67 rfl ?_
  refine x_aload_n dX7_init_68 rfl ?_
  refine (show X _ _ 69 _ _ _ _ _ _ from ?_)
  refine x_callI (As := [_]) (mc := 2) (ms := 18) (z := mX3_init) dX7_init_69 lX7_47 oX3_init (by decide) rfl (Nat.le_of_ble_eq_true rfl) (Nat.le_of_ble_eq_true rfl) rfl (i_Notes (w := w) (by rw [u1_s])) (fun v M1 hq => ?_)
  obtain ⟨rfl, T2, V2, R2, J2, rfl, k2, s2, a2, z2⟩ := hq
  have kT2 := fun b h => (k2 b h).1
  have kV2 := fun b h => (k2 b h).2.1
  have kR2 := fun b h => (k2 b h).2.2.1
  have kJ2 := fun b h => (k2 b h).2.2.2
  refine (show X _ _ 72 _ _ _ _ _ _ from ?_)
  refine x_pr dX7_init_72 pX7_init_48 (by first | assumption | (simp (discharger := omega) only [u1_s, u1_n, u2_s, u2_n, kT1, kV1, kR1, kJ1, kT2, kV2, kR2, kJ2]; first | assumption | rfl)) (fun _ _ _ => rfl) rfl rfl ?_
  refine (show X _ _ 75 _ _ _ _ _ _ from ?_)
  refine x_return dX7_init_75 rfl ⟨rfl, _, _, _, _, rfl, fun b hb => ⟨?_, ?_, ?_, ?_⟩, ⟨⟨?_, ?_, ?_, ?_⟩, ⟨?_, ?_, ?_, ?_, ?_⟩, ⟨?_, ?_, ?_, ?_, ?_⟩, RS_k s1 (fun b h1 h2 => ⟨?_, ?_⟩), OS_k s2 (fun b h1 h2 => ⟨?_, ?_⟩)⟩, ⟨?_, ?_⟩, fun b h1 h2 h3 h4 => ?_⟩
  · simp (discharger := omega) only [u1_s, u1_n, u2_s, u2_n, kT1, kV1, kR1, kJ1, kT2, kV2, kR2, kJ2]
  · simp (discharger := omega) only [u1_s, u1_n, u2_s, u2_n, kT1, kV1, kR1, kJ1, kT2, kV2, kR2, kJ2]
  · simp (discharger := omega) only [u1_s, u1_n, u2_s, u2_n, kT1, kV1, kR1, kJ1, kT2, kV2, kR2, kJ2]
  · simp (discharger := omega) only [u1_s, u1_n, u2_s, u2_n, kT1, kV1, kR1, kJ1, kT2, kV2, kR2, kJ2]
  · simp (discharger := omega) only [u1_s, u1_n, u2_s, u2_n, kT1, kV1, kR1, kJ1, kT2, kV2, kR2, kJ2]; exact hT
  · simp (discharger := omega) only [u1_s, u1_n, u2_s, u2_n, kT1, kV1, kR1, kJ1, kT2, kV2, kR2, kJ2]
  · simp (discharger := omega) only [u1_s, u1_n, u2_s, u2_n, kT1, kV1, kR1, kJ1, kT2, kV2, kR2, kJ2]
  · simp (discharger := omega) only [u1_s, u1_n, u2_s, u2_n, kT1, kV1, kR1, kJ1, kT2, kV2, kR2, kJ2]
  · simp (discharger := omega) only [u1_s, u1_n, u2_s, u2_n, kT1, kV1, kR1, kJ1, kT2, kV2, kR2, kJ2]
  · simp (discharger := omega) only [u1_s, u1_n, u2_s, u2_n, kT1, kV1, kR1, kJ1, kT2, kV2, kR2, kJ2]
  · simp (discharger := omega) only [u1_s, u1_n, u2_s, u2_n, kT1, kV1, kR1, kJ1, kT2, kV2, kR2, kJ2]
  · simp (discharger := omega) only [u1_s, u1_n, u2_s, u2_n, kT1, kV1, kR1, kJ1, kT2, kV2, kR2, kJ2]
  · simp (discharger := omega) only [u1_s, u1_n, u2_s, u2_n, kT1, kV1, kR1, kJ1, kT2, kV2, kR2, kJ2]
  · simp (discharger := omega) only [u1_s, u1_n, u2_s, u2_n, kT1, kV1, kR1, kJ1, kT2, kV2, kR2, kJ2]
  · simp (discharger := omega) only [u1_s, u1_n, u2_s, u2_n, kT1, kV1, kR1, kJ1, kT2, kV2, kR2, kJ2]
  · simp (discharger := omega) only [u1_s, u1_n, u2_s, u2_n, kT1, kV1, kR1, kJ1, kT2, kV2, kR2, kJ2]
  · simp (discharger := omega) only [u1_s, u1_n, u2_s, u2_n, kT1, kV1, kR1, kJ1, kT2, kV2, kR2, kJ2]
  · simp (discharger := omega) only [u1_s, u1_n, u2_s, u2_n, kT1, kV1, kR1, kJ1, kT2, kV2, kR2, kJ2]
  · simp (discharger := omega) only [u1_s, u1_n, u2_s, u2_n, kT1, kV1, kR1, kJ1, kT2, kV2, kR2, kJ2]
  · simp (discharger := omega) only [u1_s, u1_n, u2_s, u2_n, kT1, kV1, kR1, kJ1, kT2, kV2, kR2, kJ2]
  · rfl
  · simp (discharger := omega) only [u1_s, u1_n, u2_s, u2_n, kT1, kV1, kR1, kJ1, kT2, kV2, kR2, kJ2]
  · simp (discharger := omega) only [u1_s, u1_n, u2_s, u2_n, kT1, kV1, kR1, kJ1, kT2, kV2, kR2, kJ2]
  · rw [← a2]
  · rcases (by omega : b = r + 1 ∨ b = r + 2 ∨ b = r + 3 ∨ b = r + 4 ∨ b = r + 5 ∨ (r + 6 < b ∧ b < r + 11) ∨ (r + 11 < b ∧ b < r + 14)) with rfl | rfl | rfl | rfl | rfl | h5 | h5
    · simp (discharger := omega) only [u1_s, u1_n, u2_s, u2_n, kT1, kV1, kR1, kJ1, kT2, kV2, kR2, kJ2]
    · simp (discharger := omega) only [u1_s, u1_n, u2_s, u2_n, kT1, kV1, kR1, kJ1, kT2, kV2, kR2, kJ2]
    · simp (discharger := omega) only [u1_s, u1_n, u2_s, u2_n, kT1, kV1, kR1, kJ1, kT2, kV2, kR2, kJ2]
    · simp (discharger := omega) only [u1_s, u1_n, u2_s, u2_n, kT1, kV1, kR1, kJ1, kT2, kV2, kR2, kJ2]
    · simp (discharger := omega) only [u1_s, u1_n, u2_s, u2_n, kT1, kV1, kR1, kJ1, kT2, kV2, kR2, kJ2]
    · rw [← z1 b (by omega) (by omega)]; simp (discharger := omega) only [u1_s, u1_n, u2_s, u2_n, kT1, kV1, kR1, kJ1, kT2, kV2, kR2, kJ2]
    · rw [← z2 b (by omega) (by omega)]
end C59
