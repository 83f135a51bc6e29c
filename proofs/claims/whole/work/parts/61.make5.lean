/-! ===== the class's object as it is made ===== -/
theorem BX_k {T T' : Nat → Nat × Nat} {R R' : Nat → Nat → Option Nat} {rd tx q f : Nat} (h : BX T R rd tx q f) (hk : ∀ b, (rd ≤ b ∧ b < rd + 52) ∨ (f ≤ b ∧ b < f + 45) → T' b = T b ∧ R' b = R b) : BX T' R' rd tx q f := by
  obtain ⟨⟨s0, s1, s2⟩, ⟨⟨d3, d4, d5, d6, d7⟩, ⟨u3, u4, u5, u6, u7⟩⟩, hF, r0, hs⟩ := h
  have a := hk rd (by omega)
  exact ⟨⟨a.1.trans s0, (congrFun a.2 3).trans s1, (hk tx (by omega)).1.trans s2⟩, ⟨⟨(congrFun a.2 13).trans d3, (congrFun a.2 14).trans d4, (congrFun a.2 15).trans d5, (congrFun a.2 16).trans d6, (congrFun a.2 17).trans d7⟩, ⟨(hk _ (by omega)).1.trans u3, (hk _ (by omega)).1.trans u4, (hk _ (by omega)).1.trans u5, (hk _ (by omega)).1.trans u6, (hk _ (by omega)).1.trans u7⟩⟩, FS_k hF (fun b h1 h2 => hk b (Or.inr ⟨h1, h2⟩)), (congrFun a.2 0).trans r0, hs⟩
theorem WS_k {T T' : Nat → Nat × Nat} {R R' : Nat → Nat → Option Nat} {w f nw al : Nat} (h : WS T R w f nw al) (hk : ∀ b, b = w ∨ (f ≤ b ∧ b < f + 45) ∨ (nw ≤ b ∧ b < nw + 3) ∨ (al ≤ b ∧ b < al + 5) → T' b = T b ∧ R' b = R b) : WS T' R' w f nw al := by
  obtain ⟨⟨a0, a1, a2, a3⟩, hF, hN, hA⟩ := h
  have a := hk w (Or.inl rfl)
  exact ⟨⟨a.1.trans a0, (congrFun a.2 0).trans a1, (congrFun a.2 1).trans a2, (congrFun a.2 2).trans a3⟩, FS_k hF (fun b h1 h2 => hk b (by omega)), NS_k hN (fun b h1 h2 => hk b (by omega)), AS_k hA (fun b h1 h2 => hk b (by omega))⟩
theorem US_k {T T' : Nat → Nat × Nat} {R R' : Nat → Nat → Option Nat} {aa w : Nat} (h : US T R aa w) (hk : ∀ b, aa ≤ b → b < aa + 16 → T' b = T b ∧ R' b = R b) : US T' R' aa w := by
  obtain ⟨⟨a0, a1, a2, a3⟩, ⟨b1, b2, b3, b4, b5, b6, b7⟩, ⟨c1, c2, c3, c4, c5, c6, c7⟩, hR, hO⟩ := h
  have a := hk aa (by omega) (by omega)
  exact ⟨⟨a.1.trans a0, (congrFun a.2 0).trans a1, (congrFun a.2 1).trans a2, (congrFun a.2 2).trans a3⟩, ⟨(congrFun a.2 3).trans b1, (congrFun a.2 4).trans b2, (congrFun a.2 5).trans b3, (congrFun a.2 6).trans b4, (congrFun a.2 7).trans b5, (congrFun a.2 8).trans b6, (congrFun a.2 9).trans b7⟩, ⟨(hk _ (by omega) (by omega)).1.trans c1, (hk _ (by omega) (by omega)).1.trans c2, (hk _ (by omega) (by omega)).1.trans c3, (hk _ (by omega) (by omega)).1.trans c4, (hk _ (by omega) (by omega)).1.trans c5, (hk _ (by omega) (by omega)).1.trans c6, (hk _ (by omega) (by omega)).1.trans c7⟩, RS_k hR (fun b h1 h2 => hk b (by omega) (by omega)), OS_k hO (fun b h1 h2 => hk b (by omega) (by omega))⟩
theorem QS_k {T T' : Nat → Nat × Nat} {R R' : Nat → Nat → Option Nat} {aa w : Nat} (h : QS T R aa w) (hk : ∀ b, aa ≤ b → b < aa + 14 → T' b = T b ∧ R' b = R b) : QS T' R' aa w := by
  obtain ⟨⟨a0, a1, a2, a3⟩, ⟨b1, b2, b3, b4, b5⟩, ⟨c1, c2, c3, c4, c5⟩, hR, hO⟩ := h
  have a := hk aa (by omega) (by omega)
  exact ⟨⟨a.1.trans a0, (congrFun a.2 0).trans a1, (congrFun a.2 1).trans a2, (congrFun a.2 2).trans a3⟩, ⟨(congrFun a.2 3).trans b1, (congrFun a.2 4).trans b2, (congrFun a.2 5).trans b3, (congrFun a.2 6).trans b4, (congrFun a.2 8).trans b5⟩, ⟨(hk _ (by omega) (by omega)).1.trans c1, (hk _ (by omega) (by omega)).1.trans c2, (hk _ (by omega) (by omega)).1.trans c3, (hk _ (by omega) (by omega)).1.trans c4, (hk _ (by omega) (by omega)).1.trans c5⟩, RS_k hR (fun b h1 h2 => hk b (by omega) (by omega)), OS_k hO (fun b h1 h2 => hk b (by omega) (by omega))⟩
theorem PS_k {T T' : Nat → Nat × Nat} {R R' : Nat → Nat → Option Nat} {pa : Nat} {σ : Nat → Nat} (h : PS T R pa σ) (hk : ∀ b, pa ≤ b → b < pa + 48 → T' b = T b ∧ R' b = R b) : PS T' R' pa σ := by
  obtain ⟨⟨a0, a1, a2, a3, a4⟩, b, c, d, e⟩ := h
  have a := hk pa (by omega) (by omega)
  refine ⟨⟨a.1.trans a0, (congrFun a.2 2).trans a1, (congrFun a.2 3).trans a2, (hk _ (by omega) (by omega)).1.trans a3, (hk _ (by omega) (by omega)).1.trans a4⟩, fun i hi => ⟨?_, (b i hi).2⟩, c, fun i hi => ?_, fun i hi => NS_k (e i hi) (fun b h1 h2 => hk b (by omega) (by omega))⟩
  · rw [(hk _ (by omega) (by omega)).2]; exact (b i hi).1
  · rw [(hk _ (by omega) (by omega)).2]; exact d i hi
/-- the class's object at o: where all its things lie; fw, fr: the world's and the reader's family -/
def CS (T : Nat → Nat × Nat) (R : Nat → Nat → Option Nat) (o fw fr : Nat) (σ : Nat → Nat) : Prop := (T o = (20, 0) ∧ R o 0 = some (o + 1) ∧ R o 1 = some (o + 53) ∧ R o 2 = some (o + 107) ∧ R o 3 = some (o + 155) ∧ R o 4 = some (o + 171) ∧ R o 5 = some (o + 176)) ∧ BX T R (o + 1) (o + 47) (o + 48) fr ∧ WS T R (o + 53) fw (o + 99) (o + 102) ∧ PS T R (o + 107) σ ∧ US T R (o + 155) (o + 53) ∧ RS T R (o + 171) (o + 53) ∧ QS T R (o + 176) (o + 53) ∧ ((fw = o + 54 ∧ fr = o + 2) ∨ (fw = o + 2 ∧ fr = o + 54))
/-- what a new one holds -/
def CZ (V : Nat → Nat → Int) (o : Nat) : Prop := (V o 6 = 0 ∧ V o 7 = 0) ∧ (V (o + 1) 1 = 0 ∧ V (o + 1) 2 = -1 ∧ V (o + 1) 4 = 0 ∧ V (o + 1) 9 = 0) ∧ (V (o + 47) = fun _ => 0) ∧ (∀ c, c < 9 → V (o + 54) c = 0) ∧ (∀ b, o + 54 < b → b < o + 99 → V b = fun _ => 0) ∧ (∀ c, c < 3 → V (o + 99) c = 0) ∧ (∀ b, o + 99 < b → b < o + 102 → V b = fun _ => 0) ∧ (V (o + 107) 0 = 0 ∧ V (o + 107) 1 = 0) ∧ V (o + 168) 1 = 0 ∧ (∀ b, o + 155 < b → b < o + 171 → b ≠ o + 163 → b ≠ o + 168 → V b = fun _ => 0) ∧ (V (o + 176) 7 = 0 ∧ V (o + 187) 1 = 0) ∧ (∀ b, o + 176 < b → b < o + 190 → b ≠ o + 182 → b ≠ o + 187 → V b = fun _ => 0)
section C61
variable {g : GG} {T : Nat → Nat × Nat} {V : Nat → Nat → Int} {R : Nat → Nat → Option Nat} {J : Nat → Nat → Int64} {r w k n : Nat}
set_option maxRecDepth 8000 in
theorem i_Elder (hT : T r = (20, 0)) : X g mX10_init 0 [.ref r] [] (T, iV V, R, J, r + 1) 189 (0 + 205 + 9 + 54 + 15 + 643 + 10 + 720 + 4 + 656 + 3 + 1490 + 18) (MKQ T V R J r 190 (fun T' V' R' => CS T' R' r (r + 54) (r + 2) (fun i => i) ∧ CZ V' r)) := by
  refine x_aload_n dX10_init_0 rfl ?_
  refine x_objInit dX10_init_1 lX10_3 objI objC (by decide) (Nat.le_of_ble_eq_true rfl) ?_
  refine x_aload_n dX10_init_4 rfl ?_
  refine y_new (ci := 6) dX10_init_5 rfl cX10_9 nX6 iX6 dfX6 ?_
  refine x_dup dX10_init_8 rfl ?_
  refine (show X _ _ 9 _ _ _ _ _ _ from ?_)
  refine x_callI (As := []) (mc := 51) (ms := 1490) (z := mX6_init) dX10_init_9 lX10_11 oX6_init (by decide) rfl (Nat.le_of_ble_eq_true rfl) (Nat.le_of_ble_eq_true rfl) rfl (i_Reader (by rw [u1_s])) (fun v M1 hq => ?_)
  obtain ⟨rfl, T1, V1, R1, J1, rfl, k1, s1, a1, z1⟩ := hq
  have kT1 := fun b h => (k1 b h).1
  have kV1 := fun b h => (k1 b h).2.1
  have kR1 := fun b h => (k1 b h).2.2.1
  have kJ1 := fun b h => (k1 b h).2.2.2
  refine (show X _ _ 12 _ _ _ _ _ _ from ?_)
  refine x_pr dX10_init_12 pX10_init_12 (by first | assumption | (simp (discharger := omega) only [u1_s, u1_n, u2_s, u2_n, kT1, kV1, kR1, kJ1]; first | assumption | rfl)) (fun _ _ _ => rfl) rfl rfl ?_
  refine x_aload_n dX10_init_15 rfl ?_
  refine y_new (ci := 9) dX10_init_16 rfl cX10_16 nX9 iX9 dfX9 ?_
  refine x_dup dX10_init_19 rfl ?_
  refine (show X _ _ 20 _ _ _ _ _ _ from ?_)
  refine x_callI (As := []) (mc := 53) (ms := 656) (z := mX9_init) dX10_init_20 lX10_18 oX9_init (by decide) rfl (Nat.le_of_ble_eq_true rfl) (Nat.le_of_ble_eq_true rfl) rfl (i_World (by rw [u1_s])) (fun v M1 hq => ?_)
  obtain ⟨rfl, T2, V2, R2, J2, rfl, k2, s2, a2, z2⟩ := hq
  have kT2 := fun b h => (k2 b h).1
  have kV2 := fun b h => (k2 b h).2.1
  have kR2 := fun b h => (k2 b h).2.2.1
  have kJ2 := fun b h => (k2 b h).2.2.2
  refine (show X _ _ 23 _ _ _ _ _ _ from ?_)
  refine x_pr dX10_init_23 pX10_init_19 (by first | assumption | (simp (discharger := omega) only [u1_s, u1_n, u2_s, u2_n, kT1, kV1, kR1, kJ1, kT2, kV2, kR2, kJ2]; first | assumption | rfl)) (fun _ _ _ => rfl) rfl rfl ?_
  refine x_aload_n dX10_init_26 rfl ?_
  refine y_new (ci := 5) dX10_init_27 rfl cX10_23 nX5 iX5 dfX5 ?_
  refine x_dup dX10_init_30 rfl ?_
  refine (show X _ _ 31 _ _ _ _ _ _ from ?_)
  refine x_callI (As := []) (mc := 47) (ms := 720) (z := mX5_init) dX10_init_31 lX10_25 oX5_init (by decide) rfl (Nat.le_of_ble_eq_true rfl) (Nat.le_of_ble_eq_true rfl) rfl (i_Past (by rw [u1_s])) (fun v M1 hq => ?_)
  obtain ⟨rfl, T3, V3, R3, J3, rfl, k3, s3, a3, z3⟩ := hq
  have kT3 := fun b h => (k3 b h).1
  have kV3 := fun b h => (k3 b h).2.1
  have kR3 := fun b h => (k3 b h).2.2.1
  have kJ3 := fun b h => (k3 b h).2.2.2
  refine (show X _ _ 34 _ _ _ _ _ _ from ?_)
  refine x_pr dX10_init_34 pX10_init_26 (by first | assumption | (simp (discharger := omega) only [u1_s, u1_n, u2_s, u2_n, kT1, kV1, kR1, kJ1, kT2, kV2, kR2, kJ2, kT3, kV3, kR3, kJ3]; first | assumption | rfl)) (fun _ _ _ => rfl) rfl rfl ?_
  refine x_aload_n dX10_init_37 rfl ?_
  refine y_new (ci := 1) dX10_init_38 rfl cX10_30 nX1 iX1 dfX1 ?_
  refine x_dup dX10_init_41 rfl ?_
  refine x_aload_n dX10_init_42 rfl ?_
  refine (show X _ _ 43 _ _ _ _ _ _ from ?_)
  refine x_gr (b := r + 53) dX10_init_43 fX10_19 (by simp (discharger := omega) only [u1_s, u1_n, u2_s, u2_n, kT1, kV1, kR1, kJ1, kT2, kV2, kR2, kJ2, kT3, kV3, kR3, kJ3]; first | assumption | rfl) (fun _ _ _ => rfl) (by simp (discharger := omega) only [u1_s, u1_n, u2_s, u2_n, kT1, kV1, kR1, kJ1, kT2, kV2, kR2, kJ2, kT3, kV3, kR3, kJ3]) ?_
  refine (show X _ _ 46 _ _ _ _ _ _ from ?_)
  refine x_callI (As := [_]) (mc := 15) (ms := 643) (z := mX1_init) dX10_init_46 lX10_32 oX1_init (by decide) rfl (Nat.le_of_ble_eq_true rfl) (Nat.le_of_ble_eq_true rfl) rfl (i_Annals (w := r + 53) (by rw [u1_s])) (fun v M1 hq => ?_)
  obtain ⟨rfl, T4, V4, R4, J4, rfl, k4, s4, a4, z4⟩ := hq
  have kT4 := fun b h => (k4 b h).1
  have kV4 := fun b h => (k4 b h).2.1
  have kR4 := fun b h => (k4 b h).2.2.1
  have kJ4 := fun b h => (k4 b h).2.2.2
  refine (show X _ _ 49 _ _ _ _ _ _ from ?_)
  refine x_pr dX10_init_49 pX10_init_35 (by first | assumption | (simp (discharger := omega) only [u1_s, u1_n, u2_s, u2_n, kT1, kV1, kR1, kJ1, kT2, kV2, kR2, kJ2, kT3, kV3, kR3, kJ3, kT4, kV4, kR4, kJ4]; first | assumption | rfl)) (fun _ _ _ => rfl) rfl rfl ?_
  refine x_aload_n dX10_init_52 rfl ?_
  refine y_new (ci := 8) dX10_init_53 rfl cX10_39 nX8 iX8 dfX8 ?_
  refine x_dup dX10_init_56 rfl ?_
  refine x_aload_n dX10_init_57 rfl ?_
  refine (show X _ _ 58 _ _ _ _ _ _ from ?_)
  refine x_gr (b := r + 53) dX10_init_58 fX10_19 (by simp (discharger := omega) only [u1_s, u1_n, u2_s, u2_n, kT1, kV1, kR1, kJ1, kT2, kV2, kR2, kJ2, kT3, kV3, kR3, kJ3, kT4, kV4, kR4, kJ4]; first | assumption | rfl) (fun _ _ _ => rfl) (by simp (discharger := omega) only [u1_s, u1_n, u2_s, u2_n, kT1, kV1, kR1, kJ1, kT2, kV2, kR2, kJ2, kT3, kV3, kR3, kJ3, kT4, kV4, kR4, kJ4]) ?_
  refine (show X _ _ 61 _ _ _ _ _ _ from ?_)
  refine x_callI (As := [_]) (mc := 4) (ms := 54) (z := mX8_init) dX10_init_61 lX10_41 oX8_init (by decide) rfl (Nat.le_of_ble_eq_true rfl) (Nat.le_of_ble_eq_true rfl) rfl (i_Run (w := r + 53) (by rw [u1_s])) (fun v M1 hq => ?_)
  obtain ⟨rfl, T5, V5, R5, J5, rfl, k5, s5, a5, z5⟩ := hq
  have kT5 := fun b h => (k5 b h).1
  have kV5 := fun b h => (k5 b h).2.1
  have kR5 := fun b h => (k5 b h).2.2.1
  have kJ5 := fun b h => (k5 b h).2.2.2
  refine (show X _ _ 64 _ _ _ _ _ _ from ?_)
  refine x_pr dX10_init_64 pX10_init_42 (by first | assumption | (simp (discharger := omega) only [u1_s, u1_n, u2_s, u2_n, kT1, kV1, kR1, kJ1, kT2, kV2, kR2, kJ2, kT3, kV3, kR3, kJ3, kT4, kV4, kR4, kJ4, kT5, kV5, kR5, kJ5]; first | assumption | rfl)) (fun _ _ _ => rfl) rfl rfl ?_
  refine x_aload_n dX10_init_67 rfl ?_
  refine y_new (ci := 7) dX10_init_68 rfl cX10_46 nX7 iX7 dfX7 ?_
  refine x_dup dX10_init_71 rfl ?_
  refine x_aload_n dX10_init_72 rfl ?_
  refine (show X _ _ 73 _ _ _ _ _ _ from ?_)
  refine x_gr (b := r + 53) dX10_init_73 fX10_19 (by simp (discharger := omega) only [u1_s, u1_n, u2_s, u2_n, kT1, kV1, kR1, kJ1, kT2, kV2, kR2, kJ2, kT3, kV3, kR3, kJ3, kT4, kV4, kR4, kJ4, kT5, kV5, kR5, kJ5]; first | assumption | rfl) (fun _ _ _ => rfl) (by simp (discharger := omega) only [u1_s, u1_n, u2_s, u2_n, kT1, kV1, kR1, kJ1, kT2, kV2, kR2, kJ2, kT3, kV3, kR3, kJ3, kT4, kV4, kR4, kJ4, kT5, kV5, kR5, kJ5]) ?_
  refine (show X _ _ 76 _ _ _ _ _ _ from ?_)
  refine x_callI (As := [_]) (mc := 13) (ms := 205) (z := mX7_init) dX10_init_76 lX10_48 oX7_init (by decide) rfl (Nat.le_of_ble_eq_true rfl) (Nat.le_of_ble_eq_true rfl) rfl (i_Rows (w := r + 53) (by rw [u1_s])) (fun v M1 hq => ?_)
  obtain ⟨rfl, T6, V6, R6, J6, rfl, k6, s6, a6, z6⟩ := hq
  have kT6 := fun b h => (k6 b h).1
  have kV6 := fun b h => (k6 b h).2.1
  have kR6 := fun b h => (k6 b h).2.2.1
  have kJ6 := fun b h => (k6 b h).2.2.2
  refine (show X _ _ 79 _ _ _ _ _ _ from ?_)
  refine x_pr dX10_init_79 pX10_init_49 (by first | assumption | (simp (discharger := omega) only [u1_s, u1_n, u2_s, u2_n, kT1, kV1, kR1, kJ1, kT2, kV2, kR2, kJ2, kT3, kV3, kR3, kJ3, kT4, kV4, kR4, kJ4, kT5, kV5, kR5, kJ5, kT6, kV6, kR6, kJ6]; first | assumption | rfl)) (fun _ _ _ => rfl) rfl rfl ?_
  refine x_aload_n dX10_init_82 rfl ?_
  refine y_iconst dX10_init_83 ?_
  refine y_pi dX10_init_84 (pX10_53 _) (by first | assumption | (simp (discharger := omega) only [u1_s, u1_n, u2_s, u2_n, kT1, kV1, kR1, kJ1, kT2, kV2, kR2, kJ2, kT3, kV3, kR3, kJ3, kT4, kV4, kR4, kJ4, kT5, kV5, kR5, kJ5, kT6, kV6, kR6, kJ6]; first | assumption | rfl)) (fun _ _ _ => rfl) (by first | rfl | exact bI_nar _) (by first | rfl | exact bI_fit _) ?_
  refine x_aload_n dX10_init_87 rfl ?_
  refine y_iconst dX10_init_88 ?_
  refine y_pi dX10_init_89 (pX10_57 _) (by first | assumption | (simp (discharger := omega) only [u1_s, u1_n, u2_s, u2_n, kT1, kV1, kR1, kJ1, kT2, kV2, kR2, kJ2, kT3, kV3, kR3, kJ3, kT4, kV4, kR4, kJ4, kT5, kV5, kR5, kJ5, kT6, kV6, kR6, kJ6]; first | assumption | rfl)) (fun _ _ _ => rfl) rfl rfl ?_
  refine (show X _ _ 92 _ _ _ _ _ _ from ?_)
  refine x_return dX10_init_92 rfl ⟨rfl, _, _, _, _, rfl, fun b hb => ⟨?_, ?_, ?_, ?_⟩, ⟨⟨?_, ?_, ?_, ?_, ?_, ?_, ?_⟩, BX_k s1 (fun b h1 => ⟨?_, ?_⟩), WS_k s2 (fun b h1 => ⟨?_, ?_⟩), PS_k s3 (fun b h1 h2 => ⟨?_, ?_⟩), US_k s4 (fun b h1 h2 => ⟨?_, ?_⟩), RS_k s5 (fun b h1 h2 => ⟨?_, ?_⟩), QS_k s6 (fun b h1 h2 => ⟨?_, ?_⟩), Or.inl ⟨rfl, rfl⟩⟩, ⟨?_, ?_⟩, ⟨?_, ?_, ?_, ?_⟩, ?_, fun c hc => ?_, fun b h1 h2 => ?_, fun c hc => ?_, fun b h1 h2 => ?_, ⟨?_, ?_⟩, ?_, fun b h1 h2 h3 h4 => ?_, ⟨?_, ?_⟩, fun b h1 h2 h3 h4 => ?_⟩
  · simp (discharger := omega) only [u1_s, u1_n, u2_s, u2_n, kT1, kV1, kR1, kJ1, kT2, kV2, kR2, kJ2, kT3, kV3, kR3, kJ3, kT4, kV4, kR4, kJ4, kT5, kV5, kR5, kJ5, kT6, kV6, kR6, kJ6]
  · simp (discharger := omega) only [u1_s, u1_n, u2_s, u2_n, kT1, kV1, kR1, kJ1, kT2, kV2, kR2, kJ2, kT3, kV3, kR3, kJ3, kT4, kV4, kR4, kJ4, kT5, kV5, kR5, kJ5, kT6, kV6, kR6, kJ6]
  · simp (discharger := omega) only [u1_s, u1_n, u2_s, u2_n, kT1, kV1, kR1, kJ1, kT2, kV2, kR2, kJ2, kT3, kV3, kR3, kJ3, kT4, kV4, kR4, kJ4, kT5, kV5, kR5, kJ5, kT6, kV6, kR6, kJ6]
  · simp (discharger := omega) only [u1_s, u1_n, u2_s, u2_n, kT1, kV1, kR1, kJ1, kT2, kV2, kR2, kJ2, kT3, kV3, kR3, kJ3, kT4, kV4, kR4, kJ4, kT5, kV5, kR5, kJ5, kT6, kV6, kR6, kJ6]
  · simp (discharger := omega) only [u1_s, u1_n, u2_s, u2_n, kT1, kV1, kR1, kJ1, kT2, kV2, kR2, kJ2, kT3, kV3, kR3, kJ3, kT4, kV4, kR4, kJ4, kT5, kV5, kR5, kJ5, kT6, kV6, kR6, kJ6]; exact hT
  · simp (discharger := omega) only [u1_s, u1_n, u2_s, u2_n, kT1, kV1, kR1, kJ1, kT2, kV2, kR2, kJ2, kT3, kV3, kR3, kJ3, kT4, kV4, kR4, kJ4, kT5, kV5, kR5, kJ5, kT6, kV6, kR6, kJ6]
  · simp (discharger := omega) only [u1_s, u1_n, u2_s, u2_n, kT1, kV1, kR1, kJ1, kT2, kV2, kR2, kJ2, kT3, kV3, kR3, kJ3, kT4, kV4, kR4, kJ4, kT5, kV5, kR5, kJ5, kT6, kV6, kR6, kJ6]
  · simp (discharger := omega) only [u1_s, u1_n, u2_s, u2_n, kT1, kV1, kR1, kJ1, kT2, kV2, kR2, kJ2, kT3, kV3, kR3, kJ3, kT4, kV4, kR4, kJ4, kT5, kV5, kR5, kJ5, kT6, kV6, kR6, kJ6]
  · simp (discharger := omega) only [u1_s, u1_n, u2_s, u2_n, kT1, kV1, kR1, kJ1, kT2, kV2, kR2, kJ2, kT3, kV3, kR3, kJ3, kT4, kV4, kR4, kJ4, kT5, kV5, kR5, kJ5, kT6, kV6, kR6, kJ6]
  · simp (discharger := omega) only [u1_s, u1_n, u2_s, u2_n, kT1, kV1, kR1, kJ1, kT2, kV2, kR2, kJ2, kT3, kV3, kR3, kJ3, kT4, kV4, kR4, kJ4, kT5, kV5, kR5, kJ5, kT6, kV6, kR6, kJ6]
  · simp (discharger := omega) only [u1_s, u1_n, u2_s, u2_n, kT1, kV1, kR1, kJ1, kT2, kV2, kR2, kJ2, kT3, kV3, kR3, kJ3, kT4, kV4, kR4, kJ4, kT5, kV5, kR5, kJ5, kT6, kV6, kR6, kJ6]
  · simp (discharger := omega) only [u1_s, u1_n, u2_s, u2_n, kT1, kV1, kR1, kJ1, kT2, kV2, kR2, kJ2, kT3, kV3, kR3, kJ3, kT4, kV4, kR4, kJ4, kT5, kV5, kR5, kJ5, kT6, kV6, kR6, kJ6]
  · simp (discharger := omega) only [u1_s, u1_n, u2_s, u2_n, kT1, kV1, kR1, kJ1, kT2, kV2, kR2, kJ2, kT3, kV3, kR3, kJ3, kT4, kV4, kR4, kJ4, kT5, kV5, kR5, kJ5, kT6, kV6, kR6, kJ6]
  · simp (discharger := omega) only [u1_s, u1_n, u2_s, u2_n, kT1, kV1, kR1, kJ1, kT2, kV2, kR2, kJ2, kT3, kV3, kR3, kJ3, kT4, kV4, kR4, kJ4, kT5, kV5, kR5, kJ5, kT6, kV6, kR6, kJ6]
  · simp (discharger := omega) only [u1_s, u1_n, u2_s, u2_n, kT1, kV1, kR1, kJ1, kT2, kV2, kR2, kJ2, kT3, kV3, kR3, kJ3, kT4, kV4, kR4, kJ4, kT5, kV5, kR5, kJ5, kT6, kV6, kR6, kJ6]
  · simp (discharger := omega) only [u1_s, u1_n, u2_s, u2_n, kT1, kV1, kR1, kJ1, kT2, kV2, kR2, kJ2, kT3, kV3, kR3, kJ3, kT4, kV4, kR4, kJ4, kT5, kV5, kR5, kJ5, kT6, kV6, kR6, kJ6]
  · simp (discharger := omega) only [u1_s, u1_n, u2_s, u2_n, kT1, kV1, kR1, kJ1, kT2, kV2, kR2, kJ2, kT3, kV3, kR3, kJ3, kT4, kV4, kR4, kJ4, kT5, kV5, kR5, kJ5, kT6, kV6, kR6, kJ6]
  · simp (discharger := omega) only [u1_s, u1_n, u2_s, u2_n, kT1, kV1, kR1, kJ1, kT2, kV2, kR2, kJ2, kT3, kV3, kR3, kJ3, kT4, kV4, kR4, kJ4, kT5, kV5, kR5, kJ5, kT6, kV6, kR6, kJ6]
  · simp (discharger := omega) only [u1_s, u1_n, u2_s, u2_n, kT1, kV1, kR1, kJ1, kT2, kV2, kR2, kJ2, kT3, kV3, kR3, kJ3, kT4, kV4, kR4, kJ4, kT5, kV5, kR5, kJ5, kT6, kV6, kR6, kJ6]
  · simp (discharger := omega) only [u1_s, u1_n, u2_s, u2_n, kT1, kV1, kR1, kJ1, kT2, kV2, kR2, kJ2, kT3, kV3, kR3, kJ3, kT4, kV4, kR4, kJ4, kT5, kV5, kR5, kJ5, kT6, kV6, kR6, kJ6]
  · simp (discharger := omega) only [u1_s, u1_n, u2_s, u2_n, kT1, kV1, kR1, kJ1, kT2, kV2, kR2, kJ2, kT3, kV3, kR3, kJ3, kT4, kV4, kR4, kJ4, kT5, kV5, kR5, kJ5, kT6, kV6, kR6, kJ6]
  · rfl
  · simp (discharger := omega) only [u1_s, u1_n, u2_s, u2_n, kT1, kV1, kR1, kJ1, kT2, kV2, kR2, kJ2, kT3, kV3, kR3, kJ3, kT4, kV4, kR4, kJ4, kT5, kV5, kR5, kJ5, kT6, kV6, kR6, kJ6]
  · simp (discharger := omega) only [u1_s, u1_n, u2_s, u2_n, kT1, kV1, kR1, kJ1, kT2, kV2, kR2, kJ2, kT3, kV3, kR3, kJ3, kT4, kV4, kR4, kJ4, kT5, kV5, kR5, kJ5, kT6, kV6, kR6, kJ6]
  · simp (discharger := omega) only [u1_s, u1_n, u2_s, u2_n, kT1, kV1, kR1, kJ1, kT2, kV2, kR2, kJ2, kT3, kV3, kR3, kJ3, kT4, kV4, kR4, kJ4, kT5, kV5, kR5, kJ5, kT6, kV6, kR6, kJ6]
  · rw [← a1.1]; simp (discharger := omega) only [u1_s, u1_n, u2_s, u2_n, kT1, kV1, kR1, kJ1, kT2, kV2, kR2, kJ2, kT3, kV3, kR3, kJ3, kT4, kV4, kR4, kJ4, kT5, kV5, kR5, kJ5, kT6, kV6, kR6, kJ6]
  · rw [← a1.2.1]; simp (discharger := omega) only [u1_s, u1_n, u2_s, u2_n, kT1, kV1, kR1, kJ1, kT2, kV2, kR2, kJ2, kT3, kV3, kR3, kJ3, kT4, kV4, kR4, kJ4, kT5, kV5, kR5, kJ5, kT6, kV6, kR6, kJ6]
  · rw [← a1.2.2.1]; simp (discharger := omega) only [u1_s, u1_n, u2_s, u2_n, kT1, kV1, kR1, kJ1, kT2, kV2, kR2, kJ2, kT3, kV3, kR3, kJ3, kT4, kV4, kR4, kJ4, kT5, kV5, kR5, kJ5, kT6, kV6, kR6, kJ6]
  · rw [← a1.2.2.2]; simp (discharger := omega) only [u1_s, u1_n, u2_s, u2_n, kT1, kV1, kR1, kJ1, kT2, kV2, kR2, kJ2, kT3, kV3, kR3, kJ3, kT4, kV4, kR4, kJ4, kT5, kV5, kR5, kJ5, kT6, kV6, kR6, kJ6]
  · rw [← z1]; simp (discharger := omega) only [u1_s, u1_n, u2_s, u2_n, kT1, kV1, kR1, kJ1, kT2, kV2, kR2, kJ2, kT3, kV3, kR3, kJ3, kT4, kV4, kR4, kJ4, kT5, kV5, kR5, kJ5, kT6, kV6, kR6, kJ6]
  · rw [← a2 c hc]; simp (discharger := omega) only [u1_s, u1_n, u2_s, u2_n, kT1, kV1, kR1, kJ1, kT2, kV2, kR2, kJ2, kT3, kV3, kR3, kJ3, kT4, kV4, kR4, kJ4, kT5, kV5, kR5, kJ5, kT6, kV6, kR6, kJ6]
  · rw [← z2.1 b (by omega) (by omega)]; simp (discharger := omega) only [u1_s, u1_n, u2_s, u2_n, kT1, kV1, kR1, kJ1, kT2, kV2, kR2, kJ2, kT3, kV3, kR3, kJ3, kT4, kV4, kR4, kJ4, kT5, kV5, kR5, kJ5, kT6, kV6, kR6, kJ6]
  · rw [← z2.2.1 c hc]; simp (discharger := omega) only [u1_s, u1_n, u2_s, u2_n, kT1, kV1, kR1, kJ1, kT2, kV2, kR2, kJ2, kT3, kV3, kR3, kJ3, kT4, kV4, kR4, kJ4, kT5, kV5, kR5, kJ5, kT6, kV6, kR6, kJ6]
  · rw [← z2.2.2 b (by omega) (by omega)]; simp (discharger := omega) only [u1_s, u1_n, u2_s, u2_n, kT1, kV1, kR1, kJ1, kT2, kV2, kR2, kJ2, kT3, kV3, kR3, kJ3, kT4, kV4, kR4, kJ4, kT5, kV5, kR5, kJ5, kT6, kV6, kR6, kJ6]
  · rw [← a3.1]; simp (discharger := omega) only [u1_s, u1_n, u2_s, u2_n, kT1, kV1, kR1, kJ1, kT2, kV2, kR2, kJ2, kT3, kV3, kR3, kJ3, kT4, kV4, kR4, kJ4, kT5, kV5, kR5, kJ5, kT6, kV6, kR6, kJ6]
  · rw [← a3.2]; simp (discharger := omega) only [u1_s, u1_n, u2_s, u2_n, kT1, kV1, kR1, kJ1, kT2, kV2, kR2, kJ2, kT3, kV3, kR3, kJ3, kT4, kV4, kR4, kJ4, kT5, kV5, kR5, kJ5, kT6, kV6, kR6, kJ6]
  · rw [← a4]; simp (discharger := omega) only [u1_s, u1_n, u2_s, u2_n, kT1, kV1, kR1, kJ1, kT2, kV2, kR2, kJ2, kT3, kV3, kR3, kJ3, kT4, kV4, kR4, kJ4, kT5, kV5, kR5, kJ5, kT6, kV6, kR6, kJ6]
  · rw [← z4 b (by omega) (by omega) (by omega) (by omega)]; simp (discharger := omega) only [u1_s, u1_n, u2_s, u2_n, kT1, kV1, kR1, kJ1, kT2, kV2, kR2, kJ2, kT3, kV3, kR3, kJ3, kT4, kV4, kR4, kJ4, kT5, kV5, kR5, kJ5, kT6, kV6, kR6, kJ6]
  · rw [← a6.1]; simp (discharger := omega) only [u1_s, u1_n, u2_s, u2_n, kT1, kV1, kR1, kJ1, kT2, kV2, kR2, kJ2, kT3, kV3, kR3, kJ3, kT4, kV4, kR4, kJ4, kT5, kV5, kR5, kJ5, kT6, kV6, kR6, kJ6]
  · rw [← a6.2]; simp (discharger := omega) only [u1_s, u1_n, u2_s, u2_n, kT1, kV1, kR1, kJ1, kT2, kV2, kR2, kJ2, kT3, kV3, kR3, kJ3, kT4, kV4, kR4, kJ4, kT5, kV5, kR5, kJ5, kT6, kV6, kR6, kJ6]
  · rw [← z6 b (by omega) (by omega) (by omega) (by omega)]; simp (discharger := omega) only [u1_s, u1_n, u2_s, u2_n, kT1, kV1, kR1, kJ1, kT2, kV2, kR2, kJ2, kT3, kV3, kR3, kJ3, kT4, kV4, kR4, kJ4, kT5, kV5, kR5, kJ5, kT6, kV6, kR6, kJ6]
end C61
