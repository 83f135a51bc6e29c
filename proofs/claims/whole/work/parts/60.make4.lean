/-! ===== constructors: Reader, Past ===== -/
section C60
variable {g : GG} {T : Nat → Nat × Nat} {V : Nat → Nat → Int} {R : Nat → Nat → Option Nat} {J : Nat → Nat → Int64} {r w k n : Nat}
set_option maxRecDepth 8000 in
theorem i_Reader (hT : T r = (16, 0)) : X g mX6_init 0 [.ref r] [] (T, iV V, R, J, r + 1) 51 (0 + 3 + 18 + 18 + 18 + 18 + 1100 + 300 + 15) (MKQ T V R J r 52 (fun T' V' R' => BX T' R' r (r + 46) (r + 47) (r + 1) ∧ (V' r 1 = 0 ∧ V' r 2 = -1 ∧ V' r 4 = 0 ∧ V' r 9 = 0) ∧ V' (r + 46) = fun _ => 0)) := by
  refine x_aload_n dX6_init_0 rfl ?_
  refine x_objInit dX6_init_1 lX6_3 objI objC (by decide) (Nat.le_of_ble_eq_true rfl) ?_
  refine x_aload_n dX6_init_4 rfl ?_
  refine y_new (ci := 2) dX6_init_5 rfl cX6_9 nX2 iX2 dfX2 ?_
  refine x_dup dX6_init_8 rfl ?_
  refine (show X _ _ 9 _ _ _ _ _ _ from ?_)
  refine x_callI (As := []) (mc := 44) (ms := 300) (z := mX2_init) dX6_init_9 lX6_11 oX2_init (by decide) rfl (Nat.le_of_ble_eq_true rfl) (Nat.le_of_ble_eq_true rfl) rfl (i_Fam (by rw [u1_s])) (fun v M1 hq => ?_)
  obtain ⟨rfl, T1, V1, R1, J1, rfl, k1, s1, a1, z1⟩ := hq
  have kT1 := fun b h => (k1 b h).1
  have kV1 := fun b h => (k1 b h).2.1
  have kR1 := fun b h => (k1 b h).2.2.1
  have kJ1 := fun b h => (k1 b h).2.2.2
  refine (show X _ _ 12 _ _ _ _ _ _ from ?_)
  refine x_pr dX6_init_12 (pX6_12 _) (by first | assumption | (simp (discharger := omega) only [u1_s, u1_n, u2_s, u2_n, kT1, kV1, kR1, kJ1]; first | assumption | rfl)) (fun _ _ _ => rfl) rfl rfl ?_
  refine x_aload_n dX6_init_15 rfl ?_
  refine y_iconst dX6_init_16 ?_
  refine y_pi dX6_init_17 (pX6_18 _) (by first | assumption | (simp (discharger := omega) only [u1_s, u1_n, u2_s, u2_n, kT1, kV1, kR1, kJ1]; first | assumption | rfl)) (fun _ _ _ => rfl) rfl rfl ?_
  refine x_aload_n dX6_init_20 rfl ?_
  refine y_iconst dX6_init_21 ?_
  refine y_pi dX6_init_22 (pX6_22 _) (by first | assumption | (simp (discharger := omega) only [u1_s, u1_n, u2_s, u2_n, kT1, kV1, kR1, kJ1]; first | assumption | rfl)) (fun _ _ _ => rfl) rfl rfl ?_
  refine x_aload_n dX6_init_25 rfl ?_
  refine (show X _ _ 26 _ _ _ _ _ _ from ?_)
  refine y_sipush dX6_init_26 rfl ?_
  refine y_newa (t := 2) (N := (1100)) dX6_init_29 rfl (by decide) (by decide) acB rfl (by decide) ?_
  refine (show X _ _ 31 _ _ _ _ _ _ from ?_)
  refine x_pr dX6_init_31 pX6_init_25 (by first | assumption | (simp (discharger := omega) only [u1_s, u1_n, u2_s, u2_n, kT1, kV1, kR1, kJ1]; first | assumption | rfl)) (fun _ _ _ => rfl) rfl rfl ?_
  refine x_aload_n dX6_init_34 rfl ?_
  refine y_iconst dX6_init_35 ?_
  refine y_pi dX6_init_36 (pX6_29 _) (by first | assumption | (simp (discharger := omega) only [u1_s, u1_n, u2_s, u2_n, kT1, kV1, kR1, kJ1]; first | assumption | rfl)) (fun _ _ _ => rfl) rfl rfl ?_
  refine x_aload_n dX6_init_39 rfl ?_
  refine y_iconst dX6_init_40 ?_
  refine y_pi dX6_init_41 (pX6_32 _) (by first | assumption | (simp (discharger := omega) only [u1_s, u1_n, u2_s, u2_n, kT1, kV1, kR1, kJ1]; first | assumption | rfl)) (fun _ _ _ => rfl) rfl rfl ?_
  refine x_aload_n dX6_init_44 rfl ?_
  refine (show X _ _ 45 _ _ _ _ _ _ from ?_)
  refine y_iconst dX6_init_45 ?_
  refine y_pi dX6_init_46 (pX6_35 _) (by first | assumption | (simp (discharger := omega) only [u1_s, u1_n, u2_s, u2_n, kT1, kV1, kR1, kJ1]; first | assumption | rfl)) (fun _ _ _ => rfl) rfl rfl ?_
  refine x_aload_n dX6_init_49 rfl ?_
  refine y_iconst dX6_init_50 ?_
  refine y_pi dX6_init_51 (pX6_38 _) (by first | assumption | (simp (discharger := omega) only [u1_s, u1_n, u2_s, u2_n, kT1, kV1, kR1, kJ1]; first | assumption | rfl)) (fun _ _ _ => rfl) rfl rfl ?_
  refine x_aload_n dX6_init_54 rfl ?_
  refine y_iconst dX6_init_55 ?_
  refine y_pi dX6_init_56 (pX6_41 _) (by first | assumption | (simp (discharger := omega) only [u1_s, u1_n, u2_s, u2_n, kT1, kV1, kR1, kJ1]; first | assumption | rfl)) (fun _ _ _ => rfl) rfl rfl ?_
  refine (show X _ _ 59 _ _ _ _ _ _ from ?_)
  refine x_aload_n dX6_init_59 rfl ?_
  refine y_iconst dX6_init_60 ?_
  refine y_pi dX6_init_61 (pX6_44 _) (by first | assumption | (simp (discharger := omega) only [u1_s, u1_n, u2_s, u2_n, kT1, kV1, kR1, kJ1]; first | assumption | rfl)) (fun _ _ _ => rfl) rfl rfl ?_
  refine x_aload_n dX6_init_64 rfl ?_
  refine y_iconst dX6_init_65 ?_
  refine y_pi dX6_init_66 (pX6_47 _) (by first | assumption | (simp (discharger := omega) only [u1_s, u1_n, u2_s, u2_n, kT1, kV1, kR1, kJ1]; first | assumption | rfl)) (fun _ _ _ => rfl) rfl rfl ?_
  refine x_aload_n dX6_init_69 rfl ?_
  refine y_iconst dX6_init_70 ?_
  refine (show X _ _ 71 _ _ _ _ _ _ from ?_)
  refine y_pi dX6_init_71 (pX6_50 _) (by first | assumption | (simp (discharger := omega) only [u1_s, u1_n, u2_s, u2_n, kT1, kV1, kR1, kJ1]; first | assumption | rfl)) (fun _ _ _ => rfl) rfl rfl ?_
  refine x_aload_n dX6_init_74 rfl ?_
  refine y_iconst dX6_init_75 ?_
  refine y_pi dX6_init_76 (pX6_53 _) (by first | assumption | (simp (discharger := omega) only [u1_s, u1_n, u2_s, u2_n, kT1, kV1, kR1, kJ1]; first | assumption | rfl)) (fun _ _ _ => rfl) rfl rfl ?_
  refine x_aload_n dX6_init_79 rfl ?_
  refine y_bipush dX6_init_80 rfl ?_
  refine y_newa (t := 1) (N := (18)) dX6_init_82 rfl (by decide) (by decide) acI rfl (by decide) ?_
  refine (show X _ _ 84 _ _ _ _ _ _ from ?_)
  refine x_pr dX6_init_84 pX6_init_56 (by first | assumption | (simp (discharger := omega) only [u1_s, u1_n, u2_s, u2_n, kT1, kV1, kR1, kJ1]; first | assumption | rfl)) (fun _ _ _ => rfl) rfl rfl ?_
  refine x_aload_n dX6_init_87 rfl ?_
  refine y_bipush dX6_init_88 rfl ?_
  refine y_newa (t := 1) (N := (18)) dX6_init_90 rfl (by decide) (by decide) acI rfl (by decide) ?_
  refine (show X _ _ 92 _ _ _ _ _ _ from ?_)
  refine x_pr dX6_init_92 pX6_init_60 (by first | assumption | (simp (discharger := omega) only [u1_s, u1_n, u2_s, u2_n, kT1, kV1, kR1, kJ1]; first | assumption | rfl)) (fun _ _ _ => rfl) rfl rfl ?_
  refine x_aload_n dX6_init_95 rfl ?_
  refine y_bipush dX6_init_96 rfl ?_
  refine y_newa (t := 1) (N := (18)) dX6_init_98 rfl (by decide) (by decide) acI rfl (by decide) ?_
  refine (show X _ _ 100 _ _ _ _ _ _ from ?_)
  refine x_pr dX6_init_100 pX6_init_63 (by first | assumption | (simp (discharger := omega) only [u1_s, u1_n, u2_s, u2_n, kT1, kV1, kR1, kJ1]; first | assumption | rfl)) (fun _ _ _ => rfl) rfl rfl ?_
  refine x_aload_n dX6_init_103 rfl ?_
  refine y_bipush dX6_init_104 rfl ?_
  refine y_newa (t := 3) (N := (18)) dX6_init_106 rfl (by decide) (by decide) acZ rfl (by decide) ?_
  refine (show X _ _ 108 _ _ _ _ _ _ from ?_)
  refine x_pr dX6_init_108 pX6_init_66 (by first | assumption | (simp (discharger := omega) only [u1_s, u1_n, u2_s, u2_n, kT1, kV1, kR1, kJ1]; first | assumption | rfl)) (fun _ _ _ => rfl) rfl rfl ?_
  refine x_aload_n dX6_init_111 rfl ?_
  refine y_iconst dX6_init_112 ?_
  refine y_newa (t := 1) (N := (3)) dX6_init_113 rfl (by decide) (by decide) acI rfl (by decide) ?_
  refine x_pr dX6_init_115 pX6_init_70 (by first | assumption | (simp (discharger := omega) only [u1_s, u1_n, u2_s, u2_n, kT1, kV1, kR1, kJ1]; first | assumption | rfl)) (fun _ _ _ => rfl) rfl rfl ?_
  refine (show X _ _ 118 _ _ _ _ _ _ from ?_)
  refine x_return dX6_init_118 rfl ⟨rfl, _, _, _, _, rfl, fun b hb => ⟨?_, ?_, ?_, ?_⟩, ⟨⟨?_, ?_, ?_⟩, ⟨⟨?_, ?_, ?_, ?_, ?_⟩, ⟨?_, ?_, ?_, ?_, ?_⟩⟩, FS_k s1 (fun b h1 h2 => ⟨?_, ?_⟩), ?_, ⟨rfl, rfl, Or.inl rfl⟩⟩, ⟨?_, ?_, ?_, ?_⟩, ?_⟩
  · simp (discharger := omega) only [u1_s, u1_n, u2_s, u2_n, kT1, kV1, kR1, kJ1]
  · simp (discharger := omega) only [u1_s, u1_n, u2_s, u2_n, kT1, kV1, kR1, kJ1]
  · simp (discharger := omega) only [u1_s, u1_n, u2_s, u2_n, kT1, kV1, kR1, kJ1]
  · simp (discharger := omega) only [u1_s, u1_n, u2_s, u2_n, kT1, kV1, kR1, kJ1]
  · simp (discharger := omega) only [u1_s, u1_n, u2_s, u2_n, kT1, kV1, kR1, kJ1]; exact hT
  · simp (discharger := omega) only [u1_s, u1_n, u2_s, u2_n, kT1, kV1, kR1, kJ1]
  · simp (discharger := omega) only [u1_s, u1_n, u2_s, u2_n, kT1, kV1, kR1, kJ1]
  · simp (discharger := omega) only [u1_s, u1_n, u2_s, u2_n, kT1, kV1, kR1, kJ1]
  · simp (discharger := omega) only [u1_s, u1_n, u2_s, u2_n, kT1, kV1, kR1, kJ1]
  · simp (discharger := omega) only [u1_s, u1_n, u2_s, u2_n, kT1, kV1, kR1, kJ1]
  · simp (discharger := omega) only [u1_s, u1_n, u2_s, u2_n, kT1, kV1, kR1, kJ1]
  · simp (discharger := omega) only [u1_s, u1_n, u2_s, u2_n, kT1, kV1, kR1, kJ1]
  · simp (discharger := omega) only [u1_s, u1_n, u2_s, u2_n, kT1, kV1, kR1, kJ1]
  · simp (discharger := omega) only [u1_s, u1_n, u2_s, u2_n, kT1, kV1, kR1, kJ1]
  · simp (discharger := omega) only [u1_s, u1_n, u2_s, u2_n, kT1, kV1, kR1, kJ1]
  · simp (discharger := omega) only [u1_s, u1_n, u2_s, u2_n, kT1, kV1, kR1, kJ1]
  · simp (discharger := omega) only [u1_s, u1_n, u2_s, u2_n, kT1, kV1, kR1, kJ1]
  · simp (discharger := omega) only [u1_s, u1_n, u2_s, u2_n, kT1, kV1, kR1, kJ1]
  · simp (discharger := omega) only [u1_s, u1_n, u2_s, u2_n, kT1, kV1, kR1, kJ1]
  · simp (discharger := omega) only [u1_s, u1_n, u2_s, u2_n, kT1, kV1, kR1, kJ1]
  · simp (discharger := omega) only [u1_s, u1_n, u2_s, u2_n, kT1, kV1, kR1, kJ1]
  · simp (discharger := omega) only [u1_s, u1_n, u2_s, u2_n, kT1, kV1, kR1, kJ1]
  · simp (discharger := omega) only [u1_s, u1_n, u2_s, u2_n, kT1, kV1, kR1, kJ1]
  · simp (discharger := omega) only [u1_s, u1_n, u2_s, u2_n, kT1, kV1, kR1, kJ1]
  · simp (discharger := omega) only [u1_s, u1_n, u2_s, u2_n, kT1, kV1, kR1, kJ1]
/-- so many Nows are made -/
def PI (T0 : Nat → Nat × Nat) (V0 : Nat → Nat → Int) (R0 : Nat → Nat → Option Nat) (J0 : Nat → Nat → Int64) (T : Nat → Nat × Nat) (V : Nat → Nat → Int) (R : Nat → Nat → Option Nat) (J : Nat → Nat → Int64) (r i : Nat) : Prop := KP T0 V0 R0 J0 T V R J r ∧ (T r = (15, 0) ∧ R r 2 = some (r + 1) ∧ R r 3 = some (r + 2) ∧ T (r + 1) = (6, 12) ∧ T (r + 2) = (6, 3)) ∧ (V r 0 = 0 ∧ V r 1 = 0) ∧ (∀ j, j < i → j < 12 → R (r + 1) j = some (r + 3 + 3 * j)) ∧ (∀ j, 12 + j < i → R (r + 2) j = some (r + 39 + 3 * j)) ∧ (∀ j, j < i → NS T R (r + 3 + 3 * j))
theorem PI_step {T0 T T' : Nat → Nat × Nat} {V0 V V' : Nat → Nat → Int} {R0 R R' : Nat → Nat → Option Nat} {J0 J J' : Nat → Nat → Int64} {r i a j : Nat} (h : PI T0 V0 R0 J0 T V R J r i) (hk : KP (u1 T (r + 3 + 3 * i) (14, 0)) (u1 V (r + 3 + 3 * i) (fun _ => 0)) (u1 R (r + 3 + 3 * i) (fun _ => none)) (u1 J (r + 3 + 3 * i) (fun _ => 0)) T' V' R' J' (r + 3 + 3 * i)) (hs : NS T' R' (r + 3 + 3 * i)) (ha : (i < 12 ∧ a = r + 1 ∧ j = i) ∨ (a = r + 2 ∧ i = 12 + j)) : PI T0 V0 R0 J0 T' V' (u2 R' a j (some (r + 3 + 3 * i))) J' r (i + 1) := by
  obtain ⟨q0, ⟨q1, q2, q3, q4, q5⟩, ⟨q6, q7⟩, q8, q9, q10⟩ := h
  have kT : ∀ b, b < r + 3 + 3 * i → T' b = T b := fun b hb => by rw [(hk b hb).1, u1_n (by omega)]
  have kV : ∀ b, b < r + 3 + 3 * i → V' b = V b := fun b hb => by rw [(hk b hb).2.1, u1_n (by omega)]
  have kR : ∀ b, b < r + 3 + 3 * i → R' b = R b := fun b hb => by rw [(hk b hb).2.2.1, u1_n (by omega)]
  have kJ : ∀ b, b < r + 3 + 3 * i → J' b = J b := fun b hb => by rw [(hk b hb).2.2.2, u1_n (by omega)]
  refine ⟨fun b hb => ⟨?_, ?_, ?_, ?_⟩, ⟨?_, ?_, ?_, ?_, ?_⟩, ⟨?_, ?_⟩, fun c h1 h2 => ?_, fun c h1 => ?_, fun c h1 => ?_⟩
  · rw [kT b (by omega)]; exact (q0 b hb).1
  · rw [kV b (by omega)]; exact (q0 b hb).2.1
  · rw [u2_n (by omega), kR b (by omega)]; exact (q0 b hb).2.2.1
  · rw [kJ b (by omega)]; exact (q0 b hb).2.2.2
  · rw [kT r (by omega)]; exact q1
  · rw [u2_n (by omega), kR r (by omega)]; exact q2
  · rw [u2_n (by omega), kR r (by omega)]; exact q3
  · rw [kT _ (by omega)]; exact q4
  · rw [kT _ (by omega)]; exact q5
  · rw [kV r (by omega)]; exact q6
  · rw [kV r (by omega)]; exact q7
  · rw [u2_ap]
    split
    · congr 1; omega
    · rw [kR _ (by omega)]; exact q8 c (by omega) h2
  · rw [u2_ap]
    split
    · congr 1; omega
    · rw [kR _ (by omega)]; exact q9 c (by omega)
  · by_cases e : c = i
    · subst e
      exact NS_k hs (fun b h1 h2 => ⟨rfl, by rw [u2_n (by omega)]⟩)
    · exact NS_k (q10 c (by omega)) (fun b h1 h2 => ⟨kT b (by omega), by rw [u2_n (by omega)]; exact kR b (by omega)⟩)
theorem i_Past (hT : T r = (15, 0)) : X g mX5_init 0 [.ref r, jk] [] (T, iV V, R, J, r + 1) 47 720 (MKQ T V R J r 48 (fun T' V' R' => PS T' R' r (fun i => i) ∧ (V' r 0 = 0 ∧ V' r 1 = 0) ∧ True)) := by
  have l2 : ∀ (d j : Nat) (T1 : Nat → Nat × Nat) (V1 : Nat → Nat → Int) (R1 : Nat → Nat → Option Nat) (J1 : Nat → Nat → Int64), j + d = 3 → PI T V R J T1 V1 R1 J1 r (12 + j) → X g mX5_init 60 [.ref r, .int (iI (j : Int))] [] (T1, iV V1, R1, J1, r + 3 + 3 * (12 + j)) (3 * d) (47 * d) (MKQ T V R J r 48 (fun T' V' R' => PS T' R' r (fun i => i) ∧ (V' r 0 = 0 ∧ V' r 1 = 0) ∧ True)) := by
    intro d
    induction d with
    | zero =>
      intro j T1 V1 R1 J1 hj hp
      refine x_iload_n dX5_init_60 rfl ?_
      refine y_iconst dX5_init_61 ?_
      refine (show X _ _ 62 _ _ _ _ _ _ from ?_)
      refine y_icmp_ge 84 dX5_init_62 (by decide) ⟨by omega, by omega⟩ ⟨by omega, by omega⟩ (fun h => ?_) (fun h => ?_)
      · obtain ⟨q0, q1, q6, q8, q9, q10⟩ := hp
        refine x_return dX5_init_84 rfl ⟨rfl, T1, V1, R1, J1, by rw [show r + 3 + 3 * (12 + j) = r + 48 by omega], q0, ⟨q1, fun i hi => ⟨q8 i (by omega) hi, hi⟩, fun i j _ _ h => h, fun i hi => q9 i (by omega), fun i hi => q10 i (by omega)⟩, q6, trivial⟩
      · omega
    | succ d ih =>
      intro j T1 V1 R1 J1 hj hp
      have hp0 := hp
      obtain ⟨q0, ⟨q1, q2, q3, q4, q5⟩, q6, q8, q9, q10⟩ := hp
      rw [show 3 * (d + 1) = 3 * d + 2 + 1 by omega, show 47 * (d + 1) = 47 * d + 42 + 5 by omega]
      have ec : (j : Int) + 1 = ((j + 1 : Nat) : Int) := by omega
      refine x_iload_n dX5_init_60 rfl ?_
      refine y_iconst dX5_init_61 ?_
      refine (show X _ _ 62 _ _ _ _ _ _ from ?_)
      refine y_icmp_ge 84 dX5_init_62 (by decide) ⟨by omega, by omega⟩ ⟨by omega, by omega⟩ (fun h => ?_) (fun h => ?_)
      · omega
      refine x_aload_n dX5_init_65 rfl ?_
      refine x_gr dX5_init_66 fX5_24 (by first | assumption | (simp (discharger := omega) only [u1_s, u1_n, u2_s, u2_n]; first | assumption | rfl)) (fun _ _ _ => rfl) (by first | assumption | (simp (discharger := omega) only [u1_s, u1_n, u2_s, u2_n]; first | assumption | rfl)) ?_
      refine x_iload_n dX5_init_69 rfl ?_
      refine y_new (ci := 4) dX5_init_70 rfl cX5_18 nX4 iX4 dfX4 ?_
      refine x_dup dX5_init_73 rfl ?_
      refine (show X _ _ 74 _ _ _ _ _ _ from ?_)
      refine x_callI (As := []) (mc := 2) (ms := 42) (z := mX4_init) dX5_init_74 lX5_27 oX4_init (by decide) rfl (Nat.le_of_ble_eq_true rfl) (Nat.le_of_ble_eq_true rfl) rfl (i_Now (by rw [u1_s])) (fun v M1 hq => ?_)
      obtain ⟨rfl, T2, V2, R2, J2, rfl, k2, s2, -, -⟩ := hq
      refine (show X _ _ 77 _ _ _ _ _ _ from ?_)
      have t2 : T2 (r + 2) = (6, 3) := by rw [(k2 _ (by omega)).1, u1_n (by omega)]; exact q5
      have t3 := s2.1
      refine x_aast dX5_init_77 t2 t3 (ix_nat rfl) (by omega) (by decide) ?_
      refine (show X _ _ 78 _ _ _ _ _ _ from ?_)
      refine y_iinc dX5_init_78 rfl (by decide) rfl rfl ?_
      refine x_goto 60 dX5_init_81 (by decide) ?_
      refine (show X _ _ 60 _ _ _ _ _ _ from ?_)
      rw [ec]
      exact ih (j + 1) _ _ _ _ (by omega) (PI_step hp0 k2 s2 (Or.inr ⟨rfl, rfl⟩))
  have l1 : ∀ (d i : Nat) (T1 : Nat → Nat × Nat) (V1 : Nat → Nat → Int) (R1 : Nat → Nat → Option Nat) (J1 : Nat → Nat → Int64), i + d = 12 → PI T V R J T1 V1 R1 J1 r i → X g mX5_init 33 [.ref r, .int (iI (i : Int))] [] (T1, iV V1, R1, J1, r + 3 + 3 * i) (3 * d + 9) (47 * d + 141) (MKQ T V R J r 48 (fun T' V' R' => PS T' R' r (fun i => i) ∧ (V' r 0 = 0 ∧ V' r 1 = 0) ∧ True)) := by
    intro d
    induction d with
    | zero =>
      intro i T1 V1 R1 J1 hj hp
      refine x_iload_n dX5_init_33 rfl ?_
      refine y_bipush dX5_init_34 rfl ?_
      refine (show X _ _ 36 _ _ _ _ _ _ from ?_)
      refine y_icmp_ge 58 dX5_init_36 (by decide) ⟨by omega, by omega⟩ ⟨by omega, by omega⟩ (fun h => ?_) (fun h => ?_)
      · have ei : i = 12 := by omega
        subst ei
        refine y_iconst dX5_init_58 ?_
        refine x_istore_n dX5_init_59 (by decide) rfl rfl ?_
        refine (show X _ _ 60 _ _ _ _ _ _ from ?_)
        exact l2 3 0 T1 V1 R1 J1 rfl hp
      · omega
    | succ d ih =>
      intro j T1 V1 R1 J1 hj hp
      have hp0 := hp
      obtain ⟨q0, ⟨q1, q2, q3, q4, q5⟩, q6, q8, q9, q10⟩ := hp
      rw [show 3 * (d + 1) + 9 = 3 * d + 9 + 2 + 1 by omega, show 47 * (d + 1) + 141 = 47 * d + 141 + 42 + 5 by omega]
      have ec : (j : Int) + 1 = ((j + 1 : Nat) : Int) := by omega
      refine x_iload_n dX5_init_33 rfl ?_
      refine y_bipush dX5_init_34 rfl ?_
      refine (show X _ _ 36 _ _ _ _ _ _ from ?_)
      refine y_icmp_ge 58 dX5_init_36 (by decide) ⟨by omega, by omega⟩ ⟨by omega, by omega⟩ (fun h => ?_) (fun h => ?_)
      · omega
      refine x_aload_n dX5_init_39 rfl ?_
      refine x_gr dX5_init_40 fX5_20 (by first | assumption | (simp (discharger := omega) only [u1_s, u1_n, u2_s, u2_n]; first | assumption | rfl)) (fun _ _ _ => rfl) (by first | assumption | (simp (discharger := omega) only [u1_s, u1_n, u2_s, u2_n]; first | assumption | rfl)) ?_
      refine x_iload_n dX5_init_43 rfl ?_
      refine y_new (ci := 4) dX5_init_44 rfl cX5_18 nX4 iX4 dfX4 ?_
      refine x_dup dX5_init_47 rfl ?_
      refine (show X _ _ 48 _ _ _ _ _ _ from ?_)
      refine x_callI (As := []) (mc := 2) (ms := 42) (z := mX4_init) dX5_init_48 lX5_27 oX4_init (by decide) rfl (Nat.le_of_ble_eq_true rfl) (Nat.le_of_ble_eq_true rfl) rfl (i_Now (by rw [u1_s])) (fun v M1 hq => ?_)
      obtain ⟨rfl, T2, V2, R2, J2, rfl, k2, s2, -, -⟩ := hq
      refine (show X _ _ 51 _ _ _ _ _ _ from ?_)
      have t2 : T2 (r + 1) = (6, 12) := by rw [(k2 _ (by omega)).1, u1_n (by omega)]; exact q4
      have t3 := s2.1
      refine x_aast dX5_init_51 t2 t3 (ix_nat rfl) (by omega) (by decide) ?_
      refine (show X _ _ 52 _ _ _ _ _ _ from ?_)
      refine y_iinc dX5_init_52 rfl (by decide) rfl rfl ?_
      refine x_goto 33 dX5_init_55 (by decide) ?_
      refine (show X _ _ 33 _ _ _ _ _ _ from ?_)
      rw [ec]
      exact ih (j + 1) _ _ _ _ (by omega) (PI_step hp0 k2 s2 (Or.inl ⟨by omega, rfl, rfl⟩))
  refine x_aload_n dX5_init_0 rfl ?_
  refine x_objInit dX5_init_1 lX5_3 objI objC (by decide) (Nat.le_of_ble_eq_true rfl) ?_
  refine x_aload_n dX5_init_4 rfl ?_
  refine y_iconst dX5_init_5 ?_
  refine y_pi dX5_init_6 (pX5_9 _) (by first | assumption | (simp (discharger := omega) only [u1_s, u1_n, u2_s, u2_n]; first | assumption | rfl)) (fun _ _ _ => rfl) rfl rfl ?_
  refine x_aload_n dX5_init_9 rfl ?_
  refine y_iconst dX5_init_10 ?_
  refine y_pi dX5_init_11 (pX5_15 _) (by first | assumption | (simp (discharger := omega) only [u1_s, u1_n, u2_s, u2_n]; first | assumption | rfl)) (fun _ _ _ => rfl) rfl rfl ?_
  refine (show X _ _ 14 _ _ _ _ _ _ from ?_)
  refine x_aload_n dX5_init_14 rfl ?_
  refine y_bipush dX5_init_15 rfl ?_
  refine y_newq (N := (12)) dX5_init_17 cX5_18 rfl (by decide) ?_
  refine (show X _ _ 20 _ _ _ _ _ _ from ?_)
  refine x_pr dX5_init_20 pX5_init_20 (by first | assumption | (simp (discharger := omega) only [u1_s, u1_n, u2_s, u2_n]; first | assumption | rfl)) (fun _ _ _ => rfl) rfl rfl ?_
  refine x_aload_n dX5_init_23 rfl ?_
  refine y_iconst dX5_init_24 ?_
  refine y_newq (N := (3)) dX5_init_25 cX5_18 rfl (by decide) ?_
  refine x_pr dX5_init_28 pX5_init_24 (by first | assumption | (simp (discharger := omega) only [u1_s, u1_n, u2_s, u2_n]; first | assumption | rfl)) (fun _ _ _ => rfl) rfl rfl ?_
  refine y_iconst dX5_init_31 ?_
  refine x_istore_n dX5_init_32 (by decide) rfl rfl ?_
  refine (show X _ _ 33 _ _ _ _ _ _ from ?_)
  refine l1 12 0 _ _ _ _ rfl ⟨fun b hb => ⟨?_, ?_, ?_, ?_⟩, ⟨?_, ?_, ?_, ?_, ?_⟩, ⟨?_, ?_⟩, fun j hj => absurd hj (by omega), fun j hj => absurd hj (by omega), fun j hj => absurd hj (by omega)⟩
  · simp (discharger := omega) only [u1_s, u1_n, u2_s, u2_n]
  · simp (discharger := omega) only [u1_s, u1_n, u2_s, u2_n]
  · simp (discharger := omega) only [u1_s, u1_n, u2_s, u2_n]
  · simp (discharger := omega) only [u1_s, u1_n, u2_s, u2_n]
  · simp (discharger := omega) only [u1_s, u1_n, u2_s, u2_n]; exact hT
  · simp (discharger := omega) only [u1_s, u1_n, u2_s, u2_n]
  · simp (discharger := omega) only [u1_s, u1_n, u2_s, u2_n]
  · simp (discharger := omega) only [u1_s, u1_n, u2_s, u2_n]
  · simp (discharger := omega) only [u1_s, u1_n, u2_s, u2_n]
  · simp (discharger := omega) only [u1_s, u1_n, u2_s, u2_n]
  · simp (discharger := omega) only [u1_s, u1_n, u2_s, u2_n]
end C60
