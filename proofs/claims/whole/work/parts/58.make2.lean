/-! ===== constructors: Almanac, Run, Notes, Family ===== -/
section Mm
variable {α : Type} {T : Nat → Nat × Nat} {R : Nat → Nat → Option Nat} {F : Nat → Nat → α} {d : α} {sz N K b j : Nat}
theorem mT_s : mT T sz N K sz = (5, N) := if_pos rfl
theorem mT_r (h : sz < b) (h2 : b ≤ sz + N) : mT T sz N K b = (1, K) := by unfold mT; rw [if_neg (by omega), if_pos ⟨h, h2⟩]
theorem mT_n (h : b < sz ∨ sz + N < b) : mT T sz N K b = T b := by unfold mT; rw [if_neg (by omega), if_neg (by omega)]
theorem mR_r (h : sz ≤ b) (h2 : b ≤ sz + N) : mR F d sz N b = fun _ => d := if_pos ⟨h, h2⟩
theorem mR_n (h : b < sz ∨ sz + N < b) : mR F d sz N b = F b := if_neg (by omega)
theorem mQ_s (h : j < N) : mQ R sz N sz j = some (sz + 1 + j) := by unfold mQ; rw [if_pos rfl, if_pos h]
theorem mQ_n (h : b < sz ∨ sz + N < b) : mQ R sz N b = R b := by unfold mQ; rw [if_neg (by omega), if_neg (by omega)]
end Mm
section C58
variable {g : GG} {T : Nat → Nat × Nat} {V : Nat → Nat → Int} {R : Nat → Nat → Option Nat} {J : Nat → Nat → Int64} {r w k n : Nat}
theorem i_Alm (hT : T r = (10, 0)) : X g mX0_init 0 [.ref r] [] (T, iV V, R, J, r + 1) 4 290 (MKQ T V R J r 5 (fun T' V' R' => AS T' R' r ∧ (True) ∧ ∀ b, r < b → b < r + 5 → V' b = fun _ => 0)) := by
  refine x_aload_n dX0_init_0 rfl ?_
  refine x_objInit dX0_init_1 lX0_3 objI objC (by decide) (Nat.le_of_ble_eq_true rfl) ?_
  refine x_aload_n dX0_init_4 rfl ?_
  refine y_bipush dX0_init_5 rfl ?_
  refine y_newa (t := 1) (N := (24)) dX0_init_7 rfl (by decide) (by decide) acI rfl (by decide) ?_
  refine (show X _ _ 9 _ _ _ _ _ _ from ?_)
  refine x_pr dX0_init_9 pX0_init_9 (by first | assumption | (simp (discharger := omega) only [u1_s, u1_n, u2_s, u2_n]; first | assumption | rfl)) (fun _ _ _ => rfl) rfl rfl ?_
  refine x_aload_n dX0_init_12 rfl ?_
  refine y_bipush dX0_init_13 rfl ?_
  refine y_newa (t := 1) (N := (24)) dX0_init_15 rfl (by decide) (by decide) acI rfl (by decide) ?_
  refine (show X _ _ 17 _ _ _ _ _ _ from ?_)
  refine x_pr dX0_init_17 pX0_init_15 (by first | assumption | (simp (discharger := omega) only [u1_s, u1_n, u2_s, u2_n]; first | assumption | rfl)) (fun _ _ _ => rfl) rfl rfl ?_
  refine x_aload_n dX0_init_20 rfl ?_
  refine y_sipush dX0_init_21 rfl ?_
  refine y_newa (t := 1) (N := (240)) dX0_init_24 rfl (by decide) (by decide) acI rfl (by decide) ?_
  refine (show X _ _ 26 _ _ _ _ _ _ from ?_)
  refine x_pr dX0_init_26 pX0_init_18 (by first | assumption | (simp (discharger := omega) only [u1_s, u1_n, u2_s, u2_n]; first | assumption | rfl)) (fun _ _ _ => rfl) rfl rfl ?_
  refine x_aload_n dX0_init_29 rfl ?_
  refine y_iconst dX0_init_30 ?_
  refine y_newa (t := 1) (N := (2)) dX0_init_31 rfl (by decide) (by decide) acI rfl (by decide) ?_
  refine x_pr dX0_init_33 pX0_init_21 (by first | assumption | (simp (discharger := omega) only [u1_s, u1_n, u2_s, u2_n]; first | assumption | rfl)) (fun _ _ _ => rfl) rfl rfl ?_
  refine (show X _ _ 36 _ _ _ _ _ _ from ?_)
  refine x_return dX0_init_36 rfl ⟨rfl, _, _, _, _, rfl, fun b hb => ⟨?_, ?_, ?_, ?_⟩, ?_, ?_, fun b h1 h2 => ?_⟩
  · simp (discharger := omega) only [u1_n, u2_n]
  · simp (discharger := omega) only [u1_n, u2_n]
  · simp (discharger := omega) only [u1_n, u2_n]
  · simp (discharger := omega) only [u1_n, u2_n]
  · refine ⟨?_, ⟨?_, ?_, ?_, ?_⟩, ⟨?_, ?_, ?_, ?_⟩⟩ <;> simp (discharger := omega) only [u1_s, u1_n, u2_s, u2_n] <;> exact hT
  · trivial
  · rcases (by omega : b = r + 1 ∨ b = r + 1 + 1 ∨ b = r + 1 + 1 + 1 ∨ b = r + 1 + 1 + 1 + 1) with rfl | rfl | rfl | rfl <;> simp (discharger := omega) only [u1_s, u1_n, u2_s, u2_n]
theorem i_Run (hT : T r = (18, 0)) : X g mX8_init 0 [.ref r, .ref w] [] (T, iV V, R, J, r + 1) 4 54 (MKQ T V R J r 5 (fun T' V' R' => RS T' R' r w ∧ (True) ∧ ∀ b, r < b → b < r + 5 → V' b = fun _ => 0)) := by
  refine x_aload_n dX8_init_0 rfl ?_
  refine x_objInit dX8_init_1 lX8_3 objI objC (by decide) (Nat.le_of_ble_eq_true rfl) ?_
  refine x_aload_n dX8_init_4 rfl ?_
  refine y_iconst dX8_init_5 ?_
  refine y_pi dX8_init_6 (pX8_9 _) (by first | assumption | (simp (discharger := omega) only [u1_s, u1_n, u2_s, u2_n]; first | assumption | rfl)) (fun _ _ _ => rfl) rfl rfl ?_
  refine x_aload_n dX8_init_9 rfl ?_
  refine y_iconst dX8_init_10 ?_
  refine y_pi dX8_init_11 (pX8_15 _) (by first | assumption | (simp (discharger := omega) only [u1_s, u1_n, u2_s, u2_n]; first | assumption | rfl)) (fun _ _ _ => rfl) rfl rfl ?_
  refine (show X _ _ 14 _ _ _ _ _ _ from ?_)
  refine x_aload_n dX8_init_14 rfl ?_
  refine y_iconst dX8_init_15 ?_
  refine y_pi dX8_init_16 (pX8_18 _) (by first | assumption | (simp (discharger := omega) only [u1_s, u1_n, u2_s, u2_n]; first | assumption | rfl)) (fun _ _ _ => rfl) rfl rfl ?_
  refine x_aload_n dX8_init_19 rfl ?_
  refine y_iconst dX8_init_20 ?_
  refine y_pi dX8_init_21 (pX8_21 _) (by first | assumption | (simp (discharger := omega) only [u1_s, u1_n, u2_s, u2_n]; first | assumption | rfl)) (fun _ _ _ => rfl) rfl rfl ?_
  refine x_aload_n dX8_init_24 rfl ?_
  refine y_iconst dX8_init_25 ?_
  refine (show X _ _ 26 _ _ _ _ _ _ from ?_)
  refine y_pi dX8_init_26 (pX8_24 _) (by first | assumption | (simp (discharger := omega) only [u1_s, u1_n, u2_s, u2_n]; first | assumption | rfl)) (fun _ _ _ => rfl) rfl rfl ?_
  refine x_aload_n dX8_init_29 rfl ?_
  refine y_iconst dX8_init_30 ?_
  refine y_pi dX8_init_31 (pX8_27 _) (by first | assumption | (simp (discharger := omega) only [u1_s, u1_n, u2_s, u2_n]; first | assumption | rfl)) (fun _ _ _ => rfl) (by first | rfl | exact bI_nar _) (by first | rfl | exact bI_fit _) ?_
  refine x_aload_n dX8_init_34 rfl ?_
  refine y_iconst dX8_init_35 ?_
  refine y_pi dX8_init_36 (pX8_31 _) (by first | assumption | (simp (discharger := omega) only [u1_s, u1_n, u2_s, u2_n]; first | assumption | rfl)) (fun _ _ _ => rfl) rfl rfl ?_
  refine x_aload_n dX8_init_39 rfl ?_
  refine (show X _ _ 40 _ _ _ _ _ _ from ?_)
  refine y_iconst dX8_init_40 ?_
  refine y_pi dX8_init_41 (pX8_34 _) (by first | assumption | (simp (discharger := omega) only [u1_s, u1_n, u2_s, u2_n]; first | assumption | rfl)) (fun _ _ _ => rfl) rfl rfl ?_
  refine x_aload_n dX8_init_44 rfl ?_
  refine y_iconst dX8_init_45 ?_
  refine y_pi dX8_init_46 (pX8_37 _) (by first | assumption | (simp (discharger := omega) only [u1_s, u1_n, u2_s, u2_n]; first | assumption | rfl)) (fun _ _ _ => rfl) rfl rfl ?_
  refine x_aload_n dX8_init_49 rfl ?_
  refine y_iconst dX8_init_50 ?_
  refine y_pi dX8_init_51 (pX8_40 _) (by first | assumption | (simp (discharger := omega) only [u1_s, u1_n, u2_s, u2_n]; first | assumption | rfl)) (fun _ _ _ => rfl) rfl rfl ?_
  refine (show X _ _ 54 _ _ _ _ _ _ from ?_)
  refine x_aload_n dX8_init_54 rfl ?_
  refine y_bipush dX8_init_55 rfl ?_
  refine y_newa (t := 1) (N := (10)) dX8_init_57 rfl (by decide) (by decide) acI rfl (by decide) ?_
  refine (show X _ _ 59 _ _ _ _ _ _ from ?_)
  refine x_pr dX8_init_59 pX8_init_43 (by first | assumption | (simp (discharger := omega) only [u1_s, u1_n, u2_s, u2_n]; first | assumption | rfl)) (fun _ _ _ => rfl) rfl rfl ?_
  refine x_aload_n dX8_init_62 rfl ?_
  refine y_bipush dX8_init_63 rfl ?_
  refine y_newa (t := 1) (N := (10)) dX8_init_65 rfl (by decide) (by decide) acI rfl (by decide) ?_
  refine (show X _ _ 67 _ _ _ _ _ _ from ?_)
  refine x_pr dX8_init_67 pX8_init_47 (by first | assumption | (simp (discharger := omega) only [u1_s, u1_n, u2_s, u2_n]; first | assumption | rfl)) (fun _ _ _ => rfl) rfl rfl ?_
  refine x_aload_n dX8_init_70 rfl ?_
  refine y_bipush dX8_init_71 rfl ?_
  refine y_newa (t := 1) (N := (10)) dX8_init_73 rfl (by decide) (by decide) acI rfl (by decide) ?_
  refine (show X _ _ 75 _ _ _ _ _ _ from ?_)
  refine x_pr dX8_init_75 pX8_init_50 (by first | assumption | (simp (discharger := omega) only [u1_s, u1_n, u2_s, u2_n]; first | assumption | rfl)) (fun _ _ _ => rfl) rfl rfl ?_
  refine x_aload_n dX8_init_78 rfl ?_
  refine y_bipush dX8_init_79 rfl ?_
  refine y_newa (t := 1) (N := (24)) dX8_init_81 rfl (by decide) (by decide) acI rfl (by decide) ?_
  refine (show X _ _ 83 _ _ _ _ _ _ from ?_)
  refine x_pr dX8_init_83 pX8_init_53 (by first | assumption | (simp (discharger := omega) only [u1_s, u1_n, u2_s, u2_n]; first | assumption | rfl)) (fun _ _ _ => rfl) rfl rfl ?_
  refine x_aload_n dX8_init_86 rfl ?_
  refine x_aload_n dX8_init_87 rfl ?_
  refine x_pr dX8_init_88 pX8_init_56 (by first | assumption | (simp (discharger := omega) only [u1_s, u1_n, u2_s, u2_n]; first | assumption | rfl)) (fun _ _ _ => rfl) rfl rfl ?_
  refine (show X _ _ 91 _ _ _ _ _ _ from ?_)
  refine x_return dX8_init_91 rfl ⟨rfl, _, _, _, _, rfl, fun b hb => ⟨?_, ?_, ?_, ?_⟩, ?_, ?_, fun b h1 h2 => ?_⟩
  · simp (discharger := omega) only [u1_n, u2_n]
  · simp (discharger := omega) only [u1_n, u2_n]
  · simp (discharger := omega) only [u1_n, u2_n]
  · simp (discharger := omega) only [u1_n, u2_n]
  · refine ⟨⟨?_, ?_⟩, ⟨?_, ?_, ?_, ?_⟩, ⟨?_, ?_, ?_, ?_⟩⟩ <;> simp (discharger := omega) only [u1_s, u1_n, u2_s, u2_n] <;> exact hT
  · trivial
  · rcases (by omega : b = r + 1 ∨ b = r + 1 + 1 ∨ b = r + 1 + 1 + 1 ∨ b = r + 1 + 1 + 1 + 1) with rfl | rfl | rfl | rfl <;> simp (discharger := omega) only [u1_s, u1_n, u2_s, u2_n]
theorem i_Notes (hT : T r = (13, 0)) : X g mX3_init 0 [.ref r, .ref w] [] (T, iV V, R, J, r + 1) 2 18 (MKQ T V R J r 3 (fun T' V' R' => OS T' R' r w ∧ (V' r 1 = 0) ∧ ∀ b, r < b → b < r + 3 → V' b = fun _ => 0)) := by
  refine x_aload_n dX3_init_0 rfl ?_
  refine x_objInit dX3_init_1 lX3_3 objI objC (by decide) (Nat.le_of_ble_eq_true rfl) ?_
  refine x_aload_n dX3_init_4 rfl ?_
  refine y_iconst dX3_init_5 ?_
  refine y_pi dX3_init_6 (pX3_9 _) (by first | assumption | (simp (discharger := omega) only [u1_s, u1_n, u2_s, u2_n]; first | assumption | rfl)) (fun _ _ _ => rfl) rfl rfl ?_
  refine x_aload_n dX3_init_9 rfl ?_
  refine y_bipush dX3_init_10 rfl ?_
  refine y_newa (t := 1) (N := (10)) dX3_init_12 rfl (by decide) (by decide) acI rfl (by decide) ?_
  refine (show X _ _ 14 _ _ _ _ _ _ from ?_)
  refine x_pr dX3_init_14 pX3_init_15 (by first | assumption | (simp (discharger := omega) only [u1_s, u1_n, u2_s, u2_n]; first | assumption | rfl)) (fun _ _ _ => rfl) rfl rfl ?_
  refine x_aload_n dX3_init_17 rfl ?_
  refine y_bipush dX3_init_18 rfl ?_
  refine y_newa (t := 1) (N := (8)) dX3_init_20 rfl (by decide) (by decide) acI rfl (by decide) ?_
  refine (show X _ _ 22 _ _ _ _ _ _ from ?_)
  refine x_pr dX3_init_22 pX3_init_19 (by first | assumption | (simp (discharger := omega) only [u1_s, u1_n, u2_s, u2_n]; first | assumption | rfl)) (fun _ _ _ => rfl) rfl rfl ?_
  refine x_aload_n dX3_init_25 rfl ?_
  refine x_aload_n dX3_init_26 rfl ?_
  refine x_pr dX3_init_27 pX3_init_22 (by first | assumption | (simp (discharger := omega) only [u1_s, u1_n, u2_s, u2_n]; first | assumption | rfl)) (fun _ _ _ => rfl) rfl rfl ?_
  refine (show X _ _ 30 _ _ _ _ _ _ from ?_)
  refine x_return dX3_init_30 rfl ⟨rfl, _, _, _, _, rfl, fun b hb => ⟨?_, ?_, ?_, ?_⟩, ?_, ?_, fun b h1 h2 => ?_⟩
  · simp (discharger := omega) only [u1_n, u2_n]
  · simp (discharger := omega) only [u1_n, u2_n]
  · simp (discharger := omega) only [u1_n, u2_n]
  · simp (discharger := omega) only [u1_n, u2_n]
  · refine ⟨⟨?_, ?_⟩, ⟨?_, ?_⟩, ⟨?_, ?_⟩⟩ <;> simp (discharger := omega) only [u1_s, u1_n, u2_s, u2_n] <;> exact hT
  · simp (discharger := omega) only [u1_s, u1_n, u2_s, u2_n]
  · rcases (by omega : b = r + 1 ∨ b = r + 1 + 1) with rfl | rfl <;> simp (discharger := omega) only [u1_s, u1_n, u2_s, u2_n]
theorem i_Fam (hT : T r = (12, 0)) : X g mX2_init 0 [.ref r] [] (T, iV V, R, J, r + 1) 44 300 (MKQ T V R J r 45 (fun T' V' R' => FS T' R' r ∧ (∀ c, c < 9 → V' r c = 0) ∧ ∀ b, r < b → b < r + 45 → V' b = fun _ => 0)) := by
  refine x_aload_n dX2_init_0 rfl ?_
  refine x_objInit dX2_init_1 lX2_3 objI objC (by decide) (Nat.le_of_ble_eq_true rfl) ?_
  refine x_aload_n dX2_init_4 rfl ?_
  refine y_iconst dX2_init_5 ?_
  refine y_pi dX2_init_6 (pX2_9 _) (by first | assumption | (simp (discharger := omega) only [u1_s, u1_n, u2_s, u2_n, mT_s, mT_n, mQ_n]; first | assumption | rfl)) (fun _ _ _ => rfl) rfl rfl ?_
  refine x_aload_n dX2_init_9 rfl ?_
  refine y_iconst dX2_init_10 ?_
  refine y_pi dX2_init_11 (pX2_15 _) (by first | assumption | (simp (discharger := omega) only [u1_s, u1_n, u2_s, u2_n, mT_s, mT_n, mQ_n]; first | assumption | rfl)) (fun _ _ _ => rfl) rfl rfl ?_
  refine (show X _ _ 14 _ _ _ _ _ _ from ?_)
  refine x_aload_n dX2_init_14 rfl ?_
  refine y_iconst dX2_init_15 ?_
  refine y_pi dX2_init_16 (pX2_18 _) (by first | assumption | (simp (discharger := omega) only [u1_s, u1_n, u2_s, u2_n, mT_s, mT_n, mQ_n]; first | assumption | rfl)) (fun _ _ _ => rfl) rfl rfl ?_
  refine x_aload_n dX2_init_19 rfl ?_
  refine y_iconst dX2_init_20 ?_
  refine y_pi dX2_init_21 (pX2_21 _) (by first | assumption | (simp (discharger := omega) only [u1_s, u1_n, u2_s, u2_n, mT_s, mT_n, mQ_n]; first | assumption | rfl)) (fun _ _ _ => rfl) rfl rfl ?_
  refine x_aload_n dX2_init_24 rfl ?_
  refine y_iconst dX2_init_25 ?_
  refine (show X _ _ 26 _ _ _ _ _ _ from ?_)
  refine y_pi dX2_init_26 (pX2_24 _) (by first | assumption | (simp (discharger := omega) only [u1_s, u1_n, u2_s, u2_n, mT_s, mT_n, mQ_n]; first | assumption | rfl)) (fun _ _ _ => rfl) rfl rfl ?_
  refine x_aload_n dX2_init_29 rfl ?_
  refine y_iconst dX2_init_30 ?_
  refine y_pi dX2_init_31 (pX2_27 _) (by first | assumption | (simp (discharger := omega) only [u1_s, u1_n, u2_s, u2_n, mT_s, mT_n, mQ_n]; first | assumption | rfl)) (fun _ _ _ => rfl) rfl rfl ?_
  refine x_aload_n dX2_init_34 rfl ?_
  refine y_iconst dX2_init_35 ?_
  refine y_pi dX2_init_36 (pX2_30 _) (by first | assumption | (simp (discharger := omega) only [u1_s, u1_n, u2_s, u2_n, mT_s, mT_n, mQ_n]; first | assumption | rfl)) (fun _ _ _ => rfl) rfl rfl ?_
  refine x_aload_n dX2_init_39 rfl ?_
  refine (show X _ _ 40 _ _ _ _ _ _ from ?_)
  refine y_iconst dX2_init_40 ?_
  refine y_pi dX2_init_41 (pX2_33 _) (by first | assumption | (simp (discharger := omega) only [u1_s, u1_n, u2_s, u2_n, mT_s, mT_n, mQ_n]; first | assumption | rfl)) (fun _ _ _ => rfl) rfl rfl ?_
  refine x_aload_n dX2_init_44 rfl ?_
  refine y_iconst dX2_init_45 ?_
  refine y_pi dX2_init_46 (pX2_36 _) (by first | assumption | (simp (discharger := omega) only [u1_s, u1_n, u2_s, u2_n, mT_s, mT_n, mQ_n]; first | assumption | rfl)) (fun _ _ _ => rfl) rfl rfl ?_
  refine x_aload_n dX2_init_49 rfl ?_
  refine y_bipush dX2_init_50 rfl ?_
  refine y_bipush dX2_init_52 rfl ?_
  refine (show X _ _ 54 _ _ _ _ _ _ from ?_)
  refine y_mna (N :=  10) (K := 7) dX2_init_54 cX2_39 acI rfl rfl (by decide) (by decide) ?_
  refine (show X _ _ 58 _ _ _ _ _ _ from ?_)
  refine x_pr dX2_init_58 pX2_init_41 (by first | assumption | (simp (discharger := omega) only [u1_s, u1_n, u2_s, u2_n, mT_s, mT_n, mQ_n]; first | assumption | rfl)) (fun _ _ _ => rfl) rfl rfl ?_
  refine x_aload_n dX2_init_61 rfl ?_
  refine y_bipush dX2_init_62 rfl ?_
  refine y_iconst dX2_init_64 ?_
  refine y_mna (N :=  12) (K := 4) dX2_init_65 cX2_39 acI rfl rfl (by decide) (by decide) ?_
  refine (show X _ _ 69 _ _ _ _ _ _ from ?_)
  refine x_pr dX2_init_69 pX2_init_44 (by first | assumption | (simp (discharger := omega) only [u1_s, u1_n, u2_s, u2_n, mT_s, mT_n, mQ_n]; first | assumption | rfl)) (fun _ _ _ => rfl) rfl rfl ?_
  refine x_aload_n dX2_init_72 rfl ?_
  refine y_bipush dX2_init_73 rfl ?_
  refine y_iconst dX2_init_75 ?_
  refine y_mna (N :=  8) (K := 4) dX2_init_76 cX2_39 acI rfl rfl (by decide) (by decide) ?_
  refine (show X _ _ 80 _ _ _ _ _ _ from ?_)
  refine x_pr dX2_init_80 pX2_init_47 (by first | assumption | (simp (discharger := omega) only [u1_s, u1_n, u2_s, u2_n, mT_s, mT_n, mQ_n]; first | assumption | rfl)) (fun _ _ _ => rfl) rfl rfl ?_
  refine x_aload_n dX2_init_83 rfl ?_
  refine y_bipush dX2_init_84 rfl ?_
  refine y_iconst dX2_init_86 ?_
  refine y_mna (N :=  8) (K := 3) dX2_init_87 cX2_39 acI rfl rfl (by decide) (by decide) ?_
  refine (show X _ _ 91 _ _ _ _ _ _ from ?_)
  refine x_pr dX2_init_91 pX2_init_50 (by first | assumption | (simp (discharger := omega) only [u1_s, u1_n, u2_s, u2_n, mT_s, mT_n, mQ_n]; first | assumption | rfl)) (fun _ _ _ => rfl) rfl rfl ?_
  refine x_aload_n dX2_init_94 rfl ?_
  refine y_bipush dX2_init_95 rfl ?_
  refine y_newa (t := 1) (N := (8)) dX2_init_97 rfl (by decide) (by decide) acI rfl (by decide) ?_
  refine (show X _ _ 99 _ _ _ _ _ _ from ?_)
  refine x_pr dX2_init_99 pX2_init_53 (by first | assumption | (simp (discharger := omega) only [u1_s, u1_n, u2_s, u2_n, mT_s, mT_n, mQ_n]; first | assumption | rfl)) (fun _ _ _ => rfl) rfl rfl ?_
  refine x_aload_n dX2_init_102 rfl ?_
  refine y_bipush dX2_init_103 rfl ?_
  refine y_newa (t := 1) (N := (80)) dX2_init_105 rfl (by decide) (by decide) acI rfl (by decide) ?_
  refine x_pr dX2_init_107 pX2_init_57 (by first | assumption | (simp (discharger := omega) only [u1_s, u1_n, u2_s, u2_n, mT_s, mT_n, mQ_n]; first | assumption | rfl)) (fun _ _ _ => rfl) rfl rfl ?_
  refine (show X _ _ 110 _ _ _ _ _ _ from ?_)
  refine x_return dX2_init_110 rfl ⟨rfl, _, _, _, _, rfl, fun b hb => ⟨?_, ?_, ?_, ?_⟩, ⟨?_, ⟨?_, ?_, ?_, ?_, ?_, ?_⟩, ⟨?_, ?_, ?_, ?_, ?_, ?_⟩, fun p hp => ⟨?_, ?_⟩, fun p hp => ⟨?_, ?_⟩, fun p hp => ⟨?_, ?_⟩, fun p hp => ⟨?_, ?_⟩⟩, fun c hc => ?_, fun b h1 h2 => ?_⟩
  · simp (discharger := omega) only [u1_s, u1_n, u2_s, u2_n, mT_s, mT_r, mT_n, mR_r, mR_n, mQ_s, mQ_n]
  · simp (discharger := omega) only [u1_s, u1_n, u2_s, u2_n, mT_s, mT_r, mT_n, mR_r, mR_n, mQ_s, mQ_n]
  · simp (discharger := omega) only [u1_s, u1_n, u2_s, u2_n, mT_s, mT_r, mT_n, mR_r, mR_n, mQ_s, mQ_n]
  · simp (discharger := omega) only [u1_s, u1_n, u2_s, u2_n, mT_s, mT_r, mT_n, mR_r, mR_n, mQ_s, mQ_n]
  · simp (discharger := omega) only [u1_s, u1_n, u2_s, u2_n, mT_s, mT_r, mT_n, mR_r, mR_n, mQ_s, mQ_n]; exact hT
  · simp (discharger := omega) only [u1_s, u1_n, u2_s, u2_n, mT_s, mT_r, mT_n, mR_r, mR_n, mQ_s, mQ_n]
  · simp (discharger := omega) only [u1_s, u1_n, u2_s, u2_n, mT_s, mT_r, mT_n, mR_r, mR_n, mQ_s, mQ_n]
  · simp (discharger := omega) only [u1_s, u1_n, u2_s, u2_n, mT_s, mT_r, mT_n, mR_r, mR_n, mQ_s, mQ_n]
  · simp (discharger := omega) only [u1_s, u1_n, u2_s, u2_n, mT_s, mT_r, mT_n, mR_r, mR_n, mQ_s, mQ_n]
  · simp (discharger := omega) only [u1_s, u1_n, u2_s, u2_n, mT_s, mT_r, mT_n, mR_r, mR_n, mQ_s, mQ_n]
  · simp (discharger := omega) only [u1_s, u1_n, u2_s, u2_n, mT_s, mT_r, mT_n, mR_r, mR_n, mQ_s, mQ_n]
  · simp (discharger := omega) only [u1_s, u1_n, u2_s, u2_n, mT_s, mT_r, mT_n, mR_r, mR_n, mQ_s, mQ_n]
  · simp (discharger := omega) only [u1_s, u1_n, u2_s, u2_n, mT_s, mT_r, mT_n, mR_r, mR_n, mQ_s, mQ_n]
  · simp (discharger := omega) only [u1_s, u1_n, u2_s, u2_n, mT_s, mT_r, mT_n, mR_r, mR_n, mQ_s, mQ_n]
  · simp (discharger := omega) only [u1_s, u1_n, u2_s, u2_n, mT_s, mT_r, mT_n, mR_r, mR_n, mQ_s, mQ_n]
  · simp (discharger := omega) only [u1_s, u1_n, u2_s, u2_n, mT_s, mT_r, mT_n, mR_r, mR_n, mQ_s, mQ_n]
  · simp (discharger := omega) only [u1_s, u1_n, u2_s, u2_n, mT_s, mT_r, mT_n, mR_r, mR_n, mQ_s, mQ_n]
  · simp (discharger := omega) only [u1_s, u1_n, u2_s, u2_n, mT_s, mT_r, mT_n, mR_r, mR_n, mQ_s, mQ_n]
  · simp (discharger := omega) only [u1_s, u1_n, u2_s, u2_n, mT_s, mT_r, mT_n, mR_r, mR_n, mQ_s, mQ_n]
  · simp (discharger := omega) only [u1_s, u1_n, u2_s, u2_n, mT_s, mT_r, mT_n, mR_r, mR_n, mQ_s, mQ_n]
  · simp (discharger := omega) only [u1_s, u1_n, u2_s, u2_n, mT_s, mT_r, mT_n, mR_r, mR_n, mQ_s, mQ_n]
  · simp (discharger := omega) only [u1_s, u1_n, u2_s, u2_n, mT_s, mT_r, mT_n, mR_r, mR_n, mQ_s, mQ_n]
  · simp (discharger := omega) only [u1_s, u1_n, u2_s, u2_n, mT_s, mT_r, mT_n, mR_r, mR_n, mQ_s, mQ_n]
  · simp (discharger := omega) only [u1_s, u1_n, u2_s, u2_n, mT_s, mT_r, mT_n, mR_r, mR_n, mQ_s, mQ_n]
  · simp (discharger := omega) only [u1_s, u1_n, u2_s, u2_n, mT_s, mT_r, mT_n, mR_r, mR_n, mQ_s, mQ_n]
  · rcases (by omega : c = 0 ∨ c = 1 ∨ c = 2 ∨ c = 3 ∨ c = 4 ∨ c = 5 ∨ c = 6 ∨ c = 7 ∨ c = 8) with rfl | rfl | rfl | rfl | rfl | rfl | rfl | rfl | rfl <;> simp (discharger := omega) only [u1_s, u1_n, u2_s, u2_n, mT_s, mT_r, mT_n, mR_r, mR_n, mQ_s, mQ_n]
  · rcases (by omega : b ≤ r + 11 ∨ (r + 12 ≤ b ∧ b ≤ r + 24) ∨ (r + 25 ≤ b ∧ b ≤ r + 33) ∨ (r + 34 ≤ b ∧ b ≤ r + 42) ∨ b = r + 43 ∨ b = r + 44) with h3 | h3 | h3 | h3 | h3 | h3
    · simp (discharger := omega) only [u1_s, u1_n, u2_s, u2_n, mT_s, mT_r, mT_n, mR_r, mR_n, mQ_s, mQ_n]
    · simp (discharger := omega) only [u1_s, u1_n, u2_s, u2_n, mT_s, mT_r, mT_n, mR_r, mR_n, mQ_s, mQ_n]
    · simp (discharger := omega) only [u1_s, u1_n, u2_s, u2_n, mT_s, mT_r, mT_n, mR_r, mR_n, mQ_s, mQ_n]
    · simp (discharger := omega) only [u1_s, u1_n, u2_s, u2_n, mT_s, mT_r, mT_n, mR_r, mR_n, mQ_s, mQ_n]
    · subst h3; simp (discharger := omega) only [u1_s, u1_n, u2_s, u2_n, mT_s, mT_r, mT_n, mR_r, mR_n, mQ_s, mQ_n]
    · subst h3; simp (discharger := omega) only [u1_s, u1_n, u2_s, u2_n, mT_s, mT_r, mT_n, mR_r, mR_n, mQ_s, mQ_n]
end C58
