/-! ===== the reference's objects as they are made ===== -/
section C9k
variable {g : GG} {T : Nat → Nat × Nat} {V : Nat → Nat → Int} {R : Nat → Nat → Option Nat} {J : Nat → Nat → Int64} {r w k n : Nat}
set_option maxRecDepth 8000 in
theorem i_MFam (hT : T r = (21, 0)) (hV : V r = fun _ => 0) (hR : R r = fun _ => none) : X g mX11_init 0 [.ref r] [] (T, iV V, R, J, r + 1) 23 (0 + 18 + 18 + 18 + 8 + 8 + 8 + 80 + 8 + 8 + 8 + 8 + 8 + 12 + 12 + 12 + 12 + 10 + 10 + 10 + 10 + 10 + 10 + 10) (MKQ T V R J r 24 (fun T' V' R' => FMS T' R' r ∧ (∀ c, V' r c = 0) ∧ ∀ b, r < b → b < r + 24 → V' b = fun _ => 0)) := by
  refine x_aload_n dX11_init_0 rfl ?_
  refine x_objInit dX11_init_1 lX11_3 objI objC (by decide) (Nat.le_of_ble_eq_true rfl) ?_
  refine x_aload_n dX11_init_4 rfl ?_
  refine y_bipush dX11_init_5 rfl ?_
  refine y_newa (t := 1) (N := (10)) dX11_init_7 rfl (by decide) (by decide) acI rfl (by decide) ?_
  refine x_pr dX11_init_9 pX11_init_9 (by first | assumption | (simp (discharger := omega) only [u1_s, u1_n, u2_s, u2_n]; first | assumption | rfl)) (fun _ _ _ => rfl) rfl rfl ?_
  refine (show X _ _ 12 _ _ _ _ _ _ from ?_)
  refine x_aload_n dX11_init_12 rfl ?_
  refine y_bipush dX11_init_13 rfl ?_
  refine y_newa (t := 1) (N := (10)) dX11_init_15 rfl (by decide) (by decide) acI rfl (by decide) ?_
  refine x_pr dX11_init_17 pX11_init_15 (by first | assumption | (simp (discharger := omega) only [u1_s, u1_n, u2_s, u2_n]; first | assumption | rfl)) (fun _ _ _ => rfl) rfl rfl ?_
  refine (show X _ _ 20 _ _ _ _ _ _ from ?_)
  refine x_aload_n dX11_init_20 rfl ?_
  refine y_bipush dX11_init_21 rfl ?_
  refine y_newa (t := 1) (N := (10)) dX11_init_23 rfl (by decide) (by decide) acI rfl (by decide) ?_
  refine x_pr dX11_init_25 pX11_init_18 (by first | assumption | (simp (discharger := omega) only [u1_s, u1_n, u2_s, u2_n]; first | assumption | rfl)) (fun _ _ _ => rfl) rfl rfl ?_
  refine (show X _ _ 28 _ _ _ _ _ _ from ?_)
  refine x_aload_n dX11_init_28 rfl ?_
  refine y_bipush dX11_init_29 rfl ?_
  refine y_newa (t := 1) (N := (10)) dX11_init_31 rfl (by decide) (by decide) acI rfl (by decide) ?_
  refine x_pr dX11_init_33 pX11_init_21 (by first | assumption | (simp (discharger := omega) only [u1_s, u1_n, u2_s, u2_n]; first | assumption | rfl)) (fun _ _ _ => rfl) rfl rfl ?_
  refine (show X _ _ 36 _ _ _ _ _ _ from ?_)
  refine x_aload_n dX11_init_36 rfl ?_
  refine y_bipush dX11_init_37 rfl ?_
  refine y_newa (t := 1) (N := (10)) dX11_init_39 rfl (by decide) (by decide) acI rfl (by decide) ?_
  refine x_pr dX11_init_41 pX11_init_24 (by first | assumption | (simp (discharger := omega) only [u1_s, u1_n, u2_s, u2_n]; first | assumption | rfl)) (fun _ _ _ => rfl) rfl rfl ?_
  refine (show X _ _ 44 _ _ _ _ _ _ from ?_)
  refine x_aload_n dX11_init_44 rfl ?_
  refine y_bipush dX11_init_45 rfl ?_
  refine y_newa (t := 1) (N := (10)) dX11_init_47 rfl (by decide) (by decide) acI rfl (by decide) ?_
  refine x_pr dX11_init_49 pX11_init_27 (by first | assumption | (simp (discharger := omega) only [u1_s, u1_n, u2_s, u2_n]; first | assumption | rfl)) (fun _ _ _ => rfl) rfl rfl ?_
  refine (show X _ _ 52 _ _ _ _ _ _ from ?_)
  refine x_aload_n dX11_init_52 rfl ?_
  refine y_bipush dX11_init_53 rfl ?_
  refine y_newa (t := 1) (N := (10)) dX11_init_55 rfl (by decide) (by decide) acI rfl (by decide) ?_
  refine x_pr dX11_init_57 pX11_init_30 (by first | assumption | (simp (discharger := omega) only [u1_s, u1_n, u2_s, u2_n]; first | assumption | rfl)) (fun _ _ _ => rfl) rfl rfl ?_
  refine (show X _ _ 60 _ _ _ _ _ _ from ?_)
  refine x_aload_n dX11_init_60 rfl ?_
  refine y_bipush dX11_init_61 rfl ?_
  refine y_newa (t := 1) (N := (12)) dX11_init_63 rfl (by decide) (by decide) acI rfl (by decide) ?_
  refine x_pr dX11_init_65 pX11_init_33 (by first | assumption | (simp (discharger := omega) only [u1_s, u1_n, u2_s, u2_n]; first | assumption | rfl)) (fun _ _ _ => rfl) rfl rfl ?_
  refine (show X _ _ 68 _ _ _ _ _ _ from ?_)
  refine x_aload_n dX11_init_68 rfl ?_
  refine y_bipush dX11_init_69 rfl ?_
  refine y_newa (t := 1) (N := (12)) dX11_init_71 rfl (by decide) (by decide) acI rfl (by decide) ?_
  refine x_pr dX11_init_73 pX11_init_36 (by first | assumption | (simp (discharger := omega) only [u1_s, u1_n, u2_s, u2_n]; first | assumption | rfl)) (fun _ _ _ => rfl) rfl rfl ?_
  refine (show X _ _ 76 _ _ _ _ _ _ from ?_)
  refine x_aload_n dX11_init_76 rfl ?_
  refine y_bipush dX11_init_77 rfl ?_
  refine y_newa (t := 1) (N := (12)) dX11_init_79 rfl (by decide) (by decide) acI rfl (by decide) ?_
  refine x_pr dX11_init_81 pX11_init_39 (by first | assumption | (simp (discharger := omega) only [u1_s, u1_n, u2_s, u2_n]; first | assumption | rfl)) (fun _ _ _ => rfl) rfl rfl ?_
  refine (show X _ _ 84 _ _ _ _ _ _ from ?_)
  refine x_aload_n dX11_init_84 rfl ?_
  refine y_bipush dX11_init_85 rfl ?_
  refine y_newa (t := 1) (N := (12)) dX11_init_87 rfl (by decide) (by decide) acI rfl (by decide) ?_
  refine x_pr dX11_init_89 pX11_init_42 (by first | assumption | (simp (discharger := omega) only [u1_s, u1_n, u2_s, u2_n]; first | assumption | rfl)) (fun _ _ _ => rfl) rfl rfl ?_
  refine (show X _ _ 92 _ _ _ _ _ _ from ?_)
  refine x_aload_n dX11_init_92 rfl ?_
  refine y_bipush dX11_init_93 rfl ?_
  refine y_newa (t := 1) (N := (8)) dX11_init_95 rfl (by decide) (by decide) acI rfl (by decide) ?_
  refine x_pr dX11_init_97 pX11_init_45 (by first | assumption | (simp (discharger := omega) only [u1_s, u1_n, u2_s, u2_n]; first | assumption | rfl)) (fun _ _ _ => rfl) rfl rfl ?_
  refine (show X _ _ 100 _ _ _ _ _ _ from ?_)
  refine x_aload_n dX11_init_100 rfl ?_
  refine y_bipush dX11_init_101 rfl ?_
  refine y_newa (t := 1) (N := (8)) dX11_init_103 rfl (by decide) (by decide) acI rfl (by decide) ?_
  refine x_pr dX11_init_105 pX11_init_48 (by first | assumption | (simp (discharger := omega) only [u1_s, u1_n, u2_s, u2_n]; first | assumption | rfl)) (fun _ _ _ => rfl) rfl rfl ?_
  refine (show X _ _ 108 _ _ _ _ _ _ from ?_)
  refine x_aload_n dX11_init_108 rfl ?_
  refine y_bipush dX11_init_109 rfl ?_
  refine y_newa (t := 1) (N := (8)) dX11_init_111 rfl (by decide) (by decide) acI rfl (by decide) ?_
  refine x_pr dX11_init_113 pX11_init_51 (by first | assumption | (simp (discharger := omega) only [u1_s, u1_n, u2_s, u2_n]; first | assumption | rfl)) (fun _ _ _ => rfl) rfl rfl ?_
  refine (show X _ _ 116 _ _ _ _ _ _ from ?_)
  refine x_aload_n dX11_init_116 rfl ?_
  refine y_bipush dX11_init_117 rfl ?_
  refine y_newa (t := 1) (N := (8)) dX11_init_119 rfl (by decide) (by decide) acI rfl (by decide) ?_
  refine x_pr dX11_init_121 pX11_init_54 (by first | assumption | (simp (discharger := omega) only [u1_s, u1_n, u2_s, u2_n]; first | assumption | rfl)) (fun _ _ _ => rfl) rfl rfl ?_
  refine (show X _ _ 124 _ _ _ _ _ _ from ?_)
  refine x_aload_n dX11_init_124 rfl ?_
  refine y_bipush dX11_init_125 rfl ?_
  refine y_newa (t := 1) (N := (8)) dX11_init_127 rfl (by decide) (by decide) acI rfl (by decide) ?_
  refine x_pr dX11_init_129 pX11_init_57 (by first | assumption | (simp (discharger := omega) only [u1_s, u1_n, u2_s, u2_n]; first | assumption | rfl)) (fun _ _ _ => rfl) rfl rfl ?_
  refine (show X _ _ 132 _ _ _ _ _ _ from ?_)
  refine x_aload_n dX11_init_132 rfl ?_
  refine y_bipush dX11_init_133 rfl ?_
  refine y_newa (t := 1) (N := (80)) dX11_init_135 rfl (by decide) (by decide) acI rfl (by decide) ?_
  refine x_pr dX11_init_137 pX11_init_60 (by first | assumption | (simp (discharger := omega) only [u1_s, u1_n, u2_s, u2_n]; first | assumption | rfl)) (fun _ _ _ => rfl) rfl rfl ?_
  refine (show X _ _ 140 _ _ _ _ _ _ from ?_)
  refine x_aload_n dX11_init_140 rfl ?_
  refine y_bipush dX11_init_141 rfl ?_
  refine y_newa (t := 1) (N := (8)) dX11_init_143 rfl (by decide) (by decide) acI rfl (by decide) ?_
  refine x_pr dX11_init_145 pX11_init_63 (by first | assumption | (simp (discharger := omega) only [u1_s, u1_n, u2_s, u2_n]; first | assumption | rfl)) (fun _ _ _ => rfl) rfl rfl ?_
  refine (show X _ _ 148 _ _ _ _ _ _ from ?_)
  refine x_aload_n dX11_init_148 rfl ?_
  refine y_bipush dX11_init_149 rfl ?_
  refine y_newa (t := 1) (N := (8)) dX11_init_151 rfl (by decide) (by decide) acI rfl (by decide) ?_
  refine x_pr dX11_init_153 pX11_init_66 (by first | assumption | (simp (discharger := omega) only [u1_s, u1_n, u2_s, u2_n]; first | assumption | rfl)) (fun _ _ _ => rfl) rfl rfl ?_
  refine (show X _ _ 156 _ _ _ _ _ _ from ?_)
  refine x_aload_n dX11_init_156 rfl ?_
  refine y_bipush dX11_init_157 rfl ?_
  refine y_newa (t := 3) (N := (8)) dX11_init_159 rfl (by decide) (by decide) acZ rfl (by decide) ?_
  refine x_pr dX11_init_161 pX11_init_69 (by first | assumption | (simp (discharger := omega) only [u1_s, u1_n, u2_s, u2_n]; first | assumption | rfl)) (fun _ _ _ => rfl) rfl rfl ?_
  refine (show X _ _ 164 _ _ _ _ _ _ from ?_)
  refine x_aload_n dX11_init_164 rfl ?_
  refine y_bipush dX11_init_165 rfl ?_
  refine y_newa (t := 4) (N := (18)) dX11_init_167 rfl (by decide) (by decide) acJ rfl (by decide) ?_
  refine x_pr dX11_init_169 pX11_init_73 (by first | assumption | (simp (discharger := omega) only [u1_s, u1_n, u2_s, u2_n]; first | assumption | rfl)) (fun _ _ _ => rfl) rfl rfl ?_
  refine (show X _ _ 172 _ _ _ _ _ _ from ?_)
  refine x_aload_n dX11_init_172 rfl ?_
  refine y_bipush dX11_init_173 rfl ?_
  refine y_newa (t := 3) (N := (18)) dX11_init_175 rfl (by decide) (by decide) acZ rfl (by decide) ?_
  refine x_pr dX11_init_177 pX11_init_77 (by first | assumption | (simp (discharger := omega) only [u1_s, u1_n, u2_s, u2_n]; first | assumption | rfl)) (fun _ _ _ => rfl) rfl rfl ?_
  refine (show X _ _ 180 _ _ _ _ _ _ from ?_)
  refine x_aload_n dX11_init_180 rfl ?_
  refine y_bipush dX11_init_181 rfl ?_
  refine y_newa (t := 1) (N := (18)) dX11_init_183 rfl (by decide) (by decide) acI rfl (by decide) ?_
  refine x_pr dX11_init_185 pX11_init_80 (by first | assumption | (simp (discharger := omega) only [u1_s, u1_n, u2_s, u2_n]; first | assumption | rfl)) (fun _ _ _ => rfl) rfl rfl ?_
  refine (show X _ _ 188 _ _ _ _ _ _ from ?_)
  refine x_return dX11_init_188 rfl ⟨rfl, _, _, _, _, rfl, fun b hb => ⟨?_, ?_, ?_, ?_⟩, ⟨?_, ⟨?_, ?_, ?_, ?_, ?_, ?_, ?_, ?_, ?_, ?_, ?_, ?_, ?_, ?_, ?_, ?_, ?_, ?_, ?_, ?_, ?_, ?_, ?_⟩, ⟨?_, ?_, ?_, ?_, ?_, ?_, ?_, ?_, ?_, ?_, ?_, ?_, ?_, ?_, ?_, ?_, ?_, ?_, ?_, ?_, ?_, ?_, ?_⟩⟩, fun c => ?_, fun b h1 h2 => ?_⟩
  · simp (discharger := omega) only [u1_s, u1_n, u2_s, u2_n]
  · simp (discharger := omega) only [u1_s, u1_n, u2_s, u2_n]
  · simp (discharger := omega) only [u1_s, u1_n, u2_s, u2_n]
  · simp (discharger := omega) only [u1_s, u1_n, u2_s, u2_n]
  · simp (discharger := omega) only [u1_s, u1_n, u2_s, u2_n]; exact hT
  · simp (discharger := omega) only [u1_s, u1_n, u2_s, u2_n]
  · simp (discharger := omega) only [u1_s, u1_n, u2_s, u2_n]
  · simp (discharger := omega) only [u1_s, u1_n, u2_s, u2_n]
  · simp (discharger := omega) only [u1_s, u1_n, u2_s, u2_n]
  · simp (discharger := omega) only [u1_s, u1_n, u2_s, u2_n]
  · simp (discharger := omega) only [u1_s, u1_n, u2_s, u2_n]
  · simp (discharger := omega) only [u1_s, u1_n, u2_s, u2_n]
  · simp (discharger := omega) only [u1_s, u1_n, u2_s, u2_n]
  · simp (discharger := omega) only [u1_s, u1_n, u2_s, u2_n]
  · simp (discharger := omega) only [u1_s, u1_n, u2_s, u2_n]
  · simp (discharger := omega) only [u1_s, u1_n, u2_s, u2_n]
  · simp (discharger := omega) only [u1_s, u1_n, u2_s, u2_n]
  · simp (discharger := omega) only [u1_s, u1_n, u2_s, u2_n]
  · simp (discharger := omega) only [u1_s, u1_n, u2_s, u2_n]
  · simp (discharger := omega) only [u1_s, u1_n, u2_s, u2_n]
  · simp (discharger := omega) only [u1_s, u1_n, u2_s, u2_n]
  · simp (discharger := omega) only [u1_s, u1_n, u2_s, u2_n]
  · simp (discharger := omega) only [u1_s, u1_n, u2_s, u2_n]
  · simp (discharger := omega) only [u1_s, u1_n, u2_s, u2_n]
  · simp (discharger := omega) only [u1_s, u1_n, u2_s, u2_n]
  · simp (discharger := omega) only [u1_s, u1_n, u2_s, u2_n]
  · simp (discharger := omega) only [u1_s, u1_n, u2_s, u2_n]
  · simp (discharger := omega) only [u1_s, u1_n, u2_s, u2_n]
  · simp (discharger := omega) only [u1_s, u1_n, u2_s, u2_n]
  · simp (discharger := omega) only [u1_s, u1_n, u2_s, u2_n]
  · simp (discharger := omega) only [u1_s, u1_n, u2_s, u2_n]
  · simp (discharger := omega) only [u1_s, u1_n, u2_s, u2_n]
  · simp (discharger := omega) only [u1_s, u1_n, u2_s, u2_n]
  · simp (discharger := omega) only [u1_s, u1_n, u2_s, u2_n]
  · simp (discharger := omega) only [u1_s, u1_n, u2_s, u2_n]
  · simp (discharger := omega) only [u1_s, u1_n, u2_s, u2_n]
  · simp (discharger := omega) only [u1_s, u1_n, u2_s, u2_n]
  · simp (discharger := omega) only [u1_s, u1_n, u2_s, u2_n]
  · simp (discharger := omega) only [u1_s, u1_n, u2_s, u2_n]
  · simp (discharger := omega) only [u1_s, u1_n, u2_s, u2_n]
  · simp (discharger := omega) only [u1_s, u1_n, u2_s, u2_n]
  · simp (discharger := omega) only [u1_s, u1_n, u2_s, u2_n]
  · simp (discharger := omega) only [u1_s, u1_n, u2_s, u2_n]
  · simp (discharger := omega) only [u1_s, u1_n, u2_s, u2_n]
  · simp (discharger := omega) only [u1_s, u1_n, u2_s, u2_n]
  · simp (discharger := omega) only [u1_s, u1_n, u2_s, u2_n]
  · simp (discharger := omega) only [u1_s, u1_n, u2_s, u2_n]
  · simp (discharger := omega) only [u1_s, u1_n, u2_s, u2_n]
  · simp (discharger := omega) only [u1_s, u1_n, u2_s, u2_n]
  · simp (discharger := omega) only [u1_s, u1_n, u2_s, u2_n]
  · simp (discharger := omega) only [u1_s, u1_n, u2_s, u2_n]
  · simp (discharger := omega) only [u1_s, u1_n, u2_s, u2_n]; rw [hV]
  · rcases (by omega : b = r + 1 ∨ b = r + 1 + 1 ∨ b = r + 1 + 1 + 1 ∨ b = r + 1 + 1 + 1 + 1 ∨ b = r + 1 + 1 + 1 + 1 + 1 ∨ b = r + 1 + 1 + 1 + 1 + 1 + 1 ∨ b = r + 1 + 1 + 1 + 1 + 1 + 1 + 1 ∨ b = r + 1 + 1 + 1 + 1 + 1 + 1 + 1 + 1 ∨ b = r + 1 + 1 + 1 + 1 + 1 + 1 + 1 + 1 + 1 ∨ b = r + 1 + 1 + 1 + 1 + 1 + 1 + 1 + 1 + 1 + 1 ∨ b = r + 1 + 1 + 1 + 1 + 1 + 1 + 1 + 1 + 1 + 1 + 1 ∨ b = r + 1 + 1 + 1 + 1 + 1 + 1 + 1 + 1 + 1 + 1 + 1 + 1 ∨ b = r + 1 + 1 + 1 + 1 + 1 + 1 + 1 + 1 + 1 + 1 + 1 + 1 + 1 ∨ b = r + 1 + 1 + 1 + 1 + 1 + 1 + 1 + 1 + 1 + 1 + 1 + 1 + 1 + 1 ∨ b = r + 1 + 1 + 1 + 1 + 1 + 1 + 1 + 1 + 1 + 1 + 1 + 1 + 1 + 1 + 1 ∨ b = r + 1 + 1 + 1 + 1 + 1 + 1 + 1 + 1 + 1 + 1 + 1 + 1 + 1 + 1 + 1 + 1 ∨ b = r + 1 + 1 + 1 + 1 + 1 + 1 + 1 + 1 + 1 + 1 + 1 + 1 + 1 + 1 + 1 + 1 + 1 ∨ b = r + 1 + 1 + 1 + 1 + 1 + 1 + 1 + 1 + 1 + 1 + 1 + 1 + 1 + 1 + 1 + 1 + 1 + 1 ∨ b = r + 1 + 1 + 1 + 1 + 1 + 1 + 1 + 1 + 1 + 1 + 1 + 1 + 1 + 1 + 1 + 1 + 1 + 1 + 1 ∨ b = r + 1 + 1 + 1 + 1 + 1 + 1 + 1 + 1 + 1 + 1 + 1 + 1 + 1 + 1 + 1 + 1 + 1 + 1 + 1 + 1 ∨ b = r + 1 + 1 + 1 + 1 + 1 + 1 + 1 + 1 + 1 + 1 + 1 + 1 + 1 + 1 + 1 + 1 + 1 + 1 + 1 + 1 + 1 ∨ b = r + 1 + 1 + 1 + 1 + 1 + 1 + 1 + 1 + 1 + 1 + 1 + 1 + 1 + 1 + 1 + 1 + 1 + 1 + 1 + 1 + 1 + 1 ∨ b = r + 1 + 1 + 1 + 1 + 1 + 1 + 1 + 1 + 1 + 1 + 1 + 1 + 1 + 1 + 1 + 1 + 1 + 1 + 1 + 1 + 1 + 1 + 1) with rfl | rfl | rfl | rfl | rfl | rfl | rfl | rfl | rfl | rfl | rfl | rfl | rfl | rfl | rfl | rfl | rfl | rfl | rfl | rfl | rfl | rfl | rfl <;> simp (discharger := omega) only [u1_s, u1_n, u2_s, u2_n]
set_option maxRecDepth 8000 in
theorem i_Model (hT : T r = (22, 0)) (hV : V r = fun _ => 0) (hR : R r = fun _ => none) : X g mX12_init 0 [.ref r] [] (T, iV V, R, J, r + 1) 23 (0 + 4 + 4 + 8 + 10 + 10 + 10 + 10 + 10 + 10 + 192 + 240 + 240 + 240 + 24 + 24 + 24 + 24 + 25 + 24 + 135 + 540 + 45 + 1100) (MKQ T V R J r 24 (fun T' V' R' => MSh T' R' r ∧ R' r 3 = none ∧ (∀ c, V' r c = if c = 2 then -1 else 0) ∧ ∀ b, r < b → b < r + 24 → V' b = fun _ => 0)) := by
  refine x_aload_n dX12_init_0 rfl ?_
  refine x_objInit dX12_init_1 lX12_3 objI objC (by decide) (Nat.le_of_ble_eq_true rfl) ?_
  refine x_aload_n dX12_init_4 rfl ?_
  refine y_iconst dX12_init_5 ?_
  refine y_pi dX12_init_6 (pX12_9 _) (by first | assumption | (simp (discharger := omega) only [u1_s, u1_n, u2_s, u2_n]; first | assumption | rfl)) (fun _ _ _ => rfl) rfl rfl ?_
  refine x_aload_n dX12_init_9 rfl ?_
  refine y_sipush dX12_init_10 rfl ?_
  refine y_newa (t := 2) (N := (1100)) dX12_init_13 rfl (by decide) (by decide) acB rfl (by decide) ?_
  refine (show X _ _ 15 _ _ _ _ _ _ from ?_)
  refine x_pr dX12_init_15 pX12_init_13 (by first | assumption | (simp (discharger := omega) only [u1_s, u1_n, u2_s, u2_n]; first | assumption | rfl)) (fun _ _ _ => rfl) rfl rfl ?_
  refine (show X _ _ 18 _ _ _ _ _ _ from ?_)
  refine x_aload_n dX12_init_18 rfl ?_
  refine y_bipush dX12_init_19 rfl ?_
  refine y_newa (t := 1) (N := (45)) dX12_init_21 rfl (by decide) (by decide) acI rfl (by decide) ?_
  refine x_pr dX12_init_23 pX12_init_17 (by first | assumption | (simp (discharger := omega) only [u1_s, u1_n, u2_s, u2_n]; first | assumption | rfl)) (fun _ _ _ => rfl) rfl rfl ?_
  refine (show X _ _ 26 _ _ _ _ _ _ from ?_)
  refine x_aload_n dX12_init_26 rfl ?_
  refine y_sipush dX12_init_27 rfl ?_
  refine y_newa (t := 1) (N := (540)) dX12_init_30 rfl (by decide) (by decide) acI rfl (by decide) ?_
  refine x_pr dX12_init_32 pX12_init_21 (by first | assumption | (simp (discharger := omega) only [u1_s, u1_n, u2_s, u2_n]; first | assumption | rfl)) (fun _ _ _ => rfl) rfl rfl ?_
  refine (show X _ _ 35 _ _ _ _ _ _ from ?_)
  refine x_aload_n dX12_init_35 rfl ?_
  refine y_sipush dX12_init_36 rfl ?_
  refine y_newa (t := 1) (N := (135)) dX12_init_39 rfl (by decide) (by decide) acI rfl (by decide) ?_
  refine x_pr dX12_init_41 pX12_init_24 (by first | assumption | (simp (discharger := omega) only [u1_s, u1_n, u2_s, u2_n]; first | assumption | rfl)) (fun _ _ _ => rfl) rfl rfl ?_
  refine (show X _ _ 44 _ _ _ _ _ _ from ?_)
  refine x_aload_n dX12_init_44 rfl ?_
  refine y_bipush dX12_init_45 rfl ?_
  refine y_newa (t := 1) (N := (24)) dX12_init_47 rfl (by decide) (by decide) acI rfl (by decide) ?_
  refine x_pr dX12_init_49 pX12_init_27 (by first | assumption | (simp (discharger := omega) only [u1_s, u1_n, u2_s, u2_n]; first | assumption | rfl)) (fun _ _ _ => rfl) rfl rfl ?_
  refine (show X _ _ 52 _ _ _ _ _ _ from ?_)
  refine x_aload_n dX12_init_52 rfl ?_
  refine y_bipush dX12_init_53 rfl ?_
  refine y_newa (t := 1) (N := (25)) dX12_init_55 rfl (by decide) (by decide) acI rfl (by decide) ?_
  refine x_pr dX12_init_57 pX12_init_30 (by first | assumption | (simp (discharger := omega) only [u1_s, u1_n, u2_s, u2_n]; first | assumption | rfl)) (fun _ _ _ => rfl) rfl rfl ?_
  refine (show X _ _ 60 _ _ _ _ _ _ from ?_)
  refine x_aload_n dX12_init_60 rfl ?_
  refine y_bipush dX12_init_61 rfl ?_
  refine y_newa (t := 1) (N := (24)) dX12_init_63 rfl (by decide) (by decide) acI rfl (by decide) ?_
  refine x_pr dX12_init_65 pX12_init_33 (by first | assumption | (simp (discharger := omega) only [u1_s, u1_n, u2_s, u2_n]; first | assumption | rfl)) (fun _ _ _ => rfl) rfl rfl ?_
  refine (show X _ _ 68 _ _ _ _ _ _ from ?_)
  refine x_aload_n dX12_init_68 rfl ?_
  refine y_bipush dX12_init_69 rfl ?_
  refine y_newa (t := 1) (N := (24)) dX12_init_71 rfl (by decide) (by decide) acI rfl (by decide) ?_
  refine x_pr dX12_init_73 pX12_init_36 (by first | assumption | (simp (discharger := omega) only [u1_s, u1_n, u2_s, u2_n]; first | assumption | rfl)) (fun _ _ _ => rfl) rfl rfl ?_
  refine (show X _ _ 76 _ _ _ _ _ _ from ?_)
  refine x_aload_n dX12_init_76 rfl ?_
  refine y_bipush dX12_init_77 rfl ?_
  refine y_newa (t := 1) (N := (24)) dX12_init_79 rfl (by decide) (by decide) acI rfl (by decide) ?_
  refine x_pr dX12_init_81 pX12_init_39 (by first | assumption | (simp (discharger := omega) only [u1_s, u1_n, u2_s, u2_n]; first | assumption | rfl)) (fun _ _ _ => rfl) rfl rfl ?_
  refine (show X _ _ 84 _ _ _ _ _ _ from ?_)
  refine x_aload_n dX12_init_84 rfl ?_
  refine y_bipush dX12_init_85 rfl ?_
  refine y_newa (t := 3) (N := (24)) dX12_init_87 rfl (by decide) (by decide) acZ rfl (by decide) ?_
  refine x_pr dX12_init_89 pX12_init_42 (by first | assumption | (simp (discharger := omega) only [u1_s, u1_n, u2_s, u2_n]; first | assumption | rfl)) (fun _ _ _ => rfl) rfl rfl ?_
  refine (show X _ _ 92 _ _ _ _ _ _ from ?_)
  refine x_aload_n dX12_init_92 rfl ?_
  refine y_sipush dX12_init_93 rfl ?_
  refine y_newa (t := 1) (N := (240)) dX12_init_96 rfl (by decide) (by decide) acI rfl (by decide) ?_
  refine x_pr dX12_init_98 pX12_init_46 (by first | assumption | (simp (discharger := omega) only [u1_s, u1_n, u2_s, u2_n]; first | assumption | rfl)) (fun _ _ _ => rfl) rfl rfl ?_
  refine (show X _ _ 101 _ _ _ _ _ _ from ?_)
  refine x_aload_n dX12_init_101 rfl ?_
  refine y_sipush dX12_init_102 rfl ?_
  refine y_newa (t := 1) (N := (240)) dX12_init_105 rfl (by decide) (by decide) acI rfl (by decide) ?_
  refine x_pr dX12_init_107 pX12_init_49 (by first | assumption | (simp (discharger := omega) only [u1_s, u1_n, u2_s, u2_n]; first | assumption | rfl)) (fun _ _ _ => rfl) rfl rfl ?_
  refine (show X _ _ 110 _ _ _ _ _ _ from ?_)
  refine x_aload_n dX12_init_110 rfl ?_
  refine y_sipush dX12_init_111 rfl ?_
  refine y_newa (t := 1) (N := (240)) dX12_init_114 rfl (by decide) (by decide) acI rfl (by decide) ?_
  refine x_pr dX12_init_116 pX12_init_52 (by first | assumption | (simp (discharger := omega) only [u1_s, u1_n, u2_s, u2_n]; first | assumption | rfl)) (fun _ _ _ => rfl) rfl rfl ?_
  refine (show X _ _ 119 _ _ _ _ _ _ from ?_)
  refine x_aload_n dX12_init_119 rfl ?_
  refine y_sipush dX12_init_120 rfl ?_
  refine y_newa (t := 1) (N := (192)) dX12_init_123 rfl (by decide) (by decide) acI rfl (by decide) ?_
  refine x_pr dX12_init_125 pX12_init_55 (by first | assumption | (simp (discharger := omega) only [u1_s, u1_n, u2_s, u2_n]; first | assumption | rfl)) (fun _ _ _ => rfl) rfl rfl ?_
  refine (show X _ _ 128 _ _ _ _ _ _ from ?_)
  refine x_aload_n dX12_init_128 rfl ?_
  refine y_bipush dX12_init_129 rfl ?_
  refine y_newa (t := 1) (N := (10)) dX12_init_131 rfl (by decide) (by decide) acI rfl (by decide) ?_
  refine x_pr dX12_init_133 pX12_init_58 (by first | assumption | (simp (discharger := omega) only [u1_s, u1_n, u2_s, u2_n]; first | assumption | rfl)) (fun _ _ _ => rfl) rfl rfl ?_
  refine (show X _ _ 136 _ _ _ _ _ _ from ?_)
  refine x_aload_n dX12_init_136 rfl ?_
  refine y_bipush dX12_init_137 rfl ?_
  refine y_newa (t := 1) (N := (10)) dX12_init_139 rfl (by decide) (by decide) acI rfl (by decide) ?_
  refine x_pr dX12_init_141 pX12_init_61 (by first | assumption | (simp (discharger := omega) only [u1_s, u1_n, u2_s, u2_n]; first | assumption | rfl)) (fun _ _ _ => rfl) rfl rfl ?_
  refine (show X _ _ 144 _ _ _ _ _ _ from ?_)
  refine x_aload_n dX12_init_144 rfl ?_
  refine y_bipush dX12_init_145 rfl ?_
  refine y_newa (t := 1) (N := (10)) dX12_init_147 rfl (by decide) (by decide) acI rfl (by decide) ?_
  refine x_pr dX12_init_149 pX12_init_64 (by first | assumption | (simp (discharger := omega) only [u1_s, u1_n, u2_s, u2_n]; first | assumption | rfl)) (fun _ _ _ => rfl) rfl rfl ?_
  refine (show X _ _ 152 _ _ _ _ _ _ from ?_)
  refine x_aload_n dX12_init_152 rfl ?_
  refine y_bipush dX12_init_153 rfl ?_
  refine y_newa (t := 1) (N := (10)) dX12_init_155 rfl (by decide) (by decide) acI rfl (by decide) ?_
  refine x_pr dX12_init_157 pX12_init_67 (by first | assumption | (simp (discharger := omega) only [u1_s, u1_n, u2_s, u2_n]; first | assumption | rfl)) (fun _ _ _ => rfl) rfl rfl ?_
  refine (show X _ _ 160 _ _ _ _ _ _ from ?_)
  refine x_aload_n dX12_init_160 rfl ?_
  refine y_bipush dX12_init_161 rfl ?_
  refine y_newa (t := 1) (N := (10)) dX12_init_163 rfl (by decide) (by decide) acI rfl (by decide) ?_
  refine x_pr dX12_init_165 pX12_init_70 (by first | assumption | (simp (discharger := omega) only [u1_s, u1_n, u2_s, u2_n]; first | assumption | rfl)) (fun _ _ _ => rfl) rfl rfl ?_
  refine (show X _ _ 168 _ _ _ _ _ _ from ?_)
  refine x_aload_n dX12_init_168 rfl ?_
  refine y_bipush dX12_init_169 rfl ?_
  refine y_newa (t := 1) (N := (10)) dX12_init_171 rfl (by decide) (by decide) acI rfl (by decide) ?_
  refine x_pr dX12_init_173 pX12_init_73 (by first | assumption | (simp (discharger := omega) only [u1_s, u1_n, u2_s, u2_n]; first | assumption | rfl)) (fun _ _ _ => rfl) rfl rfl ?_
  refine (show X _ _ 176 _ _ _ _ _ _ from ?_)
  refine x_aload_n dX12_init_176 rfl ?_
  refine y_bipush dX12_init_177 rfl ?_
  refine y_newa (t := 1) (N := (8)) dX12_init_179 rfl (by decide) (by decide) acI rfl (by decide) ?_
  refine x_pr dX12_init_181 pX12_init_76 (by first | assumption | (simp (discharger := omega) only [u1_s, u1_n, u2_s, u2_n]; first | assumption | rfl)) (fun _ _ _ => rfl) rfl rfl ?_
  refine (show X _ _ 184 _ _ _ _ _ _ from ?_)
  refine x_aload_n dX12_init_184 rfl ?_
  refine y_iconst dX12_init_185 ?_
  refine y_newa (t := 1) (N := (4)) dX12_init_186 rfl (by decide) (by decide) acI rfl (by decide) ?_
  refine x_pr dX12_init_188 pX12_init_79 (by first | assumption | (simp (discharger := omega) only [u1_s, u1_n, u2_s, u2_n]; first | assumption | rfl)) (fun _ _ _ => rfl) rfl rfl ?_
  refine (show X _ _ 191 _ _ _ _ _ _ from ?_)
  refine x_aload_n dX12_init_191 rfl ?_
  refine y_iconst dX12_init_192 ?_
  refine y_newa (t := 1) (N := (4)) dX12_init_193 rfl (by decide) (by decide) acI rfl (by decide) ?_
  refine x_pr dX12_init_195 pX12_init_82 (by first | assumption | (simp (discharger := omega) only [u1_s, u1_n, u2_s, u2_n]; first | assumption | rfl)) (fun _ _ _ => rfl) rfl rfl ?_
  refine (show X _ _ 198 _ _ _ _ _ _ from ?_)
  refine x_return dX12_init_198 rfl ⟨rfl, _, _, _, _, rfl, fun b hb => ⟨?_, ?_, ?_, ?_⟩, ⟨?_, ⟨?_, ?_, ?_, ?_, ?_, ?_, ?_, ?_, ?_, ?_, ?_, ?_, ?_, ?_, ?_, ?_, ?_, ?_, ?_, ?_, ?_, ?_, ?_⟩, ⟨?_, ?_, ?_, ?_, ?_, ?_, ?_, ?_, ?_, ?_, ?_, ?_, ?_, ?_, ?_, ?_, ?_, ?_, ?_, ?_, ?_, ?_, ?_⟩⟩, ?_, fun c => ?_, fun b h1 h2 => ?_⟩
  · simp (discharger := omega) only [u1_s, u1_n, u2_s, u2_n]
  · simp (discharger := omega) only [u1_s, u1_n, u2_s, u2_n]
  · simp (discharger := omega) only [u1_s, u1_n, u2_s, u2_n]
  · simp (discharger := omega) only [u1_s, u1_n, u2_s, u2_n]
  · simp (discharger := omega) only [u1_s, u1_n, u2_s, u2_n]; exact hT
  · simp (discharger := omega) only [u1_s, u1_n, u2_s, u2_n]
  · simp (discharger := omega) only [u1_s, u1_n, u2_s, u2_n]
  · simp (discharger := omega) only [u1_s, u1_n, u2_s, u2_n]
  · simp (discharger := omega) only [u1_s, u1_n, u2_s, u2_n]
  · simp (discharger := omega) only [u1_s, u1_n, u2_s, u2_n]
  · simp (discharger := omega) only [u1_s, u1_n, u2_s, u2_n]
  · simp (discharger := omega) only [u1_s, u1_n, u2_s, u2_n]
  · simp (discharger := omega) only [u1_s, u1_n, u2_s, u2_n]
  · simp (discharger := omega) only [u1_s, u1_n, u2_s, u2_n]
  · simp (discharger := omega) only [u1_s, u1_n, u2_s, u2_n]
  · simp (discharger := omega) only [u1_s, u1_n, u2_s, u2_n]
  · simp (discharger := omega) only [u1_s, u1_n, u2_s, u2_n]
  · simp (discharger := omega) only [u1_s, u1_n, u2_s, u2_n]
  · simp (discharger := omega) only [u1_s, u1_n, u2_s, u2_n]
  · simp (discharger := omega) only [u1_s, u1_n, u2_s, u2_n]
  · simp (discharger := omega) only [u1_s, u1_n, u2_s, u2_n]
  · simp (discharger := omega) only [u1_s, u1_n, u2_s, u2_n]
  · simp (discharger := omega) only [u1_s, u1_n, u2_s, u2_n]
  · simp (discharger := omega) only [u1_s, u1_n, u2_s, u2_n]
  · simp (discharger := omega) only [u1_s, u1_n, u2_s, u2_n]
  · simp (discharger := omega) only [u1_s, u1_n, u2_s, u2_n]
  · simp (discharger := omega) only [u1_s, u1_n, u2_s, u2_n]
  · simp (discharger := omega) only [u1_s, u1_n, u2_s, u2_n]
  · simp (discharger := omega) only [u1_s, u1_n, u2_s, u2_n]
  · simp (discharger := omega) only [u1_s, u1_n, u2_s, u2_n]
  · simp (discharger := omega) only [u1_s, u1_n, u2_s, u2_n]
  · simp (discharger := omega) only [u1_s, u1_n, u2_s, u2_n]
  · simp (discharger := omega) only [u1_s, u1_n, u2_s, u2_n]
  · simp (discharger := omega) only [u1_s, u1_n, u2_s, u2_n]
  · simp (discharger := omega) only [u1_s, u1_n, u2_s, u2_n]
  · simp (discharger := omega) only [u1_s, u1_n, u2_s, u2_n]
  · simp (discharger := omega) only [u1_s, u1_n, u2_s, u2_n]
  · simp (discharger := omega) only [u1_s, u1_n, u2_s, u2_n]
  · simp (discharger := omega) only [u1_s, u1_n, u2_s, u2_n]
  · simp (discharger := omega) only [u1_s, u1_n, u2_s, u2_n]
  · simp (discharger := omega) only [u1_s, u1_n, u2_s, u2_n]
  · simp (discharger := omega) only [u1_s, u1_n, u2_s, u2_n]
  · simp (discharger := omega) only [u1_s, u1_n, u2_s, u2_n]
  · simp (discharger := omega) only [u1_s, u1_n, u2_s, u2_n]
  · simp (discharger := omega) only [u1_s, u1_n, u2_s, u2_n]
  · simp (discharger := omega) only [u1_s, u1_n, u2_s, u2_n]
  · simp (discharger := omega) only [u1_s, u1_n, u2_s, u2_n]
  · simp (discharger := omega) only [u1_s, u1_n, u2_s, u2_n]
  · simp (discharger := omega) only [u1_s, u1_n, u2_s, u2_n]
  · simp (discharger := omega) only [u1_s, u1_n, u2_s, u2_n]
  · simp (discharger := omega) only [u1_s, u1_n, u2_s, u2_n]
  · simp (discharger := omega) only [u1_s, u1_n, u2_s, u2_n]; rw [hR]
  · by_cases hc : c = 2
    · subst hc; simp (discharger := omega) only [u1_s, u1_n, u2_s, u2_n]; rfl
    · simp (discharger := omega) only [u1_s, u1_n, u2_s, u2_n]; rw [hV, if_neg hc]
  · rcases (by omega : b = r + 1 ∨ b = r + 1 + 1 ∨ b = r + 1 + 1 + 1 ∨ b = r + 1 + 1 + 1 + 1 ∨ b = r + 1 + 1 + 1 + 1 + 1 ∨ b = r + 1 + 1 + 1 + 1 + 1 + 1 ∨ b = r + 1 + 1 + 1 + 1 + 1 + 1 + 1 ∨ b = r + 1 + 1 + 1 + 1 + 1 + 1 + 1 + 1 ∨ b = r + 1 + 1 + 1 + 1 + 1 + 1 + 1 + 1 + 1 ∨ b = r + 1 + 1 + 1 + 1 + 1 + 1 + 1 + 1 + 1 + 1 ∨ b = r + 1 + 1 + 1 + 1 + 1 + 1 + 1 + 1 + 1 + 1 + 1 ∨ b = r + 1 + 1 + 1 + 1 + 1 + 1 + 1 + 1 + 1 + 1 + 1 + 1 ∨ b = r + 1 + 1 + 1 + 1 + 1 + 1 + 1 + 1 + 1 + 1 + 1 + 1 + 1 ∨ b = r + 1 + 1 + 1 + 1 + 1 + 1 + 1 + 1 + 1 + 1 + 1 + 1 + 1 + 1 ∨ b = r + 1 + 1 + 1 + 1 + 1 + 1 + 1 + 1 + 1 + 1 + 1 + 1 + 1 + 1 + 1 ∨ b = r + 1 + 1 + 1 + 1 + 1 + 1 + 1 + 1 + 1 + 1 + 1 + 1 + 1 + 1 + 1 + 1 ∨ b = r + 1 + 1 + 1 + 1 + 1 + 1 + 1 + 1 + 1 + 1 + 1 + 1 + 1 + 1 + 1 + 1 + 1 ∨ b = r + 1 + 1 + 1 + 1 + 1 + 1 + 1 + 1 + 1 + 1 + 1 + 1 + 1 + 1 + 1 + 1 + 1 + 1 ∨ b = r + 1 + 1 + 1 + 1 + 1 + 1 + 1 + 1 + 1 + 1 + 1 + 1 + 1 + 1 + 1 + 1 + 1 + 1 + 1 ∨ b = r + 1 + 1 + 1 + 1 + 1 + 1 + 1 + 1 + 1 + 1 + 1 + 1 + 1 + 1 + 1 + 1 + 1 + 1 + 1 + 1 ∨ b = r + 1 + 1 + 1 + 1 + 1 + 1 + 1 + 1 + 1 + 1 + 1 + 1 + 1 + 1 + 1 + 1 + 1 + 1 + 1 + 1 + 1 ∨ b = r + 1 + 1 + 1 + 1 + 1 + 1 + 1 + 1 + 1 + 1 + 1 + 1 + 1 + 1 + 1 + 1 + 1 + 1 + 1 + 1 + 1 + 1 ∨ b = r + 1 + 1 + 1 + 1 + 1 + 1 + 1 + 1 + 1 + 1 + 1 + 1 + 1 + 1 + 1 + 1 + 1 + 1 + 1 + 1 + 1 + 1 + 1) with rfl | rfl | rfl | rfl | rfl | rfl | rfl | rfl | rfl | rfl | rfl | rfl | rfl | rfl | rfl | rfl | rfl | rfl | rfl | rfl | rfl | rfl | rfl <;> simp (discharger := omega) only [u1_s, u1_n, u2_s, u2_n]
theorem DI_0 {T' : Nat → Nat × Nat} {V' : Nat → Nat → Int} {R' : Nat → Nat → Option Nat} {f : Nat} {A B : Nat → Nat → Int} {H K : Nat → Nat → Nat → Int} (h1 : MSh T' R' r) (h2 : R' r 3 = none) (h3 : ∀ c, V' r c = if c = 2 then -1 else 0) (h4 : ∀ b, r < b → b < r + 24 → V' b = fun _ => 0) : ∃ E, V' = pB V' r 24 E ∧ DI T' R' V' r f E (fun _ => 0) 0 false A B 0 0 H K 0 (-1) 0 := by
  refine ⟨fun j => V' (r + j), pB_of (fun _ _ => rfl), h1, ⟨?_, ?_, ?_⟩, ⟨?_, ?_, by omega⟩, ⟨⟨?_, by omega⟩, ?_, by omega⟩, ?_, fun _ => ⟨h2, rfl, rfl⟩, fun hh => ?_⟩
  · show V' r 1 = _; rw [h3]; rfl
  · show V' r 2 = _; rw [h3]; rfl
  · show V' r 12 = _; rw [h3]; rfl
  · exact h4 (r + 1) (by omega) (by omega)
  · show V' r 6 = _; rw [h3]; rfl
  · show V' r 18 = _; rw [h3]; rfl
  · show V' r 19 = _; rw [h3]; rfl
  · have : V' (r + 0) 43 = 0 := by show V' r 43 = _; rw [h3]; rfl
    show -2 ≤ V' (r + 0) 43 ∧ V' (r + 0) 43 ≤ 9
    omega
  · cases hh
end C9k
