/-! ===== the law: calls, 3 ===== -/
section LWah
variable {g : GG} {T : Nat → Nat × Nat} {R : Nat → Nat → Option Nat} {V A B : Nat → Nat → Int} {J : Nat → Nat → Int64} {z k n : Nat} {o fw fr r f b ou N i : Nat} {σ : Nat → Nat} {xs t : Nat → Int} {tp : Nat} {h : Bool} {a m : Nat} {H K : Nat → Nat → Nat → Int} {wr pl tr : Int} {Q : Option Value → Mem → Prop}
theorem l_byLaw (hJ : LJ T R V z b o r ou N xs fw fr σ f t tp h A B a m H K wr pl tr) (hx : ∀ j, R32 (xs j)) (hi : i + 6 ≤ N) (hN : N ≤ 3072) (hnx : ∀ M, LN b o r ou N xs M → X g mL_law 1710 [.ref b, .ref o, .ref r, .ref ou, .int (iI (i : Int)), jk, jk] [] M k n Q) : X g mL_law 1015 [.ref b, .ref o, .ref r, .ref ou, .int (iI (i : Int)), jk, jk] [] (T, iV V, R, J, z) k n Q := by
  have hT10 := hJ.1.1.1.1
  refine x_aload_n dL_law_1015 rfl ?_
  refine y_arg 1 dL_law_1016 dL_law_1017 dL_law_1019 dL_law_1020 dL_law_1021 rfl rfl hJ.2.2.2.2.2.1 rfl (by omega) (by omega) ?_
  rw [hJ.2.2.2.2.2.2.1]
  refine y_arg 2 dL_law_1022 dL_law_1023 dL_law_1025 dL_law_1026 dL_law_1027 rfl rfl hJ.2.2.2.2.2.1 rfl (by omega) (by omega) ?_
  rw [hJ.2.2.2.2.2.2.1]
  refine x_callV (As := [_, _]) (mc := 0) (ms := 0) (z := mX10_byLaw) (ci := 10) dL_law_1028 lL_130 oX10_byLaw (by decide) hT10 rfl rfl (Nat.le_of_ble_eq_true rfl) (Nat.le_of_ble_eq_true rfl) rfl (f_byLaw (g := g) (J := J) (z := z) (k := 0) (n := 0) hJ.1 (hx (i + 1)) (hx (i + 2))) (fun v M1 hq => ?_)
  obtain ⟨rfl, V1, R1, fw1, fr1, σ1, rfl, hI1, hD1, hB1⟩ := LJ_c hJ hq
  refine (show X _ _ 1031 _ [.int _] _ _ _ _ from ?_)
  have hT12 := hD1.1.1
  refine x_aload_n dL_law_1031 rfl ?_
  refine y_arg 1 dL_law_1032 dL_law_1033 dL_law_1035 dL_law_1036 dL_law_1037 rfl rfl hB1.2.2.1 rfl (by omega) (by omega) ?_
  rw [hB1.2.2.2.1]
  refine y_arg 2 dL_law_1038 dL_law_1039 dL_law_1041 dL_law_1042 dL_law_1043 rfl rfl hB1.2.2.1 rfl (by omega) (by omega) ?_
  rw [hB1.2.2.2.1]
  have hk := k_byLaw (g := g) (J := J) (z := z) (k := 0) (n := 0) (V := V1) hD1 (hx (i + 1)) (hx (i + 2))
  rw [pB_self (fun _ _ => rfl)] at hk
  refine x_callV (As := [_, _]) (mc := 0) (ms := 0) (z := mX12_byLaw) (ci := 12) dL_law_1044 lL_133 oX12_byLaw (by decide) hT12 rfl rfl (Nat.le_of_ble_eq_true rfl) (Nat.le_of_ble_eq_true rfl) rfl (hk) (fun v M1 hq => ?_)
  obtain ⟨rfl, V2, rfl, hJ2⟩ := LJ_d hI1 hB1 (id) (by first | exact hJ.2.2.1 | exact yTr_r | exact pyTr_r | exact rTr_r | exact sTr_r | decide | (repeat' split) <;> decide) hq
  refine (show X _ _ 1047 _ [.int _, .int _] _ _ _ _ from ?_)
  refine x_icmp_eq 1710 dL_law_1047 (by decide) (fun _ => ?_) (fun q => absurd (rfl) q)
  exact hnx _ (LN_of hJ2)
theorem l_bestLaw (hJ : LJ T R V z b o r ou N xs fw fr σ f t tp h A B a m H K wr pl tr) (hx : ∀ j, R32 (xs j)) (hi : i + 6 ≤ N) (hN : N ≤ 3072) (hnx : ∀ M, LN b o r ou N xs M → X g mL_law 1710 [.ref b, .ref o, .ref r, .ref ou, .int (iI (i : Int)), jk, jk] [] M k n Q) : X g mL_law 1052 [.ref b, .ref o, .ref r, .ref ou, .int (iI (i : Int)), jk, jk] [] (T, iV V, R, J, z) k n Q := by
  have hT10 := hJ.1.1.1.1
  refine x_aload_n dL_law_1052 rfl ?_
  refine y_arg 1 dL_law_1053 dL_law_1054 dL_law_1056 dL_law_1057 dL_law_1058 rfl rfl hJ.2.2.2.2.2.1 rfl (by omega) (by omega) ?_
  rw [hJ.2.2.2.2.2.2.1]
  refine x_callV (As := [_]) (mc := 0) (ms := 0) (z := mX10_bestLaw) (ci := 10) dL_law_1059 lL_134 oX10_bestLaw (by decide) hT10 rfl rfl (Nat.le_of_ble_eq_true rfl) (Nat.le_of_ble_eq_true rfl) rfl (f_bestLaw (g := g) (J := J) (z := z) (k := 0) (n := 0) hJ.1 (hx (i + 1))) (fun v M1 hq => ?_)
  obtain ⟨rfl, V1, R1, fw1, fr1, σ1, rfl, hI1, hD1, hB1⟩ := LJ_c hJ hq
  refine (show X _ _ 1062 _ [.int _] _ _ _ _ from ?_)
  have hT12 := hD1.1.1
  refine x_aload_n dL_law_1062 rfl ?_
  refine y_arg 1 dL_law_1063 dL_law_1064 dL_law_1066 dL_law_1067 dL_law_1068 rfl rfl hB1.2.2.1 rfl (by omega) (by omega) ?_
  rw [hB1.2.2.2.1]
  have hk := k_bestLaw (g := g) (J := J) (z := z) (k := 0) (n := 0) (V := V1) hD1 (hx (i + 1))
  rw [pB_self (fun _ _ => rfl)] at hk
  refine x_callV (As := [_]) (mc := 0) (ms := 0) (z := mX12_bestLaw) (ci := 12) dL_law_1069 lL_137 oX12_bestLaw (by decide) hT12 rfl rfl (Nat.le_of_ble_eq_true rfl) (Nat.le_of_ble_eq_true rfl) rfl (hk) (fun v M1 hq => ?_)
  obtain ⟨rfl, V2, rfl, hJ2⟩ := LJ_d hI1 hB1 (id) (by first | exact hJ.2.2.1 | exact yTr_r | exact pyTr_r | exact rTr_r | exact sTr_r | decide | (repeat' split) <;> decide) hq
  refine (show X _ _ 1072 _ [.int _, .int _] _ _ _ _ from ?_)
  refine x_icmp_eq 1710 dL_law_1072 (by decide) (fun _ => ?_) (fun q => absurd (rfl) q)
  exact hnx _ (LN_of hJ2)
theorem l_row (hJ : LJ T R V z b o r ou N xs fw fr σ f t tp h A B a m H K wr pl tr) (hx : ∀ j, R32 (xs j)) (hi : i + 6 ≤ N) (hN : N ≤ 3072) (hnx : ∀ M, LN b o r ou N xs M → X g mL_law 1710 [.ref b, .ref o, .ref r, .ref ou, .int (iI (i : Int)), jk, jk] [] M k n Q) : X g mL_law 1077 [.ref b, .ref o, .ref r, .ref ou, .int (iI (i : Int)), jk, jk] [] (T, iV V, R, J, z) k n Q := by
  have hT10 := hJ.1.1.1.1
  obtain ⟨hA, hB, hR0⟩ := LJ_ok hJ
  by_cases hc : rTr h (xs (i + 1)) = 0
  · obtain ⟨hh, q1, q2⟩ := rTr_0 hc
    have hps := (LJ_pos hJ hh).1
    have eP := fP10 hA
    have eY := fY24 hA
    obtain ⟨E, hE, hf⟩ := f_row (g := g) (J := J) (z := z) (k := 0) (n := 0) hJ.1 (hx (i + 1)) hc
    have ev := (row_eq (E := E) (m := (xs (i + 1)).toNat) hA hB (by omega) (by omega) (by omega) hE).1
    refine x_aload_n dL_law_1077 rfl ?_
    refine y_arg 1 dL_law_1078 dL_law_1079 dL_law_1081 dL_law_1082 dL_law_1083 rfl rfl hJ.2.2.2.2.2.1 rfl (by omega) (by omega) ?_
    rw [hJ.2.2.2.2.2.2.1]
    refine x_callV (As := [_]) (mc := 0) (ms := 0) (z := mX10_row) (ci := 10) dL_law_1084 lL_138 oX10_row (by decide) hT10 rfl rfl (Nat.le_of_ble_eq_true rfl) (Nat.le_of_ble_eq_true rfl) rfl (hf) (fun v M1 hq => ?_)
    obtain ⟨rfl, V1, R1, fw1, fr1, σ1, rfl, hI1, hD1, hB1⟩ := LJ_c hJ hq
    refine (show X _ _ 1087 _ [.int _] _ _ _ _ from ?_)
    have hT12 := hD1.1.1
    refine x_aload_n dL_law_1087 rfl ?_
    refine y_arg 1 dL_law_1088 dL_law_1089 dL_law_1091 dL_law_1092 dL_law_1093 rfl rfl hB1.2.2.1 rfl (by omega) (by omega) ?_
    rw [hB1.2.2.2.1]
    have hk := k_row (g := g) (J := J) (z := z) (k := 0) (n := 0) (V := V1) hD1 (hx (i + 1))
    rw [pB_self (fun _ _ => rfl)] at hk
    rw [if_pos hc, hc] at hk
    refine x_callV (As := [_]) (mc := 0) (ms := 0) (z := mX12_row) (ci := 12) dL_law_1094 lL_141 oX12_row (by decide) hT12 rfl rfl (Nat.le_of_ble_eq_true rfl) (Nat.le_of_ble_eq_true rfl) rfl (hk) (fun v M1 hq => ?_)
    obtain ⟨rfl, V2, rfl, hJ2⟩ := LJ_d hI1 hB1 (id) (by decide) hq
    refine (show X _ _ 1097 _ [.int _, .int _] _ _ _ _ from ?_)
    refine x_icmp_eq 1710 dL_law_1097 (by decide) (fun _ => ?_) (fun q => absurd (congrArg iI ev) q)
    exact hnx _ (LN_of hJ2)
  · have hf := f_row0 (g := g) (J := J) (z := z) (k := 0) (n := 0) hJ.1 (hx (i + 1)) hc
    refine x_aload_n dL_law_1077 rfl ?_
    refine y_arg 1 dL_law_1078 dL_law_1079 dL_law_1081 dL_law_1082 dL_law_1083 rfl rfl hJ.2.2.2.2.2.1 rfl (by omega) (by omega) ?_
    rw [hJ.2.2.2.2.2.2.1]
    refine x_callV (As := [_]) (mc := 0) (ms := 0) (z := mX10_row) (ci := 10) dL_law_1084 lL_138 oX10_row (by decide) hT10 rfl rfl (Nat.le_of_ble_eq_true rfl) (Nat.le_of_ble_eq_true rfl) rfl (hf) (fun v M1 hq => ?_)
    obtain ⟨rfl, V1, R1, fw1, fr1, σ1, rfl, hI1, hD1, hB1⟩ := LJ_c hJ hq
    refine (show X _ _ 1087 _ [.int _] _ _ _ _ from ?_)
    have hT12 := hD1.1.1
    refine x_aload_n dL_law_1087 rfl ?_
    refine y_arg 1 dL_law_1088 dL_law_1089 dL_law_1091 dL_law_1092 dL_law_1093 rfl rfl hB1.2.2.1 rfl (by omega) (by omega) ?_
    rw [hB1.2.2.2.1]
    have hk := k_row (g := g) (J := J) (z := z) (k := 0) (n := 0) (V := V1) hD1 (hx (i + 1))
    rw [pB_self (fun _ _ => rfl)] at hk
    refine x_callV (As := [_]) (mc := 0) (ms := 0) (z := mX12_row) (ci := 12) dL_law_1094 lL_141 oX12_row (by decide) hT12 rfl rfl (Nat.le_of_ble_eq_true rfl) (Nat.le_of_ble_eq_true rfl) rfl (hk) (fun v M1 hq => ?_)
    obtain ⟨rfl, V2, rfl, hJ2⟩ := LJ_d hI1 hB1 (id) (by first | exact hJ.2.2.1 | exact yTr_r | exact pyTr_r | exact rTr_r | exact sTr_r | decide | (repeat' split) <;> decide) hq
    refine (show X _ _ 1097 _ [.int _, .int _] _ _ _ _ from ?_)
    refine x_icmp_eq 1710 dL_law_1097 (by decide) (fun _ => ?_) (fun q => absurd (by rw [if_neg hc]) q)
    exact hnx _ (LN_of hJ2)
theorem l_rowAt (hJ : LJ T R V z b o r ou N xs fw fr σ f t tp h A B a m H K wr pl tr) (hx : ∀ j, R32 (xs j)) (hi : i + 6 ≤ N) (hN : N ≤ 3072) (hnx : ∀ M, LN b o r ou N xs M → X g mL_law 1710 [.ref b, .ref o, .ref r, .ref ou, .int (iI (i : Int)), jk, jk] [] M k n Q) : X g mL_law 1102 [.ref b, .ref o, .ref r, .ref ou, .int (iI (i : Int)), jk, jk] [] (T, iV V, R, J, z) k n Q := by
  have hT10 := hJ.1.1.1.1
  obtain ⟨hA, hB, hR0⟩ := LJ_ok hJ
  by_cases hc : rTr h (xs (i + 1)) = 0 ∧ 0 ≤ (xs (i + 2)) ∧ (xs (i + 2)) < (xs (i + 1))
  · obtain ⟨hh, q1, q2⟩ := rTr_0 hc.1
    have hps := (LJ_pos hJ hh).1
    have eP := fP10 hA
    have eY := fY24 hA
    obtain ⟨E, hE, hf⟩ := f_rowAt (g := g) (J := J) (z := z) (k := 0) (n := 0) hJ.1 (hx (i + 1)) hc.1 hc.2
    have ev := (row_eq (E := E) (m := (xs (i + 1)).toNat) hA hB (by omega) (by omega) (by omega) hE).2 (xs (i + 2)).toNat (by omega)
    refine x_aload_n dL_law_1102 rfl ?_
    refine y_arg 1 dL_law_1103 dL_law_1104 dL_law_1106 dL_law_1107 dL_law_1108 rfl rfl hJ.2.2.2.2.2.1 rfl (by omega) (by omega) ?_
    rw [hJ.2.2.2.2.2.2.1]
    refine y_arg 2 dL_law_1109 dL_law_1110 dL_law_1112 dL_law_1113 dL_law_1114 rfl rfl hJ.2.2.2.2.2.1 rfl (by omega) (by omega) ?_
    rw [hJ.2.2.2.2.2.2.1]
    refine x_callV (As := [_, _]) (mc := 0) (ms := 0) (z := mX10_rowAt) (ci := 10) dL_law_1115 lL_142 oX10_rowAt (by decide) hT10 rfl rfl (Nat.le_of_ble_eq_true rfl) (Nat.le_of_ble_eq_true rfl) rfl (hf) (fun v M1 hq => ?_)
    obtain ⟨rfl, V1, R1, fw1, fr1, σ1, rfl, hI1, hD1, hB1⟩ := LJ_c hJ hq
    refine (show X _ _ 1118 _ [.int _] _ _ _ _ from ?_)
    have hT12 := hD1.1.1
    refine x_aload_n dL_law_1118 rfl ?_
    refine y_arg 1 dL_law_1119 dL_law_1120 dL_law_1122 dL_law_1123 dL_law_1124 rfl rfl hB1.2.2.1 rfl (by omega) (by omega) ?_
    rw [hB1.2.2.2.1]
    refine y_arg 2 dL_law_1125 dL_law_1126 dL_law_1128 dL_law_1129 dL_law_1130 rfl rfl hB1.2.2.1 rfl (by omega) (by omega) ?_
    rw [hB1.2.2.2.1]
    have hk := k_rowAt (g := g) (J := J) (z := z) (k := 0) (n := 0) (V := V1) hD1 (hx (i + 1)) hc.1 hc.2
    rw [pB_self (fun _ _ => rfl)] at hk
    refine x_callV (As := [_, _]) (mc := 0) (ms := 0) (z := mX12_rowAt) (ci := 12) dL_law_1131 lL_145 oX12_rowAt (by decide) hT12 rfl rfl (Nat.le_of_ble_eq_true rfl) (Nat.le_of_ble_eq_true rfl) rfl (hk) (fun v M1 hq => ?_)
    obtain ⟨rfl, V2, rfl, hJ2⟩ := LJ_d hI1 hB1 (id) (by decide) hq
    refine (show X _ _ 1134 _ [.int _, .int _] _ _ _ _ from ?_)
    refine x_icmp_eq 1710 dL_law_1134 (by decide) (fun _ => ?_) (fun q => absurd (congrArg iI ev) q)
    exact hnx _ (LN_of hJ2)
  · skip
    refine x_aload_n dL_law_1102 rfl ?_
    refine y_arg 1 dL_law_1103 dL_law_1104 dL_law_1106 dL_law_1107 dL_law_1108 rfl rfl hJ.2.2.2.2.2.1 rfl (by omega) (by omega) ?_
    rw [hJ.2.2.2.2.2.2.1]
    refine y_arg 2 dL_law_1109 dL_law_1110 dL_law_1112 dL_law_1113 dL_law_1114 rfl rfl hJ.2.2.2.2.2.1 rfl (by omega) (by omega) ?_
    rw [hJ.2.2.2.2.2.2.1]
    refine x_callV (As := [_, _]) (mc := 0) (ms := 0) (z := mX10_rowAt) (ci := 10) dL_law_1115 lL_142 oX10_rowAt (by decide) hT10 rfl rfl (Nat.le_of_ble_eq_true rfl) (Nat.le_of_ble_eq_true rfl) rfl (f_rowAt0 (g := g) (J := J) (z := z) (k := 0) (n := 0) hJ.1 (hx (i + 1)) (hx (i + 2)) hc) (fun v M1 hq => ?_)
    obtain ⟨rfl, V1, R1, fw1, fr1, σ1, rfl, hI1, hD1, hB1⟩ := LJ_c hJ hq
    refine (show X _ _ 1118 _ [.int _] _ _ _ _ from ?_)
    have hT12 := hD1.1.1
    refine x_aload_n dL_law_1118 rfl ?_
    refine y_arg 1 dL_law_1119 dL_law_1120 dL_law_1122 dL_law_1123 dL_law_1124 rfl rfl hB1.2.2.1 rfl (by omega) (by omega) ?_
    rw [hB1.2.2.2.1]
    refine y_arg 2 dL_law_1125 dL_law_1126 dL_law_1128 dL_law_1129 dL_law_1130 rfl rfl hB1.2.2.1 rfl (by omega) (by omega) ?_
    rw [hB1.2.2.2.1]
    have hk := k_rowAt0 (g := g) (J := J) (z := z) (k := 0) (n := 0) (V := V1) hD1 (hx (i + 1)) (hx (i + 2)) hc
    rw [pB_self (fun _ _ => rfl)] at hk
    refine x_callV (As := [_, _]) (mc := 0) (ms := 0) (z := mX12_rowAt) (ci := 12) dL_law_1131 lL_145 oX12_rowAt (by decide) hT12 rfl rfl (Nat.le_of_ble_eq_true rfl) (Nat.le_of_ble_eq_true rfl) rfl (hk) (fun v M1 hq => ?_)
    obtain ⟨rfl, V2, rfl, hJ2⟩ := LJ_d hI1 hB1 (id) (by split; decide; exact rTr_r) hq
    refine (show X _ _ 1134 _ [.int _, .int _] _ _ _ _ from ?_)
    refine x_icmp_eq 1710 dL_law_1134 (by decide) (fun _ => ?_) (fun q => absurd (rfl) q)
    exact hnx _ (LN_of hJ2)
theorem l_chain (hJ : LJ T R V z b o r ou N xs fw fr σ f t tp h A B a m H K wr pl tr) (hx : ∀ j, R32 (xs j)) (hi : i + 6 ≤ N) (hN : N ≤ 3072) (hnx : ∀ M, LN b o r ou N xs M → X g mL_law 1710 [.ref b, .ref o, .ref r, .ref ou, .int (iI (i : Int)), jk, jk] [] M k n Q) : X g mL_law 1139 [.ref b, .ref o, .ref r, .ref ou, .int (iI (i : Int)), jk, jk] [] (T, iV V, R, J, z) k n Q := by
  have hT10 := hJ.1.1.1.1
  obtain ⟨hA, hB, hR0⟩ := LJ_ok hJ
  by_cases hc : noS h A (xs (i + 1)) = false ∧ noP h A (xs (i + 2)) = false
  · obtain ⟨hh, q1, q2⟩ := noS_f hc.1
    obtain ⟨-, q3, q4⟩ := noP_f hc.2
    have hps := (LJ_pos hJ hh).1
    have eP := fP10 hA
    have eS := fS8 hA
    obtain ⟨E, hE, hEN, hf⟩ := f_chain (g := g) (J := J) (z := z) (k := 0) (n := 0) hJ.1 (hx (i + 1)) (hx (i + 2)) hc.1 hc.2
    have ev := chain_eq (s := (xs (i + 1)).toNat) (p := (xs (i + 2)).toNat) (E := E) hA hB (by omega) (by omega) (by omega) hEN hE
    refine x_aload_n dL_law_1139 rfl ?_
    refine y_arg 1 dL_law_1140 dL_law_1141 dL_law_1143 dL_law_1144 dL_law_1145 rfl rfl hJ.2.2.2.2.2.1 rfl (by omega) (by omega) ?_
    rw [hJ.2.2.2.2.2.2.1]
    refine y_arg 2 dL_law_1146 dL_law_1147 dL_law_1149 dL_law_1150 dL_law_1151 rfl rfl hJ.2.2.2.2.2.1 rfl (by omega) (by omega) ?_
    rw [hJ.2.2.2.2.2.2.1]
    refine x_callV (As := [_, _]) (mc := 0) (ms := 0) (z := mX10_chain) (ci := 10) dL_law_1152 lL_146 oX10_chain (by decide) hT10 rfl rfl (Nat.le_of_ble_eq_true rfl) (Nat.le_of_ble_eq_true rfl) rfl (hf) (fun v M1 hq => ?_)
    obtain ⟨rfl, V1, R1, fw1, fr1, σ1, rfl, hI1, hD1, hB1⟩ := LJ_c hJ hq
    refine (show X _ _ 1155 _ [.int _] _ _ _ _ from ?_)
    have hT12 := hD1.1.1
    refine x_aload_n dL_law_1155 rfl ?_
    refine y_arg 1 dL_law_1156 dL_law_1157 dL_law_1159 dL_law_1160 dL_law_1161 rfl rfl hB1.2.2.1 rfl (by omega) (by omega) ?_
    rw [hB1.2.2.2.1]
    refine y_arg 2 dL_law_1162 dL_law_1163 dL_law_1165 dL_law_1166 dL_law_1167 rfl rfl hB1.2.2.1 rfl (by omega) (by omega) ?_
    rw [hB1.2.2.2.1]
    have hk := k_chain (g := g) (J := J) (z := z) (k := 0) (n := 0) (V := V1) hD1 (hx (i + 1)) (hx (i + 2)) hc.1 hc.2
    rw [pB_self (fun _ _ => rfl)] at hk
    refine x_callV (As := [_, _]) (mc := 0) (ms := 0) (z := mX12_chain) (ci := 12) dL_law_1168 lL_149 oX12_chain (by decide) hT12 rfl rfl (Nat.le_of_ble_eq_true rfl) (Nat.le_of_ble_eq_true rfl) rfl (hk) (fun v M1 hq => ?_)
    obtain ⟨rfl, V2, rfl, hJ2⟩ := LJ_d hI1 hB1 (id) (by decide) hq
    refine (show X _ _ 1171 _ [.int _, .int _] _ _ _ _ from ?_)
    refine x_icmp_eq 1710 dL_law_1171 (by decide) (fun _ => ?_) (fun q => absurd (congrArg iI ev) q)
    exact hnx _ (LN_of hJ2)
  · skip
    refine x_aload_n dL_law_1139 rfl ?_
    refine y_arg 1 dL_law_1140 dL_law_1141 dL_law_1143 dL_law_1144 dL_law_1145 rfl rfl hJ.2.2.2.2.2.1 rfl (by omega) (by omega) ?_
    rw [hJ.2.2.2.2.2.2.1]
    refine y_arg 2 dL_law_1146 dL_law_1147 dL_law_1149 dL_law_1150 dL_law_1151 rfl rfl hJ.2.2.2.2.2.1 rfl (by omega) (by omega) ?_
    rw [hJ.2.2.2.2.2.2.1]
    refine x_callV (As := [_, _]) (mc := 0) (ms := 0) (z := mX10_chain) (ci := 10) dL_law_1152 lL_146 oX10_chain (by decide) hT10 rfl rfl (Nat.le_of_ble_eq_true rfl) (Nat.le_of_ble_eq_true rfl) rfl (f_chain0 (g := g) (J := J) (z := z) (k := 0) (n := 0) hJ.1 (hx (i + 1)) (hx (i + 2)) hc) (fun v M1 hq => ?_)
    obtain ⟨rfl, V1, R1, fw1, fr1, σ1, rfl, hI1, hD1, hB1⟩ := LJ_c hJ hq
    refine (show X _ _ 1155 _ [.int _] _ _ _ _ from ?_)
    have hT12 := hD1.1.1
    refine x_aload_n dL_law_1155 rfl ?_
    refine y_arg 1 dL_law_1156 dL_law_1157 dL_law_1159 dL_law_1160 dL_law_1161 rfl rfl hB1.2.2.1 rfl (by omega) (by omega) ?_
    rw [hB1.2.2.2.1]
    refine y_arg 2 dL_law_1162 dL_law_1163 dL_law_1165 dL_law_1166 dL_law_1167 rfl rfl hB1.2.2.1 rfl (by omega) (by omega) ?_
    rw [hB1.2.2.2.1]
    have hk := k_chain0 (g := g) (J := J) (z := z) (k := 0) (n := 0) (V := V1) hD1 (hx (i + 1)) (hx (i + 2)) hc
    rw [pB_self (fun _ _ => rfl)] at hk
    refine x_callV (As := [_, _]) (mc := 0) (ms := 0) (z := mX12_chain) (ci := 12) dL_law_1168 lL_149 oX12_chain (by decide) hT12 rfl rfl (Nat.le_of_ble_eq_true rfl) (Nat.le_of_ble_eq_true rfl) rfl (hk) (fun v M1 hq => ?_)
    obtain ⟨rfl, V2, rfl, hJ2⟩ := LJ_d hI1 hB1 (id) (by decide) hq
    refine (show X _ _ 1171 _ [.int _, .int _] _ _ _ _ from ?_)
    refine x_icmp_eq 1710 dL_law_1171 (by decide) (fun _ => ?_) (fun q => absurd (rfl) q)
    exact hnx _ (LN_of hJ2)
theorem l_trade (hJ : LJ T R V z b o r ou N xs fw fr σ f t tp h A B a m H K wr pl tr) (hx : ∀ j, R32 (xs j)) (hi : i + 6 ≤ N) (hN : N ≤ 3072) (hnx : ∀ M, LN b o r ou N xs M → X g mL_law 1710 [.ref b, .ref o, .ref r, .ref ou, .int (iI (i : Int)), jk, jk] [] M k n Q) : X g mL_law 1176 [.ref b, .ref o, .ref r, .ref ou, .int (iI (i : Int)), jk, jk] [] (T, iV V, R, J, z) k n Q := by
  have hT10 := hJ.1.1.1.1
  refine x_aload_n dL_law_1176 rfl ?_
  refine y_arg 1 dL_law_1177 dL_law_1178 dL_law_1180 dL_law_1181 dL_law_1182 rfl rfl hJ.2.2.2.2.2.1 rfl (by omega) (by omega) ?_
  rw [hJ.2.2.2.2.2.2.1]
  refine y_arg 2 dL_law_1183 dL_law_1184 dL_law_1186 dL_law_1187 dL_law_1188 rfl rfl hJ.2.2.2.2.2.1 rfl (by omega) (by omega) ?_
  rw [hJ.2.2.2.2.2.2.1]
  refine x_callV (As := [_, _]) (mc := 0) (ms := 0) (z := mX10_trade) (ci := 10) dL_law_1189 lL_150 oX10_trade (by decide) hT10 rfl rfl (Nat.le_of_ble_eq_true rfl) (Nat.le_of_ble_eq_true rfl) rfl (f_trade (g := g) (J := J) (z := z) (k := 0) (n := 0) hJ.1 (hx (i + 1)) (hx (i + 2))) (fun v M1 hq => ?_)
  obtain ⟨rfl, V1, R1, fw1, fr1, σ1, rfl, hI1, hD1, hB1⟩ := LJ_c hJ hq
  refine (show X _ _ 1192 _ [.int _] _ _ _ _ from ?_)
  have hT12 := hD1.1.1
  refine x_aload_n dL_law_1192 rfl ?_
  refine y_arg 1 dL_law_1193 dL_law_1194 dL_law_1196 dL_law_1197 dL_law_1198 rfl rfl hB1.2.2.1 rfl (by omega) (by omega) ?_
  rw [hB1.2.2.2.1]
  refine y_arg 2 dL_law_1199 dL_law_1200 dL_law_1202 dL_law_1203 dL_law_1204 rfl rfl hB1.2.2.1 rfl (by omega) (by omega) ?_
  rw [hB1.2.2.2.1]
  have hk := k_trade (g := g) (J := J) (z := z) (k := 0) (n := 0) (V := V1) hD1 (hx (i + 1)) (hx (i + 2))
  rw [pB_self (fun _ _ => rfl)] at hk
  refine x_callV (As := [_, _]) (mc := 0) (ms := 0) (z := mX12_trade) (ci := 12) dL_law_1205 lL_153 oX12_trade (by decide) hT12 rfl rfl (Nat.le_of_ble_eq_true rfl) (Nat.le_of_ble_eq_true rfl) rfl (hk) (fun v M1 hq => ?_)
  obtain ⟨rfl, V2, rfl, hJ2⟩ := LJ_d hI1 hB1 (id) (by first | exact hJ.2.2.1 | exact yTr_r | exact pyTr_r | exact rTr_r | exact sTr_r | decide | (repeat' split) <;> decide) hq
  refine (show X _ _ 1208 _ [.int _, .int _] _ _ _ _ from ?_)
  refine x_icmp_eq 1710 dL_law_1208 (by decide) (fun _ => ?_) (fun q => absurd (rfl) q)
  exact hnx _ (LN_of hJ2)
theorem l_bestTrade (hJ : LJ T R V z b o r ou N xs fw fr σ f t tp h A B a m H K wr pl tr) (hx : ∀ j, R32 (xs j)) (hi : i + 6 ≤ N) (hN : N ≤ 3072) (hnx : ∀ M, LN b o r ou N xs M → X g mL_law 1710 [.ref b, .ref o, .ref r, .ref ou, .int (iI (i : Int)), jk, jk] [] M k n Q) : X g mL_law 1213 [.ref b, .ref o, .ref r, .ref ou, .int (iI (i : Int)), jk, jk] [] (T, iV V, R, J, z) k n Q := by
  have hT10 := hJ.1.1.1.1
  refine x_aload_n dL_law_1213 rfl ?_
  refine x_callV (As := []) (mc := 0) (ms := 0) (z := mX10_bestTrade) (ci := 10) dL_law_1214 lL_154 oX10_bestTrade (by decide) hT10 rfl rfl (Nat.le_of_ble_eq_true rfl) (Nat.le_of_ble_eq_true rfl) rfl (f_bestTrade (g := g) (J := J) (z := z) (k := 0) (n := 0) hJ.1) (fun v M1 hq => ?_)
  obtain ⟨rfl, V1, R1, fw1, fr1, σ1, rfl, hI1, hD1, hB1⟩ := LJ_c hJ hq
  refine (show X _ _ 1217 _ [.int _] _ _ _ _ from ?_)
  have hT12 := hD1.1.1
  refine x_aload_n dL_law_1217 rfl ?_
  have hk := k_bestTrade (g := g) (J := J) (z := z) (k := 0) (n := 0) (V := V1) hD1
  rw [pB_self (fun _ _ => rfl)] at hk
  refine x_callV (As := []) (mc := 0) (ms := 0) (z := mX12_bestTrade) (ci := 12) dL_law_1218 lL_157 oX12_bestTrade (by decide) hT12 rfl rfl (Nat.le_of_ble_eq_true rfl) (Nat.le_of_ble_eq_true rfl) rfl (hk) (fun v M1 hq => ?_)
  obtain ⟨rfl, V2, rfl, hJ2⟩ := LJ_d hI1 hB1 (id) (by first | exact hJ.2.2.1 | exact yTr_r | exact pyTr_r | exact rTr_r | exact sTr_r | decide | (repeat' split) <;> decide) hq
  refine (show X _ _ 1221 _ [.int _, .int _] _ _ _ _ from ?_)
  refine x_icmp_eq 1710 dL_law_1221 (by decide) (fun _ => ?_) (fun q => absurd (rfl) q)
  exact hnx _ (LN_of hJ2)
theorem l_fits (hJ : LJ T R V z b o r ou N xs fw fr σ f t tp h A B a m H K wr pl tr) (hx : ∀ j, R32 (xs j)) (hi : i + 6 ≤ N) (hN : N ≤ 3072) (hnx : ∀ M, LN b o r ou N xs M → X g mL_law 1710 [.ref b, .ref o, .ref r, .ref ou, .int (iI (i : Int)), jk, jk] [] M k n Q) : X g mL_law 1226 [.ref b, .ref o, .ref r, .ref ou, .int (iI (i : Int)), jk, jk] [] (T, iV V, R, J, z) k n Q := by
  have hT10 := hJ.1.1.1.1
  refine x_aload_n dL_law_1226 rfl ?_
  refine x_callV (As := []) (mc := 0) (ms := 0) (z := mX10_fits) (ci := 10) dL_law_1227 lL_158 oX10_fits (by decide) hT10 rfl rfl (Nat.le_of_ble_eq_true rfl) (Nat.le_of_ble_eq_true rfl) rfl (f_fits (g := g) (J := J) (z := z) (k := 0) (n := 0) hJ.1) (fun v M1 hq => ?_)
  obtain ⟨rfl, V1, R1, fw1, fr1, σ1, rfl, hI1, hD1, hB1⟩ := LJ_c hJ hq
  refine (show X _ _ 1230 _ [.int _] _ _ _ _ from ?_)
  have hT12 := hD1.1.1
  refine x_aload_n dL_law_1230 rfl ?_
  have hk := k_fits (g := g) (J := J) (z := z) (k := 0) (n := 0) (V := V1) hD1
  rw [pB_self (fun _ _ => rfl)] at hk
  refine x_callV (As := []) (mc := 0) (ms := 0) (z := mX12_fits) (ci := 12) dL_law_1231 lL_161 oX12_fits (by decide) hT12 rfl rfl (Nat.le_of_ble_eq_true rfl) (Nat.le_of_ble_eq_true rfl) rfl (hk) (fun v M1 hq => ?_)
  obtain ⟨rfl, V2, rfl, hJ2⟩ := LJ_d hI1 hB1 (id) (by first | exact hJ.2.2.1 | exact yTr_r | exact pyTr_r | exact rTr_r | exact sTr_r | decide | (repeat' split) <;> decide) hq
  refine (show X _ _ 1234 _ [.int _, .int _] _ _ _ _ from ?_)
  refine x_icmp_eq 1710 dL_law_1234 (by decide) (fun _ => ?_) (fun q => absurd (rfl) q)
  exact hnx _ (LN_of hJ2)
theorem l_seeds (hJ : LJ T R V z b o r ou N xs fw fr σ f t tp h A B a m H K wr pl tr) (hx : ∀ j, R32 (xs j)) (hi : i + 6 ≤ N) (hN : N ≤ 3072) (hnx : ∀ M, LN b o r ou N xs M → X g mL_law 1710 [.ref b, .ref o, .ref r, .ref ou, .int (iI (i : Int)), jk, jk] [] M k n Q) : X g mL_law 1239 [.ref b, .ref o, .ref r, .ref ou, .int (iI (i : Int)), jk, jk] [] (T, iV V, R, J, z) k n Q := by
  have hT10 := hJ.1.1.1.1
  refine x_aload_n dL_law_1239 rfl ?_
  refine y_arg 1 dL_law_1240 dL_law_1241 dL_law_1243 dL_law_1244 dL_law_1245 rfl rfl hJ.2.2.2.2.2.1 rfl (by omega) (by omega) ?_
  rw [hJ.2.2.2.2.2.2.1]
  refine x_callV (As := [_]) (mc := 0) (ms := 0) (z := mX10_seeds) (ci := 10) dL_law_1246 lL_162 oX10_seeds (by decide) hT10 rfl rfl (Nat.le_of_ble_eq_true rfl) (Nat.le_of_ble_eq_true rfl) rfl (f_seeds (g := g) (J := J) (z := z) (k := 0) (n := 0) hJ.1 (hx (i + 1))) (fun v M1 hq => ?_)
  obtain ⟨rfl, V1, R1, fw1, fr1, σ1, rfl, hI1, hD1, hB1⟩ := LJ_c hJ hq
  refine (show X _ _ 1249 _ [.int _] _ _ _ _ from ?_)
  have hT12 := hD1.1.1
  refine x_aload_n dL_law_1249 rfl ?_
  refine y_arg 1 dL_law_1250 dL_law_1251 dL_law_1253 dL_law_1254 dL_law_1255 rfl rfl hB1.2.2.1 rfl (by omega) (by omega) ?_
  rw [hB1.2.2.2.1]
  have hk := k_seeds (g := g) (J := J) (z := z) (k := 0) (n := 0) (V := V1) hD1 (hx (i + 1))
  rw [pB_self (fun _ _ => rfl)] at hk
  refine x_callV (As := [_]) (mc := 0) (ms := 0) (z := mX12_seeds) (ci := 12) dL_law_1256 lL_165 oX12_seeds (by decide) hT12 rfl rfl (Nat.le_of_ble_eq_true rfl) (Nat.le_of_ble_eq_true rfl) rfl (hk) (fun v M1 hq => ?_)
  obtain ⟨rfl, V2, rfl, hJ2⟩ := LJ_d hI1 hB1 (id) (by first | exact hJ.2.2.1 | exact yTr_r | exact pyTr_r | exact rTr_r | exact sTr_r | decide | (repeat' split) <;> decide) hq
  refine (show X _ _ 1259 _ [.int _, .int _] _ _ _ _ from ?_)
  refine x_icmp_eq 1710 dL_law_1259 (by decide) (fun _ => ?_) (fun q => absurd (rfl) q)
  exact hnx _ (LN_of hJ2)
theorem l_firstSeed (hJ : LJ T R V z b o r ou N xs fw fr σ f t tp h A B a m H K wr pl tr) (hx : ∀ j, R32 (xs j)) (hi : i + 6 ≤ N) (hN : N ≤ 3072) (hnx : ∀ M, LN b o r ou N xs M → X g mL_law 1710 [.ref b, .ref o, .ref r, .ref ou, .int (iI (i : Int)), jk, jk] [] M k n Q) : X g mL_law 1264 [.ref b, .ref o, .ref r, .ref ou, .int (iI (i : Int)), jk, jk] [] (T, iV V, R, J, z) k n Q := by
  have hT10 := hJ.1.1.1.1
  refine x_aload_n dL_law_1264 rfl ?_
  refine y_arg 1 dL_law_1265 dL_law_1266 dL_law_1268 dL_law_1269 dL_law_1270 rfl rfl hJ.2.2.2.2.2.1 rfl (by omega) (by omega) ?_
  rw [hJ.2.2.2.2.2.2.1]
  refine x_callV (As := [_]) (mc := 0) (ms := 0) (z := mX10_firstSeed) (ci := 10) dL_law_1271 lL_166 oX10_firstSeed (by decide) hT10 rfl rfl (Nat.le_of_ble_eq_true rfl) (Nat.le_of_ble_eq_true rfl) rfl (f_firstSeed (g := g) (J := J) (z := z) (k := 0) (n := 0) hJ.1 (hx (i + 1))) (fun v M1 hq => ?_)
  obtain ⟨rfl, V1, R1, fw1, fr1, σ1, rfl, hI1, hD1, hB1⟩ := LJ_c hJ hq
  refine (show X _ _ 1274 _ [.int _] _ _ _ _ from ?_)
  have hT12 := hD1.1.1
  refine x_aload_n dL_law_1274 rfl ?_
  refine y_arg 1 dL_law_1275 dL_law_1276 dL_law_1278 dL_law_1279 dL_law_1280 rfl rfl hB1.2.2.1 rfl (by omega) (by omega) ?_
  rw [hB1.2.2.2.1]
  have hk := k_firstSeed (g := g) (J := J) (z := z) (k := 0) (n := 0) (V := V1) hD1 (hx (i + 1))
  rw [pB_self (fun _ _ => rfl)] at hk
  refine x_callV (As := [_]) (mc := 0) (ms := 0) (z := mX12_firstSeed) (ci := 12) dL_law_1281 lL_169 oX12_firstSeed (by decide) hT12 rfl rfl (Nat.le_of_ble_eq_true rfl) (Nat.le_of_ble_eq_true rfl) rfl (hk) (fun v M1 hq => ?_)
  obtain ⟨rfl, V2, rfl, hJ2⟩ := LJ_d hI1 hB1 (id) (by first | exact hJ.2.2.1 | exact yTr_r | exact pyTr_r | exact rTr_r | exact sTr_r | decide | (repeat' split) <;> decide) hq
  refine (show X _ _ 1284 _ [.int _, .int _] _ _ _ _ from ?_)
  refine x_icmp_eq 1710 dL_law_1284 (by decide) (fun _ => ?_) (fun q => absurd (rfl) q)
  exact hnx _ (LN_of hJ2)
theorem l_power (hJ : LJ T R V z b o r ou N xs fw fr σ f t tp h A B a m H K wr pl tr) (hx : ∀ j, R32 (xs j)) (hi : i + 6 ≤ N) (hN : N ≤ 3072) (hnx : ∀ M, LN b o r ou N xs M → X g mL_law 1710 [.ref b, .ref o, .ref r, .ref ou, .int (iI (i : Int)), jk, jk] [] M k n Q) : X g mL_law 1289 [.ref b, .ref o, .ref r, .ref ou, .int (iI (i : Int)), jk, jk] [] (T, iV V, R, J, z) k n Q := by
  have hT10 := hJ.1.1.1.1
  refine x_aload_n dL_law_1289 rfl ?_
  refine y_arg 1 dL_law_1290 dL_law_1291 dL_law_1293 dL_law_1294 dL_law_1295 rfl rfl hJ.2.2.2.2.2.1 rfl (by omega) (by omega) ?_
  rw [hJ.2.2.2.2.2.2.1]
  refine x_callV (As := [_]) (mc := 0) (ms := 0) (z := mX10_power) (ci := 10) dL_law_1296 lL_170 oX10_power (by decide) hT10 rfl rfl (Nat.le_of_ble_eq_true rfl) (Nat.le_of_ble_eq_true rfl) rfl (f_power (g := g) (J := J) (z := z) (k := 0) (n := 0) hJ.1 (hx (i + 1))) (fun v M1 hq => ?_)
  obtain ⟨rfl, V1, R1, fw1, fr1, σ1, rfl, hI1, hD1, hB1⟩ := LJ_c hJ hq
  refine (show X _ _ 1299 _ [.int _] _ _ _ _ from ?_)
  have hT12 := hD1.1.1
  refine x_aload_n dL_law_1299 rfl ?_
  refine y_arg 1 dL_law_1300 dL_law_1301 dL_law_1303 dL_law_1304 dL_law_1305 rfl rfl hB1.2.2.1 rfl (by omega) (by omega) ?_
  rw [hB1.2.2.2.1]
  have hk := k_power (g := g) (J := J) (z := z) (k := 0) (n := 0) (V := V1) hD1 (hx (i + 1))
  rw [pB_self (fun _ _ => rfl)] at hk
  refine x_callV (As := [_]) (mc := 0) (ms := 0) (z := mX12_power) (ci := 12) dL_law_1306 lL_173 oX12_power (by decide) hT12 rfl rfl (Nat.le_of_ble_eq_true rfl) (Nat.le_of_ble_eq_true rfl) rfl (hk) (fun v M1 hq => ?_)
  obtain ⟨rfl, V2, rfl, hJ2⟩ := LJ_d hI1 hB1 (id) (by first | exact hJ.2.2.1 | exact yTr_r | exact pyTr_r | exact rTr_r | exact sTr_r | decide | (repeat' split) <;> decide) hq
  refine (show X _ _ 1309 _ [.int _, .int _] _ _ _ _ from ?_)
  refine x_icmp_eq 1710 dL_law_1309 (by decide) (fun _ => ?_) (fun q => absurd (rfl) q)
  exact hnx _ (LN_of hJ2)
end LWah
