/-! ===== Reader: the lines ===== -/
section C51
variable {g : GG} {T : Nat → Nat × Nat} {V A : Nat → Nat → Int} {R : Nat → Nat → Option Nat} {J : Nat → Nat → Int64} {z k n : Nat} {rd tx q f e i : Nat} {t : Nat → Int}

theorem q_readFamily  (hB : BX T R rd tx q f) (hP : VP A) (hR : RI t V A rd tx q f e i) (he : e ≤ 1100) (ht : ∀ j, j < 1100 → -128 ≤ t j ∧ t j ≤ 127) : X g mX6_readFamily 0 [.ref rd] [] (T, iV V, R, J, z) k n (RQ T R J z t V rd tx q f e (pFam t e A i)) := by
  obtain ⟨hS, hD, hFS, rd0, hsep⟩ := hB
  obtain ⟨hc, hF, hN, h01⟩ := hR
  have hVA := hP.1
  obtain ⟨hA0, hA1, hA2, hA3, hA4, hA5, hA6, hA7, hA8, hAp, hApl, hAb, hAs, hAh, hAd⟩ := hP.1
  have hs0 := hS.1
  have hf0 := hFS.1
  have hTh : T (q + 4) = (1, 3) := hD.2.2.2.2.2
  have hRh : R rd 17 = some (q + 4) := hD.1.2.2.2.2
  have hnh : q + 4 ≠ rd := by omega
  have hf := fun (U : Nat → Nat → Int) (x : Int) => c_failAtName (g := g) (J := J) (z := z) (k := 0) (n := 0) (V := U) (x := x) hS
  have fr : ∀ (U : Nat → Nat → Int) (i' : Nat), SF V U rd (q + 4) q → CU t U rd tx e i' → FRM V U rd q f := fun U i' h1 h2 => FRM_SF (FRM_refl hc.2.2.2.2.2.2.2.2) h1 (by omega) h2.2.2.2.2.2.2.2.2
  have fy : ∀ (U : Nat → Nat → Int) (c : Nat), c < 9 → SF V U rd (q + 4) q → U f c = A 0 c := fun U c hc9 h1 => by rw [h1.1 f (by omega) (by omega) (by omega)]; exact hF.1 c hc9
  have bad : ∀ (U : Nat → Nat → Int) (c : Int) (i' : Nat), FRM V U rd q f → CU t U rd tx e i' → X g mX6_readFamily 73 [.ref rd] [] (T, iV (flE U rd c), R, J, z) k n (RQ T R J z t V rd tx q f e (.inl (c, tkS t e i'))) := by
    intro U c i' hs hu
    refine y_iconst dX6_readFamily_73 ?_
    refine (show X _ _ 74 _ _ _ _ _ _ from ?_)
    exact x_zreturn dX6_readFamily_74 rfl rfl (rq_fl hs hu)
  unfold pFam
  have hTa := hTh
  have hna := hnh
  refine x_aload_n dX6_readFamily_0 rfl ?_
  refine x_ldcs dX6_readFamily_1 sX6_198 ?_
  refine (show X _ _ 3 _ _ _ _ _ _ from ?_)
  refine x_callV (As := [_]) (mc := 0) (ms := 0) (z := mX6_takeWord) (ci := 6) dX6_readFamily_3 lX6_199 oX6_takeWord (by decide) (by first | assumption) rfl rfl (Nat.le_of_ble_eq_true rfl) (Nat.le_of_ble_eq_true rfl) rfl (q_word (j := 31) (by decide) hS hc he ht) (fun v M1 hq => ?_)
  rcases hq with ⟨hb, rfl, V1, rfl, c1, s1⟩ | ⟨hb, rfl, rfl⟩
  rotate_left
  · refine (show X _ _ 6 _ [.int (iI 0)] _ _ _ _ from ?_)
    rw [eW_f hb]
    refine y_if_eq 73 dX6_readFamily_6 (by decide) ⟨by omega, by omega⟩ (fun h => ?_) (fun h => ?_)
    · exact bad V _ _ (fr V _ (show SF V V rd (q + 4) q from SF_refl) hc) hc
    · omega
  refine (show X _ _ 6 _ [.int (iI 1)] _ _ _ _ from ?_)
  refine y_if_eq 73 dX6_readFamily_6 (by decide) ⟨by omega, by omega⟩ (fun h => ?_) (fun h => ?_)
  · omega
  rw [eW_t hb]
  have f1 : SF V V1 rd (q + 4) q := SF_w (show SF V V rd (q + 4) q from SF_refl) s1
  clear hb
  generalize tkN t e i = i1 at *
  clear s1 h
  refine x_aload_n dX6_readFamily_9 rfl ?_
  refine x_aload_n dX6_readFamily_10 rfl ?_
  refine x_gr dX6_readFamily_11 fX6_70 (by first | assumption) (fun _ _ _ => rfl) (by first | assumption) ?_
  refine y_iconst dX6_readFamily_14 ?_
  refine y_iconst dX6_readFamily_15 ?_
  refine y_bipush dX6_readFamily_16 rfl ?_
  refine (show X _ _ 18 _ _ _ _ _ _ from ?_)
  refine x_callV (As := [_, _, _, _]) (mc := 0) (ms := 0) (z := mX6_takeWhole) (ci := 6) dX6_readFamily_18 lX6_202 oX6_takeWhole (by decide) (by first | assumption) rfl rfl (Nat.le_of_ble_eq_true rfl) (Nat.le_of_ble_eq_true rfl) rfl (q_whole (a := (q + 4)) (p := 0) (lo := 4) (hi := 24) hTa (by omega) (by omega) ⟨by omega, by omega⟩ ⟨by omega, by omega⟩ hS c1 he ht) (fun v M1 hq => ?_)
  rcases hq with ⟨hb, rfl, V2, rfl, c2, s2⟩ | ⟨hb, rfl, rfl⟩
  rotate_left
  · refine (show X _ _ 21 _ [.int (iI 0)] _ _ _ _ from ?_)
    rw [eN_f hb]
    refine y_if_eq 73 dX6_readFamily_21 (by decide) ⟨by omega, by omega⟩ (fun h => ?_) (fun h => ?_)
    · exact bad V1 _ _ (fr V1 _ (f1) c1) c1
    · omega
  refine (show X _ _ 21 _ [.int (iI 1)] _ _ _ _ from ?_)
  refine y_if_eq 73 dX6_readFamily_21 (by decide) ⟨by omega, by omega⟩ (fun h => ?_) (fun h => ?_)
  · omega
  rw [eN_t hb]
  have f2 : SF V V2 rd (q + 4) q := SF_a hna (f1) s2
  have ra0_2 : V2 (q + 4) 0 = tkX t e i1 := by rw [s2.1 _ hna, u2_s, u1_s]
  have b2 := (of_decide_eq_true hb).2
  clear hb
  generalize tkX t e i1 = x2 at *
  generalize tkN t e i1 = i2 at *
  clear s2 h
  refine x_aload_n dX6_readFamily_24 rfl ?_
  refine x_ldcs dX6_readFamily_25 sX6_206 ?_
  refine (show X _ _ 27 _ _ _ _ _ _ from ?_)
  refine x_callV (As := [_]) (mc := 0) (ms := 0) (z := mX6_takeWord) (ci := 6) dX6_readFamily_27 lX6_199 oX6_takeWord (by decide) (by first | assumption) rfl rfl (Nat.le_of_ble_eq_true rfl) (Nat.le_of_ble_eq_true rfl) rfl (q_word (j := 14) (by decide) hS c2 he ht) (fun v M1 hq => ?_)
  rcases hq with ⟨hb, rfl, V3, rfl, c3, s3⟩ | ⟨hb, rfl, rfl⟩
  rotate_left
  · refine (show X _ _ 30 _ [.int (iI 0)] _ _ _ _ from ?_)
    rw [eW_f hb]
    refine y_if_eq 73 dX6_readFamily_30 (by decide) ⟨by omega, by omega⟩ (fun h => ?_) (fun h => ?_)
    · exact bad V2 _ _ (fr V2 _ (f2) c2) c2
    · omega
  refine (show X _ _ 30 _ [.int (iI 1)] _ _ _ _ from ?_)
  refine y_if_eq 73 dX6_readFamily_30 (by decide) ⟨by omega, by omega⟩ (fun h => ?_) (fun h => ?_)
  · omega
  rw [eW_t hb]
  have f3 : SF V V3 rd (q + 4) q := SF_w (f2) s3
  have ra0_3 : V3 (q + 4) 0 = x2 := by rw [s3.1 _ hna]; exact ra0_2
  clear hb
  generalize tkN t e i2 = i3 at *
  clear s3 h
  refine x_aload_n dX6_readFamily_33 rfl ?_
  refine x_aload_n dX6_readFamily_34 rfl ?_
  refine x_gr dX6_readFamily_35 fX6_70 (by first | assumption) (fun _ _ _ => rfl) (by first | assumption) ?_
  refine y_iconst dX6_readFamily_38 ?_
  refine x_aload_n dX6_readFamily_39 rfl ?_
  refine (show X _ _ 40 _ _ _ _ _ _ from ?_)
  refine x_callV (As := []) (mc := 0) (ms := 0) (z := mX6_seenLaw) (ci := 6) dX6_readFamily_40 lX6_208 oX6_seenLaw (by decide) (by first | assumption) rfl rfl (Nat.le_of_ble_eq_true rfl) (Nat.le_of_ble_eq_true rfl) rfl (q_seenLaw (g := g) (J := J) (z := z) (k := 0) (n := 0) hS c3 he ht) (k_I ?_)
  refine (show X _ _ 43 _ _ _ _ _ _ from ?_)
  have b4_ := lwOf_b t e i3
  refine x_callV (As := [_, _, _]) (mc := 0) (ms := 0) (z := mX6_takeChoice) (ci := 6) dX6_readFamily_43 lX6_211 oX6_takeChoice (by decide) (by first | assumption) rfl rfl (Nat.le_of_ble_eq_true rfl) (Nat.le_of_ble_eq_true rfl) rfl (q_choice (a := (q + 4)) (p := 1) (x := lwOf t e i3) hTa (by omega) (by omega) ⟨by omega, by omega⟩ hS c3 he ht) (fun v M1 hq => ?_)
  rcases hq with ⟨hb, rfl, V4, rfl, c4, s4⟩ | ⟨hb, rfl, rfl⟩
  rotate_left
  · refine (show X _ _ 46 _ [.int (iI 0)] _ _ _ _ from ?_)
    rw [eC_f hb]
    refine y_if_eq 73 dX6_readFamily_46 (by decide) ⟨by omega, by omega⟩ (fun h => ?_) (fun h => ?_)
    · exact bad V3 _ _ (fr V3 _ (f3) c3) c3
    · omega
  refine (show X _ _ 46 _ [.int (iI 1)] _ _ _ _ from ?_)
  refine y_if_eq 73 dX6_readFamily_46 (by decide) ⟨by omega, by omega⟩ (fun h => ?_) (fun h => ?_)
  · omega
  rw [eC_t hb]
  have f4 : SF V V4 rd (q + 4) q := SF_a hna (f3) s4
  have ra0_4 : V4 (q + 4) 0 = x2 := by rw [s4.1 _ hna, u2_s, u1_n (by decide)]; exact ra0_3
  have ra1_4 : V4 (q + 4) 1 = lwOf t e i3 := by rw [s4.1 _ hna, u2_s, u1_s]
  have b4 := (show 0 ≤ lwOf t e i3 ∧ lwOf t e i3 ≤ 4 from ⟨of_decide_eq_true hb, by omega⟩)
  clear hb
  generalize lwOf t e i3 = x4 at *
  generalize tkN t e i3 = i4 at *
  clear s4 h
  refine x_aload_n dX6_readFamily_49 rfl ?_
  refine x_ldcs dX6_readFamily_50 sX6_215 ?_
  refine (show X _ _ 52 _ _ _ _ _ _ from ?_)
  refine x_callV (As := [_]) (mc := 0) (ms := 0) (z := mX6_takeWord) (ci := 6) dX6_readFamily_52 lX6_199 oX6_takeWord (by decide) (by first | assumption) rfl rfl (Nat.le_of_ble_eq_true rfl) (Nat.le_of_ble_eq_true rfl) rfl (q_word (j := 9) (by decide) hS c4 he ht) (fun v M1 hq => ?_)
  rcases hq with ⟨hb, rfl, V5, rfl, c5, s5⟩ | ⟨hb, rfl, rfl⟩
  rotate_left
  · refine (show X _ _ 55 _ [.int (iI 0)] _ _ _ _ from ?_)
    rw [eW_f hb]
    refine y_if_eq 73 dX6_readFamily_55 (by decide) ⟨by omega, by omega⟩ (fun h => ?_) (fun h => ?_)
    · exact bad V4 _ _ (fr V4 _ (f4) c4) c4
    · omega
  refine (show X _ _ 55 _ [.int (iI 1)] _ _ _ _ from ?_)
  refine y_if_eq 73 dX6_readFamily_55 (by decide) ⟨by omega, by omega⟩ (fun h => ?_) (fun h => ?_)
  · omega
  rw [eW_t hb]
  have f5 : SF V V5 rd (q + 4) q := SF_w (f4) s5
  have ra0_5 : V5 (q + 4) 0 = x2 := by rw [s5.1 _ hna]; exact ra0_4
  have ra1_5 : V5 (q + 4) 1 = x4 := by rw [s5.1 _ hna]; exact ra1_4
  clear hb
  generalize tkN t e i4 = i5 at *
  clear s5 h
  refine x_aload_n dX6_readFamily_58 rfl ?_
  refine x_aload_n dX6_readFamily_59 rfl ?_
  refine x_gr dX6_readFamily_60 fX6_70 (by first | assumption) (fun _ _ _ => rfl) (by first | assumption) ?_
  refine y_iconst dX6_readFamily_63 ?_
  refine y_iconst dX6_readFamily_64 ?_
  refine y_bipush dX6_readFamily_65 rfl ?_
  refine (show X _ _ 67 _ _ _ _ _ _ from ?_)
  refine x_callV (As := [_, _, _, _]) (mc := 0) (ms := 0) (z := mX6_takeWhole) (ci := 6) dX6_readFamily_67 lX6_202 oX6_takeWhole (by decide) (by first | assumption) rfl rfl (Nat.le_of_ble_eq_true rfl) (Nat.le_of_ble_eq_true rfl) rfl (q_whole (a := (q + 4)) (p := 2) (lo := 0) (hi := 99) hTa (by omega) (by omega) ⟨by omega, by omega⟩ ⟨by omega, by omega⟩ hS c5 he ht) (fun v M1 hq => ?_)
  rcases hq with ⟨hb, rfl, V6, rfl, c6, s6⟩ | ⟨hb, rfl, rfl⟩
  rotate_left
  · refine (show X _ _ 70 _ [.int (iI 0)] _ _ _ _ from ?_)
    rw [eN_f hb]
    refine y_if_ne 75 dX6_readFamily_70 (by decide) ⟨by omega, by omega⟩ (fun h => ?_) (fun h => ?_)
    · omega
    · exact bad V5 _ _ (fr V5 _ (f5) c5) c5
  refine (show X _ _ 70 _ [.int (iI 1)] _ _ _ _ from ?_)
  refine y_if_ne 75 dX6_readFamily_70 (by decide) ⟨by omega, by omega⟩ (fun h => ?_) (fun h => ?_)
  rotate_left
  · omega
  rw [eN_t hb]
  have f6 : SF V V6 rd (q + 4) q := SF_a hna (f5) s6
  have ra0_6 : V6 (q + 4) 0 = x2 := by rw [s6.1 _ hna, u2_s, u1_n (by decide)]; exact ra0_5
  have ra1_6 : V6 (q + 4) 1 = x4 := by rw [s6.1 _ hna, u2_s, u1_n (by decide)]; exact ra1_5
  have ra2_6 : V6 (q + 4) 2 = tkX t e i5 := by rw [s6.1 _ hna, u2_s, u1_s]
  have b6 := (of_decide_eq_true hb).2
  clear hb
  generalize tkX t e i5 = x6 at *
  generalize tkN t e i5 = i6 at *
  clear s6 h
  refine x_aload_n dX6_readFamily_75 rfl ?_
  refine x_gr dX6_readFamily_76 fX6_12 (by first | assumption) (fun _ _ _ => rfl) (by first | assumption) ?_
  refine x_aload_n dX6_readFamily_79 rfl ?_
  refine x_gr dX6_readFamily_80 fX6_70 (by first | assumption) (fun _ _ _ => rfl) (by first | assumption) ?_
  refine y_iconst dX6_readFamily_83 ?_
  refine y_iald (0) dX6_readFamily_84 (by first | assumption) (by first | rfl | omega) (by omega) (by decide) ?_
  refine (show X _ _ 85 _ _ _ _ _ _ from ?_)
  refine X.val ra0_6 ?_
  refine y_pi dX6_readFamily_85 (pX6_156 _) (by first | assumption) (fun _ _ _ => rfl) rfl rfl ?_
  refine x_aload_n dX6_readFamily_88 rfl ?_
  refine x_gr dX6_readFamily_89 fX6_12 (by first | assumption) (fun _ _ _ => rfl) (by first | assumption) ?_
  refine x_aload_n dX6_readFamily_92 rfl ?_
  refine x_gr dX6_readFamily_93 fX6_70 (by first | assumption) (fun _ _ _ => rfl) (by first | assumption) ?_
  refine y_iconst dX6_readFamily_96 ?_
  refine y_iald (1) dX6_readFamily_97 (by first | assumption) (by first | rfl | omega) (by omega) (by decide) ?_
  refine (show X _ _ 98 _ _ _ _ _ _ from ?_)
  refine X.val (b := x4) (by rw [u2_n (by omega)]; exact ra1_6) ?_
  refine y_pi dX6_readFamily_98 (pX6_217 _) (by first | assumption) (fun _ _ _ => rfl) rfl rfl ?_
  refine x_aload_n dX6_readFamily_101 rfl ?_
  refine x_gr dX6_readFamily_102 fX6_12 (by first | assumption) (fun _ _ _ => rfl) (by first | assumption) ?_
  refine x_aload_n dX6_readFamily_105 rfl ?_
  refine x_gr dX6_readFamily_106 fX6_70 (by first | assumption) (fun _ _ _ => rfl) (by first | assumption) ?_
  refine y_iconst dX6_readFamily_109 ?_
  refine y_iald (2) dX6_readFamily_110 (by first | assumption) (by first | rfl | omega) (by omega) (by decide) ?_
  refine (show X _ _ 111 _ _ _ _ _ _ from ?_)
  refine X.val (b := x6) (by rw [u2_n (by omega), u2_n (by omega)]; exact ra2_6) ?_
  refine y_pi dX6_readFamily_111 (pX6_219 _) (by first | assumption) (fun _ _ _ => rfl) rfl rfl ?_
  refine y_iconst dX6_readFamily_114 ?_
  refine (show X _ _ 115 _ _ _ _ _ _ from ?_)
  have ef : V6 f = V f := f6.1 f (by omega) (by omega) (by omega)
  exact x_zreturn dX6_readFamily_115 rfl rfl (rq_ok hsep (FRM_u2 (FRM_u2 (fr _ _ f6 c6) (by omega) (by omega)) (by omega) (by omega)) (CU_u2 (CU_u2 c6 (by omega) (by omega)) (by omega) (by omega)) (NR_u2 (NR_u2 (NR_SF hN f6 (by omega) (by omega)) (by omega) (by omega)) (by omega) (by omega)) (by rw [u2_n (by omega), u2_n (by omega)]; exact (f6.2 1 (by omega)).trans h01) (by unfold aFam; simp [u2_ap]) (fun r c h1 h2 => by unfold aFam; simp only [u2_ap]; (repeat' split) <;> first | rfl | omega) (FC_Fam hF (fun b h1 h2 => by rw [u2_n (by omega), u2_n (by omega), u2_n (by omega)]; exact f6.1 b (by omega) (by omega) (by omega)) hVA (fun c h1 h2 => by rw [u2_s, u1_n (by omega), u2_s, u1_n (by omega), u2_s, u1_n (by omega), ef]) (by rw [u2_s, u1_n (by decide), u2_s, u1_n (by decide), u2_s, u1_s]) (by rw [u2_s, u1_n (by decide), u2_s, u1_s]) (by rw [u2_s, u1_s])))

theorem q_readDies  (hB : BX T R rd tx q f) (hP : VP A) (hY : 4 ≤ A 0 0) (hR : RI t V A rd tx q f e i) (he : e ≤ 1100) (ht : ∀ j, j < 1100 → -128 ≤ t j ∧ t j ≤ 127) : X g mX6_readDies 0 [.ref rd, jk] [] (T, iV V, R, J, z) k n (RQ T R J z t V rd tx q f e (pDies t e A i)) := by
  obtain ⟨hS, hD, hFS, rd0, hsep⟩ := hB
  obtain ⟨hc, hF, hN, h01⟩ := hR
  have hVA := hP.1
  obtain ⟨hA0, hA1, hA2, hA3, hA4, hA5, hA6, hA7, hA8, hAp, hApl, hAb, hAs, hAh, hAd⟩ := hP.1
  have hs0 := hS.1
  have hf0 := hFS.1
  have hTh : T (q + 4) = (1, 3) := hD.2.2.2.2.2
  have hRh : R rd 17 = some (q + 4) := hD.1.2.2.2.2
  have hnh : q + 4 ≠ rd := by omega
  have hf := fun (U : Nat → Nat → Int) (x : Int) => c_failAtName (g := g) (J := J) (z := z) (k := 0) (n := 0) (V := U) (x := x) hS
  have fr : ∀ (U : Nat → Nat → Int) (i' : Nat), SF V U rd (q + 4) q → CU t U rd tx e i' → FRM V U rd q f := fun U i' h1 h2 => FRM_SF (FRM_refl hc.2.2.2.2.2.2.2.2) h1 (by omega) h2.2.2.2.2.2.2.2.2
  have fy : ∀ (U : Nat → Nat → Int) (c : Nat), c < 9 → SF V U rd (q + 4) q → U f c = A 0 c := fun U c hc9 h1 => by rw [h1.1 f (by omega) (by omega) (by omega)]; exact hF.1 c hc9
  have bad : ∀ (U : Nat → Nat → Int) (c : Int) (i' : Nat), FRM V U rd q f → CU t U rd tx e i' → X g mX6_readDies 13 [.ref rd, jk] [] (T, iV (flE U rd c), R, J, z) k n (RQ T R J z t V rd tx q f e (.inl (c, tkS t e i'))) := by
    intro U c i' hs hu
    refine y_iconst dX6_readDies_13 ?_
    refine (show X _ _ 14 _ _ _ _ _ _ from ?_)
    exact x_zreturn dX6_readDies_14 rfl rfl (rq_fl hs hu)
  unfold pDies
  have hTa := hTh
  have hna := hnh
  refine x_aload_n dX6_readDies_0 rfl ?_
  refine x_aload_n dX6_readDies_1 rfl ?_
  refine x_gr dX6_readDies_2 fX6_70 (by first | assumption) (fun _ _ _ => rfl) (by first | assumption) ?_
  refine y_iconst dX6_readDies_5 ?_
  refine y_iconst dX6_readDies_6 ?_
  refine (show X _ _ 7 _ _ _ _ _ _ from ?_)
  refine x_callV (As := [_, _, _]) (mc := 0) (ms := 0) (z := mX6_takeName) (ci := 6) dX6_readDies_7 lX6_270 oX6_takeName (by decide) (by first | assumption) rfl rfl (Nat.le_of_ble_eq_true rfl) (Nat.le_of_ble_eq_true rfl) rfl (q_takeName (a := (q + 4)) (p := 0) (c := false) hTa (by omega) (by omega) (fun k hk => (hP.2.2.2.1 k hk).1) hD (NR_SF hN (show SF V V rd (q + 4) q from SF_refl) (by omega) (by omega)) hS hc he ht) (fun v M1 hq => ?_)
  rcases hq with ⟨hb, rfl, V1, rfl, c1, s1⟩ | ⟨hb, rfl, rfl⟩
  rotate_left
  · refine (show X _ _ 10 _ [.int (iI 0)] _ _ _ _ from ?_)
    rw [eM_f (c := 0) hb]
    refine y_if_ne 15 dX6_readDies_10 (by decide) ⟨by omega, by omega⟩ (fun h => ?_) (fun h => ?_)
    · omega
    · exact bad V _ _ (fr V _ (show SF V V rd (q + 4) q from SF_refl) hc) hc
  refine (show X _ _ 10 _ [.int (iI 1)] _ _ _ _ from ?_)
  refine y_if_ne 15 dX6_readDies_10 (by decide) ⟨by omega, by omega⟩ (fun h => ?_) (fun h => ?_)
  rotate_left
  · omega
  rw [eM_t (c := 0) hb]
  have f1 : SF V V1 rd (q + 4) q := SF_am hna (show SF V V rd (q + 4) q from SF_refl) s1
  have ra0_1 : V1 (q + 4) 0 = nmX t e A i := by rw [s1.1 _ hna, u2_n hna, u2_s, u1_s]
  have b1 := nm_b0 hP hb
  have l1 : V1 rd 11 = ((tkS t e i : Nat) : Int) := by rw [s1.2 11 (by omega), u2_s, u1_s]
  clear hb
  generalize nmX t e A i = x1 at *
  generalize tkN t e i = i1 at *
  clear s1 h
  have hx1 : ((x1.toNat : Nat) : Int) = x1 := Int.toNat_of_nonneg b1.1
  have hpr := hFS.2.2.2.1 x1.toNat (by omega)
  have hpr1 := hpr.1
  have hpr2 := hpr.2
  have hpT := hFS.2.2.1.1
  have hpR := hFS.2.1.1
  have e7 : V1 (f + 2 + x1.toNat) 6 = A 7 x1.toNat := by rw [f1.1 _ (by omega) (by omega) (by omega)]; exact hF.2.1 x1.toNat (show x1.toNat < (A 0 3).toNat by omega) 6 (by decide)
  have hd7 := (hAp x1.toNat (show x1.toNat < (A 0 3).toNat by omega)).2.2.2.2.2.2
  refine x_aload_n dX6_readDies_15 rfl ?_
  refine x_gr dX6_readDies_16 fX6_12 (by first | assumption) (fun _ _ _ => rfl) (by first | assumption) ?_
  refine x_gr dX6_readDies_19 fX6_165 (by first | assumption) (fun _ _ _ => rfl) (by first | assumption) ?_
  refine x_aload_n dX6_readDies_22 rfl ?_
  refine x_gr dX6_readDies_23 fX6_70 (by first | assumption) (fun _ _ _ => rfl) (by first | assumption) ?_
  refine y_iconst dX6_readDies_26 ?_
  refine y_iald (0) dX6_readDies_27 (by first | assumption) (by first | rfl | omega) (by omega) (by decide) ?_
  refine (show X _ _ 28 _ _ _ _ _ _ from ?_)
  refine X.val (b := ((x1.toNat : Nat) : Int)) (ra0_1.trans hx1.symm) ?_
  refine y_aald (x1.toNat) dX6_readDies_28 (by first | assumption) (by decide) (by first | rfl | omega) (by omega) (by decide) (by first | assumption) ?_
  refine x_astore_n dX6_readDies_29 (by decide) rfl rfl ?_
  refine x_aload_n dX6_readDies_30 rfl ?_
  refine y_bipush dX6_readDies_31 rfl ?_
  refine y_iald (6) dX6_readDies_33 (by first | assumption) (by first | rfl | omega) (by omega) (by decide) ?_
  refine (show X _ _ 34 _ _ _ _ _ _ from ?_)
  refine X.val e7 ?_
  refine y_bipush dX6_readDies_34 rfl ?_
  refine (show X _ _ 36 _ _ _ _ _ _ from ?_)
  refine y_icmp_eq 45 dX6_readDies_36 (by decide) ⟨by omega, by omega⟩ ⟨by omega, by omega⟩ (fun hx => ?_) (fun hx => ?_)
  rotate_left
  · rw [if_neg hx]
    refine x_aload_n dX6_readDies_39 rfl ?_
    refine y_iconst dX6_readDies_40 ?_
    refine (show X _ _ 41 _ _ _ _ _ _ from ?_)
    refine x_callV (As := [_]) (mc := 0) (ms := 0) (z := mX6_failAtName) (ci := 6) dX6_readDies_41 lX6_278 oX6_failAtName (by decide) (by first | assumption) rfl rfl (Nat.le_of_ble_eq_true rfl) (Nat.le_of_ble_eq_true rfl) rfl (hf _ _) (k_I ?_)
    refine (show X _ _ 44 _ _ _ _ _ _ from ?_)
    exact x_zreturn dX6_readDies_44 rfl rfl (rq_nm (fr _ _ f1 c1) l1)
  rw [if_pos hx]
  refine x_aload_n dX6_readDies_45 rfl ?_
  refine x_aload_n dX6_readDies_46 rfl ?_
  refine y_bipush dX6_readDies_47 rfl ?_
  refine y_iconst dX6_readDies_49 ?_
  refine x_aload_n dX6_readDies_50 rfl ?_
  refine x_gr dX6_readDies_51 fX6_12 (by first | assumption) (fun _ _ _ => rfl) (by first | assumption) ?_
  refine y_gi dX6_readDies_54 fX6_156 (by first | assumption) (fun _ _ _ => rfl) ?_
  refine (show X _ _ 57 _ _ _ _ _ _ from ?_)
  refine X.val (fy _ 0 (by decide) f1) ?_
  refine y_iconst dX6_readDies_57 ?_
  refine y_isub dX6_readDies_58 ?_
  refine (show X _ _ 59 _ _ _ _ _ _ from ?_)
  refine x_callV (As := [_, _, _, _]) (mc := 0) (ms := 0) (z := mX6_takeWhole) (ci := 6) dX6_readDies_59 lX6_202 oX6_takeWhole (by decide) (by first | assumption) rfl rfl (Nat.le_of_ble_eq_true rfl) (Nat.le_of_ble_eq_true rfl) rfl (q_whole (a := f + 2 + x1.toNat) (p := 6) (lo := 0) (hi := A 0 0 - 1) hpr2 (by decide) (by decide) ⟨by omega, by omega⟩ ⟨by omega, by omega⟩ hS c1 he ht) (fun v M1 hq => ?_)
  rcases hq with ⟨hb, rfl, V2, rfl, c2, s2⟩ | ⟨hb, rfl, rfl⟩
  rotate_left
  · refine (show X _ _ 62 _ [.int (iI 0)] _ _ _ _ from ?_)
    rw [eN_f hb]
    exact x_zreturn dX6_readDies_62 rfl rfl (rq_fl (fr _ _ f1 c1) c1)
  refine (show X _ _ 62 _ [.int (iI 1)] _ _ _ _ from ?_)
  rw [eN_t hb]
  have m1 : f + 2 + x1.toNat ≠ rd := by omega
  have o2 : ∀ b, b ≠ rd → b ≠ f + 2 + x1.toNat → b ≠ q + 4 → V2 b = V b := fun b h1 h2 h3 => by rw [s2.1 b h1, u2_n h2]; exact f1.1 b h1 h3 h3
  have c2' : ∀ c, c < 6 ∨ c = 12 → V2 rd c = V rd c := fun c hc => by rw [s2.2 c (by omega), u2_n m1.symm]; exact f1.2 c hc
  have sf2 : SF V V2 rd (f + 2 + x1.toNat) q := ⟨o2, c2'⟩
  exact x_zreturn dX6_readDies_62 rfl rfl ⟨_, rfl, FRM_SF (FRM_refl hc.2.2.2.2.2.2.2.2) sf2 (by omega) c2.2.2.2.2.2.2.2.2, rfl, c2, FC_dies hF (by omega) (fun b h1 h2 h3 => o2 b (by omega) h3 (by omega)) (fun c hc => by rw [s2.1 _ m1, u2_s, u1_n hc]; exact congrFun (f1.1 _ m1 (by omega) (by omega)) c) (by rw [s2.1 _ m1, u2_s, u1_s]) hVA, NR_eq (NR_SF hN sf2 (by omega) (by omega)) (by show u2 A 7 x1.toNat (tkX t e i1) 0 9 = A 0 9; rw [u2_n (by decide)]) (fun r c h1 h2 => by show u2 A 7 x1.toNat (tkX t e i1) r c = A r c; rw [u2_n (by omega)]), (c2' 1 (by omega)).trans h01⟩

theorem q_readHides  (hB : BX T R rd tx q f) (hP : VP A) (hY : 4 ≤ A 0 0) (hroom : A 0 7 < 8) (hR : RI t V A rd tx q f e i) (he : e ≤ 1100) (ht : ∀ j, j < 1100 → -128 ≤ t j ∧ t j ≤ 127) : X g mX6_readHides 0 [.ref rd, jk, jk] [] (T, iV V, R, J, z) k n (RQ T R J z t V rd tx q f e (pHide t e A i)) := by
  obtain ⟨hS, hD, hFS, rd0, hsep⟩ := hB
  obtain ⟨hc, hF, hN, h01⟩ := hR
  have hVA := hP.1
  obtain ⟨hA0, hA1, hA2, hA3, hA4, hA5, hA6, hA7, hA8, hAp, hApl, hAb, hAs, hAh, hAd⟩ := hP.1
  have hs0 := hS.1
  have hf0 := hFS.1
  have hTh : T (q + 4) = (1, 3) := hD.2.2.2.2.2
  have hRh : R rd 17 = some (q + 4) := hD.1.2.2.2.2
  have hnh : q + 4 ≠ rd := by omega
  have hf := fun (U : Nat → Nat → Int) (x : Int) => c_failAtName (g := g) (J := J) (z := z) (k := 0) (n := 0) (V := U) (x := x) hS
  have fr : ∀ (U : Nat → Nat → Int) (i' : Nat), SF V U rd (q + 4) q → CU t U rd tx e i' → FRM V U rd q f := fun U i' h1 h2 => FRM_SF (FRM_refl hc.2.2.2.2.2.2.2.2) h1 (by omega) h2.2.2.2.2.2.2.2.2
  have fy : ∀ (U : Nat → Nat → Int) (c : Nat), c < 9 → SF V U rd (q + 4) q → U f c = A 0 c := fun U c hc9 h1 => by rw [h1.1 f (by omega) (by omega) (by omega)]; exact hF.1 c hc9
  have bad : ∀ (U : Nat → Nat → Int) (c : Int) (i' : Nat), FRM V U rd q f → CU t U rd tx e i' → X g mX6_readHides 39 [.ref rd, jk, jk] [] (T, iV (flE U rd c), R, J, z) k n (RQ T R J z t V rd tx q f e (.inl (c, tkS t e i'))) := by
    intro U c i' hs hu
    refine y_iconst dX6_readHides_39 ?_
    refine (show X _ _ 40 _ _ _ _ _ _ from ?_)
    exact x_zreturn dX6_readHides_40 rfl rfl (rq_fl hs hu)
  unfold pHide
  have hTa := hTh
  have hna := hnh
  refine x_aload_n dX6_readHides_0 rfl ?_
  refine x_aload_n dX6_readHides_1 rfl ?_
  refine x_gr dX6_readHides_2 fX6_70 (by first | assumption) (fun _ _ _ => rfl) (by first | assumption) ?_
  refine y_iconst dX6_readHides_5 ?_
  refine y_iconst dX6_readHides_6 ?_
  refine (show X _ _ 7 _ _ _ _ _ _ from ?_)
  refine x_callV (As := [_, _, _]) (mc := 0) (ms := 0) (z := mX6_takeName) (ci := 6) dX6_readHides_7 lX6_270 oX6_takeName (by decide) (by first | assumption) rfl rfl (Nat.le_of_ble_eq_true rfl) (Nat.le_of_ble_eq_true rfl) rfl (q_takeName (a := (q + 4)) (p := 0) (c := false) hTa (by omega) (by omega) (fun k hk => (hP.2.2.2.1 k hk).1) hD (NR_SF hN (show SF V V rd (q + 4) q from SF_refl) (by omega) (by omega)) hS hc he ht) (fun v M1 hq => ?_)
  rcases hq with ⟨hb, rfl, V1, rfl, c1, s1⟩ | ⟨hb, rfl, rfl⟩
  rotate_left
  · refine (show X _ _ 10 _ [.int (iI 0)] _ _ _ _ from ?_)
    rw [eM_f (c := 0) hb]
    refine y_if_eq 39 dX6_readHides_10 (by decide) ⟨by omega, by omega⟩ (fun h => ?_) (fun h => ?_)
    · exact bad V _ _ (fr V _ (show SF V V rd (q + 4) q from SF_refl) hc) hc
    · omega
  refine (show X _ _ 10 _ [.int (iI 1)] _ _ _ _ from ?_)
  refine y_if_eq 39 dX6_readHides_10 (by decide) ⟨by omega, by omega⟩ (fun h => ?_) (fun h => ?_)
  · omega
  rw [eM_t (c := 0) hb]
  have f1 : SF V V1 rd (q + 4) q := SF_am hna (show SF V V rd (q + 4) q from SF_refl) s1
  have ra0_1 : V1 (q + 4) 0 = nmX t e A i := by rw [s1.1 _ hna, u2_n hna, u2_s, u1_s]
  have b1 := nm_b0 hP hb
  have l1 : V1 rd 11 = ((tkS t e i : Nat) : Int) := by rw [s1.2 11 (by omega), u2_s, u1_s]
  clear hb
  generalize nmX t e A i = x1 at *
  generalize tkN t e i = i1 at *
  clear s1 h
  refine x_aload_n dX6_readHides_13 rfl ?_
  refine x_aload_n dX6_readHides_14 rfl ?_
  refine x_gr dX6_readHides_15 fX6_70 (by first | assumption) (fun _ _ _ => rfl) (by first | assumption) ?_
  refine y_iconst dX6_readHides_18 ?_
  refine y_iconst dX6_readHides_19 ?_
  refine (show X _ _ 20 _ _ _ _ _ _ from ?_)
  refine x_callV (As := [_, _, _]) (mc := 0) (ms := 0) (z := mX6_takeName) (ci := 6) dX6_readHides_20 lX6_270 oX6_takeName (by decide) (by first | assumption) rfl rfl (Nat.le_of_ble_eq_true rfl) (Nat.le_of_ble_eq_true rfl) rfl (q_takeName (a := (q + 4)) (p := 1) (c := true) hTa (by omega) (by omega) (fun k hk => (hP.2.2.2.1 k hk).1) hD (NR_SF hN (f1) (by omega) (by omega)) hS c1 he ht) (fun v M1 hq => ?_)
  rcases hq with ⟨hb, rfl, V2, rfl, c2, s2⟩ | ⟨hb, rfl, rfl⟩
  rotate_left
  · refine (show X _ _ 23 _ [.int (iI 0)] _ _ _ _ from ?_)
    rw [eM_f (c := 1) hb]
    refine y_if_eq 39 dX6_readHides_23 (by decide) ⟨by omega, by omega⟩ (fun h => ?_) (fun h => ?_)
    · exact bad V1 _ _ (fr V1 _ (f1) c1) c1
    · omega
  refine (show X _ _ 23 _ [.int (iI 1)] _ _ _ _ from ?_)
  refine y_if_eq 39 dX6_readHides_23 (by decide) ⟨by omega, by omega⟩ (fun h => ?_) (fun h => ?_)
  · omega
  rw [eM_t (c := 1) hb]
  have f2 : SF V V2 rd (q + 4) q := SF_am hna (f1) s2
  have ra0_2 : V2 (q + 4) 0 = x1 := by rw [s2.1 _ hna, u2_n hna, u2_s, u1_n (by decide)]; exact ra0_1
  have ra1_2 : V2 (q + 4) 1 = nmX t e A i1 := by rw [s2.1 _ hna, u2_n hna, u2_s, u1_s]
  have b2 := nm_b1 hP hb
  have l2 : V2 rd 11 = ((tkS t e i1 : Nat) : Int) := by rw [s2.2 11 (by omega), u2_s, u1_s]
  clear hb
  generalize nmX t e A i1 = x2 at *
  generalize tkN t e i1 = i2 at *
  clear s2 h
  refine x_aload_n dX6_readHides_26 rfl ?_
  refine x_aload_n dX6_readHides_27 rfl ?_
  refine x_gr dX6_readHides_28 fX6_70 (by first | assumption) (fun _ _ _ => rfl) (by first | assumption) ?_
  refine y_iconst dX6_readHides_31 ?_
  refine y_iconst dX6_readHides_32 ?_
  refine (show X _ _ 33 _ _ _ _ _ _ from ?_)
  refine x_callV (As := [_, _, _]) (mc := 0) (ms := 0) (z := mX6_takeName) (ci := 6) dX6_readHides_33 lX6_270 oX6_takeName (by decide) (by first | assumption) rfl rfl (Nat.le_of_ble_eq_true rfl) (Nat.le_of_ble_eq_true rfl) rfl (q_takeName (a := (q + 4)) (p := 2) (c := false) hTa (by omega) (by omega) (fun k hk => (hP.2.2.2.1 k hk).1) hD (NR_SF hN (f2) (by omega) (by omega)) hS c2 he ht) (fun v M1 hq => ?_)
  rcases hq with ⟨hb, rfl, V3, rfl, c3, s3⟩ | ⟨hb, rfl, rfl⟩
  rotate_left
  · refine (show X _ _ 36 _ [.int (iI 0)] _ _ _ _ from ?_)
    rw [eM_f (c := 0) hb]
    refine y_if_ne 41 dX6_readHides_36 (by decide) ⟨by omega, by omega⟩ (fun h => ?_) (fun h => ?_)
    · omega
    · exact bad V2 _ _ (fr V2 _ (f2) c2) c2
  refine (show X _ _ 36 _ [.int (iI 1)] _ _ _ _ from ?_)
  refine y_if_ne 41 dX6_readHides_36 (by decide) ⟨by omega, by omega⟩ (fun h => ?_) (fun h => ?_)
  rotate_left
  · omega
  rw [eM_t (c := 0) hb]
  have f3 : SF V V3 rd (q + 4) q := SF_am hna (f2) s3
  have ra0_3 : V3 (q + 4) 0 = x1 := by rw [s3.1 _ hna, u2_n hna, u2_s, u1_n (by decide)]; exact ra0_2
  have ra1_3 : V3 (q + 4) 1 = x2 := by rw [s3.1 _ hna, u2_n hna, u2_s, u1_n (by decide)]; exact ra1_2
  have ra2_3 : V3 (q + 4) 2 = nmX t e A i2 := by rw [s3.1 _ hna, u2_n hna, u2_s, u1_s]
  have b3 := nm_b0 hP hb
  have l3 : V3 rd 11 = ((tkS t e i2 : Nat) : Int) := by rw [s3.2 11 (by omega), u2_s, u1_s]
  clear hb
  generalize nmX t e A i2 = x3 at *
  generalize tkN t e i2 = i3 at *
  clear s3 h
  have hb17 := hAh (x1 * 8 + x2).toNat (by omega)
  have hx3 : ((x3.toNat : Nat) : Int) = x3 := Int.toNat_of_nonneg b3.1
  have hhT : T (f + 44) = (1, 80) := hFS.2.2.1.2.2.2.2.2
  have hhR : R f 14 = some (f + 44) := hFS.2.1.2.2.2.2.2
  have e17 : V3 (f + 44) (x1 * 8 + x2).toNat = ((A 17 (x1 * 8 + x2).toNat).toNat : Int) := by rw [f3.1 _ (by omega) (by omega) (by omega), Int.toNat_of_nonneg hb17.1]; exact hF.2.2.2.2.2.2 _ (by omega)
  refine x_aload_n dX6_readHides_41 rfl ?_
  refine x_gr dX6_readHides_42 fX6_70 (by first | assumption) (fun _ _ _ => rfl) (by first | assumption) ?_
  refine y_iconst dX6_readHides_45 ?_
  refine y_iald (0) dX6_readHides_46 (by first | assumption) (by first | rfl | omega) (by omega) (by decide) ?_
  refine (show X _ _ 47 _ _ _ _ _ _ from ?_)
  refine X.val ra0_3 ?_
  refine y_bipush dX6_readHides_47 rfl ?_
  refine y_imul dX6_readHides_49 ?_
  refine x_aload_n dX6_readHides_50 rfl ?_
  refine x_gr dX6_readHides_51 fX6_70 (by first | assumption) (fun _ _ _ => rfl) (by first | assumption) ?_
  refine y_iconst dX6_readHides_54 ?_
  refine y_iald (1) dX6_readHides_55 (by first | assumption) (by first | rfl | omega) (by omega) (by decide) ?_
  refine (show X _ _ 56 _ _ _ _ _ _ from ?_)
  refine X.val ra1_3 ?_
  refine y_iadd dX6_readHides_56 ?_
  refine x_istore_n dX6_readHides_57 (by decide) rfl rfl ?_
  refine x_aload_n dX6_readHides_58 rfl ?_
  refine x_gr dX6_readHides_59 fX6_70 (by first | assumption) (fun _ _ _ => rfl) (by first | assumption) ?_
  refine y_iconst dX6_readHides_62 ?_
  refine y_iald (2) dX6_readHides_63 (by first | assumption) (by first | rfl | omega) (by omega) (by decide) ?_
  refine (show X _ _ 64 _ _ _ _ _ _ from ?_)
  refine X.val (b := ((x3.toNat : Nat) : Int)) (ra2_3.trans hx3.symm) ?_
  refine x_istore_n dX6_readHides_64 (by decide) rfl rfl ?_
  refine x_iload_n dX6_readHides_65 rfl ?_
  refine x_aload_n dX6_readHides_66 rfl ?_
  refine x_gr dX6_readHides_67 fX6_70 (by first | assumption) (fun _ _ _ => rfl) (by first | assumption) ?_
  refine y_iconst dX6_readHides_70 ?_
  refine y_iald (0) dX6_readHides_71 (by first | assumption) (by first | rfl | omega) (by omega) (by decide) ?_
  refine (show X _ _ 72 _ _ _ _ _ _ from ?_)
  refine X.val ra0_3 ?_
  have f2 : (x3 = x1 ∨ (A 17 (x1 * 8 + x2).toNat).toNat.testBit x3.toNat = true) → X g mX6_readHides 91 [.ref rd, .int (iI (x1 * 8 + x2)), .int (iI ((x3.toNat : Nat) : Int))] [] (T, iV V3, R, J, z) k n (RQ T R J z t V rd tx q f e (if x3 = x1 ∨ (A 17 (x1 * 8 + x2).toNat).toNat.testBit x3.toNat = true then .inl (3, tkS t e i2) else .inr (aHide A x1 x2 x3, i3))) := by
    intro hx
    rw [if_pos hx]
    refine x_aload_n dX6_readHides_91 rfl ?_
    refine y_iconst dX6_readHides_92 ?_
    refine (show X _ _ 93 _ _ _ _ _ _ from ?_)
    refine x_callV (As := [_]) (mc := 0) (ms := 0) (z := mX6_failAtName) (ci := 6) dX6_readHides_93 lX6_278 oX6_failAtName (by decide) (by first | assumption) rfl rfl (Nat.le_of_ble_eq_true rfl) (Nat.le_of_ble_eq_true rfl) rfl (hf _ _) (k_I ?_)
    refine (show X _ _ 96 _ _ _ _ _ _ from ?_)
    exact x_zreturn dX6_readHides_96 rfl rfl (rq_nm (fr _ _ f3 c3) l3)
  refine y_icmp_eq 91 dX6_readHides_72 (by decide) ⟨by omega, by omega⟩ ⟨by omega, by omega⟩ (fun hx => ?_) (fun hx => ?_)
  · exact f2 (Or.inl (by omega))
  refine x_aload_n dX6_readHides_75 rfl ?_
  refine x_gr dX6_readHides_76 fX6_12 (by first | assumption) (fun _ _ _ => rfl) (by first | assumption) ?_
  refine x_gr dX6_readHides_79 fX6_286 (by first | assumption) (fun _ _ _ => rfl) (by first | assumption) ?_
  refine x_iload_n dX6_readHides_82 rfl ?_
  refine y_iald ((x1 * 8 + x2).toNat) dX6_readHides_83 (by first | assumption) (by first | rfl | omega) (by omega) (by decide) ?_
  refine (show X _ _ 84 _ _ _ _ _ _ from ?_)
  refine X.val e17 ?_
  refine x_iload_n dX6_readHides_84 rfl ?_
  refine (show X _ _ 85 _ _ _ _ _ _ from ?_)
  refine x_callS (As := [_, _]) (mc := 0) (ms := 0) (z := mX10_has) dX6_readHides_85 lX6_289 oX10_has (by decide) rfl (Nat.le_of_ble_eq_true rfl) (Nat.le_of_ble_eq_true rfl) rfl (c_has g (A 17 (x1 * 8 + x2).toNat).toNat x3.toNat _ 0 0 (by omega) (by omega)) (k_I ?_)
  refine (show X _ _ 88 _ _ _ _ _ _ from ?_)
  refine y_ifb_eq 97 dX6_readHides_88 (by decide) (fun hx2 => ?_) (fun hx2 => ?_)
  rotate_left
  · exact f2 (Or.inr hx2)
  rw [if_neg (fun h => by rcases h with h | h; exact hx (by omega); rw [hx2] at h; cases h)]
  refine x_aload_n dX6_readHides_97 rfl ?_
  refine x_gr dX6_readHides_98 fX6_12 (by first | assumption) (fun _ _ _ => rfl) (by first | assumption) ?_
  refine x_gr dX6_readHides_101 fX6_286 (by first | assumption) (fun _ _ _ => rfl) (by first | assumption) ?_
  refine x_iload_n dX6_readHides_104 rfl ?_
  refine x_dup2 dX6_readHides_105 rfl rfl ?_
  refine y_iald ((x1 * 8 + x2).toNat) dX6_readHides_106 (by first | assumption) (by first | rfl | omega) (by omega) (by decide) ?_
  refine (show X _ _ 107 _ _ _ _ _ _ from ?_)
  refine X.val e17 ?_
  refine y_iconst dX6_readHides_107 ?_
  refine x_iload_n dX6_readHides_108 rfl ?_
  refine y_ishl (x3.toNat) dX6_readHides_109 (by first | rfl | omega) (by omega) ?_
  refine (show X _ _ 110 _ _ _ _ _ _ from ?_)
  refine y_ior dX6_readHides_110 ?_
  refine (show X _ _ 111 _ _ _ _ _ _ from ?_)
  refine y_iast ((x1 * 8 + x2).toNat) dX6_readHides_111 (by first | assumption) (by first | rfl | omega) (by omega) (by decide) ?_
  refine x_aload_n dX6_readHides_112 rfl ?_
  refine x_gr dX6_readHides_113 fX6_12 (by first | assumption) (fun _ _ _ => rfl) (by first | assumption) ?_
  refine x_dup dX6_readHides_116 rfl ?_
  refine y_gi dX6_readHides_117 fX6_151 (by first | assumption) (fun _ _ _ => rfl) ?_
  refine (show X _ _ 120 _ _ _ _ _ _ from ?_)
  have ef : V3 f = V f := f3.1 f (by omega) (by omega) (by omega)
  refine X.val (b := A 0 7) (by rw [u2_n (by omega)]; exact fy _ 7 (by decide) f3) ?_
  refine y_iconst dX6_readHides_120 ?_
  refine y_iadd dX6_readHides_121 ?_
  refine y_pi dX6_readHides_122 (pX6_151 _) (by first | assumption) (fun _ _ _ => rfl) rfl rfl ?_
  refine y_iconst dX6_readHides_125 ?_
  refine (show X _ _ 126 _ _ _ _ _ _ from ?_)
  exact x_zreturn dX6_readHides_126 rfl rfl (rq_ok hsep (FRM_u2 (fr _ _ f3 c3) (by omega) (by omega)) (CU_u2 c3 (by omega) (by omega)) (NR_u2 (NR_SF hN f3 (by omega) (by omega)) (by omega) (by omega)) (by rw [u2_n (by omega)]; exact (f3.2 1 (by omega)).trans h01) (by unfold aHide; simp [u2_ap]) (fun r c h1 h2 => by unfold aHide; simp only [u2_ap]; (repeat' split) <;> first | rfl | omega) (FC_Hide hF hVA (fun b h1 h2 h3 => by rw [u2_n (by omega), u2_n (by omega)]; exact f3.1 b (by omega) (by omega) (by omega)) (fun c h1 h2 => by rw [u2_s, u1_n h1, u2_n (by omega), ef]) (by rw [u2_s, u1_s]) (fun c hc => by rw [u2_n (by omega), u2_s, u1_n hc]; exact congrFun (f3.1 _ (by omega) (by omega) (by omega)) c) (by rw [u2_n (by omega), u2_s, u1_s])))

end C51
