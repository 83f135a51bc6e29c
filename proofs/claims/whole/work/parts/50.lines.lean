/-! ===== Reader: the lines ===== -/
section C50
variable {g : GG} {T : Nat → Nat × Nat} {V A : Nat → Nat → Int} {R : Nat → Nat → Option Nat} {J : Nat → Nat → Int64} {z k n : Nat} {rd tx q f e i : Nat} {t : Nat → Int}

theorem q_readPlan  (hB : BX T R rd tx q f) (hP : VP A) (hY : 4 ≤ A 0 0) (hroom : A 0 4 < 12) (hR : RI t V A rd tx q f e i) (he : e ≤ 1100) (ht : ∀ j, j < 1100 → -128 ≤ t j ∧ t j ≤ 127) : X g mX6_readPlan 0 [.ref rd, .ref (f + 13 + (A 0 4).toNat)] [] (T, iV V, R, J, z) k n (RQ T R J z t V rd tx q f e (pPlan t e A i)) := by
  obtain ⟨hS, hD, hFS, rd0, hsep⟩ := hB
  obtain ⟨hc, hF, hN, h01⟩ := hR
  have hVA := hP.1
  obtain ⟨hA0, hA1, hA2, hA3, hA4, hA5, hA6, hA7, hA8, hAp, hApl, hAb, hAs, hAh, hAd⟩ := hP.1
  have hs0 := hS.1
  have hf0 := hFS.1
  have hTh : T (q + 4) = (1, 3) := hD.2.2.2.2.2
  have hRh : R rd 17 = some (q + 4) := hD.1.2.2.2.2
  have hnh : q + 4 ≠ rd := by omega
  have hf := fun (U : Nat → Nat → Int) (x : Int) => c_failAtName (g := g) (J := J) (z := z) (k := 0) (n := 0) (V := U) (x := x) hS
  have hTa : T (f + 13 + (A 0 4).toNat) = (1, 4) := (hFS.2.2.2.2.1 _ (by omega)).2
  obtain ⟨a, ha⟩ : ∃ a, a = f + 13 + (A 0 4).toNat := ⟨_, rfl⟩
  rw [← ha] at hTa ⊢
  have hna : a ≠ rd := by omega
  have fr : ∀ (U : Nat → Nat → Int) (i' : Nat), SF V U rd a q → CU t U rd tx e i' → FRM V U rd q f := fun U i' h1 h2 => FRM_SF (FRM_refl hc.2.2.2.2.2.2.2.2) h1 (by omega) h2.2.2.2.2.2.2.2.2
  have fy : ∀ (U : Nat → Nat → Int) (c : Nat), c < 9 → SF V U rd a q → U f c = A 0 c := fun U c hc9 h1 => by rw [h1.1 f (by omega) (by omega) (by omega)]; exact hF.1 c hc9
  have bad : ∀ (U : Nat → Nat → Int) (c : Int) (i' : Nat), FRM V U rd q f → CU t U rd tx e i' → X g mX6_readPlan 82 [.ref rd, .ref a] [] (T, iV (flE U rd c), R, J, z) k n (RQ T R J z t V rd tx q f e (.inl (c, tkS t e i'))) := by
    intro U c i' hs hu
    refine y_iconst dX6_readPlan_82 ?_
    refine (show X _ _ 83 _ _ _ _ _ _ from ?_)
    exact x_zreturn dX6_readPlan_83 rfl rfl (rq_fl hs hu)
  unfold pPlan
  refine x_aload_n dX6_readPlan_0 rfl ?_
  refine x_aload_n dX6_readPlan_1 rfl ?_
  refine y_iconst dX6_readPlan_2 ?_
  refine y_iconst dX6_readPlan_3 ?_
  refine (show X _ _ 4 _ _ _ _ _ _ from ?_)
  refine x_callV (As := [_, _, _]) (mc := 0) (ms := 0) (z := mX6_takeName) (ci := 6) dX6_readPlan_4 lX6_270 oX6_takeName (by decide) (by first | assumption) rfl rfl (Nat.le_of_ble_eq_true rfl) (Nat.le_of_ble_eq_true rfl) rfl (q_takeName (a := a) (p := 0) (c := false) hTa (by omega) (by omega) (fun k hk => (hP.2.2.2.1 k hk).1) hD (NR_SF hN (show SF V V rd a q from SF_refl) (by omega) (by omega)) hS hc he ht) (fun v M1 hq => ?_)
  rcases hq with ⟨hb, rfl, V1, rfl, c1, s1⟩ | ⟨hb, rfl, rfl⟩
  rotate_left
  · refine (show X _ _ 7 _ [.int (iI 0)] _ _ _ _ from ?_)
    rw [eM_f (c := 0) hb]
    refine y_if_eq 82 dX6_readPlan_7 (by decide) ⟨by omega, by omega⟩ (fun h => ?_) (fun h => ?_)
    · exact bad V _ _ (fr V _ (show SF V V rd a q from SF_refl) hc) hc
    · omega
  refine (show X _ _ 7 _ [.int (iI 1)] _ _ _ _ from ?_)
  refine y_if_eq 82 dX6_readPlan_7 (by decide) ⟨by omega, by omega⟩ (fun h => ?_) (fun h => ?_)
  · omega
  rw [eM_t (c := 0) hb]
  have f1 : SF V V1 rd a q := SF_am hna (show SF V V rd a q from SF_refl) s1
  have ra0_1 : V1 a 0 = nmX t e A i := by rw [s1.1 _ hna, u2_n hna, u2_s, u1_s]
  have b1 := nm_b0 hP hb
  have l1 : V1 rd 11 = ((tkS t e i : Nat) : Int) := by rw [s1.2 11 (by omega), u2_s, u1_s]
  clear hb
  generalize nmX t e A i = x1 at *
  generalize tkN t e i = i1 at *
  clear s1 h
  refine x_aload_n dX6_readPlan_10 rfl ?_
  refine x_aload_n dX6_readPlan_11 rfl ?_
  refine y_iconst dX6_readPlan_12 ?_
  refine y_iconst dX6_readPlan_13 ?_
  refine x_aload_n dX6_readPlan_14 rfl ?_
  refine x_gr dX6_readPlan_15 fX6_12 (by first | assumption) (fun _ _ _ => rfl) (by first | assumption) ?_
  refine y_gi dX6_readPlan_18 fX6_156 (by first | assumption) (fun _ _ _ => rfl) ?_
  refine (show X _ _ 21 _ _ _ _ _ _ from ?_)
  refine X.val (fy _ 0 (by decide) f1) ?_
  refine y_iconst dX6_readPlan_21 ?_
  refine y_isub dX6_readPlan_22 ?_
  refine (show X _ _ 23 _ _ _ _ _ _ from ?_)
  refine x_callV (As := [_, _, _, _]) (mc := 0) (ms := 0) (z := mX6_takeWhole) (ci := 6) dX6_readPlan_23 lX6_202 oX6_takeWhole (by decide) (by first | assumption) rfl rfl (Nat.le_of_ble_eq_true rfl) (Nat.le_of_ble_eq_true rfl) rfl (q_whole (a := a) (p := 1) (lo := 0) (hi := A 0 0 - 1) hTa (by omega) (by omega) ⟨by omega, by omega⟩ ⟨by omega, by omega⟩ hS c1 he ht) (fun v M1 hq => ?_)
  rcases hq with ⟨hb, rfl, V2, rfl, c2, s2⟩ | ⟨hb, rfl, rfl⟩
  rotate_left
  · refine (show X _ _ 26 _ [.int (iI 0)] _ _ _ _ from ?_)
    rw [eN_f hb]
    refine y_if_eq 82 dX6_readPlan_26 (by decide) ⟨by omega, by omega⟩ (fun h => ?_) (fun h => ?_)
    · exact bad V1 _ _ (fr V1 _ (f1) c1) c1
    · omega
  refine (show X _ _ 26 _ [.int (iI 1)] _ _ _ _ from ?_)
  refine y_if_eq 82 dX6_readPlan_26 (by decide) ⟨by omega, by omega⟩ (fun h => ?_) (fun h => ?_)
  · omega
  rw [eN_t hb]
  have f2 : SF V V2 rd a q := SF_a hna (f1) s2
  have ra0_2 : V2 a 0 = x1 := by rw [s2.1 _ hna, u2_s, u1_n (by decide)]; exact ra0_1
  have ra1_2 : V2 a 1 = tkX t e i1 := by rw [s2.1 _ hna, u2_s, u1_s]
  have b2 := (of_decide_eq_true hb).2
  clear hb
  generalize tkX t e i1 = x2 at *
  generalize tkN t e i1 = i2 at *
  clear s2 h
  refine x_aload_n dX6_readPlan_29 rfl ?_
  refine x_ldcsw dX6_readPlan_30 sX6_274 ?_
  refine (show X _ _ 33 _ _ _ _ _ _ from ?_)
  refine x_callV (As := [_]) (mc := 0) (ms := 0) (z := mX6_takeWord) (ci := 6) dX6_readPlan_33 lX6_199 oX6_takeWord (by decide) (by first | assumption) rfl rfl (Nat.le_of_ble_eq_true rfl) (Nat.le_of_ble_eq_true rfl) rfl (q_word (j := 27) (by decide) hS c2 he ht) (fun v M1 hq => ?_)
  rcases hq with ⟨hb, rfl, V3, rfl, c3, s3⟩ | ⟨hb, rfl, rfl⟩
  rotate_left
  · refine (show X _ _ 36 _ [.int (iI 0)] _ _ _ _ from ?_)
    rw [eW_f hb]
    refine y_if_eq 82 dX6_readPlan_36 (by decide) ⟨by omega, by omega⟩ (fun h => ?_) (fun h => ?_)
    · exact bad V2 _ _ (fr V2 _ (f2) c2) c2
    · omega
  refine (show X _ _ 36 _ [.int (iI 1)] _ _ _ _ from ?_)
  refine y_if_eq 82 dX6_readPlan_36 (by decide) ⟨by omega, by omega⟩ (fun h => ?_) (fun h => ?_)
  · omega
  rw [eW_t hb]
  have f3 : SF V V3 rd a q := SF_w (f2) s3
  have ra0_3 : V3 a 0 = x1 := by rw [s3.1 _ hna]; exact ra0_2
  have ra1_3 : V3 a 1 = x2 := by rw [s3.1 _ hna]; exact ra1_2
  clear hb
  generalize tkN t e i2 = i3 at *
  clear s3 h
  refine x_aload_n dX6_readPlan_39 rfl ?_
  refine x_aload_n dX6_readPlan_40 rfl ?_
  refine y_iconst dX6_readPlan_41 ?_
  refine x_aload_n dX6_readPlan_42 rfl ?_
  refine y_iconst dX6_readPlan_43 ?_
  refine y_iald (1) dX6_readPlan_44 (by first | assumption) (by first | rfl | omega) (by omega) (by decide) ?_
  refine (show X _ _ 45 _ _ _ _ _ _ from ?_)
  refine X.val ra1_3 ?_
  refine x_aload_n dX6_readPlan_45 rfl ?_
  refine x_gr dX6_readPlan_46 fX6_12 (by first | assumption) (fun _ _ _ => rfl) (by first | assumption) ?_
  refine y_gi dX6_readPlan_49 fX6_156 (by first | assumption) (fun _ _ _ => rfl) ?_
  refine (show X _ _ 52 _ _ _ _ _ _ from ?_)
  refine X.val (fy _ 0 (by decide) f3) ?_
  refine y_iconst dX6_readPlan_52 ?_
  refine y_isub dX6_readPlan_53 ?_
  refine (show X _ _ 54 _ _ _ _ _ _ from ?_)
  refine x_callV (As := [_, _, _, _]) (mc := 0) (ms := 0) (z := mX6_takeWhole) (ci := 6) dX6_readPlan_54 lX6_202 oX6_takeWhole (by decide) (by first | assumption) rfl rfl (Nat.le_of_ble_eq_true rfl) (Nat.le_of_ble_eq_true rfl) rfl (q_whole (a := a) (p := 2) (lo := x2) (hi := A 0 0 - 1) hTa (by omega) (by omega) ⟨by omega, by omega⟩ ⟨by omega, by omega⟩ hS c3 he ht) (fun v M1 hq => ?_)
  rcases hq with ⟨hb, rfl, V4, rfl, c4, s4⟩ | ⟨hb, rfl, rfl⟩
  rotate_left
  · refine (show X _ _ 57 _ [.int (iI 0)] _ _ _ _ from ?_)
    rw [eN_f hb]
    refine y_if_eq 82 dX6_readPlan_57 (by decide) ⟨by omega, by omega⟩ (fun h => ?_) (fun h => ?_)
    · exact bad V3 _ _ (fr V3 _ (f3) c3) c3
    · omega
  refine (show X _ _ 57 _ [.int (iI 1)] _ _ _ _ from ?_)
  refine y_if_eq 82 dX6_readPlan_57 (by decide) ⟨by omega, by omega⟩ (fun h => ?_) (fun h => ?_)
  · omega
  rw [eN_t hb]
  have f4 : SF V V4 rd a q := SF_a hna (f3) s4
  have ra0_4 : V4 a 0 = x1 := by rw [s4.1 _ hna, u2_s, u1_n (by decide)]; exact ra0_3
  have ra1_4 : V4 a 1 = x2 := by rw [s4.1 _ hna, u2_s, u1_n (by decide)]; exact ra1_3
  have ra2_4 : V4 a 2 = tkX t e i3 := by rw [s4.1 _ hna, u2_s, u1_s]
  have b4 := (of_decide_eq_true hb).2
  clear hb
  generalize tkX t e i3 = x4 at *
  generalize tkN t e i3 = i4 at *
  clear s4 h
  refine x_aload_n dX6_readPlan_60 rfl ?_
  refine x_ldcsw dX6_readPlan_61 sX6_276 ?_
  refine (show X _ _ 64 _ _ _ _ _ _ from ?_)
  refine x_callV (As := [_]) (mc := 0) (ms := 0) (z := mX6_takeWord) (ci := 6) dX6_readPlan_64 lX6_199 oX6_takeWord (by decide) (by first | assumption) rfl rfl (Nat.le_of_ble_eq_true rfl) (Nat.le_of_ble_eq_true rfl) rfl (q_word (j := 11) (by decide) hS c4 he ht) (fun v M1 hq => ?_)
  rcases hq with ⟨hb, rfl, V5, rfl, c5, s5⟩ | ⟨hb, rfl, rfl⟩
  rotate_left
  · refine (show X _ _ 67 _ [.int (iI 0)] _ _ _ _ from ?_)
    rw [eW_f hb]
    refine y_if_eq 82 dX6_readPlan_67 (by decide) ⟨by omega, by omega⟩ (fun h => ?_) (fun h => ?_)
    · exact bad V4 _ _ (fr V4 _ (f4) c4) c4
    · omega
  refine (show X _ _ 67 _ [.int (iI 1)] _ _ _ _ from ?_)
  refine y_if_eq 82 dX6_readPlan_67 (by decide) ⟨by omega, by omega⟩ (fun h => ?_) (fun h => ?_)
  · omega
  rw [eW_t hb]
  have f5 : SF V V5 rd a q := SF_w (f4) s5
  have ra0_5 : V5 a 0 = x1 := by rw [s5.1 _ hna]; exact ra0_4
  have ra1_5 : V5 a 1 = x2 := by rw [s5.1 _ hna]; exact ra1_4
  have ra2_5 : V5 a 2 = x4 := by rw [s5.1 _ hna]; exact ra2_4
  clear hb
  generalize tkN t e i4 = i5 at *
  clear s5 h
  refine x_aload_n dX6_readPlan_70 rfl ?_
  refine x_aload_n dX6_readPlan_71 rfl ?_
  refine y_iconst dX6_readPlan_72 ?_
  refine y_iconst dX6_readPlan_73 ?_
  refine y_bipush dX6_readPlan_74 rfl ?_
  refine (show X _ _ 76 _ _ _ _ _ _ from ?_)
  refine x_callV (As := [_, _, _, _]) (mc := 0) (ms := 0) (z := mX6_takeWhole) (ci := 6) dX6_readPlan_76 lX6_202 oX6_takeWhole (by decide) (by first | assumption) rfl rfl (Nat.le_of_ble_eq_true rfl) (Nat.le_of_ble_eq_true rfl) rfl (q_whole (a := a) (p := 3) (lo := 1) (hi := 99) hTa (by omega) (by omega) ⟨by omega, by omega⟩ ⟨by omega, by omega⟩ hS c5 he ht) (fun v M1 hq => ?_)
  rcases hq with ⟨hb, rfl, V6, rfl, c6, s6⟩ | ⟨hb, rfl, rfl⟩
  rotate_left
  · refine (show X _ _ 79 _ [.int (iI 0)] _ _ _ _ from ?_)
    rw [eN_f hb]
    refine y_if_ne 84 dX6_readPlan_79 (by decide) ⟨by omega, by omega⟩ (fun h => ?_) (fun h => ?_)
    · omega
    · exact bad V5 _ _ (fr V5 _ (f5) c5) c5
  refine (show X _ _ 79 _ [.int (iI 1)] _ _ _ _ from ?_)
  refine y_if_ne 84 dX6_readPlan_79 (by decide) ⟨by omega, by omega⟩ (fun h => ?_) (fun h => ?_)
  rotate_left
  · omega
  rw [eN_t hb]
  have f6 : SF V V6 rd a q := SF_a hna (f5) s6
  have ra0_6 : V6 a 0 = x1 := by rw [s6.1 _ hna, u2_s, u1_n (by decide)]; exact ra0_5
  have ra1_6 : V6 a 1 = x2 := by rw [s6.1 _ hna, u2_s, u1_n (by decide)]; exact ra1_5
  have ra2_6 : V6 a 2 = x4 := by rw [s6.1 _ hna, u2_s, u1_n (by decide)]; exact ra2_5
  have ra3_6 : V6 a 3 = tkX t e i5 := by rw [s6.1 _ hna, u2_s, u1_s]
  have b6 := (of_decide_eq_true hb).2
  clear hb
  generalize tkX t e i5 = x6 at *
  generalize tkN t e i5 = i6 at *
  clear s6 h
  refine x_aload_n dX6_readPlan_84 rfl ?_
  refine x_gr dX6_readPlan_85 fX6_12 (by first | assumption) (fun _ _ _ => rfl) (by first | assumption) ?_
  refine x_dup dX6_readPlan_88 rfl ?_
  refine y_gi dX6_readPlan_89 fX6_143 (by first | assumption) (fun _ _ _ => rfl) ?_
  refine (show X _ _ 92 _ _ _ _ _ _ from ?_)
  refine X.val (fy _ 4 (by decide) f6) ?_
  refine y_iconst dX6_readPlan_92 ?_
  refine y_iadd dX6_readPlan_93 ?_
  refine y_pi dX6_readPlan_94 (pX6_143 _) (by first | assumption) (fun _ _ _ => rfl) rfl rfl ?_
  refine y_iconst dX6_readPlan_97 ?_
  refine (show X _ _ 98 _ _ _ _ _ _ from ?_)
  exact x_zreturn dX6_readPlan_98 rfl rfl (rq_ok hsep (fr _ _ f6 c6) c6 (NR_SF hN f6 (by omega) (by omega)) ((f6.2 1 (by omega)).trans h01) (by unfold aPlan; simp [u2_ap]) (fun r c h1 h2 => by unfold aPlan; simp only [u2_ap]; (repeat' split) <;> first | rfl | omega) (FC_Plan hF hVA (by omega) (fun b h1 h2 h3 => by rw [u2_n (by omega)]; exact f6.1 b (by omega) (by omega) (by omega)) (fun c h1 h2 => by rw [u2_s, u1_n h1]; exact congrFun (f6.1 f (by omega) (by omega) (by omega)) c) (by rw [u2_s, u1_s]) (by rw [← ha, u2_n (by omega)]; exact ra0_6) (by rw [← ha, u2_n (by omega)]; exact ra1_6) (by rw [← ha, u2_n (by omega)]; exact ra2_6) (by rw [← ha, u2_n (by omega)]; exact ra3_6)))

theorem q_readDiary  (hB : BX T R rd tx q f) {y : Int} (hP : VP A) (hY : 4 ≤ A 0 0) (hroom : A 0 8 < 8) (hR : RI t V A rd tx q f e i) (he : e ≤ 1100) (ht : ∀ j, j < 1100 → -128 ≤ t j ∧ t j ≤ 127) : X g mX6_readDiary 0 [.ref rd, .ref (f + 35 + (A 0 8).toNat), .int (iI y)] [] (T, iV V, R, J, z) k n (RQ T R J z t V rd tx q f e (pDiar t e A i y)) := by
  obtain ⟨hS, hD, hFS, rd0, hsep⟩ := hB
  obtain ⟨hc, hF, hN, h01⟩ := hR
  have hVA := hP.1
  obtain ⟨hA0, hA1, hA2, hA3, hA4, hA5, hA6, hA7, hA8, hAp, hApl, hAb, hAs, hAh, hAd⟩ := hP.1
  have hs0 := hS.1
  have hf0 := hFS.1
  have hTh : T (q + 4) = (1, 3) := hD.2.2.2.2.2
  have hRh : R rd 17 = some (q + 4) := hD.1.2.2.2.2
  have hnh : q + 4 ≠ rd := by omega
  have hf := fun (U : Nat → Nat → Int) (x : Int) => c_failAtName (g := g) (J := J) (z := z) (k := 0) (n := 0) (V := U) (x := x) hS
  have hTa : T (f + 35 + (A 0 8).toNat) = (1, 3) := (hFS.2.2.2.2.2.2 _ (by omega)).2
  obtain ⟨a, ha⟩ : ∃ a, a = f + 35 + (A 0 8).toNat := ⟨_, rfl⟩
  rw [← ha] at hTa ⊢
  have hna : a ≠ rd := by omega
  have fr : ∀ (U : Nat → Nat → Int) (i' : Nat), SF V U rd a q → CU t U rd tx e i' → FRM V U rd q f := fun U i' h1 h2 => FRM_SF (FRM_refl hc.2.2.2.2.2.2.2.2) h1 (by omega) h2.2.2.2.2.2.2.2.2
  have fy : ∀ (U : Nat → Nat → Int) (c : Nat), c < 9 → SF V U rd a q → U f c = A 0 c := fun U c hc9 h1 => by rw [h1.1 f (by omega) (by omega) (by omega)]; exact hF.1 c hc9
  have bad : ∀ (U : Nat → Nat → Int) (c : Int) (i' : Nat), FRM V U rd q f → CU t U rd tx e i' → X g mX6_readDiary 33 [.ref rd, .ref a, .int (iI y)] [] (T, iV (flE U rd c), R, J, z) k n (RQ T R J z t V rd tx q f e (.inl (c, tkS t e i'))) := by
    intro U c i' hs hu
    refine y_iconst dX6_readDiary_33 ?_
    refine (show X _ _ 34 _ _ _ _ _ _ from ?_)
    exact x_zreturn dX6_readDiary_34 rfl rfl (rq_fl hs hu)
  unfold pDiar
  refine x_aload_n dX6_readDiary_0 rfl ?_
  refine y_iconst dX6_readDiary_1 ?_
  refine x_iload_n dX6_readDiary_2 rfl ?_
  refine y_iast (2) dX6_readDiary_3 (by first | assumption) (by first | rfl | omega) (by omega) (by decide) ?_
  refine (show X _ _ 4 _ _ _ _ _ _ from ?_)
  have c0 : CU t (u2 V a 2 y) rd tx e i := CU_u2 hc (by omega) (by omega)
  have f0 : SF V (u2 V a 2 y) rd a q := ⟨fun b h1 h2 h3 => u2_n h2, fun c hc => by rw [u2_n hna.symm]⟩
  have ra2_0 : u2 V a 2 y a 2 = y := by rw [u2_s, u1_s]
  generalize u2 V a 2 y = V0 at *
  refine x_aload_n dX6_readDiary_4 rfl ?_
  refine x_aload_n dX6_readDiary_5 rfl ?_
  refine y_iconst dX6_readDiary_6 ?_
  refine y_iconst dX6_readDiary_7 ?_
  refine x_aload_n dX6_readDiary_8 rfl ?_
  refine x_gr dX6_readDiary_9 fX6_12 (by first | assumption) (fun _ _ _ => rfl) (by first | assumption) ?_
  refine y_gi dX6_readDiary_12 fX6_156 (by first | assumption) (fun _ _ _ => rfl) ?_
  refine (show X _ _ 15 _ _ _ _ _ _ from ?_)
  refine X.val (fy _ 0 (by decide) f0) ?_
  refine y_iconst dX6_readDiary_15 ?_
  refine y_isub dX6_readDiary_16 ?_
  refine (show X _ _ 17 _ _ _ _ _ _ from ?_)
  refine x_callV (As := [_, _, _, _]) (mc := 0) (ms := 0) (z := mX6_takeWhole) (ci := 6) dX6_readDiary_17 lX6_202 oX6_takeWhole (by decide) (by first | assumption) rfl rfl (Nat.le_of_ble_eq_true rfl) (Nat.le_of_ble_eq_true rfl) rfl (q_whole (a := a) (p := 0) (lo := 0) (hi := A 0 0 - 1) hTa (by omega) (by omega) ⟨by omega, by omega⟩ ⟨by omega, by omega⟩ hS c0 he ht) (fun v M1 hq => ?_)
  rcases hq with ⟨hb, rfl, V1, rfl, c1, s1⟩ | ⟨hb, rfl, rfl⟩
  rotate_left
  · refine (show X _ _ 20 _ [.int (iI 0)] _ _ _ _ from ?_)
    rw [eN_f hb]
    refine y_if_eq 33 dX6_readDiary_20 (by decide) ⟨by omega, by omega⟩ (fun h => ?_) (fun h => ?_)
    · exact bad V0 _ _ (fr V0 _ (f0) c0) c0
    · omega
  refine (show X _ _ 20 _ [.int (iI 1)] _ _ _ _ from ?_)
  refine y_if_eq 33 dX6_readDiary_20 (by decide) ⟨by omega, by omega⟩ (fun h => ?_) (fun h => ?_)
  · omega
  rw [eN_t hb]
  have f1 : SF V V1 rd a q := SF_a hna (f0) s1
  have ra2_1 : V1 a 2 = y := by rw [s1.1 _ hna, u2_s, u1_n (by decide)]; exact ra2_0
  have ra0_1 : V1 a 0 = tkX t e i := by rw [s1.1 _ hna, u2_s, u1_s]
  have b1 := (of_decide_eq_true hb).2
  clear hb
  generalize tkX t e i = x1 at *
  generalize tkN t e i = i1 at *
  clear s1 h
  refine x_aload_n dX6_readDiary_23 rfl ?_
  refine x_aload_n dX6_readDiary_24 rfl ?_
  refine y_iconst dX6_readDiary_25 ?_
  refine y_iconst dX6_readDiary_26 ?_
  refine (show X _ _ 27 _ _ _ _ _ _ from ?_)
  refine x_callV (As := [_, _, _]) (mc := 0) (ms := 0) (z := mX6_takeName) (ci := 6) dX6_readDiary_27 lX6_270 oX6_takeName (by decide) (by first | assumption) rfl rfl (Nat.le_of_ble_eq_true rfl) (Nat.le_of_ble_eq_true rfl) rfl (q_takeName (a := a) (p := 1) (c := false) hTa (by omega) (by omega) (fun k hk => (hP.2.2.2.1 k hk).1) hD (NR_SF hN (f1) (by omega) (by omega)) hS c1 he ht) (fun v M1 hq => ?_)
  rcases hq with ⟨hb, rfl, V2, rfl, c2, s2⟩ | ⟨hb, rfl, rfl⟩
  rotate_left
  · refine (show X _ _ 30 _ [.int (iI 0)] _ _ _ _ from ?_)
    rw [eM_f (c := 0) hb]
    refine y_if_ne 35 dX6_readDiary_30 (by decide) ⟨by omega, by omega⟩ (fun h => ?_) (fun h => ?_)
    · omega
    · exact bad V1 _ _ (fr V1 _ (f1) c1) c1
  refine (show X _ _ 30 _ [.int (iI 1)] _ _ _ _ from ?_)
  refine y_if_ne 35 dX6_readDiary_30 (by decide) ⟨by omega, by omega⟩ (fun h => ?_) (fun h => ?_)
  rotate_left
  · omega
  rw [eM_t (c := 0) hb]
  have f2 : SF V V2 rd a q := SF_am hna (f1) s2
  have ra2_2 : V2 a 2 = y := by rw [s2.1 _ hna, u2_n hna, u2_s, u1_n (by decide)]; exact ra2_1
  have ra0_2 : V2 a 0 = x1 := by rw [s2.1 _ hna, u2_n hna, u2_s, u1_n (by decide)]; exact ra0_1
  have ra1_2 : V2 a 1 = nmX t e A i1 := by rw [s2.1 _ hna, u2_n hna, u2_s, u1_s]
  have b2 := nm_b0 hP hb
  have l2 : V2 rd 11 = ((tkS t e i1 : Nat) : Int) := by rw [s2.2 11 (by omega), u2_s, u1_s]
  clear hb
  generalize nmX t e A i1 = x2 at *
  generalize tkN t e i1 = i2 at *
  clear s2 h
  refine x_aload_n dX6_readDiary_35 rfl ?_
  refine x_gr dX6_readDiary_36 fX6_12 (by first | assumption) (fun _ _ _ => rfl) (by first | assumption) ?_
  refine x_dup dX6_readDiary_39 rfl ?_
  refine y_gi dX6_readDiary_40 fX6_153 (by first | assumption) (fun _ _ _ => rfl) ?_
  refine (show X _ _ 43 _ _ _ _ _ _ from ?_)
  refine X.val (fy _ 8 (by decide) f2) ?_
  refine y_iconst dX6_readDiary_43 ?_
  refine y_iadd dX6_readDiary_44 ?_
  refine y_pi dX6_readDiary_45 (pX6_153 _) (by first | assumption) (fun _ _ _ => rfl) rfl rfl ?_
  refine y_iconst dX6_readDiary_48 ?_
  refine (show X _ _ 49 _ _ _ _ _ _ from ?_)
  exact x_zreturn dX6_readDiary_49 rfl rfl (rq_ok hsep (fr _ _ f2 c2) c2 (NR_SF hN f2 (by omega) (by omega)) ((f2.2 1 (by omega)).trans h01) (by unfold aDiar; simp [u2_ap]) (fun r c h1 h2 => by unfold aDiar; simp only [u2_ap]; (repeat' split) <;> first | rfl | omega) (FC_Diar hF hVA (by omega) (fun b h1 h2 h3 => by rw [u2_n (by omega)]; exact f2.1 b (by omega) (by omega) (by omega)) (fun c h1 h2 => by rw [u2_s, u1_n h1]; exact congrFun (f2.1 f (by omega) (by omega) (by omega)) c) (by rw [u2_s, u1_s]) (by rw [← ha, u2_n (by omega)]; exact ra0_2) (by rw [← ha, u2_n (by omega)]; exact ra1_2) (by rw [← ha, u2_n (by omega)]; exact ra2_2)))

theorem q_readBuys  (hB : BX T R rd tx q f) (hP : VP A) (hY : 4 ≤ A 0 0) (hroom : A 0 5 < 8) (hR : RI t V A rd tx q f e i) (he : e ≤ 1100) (ht : ∀ j, j < 1100 → -128 ≤ t j ∧ t j ≤ 127) : X g mX6_readBuys 0 [.ref rd, .ref (f + 26 + (A 0 5).toNat)] [] (T, iV V, R, J, z) k n (RQ T R J z t V rd tx q f e (pBuys t e A i)) := by
  obtain ⟨hS, hD, hFS, rd0, hsep⟩ := hB
  obtain ⟨hc, hF, hN, h01⟩ := hR
  have hVA := hP.1
  obtain ⟨hA0, hA1, hA2, hA3, hA4, hA5, hA6, hA7, hA8, hAp, hApl, hAb, hAs, hAh, hAd⟩ := hP.1
  have hs0 := hS.1
  have hf0 := hFS.1
  have hTh : T (q + 4) = (1, 3) := hD.2.2.2.2.2
  have hRh : R rd 17 = some (q + 4) := hD.1.2.2.2.2
  have hnh : q + 4 ≠ rd := by omega
  have hf := fun (U : Nat → Nat → Int) (x : Int) => c_failAtName (g := g) (J := J) (z := z) (k := 0) (n := 0) (V := U) (x := x) hS
  have hTa : T (f + 26 + (A 0 5).toNat) = (1, 4) := (hFS.2.2.2.2.2.1 _ (by omega)).2
  obtain ⟨a, ha⟩ : ∃ a, a = f + 26 + (A 0 5).toNat := ⟨_, rfl⟩
  rw [← ha] at hTa ⊢
  have hna : a ≠ rd := by omega
  have fr : ∀ (U : Nat → Nat → Int) (i' : Nat), SF V U rd a q → CU t U rd tx e i' → FRM V U rd q f := fun U i' h1 h2 => FRM_SF (FRM_refl hc.2.2.2.2.2.2.2.2) h1 (by omega) h2.2.2.2.2.2.2.2.2
  have fy : ∀ (U : Nat → Nat → Int) (c : Nat), c < 9 → SF V U rd a q → U f c = A 0 c := fun U c hc9 h1 => by rw [h1.1 f (by omega) (by omega) (by omega)]; exact hF.1 c hc9
  have bad : ∀ (U : Nat → Nat → Int) (c : Int) (i' : Nat), FRM V U rd q f → CU t U rd tx e i' → X g mX6_readBuys 39 [.ref rd, .ref a] [] (T, iV (flE U rd c), R, J, z) k n (RQ T R J z t V rd tx q f e (.inl (c, tkS t e i'))) := by
    intro U c i' hs hu
    refine y_iconst dX6_readBuys_39 ?_
    refine (show X _ _ 40 _ _ _ _ _ _ from ?_)
    exact x_zreturn dX6_readBuys_40 rfl rfl (rq_fl hs hu)
  unfold pBuys
  refine x_aload_n dX6_readBuys_0 rfl ?_
  refine x_aload_n dX6_readBuys_1 rfl ?_
  refine y_iconst dX6_readBuys_2 ?_
  refine y_iconst dX6_readBuys_3 ?_
  refine x_aload_n dX6_readBuys_4 rfl ?_
  refine x_gr dX6_readBuys_5 fX6_12 (by first | assumption) (fun _ _ _ => rfl) (by first | assumption) ?_
  refine y_gi dX6_readBuys_8 fX6_156 (by first | assumption) (fun _ _ _ => rfl) ?_
  refine (show X _ _ 11 _ _ _ _ _ _ from ?_)
  refine X.val (fy _ 0 (by decide) (show SF V V rd a q from SF_refl)) ?_
  refine y_iconst dX6_readBuys_11 ?_
  refine y_isub dX6_readBuys_12 ?_
  refine (show X _ _ 13 _ _ _ _ _ _ from ?_)
  refine x_callV (As := [_, _, _, _]) (mc := 0) (ms := 0) (z := mX6_takeWhole) (ci := 6) dX6_readBuys_13 lX6_202 oX6_takeWhole (by decide) (by first | assumption) rfl rfl (Nat.le_of_ble_eq_true rfl) (Nat.le_of_ble_eq_true rfl) rfl (q_whole (a := a) (p := 0) (lo := 0) (hi := A 0 0 - 1) hTa (by omega) (by omega) ⟨by omega, by omega⟩ ⟨by omega, by omega⟩ hS hc he ht) (fun v M1 hq => ?_)
  rcases hq with ⟨hb, rfl, V1, rfl, c1, s1⟩ | ⟨hb, rfl, rfl⟩
  rotate_left
  · refine (show X _ _ 16 _ [.int (iI 0)] _ _ _ _ from ?_)
    rw [eN_f hb]
    refine y_if_eq 39 dX6_readBuys_16 (by decide) ⟨by omega, by omega⟩ (fun h => ?_) (fun h => ?_)
    · exact bad V _ _ (fr V _ (show SF V V rd a q from SF_refl) hc) hc
    · omega
  refine (show X _ _ 16 _ [.int (iI 1)] _ _ _ _ from ?_)
  refine y_if_eq 39 dX6_readBuys_16 (by decide) ⟨by omega, by omega⟩ (fun h => ?_) (fun h => ?_)
  · omega
  rw [eN_t hb]
  have f1 : SF V V1 rd a q := SF_a hna (show SF V V rd a q from SF_refl) s1
  have ra0_1 : V1 a 0 = tkX t e i := by rw [s1.1 _ hna, u2_s, u1_s]
  have b1 := (of_decide_eq_true hb).2
  clear hb
  generalize tkX t e i = x1 at *
  generalize tkN t e i = i1 at *
  clear s1 h
  refine x_aload_n dX6_readBuys_19 rfl ?_
  refine x_aload_n dX6_readBuys_20 rfl ?_
  refine y_iconst dX6_readBuys_21 ?_
  refine y_iconst dX6_readBuys_22 ?_
  refine (show X _ _ 23 _ _ _ _ _ _ from ?_)
  refine x_callV (As := [_, _, _]) (mc := 0) (ms := 0) (z := mX6_takeName) (ci := 6) dX6_readBuys_23 lX6_270 oX6_takeName (by decide) (by first | assumption) rfl rfl (Nat.le_of_ble_eq_true rfl) (Nat.le_of_ble_eq_true rfl) rfl (q_takeName (a := a) (p := 1) (c := false) hTa (by omega) (by omega) (fun k hk => (hP.2.2.2.1 k hk).1) hD (NR_SF hN (f1) (by omega) (by omega)) hS c1 he ht) (fun v M1 hq => ?_)
  rcases hq with ⟨hb, rfl, V2, rfl, c2, s2⟩ | ⟨hb, rfl, rfl⟩
  rotate_left
  · refine (show X _ _ 26 _ [.int (iI 0)] _ _ _ _ from ?_)
    rw [eM_f (c := 0) hb]
    refine y_if_eq 39 dX6_readBuys_26 (by decide) ⟨by omega, by omega⟩ (fun h => ?_) (fun h => ?_)
    · exact bad V1 _ _ (fr V1 _ (f1) c1) c1
    · omega
  refine (show X _ _ 26 _ [.int (iI 1)] _ _ _ _ from ?_)
  refine y_if_eq 39 dX6_readBuys_26 (by decide) ⟨by omega, by omega⟩ (fun h => ?_) (fun h => ?_)
  · omega
  rw [eM_t (c := 0) hb]
  have f2 : SF V V2 rd a q := SF_am hna (f1) s2
  have ra0_2 : V2 a 0 = x1 := by rw [s2.1 _ hna, u2_n hna, u2_s, u1_n (by decide)]; exact ra0_1
  have ra1_2 : V2 a 1 = nmX t e A i1 := by rw [s2.1 _ hna, u2_n hna, u2_s, u1_s]
  have b2 := nm_b0 hP hb
  have l2 : V2 rd 11 = ((tkS t e i1 : Nat) : Int) := by rw [s2.2 11 (by omega), u2_s, u1_s]
  clear hb
  generalize nmX t e A i1 = x2 at *
  generalize tkN t e i1 = i2 at *
  clear s2 h
  refine x_aload_n dX6_readBuys_29 rfl ?_
  refine x_aload_n dX6_readBuys_30 rfl ?_
  refine y_iconst dX6_readBuys_31 ?_
  refine y_iconst dX6_readBuys_32 ?_
  refine (show X _ _ 33 _ _ _ _ _ _ from ?_)
  refine x_callV (As := [_, _, _]) (mc := 0) (ms := 0) (z := mX6_takeName) (ci := 6) dX6_readBuys_33 lX6_270 oX6_takeName (by decide) (by first | assumption) rfl rfl (Nat.le_of_ble_eq_true rfl) (Nat.le_of_ble_eq_true rfl) rfl (q_takeName (a := a) (p := 2) (c := false) hTa (by omega) (by omega) (fun k hk => (hP.2.2.2.1 k hk).1) hD (NR_SF hN (f2) (by omega) (by omega)) hS c2 he ht) (fun v M1 hq => ?_)
  rcases hq with ⟨hb, rfl, V3, rfl, c3, s3⟩ | ⟨hb, rfl, rfl⟩
  rotate_left
  · refine (show X _ _ 36 _ [.int (iI 0)] _ _ _ _ from ?_)
    rw [eM_f (c := 0) hb]
    refine y_if_ne 41 dX6_readBuys_36 (by decide) ⟨by omega, by omega⟩ (fun h => ?_) (fun h => ?_)
    · omega
    · exact bad V2 _ _ (fr V2 _ (f2) c2) c2
  refine (show X _ _ 36 _ [.int (iI 1)] _ _ _ _ from ?_)
  refine y_if_ne 41 dX6_readBuys_36 (by decide) ⟨by omega, by omega⟩ (fun h => ?_) (fun h => ?_)
  rotate_left
  · omega
  rw [eM_t (c := 0) hb]
  have f3 : SF V V3 rd a q := SF_am hna (f2) s3
  have ra0_3 : V3 a 0 = x1 := by rw [s3.1 _ hna, u2_n hna, u2_s, u1_n (by decide)]; exact ra0_2
  have ra1_3 : V3 a 1 = x2 := by rw [s3.1 _ hna, u2_n hna, u2_s, u1_n (by decide)]; exact ra1_2
  have ra2_3 : V3 a 2 = nmX t e A i2 := by rw [s3.1 _ hna, u2_n hna, u2_s, u1_s]
  have b3 := nm_b0 hP hb
  have l3 : V3 rd 11 = ((tkS t e i2 : Nat) : Int) := by rw [s3.2 11 (by omega), u2_s, u1_s]
  clear hb
  generalize nmX t e A i2 = x3 at *
  generalize tkN t e i2 = i3 at *
  clear s3 h
  refine x_aload_n dX6_readBuys_41 rfl ?_
  refine y_iconst dX6_readBuys_42 ?_
  refine y_iald (2) dX6_readBuys_43 (by first | assumption) (by first | rfl | omega) (by omega) (by decide) ?_
  refine (show X _ _ 44 _ _ _ _ _ _ from ?_)
  refine X.val ra2_3 ?_
  refine x_aload_n dX6_readBuys_44 rfl ?_
  refine y_iconst dX6_readBuys_45 ?_
  refine y_iald (1) dX6_readBuys_46 (by first | assumption) (by first | rfl | omega) (by omega) (by decide) ?_
  refine (show X _ _ 47 _ _ _ _ _ _ from ?_)
  refine X.val ra1_3 ?_
  refine y_icmp_ne 56 dX6_readBuys_47 (by decide) ⟨by omega, by omega⟩ ⟨by omega, by omega⟩ (fun hx => ?_) (fun hx => ?_)
  rotate_left
  · rw [if_pos hx]
    refine x_aload_n dX6_readBuys_50 rfl ?_
    refine y_iconst dX6_readBuys_51 ?_
    refine (show X _ _ 52 _ _ _ _ _ _ from ?_)
    refine x_callV (As := [_]) (mc := 0) (ms := 0) (z := mX6_failAtName) (ci := 6) dX6_readBuys_52 lX6_278 oX6_failAtName (by decide) (by first | assumption) rfl rfl (Nat.le_of_ble_eq_true rfl) (Nat.le_of_ble_eq_true rfl) rfl (hf _ _) (k_I ?_)
    refine (show X _ _ 55 _ _ _ _ _ _ from ?_)
    exact x_zreturn dX6_readBuys_55 rfl rfl (rq_nm (fr _ _ f3 c3) l3)
  rw [if_neg hx]
  have bad2 : ∀ (U : Nat → Nat → Int) (c : Int) (i' : Nat), FRM V U rd q f → CU t U rd tx e i' → X g mX6_readBuys 78 [.ref rd, .ref a] [] (T, iV (flE U rd c), R, J, z) k n (RQ T R J z t V rd tx q f e (.inl (c, tkS t e i'))) := by
    intro U c i' hs hu
    refine y_iconst dX6_readBuys_78 ?_
    refine (show X _ _ 79 _ _ _ _ _ _ from ?_)
    exact x_zreturn dX6_readBuys_79 rfl rfl (rq_fl hs hu)
  refine x_aload_n dX6_readBuys_56 rfl ?_
  refine x_ldcsw dX6_readBuys_57 sX6_281 ?_
  refine (show X _ _ 60 _ _ _ _ _ _ from ?_)
  refine x_callV (As := [_]) (mc := 0) (ms := 0) (z := mX6_takeWord) (ci := 6) dX6_readBuys_60 lX6_199 oX6_takeWord (by decide) (by first | assumption) rfl rfl (Nat.le_of_ble_eq_true rfl) (Nat.le_of_ble_eq_true rfl) rfl (q_word (j := 21) (by decide) hS c3 he ht) (fun v M1 hq => ?_)
  rcases hq with ⟨hb, rfl, V4, rfl, c4, s4⟩ | ⟨hb, rfl, rfl⟩
  rotate_left
  · refine (show X _ _ 63 _ [.int (iI 0)] _ _ _ _ from ?_)
    rw [eW_f hb]
    refine y_if_eq 78 dX6_readBuys_63 (by decide) ⟨by omega, by omega⟩ (fun h => ?_) (fun h => ?_)
    · exact bad2 V3 _ _ (fr V3 _ (f3) c3) c3
    · omega
  refine (show X _ _ 63 _ [.int (iI 1)] _ _ _ _ from ?_)
  refine y_if_eq 78 dX6_readBuys_63 (by decide) ⟨by omega, by omega⟩ (fun h => ?_) (fun h => ?_)
  · omega
  rw [eW_t hb]
  have f4 : SF V V4 rd a q := SF_w (f3) s4
  have ra0_4 : V4 a 0 = x1 := by rw [s4.1 _ hna]; exact ra0_3
  have ra1_4 : V4 a 1 = x2 := by rw [s4.1 _ hna]; exact ra1_3
  have ra2_4 : V4 a 2 = x3 := by rw [s4.1 _ hna]; exact ra2_3
  clear hb
  generalize tkN t e i3 = i4 at *
  clear s4 h
  refine x_aload_n dX6_readBuys_66 rfl ?_
  refine x_aload_n dX6_readBuys_67 rfl ?_
  refine y_iconst dX6_readBuys_68 ?_
  refine y_iconst dX6_readBuys_69 ?_
  refine y_bipush dX6_readBuys_70 rfl ?_
  refine (show X _ _ 72 _ _ _ _ _ _ from ?_)
  refine x_callV (As := [_, _, _, _]) (mc := 0) (ms := 0) (z := mX6_takeWhole) (ci := 6) dX6_readBuys_72 lX6_202 oX6_takeWhole (by decide) (by first | assumption) rfl rfl (Nat.le_of_ble_eq_true rfl) (Nat.le_of_ble_eq_true rfl) rfl (q_whole (a := a) (p := 3) (lo := 0) (hi := 99) hTa (by omega) (by omega) ⟨by omega, by omega⟩ ⟨by omega, by omega⟩ hS c4 he ht) (fun v M1 hq => ?_)
  rcases hq with ⟨hb, rfl, V5, rfl, c5, s5⟩ | ⟨hb, rfl, rfl⟩
  rotate_left
  · refine (show X _ _ 75 _ [.int (iI 0)] _ _ _ _ from ?_)
    rw [eN_f hb]
    refine y_if_ne 80 dX6_readBuys_75 (by decide) ⟨by omega, by omega⟩ (fun h => ?_) (fun h => ?_)
    · omega
    · exact bad2 V4 _ _ (fr V4 _ (f4) c4) c4
  refine (show X _ _ 75 _ [.int (iI 1)] _ _ _ _ from ?_)
  refine y_if_ne 80 dX6_readBuys_75 (by decide) ⟨by omega, by omega⟩ (fun h => ?_) (fun h => ?_)
  rotate_left
  · omega
  rw [eN_t hb]
  have f5 : SF V V5 rd a q := SF_a hna (f4) s5
  have ra0_5 : V5 a 0 = x1 := by rw [s5.1 _ hna, u2_s, u1_n (by decide)]; exact ra0_4
  have ra1_5 : V5 a 1 = x2 := by rw [s5.1 _ hna, u2_s, u1_n (by decide)]; exact ra1_4
  have ra2_5 : V5 a 2 = x3 := by rw [s5.1 _ hna, u2_s, u1_n (by decide)]; exact ra2_4
  have ra3_5 : V5 a 3 = tkX t e i4 := by rw [s5.1 _ hna, u2_s, u1_s]
  have b5 := (of_decide_eq_true hb).2
  clear hb
  generalize tkX t e i4 = x5 at *
  generalize tkN t e i4 = i5 at *
  clear s5 h
  refine x_aload_n dX6_readBuys_80 rfl ?_
  refine x_gr dX6_readBuys_81 fX6_12 (by first | assumption) (fun _ _ _ => rfl) (by first | assumption) ?_
  refine x_dup dX6_readBuys_84 rfl ?_
  refine y_gi dX6_readBuys_85 fX6_146 (by first | assumption) (fun _ _ _ => rfl) ?_
  refine (show X _ _ 88 _ _ _ _ _ _ from ?_)
  refine X.val (fy _ 5 (by decide) f5) ?_
  refine y_iconst dX6_readBuys_88 ?_
  refine y_iadd dX6_readBuys_89 ?_
  refine y_pi dX6_readBuys_90 (pX6_146 _) (by first | assumption) (fun _ _ _ => rfl) rfl rfl ?_
  refine y_iconst dX6_readBuys_93 ?_
  refine (show X _ _ 94 _ _ _ _ _ _ from ?_)
  exact x_zreturn dX6_readBuys_94 rfl rfl (rq_ok hsep (fr _ _ f5 c5) c5 (NR_SF hN f5 (by omega) (by omega)) ((f5.2 1 (by omega)).trans h01) (by unfold aBuys; simp [u2_ap]) (fun r c h1 h2 => by unfold aBuys; simp only [u2_ap]; (repeat' split) <;> first | rfl | omega) (FC_Buys hF hVA (by omega) (fun b h1 h2 h3 => by rw [u2_n (by omega)]; exact f5.1 b (by omega) (by omega) (by omega)) (fun c h1 h2 => by rw [u2_s, u1_n h1]; exact congrFun (f5.1 f (by omega) (by omega) (by omega)) c) (by rw [u2_s, u1_s]) (by rw [← ha, u2_n (by omega)]; exact ra0_5) (by rw [← ha, u2_n (by omega)]; exact ra1_5) (by rw [← ha, u2_n (by omega)]; exact ra2_5) (by rw [← ha, u2_n (by omega)]; exact ra3_5)))

end C50
