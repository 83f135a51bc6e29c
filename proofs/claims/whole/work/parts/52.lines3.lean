/-! ===== Reader: secret, person ===== -/
theorem FC_eq {V V' A : Nat → Nat → Int} {f : Nat} (hF : FC V f A) (hA : VA A) (h : ∀ b, f ≤ b → b < f + 45 → V' b = V b) : FC V' f A := by
  obtain ⟨hA0, hA1, hA2, hA3, hA4, hA5, hA6, hA7, hA8, -⟩ := hA
  obtain ⟨g0, g1, g2, g3, g4, g5, g6⟩ := hF
  refine ⟨fun j hj => ?_, fun i hi j hj => ?_, fun i hi j hj => ?_, fun i hi j hj => ?_, fun i hi j hj => ?_, fun s hs => ?_, fun j hj => ?_⟩
  · rw [h f (by omega) (by omega)]; exact g0 j hj
  · have hi2 : i < (A 0 3).toNat := hi
    rw [h _ (by omega) (by omega)]; exact g1 i hi j hj
  · have hi2 : i < (A 0 4).toNat := hi
    rw [h _ (by omega) (by omega)]; exact g2 i hi j hj
  · have hi2 : i < (A 0 5).toNat := hi
    rw [h _ (by omega) (by omega)]; exact g3 i hi j hj
  · have hi2 : i < (A 0 8).toNat := hi
    rw [h _ (by omega) (by omega)]; exact g4 i hi j hj
  · rw [h _ (by omega) (by omega)]; exact g5 s hs
  · rw [h _ (by omega) (by omega)]; exact g6 j hj
theorem VA_eq {A A' : Nat → Nat → Int} (hA : VA A) (h0 : ∀ c, c < 9 → A' 0 c = A 0 c) (hr : ∀ r, 1 ≤ r → r < 21 → A' r = A r) : VA A' := by
  unfold VA fP fPl fBu fSe fDi
  rw [h0 0 (by decide), h0 1 (by decide), h0 2 (by decide), h0 3 (by decide), h0 4 (by decide), h0 5 (by decide), h0 6 (by decide), h0 7 (by decide), h0 8 (by decide), hr 1 (by decide) (by decide), hr 2 (by decide) (by decide), hr 3 (by decide) (by decide), hr 4 (by decide) (by decide), hr 5 (by decide) (by decide), hr 6 (by decide) (by decide), hr 7 (by decide) (by decide), hr 8 (by decide) (by decide), hr 9 (by decide) (by decide), hr 10 (by decide) (by decide), hr 11 (by decide) (by decide), hr 12 (by decide) (by decide), hr 13 (by decide) (by decide), hr 14 (by decide) (by decide), hr 15 (by decide) (by decide), hr 16 (by decide) (by decide), hr 17 (by decide) (by decide), hr 18 (by decide) (by decide), hr 19 (by decide) (by decide), hr 20 (by decide) (by decide)]
  exact hA
theorem VA_N {A : Nat → Nat → Int} {w sec num : Int} (hA : VA A) : VA (adN A w sec num) := VA_eq hA (fun c hc => adN_0 (by omega)) (fun r h1 h2 => funext fun c => adN_r (by omega) (Or.inl h2))
theorem aPers_9 {A : Nat → Nat → Int} {x0 x1 x2 x3 x4 x5 x6 : Int} : aPers A x0 x1 x2 x3 x4 x5 x6 0 9 = A 0 9 := by unfold aPers; simp [u2_ap]
theorem aPers_r {A : Nat → Nat → Int} {x0 x1 x2 x3 x4 x5 x6 : Int} (r c : Nat) (h1 : 21 ≤ r) (h2 : r < 24) : aPers A x0 x1 x2 x3 x4 x5 x6 r c = A r c := by unfold aPers; simp only [u2_ap]; (repeat' split) <;> first | rfl | omega
/-- behind a new name: what is as it was -/
theorem nw_o {V V1 A : Nat → Nat → Int} {rd q s len : Nat} {sec num : Int} (hq : rd < q) (s1 : S0 (nwV V A rd q s len sec num) V1 rd) : (∀ b, b ≠ rd → (b < q ∨ q + 4 ≤ b) → V1 b = V b) ∧ ∀ c, c < 6 → V1 rd c = V rd c := by
  refine ⟨fun b h1 h2 => ?_, fun c hc => ?_⟩
  · rw [s1.1 b h1]
    unfold nwV
    rw [u2_n h1, u2_n (by omega), u2_n (by omega), u2_n (by omega), u2_n (by omega)]
  · rw [s1.2 c (by omega)]
    unfold nwV
    rw [u2_s, u1_n (by omega), u2_n (by omega), u2_n (by omega), u2_n (by omega), u2_n (by omega)]
section C52
variable {g : GG} {T : Nat → Nat × Nat} {V A : Nat → Nat → Int} {R : Nat → Nat → Option Nat} {J : Nat → Nat → Int64} {z k n : Nat} {rd tx q f e i : Nat} {t : Nat → Int}

theorem q_readSecret  (hB : BX T R rd tx q f) (hP : VP A) (hroom : A 0 6 < 8) (hR : RI t V A rd tx q f e i) (he : e ≤ 1100) (ht : ∀ j, j < 1100 → -128 ≤ t j ∧ t j ≤ 127) : X g mX6_readSecret 0 [.ref rd] [] (T, iV V, R, J, z) k n (RQ T R J z t V rd tx q f e (pSecr t e A i)) := by
  obtain ⟨hS, hD, hFS, rd0, hsep⟩ := hB
  obtain ⟨hc, hF, hN, h01⟩ := hR
  have hVA := hP.1
  obtain ⟨hA0, hA1, hA2, hA3, hA4, hA5, hA6, hA7, hA8, hAp, hApl, hAb, hAs, hAh, hAd⟩ := hP.1
  have hs0 := hS.1
  have hf0 := hFS.1
  have hTh : T (q + 4) = (1, 3) := hD.2.2.2.2.2
  have hRh : R rd 17 = some (q + 4) := hD.1.2.2.2.2
  have hnh : q + 4 ≠ rd := by omega
  have hf := fun (U : Nat → Nat → Int) (x : Int) => c_failAtName (g := g) (J := J) (z := z) (k := 0) (n := 0) (V := U) (x := x) hS
  have fr : ∀ (U : Nat → Nat → Int) (i' : Nat), SF V U rd (f + 43) q → CU t U rd tx e i' → FRM V U rd q f := fun U i' h1 h2 => FRM_SF (FRM_refl hc.2.2.2.2.2.2.2.2) h1 (by omega) h2.2.2.2.2.2.2.2.2
  have fy : ∀ (U : Nat → Nat → Int) (c : Nat), c < 9 → SF V U rd (f + 43) q → U f c = A 0 c := fun U c hc9 h1 => by rw [h1.1 f (by omega) (by omega) (by omega)]; exact hF.1 c hc9
  have bad : ∀ (U : Nat → Nat → Int) (c : Int) (i' : Nat), FRM V U rd q f → CU t U rd tx e i' → X g mX6_readSecret 37 [.ref rd] [] (T, iV (flE U rd c), R, J, z) k n (RQ T R J z t V rd tx q f e (.inl (c, tkS t e i'))) := by
    intro U c i' hs hu
    refine y_iconst dX6_readSecret_37 ?_
    refine (show X _ _ 38 _ _ _ _ _ _ from ?_)
    exact x_zreturn dX6_readSecret_38 rfl rfl (rq_fl hs hu)
  unfold pSecr
  have hkT : T (f + 43) = (1, 8) := hFS.2.2.1.2.2.2.2.1
  have hkR : R f 13 = some (f + 43) := hFS.2.1.2.2.2.2.1
  have h9 := hP.2.2.1
  have hnk : f + 43 ≠ rd := by omega
  have e6 : (((A 0 6).toNat : Nat) : Int) = A 0 6 := Int.toNat_of_nonneg hA6.1
  refine x_aload_n dX6_readSecret_0 rfl ?_
  refine y_iconst dX6_readSecret_1 ?_
  refine x_aload_n dX6_readSecret_2 rfl ?_
  refine x_gr dX6_readSecret_3 fX6_12 (by first | assumption) (fun _ _ _ => rfl) (by first | assumption) ?_
  refine y_gi dX6_readSecret_6 fX6_148 (by first | assumption) (fun _ _ _ => rfl) ?_
  refine (show X _ _ 9 _ _ _ _ _ _ from ?_)
  refine X.val (hF.1 6 (by decide)) ?_
  refine x_callV (As := [_, _]) (mc := 0) (ms := 0) (z := mX6_takeNewName) (ci := 6) dX6_readSecret_9 lX6_231 oX6_takeNewName (by decide) (by first | assumption) rfl rfl (Nat.le_of_ble_eq_true rfl) (Nat.le_of_ble_eq_true rfl) rfl (q_takeNewName (sec := true) (num := A 0 6) (by omega) hD hN (by omega) hS hc he ht) (fun v M1 hq => ?_)
  rcases hq with ⟨hb, rfl, V1, rfl, c1, s1⟩ | ⟨hb, rfl, rfl⟩
  rotate_left
  · refine (show X _ _ 12 _ [.int (iI 0)] _ _ _ _ from ?_)
    rw [eF_f hb]
    refine y_if_eq 37 dX6_readSecret_12 (by decide) ⟨by omega, by omega⟩ (fun h => ?_) (fun h => ?_)
    · exact bad V _ _ (FRM_refl hc.2.2.2.2.2.2.2.2) hc
    · omega
  refine (show X _ _ 12 _ [.int (iI 1)] _ _ _ _ from ?_)
  refine y_if_eq 37 dX6_readSecret_12 (by decide) ⟨by omega, by omega⟩ (fun h => ?_) (fun h => ?_)
  · omega
  rw [eF_t hb]
  have hnw := of_decide_eq_true hb
  have hN1 : NR t V1 (adN A (tkX t e i) 1 (A 0 6)) rd q e := NR_new (tx := tx) (by omega) hN hc.2.1 hnw.1.1 (by omega) s1
  obtain ⟨o1, o1r⟩ := nw_o (by omega) s1
  have fr1 : FRM V V1 rd q f := ⟨fun b h1 h2 h3 => o1 b h1 (by omega), o1r 4 (by decide), c1.2.2.2.2.2.2.2.2⟩
  have hF1 : FC V1 f (adN A (tkX t e i) 1 (A 0 6)) := FC_N (FC_eq hF hVA (fun b h1 h2 => o1 b (by omega) (by omega)))
  have h22 : ∀ k, k < (adN A (tkX t e i) 1 (A 0 6) 0 9).toNat → (0 ≤ adN A (tkX t e i) 1 (A 0 6) 22 k ∧ adN A (tkX t e i) 1 (A 0 6) 22 k ≤ 1) := fun k hk => by
    rw [adN_09] at hk
    by_cases e1 : k = (A 0 9).toNat
    · subst e1; rw [adN_n.2.1]; exact ⟨by decide, by decide⟩
    · rw [adN_r (by decide) (Or.inr (Or.inr e1))]; exact (hP.2.2.2.1 k (by omega)).1
  clear hb hnw
  generalize tkX t e i = w at *
  generalize tkN t e i = i1 at *
  have e16 : V1 f 6 = A 0 6 := by rw [o1 f (by omega) (by omega)]; exact hF.1 6 (by decide)
  refine x_aload_n dX6_readSecret_15 rfl ?_
  refine x_aload_n dX6_readSecret_16 rfl ?_
  refine x_gr dX6_readSecret_17 fX6_12 (by first | assumption) (fun _ _ _ => rfl) (by first | assumption) ?_
  refine x_gr dX6_readSecret_20 fX6_283 (by first | assumption) (fun _ _ _ => rfl) (by first | assumption) ?_
  refine x_aload_n dX6_readSecret_23 rfl ?_
  refine x_gr dX6_readSecret_24 fX6_12 (by first | assumption) (fun _ _ _ => rfl) (by first | assumption) ?_
  refine y_gi dX6_readSecret_27 fX6_148 (by first | assumption) (fun _ _ _ => rfl) ?_
  refine (show X _ _ 30 _ _ _ _ _ _ from ?_)
  refine X.val (b := (((A 0 6).toNat : Nat) : Int)) (e16.trans e6.symm) ?_
  refine y_iconst dX6_readSecret_30 ?_
  refine (show X _ _ 31 _ _ _ _ _ _ from ?_)
  refine x_callV (As := [_, _, _]) (mc := 0) (ms := 0) (z := mX6_takeName) (ci := 6) dX6_readSecret_31 lX6_270 oX6_takeName (by decide) (by first | assumption) rfl rfl (Nat.le_of_ble_eq_true rfl) (Nat.le_of_ble_eq_true rfl) rfl (q_takeName (a := f + 43) (p := (A 0 6).toNat) (c := false) hkT (by omega) (by decide) h22 hD hN1 hS c1 he ht) (fun v M1 hq => ?_)
  rcases hq with ⟨hb, rfl, V2, rfl, c2, s2⟩ | ⟨hb, rfl, rfl⟩
  rotate_left
  · have hb : nmB t e A 0 i1 = false := (nmB_ad (by omega)).1.symm.trans hb
    refine (show X _ _ 34 _ [.int (iI 0)] _ _ _ _ from ?_)
    rw [eM_f (c := 0) hb]
    refine y_if_ne 39 dX6_readSecret_34 (by decide) ⟨by omega, by omega⟩ (fun h => ?_) (fun h => ?_)
    · omega
    · exact bad V1 _ _ fr1 c1
  have hb : nmB t e A 0 i1 = true := (nmB_ad (by omega)).1.symm.trans hb
  rw [(nmB_ad (by omega)).2 hb] at s2
  refine (show X _ _ 34 _ [.int (iI 1)] _ _ _ _ from ?_)
  refine y_if_ne 39 dX6_readSecret_34 (by decide) ⟨by omega, by omega⟩ (fun h => ?_) (fun h => ?_)
  rotate_left
  · omega
  rw [eM_t (c := 0) hb]
  have sf2 : SF V1 V2 rd (f + 43) q := SF_am hnk SF_refl s2
  have ef : V2 f = V1 f := sf2.1 f (by omega) (by omega) (by omega)
  refine x_aload_n dX6_readSecret_39 rfl ?_
  refine x_gr dX6_readSecret_40 fX6_12 (by first | assumption) (fun _ _ _ => rfl) (by first | assumption) ?_
  refine x_dup dX6_readSecret_43 rfl ?_
  refine y_gi dX6_readSecret_44 fX6_148 (by first | assumption) (fun _ _ _ => rfl) ?_
  refine (show X _ _ 47 _ _ _ _ _ _ from ?_)
  refine X.val (b := A 0 6) (by rw [ef]; exact e16) ?_
  refine y_iconst dX6_readSecret_47 ?_
  refine y_iadd dX6_readSecret_48 ?_
  refine y_pi dX6_readSecret_49 (pX6_148 _) (by first | assumption) (fun _ _ _ => rfl) rfl rfl ?_
  refine y_iconst dX6_readSecret_52 ?_
  refine (show X _ _ 53 _ _ _ _ _ _ from ?_)
  have en : adN A w 1 (A 0 6) 0 6 = A 0 6 := adN_0 (by decide)
  exact x_zreturn dX6_readSecret_53 rfl rfl (rq_ok hsep (FRM_SF fr1 sf2 (by omega) c2.2.2.2.2.2.2.2.2) c2 (NR_SF hN1 sf2 (by omega) (by omega)) ((sf2.2 1 (by omega)).trans ((o1r 1 (by decide)).trans h01)) (by unfold aSecr; rw [u2_s, u1_n (by decide), u2_n (by decide)]) (fun r c h1 h2 => by unfold aSecr; rw [u2_n (by omega), u2_n (by omega)]) (FC_Secr hF1 (VA_N hVA) (fun b h1 h2 h3 => by rw [u2_n (by omega)]; exact sf2.1 b (by omega) (by omega) (by omega)) (fun c h1 h2 => by rw [u2_s, u1_n h1, ef]) (by rw [u2_s, u1_s, en]) (fun c hc => by rw [en] at hc; rw [u2_n (by omega), s2.1 _ hnk, u2_n hnk, u2_s, u1_n hc]) (by rw [en, u2_n (by omega), s2.1 _ hnk, u2_n hnk, u2_s, u1_s])))

theorem pers3 {a i' : Nat} {V1 U : Nat → Nat → Int} {w x2 x4 x5 : Int} (hB : BX T R rd tx q f) (hVA : VA A) (hroom : A 0 3 < 10) (hF : FC V f A) (hTa : T a = (1, 7)) (ha : a = f + 2 + (A 0 3).toNat) (hN1 : NR t V1 (adN A w 0 (A 0 3)) rd q e) (ov : ∀ b, b ≠ rd → b ≠ a → (b < q ∨ q + 5 ≤ b) → V1 b = V b) (h11 : V1 rd 1 = 0) (fr1 : FRM V V1 rd q f) {x6 x8 x10 x12 : Int} (hx6 : 0 ≤ x6 ∧ x6 ≤ 90) (hx5 : 0 ≤ x5 ∧ x5 ≤ 4) (cu : CU t U rd tx e i') (sf : SF V1 U rd a q) (ra0 : U a 0 = x2) (ra1 : U a 1 = x4) (ra2 : U a 2 = x6) (ra3 : U a 3 = x8) (ra4 : U a 4 = x10) (ra5 : U a 5 = x12) (ra6 : U a 6 = -2) (rh0 : U (q + 4) 0 = x5) : X g mX6_readPerson 175 [.ref rd, .ref a] [] (T, iV U, R, J, z) k n (RQ T R J z t V rd tx q f e (.inr (aPers (adN A w 0 (A 0 3)) x2 x4 (if x5 = 0 then -x6 else x6) x8 x10 x12 (-2), i'))) := by
  obtain ⟨hS, hD, hFS, rd0, hsep⟩ := hB
  have hA3 := hVA.2.2.2.1
  have hs0 := hS.1
  have hf0 := hFS.1
  have hTh : T (q + 4) = (1, 3) := hD.2.2.2.2.2
  have hRh : R rd 17 = some (q + 4) := hD.1.2.2.2.2
  have hna : a ≠ rd := by omega
  have hnf : f ≠ rd := by omega
  have hfa : f ≠ a := by omega
  have hfq : f ≠ q + 4 := by omega
  have hfq2 : f < q ∨ q + 5 ≤ f := by omega
  have hatx : a ≠ tx := by omega
  have haq : a < q ∨ q + 4 ≤ a := by omega
  have haf : (f ≤ a ∧ a < f + 45) ∨ a = q + 4 := by omega
  have en : adN A w 0 (A 0 3) 0 3 = A 0 3 := adN_0 (by decide)
  have fin : ∀ v : Int, v = (if x5 = 0 then -x6 else x6) → X g mX6_readPerson 196 [.ref rd, .ref a] [.int (iI v), .int (iI 2), .ref a] (T, iV U, R, J, z) k n (RQ T R J z t V rd tx q f e (.inr (aPers (adN A w 0 (A 0 3)) x2 x4 (if x5 = 0 then -x6 else x6) x8 x10 x12 (-2), i'))) := by
    intro v hv
    rw [← hv]
    have e3 : U f 3 = A 0 3 := by rw [sf.1 f hnf hfa hfq, ov f hnf hfa hfq2]; exact hF.1 3 (by decide)
    refine y_iast (2) dX6_readPerson_196 (by first | assumption) (by first | rfl | omega) (by omega) (by decide) ?_
    refine x_aload_n dX6_readPerson_197 rfl ?_
    refine x_gr dX6_readPerson_198 fX6_12 (by first | assumption) (fun _ _ _ => rfl) (by first | assumption) ?_
    refine x_dup dX6_readPerson_201 rfl ?_
    refine y_gi dX6_readPerson_202 fX6_93 (by first | assumption) (fun _ _ _ => rfl) ?_
    refine (show X _ _ 205 _ _ _ _ _ _ from ?_)
    refine X.val (b := A 0 3) (by rw [u2_n hfa]; exact e3) ?_
    refine y_iconst dX6_readPerson_205 ?_
    refine y_iadd dX6_readPerson_206 ?_
    refine y_pi dX6_readPerson_207 (pX6_93 _) (by first | assumption) (fun _ _ _ => rfl) rfl rfl ?_
    refine y_iconst dX6_readPerson_210 ?_
    refine (show X _ _ 211 _ _ _ _ _ _ from ?_)
    have cz : CU t (u2 U a 2 v) rd tx e i' := CU_u2 cu hna hatx
    have fz : SF V1 (u2 U a 2 v) rd a q := ⟨fun b h1 h2 h3 => by rw [u2_n h2]; exact sf.1 b h1 h2 h3, fun c hc => by rw [u2_n hna.symm]; exact sf.2 c hc⟩
    have rr : ∀ c, c ≠ 2 → u2 U a 2 v a c = U a c := fun c hc => by rw [u2_s, u1_n hc]
    have r2 : u2 U a 2 v a 2 = v := by rw [u2_s, u1_s]
    have hF1 : ∀ b, f ≤ b → b < f + 45 → b ≠ a → u2 U a 2 v b = V b := fun b h1 h2 h3 => (fz.1 b (by omega) h3 (by omega)).trans (ov b (by omega) h3 (by omega))
    have hfin : ∀ c, u2 (u2 U a 2 v) f 3 (A 0 3 + 1) (f + 2 + (adN A w 0 (A 0 3) 0 3).toNat) c = u2 U a 2 v a c := fun c => by rw [en, ← ha, u2_n hfa.symm]
    have hF2 := FC_Pers (V' := u2 (u2 U a 2 v) f 3 (A 0 3 + 1)) (x0 := x2) (x1 := x4) (x2 := v) (x3 := x8) (x4 := x10) (x5 := x12) (x6 := -2) (FC_N (w := w) (sec := 0) (num := A 0 3) hF) (VA_N hVA) (by rw [en]; exact hroom) (fun b h1 h2 h3 => by rw [en] at h3; rw [u2_n (by omega)]; exact hF1 b (by omega) h2 (by omega)) (fun c h1 h2 => by rw [u2_s, u1_n h1, hF1 f (Nat.le_refl _) (by omega) hfa]) (by rw [u2_s, u1_s, en]) (by rw [hfin, rr 0 (by decide)]; exact ra0) (by rw [hfin, rr 1 (by decide)]; exact ra1) (by rw [hfin]; exact r2) (by rw [hfin, rr 3 (by decide)]; exact ra3) (by rw [hfin, rr 4 (by decide)]; exact ra4) (by rw [hfin, rr 5 (by decide)]; exact ra5) (by rw [hfin, rr 6 (by decide)]; exact ra6)
    have fz2 := FRM_SF fr1 fz haf cz.2.2.2.2.2.2.2.2
    exact x_zreturn dX6_readPerson_211 rfl rfl (rq_ok hsep fz2 cz (NR_SF hN1 fz (by omega) haq) ((fz.2 1 (by omega)).trans h11) aPers_9 aPers_r hF2)
  refine x_aload_n dX6_readPerson_175 rfl ?_
  refine y_iconst dX6_readPerson_176 ?_
  refine x_aload_n dX6_readPerson_177 rfl ?_
  refine x_gr dX6_readPerson_178 fX6_70 (by first | assumption) (fun _ _ _ => rfl) (by first | assumption) ?_
  refine y_iconst dX6_readPerson_181 ?_
  refine y_iald (0) dX6_readPerson_182 (by first | assumption) (by first | rfl | omega) (by omega) (by decide) ?_
  refine (show X _ _ 183 _ _ _ _ _ _ from ?_)
  refine X.val rh0 ?_
  refine y_if_ne 193 dX6_readPerson_183 (by decide) ⟨by omega, by omega⟩ (fun hz => ?_) (fun hz => ?_)
  · refine x_aload_n dX6_readPerson_193 rfl ?_
    refine y_iconst dX6_readPerson_194 ?_
    refine y_iald (2) dX6_readPerson_195 (by first | assumption) (by first | rfl | omega) (by omega) (by decide) ?_
    refine (show X _ _ 196 _ _ _ _ _ _ from ?_)
    refine X.val ra2 ?_
    exact fin x6 (by rw [if_neg hz])
  · refine x_aload_n dX6_readPerson_186 rfl ?_
    refine y_iconst dX6_readPerson_187 ?_
    refine y_iald (2) dX6_readPerson_188 (by first | assumption) (by first | rfl | omega) (by omega) (by decide) ?_
    refine (show X _ _ 189 _ _ _ _ _ _ from ?_)
    refine X.val ra2 ?_
    refine y_ineg dX6_readPerson_189 ?_
    refine x_goto 196 dX6_readPerson_190 (by decide) ?_
    refine (show X _ _ 196 _ _ _ _ _ _ from ?_)
    exact fin (-x6) (by rw [if_pos hz])

theorem pers2 {a i' : Nat} {V1 U : Nat → Nat → Int} {w x2 x4 x5 : Int} (hB : BX T R rd tx q f) (hVA : VA A) (hroom : A 0 3 < 10) (hF : FC V f A) (hTa : T a = (1, 7)) (ha : a = f + 2 + (A 0 3).toNat) (hN1 : NR t V1 (adN A w 0 (A 0 3)) rd q e) (ov : ∀ b, b ≠ rd → b ≠ a → (b < q ∨ q + 5 ≤ b) → V1 b = V b) (h11 : V1 rd 1 = 0) (fr1 : FRM V V1 rd q f) {hi : Int} (hhb : 3 ≤ hi ∧ hi ≤ 90) (b5 : 0 ≤ x5 ∧ x5 ≤ 4) (c5 : CU t U rd tx e i') (f5 : SF V1 U rd a q) (ra0_5 : U a 0 = x2) (ra1_5 : U a 1 = x4) (ra6_5 : U a 6 = -2) (rh0_5 : U (q + 4) 0 = x5) (he : e ≤ 1100) (ht : ∀ j, j < 1100 → -128 ≤ t j ∧ t j ≤ 127) : X g mX6_readPerson 104 [.ref rd, .ref a] [.int (iI hi), .int (iI x5), .int (iI 2), .ref a, .ref rd] (T, iV U, R, J, z) k n (RQ T R J z t V rd tx q f e (eN t e i' x5 hi fun b i => eW t e i 26 fun i => eN t e i 1 9 fun st i => eW t e i 30 fun i => eN t e i 0 9 fun we i => eW t e i 10 fun i => eN t e i 0 100 fun fr i => .inr (aPers (adN A w 0 (A 0 3)) x2 x4 (if x5 = 0 then -b else b) st we fr (-2), i))) := by
  have hB0 := hB
  obtain ⟨hS, hD, hFS, rd0, hsep⟩ := hB
  have hA3 := hVA.2.2.2.1
  have hs0 := hS.1
  have hna : a ≠ rd := by omega
  have hnh : q + 4 ≠ rd := by omega
  have hah : a ≠ q + 4 := by omega
  have haf : (f ≤ a ∧ a < f + 45) ∨ a = q + 4 := by omega
  have fin := fun (x6 x8 x10 x12 : Int) (i' : Nat) (U : Nat → Nat → Int) h1 h2 h3 h4 h5 h6 h7 h8 h9 h10 h11' => pers3 (g := g) (J := J) (z := z) (k := k) (n := n) (U := U) (i' := i') (x2 := x2) (x4 := x4) (x6 := x6) (x8 := x8) (x10 := x10) (x12 := x12) hB0 hVA hroom hF hTa ha hN1 ov h11 fr1 h1 b5 h2 h3 h4 h5 h6 h7 h8 h9 h10 h11'
  have fr : ∀ (U : Nat → Nat → Int) (i' : Nat), SF V1 U rd a q → CU t U rd tx e i' → FRM V U rd q f := fun U i' h1 h2 => FRM_SF fr1 h1 haf h2.2.2.2.2.2.2.2.2
  have bad : ∀ (U : Nat → Nat → Int) (c : Int) (i' : Nat), FRM V U rd q f → CU t U rd tx e i' → X g mX6_readPerson 173 [.ref rd, .ref a] [] (T, iV (flE U rd c), R, J, z) k n (RQ T R J z t V rd tx q f e (.inl (c, tkS t e i'))) := by
    intro U c i' hs hu
    refine y_iconst dX6_readPerson_173 ?_
    refine (show X _ _ 174 _ _ _ _ _ _ from ?_)
    exact x_zreturn dX6_readPerson_174 rfl rfl (rq_fl hs hu)
  clear hB0 hF hN1 ov h11 fr1 haf hVA
  refine x_callV (As := [_, _, _, _]) (mc := 0) (ms := 0) (z := mX6_takeWhole) (ci := 6) dX6_readPerson_104 lX6_202 oX6_takeWhole (by decide) (by first | assumption) rfl rfl (Nat.le_of_ble_eq_true rfl) (Nat.le_of_ble_eq_true rfl) rfl (q_whole (a := a) (p := 2) (lo := x5) (hi := hi) hTa (by omega) (by omega) ⟨by omega, by omega⟩ ⟨by omega, by omega⟩ hS c5 he ht) (fun v M1 hq => ?_)
  rcases hq with ⟨hb, rfl, V6, rfl, c6, s6⟩ | ⟨hb, rfl, rfl⟩
  rotate_left
  · refine (show X _ _ 107 _ [.int (iI 0)] _ _ _ _ from ?_)
    rw [eN_f hb]
    refine y_if_eq 173 dX6_readPerson_107 (by decide) ⟨by omega, by omega⟩ (fun h => ?_) (fun h => ?_)
    · exact bad U _ _ (fr U _ (f5) c5) c5
    · omega
  refine (show X _ _ 107 _ [.int (iI 1)] _ _ _ _ from ?_)
  refine y_if_eq 173 dX6_readPerson_107 (by decide) ⟨by omega, by omega⟩ (fun h => ?_) (fun h => ?_)
  · omega
  rw [eN_t hb]
  have f6 : SF V1 V6 rd a q := SF_a hna (f5) s6
  have ra0_6 : V6 a 0 = x2 := by rw [s6.1 _ hna, u2_s, u1_n (by decide)]; exact ra0_5
  have ra1_6 : V6 a 1 = x4 := by rw [s6.1 _ hna, u2_s, u1_n (by decide)]; exact ra1_5
  have ra6_6 : V6 a 6 = -2 := by rw [s6.1 _ hna, u2_s, u1_n (by decide)]; exact ra6_5
  have rh0_6 : V6 (q + 4) 0 = x5 := by rw [s6.1 _ hnh, u2_n (by omega)]; exact rh0_5
  have ra2_6 : V6 a 2 = tkX t e i' := by rw [s6.1 _ hna, u2_s, u1_s]
  have b6 := (of_decide_eq_true hb).2
  clear hb
  generalize tkX t e i' = x6 at *
  generalize tkN t e i' = i6 at *
  clear s6 h
  refine x_aload_n dX6_readPerson_110 rfl ?_
  refine x_ldcs dX6_readPerson_111 sX6_246 ?_
  refine (show X _ _ 113 _ _ _ _ _ _ from ?_)
  refine x_callV (As := [_]) (mc := 0) (ms := 0) (z := mX6_takeWord) (ci := 6) dX6_readPerson_113 lX6_199 oX6_takeWord (by decide) (by first | assumption) rfl rfl (Nat.le_of_ble_eq_true rfl) (Nat.le_of_ble_eq_true rfl) rfl (q_word (j := 26) (by decide) hS c6 he ht) (fun v M1 hq => ?_)
  rcases hq with ⟨hb, rfl, V7, rfl, c7, s7⟩ | ⟨hb, rfl, rfl⟩
  rotate_left
  · refine (show X _ _ 116 _ [.int (iI 0)] _ _ _ _ from ?_)
    rw [eW_f hb]
    refine y_if_eq 173 dX6_readPerson_116 (by decide) ⟨by omega, by omega⟩ (fun h => ?_) (fun h => ?_)
    · exact bad V6 _ _ (fr V6 _ (f6) c6) c6
    · omega
  refine (show X _ _ 116 _ [.int (iI 1)] _ _ _ _ from ?_)
  refine y_if_eq 173 dX6_readPerson_116 (by decide) ⟨by omega, by omega⟩ (fun h => ?_) (fun h => ?_)
  · omega
  rw [eW_t hb]
  have f7 : SF V1 V7 rd a q := SF_w (f6) s7
  have ra0_7 : V7 a 0 = x2 := by rw [s7.1 _ hna]; exact ra0_6
  have ra1_7 : V7 a 1 = x4 := by rw [s7.1 _ hna]; exact ra1_6
  have ra6_7 : V7 a 6 = -2 := by rw [s7.1 _ hna]; exact ra6_6
  have rh0_7 : V7 (q + 4) 0 = x5 := by rw [s7.1 _ hnh]; exact rh0_6
  have ra2_7 : V7 a 2 = x6 := by rw [s7.1 _ hna]; exact ra2_6
  clear hb
  generalize tkN t e i6 = i7 at *
  clear s7 h
  refine x_aload_n dX6_readPerson_119 rfl ?_
  refine x_aload_n dX6_readPerson_120 rfl ?_
  refine y_iconst dX6_readPerson_121 ?_
  refine y_iconst dX6_readPerson_122 ?_
  refine y_bipush dX6_readPerson_123 rfl ?_
  refine (show X _ _ 125 _ _ _ _ _ _ from ?_)
  refine x_callV (As := [_, _, _, _]) (mc := 0) (ms := 0) (z := mX6_takeWhole) (ci := 6) dX6_readPerson_125 lX6_202 oX6_takeWhole (by decide) (by first | assumption) rfl rfl (Nat.le_of_ble_eq_true rfl) (Nat.le_of_ble_eq_true rfl) rfl (q_whole (a := a) (p := 3) (lo := 1) (hi := 9) hTa (by omega) (by omega) ⟨by omega, by omega⟩ ⟨by omega, by omega⟩ hS c7 he ht) (fun v M1 hq => ?_)
  rcases hq with ⟨hb, rfl, V8, rfl, c8, s8⟩ | ⟨hb, rfl, rfl⟩
  rotate_left
  · refine (show X _ _ 128 _ [.int (iI 0)] _ _ _ _ from ?_)
    rw [eN_f hb]
    refine y_if_eq 173 dX6_readPerson_128 (by decide) ⟨by omega, by omega⟩ (fun h => ?_) (fun h => ?_)
    · exact bad V7 _ _ (fr V7 _ (f7) c7) c7
    · omega
  refine (show X _ _ 128 _ [.int (iI 1)] _ _ _ _ from ?_)
  refine y_if_eq 173 dX6_readPerson_128 (by decide) ⟨by omega, by omega⟩ (fun h => ?_) (fun h => ?_)
  · omega
  rw [eN_t hb]
  have f8 : SF V1 V8 rd a q := SF_a hna (f7) s8
  have ra0_8 : V8 a 0 = x2 := by rw [s8.1 _ hna, u2_s, u1_n (by decide)]; exact ra0_7
  have ra1_8 : V8 a 1 = x4 := by rw [s8.1 _ hna, u2_s, u1_n (by decide)]; exact ra1_7
  have ra6_8 : V8 a 6 = -2 := by rw [s8.1 _ hna, u2_s, u1_n (by decide)]; exact ra6_7
  have rh0_8 : V8 (q + 4) 0 = x5 := by rw [s8.1 _ hnh, u2_n (by omega)]; exact rh0_7
  have ra2_8 : V8 a 2 = x6 := by rw [s8.1 _ hna, u2_s, u1_n (by decide)]; exact ra2_7
  have ra3_8 : V8 a 3 = tkX t e i7 := by rw [s8.1 _ hna, u2_s, u1_s]
  have b8 := (of_decide_eq_true hb).2
  clear hb
  generalize tkX t e i7 = x8 at *
  generalize tkN t e i7 = i8 at *
  clear s8 h
  refine x_aload_n dX6_readPerson_131 rfl ?_
  refine x_ldcs dX6_readPerson_132 sX6_248 ?_
  refine (show X _ _ 134 _ _ _ _ _ _ from ?_)
  refine x_callV (As := [_]) (mc := 0) (ms := 0) (z := mX6_takeWord) (ci := 6) dX6_readPerson_134 lX6_199 oX6_takeWord (by decide) (by first | assumption) rfl rfl (Nat.le_of_ble_eq_true rfl) (Nat.le_of_ble_eq_true rfl) rfl (q_word (j := 30) (by decide) hS c8 he ht) (fun v M1 hq => ?_)
  rcases hq with ⟨hb, rfl, V9, rfl, c9, s9⟩ | ⟨hb, rfl, rfl⟩
  rotate_left
  · refine (show X _ _ 137 _ [.int (iI 0)] _ _ _ _ from ?_)
    rw [eW_f hb]
    refine y_if_eq 173 dX6_readPerson_137 (by decide) ⟨by omega, by omega⟩ (fun h => ?_) (fun h => ?_)
    · exact bad V8 _ _ (fr V8 _ (f8) c8) c8
    · omega
  refine (show X _ _ 137 _ [.int (iI 1)] _ _ _ _ from ?_)
  refine y_if_eq 173 dX6_readPerson_137 (by decide) ⟨by omega, by omega⟩ (fun h => ?_) (fun h => ?_)
  · omega
  rw [eW_t hb]
  have f9 : SF V1 V9 rd a q := SF_w (f8) s9
  have ra0_9 : V9 a 0 = x2 := by rw [s9.1 _ hna]; exact ra0_8
  have ra1_9 : V9 a 1 = x4 := by rw [s9.1 _ hna]; exact ra1_8
  have ra6_9 : V9 a 6 = -2 := by rw [s9.1 _ hna]; exact ra6_8
  have rh0_9 : V9 (q + 4) 0 = x5 := by rw [s9.1 _ hnh]; exact rh0_8
  have ra2_9 : V9 a 2 = x6 := by rw [s9.1 _ hna]; exact ra2_8
  have ra3_9 : V9 a 3 = x8 := by rw [s9.1 _ hna]; exact ra3_8
  clear hb
  generalize tkN t e i8 = i9 at *
  clear s9 h
  refine x_aload_n dX6_readPerson_140 rfl ?_
  refine x_aload_n dX6_readPerson_141 rfl ?_
  refine y_iconst dX6_readPerson_142 ?_
  refine y_iconst dX6_readPerson_143 ?_
  refine y_bipush dX6_readPerson_144 rfl ?_
  refine (show X _ _ 146 _ _ _ _ _ _ from ?_)
  refine x_callV (As := [_, _, _, _]) (mc := 0) (ms := 0) (z := mX6_takeWhole) (ci := 6) dX6_readPerson_146 lX6_202 oX6_takeWhole (by decide) (by first | assumption) rfl rfl (Nat.le_of_ble_eq_true rfl) (Nat.le_of_ble_eq_true rfl) rfl (q_whole (a := a) (p := 4) (lo := 0) (hi := 9) hTa (by omega) (by omega) ⟨by omega, by omega⟩ ⟨by omega, by omega⟩ hS c9 he ht) (fun v M1 hq => ?_)
  rcases hq with ⟨hb, rfl, V10, rfl, c10, s10⟩ | ⟨hb, rfl, rfl⟩
  rotate_left
  · refine (show X _ _ 149 _ [.int (iI 0)] _ _ _ _ from ?_)
    rw [eN_f hb]
    refine y_if_eq 173 dX6_readPerson_149 (by decide) ⟨by omega, by omega⟩ (fun h => ?_) (fun h => ?_)
    · exact bad V9 _ _ (fr V9 _ (f9) c9) c9
    · omega
  refine (show X _ _ 149 _ [.int (iI 1)] _ _ _ _ from ?_)
  refine y_if_eq 173 dX6_readPerson_149 (by decide) ⟨by omega, by omega⟩ (fun h => ?_) (fun h => ?_)
  · omega
  rw [eN_t hb]
  have f10 : SF V1 V10 rd a q := SF_a hna (f9) s10
  have ra0_10 : V10 a 0 = x2 := by rw [s10.1 _ hna, u2_s, u1_n (by decide)]; exact ra0_9
  have ra1_10 : V10 a 1 = x4 := by rw [s10.1 _ hna, u2_s, u1_n (by decide)]; exact ra1_9
  have ra6_10 : V10 a 6 = -2 := by rw [s10.1 _ hna, u2_s, u1_n (by decide)]; exact ra6_9
  have rh0_10 : V10 (q + 4) 0 = x5 := by rw [s10.1 _ hnh, u2_n (by omega)]; exact rh0_9
  have ra2_10 : V10 a 2 = x6 := by rw [s10.1 _ hna, u2_s, u1_n (by decide)]; exact ra2_9
  have ra3_10 : V10 a 3 = x8 := by rw [s10.1 _ hna, u2_s, u1_n (by decide)]; exact ra3_9
  have ra4_10 : V10 a 4 = tkX t e i9 := by rw [s10.1 _ hna, u2_s, u1_s]
  have b10 := (of_decide_eq_true hb).2
  clear hb
  generalize tkX t e i9 = x10 at *
  generalize tkN t e i9 = i10 at *
  clear s10 h
  refine x_aload_n dX6_readPerson_152 rfl ?_
  refine x_ldcs dX6_readPerson_153 sX6_250 ?_
  refine (show X _ _ 155 _ _ _ _ _ _ from ?_)
  refine x_callV (As := [_]) (mc := 0) (ms := 0) (z := mX6_takeWord) (ci := 6) dX6_readPerson_155 lX6_199 oX6_takeWord (by decide) (by first | assumption) rfl rfl (Nat.le_of_ble_eq_true rfl) (Nat.le_of_ble_eq_true rfl) rfl (q_word (j := 10) (by decide) hS c10 he ht) (fun v M1 hq => ?_)
  rcases hq with ⟨hb, rfl, V11, rfl, c11, s11⟩ | ⟨hb, rfl, rfl⟩
  rotate_left
  · refine (show X _ _ 158 _ [.int (iI 0)] _ _ _ _ from ?_)
    rw [eW_f hb]
    refine y_if_eq 173 dX6_readPerson_158 (by decide) ⟨by omega, by omega⟩ (fun h => ?_) (fun h => ?_)
    · exact bad V10 _ _ (fr V10 _ (f10) c10) c10
    · omega
  refine (show X _ _ 158 _ [.int (iI 1)] _ _ _ _ from ?_)
  refine y_if_eq 173 dX6_readPerson_158 (by decide) ⟨by omega, by omega⟩ (fun h => ?_) (fun h => ?_)
  · omega
  rw [eW_t hb]
  have f11 : SF V1 V11 rd a q := SF_w (f10) s11
  have ra0_11 : V11 a 0 = x2 := by rw [s11.1 _ hna]; exact ra0_10
  have ra1_11 : V11 a 1 = x4 := by rw [s11.1 _ hna]; exact ra1_10
  have ra6_11 : V11 a 6 = -2 := by rw [s11.1 _ hna]; exact ra6_10
  have rh0_11 : V11 (q + 4) 0 = x5 := by rw [s11.1 _ hnh]; exact rh0_10
  have ra2_11 : V11 a 2 = x6 := by rw [s11.1 _ hna]; exact ra2_10
  have ra3_11 : V11 a 3 = x8 := by rw [s11.1 _ hna]; exact ra3_10
  have ra4_11 : V11 a 4 = x10 := by rw [s11.1 _ hna]; exact ra4_10
  clear hb
  generalize tkN t e i10 = i11 at *
  clear s11 h
  refine x_aload_n dX6_readPerson_161 rfl ?_
  refine x_aload_n dX6_readPerson_162 rfl ?_
  refine y_iconst dX6_readPerson_163 ?_
  refine y_iconst dX6_readPerson_164 ?_
  refine y_bipush dX6_readPerson_165 rfl ?_
  refine (show X _ _ 167 _ _ _ _ _ _ from ?_)
  refine x_callV (As := [_, _, _, _]) (mc := 0) (ms := 0) (z := mX6_takeWhole) (ci := 6) dX6_readPerson_167 lX6_202 oX6_takeWhole (by decide) (by first | assumption) rfl rfl (Nat.le_of_ble_eq_true rfl) (Nat.le_of_ble_eq_true rfl) rfl (q_whole (a := a) (p := 5) (lo := 0) (hi := 100) hTa (by omega) (by omega) ⟨by omega, by omega⟩ ⟨by omega, by omega⟩ hS c11 he ht) (fun v M1 hq => ?_)
  rcases hq with ⟨hb, rfl, V12, rfl, c12, s12⟩ | ⟨hb, rfl, rfl⟩
  rotate_left
  · refine (show X _ _ 170 _ [.int (iI 0)] _ _ _ _ from ?_)
    rw [eN_f hb]
    refine y_if_ne 175 dX6_readPerson_170 (by decide) ⟨by omega, by omega⟩ (fun h => ?_) (fun h => ?_)
    · omega
    · exact bad V11 _ _ (fr V11 _ (f11) c11) c11
  refine (show X _ _ 170 _ [.int (iI 1)] _ _ _ _ from ?_)
  refine y_if_ne 175 dX6_readPerson_170 (by decide) ⟨by omega, by omega⟩ (fun h => ?_) (fun h => ?_)
  rotate_left
  · omega
  rw [eN_t hb]
  have f12 : SF V1 V12 rd a q := SF_a hna (f11) s12
  have ra0_12 : V12 a 0 = x2 := by rw [s12.1 _ hna, u2_s, u1_n (by decide)]; exact ra0_11
  have ra1_12 : V12 a 1 = x4 := by rw [s12.1 _ hna, u2_s, u1_n (by decide)]; exact ra1_11
  have ra6_12 : V12 a 6 = -2 := by rw [s12.1 _ hna, u2_s, u1_n (by decide)]; exact ra6_11
  have rh0_12 : V12 (q + 4) 0 = x5 := by rw [s12.1 _ hnh, u2_n (by omega)]; exact rh0_11
  have ra2_12 : V12 a 2 = x6 := by rw [s12.1 _ hna, u2_s, u1_n (by decide)]; exact ra2_11
  have ra3_12 : V12 a 3 = x8 := by rw [s12.1 _ hna, u2_s, u1_n (by decide)]; exact ra3_11
  have ra4_12 : V12 a 4 = x10 := by rw [s12.1 _ hna, u2_s, u1_n (by decide)]; exact ra4_11
  have ra5_12 : V12 a 5 = tkX t e i11 := by rw [s12.1 _ hna, u2_s, u1_s]
  have b12 := (of_decide_eq_true hb).2
  clear hb
  generalize tkX t e i11 = x12 at *
  generalize tkN t e i11 = i12 at *
  clear s12 h
  exact fin x6 x8 x10 x12 i12 V12 ⟨by omega, by omega⟩ c12 f12 ra0_12 ra1_12 ra2_12 ra3_12 ra4_12 ra5_12 ra6_12 rh0_12

theorem q_readPerson  (hB : BX T R rd tx q f) (hP : VP A) (hY : 4 ≤ A 0 0) (hroom : A 0 3 < 10) (hR : RI t V A rd tx q f e i) (he : e ≤ 1100) (ht : ∀ j, j < 1100 → -128 ≤ t j ∧ t j ≤ 127) : X g mX6_readPerson 0 [.ref rd, .ref (f + 2 + (A 0 3).toNat)] [] (T, iV V, R, J, z) k n (RQ T R J z t V rd tx q f e (pPers t e A i)) := by
  have hB0 := hB
  obtain ⟨hS, hD, hFS, rd0, hsep⟩ := hB
  obtain ⟨hc, hF, hN, h01⟩ := hR
  have hVA := hP.1
  obtain ⟨hA0, hA1, hA2, hA3, hA4, hA5, hA6, hA7, hA8, hAp, hApl, hAb, hAs, hAh, hAd⟩ := hP.1
  have hs0 := hS.1
  have hf0 := hFS.1
  have hTh : T (q + 4) = (1, 3) := hD.2.2.2.2.2
  have hRh : R rd 17 = some (q + 4) := hD.1.2.2.2.2
  have hnh : q + 4 ≠ rd := by omega
  have hf := fun (U : Nat → Nat → Int) (x : Int) => c_failAtName (g := g) (J := J) (z := z) (k := 0) (n := 0) (V := U) (x := x) hS
  have hTa : T (f + 2 + (A 0 3).toNat) = (1, 7) := (hFS.2.2.2.1 _ (by omega)).2
  obtain ⟨a, ha⟩ : ∃ a, a = f + 2 + (A 0 3).toNat := ⟨_, rfl⟩
  rw [← ha] at hTa ⊢
  have hna : a ≠ rd := by omega
  have fr : ∀ (U : Nat → Nat → Int) (i' : Nat), SF V U rd a q → CU t U rd tx e i' → FRM V U rd q f := fun U i' h1 h2 => FRM_SF (FRM_refl hc.2.2.2.2.2.2.2.2) h1 (by omega) h2.2.2.2.2.2.2.2.2
  have fy : ∀ (U : Nat → Nat → Int) (c : Nat), c < 9 → SF V U rd a q → U f c = A 0 c := fun U c hc9 h1 => by rw [h1.1 f (by omega) (by omega) (by omega)]; exact hF.1 c hc9
  have bad : ∀ (U : Nat → Nat → Int) (c : Int) (i' : Nat), FRM V U rd q f → CU t U rd tx e i' → X g mX6_readPerson 173 [.ref rd, .ref a] [] (T, iV (flE U rd c), R, J, z) k n (RQ T R J z t V rd tx q f e (.inl (c, tkS t e i'))) := by
    intro U c i' hs hu
    refine y_iconst dX6_readPerson_173 ?_
    refine (show X _ _ 174 _ _ _ _ _ _ from ?_)
    exact x_zreturn dX6_readPerson_174 rfl rfl (rq_fl hs hu)
  unfold pPers
  have h9 := hP.2.2.1
  refine x_aload_n dX6_readPerson_0 rfl ?_
  refine y_bipush dX6_readPerson_1 rfl ?_
  refine y_bipush dX6_readPerson_3 rfl ?_
  refine y_iast (6) dX6_readPerson_5 (by first | assumption) (by first | rfl | omega) (by omega) (by decide) ?_
  refine (show X _ _ 6 _ _ _ _ _ _ from ?_)
  have c0 : CU t (u2 V a 6 (-2)) rd tx e i := CU_u2 hc (by omega) (by omega)
  have f0 : SF V (u2 V a 6 (-2)) rd a q := ⟨fun b h1 h2 h3 => u2_n h2, fun c hc => by rw [u2_n hna.symm]⟩
  have ra6_0 : u2 V a 6 (-2) a 6 = -2 := by rw [u2_s, u1_s]
  generalize u2 V a 6 (-2) = V0 at *
  have e3 : V0 f 3 = A 0 3 := fy _ 3 (by decide) f0
  refine x_aload_n dX6_readPerson_6 rfl ?_
  refine y_iconst dX6_readPerson_7 ?_
  refine x_aload_n dX6_readPerson_8 rfl ?_
  refine x_gr dX6_readPerson_9 fX6_12 (by first | assumption) (fun _ _ _ => rfl) (by first | assumption) ?_
  refine y_gi dX6_readPerson_12 fX6_93 (by first | assumption) (fun _ _ _ => rfl) ?_
  refine (show X _ _ 15 _ _ _ _ _ _ from ?_)
  refine X.val e3 ?_
  refine x_callV (As := [_, _]) (mc := 0) (ms := 0) (z := mX6_takeNewName) (ci := 6) dX6_readPerson_15 lX6_231 oX6_takeNewName (by decide) (by first | assumption) rfl rfl (Nat.le_of_ble_eq_true rfl) (Nat.le_of_ble_eq_true rfl) rfl (q_takeNewName (sec := false) (num := A 0 3) (by omega) hD (NR_SF hN f0 (by omega) (by omega)) (by omega) hS c0 he ht) (fun v M1 hq => ?_)
  rcases hq with ⟨hb, rfl, V1, rfl, c1, s1⟩ | ⟨hb, rfl, rfl⟩
  rotate_left
  · refine (show X _ _ 18 _ [.int (iI 0)] _ _ _ _ from ?_)
    rw [eF_f hb]
    refine y_if_eq 173 dX6_readPerson_18 (by decide) ⟨by omega, by omega⟩ (fun h => ?_) (fun h => ?_)
    · exact bad V0 _ _ (fr _ _ f0 c0) c0
    · omega
  refine (show X _ _ 18 _ [.int (iI 1)] _ _ _ _ from ?_)
  refine y_if_eq 173 dX6_readPerson_18 (by decide) ⟨by omega, by omega⟩ (fun h => ?_) (fun h => ?_)
  · omega
  rw [eF_t hb]
  have hnw := of_decide_eq_true hb
  have hN1 : NR t V1 (adN A (tkX t e i) 0 (A 0 3)) rd q e := NR_new (tx := tx) (by omega) (NR_SF hN f0 (by omega) (by omega)) hc.2.1 hnw.1.1 (by omega) s1
  obtain ⟨o1, o1r⟩ := nw_o (by omega) s1
  have ov : ∀ b, b ≠ rd → b ≠ a → (b < q ∨ q + 5 ≤ b) → V1 b = V b := fun b h1 h2 h3 => (o1 b h1 (by omega)).trans (f0.1 b h1 h2 (by omega))
  have ovr : ∀ c, c < 6 → V1 rd c = V rd c := fun c hc => (o1r c hc).trans (f0.2 c (by omega))
  have fr1 : FRM V V1 rd q f := ⟨fun b h1 h2 h3 => ov b h1 (by omega) (by omega), ovr 4 (by decide), c1.2.2.2.2.2.2.2.2⟩
  have ra6_1 : V1 a 6 = -2 := by rw [o1 a hna (by omega)]; exact ra6_0
  have h11 : V1 rd 1 = 0 := (ovr 1 (by decide)).trans h01
  clear hb hnw s1 o1 o1r ovr e3 ra6_0 c0 f0 fr fy hN hP hAp hApl hAb hAs hAh hAd h9 hf
  generalize tkX t e i = w at *
  generalize tkN t e i = i1 at *
  have haf : (f ≤ a ∧ a < f + 45) ∨ a = q + 4 := by omega
  have hah : a ≠ q + 4 := by omega
  have fr : ∀ (U : Nat → Nat → Int) (i' : Nat), SF V1 U rd a q → CU t U rd tx e i' → FRM V U rd q f := fun U i' h1 h2 => FRM_SF fr1 h1 haf h2.2.2.2.2.2.2.2.2
  have fy : ∀ (U : Nat → Nat → Int) (c : Nat), c < 9 → SF V1 U rd a q → U f c = A 0 c := fun U c hc9 h1 => by rw [h1.1 f (by omega) (by omega) (by omega), ov f (by omega) (by omega) (by omega)]; exact hF.1 c hc9
  have go := fun (x2 x4 x5 hi : Int) (i' : Nat) (U : Nat → Nat → Int) h1 h2 h3 h4 h5 h6 h7 h8 => pers2 (g := g) (J := J) (z := z) (k := k) (n := n) (U := U) (i' := i') (x2 := x2) (x4 := x4) (x5 := x5) (hi := hi) hB0 hVA hroom hF hTa ha hN1 ov h11 fr1 h1 h2 h3 h4 h5 h6 h7 h8 he ht
  clear hB0
  refine x_aload_n dX6_readPerson_21 rfl ?_
  refine x_aload_n dX6_readPerson_22 rfl ?_
  refine y_iconst dX6_readPerson_23 ?_
  refine x_aload_n dX6_readPerson_24 rfl ?_
  refine (show X _ _ 25 _ _ _ _ _ _ from ?_)
  refine x_callV (As := []) (mc := 0) (ms := 0) (z := mX6_seenKind) (ci := 6) dX6_readPerson_25 lX6_235 oX6_seenKind (by decide) (by first | assumption) rfl rfl (Nat.le_of_ble_eq_true rfl) (Nat.le_of_ble_eq_true rfl) rfl (q_seenKind (g := g) (J := J) (z := z) (k := 0) (n := 0) hS c1 he ht) (k_I ?_)
  refine (show X _ _ 28 _ _ _ _ _ _ from ?_)
  have b2_ := kdOf_b t e i1
  refine x_callV (As := [_, _, _]) (mc := 0) (ms := 0) (z := mX6_takeChoice) (ci := 6) dX6_readPerson_28 lX6_211 oX6_takeChoice (by decide) (by first | assumption) rfl rfl (Nat.le_of_ble_eq_true rfl) (Nat.le_of_ble_eq_true rfl) rfl (q_choice (a := a) (p := 0) (x := kdOf t e i1) hTa (by omega) (by omega) ⟨by omega, by omega⟩ hS c1 he ht) (fun v M1 hq => ?_)
  rcases hq with ⟨hb, rfl, V2, rfl, c2, s2⟩ | ⟨hb, rfl, rfl⟩
  rotate_left
  · refine (show X _ _ 31 _ [.int (iI 0)] _ _ _ _ from ?_)
    rw [eC_f hb]
    refine y_if_eq 173 dX6_readPerson_31 (by decide) ⟨by omega, by omega⟩ (fun h => ?_) (fun h => ?_)
    · exact bad V1 _ _ (fr V1 _ (show SF V1 V1 rd a q from SF_refl) c1) c1
    · omega
  refine (show X _ _ 31 _ [.int (iI 1)] _ _ _ _ from ?_)
  refine y_if_eq 173 dX6_readPerson_31 (by decide) ⟨by omega, by omega⟩ (fun h => ?_) (fun h => ?_)
  · omega
  rw [eC_t hb]
  have f2 : SF V1 V2 rd a q := SF_a hna (show SF V1 V1 rd a q from SF_refl) s2
  have ra6_2 : V2 a 6 = -2 := by rw [s2.1 _ hna, u2_s, u1_n (by decide)]; exact ra6_1
  have ra0_2 : V2 a 0 = kdOf t e i1 := by rw [s2.1 _ hna, u2_s, u1_s]
  have b2 := (show 0 ≤ kdOf t e i1 ∧ kdOf t e i1 ≤ 4 from ⟨of_decide_eq_true hb, by omega⟩)
  clear hb
  generalize kdOf t e i1 = x2 at *
  generalize tkN t e i1 = i2 at *
  clear s2 h
  refine x_aload_n dX6_readPerson_34 rfl ?_
  refine x_ldcs dX6_readPerson_35 sX6_238 ?_
  refine (show X _ _ 37 _ _ _ _ _ _ from ?_)
  refine x_callV (As := [_]) (mc := 0) (ms := 0) (z := mX6_takeWord) (ci := 6) dX6_readPerson_37 lX6_199 oX6_takeWord (by decide) (by first | assumption) rfl rfl (Nat.le_of_ble_eq_true rfl) (Nat.le_of_ble_eq_true rfl) rfl (q_word (j := 2) (by decide) hS c2 he ht) (fun v M1 hq => ?_)
  rcases hq with ⟨hb, rfl, V3, rfl, c3, s3⟩ | ⟨hb, rfl, rfl⟩
  rotate_left
  · refine (show X _ _ 40 _ [.int (iI 0)] _ _ _ _ from ?_)
    rw [eW_f hb]
    refine y_if_eq 173 dX6_readPerson_40 (by decide) ⟨by omega, by omega⟩ (fun h => ?_) (fun h => ?_)
    · exact bad V2 _ _ (fr V2 _ (f2) c2) c2
    · omega
  refine (show X _ _ 40 _ [.int (iI 1)] _ _ _ _ from ?_)
  refine y_if_eq 173 dX6_readPerson_40 (by decide) ⟨by omega, by omega⟩ (fun h => ?_) (fun h => ?_)
  · omega
  rw [eW_t hb]
  have f3 : SF V1 V3 rd a q := SF_w (f2) s3
  have ra6_3 : V3 a 6 = -2 := by rw [s3.1 _ hna]; exact ra6_2
  have ra0_3 : V3 a 0 = x2 := by rw [s3.1 _ hna]; exact ra0_2
  clear hb
  generalize tkN t e i2 = i3 at *
  clear s3 h
  refine x_aload_n dX6_readPerson_43 rfl ?_
  refine x_aload_n dX6_readPerson_44 rfl ?_
  refine y_iconst dX6_readPerson_45 ?_
  refine x_aload_n dX6_readPerson_46 rfl ?_
  refine (show X _ _ 47 _ _ _ _ _ _ from ?_)
  refine x_callV (As := []) (mc := 0) (ms := 0) (z := mX6_seenSide) (ci := 6) dX6_readPerson_47 lX6_240 oX6_seenSide (by decide) (by first | assumption) rfl rfl (Nat.le_of_ble_eq_true rfl) (Nat.le_of_ble_eq_true rfl) rfl (q_seenSide (g := g) (J := J) (z := z) (k := 0) (n := 0) hS c3 he ht) (k_I ?_)
  refine (show X _ _ 50 _ _ _ _ _ _ from ?_)
  have b4_ := sdOf_b t e i3
  refine x_callV (As := [_, _, _]) (mc := 0) (ms := 0) (z := mX6_takeChoice) (ci := 6) dX6_readPerson_50 lX6_211 oX6_takeChoice (by decide) (by first | assumption) rfl rfl (Nat.le_of_ble_eq_true rfl) (Nat.le_of_ble_eq_true rfl) rfl (q_choice (a := a) (p := 1) (x := sdOf t e i3) hTa (by omega) (by omega) ⟨by omega, by omega⟩ hS c3 he ht) (fun v M1 hq => ?_)
  rcases hq with ⟨hb, rfl, V4, rfl, c4, s4⟩ | ⟨hb, rfl, rfl⟩
  rotate_left
  · refine (show X _ _ 53 _ [.int (iI 0)] _ _ _ _ from ?_)
    rw [eC_f hb]
    refine y_if_eq 173 dX6_readPerson_53 (by decide) ⟨by omega, by omega⟩ (fun h => ?_) (fun h => ?_)
    · exact bad V3 _ _ (fr V3 _ (f3) c3) c3
    · omega
  refine (show X _ _ 53 _ [.int (iI 1)] _ _ _ _ from ?_)
  refine y_if_eq 173 dX6_readPerson_53 (by decide) ⟨by omega, by omega⟩ (fun h => ?_) (fun h => ?_)
  · omega
  rw [eC_t hb]
  have f4 : SF V1 V4 rd a q := SF_a hna (f3) s4
  have ra6_4 : V4 a 6 = -2 := by rw [s4.1 _ hna, u2_s, u1_n (by decide)]; exact ra6_3
  have ra0_4 : V4 a 0 = x2 := by rw [s4.1 _ hna, u2_s, u1_n (by decide)]; exact ra0_3
  have ra1_4 : V4 a 1 = sdOf t e i3 := by rw [s4.1 _ hna, u2_s, u1_s]
  have b4 := (show 0 ≤ sdOf t e i3 ∧ sdOf t e i3 ≤ 4 from ⟨of_decide_eq_true hb, by omega⟩)
  clear hb
  generalize sdOf t e i3 = x4 at *
  generalize tkN t e i3 = i4 at *
  clear s4 h
  refine x_aload_n dX6_readPerson_56 rfl ?_
  refine x_aload_n dX6_readPerson_57 rfl ?_
  refine x_gr dX6_readPerson_58 fX6_70 (by first | assumption) (fun _ _ _ => rfl) (by first | assumption) ?_
  refine y_iconst dX6_readPerson_61 ?_
  refine x_aload_n dX6_readPerson_62 rfl ?_
  refine (show X _ _ 63 _ _ _ _ _ _ from ?_)
  refine x_callV (As := []) (mc := 0) (ms := 0) (z := mX6_seenAge) (ci := 6) dX6_readPerson_63 lX6_243 oX6_seenAge (by decide) (by first | assumption) rfl rfl (Nat.le_of_ble_eq_true rfl) (Nat.le_of_ble_eq_true rfl) rfl (q_seenAge (g := g) (J := J) (z := z) (k := 0) (n := 0) hS c4 he ht) (k_I ?_)
  refine (show X _ _ 66 _ _ _ _ _ _ from ?_)
  have b5_ := agOf_b t e i4
  refine x_callV (As := [_, _, _]) (mc := 0) (ms := 0) (z := mX6_takeChoice) (ci := 6) dX6_readPerson_66 lX6_211 oX6_takeChoice (by decide) (by first | assumption) rfl rfl (Nat.le_of_ble_eq_true rfl) (Nat.le_of_ble_eq_true rfl) rfl (q_choice (a := (q + 4)) (p := 0) (x := agOf t e i4) hTh (by omega) (by omega) ⟨by omega, by omega⟩ hS c4 he ht) (fun v M1 hq => ?_)
  rcases hq with ⟨hb, rfl, V5, rfl, c5, s5⟩ | ⟨hb, rfl, rfl⟩
  rotate_left
  · refine (show X _ _ 69 _ [.int (iI 0)] _ _ _ _ from ?_)
    rw [eC_f hb]
    refine y_if_eq 173 dX6_readPerson_69 (by decide) ⟨by omega, by omega⟩ (fun h => ?_) (fun h => ?_)
    · exact bad V4 _ _ (fr V4 _ (f4) c4) c4
    · omega
  refine (show X _ _ 69 _ [.int (iI 1)] _ _ _ _ from ?_)
  refine y_if_eq 173 dX6_readPerson_69 (by decide) ⟨by omega, by omega⟩ (fun h => ?_) (fun h => ?_)
  · omega
  rw [eC_t hb]
  have f5 : SF V1 V5 rd a q := SF_h hnh (f4) s5
  have ra6_5 : V5 a 6 = -2 := by rw [s5.1 _ hna, u2_n (by omega)]; exact ra6_4
  have ra0_5 : V5 a 0 = x2 := by rw [s5.1 _ hna, u2_n (by omega)]; exact ra0_4
  have ra1_5 : V5 a 1 = x4 := by rw [s5.1 _ hna, u2_n (by omega)]; exact ra1_4
  have rh0_5 : V5 (q + 4) 0 = agOf t e i4 := by rw [s5.1 _ hnh, u2_s, u1_s]
  have b5 := (show 0 ≤ agOf t e i4 ∧ agOf t e i4 ≤ 4 from ⟨of_decide_eq_true hb, by omega⟩)
  clear hb
  generalize agOf t e i4 = x5 at *
  generalize tkN t e i4 = i5 at *
  clear s5 h
  obtain ⟨hi, hhi⟩ : ∃ hi : Int, hi = if x5 = 0 then 90 else A 0 0 - 1 := ⟨_, rfl⟩
  have hhb : 3 ≤ hi ∧ hi ≤ 90 := by rw [hhi]; split <;> omega
  rw [← hhi]
  have go := go x2 x4 x5 hi i5 V5 hhb b5 c5 f5 ra0_5 ra1_5 ra6_5 rh0_5
  refine x_aload_n dX6_readPerson_72 rfl ?_
  refine x_aload_n dX6_readPerson_73 rfl ?_
  refine y_iconst dX6_readPerson_74 ?_
  refine x_aload_n dX6_readPerson_75 rfl ?_
  refine x_gr dX6_readPerson_76 fX6_70 (by first | assumption) (fun _ _ _ => rfl) (by first | assumption) ?_
  refine y_iconst dX6_readPerson_79 ?_
  refine y_iald (0) dX6_readPerson_80 (by first | assumption) (by first | rfl | omega) (by omega) (by decide) ?_
  refine (show X _ _ 81 _ _ _ _ _ _ from ?_)
  refine X.val rh0_5 ?_
  refine x_aload_n dX6_readPerson_81 rfl ?_
  refine x_gr dX6_readPerson_82 fX6_70 (by first | assumption) (fun _ _ _ => rfl) (by first | assumption) ?_
  refine y_iconst dX6_readPerson_85 ?_
  refine y_iald (0) dX6_readPerson_86 (by first | assumption) (by first | rfl | omega) (by omega) (by decide) ?_
  refine (show X _ _ 87 _ _ _ _ _ _ from ?_)
  refine X.val rh0_5 ?_
  refine y_if_ne 95 dX6_readPerson_87 (by decide) ⟨by omega, by omega⟩ (fun hz => ?_) (fun hz => ?_)
  · refine x_aload_n dX6_readPerson_95 rfl ?_
    refine x_gr dX6_readPerson_96 fX6_12 (by first | assumption) (fun _ _ _ => rfl) (by first | assumption) ?_
    refine y_gi dX6_readPerson_99 fX6_156 (by first | assumption) (fun _ _ _ => rfl) ?_
    refine (show X _ _ 102 _ _ _ _ _ _ from ?_)
    refine X.val (fy _ 0 (by decide) f5) ?_
    refine y_iconst dX6_readPerson_102 ?_
    refine y_isub dX6_readPerson_103 ?_
    refine (show X _ _ 104 _ _ _ _ _ _ from ?_)
    refine X.val (b := hi) (by rw [hhi, if_neg hz]) ?_
    exact go
  · refine y_bipush dX6_readPerson_90 rfl ?_
    refine x_goto 104 dX6_readPerson_92 (by decide) ?_
    refine (show X _ _ 104 _ _ _ _ _ _ from ?_)
    refine X.val (b := hi) (by rw [hhi, if_pos hz]) ?_
    exact go

end C52
