/-! ===== the law: calls, 1 ===== -/
section LWaf
variable {g : GG} {T : Nat → Nat × Nat} {R : Nat → Nat → Option Nat} {V A B : Nat → Nat → Int} {J : Nat → Nat → Int64} {z k n : Nat} {o fw fr r f b ou N i : Nat} {σ : Nat → Nat} {xs t : Nat → Int} {tp : Nat} {h : Bool} {a m : Nat} {H K : Nat → Nat → Nat → Int} {wr pl tr : Int} {Q : Option Value → Mem → Prop}
theorem l_feed (hJ : LJ T R V z b o r ou N xs fw fr σ f t tp h A B a m H K wr pl tr) (hx : ∀ j, R32 (xs j)) (hi : i + 6 ≤ N) (hN : N ≤ 3072) (hnx : ∀ M, LN b o r ou N xs M → X g mL_law 1710 [.ref b, .ref o, .ref r, .ref ou, .int (iI (i : Int)), jk, jk] [] M k n Q) : X g mL_law 256 [.ref b, .ref o, .ref r, .ref ou, .int (iI (i : Int)), jk, jk] [] (T, iV V, R, J, z) k n Q := by
  have hT10 := hJ.1.1.1.1
  by_cases hc : tp ≤ 1080
  · skip
    refine x_aload_n dL_law_256 rfl ?_
    refine y_arg 1 dL_law_257 dL_law_258 dL_law_260 dL_law_261 dL_law_262 rfl rfl hJ.2.2.2.2.2.1 rfl (by omega) (by omega) ?_
    rw [hJ.2.2.2.2.2.2.1]
    refine y_arg 2 dL_law_263 dL_law_264 dL_law_266 dL_law_267 dL_law_268 rfl rfl hJ.2.2.2.2.2.1 rfl (by omega) (by omega) ?_
    rw [hJ.2.2.2.2.2.2.1]
    refine y_arg 3 dL_law_269 dL_law_270 dL_law_272 dL_law_273 dL_law_274 rfl rfl hJ.2.2.2.2.2.1 rfl (by omega) (by omega) ?_
    rw [hJ.2.2.2.2.2.2.1]
    refine y_arg 4 dL_law_275 dL_law_276 dL_law_278 dL_law_279 dL_law_280 rfl rfl hJ.2.2.2.2.2.1 rfl (by omega) (by omega) ?_
    rw [hJ.2.2.2.2.2.2.1]
    refine y_arg 5 dL_law_281 dL_law_282 dL_law_284 dL_law_285 dL_law_286 rfl rfl hJ.2.2.2.2.2.1 rfl (by omega) (by omega) ?_
    rw [hJ.2.2.2.2.2.2.1]
    refine x_callV (As := [_, _, _, _, _]) (mc := 0) (ms := 0) (z := mX10_feed) (ci := 10) dL_law_287 lL_19 oX10_feed (by decide) hT10 rfl rfl (Nat.le_of_ble_eq_true rfl) (Nat.le_of_ble_eq_true rfl) rfl (f_feed (g := g) (J := J) (z := z) (k := 0) (n := 0) hJ.1 hc) (fun v M1 hq => ?_)
    obtain ⟨rfl, V1, R1, fw1, fr1, σ1, rfl, hI1, hD1, hB1⟩ := LJ_c hJ hq
    refine (show X _ _ 290 _ [.int _] _ _ _ _ from ?_)
    have hT12 := hD1.1.1
    refine x_aload_n dL_law_290 rfl ?_
    refine y_arg 1 dL_law_291 dL_law_292 dL_law_294 dL_law_295 dL_law_296 rfl rfl hB1.2.2.1 rfl (by omega) (by omega) ?_
    rw [hB1.2.2.2.1]
    refine y_arg 2 dL_law_297 dL_law_298 dL_law_300 dL_law_301 dL_law_302 rfl rfl hB1.2.2.1 rfl (by omega) (by omega) ?_
    rw [hB1.2.2.2.1]
    refine y_arg 3 dL_law_303 dL_law_304 dL_law_306 dL_law_307 dL_law_308 rfl rfl hB1.2.2.1 rfl (by omega) (by omega) ?_
    rw [hB1.2.2.2.1]
    refine y_arg 4 dL_law_309 dL_law_310 dL_law_312 dL_law_313 dL_law_314 rfl rfl hB1.2.2.1 rfl (by omega) (by omega) ?_
    rw [hB1.2.2.2.1]
    refine y_arg 5 dL_law_315 dL_law_316 dL_law_318 dL_law_319 dL_law_320 rfl rfl hB1.2.2.1 rfl (by omega) (by omega) ?_
    rw [hB1.2.2.2.1]
    have hk := k_feed (g := g) (J := J) (z := z) (k := 0) (n := 0) (V := V1) hD1 (w1 := iI (xs (i + 1))) (w2 := iI (xs (i + 2))) (w3 := iI (xs (i + 3))) (w4 := iI (xs (i + 4))) (w5 := iI (xs (i + 5))) hc
    rw [pB_self (fun _ _ => rfl)] at hk
    refine x_callV (As := [_, _, _, _, _]) (mc := 0) (ms := 0) (z := mX12_feed) (ci := 12) dL_law_321 lL_23 oX12_feed (by decide) hT12 rfl rfl (Nat.le_of_ble_eq_true rfl) (Nat.le_of_ble_eq_true rfl) rfl (hk) (fun v M1 hq => ?_)
    obtain ⟨rfl, V2, rfl, hJ2⟩ := LJ_d hI1 hB1 (id) (by first | exact hJ.2.2.1 | exact yTr_r | exact pyTr_r | exact rTr_r | exact sTr_r | decide | (repeat' split) <;> decide) hq
    refine (show X _ _ 324 _ [.int _, .int _] _ _ _ _ from ?_)
    refine x_icmp_eq 1710 dL_law_324 (by decide) (fun _ => ?_) (fun q => absurd (rfl) q)
    exact hnx _ (LN_of hJ2)
  · skip
    refine x_aload_n dL_law_256 rfl ?_
    refine y_arg 1 dL_law_257 dL_law_258 dL_law_260 dL_law_261 dL_law_262 rfl rfl hJ.2.2.2.2.2.1 rfl (by omega) (by omega) ?_
    rw [hJ.2.2.2.2.2.2.1]
    refine y_arg 2 dL_law_263 dL_law_264 dL_law_266 dL_law_267 dL_law_268 rfl rfl hJ.2.2.2.2.2.1 rfl (by omega) (by omega) ?_
    rw [hJ.2.2.2.2.2.2.1]
    refine y_arg 3 dL_law_269 dL_law_270 dL_law_272 dL_law_273 dL_law_274 rfl rfl hJ.2.2.2.2.2.1 rfl (by omega) (by omega) ?_
    rw [hJ.2.2.2.2.2.2.1]
    refine y_arg 4 dL_law_275 dL_law_276 dL_law_278 dL_law_279 dL_law_280 rfl rfl hJ.2.2.2.2.2.1 rfl (by omega) (by omega) ?_
    rw [hJ.2.2.2.2.2.2.1]
    refine y_arg 5 dL_law_281 dL_law_282 dL_law_284 dL_law_285 dL_law_286 rfl rfl hJ.2.2.2.2.2.1 rfl (by omega) (by omega) ?_
    rw [hJ.2.2.2.2.2.2.1]
    refine x_callV (As := [_, _, _, _, _]) (mc := 0) (ms := 0) (z := mX10_feed) (ci := 10) dL_law_287 lL_19 oX10_feed (by decide) hT10 rfl rfl (Nat.le_of_ble_eq_true rfl) (Nat.le_of_ble_eq_true rfl) rfl (f_feed1 (g := g) (J := J) (z := z) (k := 0) (n := 0) hJ.1 (by omega)) (fun v M1 hq => ?_)
    obtain ⟨rfl, V1, R1, fw1, fr1, σ1, rfl, hI1, hD1, hB1⟩ := LJ_c hJ hq
    refine (show X _ _ 290 _ [.int _] _ _ _ _ from ?_)
    have hT12 := hD1.1.1
    refine x_aload_n dL_law_290 rfl ?_
    refine y_arg 1 dL_law_291 dL_law_292 dL_law_294 dL_law_295 dL_law_296 rfl rfl hB1.2.2.1 rfl (by omega) (by omega) ?_
    rw [hB1.2.2.2.1]
    refine y_arg 2 dL_law_297 dL_law_298 dL_law_300 dL_law_301 dL_law_302 rfl rfl hB1.2.2.1 rfl (by omega) (by omega) ?_
    rw [hB1.2.2.2.1]
    refine y_arg 3 dL_law_303 dL_law_304 dL_law_306 dL_law_307 dL_law_308 rfl rfl hB1.2.2.1 rfl (by omega) (by omega) ?_
    rw [hB1.2.2.2.1]
    refine y_arg 4 dL_law_309 dL_law_310 dL_law_312 dL_law_313 dL_law_314 rfl rfl hB1.2.2.1 rfl (by omega) (by omega) ?_
    rw [hB1.2.2.2.1]
    refine y_arg 5 dL_law_315 dL_law_316 dL_law_318 dL_law_319 dL_law_320 rfl rfl hB1.2.2.1 rfl (by omega) (by omega) ?_
    rw [hB1.2.2.2.1]
    have hk := k_feed1 (g := g) (J := J) (z := z) (k := 0) (n := 0) (V := V1) hD1 (w1 := iI (xs (i + 1))) (w2 := iI (xs (i + 2))) (w3 := iI (xs (i + 3))) (w4 := iI (xs (i + 4))) (w5 := iI (xs (i + 5))) (by omega)
    rw [pB_self (fun _ _ => rfl)] at hk
    refine x_callV (As := [_, _, _, _, _]) (mc := 0) (ms := 0) (z := mX12_feed) (ci := 12) dL_law_321 lL_23 oX12_feed (by decide) hT12 rfl rfl (Nat.le_of_ble_eq_true rfl) (Nat.le_of_ble_eq_true rfl) rfl (hk) (fun v M1 hq => ?_)
    obtain ⟨rfl, V2, rfl, hJ2⟩ := LJ_d hI1 hB1 (id) (by first | exact hJ.2.2.1 | exact yTr_r | exact pyTr_r | exact rTr_r | exact sTr_r | decide | (repeat' split) <;> decide) hq
    refine (show X _ _ 324 _ [.int _, .int _] _ _ _ _ from ?_)
    refine x_icmp_eq 1710 dL_law_324 (by decide) (fun _ => ?_) (fun q => absurd (rfl) q)
    exact hnx _ (LN_of hJ2)
theorem l_family (hJ : LJ T R V z b o r ou N xs fw fr σ f t tp h A B a m H K wr pl tr) (hx : ∀ j, R32 (xs j)) (hi : i + 6 ≤ N) (hN : N ≤ 3072) (hnx : ∀ M, LN b o r ou N xs M → X g mL_law 1710 [.ref b, .ref o, .ref r, .ref ou, .int (iI (i : Int)), jk, jk] [] M k n Q) : X g mL_law 329 [.ref b, .ref o, .ref r, .ref ou, .int (iI (i : Int)), jk, jk] [] (T, iV V, R, J, z) (k + 24) (n + (0 + 316 + 33)) Q := by
  have hT10 := hJ.1.1.1.1
  have hby := LJ_by hJ
  by_cases hc : (xs (i + 1)) < 0 ∨ (tp : Int) < (xs (i + 1))
  · refine X.less (k' := k) (n' := n) ?_ (by omega) (by omega)
    refine x_aload_n dL_law_329 rfl ?_
    refine y_arg 1 dL_law_330 dL_law_331 dL_law_333 dL_law_334 dL_law_335 rfl rfl hJ.2.2.2.2.2.1 rfl (by omega) (by omega) ?_
    rw [hJ.2.2.2.2.2.2.1]
    refine x_callV (As := [_]) (mc := 0) (ms := 0) (z := mX10_family) (ci := 10) dL_law_336 lL_24 oX10_family (by decide) hT10 rfl rfl (Nat.le_of_ble_eq_true rfl) (Nat.le_of_ble_eq_true rfl) rfl (f_fam0 (g := g) (J := J) (z := z) (k := 0) (n := 0) hJ.1 (hx (i + 1)) hc) (fun v M1 hq => ?_)
    obtain ⟨rfl, V1, R1, fw1, fr1, σ1, rfl, hI1, hD1, hB1⟩ := LJ_c hJ hq
    refine (show X _ _ 339 _ [.int _] _ _ _ _ from ?_)
    have hT12 := hD1.1.1
    refine x_aload_n dL_law_339 rfl ?_
    refine y_arg 1 dL_law_340 dL_law_341 dL_law_343 dL_law_344 dL_law_345 rfl rfl hB1.2.2.1 rfl (by omega) (by omega) ?_
    rw [hB1.2.2.2.1]
    have hk := k_fam0 (g := g) (J := J) (z := z) (k := 0) (n := 0) (V := V1) hD1 (hx (i + 1)) hc
    rw [pB_self (fun _ _ => rfl)] at hk
    refine x_callV (As := [_]) (mc := 0) (ms := 0) (k := k) (n := n) (z := mX12_family) (ci := 12) dL_law_346 lL_27 oX12_family (by decide) hT12 rfl rfl (Nat.le_of_ble_eq_true rfl) (Nat.le_of_ble_eq_true rfl) rfl hk (fun v M1 hq => ?_)
    obtain ⟨rfl, V2, rfl, hJ2⟩ := LJ_d hI1 hB1 id (by decide) hq
    refine (show X _ _ 349 _ [.int _, .int _] _ _ _ _ from ?_)
    refine x_icmp_eq 1710 dL_law_349 (by decide) (fun _ => ?_) (fun q => absurd rfl q)
    exact hnx _ (LN_of hJ2)
  · have hc2 : 0 ≤ (xs (i + 1)) ∧ (xs (i + 1)) ≤ tp := by omega
    cases hp : pText t (xs (i + 1)).toNat with
    | inl cs =>
      obtain ⟨c, s⟩ := cs
      refine x_aload_n dL_law_329 rfl ?_
      refine y_arg 1 dL_law_330 dL_law_331 dL_law_333 dL_law_334 dL_law_335 rfl rfl hJ.2.2.2.2.2.1 rfl (by omega) (by omega) ?_
      rw [hJ.2.2.2.2.2.2.1]
      refine x_callV (As := [_]) (mc := 0) (ms := 0) (z := mX10_family) (ci := 10) dL_law_336 lL_24 oX10_family (by decide) hT10 rfl rfl (Nat.le_of_ble_eq_true rfl) (Nat.le_of_ble_eq_true rfl) rfl (f_fam1 (g := g) (J := J) (z := z) (k := 0) (n := 0) hJ.1 hc2 hp) (fun v M1 hq => ?_)
      obtain ⟨rfl, V1, R1, fw1, fr1, σ1, rfl, hI1, hD1, hB1⟩ := LJ_c hJ hq
      refine (show X _ _ 339 _ [.int _] _ _ _ _ from ?_)
      have hT12 := hD1.1.1
      refine x_aload_n dL_law_339 rfl ?_
      refine y_arg 1 dL_law_340 dL_law_341 dL_law_343 dL_law_344 dL_law_345 rfl rfl hB1.2.2.1 rfl (by omega) (by omega) ?_
      rw [hB1.2.2.2.1]
      have hk := k_fam1 (g := g) (J := J) (V := V1) hD1 (z := z) (by have := hB1.1; omega) (fun q => (hB1.2.1 q).2) hby hc2 hp
      rw [pB_self (fun _ _ => rfl)] at hk
      refine x_callV (As := [_]) (mc := 24) (ms := 0 + 316 + 33) (k := k) (n := n) (z := mX12_family) (ci := 12) dL_law_346 lL_27 oX12_family (by decide) hT12 rfl rfl (Nat.le_of_ble_eq_true rfl) (Nat.le_of_ble_eq_true rfl) rfl hk (fun v M1 hq => ?_)
      obtain ⟨rfl, T2, R2, V2, J2, rfl, hJ2⟩ := LJ_q hI1 hB1 (fun q => Or.inl ⟨rfl, q⟩) (by decide) hq
      refine (show X _ _ 349 _ [.int _, .int _] _ _ _ _ from ?_)
      refine x_icmp_eq 1710 dL_law_349 (by decide) (fun _ => ?_) (fun q => absurd rfl q)
      exact hnx _ (LN_of hJ2)
    | inr s =>
      refine x_aload_n dL_law_329 rfl ?_
      refine y_arg 1 dL_law_330 dL_law_331 dL_law_333 dL_law_334 dL_law_335 rfl rfl hJ.2.2.2.2.2.1 rfl (by omega) (by omega) ?_
      rw [hJ.2.2.2.2.2.2.1]
      refine x_callV (As := [_]) (mc := 0) (ms := 0) (z := mX10_family) (ci := 10) dL_law_336 lL_24 oX10_family (by decide) hT10 rfl rfl (Nat.le_of_ble_eq_true rfl) (Nat.le_of_ble_eq_true rfl) rfl (f_fam2 (g := g) (J := J) (z := z) (k := 0) (n := 0) hJ.1 hc2 hp) (fun v M1 hq => ?_)
      obtain ⟨pl9, hq⟩ := hq
      obtain ⟨rfl, V1, R1, fw1, fr1, σ1, rfl, hI1, hD1, hB1⟩ := LJ_c hJ hq
      refine (show X _ _ 339 _ [.int _] _ _ _ _ from ?_)
      have hT12 := hD1.1.1
      refine x_aload_n dL_law_339 rfl ?_
      refine y_arg 1 dL_law_340 dL_law_341 dL_law_343 dL_law_344 dL_law_345 rfl rfl hB1.2.2.1 rfl (by omega) (by omega) ?_
      rw [hB1.2.2.2.1]
      have hk := k_fam2 (g := g) (J := J) (V := V1) (pl' := pl9) hD1 (z := z) (by have := hB1.1; omega) hby hc2 hp
      rw [pB_self (fun _ _ => rfl)] at hk
      refine x_callV (As := [_]) (mc := 24) (ms := 0 + 316 + 33) (k := k) (n := n) (z := mX12_family) (ci := 12) dL_law_346 lL_27 oX12_family (by decide) hT12 rfl rfl (Nat.le_of_ble_eq_true rfl) (Nat.le_of_ble_eq_true rfl) rfl hk (fun v M1 hq => ?_)
      obtain ⟨rfl, T2, R2, V2, J2, rfl, hJ2⟩ := LJ_q hI1 hB1 (fun q => Or.inr rfl) (by decide) hq
      refine (show X _ _ 349 _ [.int _, .int _] _ _ _ _ from ?_)
      refine x_icmp_eq 1710 dL_law_349 (by decide) (fun _ => ?_) (fun q => absurd rfl q)
      exact hnx _ (LN_of hJ2)
theorem l_fault (hJ : LJ T R V z b o r ou N xs fw fr σ f t tp h A B a m H K wr pl tr) (hx : ∀ j, R32 (xs j)) (hi : i + 6 ≤ N) (hN : N ≤ 3072) (hnx : ∀ M, LN b o r ou N xs M → X g mL_law 1710 [.ref b, .ref o, .ref r, .ref ou, .int (iI (i : Int)), jk, jk] [] M k n Q) : X g mL_law 354 [.ref b, .ref o, .ref r, .ref ou, .int (iI (i : Int)), jk, jk] [] (T, iV V, R, J, z) k n Q := by
  have hT10 := hJ.1.1.1.1
  refine x_aload_n dL_law_354 rfl ?_
  refine x_callV (As := []) (mc := 0) (ms := 0) (z := mX10_fault) (ci := 10) dL_law_355 lL_28 oX10_fault (by decide) hT10 rfl rfl (Nat.le_of_ble_eq_true rfl) (Nat.le_of_ble_eq_true rfl) rfl (f_fault (g := g) (J := J) (z := z) (k := 0) (n := 0) hJ.1) (fun v M1 hq => ?_)
  obtain ⟨rfl, V1, R1, fw1, fr1, σ1, rfl, hI1, hD1, hB1⟩ := LJ_c hJ hq
  refine (show X _ _ 358 _ [.int _] _ _ _ _ from ?_)
  have hT12 := hD1.1.1
  refine x_aload_n dL_law_358 rfl ?_
  have hk := k_fault (g := g) (J := J) (z := z) (k := 0) (n := 0) (V := V1) hD1
  rw [pB_self (fun _ _ => rfl)] at hk
  refine x_callV (As := []) (mc := 0) (ms := 0) (z := mX12_fault) (ci := 12) dL_law_359 lL_32 oX12_fault (by decide) hT12 rfl rfl (Nat.le_of_ble_eq_true rfl) (Nat.le_of_ble_eq_true rfl) rfl (hk) (fun v M1 hq => ?_)
  obtain ⟨rfl, V2, rfl, hJ2⟩ := LJ_d hI1 hB1 (id) (by first | exact hJ.2.2.1 | exact yTr_r | exact pyTr_r | exact rTr_r | exact sTr_r | decide | (repeat' split) <;> decide) hq
  refine (show X _ _ 362 _ [.int _, .int _] _ _ _ _ from ?_)
  refine x_icmp_eq 1710 dL_law_362 (by decide) (fun _ => ?_) (fun q => absurd (rfl) q)
  exact hnx _ (LN_of hJ2)
theorem l_where (hJ : LJ T R V z b o r ou N xs fw fr σ f t tp h A B a m H K wr pl tr) (hx : ∀ j, R32 (xs j)) (hi : i + 6 ≤ N) (hN : N ≤ 3072) (hnx : ∀ M, LN b o r ou N xs M → X g mL_law 1710 [.ref b, .ref o, .ref r, .ref ou, .int (iI (i : Int)), jk, jk] [] M k n Q) : X g mL_law 367 [.ref b, .ref o, .ref r, .ref ou, .int (iI (i : Int)), jk, jk] [] (T, iV V, R, J, z) k n Q := by
  have hT10 := hJ.1.1.1.1
  refine x_aload_n dL_law_367 rfl ?_
  refine x_callV (As := []) (mc := 0) (ms := 0) (z := mX10_where) (ci := 10) dL_law_368 lL_33 oX10_where (by decide) hT10 rfl rfl (Nat.le_of_ble_eq_true rfl) (Nat.le_of_ble_eq_true rfl) rfl (f_where (g := g) (J := J) (z := z) (k := 0) (n := 0) hJ.1 ⟨by have := hJ.2.2.1; omega, by have := hJ.2.2.1; omega⟩) (fun v M1 hq => ?_)
  obtain ⟨rfl, V1, R1, fw1, fr1, σ1, rfl, hI1, hD1, hB1⟩ := LJ_c hJ hq
  refine (show X _ _ 371 _ [.int _] _ _ _ _ from ?_)
  have hT12 := hD1.1.1
  refine x_aload_n dL_law_371 rfl ?_
  have hk := k_where (g := g) (J := J) (z := z) (k := 0) (n := 0) (V := V1) hD1
  rw [pB_self (fun _ _ => rfl)] at hk
  refine x_callV (As := []) (mc := 0) (ms := 0) (z := mX12_where) (ci := 12) dL_law_372 lL_36 oX12_where (by decide) hT12 rfl rfl (Nat.le_of_ble_eq_true rfl) (Nat.le_of_ble_eq_true rfl) rfl (hk) (fun v M1 hq => ?_)
  obtain ⟨rfl, V2, rfl, hJ2⟩ := LJ_d hI1 hB1 (id) (by first | exact hJ.2.2.1 | exact yTr_r | exact pyTr_r | exact rTr_r | exact sTr_r | decide | (repeat' split) <;> decide) hq
  refine (show X _ _ 375 _ [.int _, .int _] _ _ _ _ from ?_)
  refine x_icmp_eq 1710 dL_law_375 (by decide) (fun _ => ?_) (fun q => absurd (rfl) q)
  exact hnx _ (LN_of hJ2)
theorem l_person (hJ : LJ T R V z b o r ou N xs fw fr σ f t tp h A B a m H K wr pl tr) (hx : ∀ j, R32 (xs j)) (hi : i + 6 ≤ N) (hN : N ≤ 3072) (hnx : ∀ M, LN b o r ou N xs M → X g mL_law 1710 [.ref b, .ref o, .ref r, .ref ou, .int (iI (i : Int)), jk, jk] [] M k n Q) : X g mL_law 380 [.ref b, .ref o, .ref r, .ref ou, .int (iI (i : Int)), jk, jk] [] (T, iV V, R, J, z) k n Q := by
  have hT10 := hJ.1.1.1.1
  refine x_aload_n dL_law_380 rfl ?_
  refine y_arg 1 dL_law_381 dL_law_382 dL_law_384 dL_law_385 dL_law_386 rfl rfl hJ.2.2.2.2.2.1 rfl (by omega) (by omega) ?_
  rw [hJ.2.2.2.2.2.2.1]
  refine y_arg 2 dL_law_387 dL_law_388 dL_law_390 dL_law_391 dL_law_392 rfl rfl hJ.2.2.2.2.2.1 rfl (by omega) (by omega) ?_
  rw [hJ.2.2.2.2.2.2.1]
  refine x_callV (As := [_, _]) (mc := 0) (ms := 0) (z := mX10_person) (ci := 10) dL_law_393 lL_37 oX10_person (by decide) hT10 rfl rfl (Nat.le_of_ble_eq_true rfl) (Nat.le_of_ble_eq_true rfl) rfl (f_person (g := g) (J := J) (z := z) (k := 0) (n := 0) hJ.1 (hx (i + 1)) (hx (i + 2))) (fun v M1 hq => ?_)
  obtain ⟨rfl, V1, R1, fw1, fr1, σ1, rfl, hI1, hD1, hB1⟩ := LJ_c hJ hq
  refine (show X _ _ 396 _ [.int _] _ _ _ _ from ?_)
  have hT12 := hD1.1.1
  refine x_aload_n dL_law_396 rfl ?_
  refine y_arg 1 dL_law_397 dL_law_398 dL_law_400 dL_law_401 dL_law_402 rfl rfl hB1.2.2.1 rfl (by omega) (by omega) ?_
  rw [hB1.2.2.2.1]
  refine y_arg 2 dL_law_403 dL_law_404 dL_law_406 dL_law_407 dL_law_408 rfl rfl hB1.2.2.1 rfl (by omega) (by omega) ?_
  rw [hB1.2.2.2.1]
  have hk := k_person (g := g) (J := J) (z := z) (k := 0) (n := 0) (V := V1) hD1 (hx (i + 1)) (hx (i + 2))
  rw [pB_self (fun _ _ => rfl)] at hk
  refine x_callV (As := [_, _]) (mc := 0) (ms := 0) (z := mX12_person) (ci := 12) dL_law_409 lL_41 oX12_person (by decide) hT12 rfl rfl (Nat.le_of_ble_eq_true rfl) (Nat.le_of_ble_eq_true rfl) rfl (hk) (fun v M1 hq => ?_)
  obtain ⟨rfl, V2, rfl, hJ2⟩ := LJ_d hI1 hB1 (id) (by first | exact hJ.2.2.1 | exact yTr_r | exact pyTr_r | exact rTr_r | exact sTr_r | decide | (repeat' split) <;> decide) hq
  refine (show X _ _ 412 _ [.int _, .int _] _ _ _ _ from ?_)
  refine x_icmp_eq 1710 dL_law_412 (by decide) (fun _ => ?_) (fun q => absurd (rfl) q)
  exact hnx _ (LN_of hJ2)
theorem l_plan (hJ : LJ T R V z b o r ou N xs fw fr σ f t tp h A B a m H K wr pl tr) (hx : ∀ j, R32 (xs j)) (hi : i + 6 ≤ N) (hN : N ≤ 3072) (hnx : ∀ M, LN b o r ou N xs M → X g mL_law 1710 [.ref b, .ref o, .ref r, .ref ou, .int (iI (i : Int)), jk, jk] [] M k n Q) : X g mL_law 417 [.ref b, .ref o, .ref r, .ref ou, .int (iI (i : Int)), jk, jk] [] (T, iV V, R, J, z) k n Q := by
  have hT10 := hJ.1.1.1.1
  refine x_aload_n dL_law_417 rfl ?_
  refine y_arg 1 dL_law_418 dL_law_419 dL_law_421 dL_law_422 dL_law_423 rfl rfl hJ.2.2.2.2.2.1 rfl (by omega) (by omega) ?_
  rw [hJ.2.2.2.2.2.2.1]
  refine y_arg 2 dL_law_424 dL_law_425 dL_law_427 dL_law_428 dL_law_429 rfl rfl hJ.2.2.2.2.2.1 rfl (by omega) (by omega) ?_
  rw [hJ.2.2.2.2.2.2.1]
  refine x_callV (As := [_, _]) (mc := 0) (ms := 0) (z := mX10_plan) (ci := 10) dL_law_430 lL_42 oX10_plan (by decide) hT10 rfl rfl (Nat.le_of_ble_eq_true rfl) (Nat.le_of_ble_eq_true rfl) rfl (f_plan (g := g) (J := J) (z := z) (k := 0) (n := 0) hJ.1 (hx (i + 1)) (hx (i + 2))) (fun v M1 hq => ?_)
  obtain ⟨rfl, V1, R1, fw1, fr1, σ1, rfl, hI1, hD1, hB1⟩ := LJ_c hJ hq
  refine (show X _ _ 433 _ [.int _] _ _ _ _ from ?_)
  have hT12 := hD1.1.1
  refine x_aload_n dL_law_433 rfl ?_
  refine y_arg 1 dL_law_434 dL_law_435 dL_law_437 dL_law_438 dL_law_439 rfl rfl hB1.2.2.1 rfl (by omega) (by omega) ?_
  rw [hB1.2.2.2.1]
  refine y_arg 2 dL_law_440 dL_law_441 dL_law_443 dL_law_444 dL_law_445 rfl rfl hB1.2.2.1 rfl (by omega) (by omega) ?_
  rw [hB1.2.2.2.1]
  have hk := k_plan (g := g) (J := J) (z := z) (k := 0) (n := 0) (V := V1) hD1 (hx (i + 1)) (hx (i + 2))
  rw [pB_self (fun _ _ => rfl)] at hk
  refine x_callV (As := [_, _]) (mc := 0) (ms := 0) (z := mX12_plan) (ci := 12) dL_law_446 lL_45 oX12_plan (by decide) hT12 rfl rfl (Nat.le_of_ble_eq_true rfl) (Nat.le_of_ble_eq_true rfl) rfl (hk) (fun v M1 hq => ?_)
  obtain ⟨rfl, V2, rfl, hJ2⟩ := LJ_d hI1 hB1 (id) (by first | exact hJ.2.2.1 | exact yTr_r | exact pyTr_r | exact rTr_r | exact sTr_r | decide | (repeat' split) <;> decide) hq
  refine (show X _ _ 449 _ [.int _, .int _] _ _ _ _ from ?_)
  refine x_icmp_eq 1710 dL_law_449 (by decide) (fun _ => ?_) (fun q => absurd (rfl) q)
  exact hnx _ (LN_of hJ2)
theorem l_secret (hJ : LJ T R V z b o r ou N xs fw fr σ f t tp h A B a m H K wr pl tr) (hx : ∀ j, R32 (xs j)) (hi : i + 6 ≤ N) (hN : N ≤ 3072) (hnx : ∀ M, LN b o r ou N xs M → X g mL_law 1710 [.ref b, .ref o, .ref r, .ref ou, .int (iI (i : Int)), jk, jk] [] M k n Q) : X g mL_law 454 [.ref b, .ref o, .ref r, .ref ou, .int (iI (i : Int)), jk, jk] [] (T, iV V, R, J, z) k n Q := by
  have hT10 := hJ.1.1.1.1
  refine x_aload_n dL_law_454 rfl ?_
  refine y_arg 1 dL_law_455 dL_law_456 dL_law_458 dL_law_459 dL_law_460 rfl rfl hJ.2.2.2.2.2.1 rfl (by omega) (by omega) ?_
  rw [hJ.2.2.2.2.2.2.1]
  refine x_callV (As := [_]) (mc := 0) (ms := 0) (z := mX10_secret) (ci := 10) dL_law_461 lL_46 oX10_secret (by decide) hT10 rfl rfl (Nat.le_of_ble_eq_true rfl) (Nat.le_of_ble_eq_true rfl) rfl (f_secret (g := g) (J := J) (z := z) (k := 0) (n := 0) hJ.1 (hx (i + 1))) (fun v M1 hq => ?_)
  obtain ⟨rfl, V1, R1, fw1, fr1, σ1, rfl, hI1, hD1, hB1⟩ := LJ_c hJ hq
  refine (show X _ _ 464 _ [.int _] _ _ _ _ from ?_)
  have hT12 := hD1.1.1
  refine x_aload_n dL_law_464 rfl ?_
  refine y_arg 1 dL_law_465 dL_law_466 dL_law_468 dL_law_469 dL_law_470 rfl rfl hB1.2.2.1 rfl (by omega) (by omega) ?_
  rw [hB1.2.2.2.1]
  have hk := k_secret (g := g) (J := J) (z := z) (k := 0) (n := 0) (V := V1) hD1 (hx (i + 1))
  rw [pB_self (fun _ _ => rfl)] at hk
  refine x_callV (As := [_]) (mc := 0) (ms := 0) (z := mX12_secret) (ci := 12) dL_law_471 lL_49 oX12_secret (by decide) hT12 rfl rfl (Nat.le_of_ble_eq_true rfl) (Nat.le_of_ble_eq_true rfl) rfl (hk) (fun v M1 hq => ?_)
  obtain ⟨rfl, V2, rfl, hJ2⟩ := LJ_d hI1 hB1 (id) (by first | exact hJ.2.2.1 | exact yTr_r | exact pyTr_r | exact rTr_r | exact sTr_r | decide | (repeat' split) <;> decide) hq
  refine (show X _ _ 474 _ [.int _, .int _] _ _ _ _ from ?_)
  refine x_icmp_eq 1710 dL_law_474 (by decide) (fun _ => ?_) (fun q => absurd (rfl) q)
  exact hnx _ (LN_of hJ2)
theorem l_age (hJ : LJ T R V z b o r ou N xs fw fr σ f t tp h A B a m H K wr pl tr) (hx : ∀ j, R32 (xs j)) (hi : i + 6 ≤ N) (hN : N ≤ 3072) (hnx : ∀ M, LN b o r ou N xs M → X g mL_law 1710 [.ref b, .ref o, .ref r, .ref ou, .int (iI (i : Int)), jk, jk] [] M k n Q) : X g mL_law 579 [.ref b, .ref o, .ref r, .ref ou, .int (iI (i : Int)), jk, jk] [] (T, iV V, R, J, z) k n Q := by
  have hT10 := hJ.1.1.1.1
  obtain ⟨Ni, Wi, hNi, hAn⟩ := LJ_an hJ
  obtain ⟨hA, hB, hR0⟩ := LJ_ok hJ
  refine x_aload_n dL_law_579 rfl ?_
  refine y_arg 1 dL_law_580 dL_law_581 dL_law_583 dL_law_584 dL_law_585 rfl rfl hJ.2.2.2.2.2.1 rfl (by omega) (by omega) ?_
  rw [hJ.2.2.2.2.2.2.1]
  refine y_arg 2 dL_law_586 dL_law_587 dL_law_589 dL_law_590 dL_law_591 rfl rfl hJ.2.2.2.2.2.1 rfl (by omega) (by omega) ?_
  rw [hJ.2.2.2.2.2.2.1]
  refine x_callV (As := [_, _]) (mc := 0) (ms := 0) (z := mX10_age) (ci := 10) dL_law_592 lL_66 oX10_age (by decide) hT10 rfl rfl (Nat.le_of_ble_eq_true rfl) (Nat.le_of_ble_eq_true rfl) rfl (f_age (g := g) (J := J) (z := z) (k := 0) (n := 0) hJ.1 (hx (i + 1)) (hx (i + 2))) (fun v M1 hq => ?_)
  obtain ⟨rfl, V1, R1, fw1, fr1, σ1, rfl, hI1, hD1, hB1⟩ := LJ_c hJ hq
  refine (show X _ _ 595 _ [.int _] _ _ _ _ from ?_)
  have hT12 := hD1.1.1
  refine x_aload_n dL_law_595 rfl ?_
  refine y_arg 1 dL_law_596 dL_law_597 dL_law_599 dL_law_600 dL_law_601 rfl rfl hB1.2.2.1 rfl (by omega) (by omega) ?_
  rw [hB1.2.2.2.1]
  refine y_arg 2 dL_law_602 dL_law_603 dL_law_605 dL_law_606 dL_law_607 rfl rfl hB1.2.2.1 rfl (by omega) (by omega) ?_
  rw [hB1.2.2.2.1]
  have hk := k_age (g := g) (J := J) (z := z) (k := 0) (n := 0) (V := V1) hD1 (hx (i + 1)) (hx (i + 2)) hNi
  rw [pB_self (fun _ _ => rfl)] at hk
  refine x_callV (As := [_, _]) (mc := 0) (ms := 0) (z := mX12_age) (ci := 12) dL_law_608 lL_69 oX12_age (by decide) hT12 rfl rfl (Nat.le_of_ble_eq_true rfl) (Nat.le_of_ble_eq_true rfl) rfl (hk) (fun v M1 hq => ?_)
  obtain ⟨rfl, V2, rfl, hJ2⟩ := LJ_d hI1 hB1 (id) (by first | exact hJ.2.2.1 | exact yTr_r | exact pyTr_r | exact rTr_r | exact sTr_r | decide | (repeat' split) <;> decide) hq
  refine (show X _ _ 611 _ [.int _, .int _] _ _ _ _ from ?_)
  refine x_icmp_eq 1710 dL_law_611 (by decide) (fun _ => ?_) (fun q => absurd (rfl) q)
  exact hnx _ (LN_of hJ2)
theorem l_size (hJ : LJ T R V z b o r ou N xs fw fr σ f t tp h A B a m H K wr pl tr) (hx : ∀ j, R32 (xs j)) (hi : i + 6 ≤ N) (hN : N ≤ 3072) (hnx : ∀ M, LN b o r ou N xs M → X g mL_law 1710 [.ref b, .ref o, .ref r, .ref ou, .int (iI (i : Int)), jk, jk] [] M k n Q) : X g mL_law 1672 [.ref b, .ref o, .ref r, .ref ou, .int (iI (i : Int)), jk, jk] [] (T, iV V, R, J, z) k n Q := by
  have hT10 := hJ.1.1.1.1
  have hz0 : h = false → (∀ c, c < 9 → A 0 c = 0) ∧ ∀ c, c < 3 → B 0 c = 0 := fun q => ⟨(hJ.1.2.2.2.2.2.2.2.2.2 q).1, (hJ.1.2.2.2.2.2.2.2.2.2 q).2.1⟩
  refine x_aload_n dL_law_1672 rfl ?_
  refine y_arg 1 dL_law_1673 dL_law_1674 dL_law_1676 dL_law_1677 dL_law_1678 rfl rfl hJ.2.2.2.2.2.1 rfl (by omega) (by omega) ?_
  rw [hJ.2.2.2.2.2.2.1]
  refine x_callV (As := [_]) (mc := 0) (ms := 0) (z := mX10_size) (ci := 10) dL_law_1679 lL_225 oX10_size (by decide) hT10 rfl rfl (Nat.le_of_ble_eq_true rfl) (Nat.le_of_ble_eq_true rfl) rfl (f_size (g := g) (J := J) (z := z) (k := 0) (n := 0) hJ.1 (hx (i + 1))) (fun v M1 hq => ?_)
  obtain ⟨rfl, V1, R1, fw1, fr1, σ1, rfl, hI1, hD1, hB1⟩ := LJ_c hJ hq
  refine (show X _ _ 1682 _ [.int _] _ _ _ _ from ?_)
  have hT12 := hD1.1.1
  refine x_aload_n dL_law_1682 rfl ?_
  refine y_arg 1 dL_law_1683 dL_law_1684 dL_law_1686 dL_law_1687 dL_law_1688 rfl rfl hB1.2.2.1 rfl (by omega) (by omega) ?_
  rw [hB1.2.2.2.1]
  have hk := k_size (g := g) (J := J) (z := z) (k := 0) (n := 0) (V := V1) hD1 hz0 (hx (i + 1))
  rw [pB_self (fun _ _ => rfl)] at hk
  refine x_callV (As := [_]) (mc := 0) (ms := 0) (z := mX12_size) (ci := 12) dL_law_1689 lL_228 oX12_size (by decide) hT12 rfl rfl (Nat.le_of_ble_eq_true rfl) (Nat.le_of_ble_eq_true rfl) rfl (hk) (fun v M1 hq => ?_)
  obtain ⟨rfl, V2, rfl, hJ2⟩ := LJ_d hI1 hB1 (id) (by first | exact hJ.2.2.1 | exact yTr_r | exact pyTr_r | exact rTr_r | exact sTr_r | decide | (repeat' split) <;> decide) hq
  refine (show X _ _ 1692 _ [.int _, .int _] _ _ _ _ from ?_)
  refine x_icmp_eq 1710 dL_law_1692 (by decide) (fun _ => ?_) (fun q => absurd (rfl) q)
  exact hnx _ (LN_of hJ2)
theorem l_trouble (hJ : LJ T R V z b o r ou N xs fw fr σ f t tp h A B a m H K wr pl tr) (hx : ∀ j, R32 (xs j)) (hi : i + 6 ≤ N) (hN : N ≤ 3072) (hnx : ∀ M, LN b o r ou N xs M → X g mL_law 1710 [.ref b, .ref o, .ref r, .ref ou, .int (iI (i : Int)), jk, jk] [] M k n Q) : X g mL_law 1697 [.ref b, .ref o, .ref r, .ref ou, .int (iI (i : Int)), jk, jk] [] (T, iV V, R, J, z) k n Q := by
  have hT10 := hJ.1.1.1.1
  refine x_aload_n dL_law_1697 rfl ?_
  refine x_callV (As := []) (mc := 0) (ms := 0) (z := mX10_trouble) (ci := 10) dL_law_1698 lL_229 oX10_trouble (by decide) hT10 rfl rfl (Nat.le_of_ble_eq_true rfl) (Nat.le_of_ble_eq_true rfl) rfl (f_trouble (g := g) (J := J) (z := z) (k := 0) (n := 0) hJ.1) (fun v M1 hq => ?_)
  obtain ⟨rfl, V1, R1, fw1, fr1, σ1, rfl, hI1, hD1, hB1⟩ := LJ_c hJ hq
  refine (show X _ _ 1701 _ [.int _] _ _ _ _ from ?_)
  have hT12 := hD1.1.1
  refine x_aload_n dL_law_1701 rfl ?_
  have hk := k_trouble (g := g) (J := J) (z := z) (k := 0) (n := 0) (V := V1) hD1
  rw [pB_self (fun _ _ => rfl)] at hk
  refine x_callV (As := []) (mc := 0) (ms := 0) (z := mX12_trouble) (ci := 12) dL_law_1702 lL_232 oX12_trouble (by decide) hT12 rfl rfl (Nat.le_of_ble_eq_true rfl) (Nat.le_of_ble_eq_true rfl) rfl (hk) (fun v M1 hq => ?_)
  obtain ⟨rfl, V2, rfl, hJ2⟩ := LJ_d hI1 hB1 (id) (by first | exact hJ.2.2.1 | exact yTr_r | exact pyTr_r | exact rTr_r | exact sTr_r | decide | (repeat' split) <;> decide) hq
  refine (show X _ _ 1705 _ [.int _, .int _] _ _ _ _ from ?_)
  refine x_icmp_eq 1710 dL_law_1705 (by decide) (fun _ => ?_) (fun q => absurd (rfl) q)
  exact hnx _ (LN_of hJ2)
end LWaf
