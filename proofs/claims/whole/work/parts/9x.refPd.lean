/-! ===== the reference's reader: a line ===== -/
theorem ln_body {t : Nat → Int} {e i : Nat} {A : Nat → Nat → Int} {l x y : Int} (hl : lnOf t e i = l) (h0 : 1 ≤ l) (hfl : flB A l = true ↔ x = y) (hA : 0 ≤ A 0 0) (hz : A 0 0 = 0 → x ≠ y) : pLine t e A i = pbS (sBg t e A x y i) (fun i => pBody t e A i l) := by
  unfold pLine sBg
  rw [hl, if_neg (by omega), if_neg (by omega)]
  by_cases h : A 0 0 = 0
  · rw [if_pos ⟨by omega, by omega⟩, if_neg (hz h), if_pos h]; rfl
  · rw [if_neg (by omega)]
    by_cases h2 : x = y
    · rw [if_pos (hfl.mpr h2), if_pos h2]; rfl
    · rw [if_neg (fun c => h2 (hfl.mp c)), if_neg h2, if_neg h]; rfl
section C9x
variable {g : GG} {T : Nat → Nat × Nat} {V A : Nat → Nat → Int} {R : Nat → Nat → Option Nat} {J : Nat → Nat → Int64} {z k n : Nat} {r f e i : Nat} {t : Nat → Int}
theorem z_readLine (hX : MX T R r f t e) (hV : VP A) (hZ : MZ t V J A r f e (.inr i)) : X g mX12_readLine 0 [.ref r] [] (T, iV V, R, J, z) k n (LQ T R J z t V A r f e (pLine t e A i)) := by
  obtain ⟨hM, hG, hrf, hap, hb, he⟩ := id hX
  obtain ⟨⟨y1, y2⟩, -, -, ⟨a31, a32⟩, ⟨a41, a42⟩, ⟨a51, a52⟩, ⟨a61, a62⟩, ⟨a71, a72⟩, ⟨a81, a82⟩, -⟩ := id hV.1
  have hz0 := hV.2.2.2.2
  obtain ⟨m0, -, -⟩ := id hM
  refine x_aload_n dX12_readLine_0 rfl ?_
  refine x_ldcs dX12_readLine_1 sX12_181 ?_
  refine (show X _ _ 3 _ _ _ _ _ _ from ?_)
  refine x_callV (As := [_]) (mc := 0) (ms := 0) (z := mX12_isWord) (ci := 12) dX12_readLine_3 lX12_152 oX12_isWord (by decide) (by first | assumption) rfl rfl (Nat.le_of_ble_eq_true rfl) (Nat.le_of_ble_eq_true rfl) rfl (z_isWord hX hZ (by decide)) (k_I ?_)
  refine (show X _ _ 6 _ _ _ _ _ _ from ?_)
  refine y_ifb_eq 16 dX12_readLine_6 (by decide) (fun c0 => ?_) (fun c0 => ?_)
  rotate_left
  · replace c0 : sw t e i 8 = true := c0
    have hl : lnOf t e i = 0 := by unfold lnOf; rw [c0]; rfl
    have hk : tkK t e i = 1 := sw_k4 c0
    have ep : pLine t e A i = pbS (if 0 < A 0 0 then .inl (3, tkS t e i) else .inr (tkN t e i)) (fun i => pFam t e A i) := by
      unfold pLine
      rw [hl, if_neg (by decide)]
      by_cases h : 0 < A 0 0
      · rw [if_pos ⟨rfl, h⟩, if_pos h]; rfl
      · rw [if_neg (fun c => h c.2), if_neg (fun c => c.1 rfl), if_neg h, if_neg (by unfold flB; rw [decide_eq_false (by omega)]; decide)]; rfl
    rw [ep]
    refine x_aload_n dX12_readLine_9 rfl ?_
    refine (show X _ _ 10 _ _ _ _ _ _ from ?_)
    refine x_callV (As := []) (mc := 0) (ms := 0) (z := mX12_readFamily) (ci := 12) dX12_readLine_10 lX12_233 oX12_readFamily (by decide) (by first | assumption) rfl rfl (Nat.le_of_ble_eq_true rfl) (Nat.le_of_ble_eq_true rfl) rfl (z_readFamily hX hV hZ hk) (fun v M1 hq => ?_)
    obtain ⟨rfl, V1, J1, rfl, hK1, hZ1⟩ := hq
    refine (show X _ _ 13 _ _ _ _ _ _ from ?_)
    refine x_goto 151 dX12_readLine_13 (by decide) ?_
    refine (show X _ _ 151 _ _ _ _ _ _ from ?_)
    exact x_return dX12_readLine_151 rfl ⟨rfl, V1, J1, rfl, hK1, hZ1⟩
  replace c0 : sw t e i 8 = false := c0
  refine x_aload_n dX12_readLine_16 rfl ?_
  refine x_ldcs dX12_readLine_17 sX12_183 ?_
  refine (show X _ _ 19 _ _ _ _ _ _ from ?_)
  refine x_callV (As := [_]) (mc := 0) (ms := 0) (z := mX12_isWord) (ci := 12) dX12_readLine_19 lX12_152 oX12_isWord (by decide) (by first | assumption) rfl rfl (Nat.le_of_ble_eq_true rfl) (Nat.le_of_ble_eq_true rfl) rfl (z_isWord hX hZ (by decide)) (k_I ?_)
  refine (show X _ _ 22 _ _ _ _ _ _ from ?_)
  refine y_ifb_eq 32 dX12_readLine_22 (by decide) (fun c1 => ?_) (fun c1 => ?_)
  rotate_left
  · replace c1 : sw t e i 18 = true := c1
    have hl : lnOf t e i = 1 := by unfold lnOf; rw [c0, c1]; rfl
    have hk : tkK t e i = 1 := sw_k4 c1
    have ep := ln_body (t := t) (e := e) (i := i) (A := A) (x := A 0 3) (y := 10) hl (by decide) (by unfold flB; rw [decide_eq_true_eq]; omega) y1 (fun h => by have := hz0 h; omega)
    rw [ep]
    refine x_aload_n dX12_readLine_25 rfl ?_
    refine (show X _ _ 26 _ _ _ _ _ _ from ?_)
    refine x_callV (As := []) (mc := 0) (ms := 0) (z := mX12_readPersonLine) (ci := 12) dX12_readLine_26 lX12_236 oX12_readPersonLine (by decide) (by first | assumption) rfl rfl (Nat.le_of_ble_eq_true rfl) (Nat.le_of_ble_eq_true rfl) rfl (z_readPers hX hV hZ hk) (fun v M1 hq => ?_)
    obtain ⟨rfl, V1, J1, rfl, hK1, hZ1⟩ := hq
    refine (show X _ _ 29 _ _ _ _ _ _ from ?_)
    refine x_goto 151 dX12_readLine_29 (by decide) ?_
    refine (show X _ _ 151 _ _ _ _ _ _ from ?_)
    exact x_return dX12_readLine_151 rfl ⟨rfl, V1, J1, rfl, hK1, hZ1⟩
  replace c1 : sw t e i 18 = false := c1
  refine x_aload_n dX12_readLine_32 rfl ?_
  refine x_ldcs dX12_readLine_33 sX12_185 ?_
  refine (show X _ _ 35 _ _ _ _ _ _ from ?_)
  refine x_callV (As := [_]) (mc := 0) (ms := 0) (z := mX12_isWord) (ci := 12) dX12_readLine_35 lX12_152 oX12_isWord (by decide) (by first | assumption) rfl rfl (Nat.le_of_ble_eq_true rfl) (Nat.le_of_ble_eq_true rfl) rfl (z_isWord hX hZ (by decide)) (k_I ?_)
  refine (show X _ _ 38 _ _ _ _ _ _ from ?_)
  refine y_ifb_eq 48 dX12_readLine_38 (by decide) (fun c2 => ?_) (fun c2 => ?_)
  rotate_left
  · replace c2 : sw t e i 20 = true := c2
    have hl : lnOf t e i = 2 := by unfold lnOf; rw [c0, c1, c2]; rfl
    have hk : tkK t e i = 1 := sw_k4 c2
    have ep := ln_body (t := t) (e := e) (i := i) (A := A) (x := A 0 4) (y := 12) hl (by decide) (by unfold flB; rw [decide_eq_true_eq]; omega) y1 (fun h => by have := hz0 h; omega)
    rw [ep]
    refine x_aload_n dX12_readLine_41 rfl ?_
    refine (show X _ _ 42 _ _ _ _ _ _ from ?_)
    refine x_callV (As := []) (mc := 0) (ms := 0) (z := mX12_readPlan) (ci := 12) dX12_readLine_42 lX12_239 oX12_readPlan (by decide) (by first | assumption) rfl rfl (Nat.le_of_ble_eq_true rfl) (Nat.le_of_ble_eq_true rfl) rfl (z_readPlan hX hV hZ hk) (fun v M1 hq => ?_)
    obtain ⟨rfl, V1, J1, rfl, hK1, hZ1⟩ := hq
    refine (show X _ _ 45 _ _ _ _ _ _ from ?_)
    refine x_goto 151 dX12_readLine_45 (by decide) ?_
    refine (show X _ _ 151 _ _ _ _ _ _ from ?_)
    exact x_return dX12_readLine_151 rfl ⟨rfl, V1, J1, rfl, hK1, hZ1⟩
  replace c2 : sw t e i 20 = false := c2
  refine x_aload_n dX12_readLine_48 rfl ?_
  refine x_ldcs dX12_readLine_49 sX12_187 ?_
  refine (show X _ _ 51 _ _ _ _ _ _ from ?_)
  refine x_callV (As := [_]) (mc := 0) (ms := 0) (z := mX12_isWord) (ci := 12) dX12_readLine_51 lX12_152 oX12_isWord (by decide) (by first | assumption) rfl rfl (Nat.le_of_ble_eq_true rfl) (Nat.le_of_ble_eq_true rfl) rfl (z_isWord hX hZ (by decide)) (k_I ?_)
  refine (show X _ _ 54 _ _ _ _ _ _ from ?_)
  refine y_ifb_eq 64 dX12_readLine_54 (by decide) (fun c3 => ?_) (fun c3 => ?_)
  rotate_left
  · replace c3 : sw t e i 6 = true := c3
    have hl : lnOf t e i = 3 := by unfold lnOf; rw [c0, c1, c2, c3]; rfl
    have hk : tkK t e i = 1 := sw_k4 c3
    have ep := ln_body (t := t) (e := e) (i := i) (A := A) (x := 0) (y := 1) hl (by decide) (by unfold flB; rw [decide_eq_true_eq]; omega) y1 (fun h => by have := hz0 h; omega)
    rw [ep]
    refine x_aload_n dX12_readLine_57 rfl ?_
    refine (show X _ _ 58 _ _ _ _ _ _ from ?_)
    refine x_callV (As := []) (mc := 0) (ms := 0) (z := mX12_readDies) (ci := 12) dX12_readLine_58 lX12_242 oX12_readDies (by decide) (by first | assumption) rfl rfl (Nat.le_of_ble_eq_true rfl) (Nat.le_of_ble_eq_true rfl) rfl (z_readDies hX hV hZ hk) (fun v M1 hq => ?_)
    obtain ⟨rfl, V1, J1, rfl, hK1, hZ1⟩ := hq
    refine (show X _ _ 61 _ _ _ _ _ _ from ?_)
    refine x_goto 151 dX12_readLine_61 (by decide) ?_
    refine (show X _ _ 151 _ _ _ _ _ _ from ?_)
    exact x_return dX12_readLine_151 rfl ⟨rfl, V1, J1, rfl, hK1, hZ1⟩
  replace c3 : sw t e i 6 = false := c3
  refine x_aload_n dX12_readLine_64 rfl ?_
  refine x_ldcs dX12_readLine_65 sX12_189 ?_
  refine (show X _ _ 67 _ _ _ _ _ _ from ?_)
  refine x_callV (As := [_]) (mc := 0) (ms := 0) (z := mX12_isWord) (ci := 12) dX12_readLine_67 lX12_152 oX12_isWord (by decide) (by first | assumption) rfl rfl (Nat.le_of_ble_eq_true rfl) (Nat.le_of_ble_eq_true rfl) rfl (z_isWord hX hZ (by decide)) (k_I ?_)
  refine (show X _ _ 70 _ _ _ _ _ _ from ?_)
  refine y_ifb_eq 80 dX12_readLine_70 (by decide) (fun c4 => ?_) (fun c4 => ?_)
  rotate_left
  · replace c4 : sw t e i 3 = true := c4
    have hl : lnOf t e i = 4 := by unfold lnOf; rw [c0, c1, c2, c3, c4]; rfl
    have hk : tkK t e i = 1 := sw_k4 c4
    have ep := ln_body (t := t) (e := e) (i := i) (A := A) (x := A 0 5) (y := 8) hl (by decide) (by unfold flB; rw [decide_eq_true_eq]; omega) y1 (fun h => by have := hz0 h; omega)
    rw [ep]
    refine x_aload_n dX12_readLine_73 rfl ?_
    refine (show X _ _ 74 _ _ _ _ _ _ from ?_)
    refine x_callV (As := []) (mc := 0) (ms := 0) (z := mX12_readBuys) (ci := 12) dX12_readLine_74 lX12_245 oX12_readBuys (by decide) (by first | assumption) rfl rfl (Nat.le_of_ble_eq_true rfl) (Nat.le_of_ble_eq_true rfl) rfl (z_readBuys hX hV hZ hk) (fun v M1 hq => ?_)
    obtain ⟨rfl, V1, J1, rfl, hK1, hZ1⟩ := hq
    refine (show X _ _ 77 _ _ _ _ _ _ from ?_)
    refine x_goto 151 dX12_readLine_77 (by decide) ?_
    refine (show X _ _ 151 _ _ _ _ _ _ from ?_)
    exact x_return dX12_readLine_151 rfl ⟨rfl, V1, J1, rfl, hK1, hZ1⟩
  replace c4 : sw t e i 3 = false := c4
  refine x_aload_n dX12_readLine_80 rfl ?_
  refine x_ldcs dX12_readLine_81 sX12_191 ?_
  refine (show X _ _ 83 _ _ _ _ _ _ from ?_)
  refine x_callV (As := [_]) (mc := 0) (ms := 0) (z := mX12_isWord) (ci := 12) dX12_readLine_83 lX12_152 oX12_isWord (by decide) (by first | assumption) rfl rfl (Nat.le_of_ble_eq_true rfl) (Nat.le_of_ble_eq_true rfl) rfl (z_isWord hX hZ (by decide)) (k_I ?_)
  refine (show X _ _ 86 _ _ _ _ _ _ from ?_)
  refine y_ifb_eq 96 dX12_readLine_86 (by decide) (fun c5 => ?_) (fun c5 => ?_)
  rotate_left
  · replace c5 : sw t e i 24 = true := c5
    have hl : lnOf t e i = 5 := by unfold lnOf; rw [c0, c1, c2, c3, c4, c5]; rfl
    have hk : tkK t e i = 1 := sw_k4 c5
    have ep := ln_body (t := t) (e := e) (i := i) (A := A) (x := A 0 6) (y := 8) hl (by decide) (by unfold flB; rw [decide_eq_true_eq]; omega) y1 (fun h => by have := hz0 h; omega)
    rw [ep]
    refine x_aload_n dX12_readLine_89 rfl ?_
    refine (show X _ _ 90 _ _ _ _ _ _ from ?_)
    refine x_callV (As := []) (mc := 0) (ms := 0) (z := mX12_readSecret) (ci := 12) dX12_readLine_90 lX12_248 oX12_readSecret (by decide) (by first | assumption) rfl rfl (Nat.le_of_ble_eq_true rfl) (Nat.le_of_ble_eq_true rfl) rfl (z_readSecret hX hV hZ hk) (fun v M1 hq => ?_)
    obtain ⟨rfl, V1, J1, rfl, hK1, hZ1⟩ := hq
    refine (show X _ _ 93 _ _ _ _ _ _ from ?_)
    refine x_goto 151 dX12_readLine_93 (by decide) ?_
    refine (show X _ _ 151 _ _ _ _ _ _ from ?_)
    exact x_return dX12_readLine_151 rfl ⟨rfl, V1, J1, rfl, hK1, hZ1⟩
  replace c5 : sw t e i 24 = false := c5
  refine x_aload_n dX12_readLine_96 rfl ?_
  refine x_ldcs dX12_readLine_97 sX12_193 ?_
  refine (show X _ _ 99 _ _ _ _ _ _ from ?_)
  refine x_callV (As := [_]) (mc := 0) (ms := 0) (z := mX12_isWord) (ci := 12) dX12_readLine_99 lX12_152 oX12_isWord (by decide) (by first | assumption) rfl rfl (Nat.le_of_ble_eq_true rfl) (Nat.le_of_ble_eq_true rfl) rfl (z_isWord hX hZ (by decide)) (k_I ?_)
  refine (show X _ _ 102 _ _ _ _ _ _ from ?_)
  refine y_ifb_eq 112 dX12_readLine_102 (by decide) (fun c6 => ?_) (fun c6 => ?_)
  rotate_left
  · replace c6 : sw t e i 12 = true := c6
    have hl : lnOf t e i = 6 := by unfold lnOf; rw [c0, c1, c2, c3, c4, c5, c6]; rfl
    have hk : tkK t e i = 1 := sw_k4 c6
    have ep := ln_body (t := t) (e := e) (i := i) (A := A) (x := A 0 7) (y := 8) hl (by decide) (by unfold flB; rw [decide_eq_true_eq]; omega) y1 (fun h => by have := hz0 h; omega)
    rw [ep]
    refine x_aload_n dX12_readLine_105 rfl ?_
    refine (show X _ _ 106 _ _ _ _ _ _ from ?_)
    refine x_callV (As := []) (mc := 0) (ms := 0) (z := mX12_readHides) (ci := 12) dX12_readLine_106 lX12_251 oX12_readHides (by decide) (by first | assumption) rfl rfl (Nat.le_of_ble_eq_true rfl) (Nat.le_of_ble_eq_true rfl) rfl (z_readHides hX hV hZ hk) (fun v M1 hq => ?_)
    obtain ⟨rfl, V1, J1, rfl, hK1, hZ1⟩ := hq
    refine (show X _ _ 109 _ _ _ _ _ _ from ?_)
    refine x_goto 151 dX12_readLine_109 (by decide) ?_
    refine (show X _ _ 151 _ _ _ _ _ _ from ?_)
    exact x_return dX12_readLine_151 rfl ⟨rfl, V1, J1, rfl, hK1, hZ1⟩
  replace c6 : sw t e i 12 = false := c6
  refine x_aload_n dX12_readLine_112 rfl ?_
  refine x_ldcs dX12_readLine_113 sX12_195 ?_
  refine (show X _ _ 115 _ _ _ _ _ _ from ?_)
  refine x_callV (As := [_]) (mc := 0) (ms := 0) (z := mX12_isWord) (ci := 12) dX12_readLine_115 lX12_152 oX12_isWord (by decide) (by first | assumption) rfl rfl (Nat.le_of_ble_eq_true rfl) (Nat.le_of_ble_eq_true rfl) rfl (z_isWord hX hZ (by decide)) (k_I ?_)
  refine (show X _ _ 118 _ _ _ _ _ _ from ?_)
  refine y_ifb_eq 129 dX12_readLine_118 (by decide) (fun c7 => ?_) (fun c7 => ?_)
  rotate_left
  · replace c7 : sw t e i 5 = true := c7
    have hl : lnOf t e i = 7 := by unfold lnOf; rw [c0, c1, c2, c3, c4, c5, c6, c7]; rfl
    have hk : tkK t e i = 1 := sw_k4 c7
    have ep := ln_body (t := t) (e := e) (i := i) (A := A) (x := A 0 8) (y := 8) hl (by decide) (by unfold flB; rw [decide_eq_true_eq]; omega) y1 (fun h => by have := hz0 h; omega)
    rw [ep]
    refine x_aload_n dX12_readLine_121 rfl ?_
    refine y_iconst dX12_readLine_122 ?_
    refine (show X _ _ 123 _ _ _ _ _ _ from ?_)
    refine x_callV (As := [_]) (mc := 0) (ms := 0) (z := mX12_readDiary) (ci := 12) dX12_readLine_123 lX12_254 oX12_readDiary (by decide) (by first | assumption) rfl rfl (Nat.le_of_ble_eq_true rfl) (Nat.le_of_ble_eq_true rfl) rfl (z_readDiary (s := true) hX hV hZ hk) (fun v M1 hq => ?_)
    obtain ⟨rfl, V1, J1, rfl, hK1, hZ1⟩ := hq
    refine (show X _ _ 126 _ _ _ _ _ _ from ?_)
    refine x_goto 151 dX12_readLine_126 (by decide) ?_
    refine (show X _ _ 151 _ _ _ _ _ _ from ?_)
    exact x_return dX12_readLine_151 rfl ⟨rfl, V1, J1, rfl, hK1, hZ1⟩
  replace c7 : sw t e i 5 = false := c7
  refine x_aload_n dX12_readLine_129 rfl ?_
  refine x_ldcs dX12_readLine_130 sX12_197 ?_
  refine (show X _ _ 132 _ _ _ _ _ _ from ?_)
  refine x_callV (As := [_]) (mc := 0) (ms := 0) (z := mX12_isWord) (ci := 12) dX12_readLine_132 lX12_152 oX12_isWord (by decide) (by first | assumption) rfl rfl (Nat.le_of_ble_eq_true rfl) (Nat.le_of_ble_eq_true rfl) rfl (z_isWord hX hZ (by decide)) (k_I ?_)
  refine (show X _ _ 135 _ _ _ _ _ _ from ?_)
  refine y_ifb_eq 146 dX12_readLine_135 (by decide) (fun c8 => ?_) (fun c8 => ?_)
  rotate_left
  · replace c8 : sw t e i 17 = true := c8
    have hl : lnOf t e i = 8 := by unfold lnOf; rw [c0, c1, c2, c3, c4, c5, c6, c7, c8]; rfl
    have hk : tkK t e i = 1 := sw_k4 c8
    have ep := ln_body (t := t) (e := e) (i := i) (A := A) (x := A 0 8) (y := 8) hl (by decide) (by unfold flB; rw [decide_eq_true_eq]; omega) y1 (fun h => by have := hz0 h; omega)
    rw [ep]
    refine x_aload_n dX12_readLine_138 rfl ?_
    refine y_iconst dX12_readLine_139 ?_
    refine (show X _ _ 140 _ _ _ _ _ _ from ?_)
    refine x_callV (As := [_]) (mc := 0) (ms := 0) (z := mX12_readDiary) (ci := 12) dX12_readLine_140 lX12_254 oX12_readDiary (by decide) (by first | assumption) rfl rfl (Nat.le_of_ble_eq_true rfl) (Nat.le_of_ble_eq_true rfl) rfl (z_readDiary (s := false) hX hV hZ hk) (fun v M1 hq => ?_)
    obtain ⟨rfl, V1, J1, rfl, hK1, hZ1⟩ := hq
    refine (show X _ _ 143 _ _ _ _ _ _ from ?_)
    refine x_goto 151 dX12_readLine_143 (by decide) ?_
    refine (show X _ _ 151 _ _ _ _ _ _ from ?_)
    exact x_return dX12_readLine_151 rfl ⟨rfl, V1, J1, rfl, hK1, hZ1⟩
  replace c8 : sw t e i 17 = false := c8
  have hl : lnOf t e i < 0 := ln_neg.mpr ⟨c0, c1, c2, c3, c4, c5, c6, c7, c8⟩
  have ep : pLine t e A i = .inl (1, tkS t e i) := if_pos hl
  rw [ep]
  refine x_aload_n dX12_readLine_146 rfl ?_
  refine y_iconst dX12_readLine_147 ?_
  refine (show X _ _ 148 _ _ _ _ _ _ from ?_)
  refine x_callV (As := [_]) (mc := 0) (ms := 0) (z := mX12_flaw) (ci := 12) dX12_readLine_148 lX12_156 oX12_flaw (by decide) (by first | assumption) rfl rfl (Nat.le_of_ble_eq_true rfl) (Nat.le_of_ble_eq_true rfl) rfl (z_flaw hX hZ) (fun v M1 hq => ?_)
  obtain ⟨rfl, V1, J1, rfl, hK1, hZ1⟩ := hq
  exact x_return dX12_readLine_151 rfl ⟨rfl, V1, J1, rfl, KL_S hK1, hZ1⟩
end C9x
