/-! ===== the reference's reader: a person's line, whole ===== -/
section C9w
variable {g : GG} {T : Nat → Nat × Nat} {V A : Nat → Nat → Int} {R : Nat → Nat → Option Nat} {J : Nat → Nat → Int64} {z k n : Nat} {r f e i : Nat} {t : Nat → Int}
/-- all of a person's line from the years on -/
def pqR (t : Nat → Int) (e : Nat) (A : Nat → Nat → Int) (xw kd sd ag : Int) (σ : SG) : PR := pbS (sN t e 0 100 (sNd t e 10 (sN t e 0 9 (sNd t e 30 (sN t e 1 9 (sNd t e 26 (sN t e ag (if ag = 0 then 90 else A 0 0 - 1) σ))))))) (fun i => .inr (aPers (adN A xw 0 (A 0 3)) kd sd (if ag = 0 then -(vN t e ag (if ag = 0 then 90 else A 0 0 - 1) σ) else vN t e ag (if ag = 0 then 90 else A 0 0 - 1) σ) (vN t e 1 9 (sNd t e 26 (sN t e ag (if ag = 0 then 90 else A 0 0 - 1) σ))) (vN t e 0 9 (sNd t e 30 (sN t e 1 9 (sNd t e 26 (sN t e ag (if ag = 0 then 90 else A 0 0 - 1) σ))))) (vN t e 0 100 (sNd t e 10 (sN t e 0 9 (sNd t e 30 (sN t e 1 9 (sNd t e 26 (sN t e ag (if ag = 0 then 90 else A 0 0 - 1) σ))))))) (-2), i))
theorem pl1 {V0 : Nat → Nat → Int} {J0 : Nat → Nat → Int64} {σ : SG} {w : Int64} {xw kd sd ag : Int} {rb bb : Bool} (hX : MX T R r f t e) (hV : VP A) (hZ : MZ t V J A r f e σ) (hK0 : KS V0 V J0 J r) (hal : ∀ j, σ = .inr j → w = lI xw ∧ (0 ≤ xw ∧ xw < 1099511627776) ∧ A 0 3 < 10 ∧ ag = bI bb ∧ sd = bI rb) : X g mX12_readPersonLine 96 [.ref r, .long w, jk, .int (iI kd), .int (iI (bI rb)), .int (iI (bI bb)), jk, jk, jk, jk, jk] [] (T, iV V, R, J, z) k n (LQ T R J0 z t V0 A r f e (pqR t e A xw kd sd ag σ)) := by
  obtain ⟨hM, hG, hrf, hap, hb, he⟩ := id hX
  obtain ⟨⟨y1, y2⟩, -⟩ := id hV.1
  obtain ⟨m0, -, -⟩ := id hM
  unfold pqR
  refine x_iload dX12_readPersonLine_96 rfl ?_
  refine (show X _ _ 98 _ _ _ _ _ _ from ?_)
  refine y_ifb_eq 109 dX12_readPersonLine_98 (by decide) (fun h => ?_) (fun h => ?_)
  · have hS : sN t e ag (if ag = 0 then 90 else A 0 0 - 1) σ = sN t e 0 90 σ := by
      cases σ with
      | inl c => rfl
      | inr j => have := (hal j rfl).2.2.2.1; rw [h] at this; rw [this]; rfl
    rw [hS]
    refine x_aload_n dX12_readPersonLine_109 rfl ?_
    refine y_iconst dX12_readPersonLine_110 ?_
    refine y_bipush dX12_readPersonLine_111 rfl ?_
    refine (show X _ _ 113 _ _ _ _ _ _ from ?_)
    refine x_callV (As := [_, _]) (mc := 0) (ms := 0) (z := mX12_readWhole) (ci := 12) dX12_readPersonLine_113 lX12_168 oX12_readWhole (by decide) (by first | assumption) rfl rfl (Nat.le_of_ble_eq_true rfl) (Nat.le_of_ble_eq_true rfl) rfl (z_readWhole hX hZ ⟨by decide, by decide⟩ ⟨by decide, by decide⟩) (fun v M1 hq => ?_)
    obtain ⟨rfl, V1, J1, rfl, hK1, hZ1⟩ := hq
    refine (show X _ _ 116 _ _ _ _ _ _ from ?_)
    refine y_ineg dX12_readPersonLine_116 ?_
    refine (show X _ _ 117 _ _ _ _ _ _ from ?_)
    refine pl0 hX hV hZ1 (KS_t hK0 hK1) (fun j hj => ?_)
    obtain ⟨-, -, j', hj'⟩ := vN_v hj
    obtain ⟨a1, a2, a3, a4, a5⟩ := hal j' hj'
    rw [h] at a4
    rw [a4]
    exact ⟨a1, a2, a3, rfl, a5⟩
  · have hS : sN t e ag (if ag = 0 then 90 else A 0 0 - 1) σ = sN t e 1 (A 0 0 - 1) σ := by
      cases σ with
      | inl c => rfl
      | inr j => have := (hal j rfl).2.2.2.1; rw [h] at this; rw [this]; rfl
    rw [hS]
    refine x_aload_n dX12_readPersonLine_101 rfl ?_
    refine y_iconst dX12_readPersonLine_102 ?_
    refine (show X _ _ 103 _ _ _ _ _ _ from ?_)
    refine x_callV (As := [_]) (mc := 0) (ms := 0) (z := mX12_readYear) (ci := 12) dX12_readPersonLine_103 lX12_312 oX12_readYear (by decide) (by first | assumption) rfl rfl (Nat.le_of_ble_eq_true rfl) (Nat.le_of_ble_eq_true rfl) rfl (z_readYear hX hZ ⟨by decide, by decide⟩ ⟨by omega, by omega⟩) (fun v M1 hq => ?_)
    obtain ⟨rfl, V1, J1, rfl, hK1, hZ1⟩ := hq
    refine (show X _ _ 106 _ _ _ _ _ _ from ?_)
    refine x_goto 117 dX12_readPersonLine_106 (by decide) ?_
    refine (show X _ _ 117 _ _ _ _ _ _ from ?_)
    refine pl0 hX hV hZ1 (KS_t hK0 hK1) (fun j hj => ?_)
    obtain ⟨-, -, j', hj'⟩ := vN_v hj
    obtain ⟨a1, a2, a3, a4, a5⟩ := hal j' hj'
    rw [h] at a4
    rw [a4]
    exact ⟨a1, a2, a3, rfl, a5⟩
theorem sC_v {x : Int} {σ : SG} {j : Nat} (h : sC t e x σ = .inr j) : 0 ≤ x ∧ ∃ j', σ = .inr j' := by
  cases σ with
  | inl c => cases h
  | inr i =>
    by_cases hx : 0 ≤ x
    · exact ⟨hx, i, rfl⟩
    · rw [sC_n hx] at h; cases h
theorem vAg_v {σ : SG} (h : 0 ≤ vAg t e σ) : vAg t e σ = bI (sW t e 1 σ) := by
  unfold vAg at h ⊢
  cases h1 : sW t e 1 σ with
  | true =>
    rw [sW_ex ky_ex2 h1]
    rfl
  | false =>
    rw [h1] at h
    cases h0 : sW t e 0 σ with
    | true => rfl
    | false => rw [h0] at h; exact absurd h (by decide)
theorem vSd_v {σ : SG} (h : 0 ≤ vSd t e σ) : vSd t e σ = bI (sW t e 22 σ) := by
  unfold vSd at h ⊢
  cases h1 : sW t e 22 σ with
  | true =>
    rw [sW_ex ky_ex1 h1]
    rfl
  | false =>
    rw [h1] at h
    cases h0 : sW t e 15 σ with
    | true => rfl
    | false => rw [h0] at h; exact absurd h (by decide)
theorem pl2 {V0 : Nat → Nat → Int} {J0 : Nat → Nat → Int64} {σ : SG} {w : Int64} {xw kd sd : Int} {rb : Bool} (hX : MX T R r f t e) (hV : VP A) (hZ : MZ t V J A r f e σ) (hK0 : KS V0 V J0 J r) (hal : ∀ j, σ = .inr j → w = lI xw ∧ (0 ≤ xw ∧ xw < 1099511627776) ∧ A 0 3 < 10 ∧ sd = bI rb) : X g mX12_readPersonLine 63 [.ref r, .long w, jk, .int (iI kd), .int (iI (bI rb)), jk, jk, jk, jk, jk, jk] [] (T, iV V, R, J, z) k n (LQ T R J0 z t V0 A r f e (pqR t e A xw kd sd (vAg t e σ) (sC t e (vAg t e σ) σ))) := by
  obtain ⟨hM, hG, hrf, hap, hb, he⟩ := id hX
  obtain ⟨m0, -, -⟩ := id hM
  have tl : ∀ (σ' : SG) V1 J1, KS V0 V1 J0 J1 r → MZ t V1 J1 A r f e σ' → (∀ i, σ' = .inr i → tkK t e i ≠ 4) → sG t e σ' = sC t e (vAg t e σ) σ → X g mX12_readPersonLine 92 [.ref r, .long w, jk, .int (iI kd), .int (iI (bI rb)), .int (iI (bI (sW t e 1 σ))), jk, jk, jk, jk, jk] [] (T, iV V1, R, J1, z) k n (LQ T R J0 z t V0 A r f e (pqR t e A xw kd sd (vAg t e σ) (sC t e (vAg t e σ) σ))) := by
    intro σ' V1 J1 hK1 hZ1 hk1 hs
    refine x_aload_n dX12_readPersonLine_92 rfl ?_
    refine (show X _ _ 93 _ _ _ _ _ _ from ?_)
    refine x_callV (As := []) (mc := 0) (ms := 0) (z := mX12_goesOn) (ci := 12) dX12_readPersonLine_93 lX12_149 oX12_goesOn (by decide) (by first | assumption) rfl rfl (Nat.le_of_ble_eq_true rfl) (Nat.le_of_ble_eq_true rfl) rfl (z_goes hX hZ1 hk1) (fun v M1 hq => ?_)
    obtain ⟨rfl, V2, J2, rfl, hK2, hZ2⟩ := hq
    rw [hs] at hZ2
    refine pl1 hX hV hZ2 (KS_t hK1 hK2) (fun j hj => ?_)
    obtain ⟨hx, j', hj'⟩ := sC_v hj
    obtain ⟨a1, a2, a3, a4⟩ := hal j' hj'
    exact ⟨a1, a2, a3, vAg_v hx, a4⟩
  refine x_aload_n dX12_readPersonLine_63 rfl ?_
  refine x_ldcsw dX12_readPersonLine_64 sX12_308 ?_
  refine (show X _ _ 67 _ _ _ _ _ _ from ?_)
  refine x_callV (As := [_]) (mc := 0) (ms := 0) (z := mX12_isWord) (ci := 12) dX12_readPersonLine_67 lX12_152 oX12_isWord (by decide) (by first | assumption) rfl rfl (Nat.le_of_ble_eq_true rfl) (Nat.le_of_ble_eq_true rfl) rfl (z_isWord hX hZ (by decide)) (k_I ?_)
  refine (show X _ _ 70 _ _ _ _ _ _ from ?_)
  refine x_istore dX12_readPersonLine_70 (by decide) rfl rfl ?_
  refine x_iload dX12_readPersonLine_72 rfl ?_
  refine (show X _ _ 74 _ _ _ _ _ _ from ?_)
  refine y_ifb_ne 92 dX12_readPersonLine_74 (by decide) (fun h1 => ?_) (fun h1 => ?_)
  · have hv : vAg t e σ = 1 := by unfold vAg; rw [h1, sW_ex ky_ex2 h1]; rfl
    exact tl σ V J hK0 hZ (sW_k h1) (by rw [hv, sC_p (by decide)])
  refine x_aload_n dX12_readPersonLine_77 rfl ?_
  refine x_ldcsw dX12_readPersonLine_78 sX12_310 ?_
  refine (show X _ _ 81 _ _ _ _ _ _ from ?_)
  refine x_callV (As := [_]) (mc := 0) (ms := 0) (z := mX12_isWord) (ci := 12) dX12_readPersonLine_81 lX12_152 oX12_isWord (by decide) (by first | assumption) rfl rfl (Nat.le_of_ble_eq_true rfl) (Nat.le_of_ble_eq_true rfl) rfl (z_isWord hX hZ (by decide)) (k_I ?_)
  refine (show X _ _ 84 _ _ _ _ _ _ from ?_)
  refine y_ifb_ne 92 dX12_readPersonLine_84 (by decide) (fun h2 => ?_) (fun h2 => ?_)
  · have hv : vAg t e σ = 0 := by unfold vAg; rw [h2]; rfl
    exact tl σ V J hK0 hZ (sW_k h2) (by rw [hv, sC_p (by decide)])
  · have hv : vAg t e σ = -1 := by unfold vAg; rw [h1, h2]; rfl
    refine x_aload_n dX12_readPersonLine_87 rfl ?_
    refine y_iconst dX12_readPersonLine_88 ?_
    refine (show X _ _ 89 _ _ _ _ _ _ from ?_)
    refine x_callV (As := [_]) (mc := 0) (ms := 0) (z := mX12_flaw) (ci := 12) dX12_readPersonLine_89 lX12_156 oX12_flaw (by decide) (by first | assumption) rfl rfl (Nat.le_of_ble_eq_true rfl) (Nat.le_of_ble_eq_true rfl) rfl (z_flaw hX hZ) (fun v M1 hq => ?_)
    obtain ⟨rfl, V1, J1, rfl, hK1, hZ1⟩ := hq
    exact tl (sF t e 1 σ) V1 J1 (KS_t hK0 hK1) hZ1 sF_sG (by rw [hv, sC_n (by decide), sG_sF])
theorem pl3 {V0 : Nat → Nat → Int} {J0 : Nat → Nat → Int64} {σ : SG} {w : Int64} {xw kd : Int} (hX : MX T R r f t e) (hV : VP A) (hZ : MZ t V J A r f e σ) (hK0 : KS V0 V J0 J r) (hal : ∀ j, σ = .inr j → w = lI xw ∧ (0 ≤ xw ∧ xw < 1099511627776) ∧ A 0 3 < 10) : X g mX12_readPersonLine 30 [.ref r, .long w, jk, .int (iI kd), jk, jk, jk, jk, jk, jk, jk] [] (T, iV V, R, J, z) k n (LQ T R J0 z t V0 A r f e (pqR t e A xw kd (vSd t e σ) (vAg t e (sC t e (vSd t e σ) σ)) (sC t e (vAg t e (sC t e (vSd t e σ) σ)) (sC t e (vSd t e σ) σ)))) := by
  obtain ⟨hM, hG, hrf, hap, hb, he⟩ := id hX
  obtain ⟨m0, -, -⟩ := id hM
  have tl : ∀ (σ' : SG) V1 J1, KS V0 V1 J0 J1 r → MZ t V1 J1 A r f e σ' → (∀ i, σ' = .inr i → tkK t e i ≠ 4) → sG t e σ' = sC t e (vSd t e σ) σ → X g mX12_readPersonLine 59 [.ref r, .long w, jk, .int (iI kd), .int (iI (bI (sW t e 22 σ))), jk, jk, jk, jk, jk, jk] [] (T, iV V1, R, J1, z) k n (LQ T R J0 z t V0 A r f e (pqR t e A xw kd (vSd t e σ) (vAg t e (sC t e (vSd t e σ) σ)) (sC t e (vAg t e (sC t e (vSd t e σ) σ)) (sC t e (vSd t e σ) σ)))) := by
    intro σ' V1 J1 hK1 hZ1 hk1 hs
    refine x_aload_n dX12_readPersonLine_59 rfl ?_
    refine (show X _ _ 60 _ _ _ _ _ _ from ?_)
    refine x_callV (As := []) (mc := 0) (ms := 0) (z := mX12_goesOn) (ci := 12) dX12_readPersonLine_60 lX12_149 oX12_goesOn (by decide) (by first | assumption) rfl rfl (Nat.le_of_ble_eq_true rfl) (Nat.le_of_ble_eq_true rfl) rfl (z_goes hX hZ1 hk1) (fun v M1 hq => ?_)
    obtain ⟨rfl, V2, J2, rfl, hK2, hZ2⟩ := hq
    rw [hs] at hZ2
    refine pl2 hX hV hZ2 (KS_t hK1 hK2) (fun j hj => ?_)
    obtain ⟨hx, j', hj'⟩ := sC_v hj
    obtain ⟨a1, a2, a3⟩ := hal j' hj'
    exact ⟨a1, a2, a3, vSd_v hx⟩
  refine x_aload_n dX12_readPersonLine_30 rfl ?_
  refine x_ldcsw dX12_readPersonLine_31 sX12_304 ?_
  refine (show X _ _ 34 _ _ _ _ _ _ from ?_)
  refine x_callV (As := [_]) (mc := 0) (ms := 0) (z := mX12_isWord) (ci := 12) dX12_readPersonLine_34 lX12_152 oX12_isWord (by decide) (by first | assumption) rfl rfl (Nat.le_of_ble_eq_true rfl) (Nat.le_of_ble_eq_true rfl) rfl (z_isWord hX hZ (by decide)) (k_I ?_)
  refine (show X _ _ 37 _ _ _ _ _ _ from ?_)
  refine x_istore dX12_readPersonLine_37 (by decide) rfl rfl ?_
  refine x_iload dX12_readPersonLine_39 rfl ?_
  refine (show X _ _ 41 _ _ _ _ _ _ from ?_)
  refine y_ifb_ne 59 dX12_readPersonLine_41 (by decide) (fun h1 => ?_) (fun h1 => ?_)
  · have hv : vSd t e σ = 1 := by unfold vSd; rw [h1, sW_ex ky_ex1 h1]; rfl
    exact tl σ V J hK0 hZ (sW_k h1) (by rw [hv, sC_p (by decide)])
  refine x_aload_n dX12_readPersonLine_44 rfl ?_
  refine x_ldcsw dX12_readPersonLine_45 sX12_306 ?_
  refine (show X _ _ 48 _ _ _ _ _ _ from ?_)
  refine x_callV (As := [_]) (mc := 0) (ms := 0) (z := mX12_isWord) (ci := 12) dX12_readPersonLine_48 lX12_152 oX12_isWord (by decide) (by first | assumption) rfl rfl (Nat.le_of_ble_eq_true rfl) (Nat.le_of_ble_eq_true rfl) rfl (z_isWord hX hZ (by decide)) (k_I ?_)
  refine (show X _ _ 51 _ _ _ _ _ _ from ?_)
  refine y_ifb_ne 59 dX12_readPersonLine_51 (by decide) (fun h2 => ?_) (fun h2 => ?_)
  · have hv : vSd t e σ = 0 := by unfold vSd; rw [h2]; rfl
    exact tl σ V J hK0 hZ (sW_k h2) (by rw [hv, sC_p (by decide)])
  · have hv : vSd t e σ = -1 := by unfold vSd; rw [h1, h2]; rfl
    refine x_aload_n dX12_readPersonLine_54 rfl ?_
    refine y_iconst dX12_readPersonLine_55 ?_
    refine (show X _ _ 56 _ _ _ _ _ _ from ?_)
    refine x_callV (As := [_]) (mc := 0) (ms := 0) (z := mX12_flaw) (ci := 12) dX12_readPersonLine_56 lX12_156 oX12_flaw (by decide) (by first | assumption) rfl rfl (Nat.le_of_ble_eq_true rfl) (Nat.le_of_ble_eq_true rfl) rfl (z_flaw hX hZ) (fun v M1 hq => ?_)
    obtain ⟨rfl, V1, J1, rfl, hK1, hZ1⟩ := hq
    exact tl (sF t e 1 σ) V1 J1 (KS_t hK0 hK1) hZ1 sF_sG (by rw [hv, sC_n (by decide), sG_sF])
theorem z_readPers (hX : MX T R r f t e) (hV : VP A) (hZ : MZ t V J A r f e (.inr i)) (hk : tkK t e i = 1) : X g mX12_readPersonLine 0 [.ref r, jk, jk, jk, jk, jk, jk, jk, jk, jk, jk] [] (T, iV V, R, J, z) k n (LQ T R J z t V A r f e (pbS (sBg t e A (A 0 3) 10 i) (fun i => pPers t e A i))) := by
  obtain ⟨hM, hG, hrf, hap, hb, he⟩ := id hX
  obtain ⟨⟨y1, y2⟩, -, -, ⟨p1, p2⟩, -⟩ := id hV.1
  obtain ⟨m0, -, -⟩ := id hM
  obtain ⟨g0, ⟨g10, g11, g12, g13, g14, g15, g16, -, -, -, -, -, -, -, -, -, -, -, -, -, -, -, -⟩, ⟨gk1, gk2, gk3, gk4, gk5, gk6, gk7, -, -, -, -, -, -, -, -, -, -, -, -, -, -, -, -⟩⟩ := id hG
  unfold pPers
  rw [ebF, ebC (x := kdOf t e) (vKd t e) (fun _ => rfl), ebW, ebC (x := sdOf t e) (vSd t e) (fun _ => rfl), ebC (x := agOf t e) (vAg t e) (fun _ => rfl), ebN, ebW, ebN, ebW, ebN, ebW, ebN]
  refine x_aload_n dX12_readPersonLine_0 rfl ?_
  refine x_aload_n dX12_readPersonLine_1 rfl ?_
  refine x_gr dX12_readPersonLine_2 fX12_172 (by first | assumption) (fun _ _ _ => rfl) (by first | assumption) ?_
  refine y_gi dX12_readPersonLine_5 fX12_230 (by first | assumption) (fun _ _ _ => rfl) ?_
  refine (show X _ _ 8 _ _ _ _ _ _ from ?_)
  refine X.val (hZ.2.2.1.1.1 3 (by decide)) ?_
  refine y_bipush dX12_readPersonLine_8 rfl ?_
  refine (show X _ _ 10 _ _ _ _ _ _ from ?_)
  refine x_callV (As := [_, _]) (mc := 0) (ms := 0) (z := mX12_begins) (ci := 12) dX12_readPersonLine_10 lX12_291 oX12_begins (by decide) (by first | assumption) rfl rfl (Nat.le_of_ble_eq_true rfl) (Nat.le_of_ble_eq_true rfl) rfl (z_begins hX hZ hk ⟨by omega, by omega⟩ ⟨by omega, by omega⟩ ⟨by omega, by omega⟩) (fun v M1 hq => ?_)
  obtain ⟨rfl, V1, J1, rfl, hK1, hZ1⟩ := hq
  refine (show X _ _ 13 _ _ _ _ _ _ from ?_)
  obtain ⟨σ0, hσ0⟩ : ∃ s, sBg t e A (A 0 3) 10 i = s := ⟨_, rfl⟩
  rw [hσ0] at hZ1 ⊢
  refine x_aload_n dX12_readPersonLine_13 rfl ?_
  refine (show X _ _ 14 _ _ _ _ _ _ from ?_)
  refine x_callV (As := []) (mc := 0) (ms := 0) (z := mX12_readFresh) (ci := 12) dX12_readPersonLine_14 lX12_295 oX12_readFresh (by decide) (by first | assumption) rfl rfl (Nat.le_of_ble_eq_true rfl) (Nat.le_of_ble_eq_true rfl) rfl (z_readFresh hX hZ1) (fun v M1 hq => ?_)
  obtain ⟨w, hw, rfl, V2, J2, rfl, hK2, hZ2⟩ := hq
  refine (show X _ _ 17 _ _ _ _ _ _ from ?_)
  refine x_lstore_n dX12_readPersonLine_17 (by decide) rfl rfl ?_
  refine x_aload_n dX12_readPersonLine_18 rfl ?_
  refine (show X _ _ 19 _ _ _ _ _ _ from ?_)
  refine x_callV (As := []) (mc := 0) (ms := 0) (z := mX12_readKind) (ci := 12) dX12_readPersonLine_19 lX12_299 oX12_readKind (by decide) (by first | assumption) rfl rfl (Nat.le_of_ble_eq_true rfl) (Nat.le_of_ble_eq_true rfl) rfl (z_readKind hX hZ2) (fun v M1 hq => ?_)
  obtain ⟨rfl, V3, J3, rfl, hK3, hZ3⟩ := hq
  refine (show X _ _ 22 _ _ _ _ _ _ from ?_)
  refine x_istore_n dX12_readPersonLine_22 (by decide) rfl rfl ?_
  refine x_aload_n dX12_readPersonLine_23 rfl ?_
  refine x_ldcsw dX12_readPersonLine_24 sX12_302 ?_
  refine (show X _ _ 27 _ _ _ _ _ _ from ?_)
  refine x_callV (As := [_]) (mc := 0) (ms := 0) (z := mX12_needs) (ci := 12) dX12_readPersonLine_27 lX12_164 oX12_needs (by decide) (by first | assumption) rfl rfl (Nat.le_of_ble_eq_true rfl) (Nat.le_of_ble_eq_true rfl) rfl (z_needs hX hZ3 (by decide)) (fun v M1 hq => ?_)
  obtain ⟨rfl, V4, J4, rfl, hK4, hZ4⟩ := hq
  refine pl3 hX hV hZ4 (KS_t hK1 (KS_t hK2 (KS_t hK3 hK4))) (fun j hj => ?_)
  obtain ⟨j1, hj⟩ := sNd_v hj
  obtain ⟨-, j2, hj⟩ := sC_v hj
  obtain ⟨j0, hj0, hnw⟩ := sFr_v hj
  have hxw := tkX_w (of_decide_eq_true hnw).1.1
  have evF : vFr t e σ0 = tkX t e j0 := by rw [hj0]; rfl
  rw [evF]
  refine ⟨hw j0 hj0 hnw, hxw, ?_⟩
  rw [hj0] at hσ0
  unfold sBg at hσ0
  split at hσ0
  · cases hσ0
  · omega
end C9w
