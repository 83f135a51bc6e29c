/-! ===== the reference's reader: the whole text ===== -/
section Ge
variable {t : Nat → Int} {e i : Nat} {A : Nat → Nat → Int} {x : (Nat → Nat → Int) × Nat}
theorem tkN_b (hi : i ≤ e) : i ≤ tkN t e i ∧ tkN t e i ≤ e := by have := tk_b t hi; omega
theorem geT {b : Bool} {c : Int} {s : Nat} {k : PR} (h : eT b c s k = .inr x) : k = .inr x := by
  unfold eT at h
  split at h
  · exact h
  · cases h
theorem geW {j : Nat} {k : Nat → PR} (hi : i ≤ e) (h : eW t e i j k = .inr x) : ∃ i', i ≤ i' ∧ i' ≤ e ∧ k i' = .inr x := ⟨_, (tkN_b hi).1, (tkN_b hi).2, geT h⟩
theorem geN {lo hi' : Int} {k : Int → Nat → PR} (hi : i ≤ e) (h : eN t e i lo hi' k = .inr x) : ∃ v i', i ≤ i' ∧ i' ≤ e ∧ k v i' = .inr x := ⟨_, _, (tkN_b hi).1, (tkN_b hi).2, geT h⟩
theorem geC {y : Int} {k : Int → Nat → PR} (hi : i ≤ e) (h : eC t e i y k = .inr x) : ∃ v i', i ≤ i' ∧ i' ≤ e ∧ k v i' = .inr x := ⟨_, _, (tkN_b hi).1, (tkN_b hi).2, geT h⟩
theorem geF {k : Int → Nat → PR} (hi : i ≤ e) (h : eF t e A i k = .inr x) : ∃ v i', i ≤ i' ∧ i' ≤ e ∧ k v i' = .inr x := ⟨_, _, (tkN_b hi).1, (tkN_b hi).2, geT h⟩
theorem geM {c : Int} {k : Int → Nat → Nat → PR} (hi : i ≤ e) (h : eM t e A i c k = .inr x) : ∃ v s i', i ≤ i' ∧ i' ≤ e ∧ k v s i' = .inr x := ⟨_, _, _, (tkN_b hi).1, (tkN_b hi).2, geT h⟩
theorem pFam_ge (hi : i ≤ e) (h : pFam t e A i = .inr x) : i ≤ x.2 := by
  obtain ⟨i1, a1, b1, h⟩ := geW hi h
  obtain ⟨v2, i2, a2, b2, h⟩ := geN b1 h
  obtain ⟨i3, a3, b3, h⟩ := geW b2 h
  obtain ⟨v4, i4, a4, b4, h⟩ := geC b3 h
  obtain ⟨i5, a5, b5, h⟩ := geW b4 h
  obtain ⟨v6, i6, a6, b6, h⟩ := geN b5 h
  cases h
  show i ≤ i6
  omega
theorem pPers_ge (hi : i ≤ e) (h : pPers t e A i = .inr x) : i ≤ x.2 := by
  obtain ⟨v1, i1, a1, b1, h⟩ := geF hi h
  obtain ⟨v2, i2, a2, b2, h⟩ := geC b1 h
  obtain ⟨i3, a3, b3, h⟩ := geW b2 h
  obtain ⟨v4, i4, a4, b4, h⟩ := geC b3 h
  obtain ⟨v5, i5, a5, b5, h⟩ := geC b4 h
  obtain ⟨v6, i6, a6, b6, h⟩ := geN b5 h
  obtain ⟨i7, a7, b7, h⟩ := geW b6 h
  obtain ⟨v8, i8, a8, b8, h⟩ := geN b7 h
  obtain ⟨i9, a9, b9, h⟩ := geW b8 h
  obtain ⟨v10, i10, a10, b10, h⟩ := geN b9 h
  obtain ⟨i11, a11, b11, h⟩ := geW b10 h
  obtain ⟨v12, i12, a12, b12, h⟩ := geN b11 h
  cases h
  show i ≤ i12
  omega
theorem pPlan_ge (hi : i ≤ e) (h : pPlan t e A i = .inr x) : i ≤ x.2 := by
  obtain ⟨v1, s1, i1, a1, b1, h⟩ := geM hi h
  obtain ⟨v2, i2, a2, b2, h⟩ := geN b1 h
  obtain ⟨i3, a3, b3, h⟩ := geW b2 h
  obtain ⟨v4, i4, a4, b4, h⟩ := geN b3 h
  obtain ⟨i5, a5, b5, h⟩ := geW b4 h
  obtain ⟨v6, i6, a6, b6, h⟩ := geN b5 h
  cases h
  show i ≤ i6
  omega
theorem pDies_ge (hi : i ≤ e) (h : pDies t e A i = .inr x) : i ≤ x.2 := by
  obtain ⟨v1, s1, i1, a1, b1, h⟩ := geM hi h
  split at h
  · obtain ⟨v2, i2, a2, b2, h⟩ := geN b1 h
    cases h
    show i ≤ i2
    omega
  · cases h
theorem pBuys_ge (hi : i ≤ e) (h : pBuys t e A i = .inr x) : i ≤ x.2 := by
  obtain ⟨v1, i1, a1, b1, h⟩ := geN hi h
  obtain ⟨v2, s2, i2, a2, b2, h⟩ := geM b1 h
  obtain ⟨v3, s3, i3, a3, b3, h⟩ := geM b2 h
  split at h
  · cases h
  · obtain ⟨i4, a4, b4, h⟩ := geW b3 h
    obtain ⟨v5, i5, a5, b5, h⟩ := geN b4 h
    cases h
    show i ≤ i5
    omega
theorem pSecr_ge (hi : i ≤ e) (h : pSecr t e A i = .inr x) : i ≤ x.2 := by
  obtain ⟨v1, i1, a1, b1, h⟩ := geF hi h
  obtain ⟨v2, s2, i2, a2, b2, h⟩ := geM b1 h
  cases h
  show i ≤ i2
  omega
theorem pHide_ge (hi : i ≤ e) (h : pHide t e A i = .inr x) : i ≤ x.2 := by
  obtain ⟨v1, s1, i1, a1, b1, h⟩ := geM hi h
  obtain ⟨v2, s2, i2, a2, b2, h⟩ := geM b1 h
  obtain ⟨v3, s3, i3, a3, b3, h⟩ := geM b2 h
  split at h
  · cases h
  · cases h
    show i ≤ i3
    omega
theorem pDiar_ge {c : Int} (hi : i ≤ e) (h : pDiar t e A i c = .inr x) : i ≤ x.2 := by
  obtain ⟨v1, i1, a1, b1, h⟩ := geN hi h
  obtain ⟨v2, s2, i2, a2, b2, h⟩ := geM b1 h
  cases h
  show i ≤ i2
  omega
theorem pLine_ge (hi : i ≤ e) (h : pLine t e A i = .inr x) : i ≤ x.2 := by
  have hn := tkN_b (t := t) hi
  unfold pLine at h
  split at h
  · cases h
  split at h
  · cases h
  split at h
  · cases h
  split at h
  · cases h
  refine Nat.le_trans hn.1 ?_
  unfold pBody at h
  split at h
  · exact pFam_ge hn.2 h
  split at h
  · exact pPers_ge hn.2 h
  split at h
  · exact pPlan_ge hn.2 h
  split at h
  · exact pDies_ge hn.2 h
  split at h
  · exact pBuys_ge hn.2 h
  split at h
  · exact pSecr_ge hn.2 h
  split at h
  · exact pHide_ge hn.2 h
  split at h
  · exact pDiar_ge hn.2 h
  · exact pDiar_ge hn.2 h
theorem tk_semi (hi : i ≤ e) (h : tkK t e i = 3) : i < tkN t e i := by
  have hb := tk_b t hi
  unfold tkK at h
  unfold tkN
  split at h
  · omega
  rename_i h1
  rw [if_neg h1]
  split at h
  · split at h <;> omega
  rename_i h2
  rw [if_neg h2]
  split at h
  · split at h <;> omega
  rename_i h3
  rw [if_neg h3]
  omega
end Ge
/-- the reader at its end -/
def AQ (T : Nat → Nat × Nat) (R : Nat → Nat → Option Nat) (J : Nat → Nat → Int64) (z : Nat) (t : Nat → Int) (V : Nat → Nat → Int) (r f e : Nat) (p : PR) : Option Value → Mem → Prop := fun v M => v = none ∧ ∃ V' J', M = (T, iV V', R, J', z) ∧ KL V V' J J' r f ∧ match p with
  | .inl c => V' r 12 = c.1 ∧ V' r 13 = (c.2 : Int)
  | .inr s => MF V' J' f s.1 ∧ V' r 12 = 0
def prS (A : Nat → Nat → Int) : SG → PR
  | .inl c => .inl c
  | .inr i => .inr (A, i)
section C9y
variable {g : GG} {T : Nat → Nat × Nat} {V A : Nat → Nat → Int} {R : Nat → Nat → Option Nat} {J : Nat → Nat → Int64} {z k n : Nat} {r f e i : Nat} {t : Nat → Int}
theorem all2 {V0 : Nat → Nat → Int} {J0 : Nat → Nat → Int64} {σ : SG} {c : Int32} (hX : MX T R r f t e) (h3 : 0 ≤ A 0 3 ∧ A 0 3 ≤ 10) (hZ : MZ t V J A r f e σ) (hK0 : KL V0 V J0 J r f) : X g mX12_readAll 18 [.ref r, .int c] [] (T, iV V, R, J, z) k n (AQ T R J0 z t V0 r f e (pFin t e (prS A σ))) := by
  obtain ⟨hM, hG, hrf, hap, hb, he⟩ := id hX
  obtain ⟨m0, -, -⟩ := id hM
  obtain ⟨g0, -, -⟩ := id hG
  have tl : ∀ (σ' : SG) V1 J1, KL V0 V1 J0 J1 r f → MZ t V1 J1 A r f e σ' → (pFin t e (prS A σ) = match (if A 0 3 = 0 then sF t e 6 σ' else σ') with | .inl c => .inl c | .inr i => .inr (A, i)) → X g mX12_readAll 31 [.ref r, .int c] [] (T, iV V1, R, J1, z) k n (AQ T R J0 z t V0 r f e (pFin t e (prS A σ))) := by
    intro σ' V1 J1 hK1 hZ1 hp
    rw [hp]
    have fin : ∀ (σ2 : SG) V2 J2, KL V0 V2 J0 J2 r f → MZ t V2 J2 A r f e σ2 → AQ T R J0 z t V0 r f e (match σ2 with | .inl c => .inl c | .inr i => .inr (A, i)) none (T, iV V2, R, J2, z) := fun σ2 V2 J2 hK2 hZ2 => by
      refine ⟨rfl, V2, J2, rfl, hK2, ?_⟩
      cases σ2 with
      | inl c => exact hZ2.2.2.2.2
      | inr i => exact ⟨hZ2.2.2.1, hZ2.2.2.2.2⟩
    refine x_aload_n dX12_readAll_31 rfl ?_
    refine x_gr dX12_readAll_32 fX12_172 (by first | assumption) (fun _ _ _ => rfl) (by first | assumption) ?_
    refine y_gi dX12_readAll_35 fX12_230 (by first | assumption) (fun _ _ _ => rfl) ?_
    refine (show X _ _ 38 _ _ _ _ _ _ from ?_)
    refine X.val (hZ1.2.2.1.1.1 3 (by decide)) ?_
    refine y_if_ne 47 dX12_readAll_38 (by decide) ⟨by omega, by omega⟩ (fun h => ?_) (fun h => ?_)
    · rw [if_neg h]
      exact x_return dX12_readAll_47 rfl (fin σ' V1 J1 hK1 hZ1)
    · rw [if_pos h]
      refine x_aload_n dX12_readAll_41 rfl ?_
      refine y_bipush dX12_readAll_42 rfl ?_
      refine (show X _ _ 44 _ _ _ _ _ _ from ?_)
      refine x_callV (As := [_]) (mc := 0) (ms := 0) (z := mX12_flaw) (ci := 12) dX12_readAll_44 lX12_156 oX12_flaw (by decide) (by first | assumption) rfl rfl (Nat.le_of_ble_eq_true rfl) (Nat.le_of_ble_eq_true rfl) rfl (z_flaw hX hZ1) (fun v M1 hq => ?_)
      obtain ⟨rfl, V2, J2, rfl, hK2, hZ2⟩ := hq
      exact x_return dX12_readAll_47 rfl (fin (sF t e 6 σ') V2 J2 (KL_t hK1 (KL_S hK2)) hZ2)
  obtain ⟨a1, a2, a3, a4⟩ := id hZ
  cases σ with
  | inl d =>
    refine x_aload_n dX12_readAll_18 rfl ?_
    refine y_gi dX12_readAll_19 fX12_113 (by first | assumption) (fun _ _ _ => rfl) ?_
    refine (show X _ _ 22 _ _ _ _ _ _ from ?_)
    refine X.val (b := 5) a4.1 ?_
    refine y_iconst dX12_readAll_22 ?_
    refine (show X _ _ 23 _ _ _ _ _ _ from ?_)
    refine y_icmp_eq 31 dX12_readAll_23 (by decide) ⟨by omega, by omega⟩ ⟨by omega, by omega⟩ (fun h => ?_) (fun h => ?_)
    · omega
    refine x_aload_n dX12_readAll_26 rfl ?_
    refine y_iconst dX12_readAll_27 ?_
    refine (show X _ _ 28 _ _ _ _ _ _ from ?_)
    refine x_callV (As := [_]) (mc := 0) (ms := 0) (z := mX12_flaw) (ci := 12) dX12_readAll_28 lX12_156 oX12_flaw (by decide) (by first | assumption) rfl rfl (Nat.le_of_ble_eq_true rfl) (Nat.le_of_ble_eq_true rfl) rfl (z_flaw hX hZ) (fun v M1 hq => ?_)
    obtain ⟨rfl, V1, J1, rfl, hK1, hZ1⟩ := hq
    refine (show X _ _ 31 _ _ _ _ _ _ from ?_)
    refine tl (.inl d) V1 J1 (KL_t hK0 (KL_S hK1)) hZ1 ?_
    rw [show (if A 0 3 = 0 then sF t e 6 (.inl d) else .inl d) = (.inl d : SG) from by split <;> rfl]
    rfl
  | inr i =>
    have hkb := tkK_b t e i
    have hsr := srt_r hkb
    have hs1 := srt_v (c := 1) hkb ⟨by decide, by decide⟩
    have ef : pFin t e (prS A (.inr i)) = if tkK t e i = 0 then (if 0 < A 0 3 then .inr (A, i) else .inl (6, tkS t e i)) else .inl (1, tkS t e i) := rfl
    refine x_aload_n dX12_readAll_18 rfl ?_
    refine y_gi dX12_readAll_19 fX12_113 (by first | assumption) (fun _ _ _ => rfl) ?_
    refine (show X _ _ 22 _ _ _ _ _ _ from ?_)
    refine X.val a4.1.2.2.1 ?_
    refine y_iconst dX12_readAll_22 ?_
    refine (show X _ _ 23 _ _ _ _ _ _ from ?_)
    refine y_icmp_eq 31 dX12_readAll_23 (by decide) ⟨by omega, by omega⟩ ⟨by omega, by omega⟩ (fun h => ?_) (fun h => ?_)
    · refine tl (.inr i) V J hK0 hZ ?_
      rw [ef, if_pos (by have := hs1.mp h; omega)]
      by_cases h0 : A 0 3 = 0
      · rw [if_neg (by omega), if_pos h0]; rfl
      · rw [if_pos (by omega), if_neg h0]
    · refine x_aload_n dX12_readAll_26 rfl ?_
      refine y_iconst dX12_readAll_27 ?_
      refine (show X _ _ 28 _ _ _ _ _ _ from ?_)
      refine x_callV (As := [_]) (mc := 0) (ms := 0) (z := mX12_flaw) (ci := 12) dX12_readAll_28 lX12_156 oX12_flaw (by decide) (by first | assumption) rfl rfl (Nat.le_of_ble_eq_true rfl) (Nat.le_of_ble_eq_true rfl) rfl (z_flaw hX hZ) (fun v M1 hq => ?_)
      obtain ⟨rfl, V1, J1, rfl, hK1, hZ1⟩ := hq
      refine (show X _ _ 31 _ _ _ _ _ _ from ?_)
      refine tl (.inl (1, tkS t e i)) V1 J1 (KL_t hK0 (KL_S hK1)) hZ1 ?_
      rw [ef, if_neg (fun c => h (hs1.mpr (by omega))), show (if A 0 3 = 0 then sF t e 6 (.inl (1, tkS t e i)) else .inl (1, tkS t e i)) = (.inl (1, tkS t e i) : SG) from by split <;> rfl]
theorem all1 {V0 : Nat → Nat → Int} {J0 : Nat → Nat → Int64} (hX : MX T R r f t e) : ∀ (d : Nat) (A V : Nat → Nat → Int) (J : Nat → Nat → Int64) (i : Nat), VP A → e - i ≤ d → MZ t V J A r f e (.inr i) → KL V0 V J0 J r f → X g mX12_readAll 2 [.ref r, .int (iI 1)] [] (T, iV V, R, J, z) k n (AQ T R J0 z t V0 r f e (pFin t e (pMore t e d (pLine t e A i)))) := by
  intro d
  induction d with
  | zero =>
    intro A V J i hV hd hZ hK0
    obtain ⟨hM, hG, hrf, hap, hb, he⟩ := id hX
    obtain ⟨m0, -, -⟩ := id hM
    have hi : i ≤ e := hZ.2.2.2.1.1
    refine x_iload_n dX12_readAll_2 rfl ?_
    refine (show X _ _ 3 _ _ _ _ _ _ from ?_)
    refine y_if_eq 18 dX12_readAll_3 (by decide) ⟨by omega, by omega⟩ (fun h => ?_) (fun h => ?_)
    · omega
    refine x_aload_n dX12_readAll_6 rfl ?_
    refine (show X _ _ 7 _ _ _ _ _ _ from ?_)
    refine x_callV (As := []) (mc := 0) (ms := 0) (z := mX12_readLine) (ci := 12) dX12_readAll_7 lX12_224 oX12_readLine (by decide) (by first | assumption) rfl rfl (Nat.le_of_ble_eq_true rfl) (Nat.le_of_ble_eq_true rfl) rfl (z_readLine hX hV hZ) (fun v M1 hq => ?_)
    obtain ⟨rfl, V1, J1, rfl, hK1, hZ1⟩ := hq
    refine (show X _ _ 10 _ _ _ _ _ _ from ?_)
    cases hp : pLine t e A i with
    | inl c =>
      rw [hp] at hZ1
      refine x_aload_n dX12_readAll_10 rfl ?_
      refine (show X _ _ 11 _ _ _ _ _ _ from ?_)
      refine x_callV (As := []) (mc := 0) (ms := 0) (z := mX12_eatsSemicolon) (ci := 12) dX12_readAll_11 lX12_227 oX12_eatsSemicolon (by decide) (by first | assumption) rfl rfl (Nat.le_of_ble_eq_true rfl) (Nat.le_of_ble_eq_true rfl) rfl (z_semi hX (show MZ t V1 J1 A r f e (.inl c) from hZ1)) (fun v M1 hq => ?_)
      obtain ⟨rfl, V2, J2, rfl, hK2, hZ2⟩ := hq
      refine (show X _ _ 14 _ [.int (iI 0)] _ _ _ _ from ?_)
      refine x_istore_n dX12_readAll_14 (by decide) rfl rfl ?_
      refine x_goto 2 dX12_readAll_15 (by decide) ?_
      refine x_iload_n dX12_readAll_2 rfl ?_
      refine (show X _ _ 3 _ _ _ _ _ _ from ?_)
      refine y_if_eq 18 dX12_readAll_3 (by decide) ⟨by omega, by omega⟩ (fun h2 => ?_) (fun h2 => ?_)
      · exact all2 (σ := .inl c) hX hV.1.2.2.2.1 hZ2 (KL_t hK0 (KL_t hK1 (KL_S hK2)))
      · omega
    | inr s =>
      rw [hp] at hZ1
      have hs2 := pLine_ge hi hp
      have hP := (pLine_VP hV hp).1
      have hse : s.2 ≤ e := hZ1.2.2.2.1.1
      have hn3 : tkK t e s.2 ≠ 3 := fun c => by
        have := tk_semi hse c
        have := (tkN_b (t := t) hse).2
        omega
      refine x_aload_n dX12_readAll_10 rfl ?_
      refine (show X _ _ 11 _ _ _ _ _ _ from ?_)
      refine x_callV (As := []) (mc := 0) (ms := 0) (z := mX12_eatsSemicolon) (ci := 12) dX12_readAll_11 lX12_227 oX12_eatsSemicolon (by decide) (by first | assumption) rfl rfl (Nat.le_of_ble_eq_true rfl) (Nat.le_of_ble_eq_true rfl) rfl (z_semi hX (show MZ t V1 J1 s.1 r f e (.inr s.2) from hZ1)) (fun v M1 hq => ?_)
      obtain ⟨rfl, V2, J2, rfl, hK2, hZ2⟩ := hq
      have es : sSe t e (.inr s.2) = false := decide_eq_false hn3
      rw [es, if_neg (by decide)] at hZ2
      rw [es]
      refine (show X _ _ 14 _ [.int (iI 0)] _ _ _ _ from ?_)
      refine x_istore_n dX12_readAll_14 (by decide) rfl rfl ?_
      refine x_goto 2 dX12_readAll_15 (by decide) ?_
      refine x_iload_n dX12_readAll_2 rfl ?_
      refine (show X _ _ 3 _ _ _ _ _ _ from ?_)
      refine y_if_eq 18 dX12_readAll_3 (by decide) ⟨by omega, by omega⟩ (fun h2 => ?_) (fun h2 => ?_)
      · exact all2 (A := s.1) (σ := .inr s.2) hX hP.1.2.2.2.1 hZ2 (KL_t hK0 (KL_t hK1 (KL_S hK2)))
      · omega
  | succ d ih =>
    intro A V J i hV hd hZ hK0
    obtain ⟨hM, hG, hrf, hap, hb, he⟩ := id hX
    obtain ⟨m0, -, -⟩ := id hM
    have hi : i ≤ e := hZ.2.2.2.1.1
    refine x_iload_n dX12_readAll_2 rfl ?_
    refine (show X _ _ 3 _ _ _ _ _ _ from ?_)
    refine y_if_eq 18 dX12_readAll_3 (by decide) ⟨by omega, by omega⟩ (fun h => ?_) (fun h => ?_)
    · omega
    refine x_aload_n dX12_readAll_6 rfl ?_
    refine (show X _ _ 7 _ _ _ _ _ _ from ?_)
    refine x_callV (As := []) (mc := 0) (ms := 0) (z := mX12_readLine) (ci := 12) dX12_readAll_7 lX12_224 oX12_readLine (by decide) (by first | assumption) rfl rfl (Nat.le_of_ble_eq_true rfl) (Nat.le_of_ble_eq_true rfl) rfl (z_readLine hX hV hZ) (fun v M1 hq => ?_)
    obtain ⟨rfl, V1, J1, rfl, hK1, hZ1⟩ := hq
    refine (show X _ _ 10 _ _ _ _ _ _ from ?_)
    cases hp : pLine t e A i with
    | inl c =>
      rw [hp] at hZ1
      refine x_aload_n dX12_readAll_10 rfl ?_
      refine (show X _ _ 11 _ _ _ _ _ _ from ?_)
      refine x_callV (As := []) (mc := 0) (ms := 0) (z := mX12_eatsSemicolon) (ci := 12) dX12_readAll_11 lX12_227 oX12_eatsSemicolon (by decide) (by first | assumption) rfl rfl (Nat.le_of_ble_eq_true rfl) (Nat.le_of_ble_eq_true rfl) rfl (z_semi hX (show MZ t V1 J1 A r f e (.inl c) from hZ1)) (fun v M1 hq => ?_)
      obtain ⟨rfl, V2, J2, rfl, hK2, hZ2⟩ := hq
      refine (show X _ _ 14 _ [.int (iI 0)] _ _ _ _ from ?_)
      refine x_istore_n dX12_readAll_14 (by decide) rfl rfl ?_
      refine x_goto 2 dX12_readAll_15 (by decide) ?_
      refine x_iload_n dX12_readAll_2 rfl ?_
      refine (show X _ _ 3 _ _ _ _ _ _ from ?_)
      refine y_if_eq 18 dX12_readAll_3 (by decide) ⟨by omega, by omega⟩ (fun h2 => ?_) (fun h2 => ?_)
      · exact all2 (σ := .inl c) hX hV.1.2.2.2.1 hZ2 (KL_t hK0 (KL_t hK1 (KL_S hK2)))
      · omega
    | inr s =>
      rw [hp] at hZ1
      have hs2 := pLine_ge hi hp
      have hP := (pLine_VP hV hp).1
      have hse : s.2 ≤ e := hZ1.2.2.2.1.1
      refine x_aload_n dX12_readAll_10 rfl ?_
      refine (show X _ _ 11 _ _ _ _ _ _ from ?_)
      refine x_callV (As := []) (mc := 0) (ms := 0) (z := mX12_eatsSemicolon) (ci := 12) dX12_readAll_11 lX12_227 oX12_eatsSemicolon (by decide) (by first | assumption) rfl rfl (Nat.le_of_ble_eq_true rfl) (Nat.le_of_ble_eq_true rfl) rfl (z_semi hX (show MZ t V1 J1 s.1 r f e (.inr s.2) from hZ1)) (fun v M1 hq => ?_)
      obtain ⟨rfl, V2, J2, rfl, hK2, hZ2⟩ := hq
      by_cases hk3 : tkK t e s.2 = 3
      · have es : sSe t e (.inr s.2) = true := decide_eq_true hk3
        rw [es, if_pos rfl] at hZ2
        rw [es, show pMore t e (d + 1) (.inr s) = pMore t e d (pLine t e s.1 (tkN t e s.2)) from if_pos hk3]
        have h1 := tk_semi hse hk3
        have h2 := (tkN_b (t := t) hse).2
        refine (show X _ _ 14 _ [.int (iI 1)] _ _ _ _ from ?_)
        refine x_istore_n dX12_readAll_14 (by decide) rfl rfl ?_
        refine x_goto 2 dX12_readAll_15 (by decide) ?_
        refine (show X _ _ 2 _ _ _ _ _ _ from ?_)
        exact ih s.1 V2 J2 (tkN t e s.2) hP (by omega) hZ2 (KL_t hK0 (KL_t hK1 (KL_S hK2)))
      · have es : sSe t e (.inr s.2) = false := decide_eq_false hk3
        rw [es, if_neg (by decide)] at hZ2
        rw [es, show pMore t e (d + 1) (.inr s) = .inr s from if_neg hk3]
        refine (show X _ _ 14 _ [.int (iI 0)] _ _ _ _ from ?_)
        refine x_istore_n dX12_readAll_14 (by decide) rfl rfl ?_
        refine x_goto 2 dX12_readAll_15 (by decide) ?_
        refine x_iload_n dX12_readAll_2 rfl ?_
        refine (show X _ _ 3 _ _ _ _ _ _ from ?_)
        refine y_if_eq 18 dX12_readAll_3 (by decide) ⟨by omega, by omega⟩ (fun h2 => ?_) (fun h2 => ?_)
        · exact all2 (A := s.1) (σ := .inr s.2) hX hP.1.2.2.2.1 hZ2 (KL_t hK0 (KL_t hK1 (KL_S hK2)))
        · omega
theorem z_readAll (hX : MX T R r f t e) (hZ : MZ t V J A0 r f e (.inr 0)) : X g mX12_readAll 0 [.ref r, jk] [] (T, iV V, R, J, z) k n (AQ T R J z t V r f e (pText t e)) := by
  refine y_iconst dX12_readAll_0 ?_
  refine x_istore_n dX12_readAll_1 (by decide) rfl rfl ?_
  refine (show X _ _ 2 _ _ _ _ _ _ from ?_)
  exact all1 hX 1100 A0 V J 0 VP_0 (by have := hX.2.2.2.2.2; omega) hZ ⟨fun _ _ _ => rfl, fun _ _ => rfl, fun _ _ _ => rfl⟩
end C9y
