/-! ===== the reference: family, its faults ===== -/
def FLc (d : Int × Nat) : Prop := 1 ≤ d.1 ∧ d.1 ≤ 6
theorem flk {c : Int} {s : Nat} (h : 1 ≤ c ∧ c ≤ 6) : FLc (c, s) := h
section Fl
variable {t : Nat → Int} {e i : Nat} {A : Nat → Nat → Int} {d : Int × Nat}
theorem flT {b : Bool} {c : Int} {s : Nat} {k : PR} (hc : 1 ≤ c ∧ c ≤ 6) (h : eT b c s k = .inl d) (hk : k = .inl d → FLc d) : FLc d := by
  unfold eT at h
  split at h
  · exact hk h
  · cases h; exact hc
theorem flW {j : Nat} {k : Nat → PR} (h : eW t e i j k = .inl d) (hk : ∀ i', k i' = .inl d → FLc d) : FLc d := flT ⟨by decide, by decide⟩ h (hk _)
theorem flN {lo hi : Int} {k : Int → Nat → PR} (h : eN t e i lo hi k = .inl d) (hk : ∀ v i', k v i' = .inl d → FLc d) : FLc d := flT (by unfold whC; split <;> decide) h (hk _ _)
theorem flC {y : Int} {k : Int → Nat → PR} (h : eC t e i y k = .inl d) (hk : ∀ v i', k v i' = .inl d → FLc d) : FLc d := flT ⟨by decide, by decide⟩ h (hk _ _)
theorem flF {k : Int → Nat → PR} (h : eF t e A i k = .inl d) (hk : ∀ v i', k v i' = .inl d → FLc d) : FLc d := flT (by unfold nxC; split <;> decide) h (hk _ _)
theorem flM {c : Int} {k : Int → Nat → Nat → PR} (h : eM t e A i c k = .inl d) (hk : ∀ v s i', k v s i' = .inl d → FLc d) : FLc d := flT (by unfold nxC; split <;> decide) h (hk _ _ _)
theorem pFam_fl (h : pFam t e A i = .inl d) : FLc d := flW h fun _ h => flN h fun _ _ h => flW h fun _ h => flC h fun _ _ h => flW h fun _ h => flN h fun _ _ h => by cases h
theorem pPers_fl (h : pPers t e A i = .inl d) : FLc d := flF h fun _ _ h => flC h fun _ _ h => flW h fun _ h => flC h fun _ _ h => flC h fun _ _ h => flN h fun _ _ h => flW h fun _ h => flN h fun _ _ h => flW h fun _ h => flN h fun _ _ h => flW h fun _ h => flN h fun _ _ h => by cases h
theorem pPlan_fl (h : pPlan t e A i = .inl d) : FLc d := flM h fun _ _ _ h => flN h fun _ _ h => flW h fun _ h => flN h fun _ _ h => flW h fun _ h => flN h fun _ _ h => by cases h
theorem pDies_fl (h : pDies t e A i = .inl d) : FLc d := flM h fun _ _ _ h => by
  split at h
  · exact flN h fun _ _ h => by cases h
  · cases h; exact flk ⟨by decide, by decide⟩
theorem pBuys_fl (h : pBuys t e A i = .inl d) : FLc d := flN h fun _ _ h => flM h fun _ _ _ h => flM h fun _ _ _ h => by
  split at h
  · cases h; exact flk ⟨by decide, by decide⟩
  · exact flW h fun _ h => flN h fun _ _ h => by cases h
theorem pSecr_fl (h : pSecr t e A i = .inl d) : FLc d := flF h fun _ _ h => flM h fun _ _ _ h => by cases h
theorem pHide_fl (h : pHide t e A i = .inl d) : FLc d := flM h fun _ _ _ h => flM h fun _ _ _ h => flM h fun _ _ _ h => by
  split at h
  · cases h; exact flk ⟨by decide, by decide⟩
  · cases h
theorem pDiar_fl {c : Int} (h : pDiar t e A i c = .inl d) : FLc d := flN h fun _ _ h => flM h fun _ _ _ h => by cases h
theorem pLine_fl (h : pLine t e A i = .inl d) : FLc d := by
  unfold pLine at h
  split at h
  · cases h; exact flk ⟨by decide, by decide⟩
  split at h
  · cases h; exact flk ⟨by decide, by decide⟩
  split at h
  · cases h; exact flk ⟨by decide, by decide⟩
  split at h
  · cases h; exact flk ⟨by decide, by decide⟩
  unfold pBody at h
  split at h
  · exact pFam_fl h
  split at h
  · exact pPers_fl h
  split at h
  · exact pPlan_fl h
  split at h
  · exact pDies_fl h
  split at h
  · exact pBuys_fl h
  split at h
  · exact pSecr_fl h
  split at h
  · exact pHide_fl h
  split at h
  · exact pDiar_fl h
  · exact pDiar_fl h
theorem pMore_fl : ∀ (m : Nat) (p : PR), (∀ d, p = .inl d → FLc d) → ∀ d, pMore t e m p = .inl d → FLc d
  | 0, p, hp, d, h => hp d h
  | m + 1, .inl c, hp, d, h => hp d h
  | m + 1, .inr s, hp, d, h => by
    rw [pMore] at h
    split at h
    · exact pMore_fl m _ (fun d h => pLine_fl h) d h
    · cases h
theorem pText_fl (h : pText t e = .inl d) : FLc d := by
  unfold pText at h
  have hm := pMore_fl (t := t) (e := e) 1100 (pLine t e A0 0) (fun d h => pLine_fl h)
  cases hp : pMore t e 1100 (pLine t e A0 0) with
  | inl c => rw [hp] at h; cases h; exact hm _ hp
  | inr s =>
    rw [hp] at h
    unfold pFin at h
    simp only at h
    split at h
    · split at h
      · cases h
      · cases h; exact flk ⟨by decide, by decide⟩
    · cases h; exact flk ⟨by decide, by decide⟩
end Fl
section Ca0
variable {g : GG} {T : Nat → Nat × Nat} {V E A B : Nat → Nat → Int} {R : Nat → Nat → Option Nat} {J : Nat → Nat → Int64} {z k n : Nat} {r f : Nat} {t : Nat → Int} {tp : Nat} {h : Bool} {a m : Nat} {H K : Nat → Nat → Nat → Int} {wr pl tr : Int}
theorem k_fam0 {x : Int} (hI : DI T R V r f E t tp h A B a m H K wr pl tr) (hx : R32 x) (hb : x < 0 ∨ (tp : Int) < x) : X g mX12_family 0 [.ref r, .int (iI x), jk] [] (T, iV (pB V r 24 E), R, J, z) k n (DQ T R J z V r f (some (.int (iI (-1)))) t tp h A B a m H K wr pl 2) := by
  have hI1 := DI_sc hI (E' := u2 E 0 0 0) ⟨fun b hb => by rw [u2_n (by omega)], fun c hc => by rw [u2_s, u1_n (by omega)], by rw [u2_s, u1_n (by decide)]; exact hI.2.2.2.2.1⟩
  obtain ⟨hM, -, ⟨-, d6, d7⟩, -⟩ := id hI1
  have m0 := hM.1
  obtain ⟨x1, x2⟩ := hx
  have tl : X g mX12_family 17 [.ref r, .int (iI x), jk] [] (T, iV (pB V r 24 (u2 E 0 0 0)), R, J, z) k n (DQ T R J z V r f (some (.int (iI (-1)))) t tp h A B a m H K wr pl 2) := by
    refine x_aload_n dX12_family_17 rfl ?_
    refine y_iconst dX12_family_18 ?_
    refine (show X _ _ 19 _ _ _ _ _ _ from ?_)
    refine x_callV (As := [_]) (mc := 0) (ms := 0) (z := mX12_refused) (ci := 12) dX12_family_19 lX12_91 oX12_refused (by decide) (by first | assumption) rfl rfl (Nat.le_of_ble_eq_true rfl) (Nat.le_of_ble_eq_true rfl) rfl (k_refused hM) (k_I ?_)
    refine (show X _ _ 22 _ _ _ _ _ _ from ?_)
    exact x_ireturn dX12_family_22 rfl (DQ_tr hI1 2 (by decide) _)
  refine x_aload_n dX12_family_0 rfl ?_
  refine y_iconst dX12_family_1 ?_
  refine b_pi0 (r := r) (m := 24) dX12_family_2 (pX12_85 _) (by first | assumption) (fun _ _ _ => rfl) rfl rfl (by decide) ?_
  refine x_iload_n dX12_family_5 rfl ?_
  refine (show X _ _ 6 _ _ _ _ _ _ from ?_)
  refine y_if_lt 17 dX12_family_6 (by decide) ⟨by omega, by omega⟩ (fun h1 => ?_) (fun h1 => ?_)
  · exact tl
  refine x_iload_n dX12_family_9 rfl ?_
  refine x_aload_n dX12_family_10 rfl ?_
  refine b_gi0 (r := r) (m := 24) dX12_family_11 fX12_402 (by first | assumption) (fun _ _ _ => rfl) (by decide) ?_
  refine (show X _ _ 14 _ _ _ _ _ _ from ?_)
  refine X.val d6 ?_
  refine y_icmp_le 23 dX12_family_14 (by decide) ⟨by omega, by omega⟩ ⟨by omega, by omega⟩ (fun h2 => ?_) (fun h2 => ?_)
  · omega
  · exact tl
/-- the answer of family, and the state behind it; 24 cells are new at z -/
def FQ (T : Nat → Nat × Nat) (R : Nat → Nat → Option Nat) (J : Nat → Nat → Int64) (z : Nat) (V : Nat → Nat → Int) (r f : Nat) (v0 : Option Value) (t : Nat → Int) (h : Bool) (A B : Nat → Nat → Int) (a m : Nat) (H K : Nat → Nat → Nat → Int) (wr pl tr : Int) : Option Value → Mem → Prop := fun v M => v = v0 ∧ ∃ T' R' J' V' E', M = (T', iV (pB V' r 24 E'), R', J', z + 24) ∧ (∀ b, b < z → (b < r ∨ r + 24 ≤ b) → T' b = T b ∧ V' b = V b ∧ R' b = R b ∧ J' b = J b) ∧ DI T' R' V' r f E' t 0 h A B a m H K wr pl tr
theorem FMS_k {T' : Nat → Nat × Nat} {R' : Nat → Nat → Option Nat} (h : FMS T R f) (hk : ∀ b, f ≤ b → b < f + 24 → T' b = T b) (hR : R' f = R f) : FMS T' R' f := by
  obtain ⟨g0, g1, b1, b2, b3, b4, b5, b6, b7, b8, b9, b10, b11, b12, b13, b14, b15, b16, b17, b18, b19, b20, b21, b22, b23⟩ := h
  refine ⟨?_, by rw [hR]; exact g1, ?_, ?_, ?_, ?_, ?_, ?_, ?_, ?_, ?_, ?_, ?_, ?_, ?_, ?_, ?_, ?_, ?_, ?_, ?_, ?_, ?_, ?_, ?_⟩ <;> (rw [hk _ (by omega) (by omega)]; assumption)
theorem FMC_k {V' : Nat → Nat → Int} (h : FMC V f A) (hk : ∀ b, f ≤ b → b < f + 24 → V' b = V b) : FMC V' f A := by
  obtain ⟨h1, h2, h3, h4, h5, h6, h7⟩ := h
  refine ⟨fun j hj => ?_, fun c hc p hp => ?_, fun c hc p hp => ?_, fun c hc p hp => ?_, fun p hp => ?_, fun p hp => ?_, fun p hp => ?_⟩
  · rw [hk f (by omega) (by omega)]; exact h1 j hj
  · rw [hk _ (by omega) (by omega)]; exact h2 c hc p hp
  · rw [hk _ (by omega) (by omega)]; exact h3 c hc p hp
  · rw [hk _ (by omega) (by omega)]; exact h4 c hc p hp
  · rw [hk _ (by omega) (by omega)]; exact h5 p hp
  · rw [hk _ (by omega) (by omega)]; exact h6 p hp
  · rw [hk _ (by omega) (by omega), hk (f + 19) (by omega) (by omega), hk (f + 20) (by omega) (by omega)]; exact h7 p hp
theorem k_fam1 {x c : Int} {s : Nat} (hI : DI T R V r f E t tp h A B a m H K wr pl tr) (hz : r + 24 ≤ z) (hfz : h = true → f + 24 ≤ z) (hb : byR t) (hx : 0 ≤ x ∧ x ≤ tp) (hp : pText t x.toNat = .inl (c, s)) : X g mX12_family 0 [.ref r, .int (iI x), jk] [] (T, iV (pB V r 24 E), R, J, z) 24 (0 + 316 + 33) (FQ T R J z V r f (some (.int (iI (-1)))) t h A B a m H K c (s : Int) 4) := by
  obtain ⟨hM, ⟨d1, d2, d3⟩, ⟨d5, d6, d7⟩, ⟨⟨d8, d9⟩, d10, d11⟩, d12, d13, d14⟩ := hI
  obtain ⟨e, rfl⟩ : ∃ e : Nat, x = (e : Int) := ⟨x.toNat, (Int.toNat_of_nonneg hx.1).symm⟩
  rw [Int.toNat_natCast] at hp
  have v6 : pB V r 24 E r 6 = (tp : Int) := by rw [pB_0 (by decide)]; exact d6
  refine fam_pre (t := t) hM hz hb (by omega) (by rw [pB_at (by decide)]; exact d5) (by rw [v6]; omega) (by rw [v6]; exact hx.2) (fun T' R' J' V' kT kb kR hX kr kp => ?_)
  rw [hp] at kp
  obtain ⟨k12, k13⟩ := kp
  obtain ⟨hM', -⟩ := id hX
  have m0 := hM'.1
  have hfl : FLc (c, s) := pText_fl hp
  have hc1 : 1 ≤ c := hfl.1
  have hc6 : c ≤ 6 := hfl.2
  replace k12 : V' r 12 = c := k12
  replace k13 : V' r 13 = (s : Int) := k13
  refine x_aload_n dX12_family_67 rfl ?_
  refine y_gi dX12_family_68 fX12_139 (by first | assumption) (fun _ _ _ => rfl) ?_
  refine (show X _ _ 71 _ _ _ _ _ _ from ?_)
  refine X.val k12 ?_
  refine y_if_le 89 dX12_family_71 (by decide) ⟨by omega, by omega⟩ (fun h1 => ?_) (fun h1 => ?_)
  · omega
  refine x_aload_n dX12_family_74 rfl ?_
  refine y_iconst dX12_family_75 ?_
  refine y_pi dX12_family_76 (pX12_88 _) (by first | assumption) (fun _ _ _ => rfl) rfl rfl ?_
  refine x_aload_n dX12_family_79 rfl ?_
  refine x_aload_n dX12_family_80 rfl ?_
  refine y_gi dX12_family_81 fX12_142 (by first | assumption) (fun _ _ _ => rfl) ?_
  refine (show X _ _ 84 _ _ _ _ _ _ from ?_)
  refine X.val (b := (s : Int)) (by rw [u2_s, u1_n (by decide)]; exact k13) ?_
  refine y_pi dX12_family_84 (pX12_9 _) (by first | assumption) (fun _ _ _ => rfl) rfl rfl ?_
  refine y_iconst dX12_family_87 ?_
  refine (show X _ _ 88 _ _ _ _ _ _ from ?_)
  have kv : ∀ b, 1 ≤ b → b < 24 → u2 (u2 V' r 1 4) r 2 (s : Int) (r + b) = E b := fun b h1 h2 => by rw [u2_n (by omega), u2_n (by omega), (kb _ (by omega) (by omega)).1, pB_at h2]
  have kc : ∀ q, q ≠ 0 → q ≠ 1 → q ≠ 2 → q ≠ 6 → q ≠ 7 → (q < 8 ∨ 14 ≤ q) → u2 (u2 V' r 1 4) r 2 (s : Int) r q = E 0 q := fun q h0 h1 h2 h6 h7 hq => by rw [u2_s, u1_n h2, u2_s, u1_n h1, kr.2.2 q h0 h6 h7 hq, pB_0 (by decide)]
  refine x_ireturn dX12_family_88 rfl ⟨rfl, T', R', J', u2 (u2 V' r 1 4) r 2 (s : Int), fun j => u2 (u2 V' r 1 4) r 2 (s : Int) (r + j), by rw [← pB_of (fun _ _ => rfl)], fun b hb1 hb2 => ⟨kT b hb1, ?_, (kb b hb1 (by omega)).2.1, (kb b hb1 (by omega)).2.2⟩, hM', ⟨?_, ?_, ?_⟩, ⟨?_, ?_, by omega⟩, ⟨⟨?_, d9⟩, ?_, d11⟩, ?_, fun hh => ?_, fun hh => ?_⟩
  · rw [u2_n (by omega), u2_n (by omega), (kb b hb1 (by omega)).1, pB_out (by omega)]
  · show u2 (u2 V' r 1 4) r 2 (s : Int) r 1 = 4
    rw [u2_s, u1_n (by decide), u2_s, u1_s]
  · show u2 (u2 V' r 1 4) r 2 (s : Int) r 2 = _
    rw [u2_s, u1_s, if_pos rfl]
  · show u2 (u2 V' r 1 4) r 2 (s : Int) r 12 = c
    rw [u2_s, u1_n (by decide), u2_s, u1_n (by decide)]; exact k12
  · exact (kv 1 (by decide) (by decide)).trans d5
  · show u2 (u2 V' r 1 4) r 2 (s : Int) r 6 = _
    rw [u2_s, u1_n (by decide), u2_s, u1_n (by decide)]; exact kr.2.1
  · exact (kc 18 (by decide) (by decide) (by decide) (by decide) (by decide) (by omega)).trans d8
  · exact (kc 19 (by decide) (by decide) (by decide) (by decide) (by decide) (by omega)).trans d10
  · show -2 ≤ u2 (u2 V' r 1 4) r 2 (s : Int) r 43 ∧ u2 (u2 V' r 1 4) r 2 (s : Int) r 43 ≤ 9
    rw [kc 43 (by decide) (by decide) (by decide) (by decide) (by decide) (by omega)]; exact d12
  · obtain ⟨w1, w2⟩ := d13 hh
    exact ⟨(kR 3 (by decide)).trans w1, w2⟩
  · obtain ⟨⟨w1, w2, w3, w4⟩, w5, w6, w7, w8⟩ := d14 hh
    have hf := hfz hh
    have w4' : f + 24 ≤ r ∨ r + 24 ≤ f := w4
    refine ⟨⟨(kR 3 (by decide)).trans w1, FMS_k w2 (fun b _ h2 => kT b (by omega)) (kb f (by omega) (by omega)).2.1, FMC_k w3 (fun b h1 h2 => ?_), w4⟩, w5, ?_, ?_, ?_⟩
    · rw [u2_n (by omega), u2_n (by omega), (kb b (by omega) (by omega)).1, pB_out (by omega)]
    · rw [show (fun j => u2 (u2 V' r 1 4) r 2 (s : Int) (r + j)) 2 = E 2 from kv 2 (by decide) (by decide)]; exact w6
    · rw [show (fun j => u2 (u2 V' r 1 4) r 2 (s : Int) (r + j)) 3 = E 3 from kv 3 (by decide) (by decide)]; exact w7
    · rw [show (fun j => u2 (u2 V' r 1 4) r 2 (s : Int) (r + j)) 4 = E 4 from kv 4 (by decide) (by decide)]; exact w8
end Ca0
