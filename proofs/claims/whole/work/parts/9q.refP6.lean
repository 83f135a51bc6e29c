/-! ===== the reference's reader: plans, diaries ===== -/
section C9q
variable {g : GG} {T : Nat → Nat × Nat} {V A : Nat → Nat → Int} {R : Nat → Nat → Option Nat} {J : Nat → Nat → Int64} {z k n : Nat} {r f e i : Nat} {t : Nat → Int}
theorem z_readPlan (hX : MX T R r f t e) (hV : VP A) (hZ : MZ t V J A r f e (.inr i)) (hk : tkK t e i = 1) : X g mX12_readPlan 0 [.ref r, jk, jk, jk, jk] [] (T, iV V, R, J, z) k n (LQ T R J z t V A r f e (pbS (sBg t e A (A 0 4) 12 i) (fun i => pPlan t e A i))) := by
  obtain ⟨hM, hG, hrf, hap, hb, he⟩ := id hX
  obtain ⟨⟨y1, y2⟩, -, -, -, ⟨p1, p2⟩, -⟩ := id hV.1
  obtain ⟨m0, -, -⟩ := id hM
  obtain ⟨g0, ⟨-, -, -, -, -, -, -, g17, g18, g19, g20, -, -, -, -, -, -, -, -, -, -, -, -⟩, ⟨-, -, -, -, -, -, -, gk8, gk9, gk10, gk11, -, -, -, -, -, -, -, -, -, -, -, -⟩⟩ := id hG
  unfold pPlan
  rw [ebM, ebN, ebW, ebN, ebW, ebN]
  refine x_aload_n dX12_readPlan_0 rfl ?_
  refine x_aload_n dX12_readPlan_1 rfl ?_
  refine x_gr dX12_readPlan_2 fX12_172 (by first | assumption) (fun _ _ _ => rfl) (by first | assumption) ?_
  refine y_gi dX12_readPlan_5 fX12_337 (by first | assumption) (fun _ _ _ => rfl) ?_
  refine (show X _ _ 8 _ _ _ _ _ _ from ?_)
  refine X.val (hZ.2.2.1.1.1 4 (by decide)) ?_
  refine y_bipush dX12_readPlan_8 rfl ?_
  refine (show X _ _ 10 _ _ _ _ _ _ from ?_)
  refine x_callV (As := [_, _]) (mc := 0) (ms := 0) (z := mX12_begins) (ci := 12) dX12_readPlan_10 lX12_291 oX12_begins (by decide) (by first | assumption) rfl rfl (Nat.le_of_ble_eq_true rfl) (Nat.le_of_ble_eq_true rfl) rfl (z_begins hX hZ hk ⟨by omega, by omega⟩ ⟨by omega, by omega⟩ ⟨by omega, by omega⟩) (fun v M1 hq => ?_)
  obtain ⟨rfl, V1, J1, rfl, hK1, hZ1⟩ := hq
  refine (show X _ _ 13 _ _ _ _ _ _ from ?_)
  obtain ⟨σ0, hσ0⟩ : ∃ s, sBg t e A (A 0 4) 12 i = s := ⟨_, rfl⟩
  rw [hσ0] at hZ1 ⊢
  refine x_aload_n dX12_readPlan_13 rfl ?_
  refine (show X _ _ 14 _ _ _ _ _ _ from ?_)
  refine x_callV (As := []) (mc := 0) (ms := 0) (z := mX12_readPerson) (ci := 12) dX12_readPlan_14 lX12_340 oX12_readPerson (by decide) (by first | assumption) rfl rfl (Nat.le_of_ble_eq_true rfl) (Nat.le_of_ble_eq_true rfl) rfl (z_readPerson hX hZ1) (fun v M1 hq => ?_)
  obtain ⟨rfl, V2, J2, rfl, hK2, hZ2⟩ := hq
  refine (show X _ _ 17 _ _ _ _ _ _ from ?_)
  obtain ⟨σ1, hσ1⟩ : ∃ s, sG t e (sK t e A 0 σ0) = s := ⟨_, rfl⟩
  rw [hσ1] at hZ2 ⊢
  refine x_istore_n dX12_readPlan_17 (by decide) rfl rfl ?_
  refine x_aload_n dX12_readPlan_18 rfl ?_
  refine y_iconst dX12_readPlan_19 ?_
  refine (show X _ _ 20 _ _ _ _ _ _ from ?_)
  refine x_callV (As := [_]) (mc := 0) (ms := 0) (z := mX12_readYear) (ci := 12) dX12_readPlan_20 lX12_312 oX12_readYear (by decide) (by first | assumption) rfl rfl (Nat.le_of_ble_eq_true rfl) (Nat.le_of_ble_eq_true rfl) rfl (z_readYear hX hZ2 ⟨by decide, by decide⟩ ⟨by omega, by omega⟩) (fun v M1 hq => ?_)
  obtain ⟨rfl, V3, J3, rfl, hK3, hZ3⟩ := hq
  refine (show X _ _ 23 _ _ _ _ _ _ from ?_)
  have hfr : R32 (vN t e 0 (A 0 0 - 1) σ1) := vN_b ⟨by decide, by decide⟩
  obtain ⟨σ2, hσ2⟩ : ∃ s, sN t e 0 (A 0 0 - 1) σ1 = s := ⟨_, rfl⟩
  rw [hσ2] at hZ3 ⊢
  refine x_istore_n dX12_readPlan_23 (by decide) rfl rfl ?_
  refine x_aload_n dX12_readPlan_24 rfl ?_
  refine x_ldcsw dX12_readPlan_25 sX12_343 ?_
  refine (show X _ _ 28 _ _ _ _ _ _ from ?_)
  refine x_callV (As := [_]) (mc := 0) (ms := 0) (z := mX12_needs) (ci := 12) dX12_readPlan_28 lX12_164 oX12_needs (by decide) (by first | assumption) rfl rfl (Nat.le_of_ble_eq_true rfl) (Nat.le_of_ble_eq_true rfl) rfl (z_needs hX hZ3 (by decide)) (fun v M1 hq => ?_)
  obtain ⟨rfl, V4, J4, rfl, hK4, hZ4⟩ := hq
  refine (show X _ _ 31 _ _ _ _ _ _ from ?_)
  obtain ⟨σ3, hσ3⟩ : ∃ s, sNd t e 27 σ2 = s := ⟨_, rfl⟩
  rw [hσ3] at hZ4 ⊢
  refine x_aload_n dX12_readPlan_31 rfl ?_
  refine x_iload_n dX12_readPlan_32 rfl ?_
  refine (show X _ _ 33 _ _ _ _ _ _ from ?_)
  refine x_callV (As := [_]) (mc := 0) (ms := 0) (z := mX12_readYear) (ci := 12) dX12_readPlan_33 lX12_312 oX12_readYear (by decide) (by first | assumption) rfl rfl (Nat.le_of_ble_eq_true rfl) (Nat.le_of_ble_eq_true rfl) rfl (z_readYear hX hZ4 hfr ⟨by omega, by omega⟩) (fun v M1 hq => ?_)
  obtain ⟨rfl, V5, J5, rfl, hK5, hZ5⟩ := hq
  refine (show X _ _ 36 _ _ _ _ _ _ from ?_)
  obtain ⟨σ4, hσ4⟩ : ∃ s, sN t e (vN t e 0 (A 0 0 - 1) σ1) (A 0 0 - 1) σ3 = s := ⟨_, rfl⟩
  rw [hσ4] at hZ5 ⊢
  refine x_istore_n dX12_readPlan_36 (by decide) rfl rfl ?_
  refine x_aload_n dX12_readPlan_37 rfl ?_
  refine x_ldcsw dX12_readPlan_38 sX12_345 ?_
  refine y_iconst dX12_readPlan_41 ?_
  refine y_bipush dX12_readPlan_42 rfl ?_
  refine (show X _ _ 44 _ _ _ _ _ _ from ?_)
  refine x_callV (As := [_, _, _]) (mc := 0) (ms := 0) (z := mX12_readPart) (ci := 12) dX12_readPlan_44 lX12_259 oX12_readPart (by decide) (by first | assumption) rfl rfl (Nat.le_of_ble_eq_true rfl) (Nat.le_of_ble_eq_true rfl) rfl (z_readPart hX hZ5 (by decide) ⟨by decide, by decide⟩ ⟨by decide, by decide⟩) (fun v M1 hq => ?_)
  obtain ⟨rfl, V6, J6, rfl, hK6, hZ6⟩ := hq
  refine (show X _ _ 47 _ _ _ _ _ _ from ?_)
  obtain ⟨σ5, hσ5⟩ : ∃ s, sN t e 1 99 (sNd t e 11 σ4) = s := ⟨_, rfl⟩
  rw [hσ5] at hZ6 ⊢
  have hK : KS V V6 J J6 r := KS_t hK1 (KS_t hK2 (KS_t hK3 (KS_t hK4 (KS_t hK5 hK6))))
  clear hK1 hK2 hK3 hK4 hK5 hK6 hZ1 hZ2 hZ3 hZ4 hZ5 hZ
  generalize vK t e A 0 σ0 = xp at *
  generalize vN t e (vN t e 0 (A 0 0 - 1) σ1) (A 0 0 - 1) σ3 = xb at *
  generalize vN t e 0 (A 0 0 - 1) σ1 = xa at *
  generalize vN t e 1 99 (sNd t e 11 σ4) = xh at *
  cases σ5 with
  | inl c =>
    refine x_istore dX12_readPlan_47 (by decide) rfl rfl ?_
    refine x_aload_n dX12_readPlan_49 rfl ?_
    refine y_gi dX12_readPlan_50 fX12_113 (by first | assumption) (fun _ _ _ => rfl) ?_
    refine (show X _ _ 53 _ _ _ _ _ _ from ?_)
    refine X.val (b := 5) hZ6.2.2.2.1 ?_
    refine y_iconst dX12_readPlan_53 ?_
    refine (show X _ _ 54 _ _ _ _ _ _ from ?_)
    refine y_icmp_ne 58 dX12_readPlan_54 (by decide) ⟨by omega, by omega⟩ ⟨by omega, by omega⟩ (fun h => ?_) (fun h => ?_)
    · omega
    exact x_return dX12_readPlan_57 rfl ⟨rfl, V6, J6, rfl, KL_S hK, hZ6⟩
  | inr i6 =>
    obtain ⟨z1, z2, z3, z4, z5⟩ := id hZ6
    have hsr := srt_r (tkK_b t e i6)
    have h12 : A 0 4 < 12 := by
      have : ∃ j, σ0 = .inr j := by
        obtain ⟨-, -, j4, hj⟩ := vN_v hσ5
        obtain ⟨j4, hj⟩ := sNd_v hj
        rw [hj] at hσ4
        obtain ⟨-, -, j3, hj⟩ := vN_v hσ4
        rw [hj] at hσ3
        obtain ⟨j2, hj⟩ := sNd_v hσ3
        rw [hj] at hσ2
        obtain ⟨-, -, j1, hj⟩ := vN_v hσ2
        rw [hj] at hσ1
        obtain ⟨j0, hj, -⟩ := sG_v hσ1
        exact ⟨j0, (sK_v hj).1⟩
      obtain ⟨j, hj⟩ := this
      rw [hj] at hσ0
      unfold sBg at hσ0
      split at hσ0
      · cases hσ0
      · omega
    have f4 : V6 f 4 = A 0 4 := z3.1.1 4 (by decide)
    obtain ⟨N, hN⟩ : ∃ N : Nat, A 0 4 = (N : Int) := ⟨(A 0 4).toNat, by omega⟩
    rw [hN] at f4
    have hNt : (A 0 4).toNat = N := by omega
    refine x_istore dX12_readPlan_47 (by decide) rfl rfl ?_
    refine x_aload_n dX12_readPlan_49 rfl ?_
    refine y_gi dX12_readPlan_50 fX12_113 (by first | assumption) (fun _ _ _ => rfl) ?_
    refine (show X _ _ 53 _ _ _ _ _ _ from ?_)
    refine X.val z4.2.2.1 ?_
    refine y_iconst dX12_readPlan_53 ?_
    refine (show X _ _ 54 _ _ _ _ _ _ from ?_)
    refine y_icmp_ne 58 dX12_readPlan_54 (by decide) ⟨by omega, by omega⟩ ⟨by omega, by omega⟩ (fun h => ?_) (fun h => ?_)
    rotate_left
    · omega
    refine x_aload_n dX12_readPlan_58 rfl ?_
    refine x_gr dX12_readPlan_59 fX12_172 (by first | assumption) (fun _ _ _ => rfl) (by first | assumption) ?_
    refine x_gr dX12_readPlan_62 fX12_347 (by first | assumption) (fun _ _ _ => rfl) (by first | assumption) ?_
    refine x_aload_n dX12_readPlan_65 rfl ?_
    refine x_gr dX12_readPlan_66 fX12_172 (by first | assumption) (fun _ _ _ => rfl) (by first | assumption) ?_
    refine y_gi dX12_readPlan_69 fX12_337 (by first | assumption) (fun _ _ _ => rfl) ?_
    refine (show X _ _ 72 _ _ _ _ _ _ from ?_)
    refine X.val f4 ?_
    refine x_iload_n dX12_readPlan_72 rfl ?_
    refine y_iast (N) dX12_readPlan_73 (by first | assumption) (by first | rfl | omega) (by omega) (by decide) ?_
    refine x_aload_n dX12_readPlan_74 rfl ?_
    refine x_gr dX12_readPlan_75 fX12_172 (by first | assumption) (fun _ _ _ => rfl) (by first | assumption) ?_
    refine x_gr dX12_readPlan_78 fX12_350 (by first | assumption) (fun _ _ _ => rfl) (by first | assumption) ?_
    refine x_aload_n dX12_readPlan_81 rfl ?_
    refine x_gr dX12_readPlan_82 fX12_172 (by first | assumption) (fun _ _ _ => rfl) (by first | assumption) ?_
    refine y_gi dX12_readPlan_85 fX12_337 (by first | assumption) (fun _ _ _ => rfl) ?_
    refine (show X _ _ 88 _ _ _ _ _ _ from ?_)
    refine X.val (b := (N : Int)) (by rw [u2_n (by omega)]; exact f4) ?_
    refine x_iload_n dX12_readPlan_88 rfl ?_
    refine y_iast (N) dX12_readPlan_89 (by first | assumption) (by first | rfl | omega) (by omega) (by decide) ?_
    refine x_aload_n dX12_readPlan_90 rfl ?_
    refine x_gr dX12_readPlan_91 fX12_172 (by first | assumption) (fun _ _ _ => rfl) (by first | assumption) ?_
    refine x_gr dX12_readPlan_94 fX12_353 (by first | assumption) (fun _ _ _ => rfl) (by first | assumption) ?_
    refine x_aload_n dX12_readPlan_97 rfl ?_
    refine x_gr dX12_readPlan_98 fX12_172 (by first | assumption) (fun _ _ _ => rfl) (by first | assumption) ?_
    refine y_gi dX12_readPlan_101 fX12_337 (by first | assumption) (fun _ _ _ => rfl) ?_
    refine (show X _ _ 104 _ _ _ _ _ _ from ?_)
    refine X.val (b := (N : Int)) (by rw [u2_n (by omega), u2_n (by omega)]; exact f4) ?_
    refine x_iload_n dX12_readPlan_104 rfl ?_
    refine y_iast (N) dX12_readPlan_105 (by first | assumption) (by first | rfl | omega) (by omega) (by decide) ?_
    refine x_aload_n dX12_readPlan_106 rfl ?_
    refine x_gr dX12_readPlan_107 fX12_172 (by first | assumption) (fun _ _ _ => rfl) (by first | assumption) ?_
    refine x_gr dX12_readPlan_110 fX12_356 (by first | assumption) (fun _ _ _ => rfl) (by first | assumption) ?_
    refine x_aload_n dX12_readPlan_113 rfl ?_
    refine x_gr dX12_readPlan_114 fX12_172 (by first | assumption) (fun _ _ _ => rfl) (by first | assumption) ?_
    refine y_gi dX12_readPlan_117 fX12_337 (by first | assumption) (fun _ _ _ => rfl) ?_
    refine (show X _ _ 120 _ _ _ _ _ _ from ?_)
    refine X.val (b := (N : Int)) (by rw [u2_n (by omega), u2_n (by omega), u2_n (by omega)]; exact f4) ?_
    refine x_iload dX12_readPlan_120 rfl ?_
    refine y_iast (N) dX12_readPlan_122 (by first | assumption) (by first | rfl | omega) (by omega) (by decide) ?_
    refine x_aload_n dX12_readPlan_123 rfl ?_
    refine x_gr dX12_readPlan_124 fX12_172 (by first | assumption) (fun _ _ _ => rfl) (by first | assumption) ?_
    refine x_dup dX12_readPlan_127 rfl ?_
    refine y_gi dX12_readPlan_128 fX12_337 (by first | assumption) (fun _ _ _ => rfl) ?_
    refine (show X _ _ 131 _ _ _ _ _ _ from ?_)
    refine X.val (b := (N : Int)) (by rw [u2_n (by omega), u2_n (by omega), u2_n (by omega), u2_n (by omega)]; exact f4) ?_
    refine y_iconst dX12_readPlan_131 ?_
    refine y_iadd dX12_readPlan_132 ?_
    refine y_pi dX12_readPlan_133 (pX12_337 _) (by first | assumption) (fun _ _ _ => rfl) rfl rfl ?_
    refine (show X _ _ 136 _ _ _ _ _ _ from ?_)
    refine x_return dX12_readPlan_136 rfl ⟨rfl, _, J6, rfl, ⟨fun b h1 h2 => ?_, fun c hc => ?_, fun b h1 _ => hK.2.2 b h1⟩, ?_, ?_, ?_, TK_f z4 ?_ rfl, ?_⟩
    · rw [u2_n (by omega), u2_n (by omega), u2_n (by omega), u2_n (by omega), u2_n (by omega)]; exact hK.1 b h1
    · rw [u2_n (by omega), u2_n (by omega), u2_n (by omega), u2_n (by omega), u2_n (by omega)]; exact hK.2.1 c hc
    · rw [u2_n (by omega), u2_n (by omega), u2_n (by omega), u2_n (by omega), u2_n (by omega)]; exact z1
    · rw [u2_n (by omega), u2_n (by omega), u2_n (by omega), u2_n (by omega), u2_n (by omega)]; exact z2
    · have eA : aPlan A xp xa xb xh = u2 (u2 (u2 (u2 (u2 A 8 N xp) 9 N xa) 10 N xb) 11 N xh) 0 4 ((N : Int) + 1) := by unfold aPlan; rw [hNt, hN]
      have e0 : ∀ c, c ≠ 4 → aPlan A xp xa xb xh 0 c = A 0 c := fun c hc => by rw [eA, u2_s, u1_n hc, u2_n (by decide), u2_n (by decide), u2_n (by decide), u2_n (by decide)]
      have e4 : aPlan A xp xa xb xh 0 4 = (N : Int) + 1 := by rw [eA, u2_s, u1_s]
      show MF _ _ f (aPlan A xp xa xb xh)
      refine MF_up z3 (fun j hj => ?_) ?_ (fun ρ r1 r2 => ?_) (Or.inl ?_)
      · by_cases hj2 : j = 4
        · subst hj2; rw [e4, u2_s, u1_s]
        · rw [e0 j hj2, u2_s, u1_n hj2, u2_n (by omega), u2_n (by omega), u2_n (by omega), u2_n (by omega)]; exact z3.1.1 j hj
      · rw [e0 9 (by decide), u2_s, u1_n (by decide), u2_n (by omega), u2_n (by omega), u2_n (by omega), u2_n (by omega)]; exact ⟨z3.2.1, z3.2.2.1⟩
      · have cA : ctR A 8 = N ∧ ctR A 9 = N ∧ ctR A 10 = N ∧ ctR A 11 = N := ⟨hNt, hNt, hNt, hNt⟩
        have cA' : fPl (aPlan A xp xa xb xh) = N + 1 := by show (aPlan A xp xa xb xh 0 4).toNat = _; rw [e4]; omega
        rcases (by omega : ρ = 8 ∨ ρ = 9 ∨ ρ = 10 ∨ ρ = 11 ∨ (ρ < 8 ∨ 12 ≤ ρ)) with rfl | rfl | rfl | rfl | h8
        · exact Or.inr (Or.inl ⟨by rw [cA.1]; exact cA', xp, by rw [cA.1]; simp (discharger := omega) only [u2_s, u2_n]; rfl, by rw [cA.1, eA]; simp (discharger := omega) only [u2_s, u2_n]⟩)
        · exact Or.inr (Or.inl ⟨by rw [cA.2.1]; exact cA', xa, by rw [cA.2.1]; simp (discharger := omega) only [u2_s, u2_n]; rfl, by rw [cA.2.1, eA]; simp (discharger := omega) only [u2_s, u2_n]⟩)
        · exact Or.inr (Or.inl ⟨by rw [cA.2.2.1]; exact cA', xb, by rw [cA.2.2.1]; simp (discharger := omega) only [u2_s, u2_n]; rfl, by rw [cA.2.2.1, eA]; simp (discharger := omega) only [u2_s, u2_n]⟩)
        · exact Or.inr (Or.inl ⟨by rw [cA.2.2.2]; exact cA', xh, by rw [cA.2.2.2]; simp (discharger := omega) only [u2_s, u2_n]; rfl, by rw [cA.2.2.2, eA]; simp (discharger := omega) only [u2_s, u2_n]⟩)
        · refine Or.inl ⟨?_, ?_, ?_⟩
          · unfold ctR fP fPl fBu fSe fDi
            rw [e0 3 (by decide), e0 5 (by decide), e0 6 (by decide), e0 8 (by decide)]
            by_cases h7 : ρ ≤ 7
            · rw [if_pos h7, if_pos h7]
            · rw [if_neg h7, if_neg h7, if_neg (show ¬ ρ ≤ 11 by omega), if_neg (show ¬ ρ ≤ 11 by omega)]
          · simp (discharger := omega) only [u2_n]
          · rw [eA]; simp (discharger := omega) only [u2_n]
      · refine ⟨e0 9 (by decide), rfl, ⟨?_, ?_⟩, ?_, ?_, ?_⟩
        · simp (discharger := omega) only [u2_n]
        · simp (discharger := omega) only [u2_n]
        · rw [eA]; simp (discharger := omega) only [u2_n]
        · rw [eA]; simp (discharger := omega) only [u2_n]
        · rw [eA]; simp (discharger := omega) only [u2_n]
    · rw [u2_n (by omega), u2_n (by omega), u2_n (by omega), u2_n (by omega), u2_n (by omega)]
    · rw [u2_n (by omega), u2_n (by omega), u2_n (by omega), u2_n (by omega), u2_n (by omega)]; exact z5
end C9q
