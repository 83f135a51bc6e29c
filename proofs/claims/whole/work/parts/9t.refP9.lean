/-! ===== the reference's reader: what is hidden, the family's line ===== -/
theorem ebC {t : Nat → Int} {e : Nat} {σ : SG} {x : Nat → Int} {k : Int → Nat → PR} (v : SG → Int) (hv : ∀ i, v (.inr i) = x i) : pbS σ (fun i => eC t e i (x i) fun y i => k y i) = pbS (sC t e (v σ) σ) (fun i => k (v σ) i) := by
  cases σ with
  | inl c => rfl
  | inr i =>
    rw [hv i]
    by_cases h : 0 ≤ x i
    · rw [sC_p h]; exact if_pos (decide_eq_true h)
    · rw [sC_n h]; exact if_neg (by rw [decide_eq_false h]; decide)
section C9t
variable {g : GG} {T : Nat → Nat × Nat} {V A : Nat → Nat → Int} {R : Nat → Nat → Option Nat} {J : Nat → Nat → Int64} {z k n : Nat} {r f e i : Nat} {t : Nat → Int}
theorem z_readHides (hX : MX T R r f t e) (hV : VP A) (hZ : MZ t V J A r f e (.inr i)) (hk : tkK t e i = 1) : X g mX12_readHides 0 [.ref r, jk, jk, jk] [] (T, iV V, R, J, z) k n (LQ T R J z t V A r f e (pbS (sBg t e A (A 0 7) 8 i) (fun i => pHide t e A i))) := by
  obtain ⟨hM, hG, hrf, hap, hb, he⟩ := id hX
  obtain ⟨⟨y1, y2⟩, -, -, ⟨p1, p2⟩, -, -, ⟨s1, s2⟩, ⟨d1, d2⟩, -, -, -, -, -, h17, -⟩ := id hV.1
  obtain ⟨m0, -, -⟩ := id hM
  obtain ⟨g0, ⟨-, -, -, -, -, -, -, -, -, -, -, -, -, -, -, -, g26, -, -, -, -, -, -⟩, ⟨-, -, -, -, -, -, -, -, -, -, -, -, -, -, -, -, gk17, -, -, -, -, -, -⟩⟩ := id hG
  unfold pHide
  rw [ebM, ebM, ebM2]
  refine x_aload_n dX12_readHides_0 rfl ?_
  refine x_aload_n dX12_readHides_1 rfl ?_
  refine x_gr dX12_readHides_2 fX12_172 (by first | assumption) (fun _ _ _ => rfl) (by first | assumption) ?_
  refine y_gi dX12_readHides_5 fX12_381 (by first | assumption) (fun _ _ _ => rfl) ?_
  refine (show X _ _ 8 _ _ _ _ _ _ from ?_)
  refine X.val (hZ.2.2.1.1.1 7 (by decide)) ?_
  refine y_bipush dX12_readHides_8 rfl ?_
  refine (show X _ _ 10 _ _ _ _ _ _ from ?_)
  refine x_callV (As := [_, _]) (mc := 0) (ms := 0) (z := mX12_begins) (ci := 12) dX12_readHides_10 lX12_291 oX12_begins (by decide) (by first | assumption) rfl rfl (Nat.le_of_ble_eq_true rfl) (Nat.le_of_ble_eq_true rfl) rfl (z_begins hX hZ hk ⟨by omega, by omega⟩ ⟨by omega, by omega⟩ ⟨by omega, by omega⟩) (fun v M1 hq => ?_)
  obtain ⟨rfl, V1, J1, rfl, hK1, hZ1⟩ := hq
  refine (show X _ _ 13 _ _ _ _ _ _ from ?_)
  obtain ⟨σ0, hσ0⟩ : ∃ s, sBg t e A (A 0 7) 8 i = s := ⟨_, rfl⟩
  rw [hσ0] at hZ1 ⊢
  refine x_aload_n dX12_readHides_13 rfl ?_
  refine (show X _ _ 14 _ _ _ _ _ _ from ?_)
  refine x_callV (As := []) (mc := 0) (ms := 0) (z := mX12_readPerson) (ci := 12) dX12_readHides_14 lX12_340 oX12_readPerson (by decide) (by first | assumption) rfl rfl (Nat.le_of_ble_eq_true rfl) (Nat.le_of_ble_eq_true rfl) rfl (z_readPerson hX hZ1) (fun v M1 hq => ?_)
  obtain ⟨rfl, V2, J2, rfl, hK2, hZ2⟩ := hq
  refine (show X _ _ 17 _ _ _ _ _ _ from ?_)
  obtain ⟨σ1, hσ1⟩ : ∃ s, sG t e (sK t e A 0 σ0) = s := ⟨_, rfl⟩
  rw [hσ1] at hZ2 ⊢
  refine x_istore_n dX12_readHides_17 (by decide) rfl rfl ?_
  refine x_aload_n dX12_readHides_18 rfl ?_
  refine y_iconst dX12_readHides_19 ?_
  refine (show X _ _ 20 _ _ _ _ _ _ from ?_)
  refine x_callV (As := [_]) (mc := 0) (ms := 0) (z := mX12_known) (ci := 12) dX12_readHides_20 lX12_220 oX12_known (by decide) (by first | assumption) rfl rfl (Nat.le_of_ble_eq_true rfl) (Nat.le_of_ble_eq_true rfl) rfl (z_known ⟨by decide, by decide⟩ hX hZ2) (fun v M1 hq => ?_)
  obtain ⟨rfl, V3, J3, rfl, hK3, hZ3⟩ := hq
  refine (show X _ _ 23 _ _ _ _ _ _ from ?_)
  refine x_istore_n dX12_readHides_23 (by decide) rfl rfl ?_
  refine x_aload_n dX12_readHides_24 rfl ?_
  refine (show X _ _ 25 _ _ _ _ _ _ from ?_)
  refine x_callV (As := []) (mc := 0) (ms := 0) (z := mX12_goesOn) (ci := 12) dX12_readHides_25 lX12_149 oX12_goesOn (by decide) (by first | assumption) rfl rfl (Nat.le_of_ble_eq_true rfl) (Nat.le_of_ble_eq_true rfl) rfl (z_goes hX hZ3 sK_k) (fun v M1 hq => ?_)
  obtain ⟨rfl, V4, J4, rfl, hK4, hZ4⟩ := hq
  refine (show X _ _ 28 _ _ _ _ _ _ from ?_)
  obtain ⟨σ2, hσ2⟩ : ∃ s, sG t e (sK t e A 1 σ1) = s := ⟨_, rfl⟩
  rw [hσ2] at hZ4 ⊢
  refine x_aload_n dX12_readHides_28 rfl ?_
  refine y_iconst dX12_readHides_29 ?_
  refine (show X _ _ 30 _ _ _ _ _ _ from ?_)
  refine x_callV (As := [_]) (mc := 0) (ms := 0) (z := mX12_known) (ci := 12) dX12_readHides_30 lX12_220 oX12_known (by decide) (by first | assumption) rfl rfl (Nat.le_of_ble_eq_true rfl) (Nat.le_of_ble_eq_true rfl) rfl (z_known ⟨by decide, by decide⟩ hX hZ4) (fun v M1 hq => ?_)
  obtain ⟨rfl, V5, J5, rfl, hK5, hZ5⟩ := hq
  refine (show X _ _ 33 _ _ _ _ _ _ from ?_)
  have hK : KS V V5 J J5 r := KS_t hK1 (KS_t hK2 (KS_t hK3 (KS_t hK4 hK5)))
  clear hK1 hK2 hK3 hK4 hK5 hZ1 hZ2 hZ3 hZ4 hZ
  have alive : ∀ j, sK t e A 0 σ2 = .inr j → (0 ≤ vK t e A 0 σ0 ∧ vK t e A 0 σ0 < A 0 3) ∧ (0 ≤ vK t e A 1 σ1 ∧ vK t e A 1 σ1 < A 0 6) ∧ (0 ≤ vK t e A 0 σ2 ∧ vK t e A 0 σ2 < A 0 3) ∧ A 0 7 < 8 := fun j hj => by
    obtain ⟨q1, q2, q3⟩ := sK_v hj
    rw [q1] at hσ2
    obtain ⟨j1, hj1, -⟩ := sG_v hσ2
    obtain ⟨r1, r2, r3⟩ := sK_v hj1
    rw [r1] at hσ1
    obtain ⟨j0, hj0, -⟩ := sG_v hσ1
    obtain ⟨t1, t2, t3⟩ := sK_v hj0
    rw [t1] at hσ0
    rw [q3, r3, t3]
    refine ⟨nm_b0 hV t2, nm_b1 hV r2, nm_b0 hV q2, ?_⟩
    unfold sBg at hσ0
    split at hσ0
    · cases hσ0
    · omega
  obtain ⟨w1, w2⟩ : R32 (vK t e A 0 σ0) := vK_b hV
  obtain ⟨w3, w4⟩ : R32 (vK t e A 0 σ2) := vK_b hV
  have hk4 : ∀ i, (if vK t e A 0 σ2 = vK t e A 0 σ0 ∨ (A 17 (vK t e A 0 σ0 * 8 + vK t e A 1 σ1).toNat).toNat.testBit (vK t e A 0 σ2).toNat = true then sF t e 3 (sK t e A 0 σ2) else sK t e A 0 σ2) = .inr i → tkK t e i ≠ 4 := sX_k
  generalize vK t e A 0 σ0 = xp at *
  generalize vK t e A 1 σ1 = xs at *
  generalize vK t e A 0 σ2 = xq at *
  generalize sK t e A 0 σ2 = σ3 at *
  clear hσ0 hσ1 hσ2
  have tl : ∀ V6 J6, KS V5 V6 J5 J6 r → MZ t V6 J6 A r f e (if xq = xp ∨ (A 17 (xp * 8 + xs).toNat).toNat.testBit xq.toNat = true then sF t e 3 σ3 else σ3) → X g mX12_readHides 73 [.ref r, .int (iI xp), .int (iI xs), .int (iI xq)] [] (T, iV V6, R, J6, z) k n (LQ T R J z t V A r f e (pbS (sG t e (if xq = xp ∨ (A 17 (xp * 8 + xs).toNat).toNat.testBit xq.toNat = true then sF t e 3 σ3 else σ3)) (fun i => .inr (aHide A xp xs xq, i)))) := by
    intro V6 J6 hK6 hZ6
    refine x_aload_n dX12_readHides_73 rfl ?_
    refine (show X _ _ 74 _ _ _ _ _ _ from ?_)
    refine x_callV (As := []) (mc := 0) (ms := 0) (z := mX12_goesOn) (ci := 12) dX12_readHides_74 lX12_149 oX12_goesOn (by decide) (by first | assumption) rfl rfl (Nat.le_of_ble_eq_true rfl) (Nat.le_of_ble_eq_true rfl) rfl (z_goes hX hZ6 hk4) (fun v M1 hq => ?_)
    obtain ⟨rfl, Vz, Jz, rfl, hK7, hZz⟩ := hq
    refine (show X _ _ 77 _ _ _ _ _ _ from ?_)
    have hK : KS V Vz J Jz r := KS_t hK (KS_t hK6 hK7)
    have al2 : ∀ j, sG t e (if xq = xp ∨ (A 17 (xp * 8 + xs).toNat).toNat.testBit xq.toNat = true then sF t e 3 σ3 else σ3) = .inr j → ∃ j', σ3 = .inr j' := fun j h => by
      obtain ⟨j', hj, -⟩ := sG_v h
      split at hj
      · cases σ3 with
        | inl c => cases hj
        | inr q => exact ⟨q, rfl⟩
      · exact ⟨j', hj⟩
    generalize sG t e (if xq = xp ∨ (A 17 (xp * 8 + xs).toNat).toNat.testBit xq.toNat = true then sF t e 3 σ3 else σ3) = σ4 at *
    cases σ4 with
    | inl c =>
      refine x_aload_n dX12_readHides_77 rfl ?_
      refine y_gi dX12_readHides_78 fX12_113 (by first | assumption) (fun _ _ _ => rfl) ?_
      refine (show X _ _ 81 _ _ _ _ _ _ from ?_)
      refine X.val (b := 5) hZz.2.2.2.1 ?_
      refine y_iconst dX12_readHides_81 ?_
      refine (show X _ _ 82 _ _ _ _ _ _ from ?_)
      refine y_icmp_ne 86 dX12_readHides_82 (by decide) ⟨by omega, by omega⟩ ⟨by omega, by omega⟩ (fun h => ?_) (fun h => ?_)
      · omega
      exact x_return dX12_readHides_85 rfl ⟨rfl, Vz, Jz, rfl, KL_S hK, hZz⟩
    | inr i6 =>
      obtain ⟨z1, z2, z3, z4, z5⟩ := id hZz
      have hsr := srt_r (tkK_b t e i6)
      obtain ⟨j', hj'⟩ := al2 i6 rfl
      obtain ⟨b1, b2, b3, b4⟩ := alive j' hj'
      have f7 : Vz f 7 = A 0 7 := z3.1.1 7 (by decide)
      obtain ⟨Q, hQ⟩ : ∃ Q : Nat, xq = (Q : Int) := ⟨xq.toNat, by omega⟩
      obtain ⟨q, hq⟩ : ∃ q, (xp * 8 + xs).toNat = q := ⟨_, rfl⟩
      obtain ⟨mm, hmm⟩ : ∃ mm : Nat, A 17 q = (mm : Int) := ⟨(A 17 q).toNat, by have := h17 q (by omega); omega⟩
      have f17 : Vz (f + 17) q = (mm : Int) := by rw [← hmm]; exact z3.1.2.2.2.2.2.1 q (by omega)
      subst hQ
      refine x_aload_n dX12_readHides_77 rfl ?_
      refine y_gi dX12_readHides_78 fX12_113 (by first | assumption) (fun _ _ _ => rfl) ?_
      refine (show X _ _ 81 _ _ _ _ _ _ from ?_)
      refine X.val z4.2.2.1 ?_
      refine y_iconst dX12_readHides_81 ?_
      refine (show X _ _ 82 _ _ _ _ _ _ from ?_)
      refine y_icmp_ne 86 dX12_readHides_82 (by decide) ⟨by omega, by omega⟩ ⟨by omega, by omega⟩ (fun h => ?_) (fun h => ?_)
      rotate_left
      · omega
      refine x_aload_n dX12_readHides_86 rfl ?_
      refine x_gr dX12_readHides_87 fX12_172 (by first | assumption) (fun _ _ _ => rfl) (by first | assumption) ?_
      refine x_gr dX12_readHides_90 fX12_383 (by first | assumption) (fun _ _ _ => rfl) (by first | assumption) ?_
      refine y_bipush dX12_readHides_93 rfl ?_
      refine x_iload_n dX12_readHides_95 rfl ?_
      refine y_imul dX12_readHides_96 ?_
      refine x_iload_n dX12_readHides_97 rfl ?_
      refine y_iadd dX12_readHides_98 ?_
      refine (show X _ _ 99 _ _ _ _ _ _ from ?_)
      refine x_dup2 dX12_readHides_99 rfl rfl ?_
      refine y_iald (q) dX12_readHides_100 (by first | assumption) (by first | rfl | omega) (by omega) (by decide) ?_
      refine (show X _ _ 101 _ _ _ _ _ _ from ?_)
      refine X.val f17 ?_
      refine y_iconst dX12_readHides_101 ?_
      refine x_iload_n dX12_readHides_102 rfl ?_
      refine y_ishl (Q) dX12_readHides_103 (by first | rfl | omega) (by omega) ?_
      refine y_ior dX12_readHides_104 ?_
      refine y_iast (q) dX12_readHides_105 (by first | assumption) (by first | rfl | omega) (by omega) (by decide) ?_
      refine x_aload_n dX12_readHides_106 rfl ?_
      refine x_gr dX12_readHides_107 fX12_172 (by first | assumption) (fun _ _ _ => rfl) (by first | assumption) ?_
      refine x_dup dX12_readHides_110 rfl ?_
      refine (show X _ _ 111 _ _ _ _ _ _ from ?_)
      refine y_gi dX12_readHides_111 fX12_381 (by first | assumption) (fun _ _ _ => rfl) ?_
      refine (show X _ _ 114 _ _ _ _ _ _ from ?_)
      refine X.val (b := A 0 7) (by rw [u2_n (by omega)]; exact f7) ?_
      refine y_iconst dX12_readHides_114 ?_
      refine y_iadd dX12_readHides_115 ?_
      refine y_pi dX12_readHides_116 (pX12_381 _) (by first | assumption) (fun _ _ _ => rfl) rfl rfl ?_
      refine (show X _ _ 119 _ _ _ _ _ _ from ?_)
      refine x_return dX12_readHides_119 rfl ⟨rfl, _, Jz, rfl, ⟨fun b h1 h2 => ?_, fun c hc => ?_, fun b h1 _ => hK.2.2 b h1⟩, ?_, ?_, ?_, TK_f z4 ?_ rfl, ?_⟩
      · rw [u2_n (by omega), u2_n (by omega)]; exact hK.1 b h1
      · rw [u2_n (by omega), u2_n (by omega)]; exact hK.2.1 c hc
      · rw [u2_n (by omega), u2_n (by omega)]; exact z1
      · rw [u2_n (by omega), u2_n (by omega)]; exact z2
      · have eA : aHide A xp xs (Q : Int) = u2 (u2 A 17 q ((mm ||| 2 ^ Q : Nat) : Int)) 0 7 (A 0 7 + 1) := by unfold aHide; rw [hq, hmm, Int.toNat_natCast, Int.toNat_natCast]
        have e0 : ∀ c, c ≠ 7 → aHide A xp xs (Q : Int) 0 c = A 0 c := fun c hc => by rw [eA, u2_s, u1_n hc, u2_n (by decide)]
        have e7 : aHide A xp xs (Q : Int) 0 7 = A 0 7 + 1 := by rw [eA, u2_s, u1_s]
        show MF _ _ f (aHide A xp xs (Q : Int))
        refine MF_up z3 (fun j hj => ?_) ?_ (fun ρ r1 r2 => ?_) (Or.inl ?_)
        · by_cases hj2 : j = 7
          · subst hj2; rw [e7, u2_s, u1_s]
          · rw [e0 j hj2, u2_s, u1_n hj2, u2_n (by omega)]; exact z3.1.1 j hj
        · rw [e0 9 (by decide), u2_s, u1_n (by decide), u2_n (by omega)]; exact ⟨z3.2.1, z3.2.2.1⟩
        · have hc : ctR (aHide A xp xs (Q : Int)) ρ = ctR A ρ := by
            unfold ctR fP fPl fBu fSe fDi
            rw [e0 3 (by decide), e0 4 (by decide), e0 5 (by decide), e0 6 (by decide), e0 8 (by decide)]
          by_cases h7 : ρ = 17
          · subst h7
            exact Or.inr (Or.inr ⟨hc, by decide, q, ((mm ||| 2 ^ Q : Nat) : Int), by rw [u2_n (by omega), u2_s], by rw [eA, u2_n (by decide), u2_s]⟩)
          · exact Or.inl ⟨hc, by rw [u2_n (by omega), u2_n (by omega)], by rw [eA, u2_n (by omega), u2_n h7]⟩
        · refine ⟨e0 9 (by decide), rfl, ⟨?_, ?_⟩, ?_, ?_, ?_⟩
          · rw [u2_n (by omega), u2_n (by omega)]
          · rw [u2_n (by omega), u2_n (by omega)]
          · rw [eA, u2_n (by omega), u2_n (by omega)]
          · rw [eA, u2_n (by omega), u2_n (by omega)]
          · rw [eA, u2_n (by omega), u2_n (by omega)]
      · rw [u2_n (by omega), u2_n (by omega)]
      · rw [u2_n (by omega), u2_n (by omega)]; exact z5
  obtain ⟨z1, z2, z3, z4⟩ := id hZ5
  refine x_istore_n dX12_readHides_33 (by decide) rfl rfl ?_
  refine x_aload_n dX12_readHides_34 rfl ?_
  refine y_gi dX12_readHides_35 fX12_113 (by first | assumption) (fun _ _ _ => rfl) ?_
  refine (show X _ _ 38 _ _ _ _ _ _ from ?_)
  cases σ3 with
  | inl c =>
    refine X.val (b := 5) z4.1 ?_
    refine y_iconst dX12_readHides_38 ?_
    refine (show X _ _ 39 _ _ _ _ _ _ from ?_)
    refine y_icmp_eq 73 dX12_readHides_39 (by decide) ⟨by omega, by omega⟩ ⟨by omega, by omega⟩ (fun h => ?_) (fun h => ?_)
    · exact tl V5 J5 KS_r (by rw [show (if xq = xp ∨ (A 17 (xp * 8 + xs).toNat).toNat.testBit xq.toNat = true then sF t e 3 (.inl c) else .inl c) = (.inl c : SG) from by split <;> rfl]; exact hZ5)
    · omega
  | inr j =>
    obtain ⟨b1, b2, b3, b4⟩ := alive j rfl
    have hsr := srt_r (tkK_b t e j)
    have fl : ∀ (hc : xq = xp ∨ (A 17 (xp * 8 + xs).toNat).toNat.testBit xq.toNat = true), X g mX12_readHides 68 [.ref r, .int (iI xp), .int (iI xs), .int (iI xq)] [] (T, iV V5, R, J5, z) k n (LQ T R J z t V A r f e (pbS (sG t e (if xq = xp ∨ (A 17 (xp * 8 + xs).toNat).toNat.testBit xq.toNat = true then sF t e 3 (.inr j) else .inr j)) (fun i => .inr (aHide A xp xs xq, i)))) := fun hc => by
      refine x_aload_n dX12_readHides_68 rfl ?_
      refine y_iconst dX12_readHides_69 ?_
      refine (show X _ _ 70 _ _ _ _ _ _ from ?_)
      refine x_callV (As := [_]) (mc := 0) (ms := 0) (z := mX12_flaw) (ci := 12) dX12_readHides_70 lX12_156 oX12_flaw (by decide) (by first | assumption) rfl rfl (Nat.le_of_ble_eq_true rfl) (Nat.le_of_ble_eq_true rfl) rfl (z_flaw hX hZ5) (fun v M1 hq => ?_)
      obtain ⟨rfl, V6, J6, rfl, hK6, hZ6⟩ := hq
      refine (show X _ _ 73 _ _ _ _ _ _ from ?_)
      exact tl V6 J6 hK6 (by rw [if_pos hc]; exact hZ6)
    refine X.val z4.1.2.2.1 ?_
    refine y_iconst dX12_readHides_38 ?_
    refine (show X _ _ 39 _ _ _ _ _ _ from ?_)
    refine y_icmp_eq 73 dX12_readHides_39 (by decide) ⟨by omega, by omega⟩ ⟨by omega, by omega⟩ (fun h => ?_) (fun h => ?_)
    · omega
    refine x_iload_n dX12_readHides_42 rfl ?_
    refine x_iload_n dX12_readHides_43 rfl ?_
    refine (show X _ _ 44 _ _ _ _ _ _ from ?_)
    refine y_icmp_eq 68 dX12_readHides_44 (by decide) ⟨by omega, by omega⟩ ⟨by omega, by omega⟩ (fun h2 => ?_) (fun h2 => ?_)
    · exact fl (Or.inl h2.symm)
    obtain ⟨Q, hQ⟩ : ∃ Q : Nat, xq = (Q : Int) := ⟨xq.toNat, by omega⟩
    obtain ⟨q, hq⟩ : ∃ q, (xp * 8 + xs).toNat = q := ⟨_, rfl⟩
    have hb17 := h17 q (by omega)
    obtain ⟨mm, hmm⟩ : ∃ mm : Nat, A 17 q = (mm : Int) := ⟨(A 17 q).toNat, by omega⟩
    have f17 : V5 (f + 17) q = (mm : Int) := by rw [← hmm]; exact z3.1.2.2.2.2.2.1 q (by omega)
    have et : (A 17 (xp * 8 + xs).toNat).toNat.testBit xq.toNat = mm.testBit Q := by rw [hq, hmm, hQ, Int.toNat_natCast, Int.toNat_natCast]
    refine x_aload_n dX12_readHides_47 rfl ?_
    refine x_gr dX12_readHides_48 fX12_172 (by first | assumption) (fun _ _ _ => rfl) (by first | assumption) ?_
    refine x_gr dX12_readHides_51 fX12_383 (by first | assumption) (fun _ _ _ => rfl) (by first | assumption) ?_
    refine y_bipush dX12_readHides_54 rfl ?_
    refine x_iload_n dX12_readHides_56 rfl ?_
    refine y_imul dX12_readHides_57 ?_
    refine x_iload_n dX12_readHides_58 rfl ?_
    refine y_iadd dX12_readHides_59 ?_
    refine (show X _ _ 60 _ _ _ _ _ _ from ?_)
    refine y_iald (q) dX12_readHides_60 (by first | assumption) (by first | rfl | omega) (by omega) (by decide) ?_
    refine (show X _ _ 61 _ _ _ _ _ _ from ?_)
    refine X.val f17 ?_
    refine x_iload_n dX12_readHides_61 rfl ?_
    refine (show X _ _ 62 _ _ _ _ _ _ from ?_)
    rw [show iI xq = iI (Q : Int) by rw [hQ]]
    refine x_callS (As := [_, _]) (mc := 0) (ms := 0) (z := mX12_bit) dX12_readHides_62 lX12_386 oX12_bit (by decide) rfl (Nat.le_of_ble_eq_true rfl) (Nat.le_of_ble_eq_true rfl) rfl (c_bit g mm Q _ _ _ (by omega) (by omega)) (k_I ?_)
    refine (show X _ _ 65 _ _ _ _ _ _ from ?_)
    refine y_ifb_eq 73 dX12_readHides_65 (by decide) (fun h3 => ?_) (fun h3 => ?_)
    · have := tl V5 J5 KS_r (by rw [if_neg (fun c => by rcases c with c | c; exact h2 c.symm; rw [et, h3] at c; cases c)]; exact hZ5)
      rw [show iI xq = iI (Q : Int) by rw [hQ]] at this
      exact this
    · have := fl (Or.inr (by rw [et]; exact h3))
      rw [show iI xq = iI (Q : Int) by rw [hQ]] at this
      exact this
end C9t
