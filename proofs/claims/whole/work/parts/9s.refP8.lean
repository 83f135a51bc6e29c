/-! ===== the reference's reader: deaths, secrets ===== -/
section C9s
variable {g : GG} {T : Nat → Nat × Nat} {V A : Nat → Nat → Int} {R : Nat → Nat → Option Nat} {J : Nat → Nat → Int64} {z k n : Nat} {r f e i : Nat} {t : Nat → Int}
theorem sX_k2 {P : Prop} [Decidable P] {A : Nat → Nat → Int} {c : Int} {σ : SG} : ∀ i, (if P then sK t e A c σ else sF t e 3 (sK t e A c σ)) = .inr i → tkK t e i ≠ 4 := fun i h => by
  split at h
  · exact sK_k i h
  · exact sF_sG i h
theorem sX_v2 {P : Prop} [Decidable P] {A : Nat → Nat → Int} {c : Int} {σ : SG} {j : Nat} (h : sG t e (if P then sK t e A c σ else sF t e 3 (sK t e A c σ)) = .inr j) : ∃ j', sK t e A c σ = .inr j' := by
  obtain ⟨j', hj, -⟩ := sG_v h
  split at hj
  · exact ⟨j', hj⟩
  · cases hs : sK t e A c σ with
    | inl c => rw [hs] at hj; cases hj
    | inr q => exact ⟨q, rfl⟩
theorem z_readDies (hX : MX T R r f t e) (hV : VP A) (hZ : MZ t V J A r f e (.inr i)) (hk : tkK t e i = 1) : X g mX12_readDies 0 [.ref r, jk, jk] [] (T, iV V, R, J, z) k n (LQ T R J z t V A r f e (pbS (sBg t e A 0 1 i) (fun i => pDies t e A i))) := by
  obtain ⟨hM, hG, hrf, hap, hb, he⟩ := id hX
  obtain ⟨⟨y1, y2⟩, -, -, ⟨p1, p2⟩, -, -, -, -, -, hAp, -⟩ := id hV.1
  obtain ⟨m0, -, -⟩ := id hM
  obtain ⟨g0, ⟨-, -, -, -, -, -, g16, -, -, -, -, -, -, -, -, -, -, -, -, -, -, -, -⟩, ⟨-, -, -, -, -, -, gk7, -, -, -, -, -, -, -, -, -, -, -, -, -, -, -, -⟩⟩ := id hG
  unfold pDies
  rw [ebM3, ebN]
  refine x_aload_n dX12_readDies_0 rfl ?_
  refine y_iconst dX12_readDies_1 ?_
  refine y_iconst dX12_readDies_2 ?_
  refine (show X _ _ 3 _ _ _ _ _ _ from ?_)
  refine x_callV (As := [_, _]) (mc := 0) (ms := 0) (z := mX12_begins) (ci := 12) dX12_readDies_3 lX12_291 oX12_begins (by decide) (by first | assumption) rfl rfl (Nat.le_of_ble_eq_true rfl) (Nat.le_of_ble_eq_true rfl) rfl (z_begins hX hZ hk ⟨by omega, by omega⟩ ⟨by omega, by omega⟩ ⟨by omega, by omega⟩) (fun v M1 hq => ?_)
  obtain ⟨rfl, V1, J1, rfl, hK1, hZ1⟩ := hq
  refine (show X _ _ 6 _ _ _ _ _ _ from ?_)
  obtain ⟨σ0, hσ0⟩ : ∃ s, sBg t e A 0 1 i = s := ⟨_, rfl⟩
  rw [hσ0] at hZ1 ⊢
  refine x_aload_n dX12_readDies_6 rfl ?_
  refine y_iconst dX12_readDies_7 ?_
  refine (show X _ _ 8 _ _ _ _ _ _ from ?_)
  refine x_callV (As := [_]) (mc := 0) (ms := 0) (z := mX12_known) (ci := 12) dX12_readDies_8 lX12_220 oX12_known (by decide) (by first | assumption) rfl rfl (Nat.le_of_ble_eq_true rfl) (Nat.le_of_ble_eq_true rfl) rfl (z_known ⟨by decide, by decide⟩ hX hZ1) (fun v M1 hq => ?_)
  obtain ⟨rfl, V2, J2, rfl, hK2, hZ2⟩ := hq
  refine (show X _ _ 11 _ _ _ _ _ _ from ?_)
  have tl : ∀ V3 J3, KS V2 V3 J2 J3 r → MZ t V3 J3 A r f e (if A 7 (vK t e A 0 σ0).toNat = -2 then sK t e A 0 σ0 else sF t e 3 (sK t e A 0 σ0)) → X g mX12_readDies 39 [.ref r, .int (iI (vK t e A 0 σ0)), jk] [] (T, iV V3, R, J3, z) k n (LQ T R J z t V A r f e (pbS (sN t e 0 (A 0 0 - 1) (sG t e (if A 7 (vK t e A 0 σ0).toNat = -2 then sK t e A 0 σ0 else sF t e 3 (sK t e A 0 σ0)))) (fun i => .inr (u2 A 7 (vK t e A 0 σ0).toNat (vN t e 0 (A 0 0 - 1) (sG t e (if A 7 (vK t e A 0 σ0).toNat = -2 then sK t e A 0 σ0 else sF t e 3 (sK t e A 0 σ0)))), i)))) := by
    intro V3 J3 hK3 hZ3
    refine x_aload_n dX12_readDies_39 rfl ?_
    refine (show X _ _ 40 _ _ _ _ _ _ from ?_)
    refine x_callV (As := []) (mc := 0) (ms := 0) (z := mX12_goesOn) (ci := 12) dX12_readDies_40 lX12_149 oX12_goesOn (by decide) (by first | assumption) rfl rfl (Nat.le_of_ble_eq_true rfl) (Nat.le_of_ble_eq_true rfl) rfl (z_goes hX hZ3 sX_k2) (fun v M1 hq => ?_)
    obtain ⟨rfl, V4, J4, rfl, hK4, hZ4⟩ := hq
    refine (show X _ _ 43 _ _ _ _ _ _ from ?_)
    have hv := fun j h => sX_v2 (t := t) (e := e) (P := A 7 (vK t e A 0 σ0).toNat = -2) (A := A) (c := 0) (σ := σ0) (j := j) h
    generalize sG t e (if A 7 (vK t e A 0 σ0).toNat = -2 then sK t e A 0 σ0 else sF t e 3 (sK t e A 0 σ0)) = σ1 at *
    refine x_aload_n dX12_readDies_43 rfl ?_
    refine y_iconst dX12_readDies_44 ?_
    refine (show X _ _ 45 _ _ _ _ _ _ from ?_)
    refine x_callV (As := [_]) (mc := 0) (ms := 0) (z := mX12_readYear) (ci := 12) dX12_readDies_45 lX12_312 oX12_readYear (by decide) (by first | assumption) rfl rfl (Nat.le_of_ble_eq_true rfl) (Nat.le_of_ble_eq_true rfl) rfl (z_readYear hX hZ4 ⟨by decide, by decide⟩ ⟨by omega, by omega⟩) (fun v M1 hq => ?_)
    obtain ⟨rfl, V5, J5, rfl, hK5, hZ5⟩ := hq
    refine (show X _ _ 48 _ _ _ _ _ _ from ?_)
    have hK : KS V V5 J J5 r := KS_t hK1 (KS_t hK2 (KS_t hK3 (KS_t hK4 hK5)))
    clear hK1 hK2 hK3 hK4 hK5 hZ1 hZ2 hZ3 hZ4 hZ
    obtain ⟨σ2, hσ2⟩ : ∃ s, sN t e 0 (A 0 0 - 1) σ1 = s := ⟨_, rfl⟩
    rw [hσ2] at hZ5 ⊢
    cases σ2 with
    | inl c =>
      refine x_istore_n dX12_readDies_48 (by decide) rfl rfl ?_
      refine x_aload_n dX12_readDies_49 rfl ?_
      refine y_gi dX12_readDies_50 fX12_113 (by first | assumption) (fun _ _ _ => rfl) ?_
      refine (show X _ _ 53 _ _ _ _ _ _ from ?_)
      refine X.val (b := 5) hZ5.2.2.2.1 ?_
      refine y_iconst dX12_readDies_53 ?_
      refine (show X _ _ 54 _ _ _ _ _ _ from ?_)
      refine y_icmp_eq 67 dX12_readDies_54 (by decide) ⟨by omega, by omega⟩ ⟨by omega, by omega⟩ (fun h => ?_) (fun h => ?_)
      · exact x_return dX12_readDies_67 rfl ⟨rfl, V5, J5, rfl, KL_S hK, hZ5⟩
      · omega
    | inr i6 =>
      obtain ⟨z1, z2, z3, z4, z5⟩ := id hZ5
      have hsr := srt_r (tkK_b t e i6)
      obtain ⟨-, -, j1, hj⟩ := vN_v hσ2
      obtain ⟨j2, hj⟩ := hv j1 hj
      obtain ⟨q1, q2, q3⟩ := sK_v hj
      have hp := nm_b0 hV q2
      rw [← q3] at hp
      generalize vN t e 0 (A 0 0 - 1) σ1 = xy at *
      generalize vK t e A 0 σ0 = xp at *
      refine x_istore_n dX12_readDies_48 (by decide) rfl rfl ?_
      refine x_aload_n dX12_readDies_49 rfl ?_
      refine y_gi dX12_readDies_50 fX12_113 (by first | assumption) (fun _ _ _ => rfl) ?_
      refine (show X _ _ 53 _ _ _ _ _ _ from ?_)
      refine X.val z4.2.2.1 ?_
      refine y_iconst dX12_readDies_53 ?_
      refine (show X _ _ 54 _ _ _ _ _ _ from ?_)
      refine y_icmp_eq 67 dX12_readDies_54 (by decide) ⟨by omega, by omega⟩ ⟨by omega, by omega⟩ (fun h => ?_) (fun h => ?_)
      · omega
      refine x_aload_n dX12_readDies_57 rfl ?_
      refine x_gr dX12_readDies_58 fX12_172 (by first | assumption) (fun _ _ _ => rfl) (by first | assumption) ?_
      refine x_gr dX12_readDies_61 fX12_335 (by first | assumption) (fun _ _ _ => rfl) (by first | assumption) ?_
      refine x_iload_n dX12_readDies_64 rfl ?_
      refine x_iload_n dX12_readDies_65 rfl ?_
      refine y_iast (xp.toNat) dX12_readDies_66 (by first | assumption) (by first | rfl | omega) (by omega) (by decide) ?_
      refine (show X _ _ 67 _ _ _ _ _ _ from ?_)
      refine x_return dX12_readDies_67 rfl ⟨rfl, _, J5, rfl, ⟨fun b h1 h2 => ?_, fun c hc => ?_, fun b h1 _ => hK.2.2 b h1⟩, ?_, ?_, ?_, TK_f z4 ?_ rfl, ?_⟩
      · rw [u2_n (by omega)]; exact hK.1 b h1
      · rw [u2_n (by omega)]; exact hK.2.1 c hc
      · rw [u2_n (by omega)]; exact z1
      · rw [u2_n (by omega)]; exact z2
      · have e0 : ∀ c, u2 A 7 xp.toNat xy 0 c = A 0 c := fun c => by rw [u2_n (by decide)]
        show MF _ _ f (u2 A 7 xp.toNat xy)
        refine MF_up z3 (fun j hj => ?_) ?_ (fun ρ r1 r2 => ?_) (Or.inl ?_)
        · rw [e0 j, u2_n (by omega)]; exact z3.1.1 j hj
        · rw [e0 9, u2_n (by omega)]; exact ⟨z3.2.1, z3.2.2.1⟩
        · have hc : ctR (u2 A 7 xp.toNat xy) ρ = ctR A ρ := by
            unfold ctR fP fPl fBu fSe fDi
            rw [e0 3, e0 4, e0 5, e0 6, e0 8]
          by_cases h7 : ρ = 7
          · subst h7
            exact Or.inr (Or.inr ⟨hc, by decide, xp.toNat, xy, by rw [u2_s], by rw [u2_s]⟩)
          · exact Or.inl ⟨hc, by rw [u2_n (by omega)], by rw [u2_n h7]⟩
        · refine ⟨e0 9, rfl, ⟨?_, ?_⟩, ?_, ?_, ?_⟩
          · rw [u2_n (by omega)]
          · rw [u2_n (by omega)]
          · rw [u2_n (by omega)]
          · rw [u2_n (by omega)]
          · rw [u2_n (by omega)]
      · rw [u2_n (by omega)]
      · rw [u2_n (by omega)]; exact z5
  obtain ⟨z1, z2, z3, z4⟩ := id hZ2
  refine x_istore_n dX12_readDies_11 (by decide) rfl rfl ?_
  refine x_aload_n dX12_readDies_12 rfl ?_
  refine y_gi dX12_readDies_13 fX12_113 (by first | assumption) (fun _ _ _ => rfl) ?_
  refine (show X _ _ 16 _ _ _ _ _ _ from ?_)
  cases hs : sK t e A 0 σ0 with
  | inl c =>
    rw [hs] at tl hZ2 z4
    refine X.val (b := 5) z4.1 ?_
    refine y_iconst dX12_readDies_16 ?_
    refine (show X _ _ 17 _ _ _ _ _ _ from ?_)
    refine y_icmp_eq 39 dX12_readDies_17 (by decide) ⟨by omega, by omega⟩ ⟨by omega, by omega⟩ (fun h => ?_) (fun h => ?_)
    · exact tl V2 J2 KS_r (by rw [show (if A 7 (vK t e A 0 σ0).toNat = -2 then .inl c else sF t e 3 (.inl c)) = (.inl c : SG) from by split <;> rfl]; exact hZ2)
    · omega
  | inr j =>
    obtain ⟨q1, q2, q3⟩ := sK_v hs
    have hp := nm_b0 hV q2
    rw [← q3] at hp
    rw [hs] at tl hZ2 z4
    have hsr := srt_r (tkK_b t e j)
    have hpp : (vK t e A 0 σ0).toNat < fP A := by unfold fP; omega
    have h7 := (hAp _ hpp).2.2.2.2.2.2
    refine X.val z4.1.2.2.1 ?_
    refine y_iconst dX12_readDies_16 ?_
    refine (show X _ _ 17 _ _ _ _ _ _ from ?_)
    refine y_icmp_eq 39 dX12_readDies_17 (by decide) ⟨by omega, by omega⟩ ⟨by omega, by omega⟩ (fun h => ?_) (fun h => ?_)
    · omega
    refine x_aload_n dX12_readDies_20 rfl ?_
    refine x_gr dX12_readDies_21 fX12_172 (by first | assumption) (fun _ _ _ => rfl) (by first | assumption) ?_
    refine x_gr dX12_readDies_24 fX12_335 (by first | assumption) (fun _ _ _ => rfl) (by first | assumption) ?_
    refine x_iload_n dX12_readDies_27 rfl ?_
    refine y_iald ((vK t e A 0 σ0).toNat) dX12_readDies_28 (by first | assumption) (by first | rfl | omega) (by omega) (by decide) ?_
    refine (show X _ _ 29 _ _ _ _ _ _ from ?_)
    refine X.val (b := A 7 (vK t e A 0 σ0).toNat) (z3.1.2.1 6 (by decide) _ hpp) ?_
    refine y_bipush dX12_readDies_29 rfl ?_
    refine (show X _ _ 31 _ _ _ _ _ _ from ?_)
    refine y_icmp_eq 39 dX12_readDies_31 (by decide) ⟨by omega, by omega⟩ ⟨by omega, by omega⟩ (fun h2 => ?_) (fun h2 => ?_)
    · exact tl V2 J2 KS_r (by rw [if_pos h2]; exact hZ2)
    · refine x_aload_n dX12_readDies_34 rfl ?_
      refine y_iconst dX12_readDies_35 ?_
      refine (show X _ _ 36 _ _ _ _ _ _ from ?_)
      refine x_callV (As := [_]) (mc := 0) (ms := 0) (z := mX12_flaw) (ci := 12) dX12_readDies_36 lX12_156 oX12_flaw (by decide) (by first | assumption) rfl rfl (Nat.le_of_ble_eq_true rfl) (Nat.le_of_ble_eq_true rfl) rfl (z_flaw hX hZ2) (fun v M1 hq => ?_)
      obtain ⟨rfl, V3, J3, rfl, hK3, hZ3⟩ := hq
      refine (show X _ _ 39 _ _ _ _ _ _ from ?_)
      exact tl V3 J3 hK3 (by rw [if_neg h2]; exact hZ3)
def vFr (t : Nat → Int) (e : Nat) : SG → Int
  | .inl _ => 0
  | .inr i => tkX t e i
theorem ebF {σ : SG} {k : Int → Nat → PR} : pbS σ (fun i => eF t e A i fun x i => k x i) = pbS (sFr t e A σ) (fun i => k (vFr t e σ) i) := by
  cases σ with
  | inl c => rfl
  | inr i =>
    by_cases h : nwB t e A i = true
    · rw [show sFr t e A (.inr i) = .inr (tkN t e i) from if_pos h]; exact if_pos h
    · rw [show sFr t e A (.inr i) = .inl (nxC t e i 3, tkS t e i) from if_neg h]; exact if_neg h
theorem sFr_v {σ : SG} {j : Nat} (h : sFr t e A σ = .inr j) : ∃ i, σ = .inr i ∧ nwB t e A i = true := by
  cases σ with
  | inl c => cases h
  | inr i =>
    by_cases h' : nwB t e A i = true
    · exact ⟨i, rfl, h'⟩
    · rw [show sFr t e A (.inr i) = .inl (nxC t e i 3, tkS t e i) from if_neg h'] at h; cases h
theorem z_readSecret (hX : MX T R r f t e) (hV : VP A) (hZ : MZ t V J A r f e (.inr i)) (hk : tkK t e i = 1) : X g mX12_readSecret 0 [.ref r, jk, jk, jk] [] (T, iV V, R, J, z) k n (LQ T R J z t V A r f e (pbS (sBg t e A (A 0 6) 8 i) (fun i => pSecr t e A i))) := by
  obtain ⟨hM, hG, hrf, hap, hb, he⟩ := id hX
  obtain ⟨⟨y1, y2⟩, -, -, ⟨p1, p2⟩, -, -, ⟨s1, s2⟩, -⟩ := id hV.1
  have h96 := hV.2.2.1
  obtain ⟨m0, -, -⟩ := id hM
  obtain ⟨g0, ⟨-, -, -, -, -, -, -, -, -, -, -, -, -, -, -, g25, -, -, -, -, -, -, -⟩, ⟨-, -, -, -, -, -, -, -, -, -, -, -, -, -, -, gk16, -, -, -, -, -, -, -⟩⟩ := id hG
  unfold pSecr
  rw [ebF, ebM]
  refine x_aload_n dX12_readSecret_0 rfl ?_
  refine x_aload_n dX12_readSecret_1 rfl ?_
  refine x_gr dX12_readSecret_2 fX12_172 (by first | assumption) (fun _ _ _ => rfl) (by first | assumption) ?_
  refine y_gi dX12_readSecret_5 fX12_375 (by first | assumption) (fun _ _ _ => rfl) ?_
  refine (show X _ _ 8 _ _ _ _ _ _ from ?_)
  refine X.val (hZ.2.2.1.1.1 6 (by decide)) ?_
  refine y_bipush dX12_readSecret_8 rfl ?_
  refine (show X _ _ 10 _ _ _ _ _ _ from ?_)
  refine x_callV (As := [_, _]) (mc := 0) (ms := 0) (z := mX12_begins) (ci := 12) dX12_readSecret_10 lX12_291 oX12_begins (by decide) (by first | assumption) rfl rfl (Nat.le_of_ble_eq_true rfl) (Nat.le_of_ble_eq_true rfl) rfl (z_begins hX hZ hk ⟨by omega, by omega⟩ ⟨by omega, by omega⟩ ⟨by omega, by omega⟩) (fun v M1 hq => ?_)
  obtain ⟨rfl, V1, J1, rfl, hK1, hZ1⟩ := hq
  refine (show X _ _ 13 _ _ _ _ _ _ from ?_)
  obtain ⟨σ0, hσ0⟩ : ∃ s, sBg t e A (A 0 6) 8 i = s := ⟨_, rfl⟩
  rw [hσ0] at hZ1 ⊢
  refine x_aload_n dX12_readSecret_13 rfl ?_
  refine (show X _ _ 14 _ _ _ _ _ _ from ?_)
  refine x_callV (As := []) (mc := 0) (ms := 0) (z := mX12_readFresh) (ci := 12) dX12_readSecret_14 lX12_295 oX12_readFresh (by decide) (by first | assumption) rfl rfl (Nat.le_of_ble_eq_true rfl) (Nat.le_of_ble_eq_true rfl) rfl (z_readFresh hX hZ1) (fun v M1 hq => ?_)
  obtain ⟨w, hw, rfl, V2, J2, rfl, hK2, hZ2⟩ := hq
  refine (show X _ _ 17 _ _ _ _ _ _ from ?_)
  obtain ⟨σ1, hσ1⟩ : ∃ s, sFr t e A σ0 = s := ⟨_, rfl⟩
  rw [hσ1] at hZ2 ⊢
  refine x_lstore_n dX12_readSecret_17 (by decide) rfl rfl ?_
  refine x_aload_n dX12_readSecret_18 rfl ?_
  refine (show X _ _ 19 _ _ _ _ _ _ from ?_)
  refine x_callV (As := []) (mc := 0) (ms := 0) (z := mX12_readPerson) (ci := 12) dX12_readSecret_19 lX12_340 oX12_readPerson (by decide) (by first | assumption) rfl rfl (Nat.le_of_ble_eq_true rfl) (Nat.le_of_ble_eq_true rfl) rfl (z_readPerson hX hZ2) (fun v M1 hq => ?_)
  obtain ⟨rfl, V3, J3, rfl, hK3, hZ3⟩ := hq
  refine (show X _ _ 22 _ _ _ _ _ _ from ?_)
  obtain ⟨σ2, hσ2⟩ : ∃ s, sG t e (sK t e A 0 σ1) = s := ⟨_, rfl⟩
  rw [hσ2] at hZ3 ⊢
  have hK : KS V V3 J J3 r := KS_t hK1 (KS_t hK2 hK3)
  clear hK1 hK2 hK3 hZ1 hZ2 hZ
  cases σ2 with
  | inl c =>
    refine x_istore_n dX12_readSecret_22 (by decide) rfl rfl ?_
    refine x_aload_n dX12_readSecret_23 rfl ?_
    refine y_gi dX12_readSecret_24 fX12_113 (by first | assumption) (fun _ _ _ => rfl) ?_
    refine (show X _ _ 27 _ _ _ _ _ _ from ?_)
    refine X.val (b := 5) hZ3.2.2.2.1 ?_
    refine y_iconst dX12_readSecret_27 ?_
    refine (show X _ _ 28 _ _ _ _ _ _ from ?_)
    refine y_icmp_ne 32 dX12_readSecret_28 (by decide) ⟨by omega, by omega⟩ ⟨by omega, by omega⟩ (fun h => ?_) (fun h => ?_)
    · omega
    exact x_return dX12_readSecret_31 rfl ⟨rfl, V3, J3, rfl, KL_S hK, hZ3⟩
  | inr i6 =>
    obtain ⟨z1, z2, z3, z4, z5⟩ := id hZ3
    have hsr := srt_r (tkK_b t e i6)
    obtain ⟨j1, hj, -⟩ := sG_v hσ2
    rw [(sK_v hj).1] at hσ1
    obtain ⟨j0, hj0, hnw⟩ := sFr_v hσ1
    have ew := hw j0 hj0 hnw
    have hxw := tkX_w (of_decide_eq_true hnw).1.1
    have evF : vFr t e σ0 = tkX t e j0 := by rw [hj0]; rfl
    rw [evF]
    have h12 : A 0 6 < 8 := by
      rw [hj0] at hσ0
      unfold sBg at hσ0
      split at hσ0
      · cases hσ0
      · omega
    generalize tkX t e j0 = xw at *
    generalize vK t e A 0 σ1 = xp at *
    subst ew
    have f6 : V3 f 6 = A 0 6 := z3.1.1 6 (by decide)
    have f9 : V3 f 9 = A 0 9 := z3.2.1
    obtain ⟨N, hN⟩ : ∃ N : Nat, A 0 6 = (N : Int) := ⟨(A 0 6).toNat, by omega⟩
    obtain ⟨N9, hN9⟩ : ∃ N : Nat, A 0 9 = (N : Int) := ⟨(A 0 9).toNat, by omega⟩
    rw [hN] at f6
    rw [hN9] at f9
    have hNt : (A 0 6).toNat = N := by omega
    have hNt9 : (A 0 9).toNat = N9 := by omega
    refine x_istore_n dX12_readSecret_22 (by decide) rfl rfl ?_
    refine x_aload_n dX12_readSecret_23 rfl ?_
    refine y_gi dX12_readSecret_24 fX12_113 (by first | assumption) (fun _ _ _ => rfl) ?_
    refine (show X _ _ 27 _ _ _ _ _ _ from ?_)
    refine X.val z4.2.2.1 ?_
    refine y_iconst dX12_readSecret_27 ?_
    refine (show X _ _ 28 _ _ _ _ _ _ from ?_)
    refine y_icmp_ne 32 dX12_readSecret_28 (by decide) ⟨by omega, by omega⟩ ⟨by omega, by omega⟩ (fun h => ?_) (fun h => ?_)
    rotate_left
    · omega
    refine x_aload_n dX12_readSecret_32 rfl ?_
    refine x_lload_n dX12_readSecret_33 rfl ?_
    refine y_iconst dX12_readSecret_34 ?_
    refine x_aload_n dX12_readSecret_35 rfl ?_
    refine x_gr dX12_readSecret_36 fX12_172 (by first | assumption) (fun _ _ _ => rfl) (by first | assumption) ?_
    refine y_gi dX12_readSecret_39 fX12_375 (by first | assumption) (fun _ _ _ => rfl) ?_
    refine (show X _ _ 42 _ _ _ _ _ _ from ?_)
    refine X.val f6 ?_
    refine x_callV (As := [_, _, _]) (mc := 0) (ms := 0) (z := mX12_names) (ci := 12) dX12_readSecret_42 lX12_320 oX12_names (by decide) (by first | assumption) rfl rfl (Nat.le_of_ble_eq_true rfl) (Nat.le_of_ble_eq_true rfl) rfl (c_names (s := true) (x := (N : Int)) (N := N9) hX f9 (by omega)) (k_V ?_)
    refine (show X _ _ 45 _ _ _ _ _ _ from ?_)
    refine (show X _ _ 45 _ _ _ _ _ _ from ?_)
    refine x_aload_n dX12_readSecret_45 rfl ?_
    refine x_gr dX12_readSecret_46 fX12_172 (by first | assumption) (fun _ _ _ => rfl) (by first | assumption) ?_
    refine x_gr dX12_readSecret_49 fX12_378 (by first | assumption) (fun _ _ _ => rfl) (by first | assumption) ?_
    refine x_aload_n dX12_readSecret_52 rfl ?_
    refine x_gr dX12_readSecret_53 fX12_172 (by first | assumption) (fun _ _ _ => rfl) (by first | assumption) ?_
    refine y_gi dX12_readSecret_56 fX12_375 (by first | assumption) (fun _ _ _ => rfl) ?_
    refine (show X _ _ 59 _ _ _ _ _ _ from ?_)
    refine X.val (b := (N : Int)) (by rw [u2_s, u1_n (by decide), u2_n (by omega), u2_n (by omega)]; exact f6) ?_
    refine x_iload_n dX12_readSecret_59 rfl ?_
    refine y_iast (N) dX12_readSecret_60 (by first | assumption) (by first | rfl | omega) (by omega) (by decide) ?_
    refine x_aload_n dX12_readSecret_61 rfl ?_
    refine x_gr dX12_readSecret_62 fX12_172 (by first | assumption) (fun _ _ _ => rfl) (by first | assumption) ?_
    refine x_dup dX12_readSecret_65 rfl ?_
    refine y_gi dX12_readSecret_66 fX12_375 (by first | assumption) (fun _ _ _ => rfl) ?_
    refine (show X _ _ 69 _ _ _ _ _ _ from ?_)
    refine X.val (b := (N : Int)) (by rw [u2_n (by omega), u2_s, u1_n (by decide), u2_n (by omega), u2_n (by omega)]; exact f6) ?_
    refine y_iconst dX12_readSecret_69 ?_
    refine y_iadd dX12_readSecret_70 ?_
    refine y_pi dX12_readSecret_71 (pX12_375 _) (by first | assumption) (fun _ _ _ => rfl) rfl rfl ?_
    refine (show X _ _ 74 _ _ _ _ _ _ from ?_)
    refine x_return dX12_readSecret_74 rfl ⟨rfl, _, _, rfl, ⟨fun b h1 h2 => ?_, fun c hc => ?_, fun b h1 h2 => ?_⟩, ?_, ?_, ?_, TK_f z4 ?_ ?_, ?_⟩
    · rw [u2_n (by omega), u2_n (by omega), u2_n (by omega), u2_n (by omega), u2_n (by omega)]; exact hK.1 b h1
    · rw [u2_n (by omega), u2_n (by omega), u2_n (by omega), u2_n (by omega), u2_n (by omega)]; exact hK.2.1 c hc
    · rw [u2_n (by omega)]; exact hK.2.2 b h1
    · rw [u2_n (by omega), u2_n (by omega), u2_n (by omega), u2_n (by omega), u2_n (by omega)]; exact z1
    · rw [u2_n (by omega), u2_n (by omega), u2_n (by omega), u2_n (by omega), u2_n (by omega)]; exact z2
    · have eA : aSecr (adN A xw 1 (A 0 6)) xp = u2 (u2 (u2 (u2 (u2 (u2 A 21 N9 xw) 22 N9 1) 23 N9 (N : Int)) 0 9 ((N9 : Int) + 1)) 16 N xp) 0 6 ((N : Int) + 1) := by
        have e1 : adN A xw 1 (A 0 6) = u2 (u2 (u2 (u2 A 21 N9 xw) 22 N9 1) 23 N9 (N : Int)) 0 9 ((N9 : Int) + 1) := by unfold adN; rw [hNt9, hN, hN9]
        unfold aSecr
        rw [e1]
        have e2 : u2 (u2 (u2 (u2 A 21 N9 xw) 22 N9 1) 23 N9 (N : Int)) 0 9 ((N9 : Int) + 1) 0 6 = (N : Int) := by rw [u2_s, u1_n (by decide), u2_n (by decide), u2_n (by decide), u2_n (by decide)]; exact hN
        rw [e2, Int.toNat_natCast]
      have e0 : ∀ c, c ≠ 6 → c ≠ 9 → aSecr (adN A xw 1 (A 0 6)) xp 0 c = A 0 c := fun c hc hc9 => by rw [eA, u2_s, u1_n hc, u2_n (by decide), u2_s, u1_n hc9, u2_n (by decide), u2_n (by decide), u2_n (by decide)]
      have e6 : aSecr (adN A xw 1 (A 0 6)) xp 0 6 = (N : Int) + 1 := by rw [eA, u2_s, u1_s]
      have e9 : aSecr (adN A xw 1 (A 0 6)) xp 0 9 = (N9 : Int) + 1 := by rw [eA, u2_s, u1_n (by decide), u2_n (by decide), u2_s, u1_s]
      show MF _ _ f (aSecr (adN A xw 1 (A 0 6)) xp)
      refine MF_up z3 (fun j hj => ?_) ?_ (fun ρ r1 r2 => ?_) (Or.inr ⟨xw, 1, (N : Int), ?_, ?_, hxw, ⟨?_, ?_⟩, ⟨by decide, by decide⟩, ?_, ?_, ?_⟩)
      · by_cases hj2 : j = 6
        · subst hj2; rw [e6, u2_s, u1_s]
        · rw [e0 j hj2 (by omega), u2_s, u1_n hj2, u2_n (by omega), u2_s, u1_n (by omega), u2_n (by omega), u2_n (by omega)]; exact z3.1.1 j hj
      · rw [e9, u2_s, u1_n (by decide), u2_n (by omega), u2_s, u1_s]; exact ⟨rfl, by omega, by omega⟩
      · by_cases h16 : ρ = 16
        · subst h16
          have cA : ctR A 16 = N := hNt
          have cA' : ctR (aSecr (adN A xw 1 (A 0 6)) xp) 16 = N + 1 := by show ((aSecr (adN A xw 1 (A 0 6)) xp) 0 6).toNat = _; rw [e6]; omega
          exact Or.inr (Or.inl ⟨by rw [cA]; exact cA', xp, by rw [cA]; simp (discharger := omega) only [u2_s, u2_n]; rfl, by rw [cA, eA]; simp (discharger := omega) only [u2_s, u2_n]⟩)
        · refine Or.inl ⟨?_, ?_, ?_⟩
          · unfold ctR fP fPl fBu fSe fDi
            rw [e0 3 (by decide) (by decide), e0 4 (by decide) (by decide), e0 5 (by decide) (by decide), e0 8 (by decide) (by decide)]
            by_cases h7 : ρ ≤ 7
            · rw [if_pos h7, if_pos h7]
            rw [if_neg h7, if_neg h7]
            by_cases h11 : ρ ≤ 11
            · rw [if_pos h11, if_pos h11]
            rw [if_neg h11, if_neg h11]
            by_cases h15 : ρ ≤ 15
            · rw [if_pos h15, if_pos h15]
            rw [if_neg h15, if_neg h15, if_neg h16, if_neg h16]
          · simp (discharger := omega) only [u2_n]
          · rw [eA]; simp (discharger := omega) only [u2_n]
      · rw [e9, hN9]
      · rw [hNt9, u2_s]
      · rw [hNt9]; simp (discharger := omega) only [u2_s, u2_n]; rfl
      · rw [hNt9]; simp (discharger := omega) only [u2_s, u2_n]
      · rw [hNt9, eA]; simp (discharger := omega) only [u2_s, u2_n]
      · rw [hNt9, eA]; simp (discharger := omega) only [u2_s, u2_n]
      · rw [hNt9, eA]; simp (discharger := omega) only [u2_s, u2_n]
    · rw [u2_n (by omega), u2_n (by omega), u2_n (by omega), u2_n (by omega), u2_n (by omega)]
    · rw [u2_n (by omega)]
    · rw [u2_n (by omega), u2_n (by omega), u2_n (by omega), u2_n (by omega), u2_n (by omega)]; exact z5
end C9s
