/-! ===== the reference's reader: the family's line ===== -/
section C9u
variable {g : GG} {T : Nat → Nat × Nat} {V A : Nat → Nat → Int} {R : Nat → Nat → Option Nat} {J : Nat → Nat → Int64} {z k n : Nat} {r f e i : Nat} {t : Nat → Int}
theorem fam2 {V0 : Nat → Nat → Int} {J0 : Nat → Nat → Int64} {σ : SG} {xy : Int} (hX : MX T R r f t e) (hZ : MZ t V J A r f e σ) (hK0 : KS V0 V J0 J r) : X g mX12_readFamily 37 [.ref r, .int (iI xy), jk, jk] [] (T, iV V, R, J, z) k n (LQ T R J0 z t V0 A r f e (pbS (sN t e 0 99 (sNd t e 9 (sC t e (vLw t e σ) σ))) (fun i => .inr (aFam A xy (vLw t e σ) (vN t e 0 99 (sNd t e 9 (sC t e (vLw t e σ) σ))), i)))) := by
  obtain ⟨hM, hG, hrf, hap, hb, he⟩ := id hX
  obtain ⟨m0, -, -⟩ := id hM
  obtain ⟨g0, -, -⟩ := id hG
  have t2 : ∀ (x : Int) (σ' : SG) V1 J1, KS V0 V1 J0 J1 r → MZ t V1 J1 A r f e σ' → (∀ i, σ' = .inr i → tkK t e i ≠ 4) → X g mX12_readFamily 119 [.ref r, .int (iI xy), .int (iI x), jk] [] (T, iV V1, R, J1, z) k n (LQ T R J0 z t V0 A r f e (pbS (sN t e 0 99 (sNd t e 9 (sG t e σ'))) (fun i => .inr (aFam A xy x (vN t e 0 99 (sNd t e 9 (sG t e σ'))), i)))) := by
    intro x σ' V1 J1 hK1 hZ1 hk1
    refine x_aload_n dX12_readFamily_119 rfl ?_
    refine (show X _ _ 120 _ _ _ _ _ _ from ?_)
    refine x_callV (As := []) (mc := 0) (ms := 0) (z := mX12_goesOn) (ci := 12) dX12_readFamily_120 lX12_149 oX12_goesOn (by decide) (by first | assumption) rfl rfl (Nat.le_of_ble_eq_true rfl) (Nat.le_of_ble_eq_true rfl) rfl (z_goes hX hZ1 hk1) (fun v M1 hq => ?_)
    obtain ⟨rfl, V2, J2, rfl, hK2, hZ2⟩ := hq
    refine (show X _ _ 123 _ _ _ _ _ _ from ?_)
    generalize sG t e σ' = σ4 at *
    refine x_aload_n dX12_readFamily_123 rfl ?_
    refine x_ldcsw dX12_readFamily_124 sX12_275 ?_
    refine y_iconst dX12_readFamily_127 ?_
    refine y_bipush dX12_readFamily_128 rfl ?_
    refine (show X _ _ 130 _ _ _ _ _ _ from ?_)
    refine x_callV (As := [_, _, _]) (mc := 0) (ms := 0) (z := mX12_readPart) (ci := 12) dX12_readFamily_130 lX12_259 oX12_readPart (by decide) (by first | assumption) rfl rfl (Nat.le_of_ble_eq_true rfl) (Nat.le_of_ble_eq_true rfl) rfl (z_readPart hX hZ2 (by decide) ⟨by decide, by decide⟩ ⟨by decide, by decide⟩) (fun v M1 hq => ?_)
    obtain ⟨rfl, Vz, Jz, rfl, hK3, hZz⟩ := hq
    refine (show X _ _ 133 _ _ _ _ _ _ from ?_)
    have hK : KS V0 Vz J0 Jz r := KS_t hK1 (KS_t hK2 hK3)
    generalize vN t e 0 99 (sNd t e 9 σ4) = xc at *
    generalize sN t e 0 99 (sNd t e 9 σ4) = σ5 at *
    cases σ5 with
    | inl c =>
      refine x_istore_n dX12_readFamily_133 (by decide) rfl rfl ?_
      refine x_aload_n dX12_readFamily_134 rfl ?_
      refine y_gi dX12_readFamily_135 fX12_113 (by first | assumption) (fun _ _ _ => rfl) ?_
      refine (show X _ _ 138 _ _ _ _ _ _ from ?_)
      refine X.val (b := 5) hZz.2.2.2.1 ?_
      refine y_iconst dX12_readFamily_138 ?_
      refine (show X _ _ 139 _ _ _ _ _ _ from ?_)
      refine y_icmp_ne 143 dX12_readFamily_139 (by decide) ⟨by omega, by omega⟩ ⟨by omega, by omega⟩ (fun h => ?_) (fun h => ?_)
      · omega
      exact x_return dX12_readFamily_142 rfl ⟨rfl, Vz, Jz, rfl, KL_S hK, hZz⟩
    | inr i6 =>
      obtain ⟨z1, z2, z3, z4, z5⟩ := id hZz
      have hsr := srt_r (tkK_b t e i6)
      refine x_istore_n dX12_readFamily_133 (by decide) rfl rfl ?_
      refine x_aload_n dX12_readFamily_134 rfl ?_
      refine y_gi dX12_readFamily_135 fX12_113 (by first | assumption) (fun _ _ _ => rfl) ?_
      refine (show X _ _ 138 _ _ _ _ _ _ from ?_)
      refine X.val z4.2.2.1 ?_
      refine y_iconst dX12_readFamily_138 ?_
      refine (show X _ _ 139 _ _ _ _ _ _ from ?_)
      refine y_icmp_ne 143 dX12_readFamily_139 (by decide) ⟨by omega, by omega⟩ ⟨by omega, by omega⟩ (fun h => ?_) (fun h => ?_)
      rotate_left
      · omega
      refine x_aload_n dX12_readFamily_143 rfl ?_
      refine x_gr dX12_readFamily_144 fX12_172 (by first | assumption) (fun _ _ _ => rfl) (by first | assumption) ?_
      refine x_iload_n dX12_readFamily_147 rfl ?_
      refine y_pi dX12_readFamily_148 (pX12_176 _) (by first | assumption) (fun _ _ _ => rfl) rfl rfl ?_
      refine x_aload_n dX12_readFamily_151 rfl ?_
      refine x_gr dX12_readFamily_152 fX12_172 (by first | assumption) (fun _ _ _ => rfl) (by first | assumption) ?_
      refine x_iload_n dX12_readFamily_155 rfl ?_
      refine y_pi dX12_readFamily_156 (pX12_277 _) (by first | assumption) (fun _ _ _ => rfl) rfl rfl ?_
      refine (show X _ _ 159 _ _ _ _ _ _ from ?_)
      refine x_aload_n dX12_readFamily_159 rfl ?_
      refine x_gr dX12_readFamily_160 fX12_172 (by first | assumption) (fun _ _ _ => rfl) (by first | assumption) ?_
      refine x_iload_n dX12_readFamily_163 rfl ?_
      refine y_pi dX12_readFamily_164 (pX12_279 _) (by first | assumption) (fun _ _ _ => rfl) rfl rfl ?_
      refine (show X _ _ 167 _ _ _ _ _ _ from ?_)
      refine x_return dX12_readFamily_167 rfl ⟨rfl, _, Jz, rfl, ⟨fun b h1 h2 => ?_, fun c hc => ?_, fun b h1 _ => hK.2.2 b h1⟩, ?_, ?_, ?_, TK_f z4 ?_ rfl, ?_⟩
      · rw [u2_n (by omega), u2_n (by omega), u2_n (by omega)]; exact hK.1 b h1
      · rw [u2_n (by omega), u2_n (by omega), u2_n (by omega)]; exact hK.2.1 c hc
      · rw [u2_n (by omega), u2_n (by omega), u2_n (by omega)]; exact z1
      · rw [u2_n (by omega), u2_n (by omega), u2_n (by omega)]; exact z2
      · have e0 : ∀ c, c ≠ 0 → c ≠ 1 → c ≠ 2 → aFam A xy x xc 0 c = A 0 c := fun c h0 h1 h2 => by unfold aFam; rw [u2_s, u1_n h2, u2_s, u1_n h1, u2_s, u1_n h0]
        have er : ∀ ρ, ρ ≠ 0 → aFam A xy x xc ρ = A ρ := fun ρ h0 => by unfold aFam; rw [u2_n h0, u2_n h0, u2_n h0]
        show MF _ _ f (aFam A xy x xc)
        refine MF_up z3 (fun j hj => ?_) ?_ (fun ρ r1 r2 => ?_) (Or.inl ?_)
        · unfold aFam
          simp only [u2_s]
          by_cases h2 : j = 2
          · subst h2; rw [u1_s, u1_s]
          rw [u1_n h2, u1_n h2]
          by_cases h1 : j = 1
          · subst h1; rw [u1_s, u1_s]
          rw [u1_n h1, u1_n h1]
          by_cases h0 : j = 0
          · subst h0; rw [u1_s, u1_s]
          rw [u1_n h0, u1_n h0]
          exact z3.1.1 j hj
        · rw [e0 9 (by decide) (by decide) (by decide), u2_s, u1_n (by decide), u2_s, u1_n (by decide), u2_s, u1_n (by decide)]; exact ⟨z3.2.1, z3.2.2.1⟩
        · refine Or.inl ⟨?_, by rw [u2_n (by omega), u2_n (by omega), u2_n (by omega)], er ρ (by omega)⟩
          unfold ctR fP fPl fBu fSe fDi
          rw [e0 3 (by decide) (by decide) (by decide), e0 4 (by decide) (by decide) (by decide), e0 5 (by decide) (by decide) (by decide), e0 6 (by decide) (by decide) (by decide), e0 8 (by decide) (by decide) (by decide)]
        · exact ⟨e0 9 (by decide) (by decide) (by decide), rfl, ⟨by rw [u2_n (by omega), u2_n (by omega), u2_n (by omega)], by rw [u2_n (by omega), u2_n (by omega), u2_n (by omega)]⟩, er 21 (by decide), er 22 (by decide), er 23 (by decide)⟩
      · rw [u2_n (by omega), u2_n (by omega), u2_n (by omega)]
      · rw [u2_n (by omega), u2_n (by omega), u2_n (by omega)]; exact z5
  have tl : ∀ x : Int, -1 ≤ x → x ≤ 4 → vLw t e σ = x → X g mX12_readFamily 108 [.ref r, .int (iI xy), jk, jk] [.int (iI x)] (T, iV V, R, J, z) k n (LQ T R J0 z t V0 A r f e (pbS (sN t e 0 99 (sNd t e 9 (sC t e (vLw t e σ) σ))) (fun i => .inr (aFam A xy (vLw t e σ) (vN t e 0 99 (sNd t e 9 (sC t e (vLw t e σ) σ))), i)))) := fun x h1 h2 h3 => by
    rw [h3]
    refine x_istore_n dX12_readFamily_108 (by decide) rfl rfl ?_
    refine x_iload_n dX12_readFamily_109 rfl ?_
    refine y_iconst dX12_readFamily_110 ?_
    refine (show X _ _ 111 _ _ _ _ _ _ from ?_)
    refine y_icmp_ne 119 dX12_readFamily_111 (by decide) ⟨by omega, by omega⟩ ⟨by omega, by omega⟩ (fun h4 => ?_) (fun h4 => ?_)
    · rw [sC_p (by omega)]
      exact t2 x σ V J hK0 hZ (vLw_k (by omega))
    · rw [sC_n (by omega)]
      refine x_aload_n dX12_readFamily_114 rfl ?_
      refine y_iconst dX12_readFamily_115 ?_
      refine (show X _ _ 116 _ _ _ _ _ _ from ?_)
      refine x_callV (As := [_]) (mc := 0) (ms := 0) (z := mX12_flaw) (ci := 12) dX12_readFamily_116 lX12_156 oX12_flaw (by decide) (by first | assumption) rfl rfl (Nat.le_of_ble_eq_true rfl) (Nat.le_of_ble_eq_true rfl) rfl (z_flaw hX hZ) (fun v M1 hq => ?_)
      obtain ⟨rfl, V1, J1, rfl, hK1, hZ1⟩ := hq
      refine (show X _ _ 119 _ _ _ _ _ _ from ?_)
      have := t2 x (sF t e 1 σ) V1 J1 (KS_t hK0 hK1) hZ1 sF_sG
      rw [sG_sF] at this
      exact this
  refine x_aload_n dX12_readFamily_37 rfl ?_
  refine x_ldcsw dX12_readFamily_38 sX12_265 ?_
  refine (show X _ _ 41 _ _ _ _ _ _ from ?_)
  refine x_callV (As := [_]) (mc := 0) (ms := 0) (z := mX12_isWord) (ci := 12) dX12_readFamily_41 lX12_152 oX12_isWord (by decide) (by first | assumption) rfl rfl (Nat.le_of_ble_eq_true rfl) (Nat.le_of_ble_eq_true rfl) rfl (z_isWord hX hZ (by decide)) (k_I ?_)
  refine (show X _ _ 44 _ _ _ _ _ _ from ?_)
  refine y_ifb_eq 51 dX12_readFamily_44 (by decide) (fun c1 => ?_) (fun c1 => ?_)
  rotate_left
  · refine y_iconst dX12_readFamily_47 ?_
    refine x_goto 108 dX12_readFamily_48 (by decide) ?_
    refine (show X _ _ 108 _ _ _ _ _ _ from ?_)
    exact tl 0 (by decide) (by decide) (if_pos c1)
  refine x_aload_n dX12_readFamily_51 rfl ?_
  refine x_ldcsw dX12_readFamily_52 sX12_267 ?_
  refine (show X _ _ 55 _ _ _ _ _ _ from ?_)
  refine x_callV (As := [_]) (mc := 0) (ms := 0) (z := mX12_isWord) (ci := 12) dX12_readFamily_55 lX12_152 oX12_isWord (by decide) (by first | assumption) rfl rfl (Nat.le_of_ble_eq_true rfl) (Nat.le_of_ble_eq_true rfl) rfl (z_isWord hX hZ (by decide)) (k_I ?_)
  refine (show X _ _ 58 _ _ _ _ _ _ from ?_)
  refine y_ifb_eq 65 dX12_readFamily_58 (by decide) (fun c2 => ?_) (fun c2 => ?_)
  rotate_left
  · refine y_iconst dX12_readFamily_61 ?_
    refine x_goto 108 dX12_readFamily_62 (by decide) ?_
    refine (show X _ _ 108 _ _ _ _ _ _ from ?_)
    exact tl 1 (by decide) (by decide) (by unfold vLw; rw [c1, c2]; rfl)
  refine x_aload_n dX12_readFamily_65 rfl ?_
  refine x_ldcsw dX12_readFamily_66 sX12_269 ?_
  refine (show X _ _ 69 _ _ _ _ _ _ from ?_)
  refine x_callV (As := [_]) (mc := 0) (ms := 0) (z := mX12_isWord) (ci := 12) dX12_readFamily_69 lX12_152 oX12_isWord (by decide) (by first | assumption) rfl rfl (Nat.le_of_ble_eq_true rfl) (Nat.le_of_ble_eq_true rfl) rfl (z_isWord hX hZ (by decide)) (k_I ?_)
  refine (show X _ _ 72 _ _ _ _ _ _ from ?_)
  refine y_ifb_eq 79 dX12_readFamily_72 (by decide) (fun c3 => ?_) (fun c3 => ?_)
  rotate_left
  · refine y_iconst dX12_readFamily_75 ?_
    refine x_goto 108 dX12_readFamily_76 (by decide) ?_
    refine (show X _ _ 108 _ _ _ _ _ _ from ?_)
    exact tl 2 (by decide) (by decide) (by unfold vLw; rw [c1, c2, c3]; rfl)
  refine x_aload_n dX12_readFamily_79 rfl ?_
  refine x_ldcsw dX12_readFamily_80 sX12_271 ?_
  refine (show X _ _ 83 _ _ _ _ _ _ from ?_)
  refine x_callV (As := [_]) (mc := 0) (ms := 0) (z := mX12_isWord) (ci := 12) dX12_readFamily_83 lX12_152 oX12_isWord (by decide) (by first | assumption) rfl rfl (Nat.le_of_ble_eq_true rfl) (Nat.le_of_ble_eq_true rfl) rfl (z_isWord hX hZ (by decide)) (k_I ?_)
  refine (show X _ _ 86 _ _ _ _ _ _ from ?_)
  refine y_ifb_eq 93 dX12_readFamily_86 (by decide) (fun c4 => ?_) (fun c4 => ?_)
  rotate_left
  · refine y_iconst dX12_readFamily_89 ?_
    refine x_goto 108 dX12_readFamily_90 (by decide) ?_
    refine (show X _ _ 108 _ _ _ _ _ _ from ?_)
    exact tl 3 (by decide) (by decide) (by unfold vLw; rw [c1, c2, c3, c4]; rfl)
  refine x_aload_n dX12_readFamily_93 rfl ?_
  refine x_ldcsw dX12_readFamily_94 sX12_273 ?_
  refine (show X _ _ 97 _ _ _ _ _ _ from ?_)
  refine x_callV (As := [_]) (mc := 0) (ms := 0) (z := mX12_isWord) (ci := 12) dX12_readFamily_97 lX12_152 oX12_isWord (by decide) (by first | assumption) rfl rfl (Nat.le_of_ble_eq_true rfl) (Nat.le_of_ble_eq_true rfl) rfl (z_isWord hX hZ (by decide)) (k_I ?_)
  refine (show X _ _ 100 _ _ _ _ _ _ from ?_)
  refine y_ifb_eq 107 dX12_readFamily_100 (by decide) (fun c5 => ?_) (fun c5 => ?_)
  rotate_left
  · refine y_iconst dX12_readFamily_103 ?_
    refine x_goto 108 dX12_readFamily_104 (by decide) ?_
    refine (show X _ _ 108 _ _ _ _ _ _ from ?_)
    exact tl 4 (by decide) (by decide) (by unfold vLw; rw [c1, c2, c3, c4, c5]; rfl)
  refine y_iconst dX12_readFamily_107 ?_
  refine (show X _ _ 108 _ _ _ _ _ _ from ?_)
  exact tl (-1) (by decide) (by decide) (by unfold vLw; rw [c1, c2, c3, c4, c5]; rfl)
theorem z_readFamily (hX : MX T R r f t e) (hV : VP A) (hZ : MZ t V J A r f e (.inr i)) (hk : tkK t e i = 1) : X g mX12_readFamily 0 [.ref r, jk, jk, jk] [] (T, iV V, R, J, z) k n (LQ T R J z t V A r f e (pbS (if 0 < A 0 0 then .inl (3, tkS t e i) else .inr (tkN t e i)) (fun i => pFam t e A i))) := by
  obtain ⟨hM, hG, hrf, hap, hb, he⟩ := id hX
  obtain ⟨⟨y1, y2⟩, -⟩ := id hV.1
  obtain ⟨m0, -, -⟩ := id hM
  obtain ⟨g0, -, -⟩ := id hG
  unfold pFam
  rw [ebW, ebN, ebW, ebC (x := lwOf t e) (vLw t e) (fun _ => rfl), ebW, ebN]
  have tl : ∀ (σ' : SG) V1 J1, KS V V1 J J1 r → MZ t V1 J1 A r f e σ' → (∀ i', σ' = .inr i' → i' = i) → X g mX12_readFamily 15 [.ref r, jk, jk, jk] [] (T, iV V1, R, J1, z) k n (LQ T R J z t V A r f e (pbS (sN t e 0 99 (sNd t e 9 (sC t e (vLw t e (sNd t e 14 (sN t e 4 24 (sNd t e 31 (sG t e σ'))))) (sNd t e 14 (sN t e 4 24 (sNd t e 31 (sG t e σ'))))))) (fun i => .inr (aFam A (vN t e 4 24 (sNd t e 31 (sG t e σ'))) (vLw t e (sNd t e 14 (sN t e 4 24 (sNd t e 31 (sG t e σ'))))) (vN t e 0 99 (sNd t e 9 (sC t e (vLw t e (sNd t e 14 (sN t e 4 24 (sNd t e 31 (sG t e σ'))))) (sNd t e 14 (sN t e 4 24 (sNd t e 31 (sG t e σ'))))))), i)))) := by
    intro σ' V1 J1 hK1 hZ1 hi
    refine x_aload_n dX12_readFamily_15 rfl ?_
    refine (show X _ _ 16 _ _ _ _ _ _ from ?_)
    refine x_callV (As := []) (mc := 0) (ms := 0) (z := mX12_goesOn) (ci := 12) dX12_readFamily_16 lX12_149 oX12_goesOn (by decide) (by first | assumption) rfl rfl (Nat.le_of_ble_eq_true rfl) (Nat.le_of_ble_eq_true rfl) rfl (z_goes hX hZ1 (fun i' h => by rw [hi i' h]; omega)) (fun v M1 hq => ?_)
    obtain ⟨rfl, V2, J2, rfl, hK2, hZ2⟩ := hq
    refine (show X _ _ 19 _ _ _ _ _ _ from ?_)
    generalize sG t e σ' = σ0 at *
    refine x_aload_n dX12_readFamily_19 rfl ?_
    refine x_ldcsw dX12_readFamily_20 sX12_258 ?_
    refine y_iconst dX12_readFamily_23 ?_
    refine y_bipush dX12_readFamily_24 rfl ?_
    refine (show X _ _ 26 _ _ _ _ _ _ from ?_)
    refine x_callV (As := [_, _, _]) (mc := 0) (ms := 0) (z := mX12_readPart) (ci := 12) dX12_readFamily_26 lX12_259 oX12_readPart (by decide) (by first | assumption) rfl rfl (Nat.le_of_ble_eq_true rfl) (Nat.le_of_ble_eq_true rfl) rfl (z_readPart hX hZ2 (by decide) ⟨by decide, by decide⟩ ⟨by decide, by decide⟩) (fun v M1 hq => ?_)
    obtain ⟨rfl, V3, J3, rfl, hK3, hZ3⟩ := hq
    refine (show X _ _ 29 _ _ _ _ _ _ from ?_)
    refine x_istore_n dX12_readFamily_29 (by decide) rfl rfl ?_
    refine x_aload_n dX12_readFamily_30 rfl ?_
    refine x_ldcsw dX12_readFamily_31 sX12_263 ?_
    refine (show X _ _ 34 _ _ _ _ _ _ from ?_)
    refine x_callV (As := [_]) (mc := 0) (ms := 0) (z := mX12_needs) (ci := 12) dX12_readFamily_34 lX12_164 oX12_needs (by decide) (by first | assumption) rfl rfl (Nat.le_of_ble_eq_true rfl) (Nat.le_of_ble_eq_true rfl) rfl (z_needs hX hZ3 (by decide)) (fun v M1 hq => ?_)
    obtain ⟨rfl, V4, J4, rfl, hK4, hZ4⟩ := hq
    exact fam2 hX hZ4 (KS_t hK1 (KS_t hK2 (KS_t hK3 hK4)))
  refine x_aload_n dX12_readFamily_0 rfl ?_
  refine x_gr dX12_readFamily_1 fX12_172 (by first | assumption) (fun _ _ _ => rfl) (by first | assumption) ?_
  refine y_gi dX12_readFamily_4 fX12_176 (by first | assumption) (fun _ _ _ => rfl) ?_
  refine (show X _ _ 7 _ _ _ _ _ _ from ?_)
  refine X.val (hZ.2.2.1.1.1 0 (by decide)) ?_
  refine y_if_le 15 dX12_readFamily_7 (by decide) ⟨by omega, by omega⟩ (fun h => ?_) (fun h => ?_)
  · rw [if_neg (by omega)]
    exact tl (.inr i) V J KS_r hZ (fun i' h => by cases h; rfl)
  · rw [if_pos (by omega)]
    refine x_aload_n dX12_readFamily_10 rfl ?_
    refine y_iconst dX12_readFamily_11 ?_
    refine (show X _ _ 12 _ _ _ _ _ _ from ?_)
    refine x_callV (As := [_]) (mc := 0) (ms := 0) (z := mX12_flaw) (ci := 12) dX12_readFamily_12 lX12_156 oX12_flaw (by decide) (by first | assumption) rfl rfl (Nat.le_of_ble_eq_true rfl) (Nat.le_of_ble_eq_true rfl) rfl (z_flaw hX hZ) (fun v M1 hq => ?_)
    obtain ⟨rfl, V1, J1, rfl, hK1, hZ1⟩ := hq
    exact tl (.inl (3, tkS t e i)) V1 J1 hK1 hZ1 (fun i' h => by cases h)
end C9u
