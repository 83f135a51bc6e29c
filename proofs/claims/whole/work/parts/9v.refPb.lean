/-! ===== the reference's reader: a person's line ===== -/
section Sg3
variable (t : Nat → Int) (e : Nat)
def vSd (σ : SG) : Int := if sW t e 15 σ = true then 0 else if sW t e 22 σ = true then 1 else -1
def vAg (σ : SG) : Int := if sW t e 0 σ = true then 0 else if sW t e 1 σ = true then 1 else -1
end Sg3
section C9v
variable {g : GG} {T : Nat → Nat × Nat} {V A : Nat → Nat → Int} {R : Nat → Nat → Option Nat} {J : Nat → Nat → Int64} {z k n : Nat} {r f e i : Nat} {t : Nat → Int}
theorem sW_ex {a b : Nat} {σ : SG} (hab : ky a ≠ ky b) (h : sW t e a σ = true) : sW t e b σ = false := by
  cases σ with
  | inl c => rfl
  | inr i =>
    have h1 := (of_decide_eq_true h).2
    exact decide_eq_false (fun c => hab (h1.symm.trans c.2))
theorem ky_ex1 : ky 22 ≠ ky 15 := by decide +kernel
theorem ky_ex2 : ky 1 ≠ ky 0 := by decide +kernel
theorem pl0 {V0 : Nat → Nat → Int} {J0 : Nat → Nat → Int64} {σ : SG} {w : Int64} {xw kd sd x xb : Int} {rb bb : Bool} (hX : MX T R r f t e) (hV : VP A) (hZ : MZ t V J A r f e σ) (hK0 : KS V0 V J0 J r) (hal : ∀ j, σ = .inr j → w = lI xw ∧ (0 ≤ xw ∧ xw < 1099511627776) ∧ A 0 3 < 10 ∧ x = xb ∧ sd = bI rb) : X g mX12_readPersonLine 117 [.ref r, .long w, jk, .int (iI kd), .int (iI (bI rb)), .int (iI (bI bb)), jk, jk, jk, jk, jk] [.int (iI x)] (T, iV V, R, J, z) k n (LQ T R J0 z t V0 A r f e (pbS (sN t e 0 100 (sNd t e 10 (sN t e 0 9 (sNd t e 30 (sN t e 1 9 (sNd t e 26 σ)))))) (fun i => .inr (aPers (adN A xw 0 (A 0 3)) kd sd xb (vN t e 1 9 (sNd t e 26 σ)) (vN t e 0 9 (sNd t e 30 (sN t e 1 9 (sNd t e 26 σ)))) (vN t e 0 100 (sNd t e 10 (sN t e 0 9 (sNd t e 30 (sN t e 1 9 (sNd t e 26 σ)))))) (-2), i)))) := by
  obtain ⟨hM, hG, hrf, hap, hb, he⟩ := id hX
  obtain ⟨⟨y1, y2⟩, -, -, ⟨p1, p2⟩, -, -, ⟨s1, s2⟩, -⟩ := id hV.1
  have h96 := hV.2.2.1
  obtain ⟨m0, -, -⟩ := id hM
  obtain ⟨g0, ⟨g10, g11, g12, g13, g14, g15, g16, -, -, -, -, -, -, -, -, -, -, -, -, -, -, -, -⟩, ⟨gk1, gk2, gk3, gk4, gk5, gk6, gk7, -, -, -, -, -, -, -, -, -, -, -, -, -, -, -, -⟩⟩ := id hG
  refine x_istore dX12_readPersonLine_117 (by decide) rfl rfl ?_
  refine x_aload_n dX12_readPersonLine_119 rfl ?_
  refine x_ldcsw dX12_readPersonLine_120 sX12_315 ?_
  refine y_iconst dX12_readPersonLine_123 ?_
  refine y_bipush dX12_readPersonLine_124 rfl ?_
  refine (show X _ _ 126 _ _ _ _ _ _ from ?_)
  refine x_callV (As := [_, _, _]) (mc := 0) (ms := 0) (z := mX12_readPart) (ci := 12) dX12_readPersonLine_126 lX12_259 oX12_readPart (by decide) (by first | assumption) rfl rfl (Nat.le_of_ble_eq_true rfl) (Nat.le_of_ble_eq_true rfl) rfl (z_readPart hX hZ (by decide) ⟨by decide, by decide⟩ ⟨by decide, by decide⟩) (fun v M1 hq => ?_)
  obtain ⟨rfl, V1, J1, rfl, hK1, hZ1⟩ := hq
  refine (show X _ _ 129 _ _ _ _ _ _ from ?_)
  obtain ⟨σ1, hσ1⟩ : ∃ s, sN t e 1 9 (sNd t e 26 σ) = s := ⟨_, rfl⟩
  rw [hσ1] at hZ1 ⊢
  refine x_istore dX12_readPersonLine_129 (by decide) rfl rfl ?_
  refine x_aload_n dX12_readPersonLine_131 rfl ?_
  refine x_ldcsw dX12_readPersonLine_132 sX12_316 ?_
  refine y_iconst dX12_readPersonLine_135 ?_
  refine y_bipush dX12_readPersonLine_136 rfl ?_
  refine (show X _ _ 138 _ _ _ _ _ _ from ?_)
  refine x_callV (As := [_, _, _]) (mc := 0) (ms := 0) (z := mX12_readPart) (ci := 12) dX12_readPersonLine_138 lX12_259 oX12_readPart (by decide) (by first | assumption) rfl rfl (Nat.le_of_ble_eq_true rfl) (Nat.le_of_ble_eq_true rfl) rfl (z_readPart hX hZ1 (by decide) ⟨by decide, by decide⟩ ⟨by decide, by decide⟩) (fun v M1 hq => ?_)
  obtain ⟨rfl, V2, J2, rfl, hK2, hZ2⟩ := hq
  refine (show X _ _ 141 _ _ _ _ _ _ from ?_)
  obtain ⟨σ2, hσ2⟩ : ∃ s, sN t e 0 9 (sNd t e 30 σ1) = s := ⟨_, rfl⟩
  rw [hσ2] at hZ2 ⊢
  refine x_istore dX12_readPersonLine_141 (by decide) rfl rfl ?_
  refine x_aload_n dX12_readPersonLine_143 rfl ?_
  refine x_ldcsw dX12_readPersonLine_144 sX12_318 ?_
  refine y_iconst dX12_readPersonLine_147 ?_
  refine y_bipush dX12_readPersonLine_148 rfl ?_
  refine (show X _ _ 150 _ _ _ _ _ _ from ?_)
  refine x_callV (As := [_, _, _]) (mc := 0) (ms := 0) (z := mX12_readPart) (ci := 12) dX12_readPersonLine_150 lX12_259 oX12_readPart (by decide) (by first | assumption) rfl rfl (Nat.le_of_ble_eq_true rfl) (Nat.le_of_ble_eq_true rfl) rfl (z_readPart hX hZ2 (by decide) ⟨by decide, by decide⟩ ⟨by decide, by decide⟩) (fun v M1 hq => ?_)
  obtain ⟨rfl, V3, J3, rfl, hK3, hZ3⟩ := hq
  refine (show X _ _ 153 _ _ _ _ _ _ from ?_)
  obtain ⟨σ3, hσ3⟩ : ∃ s, sN t e 0 100 (sNd t e 10 σ2) = s := ⟨_, rfl⟩
  rw [hσ3] at hZ3 ⊢
  have hK : KS V0 V3 J0 J3 r := KS_t hK0 (KS_t hK1 (KS_t hK2 hK3))
  clear hK0 hK1 hK2 hK3 hZ hZ1 hZ2
  generalize vN t e 1 9 (sNd t e 26 σ) = xs at *
  generalize vN t e 0 9 (sNd t e 30 σ1) = xe at *
  generalize vN t e 0 100 (sNd t e 10 σ2) = xf at *
  cases σ3 with
  | inl c =>
    refine x_istore dX12_readPersonLine_153 (by decide) rfl rfl ?_
    refine x_aload_n dX12_readPersonLine_155 rfl ?_
    refine y_gi dX12_readPersonLine_156 fX12_113 (by first | assumption) (fun _ _ _ => rfl) ?_
    refine (show X _ _ 159 _ _ _ _ _ _ from ?_)
    refine X.val (b := 5) hZ3.2.2.2.1 ?_
    refine y_iconst dX12_readPersonLine_159 ?_
    refine (show X _ _ 160 _ _ _ _ _ _ from ?_)
    refine y_icmp_ne 164 dX12_readPersonLine_160 (by decide) ⟨by omega, by omega⟩ ⟨by omega, by omega⟩ (fun h => ?_) (fun h => ?_)
    · omega
    exact x_return dX12_readPersonLine_163 rfl ⟨rfl, V3, J3, rfl, KL_S hK, hZ3⟩
  | inr i6 =>
    obtain ⟨z1, z2, z3, z4, z5⟩ := id hZ3
    have hsr := srt_r (tkK_b t e i6)
    obtain ⟨-, -, j1, hj⟩ := vN_v hσ3
    obtain ⟨j1, hj⟩ := sNd_v hj
    rw [hj] at hσ2
    obtain ⟨-, -, j1, hj⟩ := vN_v hσ2
    obtain ⟨j1, hj⟩ := sNd_v hj
    rw [hj] at hσ1
    obtain ⟨-, -, j1, hj⟩ := vN_v hσ1
    obtain ⟨j1, hj⟩ := sNd_v hj
    obtain ⟨ew, hxw, h12, ex, es⟩ := hal j1 hj
    clear hσ1 hσ2 hσ3 hal
    subst ew ex es
    have f3 : V3 f 3 = A 0 3 := z3.1.1 3 (by decide)
    have f9 : V3 f 9 = A 0 9 := z3.2.1
    obtain ⟨N, hN⟩ : ∃ N : Nat, A 0 3 = (N : Int) := ⟨(A 0 3).toNat, by omega⟩
    obtain ⟨N9, hN9⟩ : ∃ N : Nat, A 0 9 = (N : Int) := ⟨(A 0 9).toNat, by omega⟩
    rw [hN] at f3
    rw [hN9] at f9
    have hNt : (A 0 3).toNat = N := by omega
    have hNt9 : (A 0 9).toNat = N9 := by omega
    refine x_istore dX12_readPersonLine_153 (by decide) rfl rfl ?_
    refine x_aload_n dX12_readPersonLine_155 rfl ?_
    refine y_gi dX12_readPersonLine_156 fX12_113 (by first | assumption) (fun _ _ _ => rfl) ?_
    refine (show X _ _ 159 _ _ _ _ _ _ from ?_)
    refine X.val z4.2.2.1 ?_
    refine y_iconst dX12_readPersonLine_159 ?_
    refine (show X _ _ 160 _ _ _ _ _ _ from ?_)
    refine y_icmp_ne 164 dX12_readPersonLine_160 (by decide) ⟨by omega, by omega⟩ ⟨by omega, by omega⟩ (fun h => ?_) (fun h => ?_)
    rotate_left
    · omega
    refine x_aload_n dX12_readPersonLine_164 rfl ?_
    refine x_gr dX12_readPersonLine_165 fX12_172 (by first | assumption) (fun _ _ _ => rfl) (by first | assumption) ?_
    refine y_gi dX12_readPersonLine_168 fX12_230 (by first | assumption) (fun _ _ _ => rfl) ?_
    refine (show X _ _ 171 _ _ _ _ _ _ from ?_)
    refine X.val f3 ?_
    refine x_istore dX12_readPersonLine_171 (by decide) rfl rfl ?_
    refine x_aload_n dX12_readPersonLine_173 rfl ?_
    refine x_lload_n dX12_readPersonLine_174 rfl ?_
    refine y_iconst dX12_readPersonLine_175 ?_
    refine x_iload dX12_readPersonLine_176 rfl ?_
    refine (show X _ _ 178 _ _ _ _ _ _ from ?_)
    refine x_callV (As := [_, _, _]) (mc := 0) (ms := 0) (z := mX12_names) (ci := 12) dX12_readPersonLine_178 lX12_320 oX12_names (by decide) (by first | assumption) rfl rfl (Nat.le_of_ble_eq_true rfl) (Nat.le_of_ble_eq_true rfl) rfl (c_names (s := false) (x := (N : Int)) (N := N9) hX f9 (by omega)) (k_V ?_)
    refine (show X _ _ 181 _ _ _ _ _ _ from ?_)
    refine (show X _ _ 181 _ _ _ _ _ _ from ?_)
    refine x_aload_n dX12_readPersonLine_181 rfl ?_
    refine x_gr dX12_readPersonLine_182 fX12_172 (by first | assumption) (fun _ _ _ => rfl) (by first | assumption) ?_
    refine x_gr dX12_readPersonLine_185 fX12_323 (by first | assumption) (fun _ _ _ => rfl) (by first | assumption) ?_
    refine x_iload dX12_readPersonLine_188 rfl ?_
    refine x_iload_n dX12_readPersonLine_190 rfl ?_
    refine y_iast (N) dX12_readPersonLine_191 (by first | assumption) (by first | rfl | omega) (by omega) (by decide) ?_
    refine x_aload_n dX12_readPersonLine_192 rfl ?_
    refine x_gr dX12_readPersonLine_193 fX12_172 (by first | assumption) (fun _ _ _ => rfl) (by first | assumption) ?_
    refine (show X _ _ 196 _ _ _ _ _ _ from ?_)
    refine x_gr dX12_readPersonLine_196 fX12_326 (by first | assumption) (fun _ _ _ => rfl) (by first | assumption) ?_
    refine x_iload dX12_readPersonLine_199 rfl ?_
    refine x_iload dX12_readPersonLine_201 rfl ?_
    refine (show X _ _ 203 _ _ _ _ _ _ from ?_)
    have t2 : X g mX12_readPersonLine 211 [.ref r, .long (lI xw), jk, .int (iI kd), .int (iI (bI rb)), .int (iI (bI bb)), .int (iI x), .int (iI xs), .int (iI xe), .int (iI xf), .int (iI (N : Int))] [.int (iI (bI rb)), .int (iI (N : Int)), .ref (f + 2)] (T, iV (u2 (u2 (u2 (u2 V3 (f + 22) N9 (bI false)) (f + 23) N9 (N : Int)) f 9 ((N9 : Int) + 1)) (f + 1) N kd), R, u2 J3 (f + 21) N9 (lI xw), z) k n (LQ T R J0 z t V0 A r f e (.inr (aPers (adN A xw 0 (A 0 3)) kd (bI rb) x xs xe xf (-2), i6))) := by
      refine y_iast (N) dX12_readPersonLine_211 (by first | assumption) (by first | rfl | omega) (by omega) (by decide) ?_
      refine x_aload_n dX12_readPersonLine_212 rfl ?_
      refine x_gr dX12_readPersonLine_213 fX12_172 (by first | assumption) (fun _ _ _ => rfl) (by first | assumption) ?_
      refine x_gr dX12_readPersonLine_216 fX12_328 (by first | assumption) (fun _ _ _ => rfl) (by first | assumption) ?_
      refine x_iload dX12_readPersonLine_219 rfl ?_
      refine x_iload dX12_readPersonLine_221 rfl ?_
      refine y_iast (N) dX12_readPersonLine_223 (by first | assumption) (by first | rfl | omega) (by omega) (by decide) ?_
      refine x_aload_n dX12_readPersonLine_224 rfl ?_
      refine (show X _ _ 225 _ _ _ _ _ _ from ?_)
      refine x_gr dX12_readPersonLine_225 fX12_172 (by first | assumption) (fun _ _ _ => rfl) (by first | assumption) ?_
      refine x_gr dX12_readPersonLine_228 fX12_330 (by first | assumption) (fun _ _ _ => rfl) (by first | assumption) ?_
      refine x_iload dX12_readPersonLine_231 rfl ?_
      refine x_iload dX12_readPersonLine_233 rfl ?_
      refine y_iast (N) dX12_readPersonLine_235 (by first | assumption) (by first | rfl | omega) (by omega) (by decide) ?_
      refine x_aload_n dX12_readPersonLine_236 rfl ?_
      refine x_gr dX12_readPersonLine_237 fX12_172 (by first | assumption) (fun _ _ _ => rfl) (by first | assumption) ?_
      refine x_gr dX12_readPersonLine_240 fX12_331 (by first | assumption) (fun _ _ _ => rfl) (by first | assumption) ?_
      refine (show X _ _ 243 _ _ _ _ _ _ from ?_)
      refine x_iload dX12_readPersonLine_243 rfl ?_
      refine x_iload dX12_readPersonLine_245 rfl ?_
      refine y_iast (N) dX12_readPersonLine_247 (by first | assumption) (by first | rfl | omega) (by omega) (by decide) ?_
      refine x_aload_n dX12_readPersonLine_248 rfl ?_
      refine x_gr dX12_readPersonLine_249 fX12_172 (by first | assumption) (fun _ _ _ => rfl) (by first | assumption) ?_
      refine x_gr dX12_readPersonLine_252 fX12_333 (by first | assumption) (fun _ _ _ => rfl) (by first | assumption) ?_
      refine x_iload dX12_readPersonLine_255 rfl ?_
      refine x_iload dX12_readPersonLine_257 rfl ?_
      refine (show X _ _ 259 _ _ _ _ _ _ from ?_)
      refine y_iast (N) dX12_readPersonLine_259 (by first | assumption) (by first | rfl | omega) (by omega) (by decide) ?_
      refine x_aload_n dX12_readPersonLine_260 rfl ?_
      refine x_gr dX12_readPersonLine_261 fX12_172 (by first | assumption) (fun _ _ _ => rfl) (by first | assumption) ?_
      refine x_gr dX12_readPersonLine_264 fX12_335 (by first | assumption) (fun _ _ _ => rfl) (by first | assumption) ?_
      refine x_iload dX12_readPersonLine_267 rfl ?_
      refine y_bipush dX12_readPersonLine_269 rfl ?_
      refine y_iast (N) dX12_readPersonLine_271 (by first | assumption) (by first | rfl | omega) (by omega) (by decide) ?_
      refine x_aload_n dX12_readPersonLine_272 rfl ?_
      refine (show X _ _ 273 _ _ _ _ _ _ from ?_)
      refine x_gr dX12_readPersonLine_273 fX12_172 (by first | assumption) (fun _ _ _ => rfl) (by first | assumption) ?_
      refine x_dup dX12_readPersonLine_276 rfl ?_
      refine y_gi dX12_readPersonLine_277 fX12_230 (by first | assumption) (fun _ _ _ => rfl) ?_
      refine (show X _ _ 280 _ _ _ _ _ _ from ?_)
      refine X.val (b := (N : Int)) (by simp (discharger := omega) only [u2_s, u2_n, u1_n]; exact f3) ?_
      refine y_iconst dX12_readPersonLine_280 ?_
      refine y_iadd dX12_readPersonLine_281 ?_
      refine y_pi dX12_readPersonLine_282 (pX12_230 _) (by first | assumption) (fun _ _ _ => rfl) rfl rfl ?_
      refine (show X _ _ 285 _ _ _ _ _ _ from ?_)
      refine x_return dX12_readPersonLine_285 rfl ⟨rfl, _, _, rfl, ⟨fun b h1 h2 => ?_, fun c hc => ?_, fun b h1 h2 => ?_⟩, ?_, ?_, ?_, TK_f z4 ?_ ?_, ?_⟩
      · simp (discharger := omega) only [u2_n]; exact hK.1 b h1
      · simp (discharger := omega) only [u2_n]; exact hK.2.1 c hc
      · rw [u2_n (by omega)]; exact hK.2.2 b h1
      · simp (discharger := omega) only [u2_n]; exact z1
      · simp (discharger := omega) only [u2_n]; exact z2
      · have e1 : adN A xw 0 (A 0 3) = u2 (u2 (u2 (u2 A 21 N9 xw) 22 N9 0) 23 N9 (N : Int)) 0 9 ((N9 : Int) + 1) := by unfold adN; rw [hNt9, hN, hN9]
        have e2 : u2 (u2 (u2 (u2 A 21 N9 xw) 22 N9 0) 23 N9 (N : Int)) 0 9 ((N9 : Int) + 1) 0 3 = (N : Int) := by rw [u2_s, u1_n (by decide), u2_n (by decide), u2_n (by decide), u2_n (by decide)]; exact hN
        have eA : aPers (adN A xw 0 (A 0 3)) kd (bI rb) x xs xe xf (-2) = u2 (u2 (u2 (u2 (u2 (u2 (u2 (u2 (u2 (u2 (u2 (u2 A 21 N9 xw) 22 N9 0) 23 N9 (N : Int)) 0 9 ((N9 : Int) + 1)) 1 N kd) 2 N (bI rb)) 3 N x) 4 N xs) 5 N xe) 6 N xf) 7 N (-2)) 0 3 ((N : Int) + 1) := by
          unfold aPers
          rw [e1, e2, Int.toNat_natCast]
        have e0 : ∀ c, c ≠ 3 → c ≠ 9 → aPers (adN A xw 0 (A 0 3)) kd (bI rb) x xs xe xf (-2) 0 c = A 0 c := fun c hc hc9 => by rw [eA]; simp (discharger := omega) only [u2_s, u2_n, u1_n]
        have e3 : aPers (adN A xw 0 (A 0 3)) kd (bI rb) x xs xe xf (-2) 0 3 = (N : Int) + 1 := by rw [eA, u2_s, u1_s]
        have e9 : aPers (adN A xw 0 (A 0 3)) kd (bI rb) x xs xe xf (-2) 0 9 = (N9 : Int) + 1 := by rw [eA]; simp (discharger := omega) only [u2_s, u2_n, u1_n, u1_s]
        generalize aPers (adN A xw 0 (A 0 3)) kd (bI rb) x xs xe xf (-2) = A' at *
        show MF _ _ f A'
        refine MF_up z3 (fun j hj => ?_) ?_ (fun ρ r1 r2 => ?_) (Or.inr ⟨xw, 0, (N : Int), ?_, ?_, hxw, ⟨?_, ?_⟩, ⟨by decide, by decide⟩, ?_, ?_, ?_⟩)
        · by_cases hj2 : j = 3
          · subst hj2; rw [e3, u2_s, u1_s]
          · rw [e0 j hj2 (by omega)]; simp (discharger := omega) only [u2_s, u2_n, u1_n]; exact z3.1.1 j hj
        · rw [e9]; refine ⟨?_, by omega, by omega⟩; simp (discharger := omega) only [u2_s, u2_n, u1_n, u1_s]
        · have cA' : fP A' = N + 1 := by show (A' 0 3).toNat = _; rw [e3]; omega
          have hc7 : ∀ ρ, ρ ≤ 7 → ctR A ρ = N ∧ ctR A' ρ = N + 1 := fun ρ h => by
            unfold ctR
            rw [if_pos h, if_pos h]
            exact ⟨hNt, cA'⟩
          rcases (by omega : ρ = 1 ∨ ρ = 2 ∨ ρ = 3 ∨ ρ = 4 ∨ ρ = 5 ∨ ρ = 6 ∨ ρ = 7 ∨ 8 ≤ ρ) with rfl | rfl | rfl | rfl | rfl | rfl | rfl | h8
          · exact Or.inr (Or.inl ⟨by rw [(hc7 1 (by omega)).1, (hc7 1 (by omega)).2], kd, by rw [(hc7 1 (by omega)).1]; simp (discharger := omega) only [u2_s, u2_n]; rfl, by rw [(hc7 1 (by omega)).1, eA]; simp (discharger := omega) only [u2_s, u2_n]⟩)
          · exact Or.inr (Or.inl ⟨by rw [(hc7 2 (by omega)).1, (hc7 2 (by omega)).2], bI rb, by rw [(hc7 2 (by omega)).1]; simp (discharger := omega) only [u2_s, u2_n]; rfl, by rw [(hc7 2 (by omega)).1, eA]; simp (discharger := omega) only [u2_s, u2_n]⟩)
          · exact Or.inr (Or.inl ⟨by rw [(hc7 3 (by omega)).1, (hc7 3 (by omega)).2], x, by rw [(hc7 3 (by omega)).1]; simp (discharger := omega) only [u2_s, u2_n]; rfl, by rw [(hc7 3 (by omega)).1, eA]; simp (discharger := omega) only [u2_s, u2_n]⟩)
          · exact Or.inr (Or.inl ⟨by rw [(hc7 4 (by omega)).1, (hc7 4 (by omega)).2], xs, by rw [(hc7 4 (by omega)).1]; simp (discharger := omega) only [u2_s, u2_n]; rfl, by rw [(hc7 4 (by omega)).1, eA]; simp (discharger := omega) only [u2_s, u2_n]⟩)
          · exact Or.inr (Or.inl ⟨by rw [(hc7 5 (by omega)).1, (hc7 5 (by omega)).2], xe, by rw [(hc7 5 (by omega)).1]; simp (discharger := omega) only [u2_s, u2_n]; rfl, by rw [(hc7 5 (by omega)).1, eA]; simp (discharger := omega) only [u2_s, u2_n]⟩)
          · exact Or.inr (Or.inl ⟨by rw [(hc7 6 (by omega)).1, (hc7 6 (by omega)).2], xf, by rw [(hc7 6 (by omega)).1]; simp (discharger := omega) only [u2_s, u2_n]; rfl, by rw [(hc7 6 (by omega)).1, eA]; simp (discharger := omega) only [u2_s, u2_n]⟩)
          · exact Or.inr (Or.inl ⟨by rw [(hc7 7 (by omega)).1, (hc7 7 (by omega)).2], -2, by rw [(hc7 7 (by omega)).1]; simp (discharger := omega) only [u2_s, u2_n]; rfl, by rw [(hc7 7 (by omega)).1, eA]; simp (discharger := omega) only [u2_s, u2_n]⟩)
          · refine Or.inl ⟨?_, ?_, ?_⟩
            · unfold ctR fPl fBu fSe fDi
              rw [if_neg (by omega), if_neg (show ¬ ρ ≤ 7 by omega), e0 4 (by decide) (by decide), e0 5 (by decide) (by decide), e0 6 (by decide) (by decide), e0 8 (by decide) (by decide)]
            · simp (discharger := omega) only [u2_n]
            · rw [eA]; simp (discharger := omega) only [u2_n]
        · rw [e9, hN9]
        · rw [hNt9, u2_s]
        · rw [hNt9]; simp (discharger := omega) only [u2_s, u2_n]; rfl
        · rw [hNt9]; simp (discharger := omega) only [u2_s, u2_n]
        · rw [hNt9, eA]; simp (discharger := omega) only [u2_s, u2_n]
        · rw [hNt9, eA]; simp (discharger := omega) only [u2_s, u2_n]
        · rw [hNt9, eA]; simp (discharger := omega) only [u2_s, u2_n]
      · simp (discharger := omega) only [u2_n]
      · rw [u2_n (by omega)]
      · simp (discharger := omega) only [u2_n]; exact z5
    refine y_ifb_eq 210 dX12_readPersonLine_203 (by decide) (fun h2 => ?_) (fun h2 => ?_)
    · refine y_iconst dX12_readPersonLine_210 ?_
      refine (show X _ _ 211 _ _ _ _ _ _ from ?_)
      rw [h2] at t2 ⊢
      exact t2
    · refine y_iconst dX12_readPersonLine_206 ?_
      refine x_goto 211 dX12_readPersonLine_207 (by decide) ?_
      refine (show X _ _ 211 _ _ _ _ _ _ from ?_)
      rw [h2] at t2 ⊢
      exact t2
end C9v
