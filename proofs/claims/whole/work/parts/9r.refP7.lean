/-! ===== the reference's reader: diaries, buys ===== -/
theorem ebM2 {t : Nat → Int} {e : Nat} {A : Nat → Nat → Int} {σ : SG} {c : Int} {P : Int → Prop} [DecidablePred P] {k : Int → Nat → PR} : pbS σ (fun i => eM t e A i c fun x s i => if P x then .inl (3, s) else k x i) = pbS (sG t e (if P (vK t e A c σ) then sF t e 3 (sK t e A c σ) else sK t e A c σ)) (fun i => k (vK t e A c σ) i) := by
  cases σ with
  | inl d =>
    rw [show (if P (vK t e A c (.inl d)) then sF t e 3 (sK t e A c (.inl d)) else sK t e A c (.inl d)) = .inl d from by split <;> rfl]
    rfl
  | inr i =>
    by_cases h : nmB t e A c i = true
    · rw [show sK t e A c (.inr i) = .inr i from if_pos h, show vK t e A c (.inr i) = nmX t e A i from if_pos h]
      refine (if_pos h).trans ?_
      by_cases hp : P (nmX t e A i)
      · rw [if_pos hp, if_pos hp]; rfl
      · rw [if_neg hp, if_neg hp]; rfl
    · rw [show sK t e A c (.inr i) = .inl (nxC t e i 2, tkS t e i) from if_neg h]
      refine (if_neg h).trans ?_
      rw [show (if P (vK t e A c (.inr i)) then sF t e 3 (.inl (nxC t e i 2, tkS t e i)) else .inl (nxC t e i 2, tkS t e i)) = (.inl (nxC t e i 2, tkS t e i) : SG) from by split <;> rfl]
      rfl
theorem ebM3 {t : Nat → Int} {e : Nat} {A : Nat → Nat → Int} {σ : SG} {c : Int} {P : Int → Prop} [DecidablePred P] {k : Int → Nat → PR} : pbS σ (fun i => eM t e A i c fun x s i => if P x then k x i else .inl (3, s)) = pbS (sG t e (if P (vK t e A c σ) then sK t e A c σ else sF t e 3 (sK t e A c σ))) (fun i => k (vK t e A c σ) i) := by
  cases σ with
  | inl d =>
    rw [show (if P (vK t e A c (.inl d)) then sK t e A c (.inl d) else sF t e 3 (sK t e A c (.inl d))) = .inl d from by split <;> rfl]
    rfl
  | inr i =>
    by_cases h : nmB t e A c i = true
    · rw [show sK t e A c (.inr i) = .inr i from if_pos h, show vK t e A c (.inr i) = nmX t e A i from if_pos h]
      refine (if_pos h).trans ?_
      by_cases hp : P (nmX t e A i)
      · rw [if_pos hp, if_pos hp]; rfl
      · rw [if_neg hp, if_neg hp]; rfl
    · rw [show sK t e A c (.inr i) = .inl (nxC t e i 2, tkS t e i) from if_neg h]
      refine (if_neg h).trans ?_
      rw [show (if P (vK t e A c (.inr i)) then .inl (nxC t e i 2, tkS t e i) else sF t e 3 (.inl (nxC t e i 2, tkS t e i))) = (.inl (nxC t e i 2, tkS t e i) : SG) from by split <;> rfl]
      rfl
section C9r
variable {g : GG} {T : Nat → Nat × Nat} {V A : Nat → Nat → Int} {R : Nat → Nat → Option Nat} {J : Nat → Nat → Int64} {z k n : Nat} {r f e i : Nat} {t : Nat → Int}
theorem sX_k {P : Prop} [Decidable P] {A : Nat → Nat → Int} {c : Int} {σ : SG} : ∀ i, (if P then sF t e 3 (sK t e A c σ) else sK t e A c σ) = .inr i → tkK t e i ≠ 4 := fun i h => by
  split at h
  · exact sF_sG i h
  · exact sK_k i h
theorem z_readDiary {s : Bool} (hX : MX T R r f t e) (hV : VP A) (hZ : MZ t V J A r f e (.inr i)) (hk : tkK t e i = 1) : X g mX12_readDiary 0 [.ref r, .int (iI (bI s)), jk, jk] [] (T, iV V, R, J, z) k n (LQ T R J z t V A r f e (pbS (sBg t e A (A 0 8) 8 i) (fun i => pDiar t e A i (1 - bI s)))) := by
  obtain ⟨hM, hG, hrf, hap, hb, he⟩ := id hX
  obtain ⟨⟨y1, y2⟩, -, -, -, -, -, -, -, ⟨p1, p2⟩, -⟩ := id hV.1
  obtain ⟨m0, -, -⟩ := id hM
  obtain ⟨g0, ⟨-, -, -, -, -, -, -, -, -, -, -, -, -, -, -, -, -, g27, g28, g29, -, -, -⟩, ⟨-, -, -, -, -, -, -, -, -, -, -, -, -, -, -, -, -, gk18, gk19, gk20, -, -, -⟩⟩ := id hG
  unfold pDiar
  rw [ebN, ebM]
  refine x_aload_n dX12_readDiary_0 rfl ?_
  refine x_aload_n dX12_readDiary_1 rfl ?_
  refine x_gr dX12_readDiary_2 fX12_172 (by first | assumption) (fun _ _ _ => rfl) (by first | assumption) ?_
  refine y_gi dX12_readDiary_5 fX12_390 (by first | assumption) (fun _ _ _ => rfl) ?_
  refine (show X _ _ 8 _ _ _ _ _ _ from ?_)
  refine X.val (hZ.2.2.1.1.1 8 (by decide)) ?_
  refine y_bipush dX12_readDiary_8 rfl ?_
  refine (show X _ _ 10 _ _ _ _ _ _ from ?_)
  refine x_callV (As := [_, _]) (mc := 0) (ms := 0) (z := mX12_begins) (ci := 12) dX12_readDiary_10 lX12_291 oX12_begins (by decide) (by first | assumption) rfl rfl (Nat.le_of_ble_eq_true rfl) (Nat.le_of_ble_eq_true rfl) rfl (z_begins hX hZ hk ⟨by omega, by omega⟩ ⟨by omega, by omega⟩ ⟨by omega, by omega⟩) (fun v M1 hq => ?_)
  obtain ⟨rfl, V1, J1, rfl, hK1, hZ1⟩ := hq
  obtain ⟨σ0, hσ0⟩ : ∃ s, sBg t e A (A 0 8) 8 i = s := ⟨_, rfl⟩
  rw [hσ0] at hZ1 ⊢
  refine (show X _ _ 13 _ _ _ _ _ _ from ?_)
  refine x_aload_n dX12_readDiary_13 rfl ?_
  refine y_iconst dX12_readDiary_14 ?_
  refine (show X _ _ 15 _ _ _ _ _ _ from ?_)
  refine x_callV (As := [_]) (mc := 0) (ms := 0) (z := mX12_readYear) (ci := 12) dX12_readDiary_15 lX12_312 oX12_readYear (by decide) (by first | assumption) rfl rfl (Nat.le_of_ble_eq_true rfl) (Nat.le_of_ble_eq_true rfl) rfl (z_readYear hX hZ1 ⟨by decide, by decide⟩ ⟨by omega, by omega⟩) (fun v M1 hq => ?_)
  obtain ⟨rfl, V2, J2, rfl, hK2, hZ2⟩ := hq
  obtain ⟨σ1, hσ1⟩ : ∃ s, sN t e 0 (A 0 0 - 1) σ0 = s := ⟨_, rfl⟩
  rw [hσ1] at hZ2 ⊢
  refine (show X _ _ 18 _ _ _ _ _ _ from ?_)
  refine x_istore_n dX12_readDiary_18 (by decide) rfl rfl ?_
  refine x_aload_n dX12_readDiary_19 rfl ?_
  refine (show X _ _ 20 _ _ _ _ _ _ from ?_)
  refine x_callV (As := []) (mc := 0) (ms := 0) (z := mX12_readPerson) (ci := 12) dX12_readDiary_20 lX12_340 oX12_readPerson (by decide) (by first | assumption) rfl rfl (Nat.le_of_ble_eq_true rfl) (Nat.le_of_ble_eq_true rfl) rfl (z_readPerson hX hZ2) (fun v M1 hq => ?_)
  obtain ⟨rfl, V3, J3, rfl, hK3, hZ3⟩ := hq
  obtain ⟨σ2, hσ2⟩ : ∃ s, sG t e (sK t e A 0 σ1) = s := ⟨_, rfl⟩
  rw [hσ2] at hZ3 ⊢
  refine (show X _ _ 23 _ _ _ _ _ _ from ?_)
  obtain ⟨Vz, hVz⟩ : ∃ v, V3 = v := ⟨_, rfl⟩
  obtain ⟨Jz, hJz⟩ : ∃ v, J3 = v := ⟨_, rfl⟩
  rw [hVz, hJz] at hZ3 hK3 ⊢
  have hZz := hZ3
  have hK : KS V Vz J Jz r := KS_t hK1 (KS_t hK2 hK3)
  clear hK1 hK2 hK3 hZ1 hZ2 hZ hZ3
  generalize vN t e 0 (A 0 0 - 1) σ0 = xy at *
  generalize vK t e A 0 σ1 = xp at *
  cases σ2 with
  | inl c =>
    refine x_istore_n dX12_readDiary_23 (by decide) rfl rfl ?_
    refine x_aload_n dX12_readDiary_24 rfl ?_
    refine y_gi dX12_readDiary_25 fX12_113 (by first | assumption) (fun _ _ _ => rfl) ?_
    refine (show X _ _ 28 _ _ _ _ _ _ from ?_)
    refine X.val (b := 5) hZz.2.2.2.1 ?_
    refine y_iconst dX12_readDiary_28 ?_
    refine (show X _ _ 29 _ _ _ _ _ _ from ?_)
    refine y_icmp_ne 33 dX12_readDiary_29 (by decide) ⟨by omega, by omega⟩ ⟨by omega, by omega⟩ (fun h => ?_) (fun h => ?_)
    · omega
    exact x_return dX12_readDiary_32 rfl ⟨rfl, Vz, Jz, rfl, KL_S hK, hZz⟩
  | inr i6 =>
    obtain ⟨z1, z2, z3, z4, z5⟩ := id hZz
    have hsr := srt_r (tkK_b t e i6)
    have h12 : A 0 8 < 8 := by
      have : ∃ j, σ0 = .inr j := by
        obtain ⟨j1, hj, -⟩ := sG_v hσ2
        rw [(sK_v hj).1] at hσ1
        obtain ⟨-, -, j0, hj⟩ := vN_v hσ1
        exact ⟨j0, hj⟩
      obtain ⟨j, hj⟩ := this
      rw [hj] at hσ0
      unfold sBg at hσ0
      split at hσ0
      · cases hσ0
      · omega
    have f4 : Vz f 8 = A 0 8 := z3.1.1 8 (by decide)
    obtain ⟨N, hN⟩ : ∃ N : Nat, A 0 8 = (N : Int) := ⟨(A 0 8).toNat, by omega⟩
    rw [hN] at f4
    have hNt : (A 0 8).toNat = N := by omega
    refine x_istore_n dX12_readDiary_23 (by decide) rfl rfl ?_
    refine x_aload_n dX12_readDiary_24 rfl ?_
    refine y_gi dX12_readDiary_25 fX12_113 (by first | assumption) (fun _ _ _ => rfl) ?_
    refine (show X _ _ 28 _ _ _ _ _ _ from ?_)
    refine X.val z4.2.2.1 ?_
    refine y_iconst dX12_readDiary_28 ?_
    refine (show X _ _ 29 _ _ _ _ _ _ from ?_)
    refine y_icmp_ne 33 dX12_readDiary_29 (by decide) ⟨by omega, by omega⟩ ⟨by omega, by omega⟩ (fun h => ?_) (fun h => ?_)
    rotate_left
    · omega
    refine x_aload_n dX12_readDiary_33 rfl ?_
    refine x_gr dX12_readDiary_34 fX12_172 (by first | assumption) (fun _ _ _ => rfl) (by first | assumption) ?_
    refine x_gr dX12_readDiary_37 fX12_393 (by first | assumption) (fun _ _ _ => rfl) (by first | assumption) ?_
    refine x_aload_n dX12_readDiary_40 rfl ?_
    refine x_gr dX12_readDiary_41 fX12_172 (by first | assumption) (fun _ _ _ => rfl) (by first | assumption) ?_
    refine y_gi dX12_readDiary_44 fX12_390 (by first | assumption) (fun _ _ _ => rfl) ?_
    refine (show X _ _ 47 _ _ _ _ _ _ from ?_)
    refine X.val (b := (N : Int)) (by exact f4) ?_
    refine x_iload_n dX12_readDiary_47 rfl ?_
    refine y_iast (N) dX12_readDiary_48 (by first | assumption) (by first | rfl | omega) (by omega) (by decide) ?_
    refine x_aload_n dX12_readDiary_49 rfl ?_
    refine x_gr dX12_readDiary_50 fX12_172 (by first | assumption) (fun _ _ _ => rfl) (by first | assumption) ?_
    refine x_gr dX12_readDiary_53 fX12_396 (by first | assumption) (fun _ _ _ => rfl) (by first | assumption) ?_
    refine x_aload_n dX12_readDiary_56 rfl ?_
    refine x_gr dX12_readDiary_57 fX12_172 (by first | assumption) (fun _ _ _ => rfl) (by first | assumption) ?_
    refine y_gi dX12_readDiary_60 fX12_390 (by first | assumption) (fun _ _ _ => rfl) ?_
    refine (show X _ _ 63 _ _ _ _ _ _ from ?_)
    refine X.val (b := (N : Int)) (by rw [u2_n (by omega)]; exact f4) ?_
    refine x_iload_n dX12_readDiary_63 rfl ?_
    refine y_iast (N) dX12_readDiary_64 (by first | assumption) (by first | rfl | omega) (by omega) (by decide) ?_
    refine x_aload_n dX12_readDiary_65 rfl ?_
    refine x_gr dX12_readDiary_66 fX12_172 (by first | assumption) (fun _ _ _ => rfl) (by first | assumption) ?_
    refine x_gr dX12_readDiary_69 fX12_399 (by first | assumption) (fun _ _ _ => rfl) (by first | assumption) ?_
    refine x_aload_n dX12_readDiary_72 rfl ?_
    refine x_gr dX12_readDiary_73 fX12_172 (by first | assumption) (fun _ _ _ => rfl) (by first | assumption) ?_
    refine y_gi dX12_readDiary_76 fX12_390 (by first | assumption) (fun _ _ _ => rfl) ?_
    refine (show X _ _ 79 _ _ _ _ _ _ from ?_)
    refine X.val (b := (N : Int)) (by rw [u2_n (by omega), u2_n (by omega)]; exact f4) ?_
    refine x_iload_n dX12_readDiary_79 rfl ?_
    refine y_zast (N) dX12_readDiary_80 (by first | assumption) (by first | rfl | omega) (by omega) (by decide) (by first | rfl | exact bI_nar _) ?_
    refine x_aload_n dX12_readDiary_81 rfl ?_
    refine x_gr dX12_readDiary_82 fX12_172 (by first | assumption) (fun _ _ _ => rfl) (by first | assumption) ?_
    refine x_dup dX12_readDiary_85 rfl ?_
    refine y_gi dX12_readDiary_86 fX12_390 (by first | assumption) (fun _ _ _ => rfl) ?_
    refine (show X _ _ 89 _ _ _ _ _ _ from ?_)
    refine X.val (b := (N : Int)) (by rw [u2_n (by omega), u2_n (by omega), u2_n (by omega)]; exact f4) ?_
    refine y_iconst dX12_readDiary_89 ?_
    refine y_iadd dX12_readDiary_90 ?_
    refine y_pi dX12_readDiary_91 (pX12_390 _) (by first | assumption) (fun _ _ _ => rfl) rfl rfl ?_
    refine (show X _ _ 94 _ _ _ _ _ _ from ?_)
    refine x_return dX12_readDiary_94 rfl ⟨rfl, _, Jz, rfl, ⟨fun b h1 h2 => ?_, fun c hc => ?_, fun b h1 _ => hK.2.2 b h1⟩, ?_, ?_, ?_, TK_f z4 ?_ rfl, ?_⟩
    · rw [u2_n (by omega), u2_n (by omega), u2_n (by omega), u2_n (by omega)]; exact hK.1 b h1
    · rw [u2_n (by omega), u2_n (by omega), u2_n (by omega), u2_n (by omega)]; exact hK.2.1 c hc
    · rw [u2_n (by omega), u2_n (by omega), u2_n (by omega), u2_n (by omega)]; exact z1
    · rw [u2_n (by omega), u2_n (by omega), u2_n (by omega), u2_n (by omega)]; exact z2
    · have eA : aDiar A xy xp (1 - bI s) = u2 (u2 (u2 (u2 A 18 N xy) 19 N xp) 20 N (1 - bI s)) 0 8 ((N : Int) + 1) := by unfold aDiar; rw [hNt, hN]
      have e0 : ∀ c, c ≠ 8 → (aDiar A xy xp (1 - bI s)) 0 c = A 0 c := fun c hc => by rw [eA, u2_s, u1_n hc, u2_n (by decide), u2_n (by decide), u2_n (by decide)]
      have e4 : (aDiar A xy xp (1 - bI s)) 0 8 = (N : Int) + 1 := by rw [eA, u2_s, u1_s]
      show MF _ _ f (aDiar A xy xp (1 - bI s))
      refine MF_up z3 (fun j hj => ?_) ?_ (fun ρ r1 r2 => ?_) (Or.inl ?_)
      · by_cases hj2 : j = 8
        · subst hj2; rw [e4, u2_s, u1_s]
        · rw [e0 j hj2, u2_s, u1_n hj2, u2_n (by omega), u2_n (by omega), u2_n (by omega)]; exact z3.1.1 j hj
      · rw [e0 9 (by decide), u2_s, u1_n (by decide), u2_n (by omega), u2_n (by omega), u2_n (by omega)]; exact ⟨z3.2.1, z3.2.2.1⟩
      · have cA' : fDi (aDiar A xy xp (1 - bI s)) = N + 1 := by show ((aDiar A xy xp (1 - bI s)) 0 8).toNat = _; rw [e4]; omega
        rcases (by omega : ρ = 18 ∨ ρ = 19 ∨ ρ = 20 ∨ (ρ < 18 ∨ 20 < ρ)) with rfl | rfl | rfl | h8
        · have cA : ctR A 18 = N := hNt
          exact Or.inr (Or.inl ⟨by rw [cA]; exact cA', xy, by rw [cA]; simp (discharger := omega) only [u2_s, u2_n]; rfl, by rw [cA, eA]; simp (discharger := omega) only [u2_s, u2_n]⟩)
        · have cA : ctR A 19 = N := hNt
          exact Or.inr (Or.inl ⟨by rw [cA]; exact cA', xp, by rw [cA]; simp (discharger := omega) only [u2_s, u2_n]; rfl, by rw [cA, eA]; simp (discharger := omega) only [u2_s, u2_n]⟩)
        · have cA : ctR A 20 = N := hNt
          exact Or.inr (Or.inl ⟨by rw [cA]; exact cA', (1 - bI s), by rw [cA]; simp (discharger := omega) only [u2_s, u2_n]; rw [if_pos trivial]; congr 1; omega, by rw [cA, eA]; simp (discharger := omega) only [u2_s, u2_n]⟩)
        · refine Or.inl ⟨?_, ?_, ?_⟩
          · unfold ctR fP fPl fBu fSe fDi
            rw [e0 3 (by decide), e0 4 (by decide), e0 5 (by decide), e0 6 (by decide)]
            by_cases h7 : ρ ≤ 7
            · rw [if_pos h7, if_pos h7]
            rw [if_neg h7, if_neg h7]
            by_cases h11 : ρ ≤ 11
            · first | omega | rw [if_pos h11, if_pos h11]
            rw [if_neg h11, if_neg h11]
            by_cases h15 : ρ ≤ 15
            · first | omega | rw [if_pos h15, if_pos h15]
            rw [if_neg h15, if_neg h15]
            by_cases h16 : ρ = 16
            · rw [if_pos h16, if_pos h16]
            rw [if_neg h16, if_neg h16]
            by_cases h17 : ρ = 17
            · rw [if_pos h17, if_pos h17]
            first | omega | rw [if_neg h17, if_neg h17]
          · simp (discharger := omega) only [u2_n]
          · rw [eA]; simp (discharger := omega) only [u2_n]
      · refine ⟨e0 9 (by decide), rfl, ⟨?_, ?_⟩, ?_, ?_, ?_⟩
        · simp (discharger := omega) only [u2_n]
        · simp (discharger := omega) only [u2_n]
        · rw [eA]; simp (discharger := omega) only [u2_n]
        · rw [eA]; simp (discharger := omega) only [u2_n]
        · rw [eA]; simp (discharger := omega) only [u2_n]
    · rw [u2_n (by omega), u2_n (by omega), u2_n (by omega), u2_n (by omega)]
    · rw [u2_n (by omega), u2_n (by omega), u2_n (by omega), u2_n (by omega)]; exact z5
theorem z_readBuys (hX : MX T R r f t e) (hV : VP A) (hZ : MZ t V J A r f e (.inr i)) (hk : tkK t e i = 1) : X g mX12_readBuys 0 [.ref r, jk, jk, jk, jk] [] (T, iV V, R, J, z) k n (LQ T R J z t V A r f e (pbS (sBg t e A (A 0 5) 8 i) (fun i => pBuys t e A i))) := by
  obtain ⟨hM, hG, hrf, hap, hb, he⟩ := id hX
  obtain ⟨⟨y1, y2⟩, -, -, -, -, ⟨p1, p2⟩, -⟩ := id hV.1
  obtain ⟨m0, -, -⟩ := id hM
  obtain ⟨g0, ⟨-, -, -, -, -, -, -, -, -, -, -, g21, g22, g23, g24, -, -, -, -, -, -, -, -⟩, ⟨-, -, -, -, -, -, -, -, -, -, -, gk12, gk13, gk14, gk15, -, -, -, -, -, -, -, -⟩⟩ := id hG
  unfold pBuys
  rw [ebN, ebM, ebM2, ebW, ebN]
  refine x_aload_n dX12_readBuys_0 rfl ?_
  refine x_aload_n dX12_readBuys_1 rfl ?_
  refine x_gr dX12_readBuys_2 fX12_172 (by first | assumption) (fun _ _ _ => rfl) (by first | assumption) ?_
  refine y_gi dX12_readBuys_5 fX12_359 (by first | assumption) (fun _ _ _ => rfl) ?_
  refine (show X _ _ 8 _ _ _ _ _ _ from ?_)
  refine X.val (hZ.2.2.1.1.1 5 (by decide)) ?_
  refine y_bipush dX12_readBuys_8 rfl ?_
  refine (show X _ _ 10 _ _ _ _ _ _ from ?_)
  refine x_callV (As := [_, _]) (mc := 0) (ms := 0) (z := mX12_begins) (ci := 12) dX12_readBuys_10 lX12_291 oX12_begins (by decide) (by first | assumption) rfl rfl (Nat.le_of_ble_eq_true rfl) (Nat.le_of_ble_eq_true rfl) rfl (z_begins hX hZ hk ⟨by omega, by omega⟩ ⟨by omega, by omega⟩ ⟨by omega, by omega⟩) (fun v M1 hq => ?_)
  obtain ⟨rfl, V1, J1, rfl, hK1, hZ1⟩ := hq
  obtain ⟨σ0, hσ0⟩ : ∃ s, sBg t e A (A 0 5) 8 i = s := ⟨_, rfl⟩
  rw [hσ0] at hZ1 ⊢
  refine (show X _ _ 13 _ _ _ _ _ _ from ?_)
  refine x_aload_n dX12_readBuys_13 rfl ?_
  refine y_iconst dX12_readBuys_14 ?_
  refine (show X _ _ 15 _ _ _ _ _ _ from ?_)
  refine x_callV (As := [_]) (mc := 0) (ms := 0) (z := mX12_readYear) (ci := 12) dX12_readBuys_15 lX12_312 oX12_readYear (by decide) (by first | assumption) rfl rfl (Nat.le_of_ble_eq_true rfl) (Nat.le_of_ble_eq_true rfl) rfl (z_readYear hX hZ1 ⟨by decide, by decide⟩ ⟨by omega, by omega⟩) (fun v M1 hq => ?_)
  obtain ⟨rfl, V2, J2, rfl, hK2, hZ2⟩ := hq
  obtain ⟨σ1, hσ1⟩ : ∃ s, sN t e 0 (A 0 0 - 1) σ0 = s := ⟨_, rfl⟩
  rw [hσ1] at hZ2 ⊢
  refine (show X _ _ 18 _ _ _ _ _ _ from ?_)
  refine x_istore_n dX12_readBuys_18 (by decide) rfl rfl ?_
  refine x_aload_n dX12_readBuys_19 rfl ?_
  refine (show X _ _ 20 _ _ _ _ _ _ from ?_)
  refine x_callV (As := []) (mc := 0) (ms := 0) (z := mX12_readPerson) (ci := 12) dX12_readBuys_20 lX12_340 oX12_readPerson (by decide) (by first | assumption) rfl rfl (Nat.le_of_ble_eq_true rfl) (Nat.le_of_ble_eq_true rfl) rfl (z_readPerson hX hZ2) (fun v M1 hq => ?_)
  obtain ⟨rfl, V3, J3, rfl, hK3, hZ3⟩ := hq
  obtain ⟨σ2, hσ2⟩ : ∃ s, sG t e (sK t e A 0 σ1) = s := ⟨_, rfl⟩
  rw [hσ2] at hZ3 ⊢
  refine (show X _ _ 23 _ _ _ _ _ _ from ?_)
  refine x_istore_n dX12_readBuys_23 (by decide) rfl rfl ?_
  refine x_aload_n dX12_readBuys_24 rfl ?_
  refine y_iconst dX12_readBuys_25 ?_
  refine (show X _ _ 26 _ _ _ _ _ _ from ?_)
  refine x_callV (As := [_]) (mc := 0) (ms := 0) (z := mX12_known) (ci := 12) dX12_readBuys_26 lX12_220 oX12_known (by decide) (by first | assumption) rfl rfl (Nat.le_of_ble_eq_true rfl) (Nat.le_of_ble_eq_true rfl) rfl (z_known ⟨by decide, by decide⟩ hX hZ3) (fun v M1 hq => ?_)
  obtain ⟨rfl, V4, J4, rfl, hK4, hZ4⟩ := hq
  refine (show X _ _ 29 _ _ _ _ _ _ from ?_)
  obtain ⟨w1, w2⟩ : R32 (vK t e A 0 σ1) := vK_b hV
  obtain ⟨w3, w4⟩ : R32 (vK t e A 0 σ2) := vK_b hV
  have tl : ∀ V5 J5, KS V4 V5 J4 J5 r → MZ t V5 J5 A r f e (if vK t e A 0 σ2 = vK t e A 0 σ1 then sF t e 3 (sK t e A 0 σ2) else sK t e A 0 σ2) → X g mX12_readBuys 48 [.ref r, .int (iI (vN t e 0 (A 0 0 - 1) σ0)), .int (iI (vK t e A 0 σ1)), .int (iI (vK t e A 0 σ2)), jk] [] (T, iV V5, R, J5, z) k n (LQ T R J z t V A r f e (pbS (sN t e 0 99 (sNd t e 21 (sG t e (if vK t e A 0 σ2 = vK t e A 0 σ1 then sF t e 3 (sK t e A 0 σ2) else sK t e A 0 σ2)))) (fun i => .inr (aBuys A (vN t e 0 (A 0 0 - 1) σ0) (vK t e A 0 σ1) (vK t e A 0 σ2) (vN t e 0 99 (sNd t e 21 (sG t e (if vK t e A 0 σ2 = vK t e A 0 σ1 then sF t e 3 (sK t e A 0 σ2) else sK t e A 0 σ2)))), i)))) := by
    intro V5 J5 hK5 hZ5
    refine x_aload_n dX12_readBuys_48 rfl ?_
    refine (show X _ _ 49 _ _ _ _ _ _ from ?_)
    refine x_callV (As := []) (mc := 0) (ms := 0) (z := mX12_goesOn) (ci := 12) dX12_readBuys_49 lX12_149 oX12_goesOn (by decide) (by first | assumption) rfl rfl (Nat.le_of_ble_eq_true rfl) (Nat.le_of_ble_eq_true rfl) rfl (z_goes hX hZ5 sX_k) (fun v M1 hq => ?_)
    obtain ⟨rfl, V6, J6, rfl, hK6, hZ6⟩ := hq
    refine (show X _ _ 52 _ _ _ _ _ _ from ?_)
    obtain ⟨σ4, hσ4⟩ : ∃ s, sG t e (if vK t e A 0 σ2 = vK t e A 0 σ1 then sF t e 3 (sK t e A 0 σ2) else sK t e A 0 σ2) = s := ⟨_, rfl⟩
    rw [hσ4] at hZ6 ⊢
    refine x_aload_n dX12_readBuys_52 rfl ?_
    refine x_ldcsw dX12_readBuys_53 sX12_361 ?_
    refine y_iconst dX12_readBuys_56 ?_
    refine y_bipush dX12_readBuys_57 rfl ?_
    refine (show X _ _ 59 _ _ _ _ _ _ from ?_)
    refine x_callV (As := [_, _, _]) (mc := 0) (ms := 0) (z := mX12_readPart) (ci := 12) dX12_readBuys_59 lX12_259 oX12_readPart (by decide) (by first | assumption) rfl rfl (Nat.le_of_ble_eq_true rfl) (Nat.le_of_ble_eq_true rfl) rfl (z_readPart hX hZ6 (by decide) ⟨by decide, by decide⟩ ⟨by decide, by decide⟩) (fun v M1 hq => ?_)
    obtain ⟨rfl, Vz, Jz, rfl, hK7, hZz⟩ := hq
    refine (show X _ _ 62 _ _ _ _ _ _ from ?_)
    obtain ⟨σ5, hσ5⟩ : ∃ s, sN t e 0 99 (sNd t e 21 σ4) = s := ⟨_, rfl⟩
    rw [hσ5] at hZz ⊢
    have hK : KS V Vz J Jz r := KS_t hK1 (KS_t hK2 (KS_t hK3 (KS_t hK4 (KS_t hK5 (KS_t hK6 hK7)))))
    clear hK1 hK2 hK3 hK4 hK5 hK6 hK7 hZ1 hZ2 hZ3 hZ4 hZ5 hZ6 hZ
    have hσ4' : ∀ j, σ4 = .inr j → ∃ j', sK t e A 0 σ2 = .inr j' := fun j hj => by
      rw [hj] at hσ4
      obtain ⟨j', hj, -⟩ := sG_v hσ4
      split at hj
      · cases h : sK t e A 0 σ2 with
        | inl c => rw [h] at hj; cases hj
        | inr q => exact ⟨q, rfl⟩
      · exact ⟨j', hj⟩
    clear hσ4
    generalize vN t e 0 (A 0 0 - 1) σ0 = xy at *
    generalize vK t e A 0 σ1 = xp at *
    generalize vK t e A 0 σ2 = xq at *
    generalize vN t e 0 99 (sNd t e 21 σ4) = xc at *
    cases σ5 with
    | inl c =>
      refine x_istore dX12_readBuys_62 (by decide) rfl rfl ?_
      refine x_aload_n dX12_readBuys_64 rfl ?_
      refine y_gi dX12_readBuys_65 fX12_113 (by first | assumption) (fun _ _ _ => rfl) ?_
      refine (show X _ _ 68 _ _ _ _ _ _ from ?_)
      refine X.val (b := 5) hZz.2.2.2.1 ?_
      refine y_iconst dX12_readBuys_68 ?_
      refine (show X _ _ 69 _ _ _ _ _ _ from ?_)
      refine y_icmp_ne 73 dX12_readBuys_69 (by decide) ⟨by omega, by omega⟩ ⟨by omega, by omega⟩ (fun h => ?_) (fun h => ?_)
      · omega
      exact x_return dX12_readBuys_72 rfl ⟨rfl, Vz, Jz, rfl, KL_S hK, hZz⟩
    | inr i6 =>
      obtain ⟨z1, z2, z3, z4, z5⟩ := id hZz
      have hsr := srt_r (tkK_b t e i6)
      have h12 : A 0 5 < 8 := by
        have : ∃ j, σ0 = .inr j := by
          obtain ⟨-, -, j4, hj⟩ := vN_v hσ5
          obtain ⟨j4, hj⟩ := sNd_v hj
          obtain ⟨j3, hj⟩ := hσ4' j4 hj
          rw [(sK_v hj).1] at hσ2
          obtain ⟨j1, hj, -⟩ := sG_v hσ2
          rw [(sK_v hj).1] at hσ1
          obtain ⟨-, -, j0, hj⟩ := vN_v hσ1
          exact ⟨j0, hj⟩
        obtain ⟨j, hj⟩ := this
        rw [hj] at hσ0
        unfold sBg at hσ0
        split at hσ0
        · cases hσ0
        · omega
      have f4 : Vz f 5 = A 0 5 := z3.1.1 5 (by decide)
      obtain ⟨N, hN⟩ : ∃ N : Nat, A 0 5 = (N : Int) := ⟨(A 0 5).toNat, by omega⟩
      rw [hN] at f4
      have hNt : (A 0 5).toNat = N := by omega
      refine x_istore dX12_readBuys_62 (by decide) rfl rfl ?_
      refine x_aload_n dX12_readBuys_64 rfl ?_
      refine y_gi dX12_readBuys_65 fX12_113 (by first | assumption) (fun _ _ _ => rfl) ?_
      refine (show X _ _ 68 _ _ _ _ _ _ from ?_)
      refine X.val z4.2.2.1 ?_
      refine y_iconst dX12_readBuys_68 ?_
      refine (show X _ _ 69 _ _ _ _ _ _ from ?_)
      refine y_icmp_ne 73 dX12_readBuys_69 (by decide) ⟨by omega, by omega⟩ ⟨by omega, by omega⟩ (fun h => ?_) (fun h => ?_)
      rotate_left
      · omega
      refine x_aload_n dX12_readBuys_73 rfl ?_
      refine x_gr dX12_readBuys_74 fX12_172 (by first | assumption) (fun _ _ _ => rfl) (by first | assumption) ?_
      refine x_gr dX12_readBuys_77 fX12_363 (by first | assumption) (fun _ _ _ => rfl) (by first | assumption) ?_
      refine x_aload_n dX12_readBuys_80 rfl ?_
      refine x_gr dX12_readBuys_81 fX12_172 (by first | assumption) (fun _ _ _ => rfl) (by first | assumption) ?_
      refine y_gi dX12_readBuys_84 fX12_359 (by first | assumption) (fun _ _ _ => rfl) ?_
      refine (show X _ _ 87 _ _ _ _ _ _ from ?_)
      refine X.val (b := (N : Int)) (by exact f4) ?_
      refine x_iload_n dX12_readBuys_87 rfl ?_
      refine y_iast (N) dX12_readBuys_88 (by first | assumption) (by first | rfl | omega) (by omega) (by decide) ?_
      refine x_aload_n dX12_readBuys_89 rfl ?_
      refine x_gr dX12_readBuys_90 fX12_172 (by first | assumption) (fun _ _ _ => rfl) (by first | assumption) ?_
      refine x_gr dX12_readBuys_93 fX12_366 (by first | assumption) (fun _ _ _ => rfl) (by first | assumption) ?_
      refine x_aload_n dX12_readBuys_96 rfl ?_
      refine x_gr dX12_readBuys_97 fX12_172 (by first | assumption) (fun _ _ _ => rfl) (by first | assumption) ?_
      refine y_gi dX12_readBuys_100 fX12_359 (by first | assumption) (fun _ _ _ => rfl) ?_
      refine (show X _ _ 103 _ _ _ _ _ _ from ?_)
      refine X.val (b := (N : Int)) (by rw [u2_n (by omega)]; exact f4) ?_
      refine x_iload_n dX12_readBuys_103 rfl ?_
      refine y_iast (N) dX12_readBuys_104 (by first | assumption) (by first | rfl | omega) (by omega) (by decide) ?_
      refine x_aload_n dX12_readBuys_105 rfl ?_
      refine x_gr dX12_readBuys_106 fX12_172 (by first | assumption) (fun _ _ _ => rfl) (by first | assumption) ?_
      refine x_gr dX12_readBuys_109 fX12_369 (by first | assumption) (fun _ _ _ => rfl) (by first | assumption) ?_
      refine x_aload_n dX12_readBuys_112 rfl ?_
      refine x_gr dX12_readBuys_113 fX12_172 (by first | assumption) (fun _ _ _ => rfl) (by first | assumption) ?_
      refine y_gi dX12_readBuys_116 fX12_359 (by first | assumption) (fun _ _ _ => rfl) ?_
      refine (show X _ _ 119 _ _ _ _ _ _ from ?_)
      refine X.val (b := (N : Int)) (by rw [u2_n (by omega), u2_n (by omega)]; exact f4) ?_
      refine x_iload_n dX12_readBuys_119 rfl ?_
      refine y_iast (N) dX12_readBuys_120 (by first | assumption) (by first | rfl | omega) (by omega) (by decide) ?_
      refine x_aload_n dX12_readBuys_121 rfl ?_
      refine x_gr dX12_readBuys_122 fX12_172 (by first | assumption) (fun _ _ _ => rfl) (by first | assumption) ?_
      refine x_gr dX12_readBuys_125 fX12_372 (by first | assumption) (fun _ _ _ => rfl) (by first | assumption) ?_
      refine x_aload_n dX12_readBuys_128 rfl ?_
      refine x_gr dX12_readBuys_129 fX12_172 (by first | assumption) (fun _ _ _ => rfl) (by first | assumption) ?_
      refine y_gi dX12_readBuys_132 fX12_359 (by first | assumption) (fun _ _ _ => rfl) ?_
      refine (show X _ _ 135 _ _ _ _ _ _ from ?_)
      refine X.val (b := (N : Int)) (by rw [u2_n (by omega), u2_n (by omega), u2_n (by omega)]; exact f4) ?_
      refine x_iload dX12_readBuys_135 rfl ?_
      refine y_iast (N) dX12_readBuys_137 (by first | assumption) (by first | rfl | omega) (by omega) (by decide) ?_
      refine x_aload_n dX12_readBuys_138 rfl ?_
      refine x_gr dX12_readBuys_139 fX12_172 (by first | assumption) (fun _ _ _ => rfl) (by first | assumption) ?_
      refine x_dup dX12_readBuys_142 rfl ?_
      refine y_gi dX12_readBuys_143 fX12_359 (by first | assumption) (fun _ _ _ => rfl) ?_
      refine (show X _ _ 146 _ _ _ _ _ _ from ?_)
      refine X.val (b := (N : Int)) (by rw [u2_n (by omega), u2_n (by omega), u2_n (by omega), u2_n (by omega)]; exact f4) ?_
      refine y_iconst dX12_readBuys_146 ?_
      refine y_iadd dX12_readBuys_147 ?_
      refine y_pi dX12_readBuys_148 (pX12_359 _) (by first | assumption) (fun _ _ _ => rfl) rfl rfl ?_
      refine (show X _ _ 151 _ _ _ _ _ _ from ?_)
      refine x_return dX12_readBuys_151 rfl ⟨rfl, _, Jz, rfl, ⟨fun b h1 h2 => ?_, fun c hc => ?_, fun b h1 _ => hK.2.2 b h1⟩, ?_, ?_, ?_, TK_f z4 ?_ rfl, ?_⟩
      · rw [u2_n (by omega), u2_n (by omega), u2_n (by omega), u2_n (by omega), u2_n (by omega)]; exact hK.1 b h1
      · rw [u2_n (by omega), u2_n (by omega), u2_n (by omega), u2_n (by omega), u2_n (by omega)]; exact hK.2.1 c hc
      · rw [u2_n (by omega), u2_n (by omega), u2_n (by omega), u2_n (by omega), u2_n (by omega)]; exact z1
      · rw [u2_n (by omega), u2_n (by omega), u2_n (by omega), u2_n (by omega), u2_n (by omega)]; exact z2
      · have eA : aBuys A xy xp xq xc = u2 (u2 (u2 (u2 (u2 A 12 N xy) 13 N xp) 14 N xq) 15 N xc) 0 5 ((N : Int) + 1) := by unfold aBuys; rw [hNt, hN]
        have e0 : ∀ c, c ≠ 5 → (aBuys A xy xp xq xc) 0 c = A 0 c := fun c hc => by rw [eA, u2_s, u1_n hc, u2_n (by decide), u2_n (by decide), u2_n (by decide), u2_n (by decide)]
        have e4 : (aBuys A xy xp xq xc) 0 5 = (N : Int) + 1 := by rw [eA, u2_s, u1_s]
        show MF _ _ f (aBuys A xy xp xq xc)
        refine MF_up z3 (fun j hj => ?_) ?_ (fun ρ r1 r2 => ?_) (Or.inl ?_)
        · by_cases hj2 : j = 5
          · subst hj2; rw [e4, u2_s, u1_s]
          · rw [e0 j hj2, u2_s, u1_n hj2, u2_n (by omega), u2_n (by omega), u2_n (by omega), u2_n (by omega)]; exact z3.1.1 j hj
        · rw [e0 9 (by decide), u2_s, u1_n (by decide), u2_n (by omega), u2_n (by omega), u2_n (by omega), u2_n (by omega)]; exact ⟨z3.2.1, z3.2.2.1⟩
        · have cA' : fBu (aBuys A xy xp xq xc) = N + 1 := by show ((aBuys A xy xp xq xc) 0 5).toNat = _; rw [e4]; omega
          rcases (by omega : ρ = 12 ∨ ρ = 13 ∨ ρ = 14 ∨ ρ = 15 ∨ (ρ < 12 ∨ 15 < ρ)) with rfl | rfl | rfl | rfl | h8
          · have cA : ctR A 12 = N := hNt
            exact Or.inr (Or.inl ⟨by rw [cA]; exact cA', xy, by rw [cA]; simp (discharger := omega) only [u2_s, u2_n]; rfl, by rw [cA, eA]; simp (discharger := omega) only [u2_s, u2_n]⟩)
          · have cA : ctR A 13 = N := hNt
            exact Or.inr (Or.inl ⟨by rw [cA]; exact cA', xp, by rw [cA]; simp (discharger := omega) only [u2_s, u2_n]; rfl, by rw [cA, eA]; simp (discharger := omega) only [u2_s, u2_n]⟩)
          · have cA : ctR A 14 = N := hNt
            exact Or.inr (Or.inl ⟨by rw [cA]; exact cA', xq, by rw [cA]; simp (discharger := omega) only [u2_s, u2_n]; rfl, by rw [cA, eA]; simp (discharger := omega) only [u2_s, u2_n]⟩)
          · have cA : ctR A 15 = N := hNt
            exact Or.inr (Or.inl ⟨by rw [cA]; exact cA', xc, by rw [cA]; simp (discharger := omega) only [u2_s, u2_n]; rfl, by rw [cA, eA]; simp (discharger := omega) only [u2_s, u2_n]⟩)
          · refine Or.inl ⟨?_, ?_, ?_⟩
            · unfold ctR fP fPl fBu fSe fDi
              rw [e0 3 (by decide), e0 4 (by decide), e0 6 (by decide), e0 8 (by decide)]
              by_cases h7 : ρ ≤ 7
              · rw [if_pos h7, if_pos h7]
              rw [if_neg h7, if_neg h7]
              by_cases h11 : ρ ≤ 11
              · first | omega | rw [if_pos h11, if_pos h11]
              rw [if_neg h11, if_neg h11]
              by_cases h15 : ρ ≤ 15
              · first | omega | rw [if_pos h15, if_pos h15]
              rw [if_neg h15, if_neg h15]
            · simp (discharger := omega) only [u2_n]
            · rw [eA]; simp (discharger := omega) only [u2_n]
        · refine ⟨e0 9 (by decide), rfl, ⟨?_, ?_⟩, ?_, ?_, ?_⟩
          · simp (discharger := omega) only [u2_n]
          · simp (discharger := omega) only [u2_n]
          · rw [eA]; simp (discharger := omega) only [u2_n]
          · rw [eA]; simp (discharger := omega) only [u2_n]
          · rw [eA]; simp (discharger := omega) only [u2_n]
      · rw [u2_n (by omega), u2_n (by omega), u2_n (by omega), u2_n (by omega), u2_n (by omega)]
      · rw [u2_n (by omega), u2_n (by omega), u2_n (by omega), u2_n (by omega), u2_n (by omega)]; exact z5
  obtain ⟨z1, z2, z3, z4⟩ := id hZ4
  refine x_istore_n dX12_readBuys_29 (by decide) rfl rfl ?_
  refine x_aload_n dX12_readBuys_30 rfl ?_
  refine y_gi dX12_readBuys_31 fX12_113 (by first | assumption) (fun _ _ _ => rfl) ?_
  refine (show X _ _ 34 _ _ _ _ _ _ from ?_)
  cases hs : sK t e A 0 σ2 with
  | inl c =>
    rw [hs] at tl hZ4 z4
    refine X.val (b := 5) z4.1 ?_
    refine y_iconst dX12_readBuys_34 ?_
    refine (show X _ _ 35 _ _ _ _ _ _ from ?_)
    refine y_icmp_eq 48 dX12_readBuys_35 (by decide) ⟨by omega, by omega⟩ ⟨by omega, by omega⟩ (fun h => ?_) (fun h => ?_)
    · exact tl V4 J4 KS_r (by rw [show (if vK t e A 0 σ2 = vK t e A 0 σ1 then sF t e 3 (.inl c) else .inl c) = (.inl c : SG) from by split <;> rfl]; exact hZ4)
    · omega
  | inr j =>
    rw [hs] at tl hZ4 z4
    have hsr := srt_r (tkK_b t e j)
    refine X.val z4.1.2.2.1 ?_
    refine y_iconst dX12_readBuys_34 ?_
    refine (show X _ _ 35 _ _ _ _ _ _ from ?_)
    refine y_icmp_eq 48 dX12_readBuys_35 (by decide) ⟨by omega, by omega⟩ ⟨by omega, by omega⟩ (fun h => ?_) (fun h => ?_)
    · omega
    refine x_iload_n dX12_readBuys_38 rfl ?_
    refine x_iload_n dX12_readBuys_39 rfl ?_
    refine (show X _ _ 40 _ _ _ _ _ _ from ?_)
    refine y_icmp_ne 48 dX12_readBuys_40 (by decide) ⟨by omega, by omega⟩ ⟨by omega, by omega⟩ (fun h2 => ?_) (fun h2 => ?_)
    · exact tl V4 J4 KS_r (by rw [if_neg (fun c => h2 c.symm)]; exact hZ4)
    · refine x_aload_n dX12_readBuys_43 rfl ?_
      refine y_iconst dX12_readBuys_44 ?_
      refine (show X _ _ 45 _ _ _ _ _ _ from ?_)
      refine x_callV (As := [_]) (mc := 0) (ms := 0) (z := mX12_flaw) (ci := 12) dX12_readBuys_45 lX12_156 oX12_flaw (by decide) (by first | assumption) rfl rfl (Nat.le_of_ble_eq_true rfl) (Nat.le_of_ble_eq_true rfl) rfl (z_flaw hX hZ4) (fun v M1 hq => ?_)
      obtain ⟨rfl, V5, J5, rfl, hK5, hZ5⟩ := hq
      refine (show X _ _ 48 _ _ _ _ _ _ from ?_)
      exact tl V5 J5 hK5 (by rw [if_pos h2.symm]; exact hZ5)
end C9r
