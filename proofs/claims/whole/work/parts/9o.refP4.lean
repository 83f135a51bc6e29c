/-! ===== the reference's reader: new names, kinds, the start of a line ===== -/
section C9o
variable {g : GG} {T : Nat → Nat × Nat} {V A : Nat → Nat → Int} {R : Nat → Nat → Option Nat} {J : Nat → Nat → Int64} {z k n : Nat} {r f e i j : Nat} {t : Nat → Int} {σ : SG}
theorem fr_dead {x : Int × Nat} {V0 : Nat → Nat → Int} {J0 : Nat → Nat → Int64} (hX : MX T R r f t e) (hK : KS V0 V J0 J r) (hZ : MZ t V J A r f e (.inl x)) : X g mX12_readFresh 12 [.ref r, jk, jk] [] (T, iV V, R, J, z) k n (fun v M => ∃ w, ZQ T R J0 z t V0 A r f e (some (.long w)) (.inl x) v M) := by
  obtain ⟨hM, hG, hrf, hap, hb, he⟩ := id hX
  obtain ⟨a1, a2, a3, a4⟩ := id hZ
  obtain ⟨f1, f2, f3, f4⟩ := id a3
  obtain ⟨m0, -, -⟩ := id hM
  have g0 := hG.1
  have h9 : V f 9 = (((A 0 9).toNat : Nat) : Int) := by rw [f2, Int.toNat_of_nonneg f3.1]
  have hfb := fdW_b (J (f + 21)) (J r 14) (A 0 9).toNat 0
  have en : ∀ (V1 : Nat → Nat → Int) (J1 : Nat → Nat → Int64), KS V0 V1 J0 J1 r → MZ t V1 J1 A r f e (.inl x) → X g mX12_readFresh 32 [.ref r, jk, jk] [] (T, iV V1, R, J1, z) k n (fun v M => ∃ w, ZQ T R J0 z t V0 A r f e (some (.long w)) (.inl x) v M) := fun V1 J1 hK1 hZ1 => by
    refine x_aload_n dX12_readFresh_32 rfl ?_
    refine x_gl dX12_readFresh_33 fX12_129 (by first | assumption) (fun _ _ _ => rfl) ?_
    refine x_lstore_n dX12_readFresh_36 (by decide) rfl rfl ?_
    refine x_aload_n dX12_readFresh_37 rfl ?_
    refine (show X _ _ 38 _ _ _ _ _ _ from ?_)
    refine x_callV (As := []) (mc := 0) (ms := 0) (z := mX12_goesOn) (ci := 12) dX12_readFresh_38 lX12_149 oX12_goesOn (by decide) (by first | assumption) rfl rfl (Nat.le_of_ble_eq_true rfl) (Nat.le_of_ble_eq_true rfl) rfl (z_goes hX hZ1 (fun i h => by cases h)) (fun v M1 hq => ?_)
    obtain ⟨rfl, V2, J2, rfl, hK2, hZ2⟩ := hq
    refine (show X _ _ 41 _ _ _ _ _ _ from ?_)
    refine x_lload_n dX12_readFresh_41 rfl ?_
    refine (show X _ _ 42 _ _ _ _ _ _ from ?_)
    exact x_lreturn dX12_readFresh_42 rfl ⟨_, rfl, V2, J2, rfl, KS_t hK1 hK2, hZ2⟩
  refine x_aload_n dX12_readFresh_12 rfl ?_
  refine x_gr dX12_readFresh_13 fX12_172 (by first | assumption) (fun _ _ _ => rfl) (by first | assumption) ?_
  refine x_aload_n dX12_readFresh_16 rfl ?_
  refine x_gl dX12_readFresh_17 fX12_129 (by first | assumption) (fun _ _ _ => rfl) ?_
  refine (show X _ _ 20 _ _ _ _ _ _ from ?_)
  refine x_callV (As := [_]) (mc := 0) (ms := 0) (z := mX11_find) (ci := 11) dX12_readFresh_20 lX12_203 oX11_find (by decide) (by first | assumption) rfl rfl (Nat.le_of_ble_eq_true rfl) (Nat.le_of_ble_eq_true rfl) rfl (c_fnd (w := J r 14) hG h9 (by omega)) (k_I ?_)
  refine (show X _ _ 23 _ _ _ _ _ _ from ?_)
  refine y_iconst dX12_readFresh_23 ?_
  refine (show X _ _ 24 _ _ _ _ _ _ from ?_)
  refine y_icmp_eq 32 dX12_readFresh_24 (by decide) ⟨by omega, by omega⟩ ⟨by omega, by omega⟩ (fun h1 => ?_) (fun h1 => ?_)
  · exact en V J hK hZ
  · refine x_aload_n dX12_readFresh_27 rfl ?_
    refine y_iconst dX12_readFresh_28 ?_
    refine (show X _ _ 29 _ _ _ _ _ _ from ?_)
    refine x_callV (As := [_]) (mc := 0) (ms := 0) (z := mX12_flaw) (ci := 12) dX12_readFresh_29 lX12_156 oX12_flaw (by decide) (by first | assumption) rfl rfl (Nat.le_of_ble_eq_true rfl) (Nat.le_of_ble_eq_true rfl) rfl (z_flaw hX hZ) (fun v M1 hq => ?_)
    obtain ⟨rfl, V1, J1, rfl, hK1, hZ1⟩ := hq
    exact en V1 J1 (KS_t hK hK1) hZ1
theorem z_readFresh (hX : MX T R r f t e) (hZ : MZ t V J A r f e σ) : X g mX12_readFresh 0 [.ref r, jk, jk] [] (T, iV V, R, J, z) k n (fun v M => ∃ w, (∀ i, σ = .inr i → nwB t e A i = true → w = lI (tkX t e i)) ∧ ZQ T R J z t V A r f e (some (.long w)) (sFr t e A σ) v M) := by
  obtain ⟨hM, hG, hrf, hap, hb, he⟩ := id hX
  obtain ⟨a1, a2, a3, a4⟩ := id hZ
  obtain ⟨f1, f2, f3, f4⟩ := id a3
  obtain ⟨m0, -, -⟩ := id hM
  have g0 := hG.1
  have h9 : V f 9 = (((A 0 9).toNat : Nat) : Int) := by rw [f2, Int.toNat_of_nonneg f3.1]
  refine x_aload_n dX12_readFresh_0 rfl ?_
  refine (show X _ _ 1 _ _ _ _ _ _ from ?_)
  refine x_callV (As := []) (mc := 0) (ms := 0) (z := mX12_isName) (ci := 12) dX12_readFresh_1 lX12_199 oX12_isName (by decide) (by first | assumption) rfl rfl (Nat.le_of_ble_eq_true rfl) (Nat.le_of_ble_eq_true rfl) rfl (z_isName hX hZ) (k_I ?_)
  refine (show X _ _ 4 _ _ _ _ _ _ from ?_)
  refine y_ifb_ne 12 dX12_readFresh_4 (by decide) (fun h1 => ?_) (fun h1 => ?_)
  rotate_left
  · refine x_aload_n dX12_readFresh_7 rfl ?_
    refine y_iconst dX12_readFresh_8 ?_
    refine (show X _ _ 9 _ _ _ _ _ _ from ?_)
    refine x_callV (As := [_]) (mc := 0) (ms := 0) (z := mX12_flaw) (ci := 12) dX12_readFresh_9 lX12_156 oX12_flaw (by decide) (by first | assumption) rfl rfl (Nat.le_of_ble_eq_true rfl) (Nat.le_of_ble_eq_true rfl) rfl (z_flaw hX hZ) (fun v M1 hq => ?_)
    obtain ⟨rfl, V1, J1, rfl, hK1, hZ1⟩ := hq
    refine (show X _ _ 12 _ _ _ _ _ _ from ?_)
    cases σ with
    | inl x => exact X.mono (fr_dead hX hK1 hZ1) (fun v M h => by obtain ⟨w, h⟩ := h; exact ⟨w, fun i h' => (by cases h'), h⟩)
    | inr i =>
      have h1 := of_decide_eq_false h1
      have hn : nwB t e A i = false := decide_eq_false (fun q => h1 q.1)
      rw [show sFr t e A (.inr i) = .inl (1, tkS t e i) from (if_neg (by rw [hn]; decide)).trans (by rw [show nxC t e i 3 = 1 from if_neg h1])]
      exact X.mono (fr_dead hX hK1 hZ1) (fun v M h => by obtain ⟨w, h⟩ := h; exact ⟨w, fun i' h' hw => (by cases h'; rw [hn] at hw; cases hw), h⟩)
  · cases σ with
    | inl x => cases h1
    | inr i =>
      have h1 := of_decide_eq_true h1
      obtain ⟨⟨b1, b2, b3, b4, b5, b6⟩, b7⟩ := id a4
      have hw := b5 h1.1
      have ex := fdW_F (a := J (f + 21)) (tkX_w h1.1) (A 0 9).toNat 0 (fun q _ hq => (f4 q (by omega)).1)
      rw [← hw] at ex
      have hfb := fdF_b A (tkX t e i) (A 0 9).toNat 0
      have efn : fdF A (tkX t e i) (A 0 9).toNat 0 = fnd A (tkX t e i) := rfl
      rw [efn] at ex hfb
      have e2 : nxC t e i 3 = 3 := if_pos h1
      refine x_aload_n dX12_readFresh_12 rfl ?_
      refine x_gr dX12_readFresh_13 fX12_172 (by first | assumption) (fun _ _ _ => rfl) (by first | assumption) ?_
      refine x_aload_n dX12_readFresh_16 rfl ?_
      refine x_gl dX12_readFresh_17 fX12_129 (by first | assumption) (fun _ _ _ => rfl) ?_
      refine (show X _ _ 20 _ _ _ _ _ _ from ?_)
      refine x_callV (As := [_]) (mc := 0) (ms := 0) (z := mX11_find) (ci := 11) dX12_readFresh_20 lX12_203 oX11_find (by decide) (by first | assumption) rfl rfl (Nat.le_of_ble_eq_true rfl) (Nat.le_of_ble_eq_true rfl) rfl (c_fnd (w := J r 14) hG h9 (by omega)) (k_I ?_)
      refine (show X _ _ 23 _ _ _ _ _ _ from ?_)
      rw [ex]
      refine y_iconst dX12_readFresh_23 ?_
      refine (show X _ _ 24 _ _ _ _ _ _ from ?_)
      refine y_icmp_eq 32 dX12_readFresh_24 (by decide) ⟨by omega, by omega⟩ ⟨by omega, by omega⟩ (fun h2 => ?_) (fun h2 => ?_)
      · have hn : nwB t e A i = true := decide_eq_true ⟨h1, by omega⟩
        rw [show sFr t e A (.inr i) = sG t e (.inr i) from if_pos hn]
        refine x_aload_n dX12_readFresh_32 rfl ?_
        refine x_gl dX12_readFresh_33 fX12_129 (by first | assumption) (fun _ _ _ => rfl) ?_
        refine x_lstore_n dX12_readFresh_36 (by decide) rfl rfl ?_
        refine x_aload_n dX12_readFresh_37 rfl ?_
        refine (show X _ _ 38 _ _ _ _ _ _ from ?_)
        refine x_callV (As := []) (mc := 0) (ms := 0) (z := mX12_goesOn) (ci := 12) dX12_readFresh_38 lX12_149 oX12_goesOn (by decide) (by first | assumption) rfl rfl (Nat.le_of_ble_eq_true rfl) (Nat.le_of_ble_eq_true rfl) rfl (z_goes hX hZ (fun i' h => by cases h; have := h1.1; omega)) (fun v M1 hq => ?_)
        obtain ⟨rfl, V2, J2, rfl, hK2, hZ2⟩ := hq
        refine (show X _ _ 41 _ _ _ _ _ _ from ?_)
        refine x_lload_n dX12_readFresh_41 rfl ?_
        refine (show X _ _ 42 _ _ _ _ _ _ from ?_)
        exact x_lreturn dX12_readFresh_42 rfl ⟨_, fun i' h' _ => (by cases h'; exact hw), rfl, V2, J2, rfl, hK2, hZ2⟩
      · have hn : nwB t e A i = false := decide_eq_false (fun q => by have := q.2; omega)
        rw [show sFr t e A (.inr i) = .inl (3, tkS t e i) from (if_neg (by rw [hn]; decide)).trans (by rw [e2])]
        refine x_aload_n dX12_readFresh_27 rfl ?_
        refine y_iconst dX12_readFresh_28 ?_
        refine (show X _ _ 29 _ _ _ _ _ _ from ?_)
        refine x_callV (As := [_]) (mc := 0) (ms := 0) (z := mX12_flaw) (ci := 12) dX12_readFresh_29 lX12_156 oX12_flaw (by decide) (by first | assumption) rfl rfl (Nat.le_of_ble_eq_true rfl) (Nat.le_of_ble_eq_true rfl) rfl (z_flaw hX hZ) (fun v M1 hq => ?_)
        obtain ⟨rfl, V1, J1, rfl, hK1, hZ1⟩ := hq
        refine (show X _ _ 32 _ _ _ _ _ _ from ?_)
        refine x_aload_n dX12_readFresh_32 rfl ?_
        refine x_gl dX12_readFresh_33 fX12_129 (by first | assumption) (fun _ _ _ => rfl) ?_
        refine x_lstore_n dX12_readFresh_36 (by decide) rfl rfl ?_
        refine x_aload_n dX12_readFresh_37 rfl ?_
        refine (show X _ _ 38 _ _ _ _ _ _ from ?_)
        refine x_callV (As := []) (mc := 0) (ms := 0) (z := mX12_goesOn) (ci := 12) dX12_readFresh_38 lX12_149 oX12_goesOn (by decide) (by first | assumption) rfl rfl (Nat.le_of_ble_eq_true rfl) (Nat.le_of_ble_eq_true rfl) rfl (z_goes hX hZ1 (fun i h => by cases h)) (fun v M1 hq => ?_)
        obtain ⟨rfl, V2, J2, rfl, hK2, hZ2⟩ := hq
        refine (show X _ _ 41 _ _ _ _ _ _ from ?_)
        refine x_lload_n dX12_readFresh_41 rfl ?_
        refine (show X _ _ 42 _ _ _ _ _ _ from ?_)
        exact x_lreturn dX12_readFresh_42 rfl ⟨_, fun i' h' hw => (by cases h'; rw [hn] at hw; cases hw), rfl, V2, J2, rfl, KS_t hK1 hK2, hZ2⟩
theorem c_names {w : Int64} {s : Bool} {x : Int} {N : Nat} (hX : MX T R r f t e) (h9 : V f 9 = (N : Int)) (hN : N < 18) : X g mX12_names 0 [.ref r, .long w, jk, .int (iI (bI s)), .int (iI x)] [] (T, iV V, R, J, z) k n (rV (T, iV (u2 (u2 (u2 V (f + 22) N (bI s)) (f + 23) N x) f 9 ((N : Int) + 1)), R, u2 J (f + 21) N w, z)) := by
  obtain ⟨hM, hG, hrf, hap, hb, he⟩ := id hX
  obtain ⟨m0, -, -⟩ := id hM
  obtain ⟨g0, ⟨-, -, -, -, -, -, -, -, -, -, -, -, -, -, -, -, -, -, -, -, g30, g31, g32⟩, ⟨-, -, -, -, -, -, -, -, -, -, -, -, -, -, -, -, -, -, -, -, gk21, gk22, gk23⟩⟩ := id hG
  refine x_aload_n dX12_names_0 rfl ?_
  refine x_gr dX12_names_1 fX12_172 (by first | assumption) (fun _ _ _ => rfl) (by first | assumption) ?_
  refine x_gr dX12_names_4 fX12_207 (by first | assumption) (fun _ _ _ => rfl) (by first | assumption) ?_
  refine x_aload_n dX12_names_7 rfl ?_
  refine x_gr dX12_names_8 fX12_172 (by first | assumption) (fun _ _ _ => rfl) (by first | assumption) ?_
  refine y_gi dX12_names_11 fX12_211 (by first | assumption) (fun _ _ _ => rfl) ?_
  refine (show X _ _ 14 _ _ _ _ _ _ from ?_)
  refine X.val h9 ?_
  refine x_lload_n dX12_names_14 rfl ?_
  refine y_last (N) dX12_names_15 (by first | assumption) (by first | rfl | omega) (by omega) (by decide) ?_
  refine x_aload_n dX12_names_16 rfl ?_
  refine x_gr dX12_names_17 fX12_172 (by first | assumption) (fun _ _ _ => rfl) (by first | assumption) ?_
  refine x_gr dX12_names_20 fX12_214 (by first | assumption) (fun _ _ _ => rfl) (by first | assumption) ?_
  refine x_aload_n dX12_names_23 rfl ?_
  refine x_gr dX12_names_24 fX12_172 (by first | assumption) (fun _ _ _ => rfl) (by first | assumption) ?_
  refine y_gi dX12_names_27 fX12_211 (by first | assumption) (fun _ _ _ => rfl) ?_
  refine (show X _ _ 30 _ _ _ _ _ _ from ?_)
  refine X.val h9 ?_
  refine x_iload_n dX12_names_30 rfl ?_
  refine y_zast (N) dX12_names_31 (by first | assumption) (by first | rfl | omega) (by omega) (by decide) (by first | rfl | exact bI_nar _) ?_
  refine x_aload_n dX12_names_32 rfl ?_
  refine x_gr dX12_names_33 fX12_172 (by first | assumption) (fun _ _ _ => rfl) (by first | assumption) ?_
  refine x_gr dX12_names_36 fX12_217 (by first | assumption) (fun _ _ _ => rfl) (by first | assumption) ?_
  refine x_aload_n dX12_names_39 rfl ?_
  refine x_gr dX12_names_40 fX12_172 (by first | assumption) (fun _ _ _ => rfl) (by first | assumption) ?_
  refine y_gi dX12_names_43 fX12_211 (by first | assumption) (fun _ _ _ => rfl) ?_
  refine (show X _ _ 46 _ _ _ _ _ _ from ?_)
  refine X.val (b := (N : Int)) (by rw [u2_n (by omega)]; exact h9) ?_
  refine x_iload dX12_names_46 rfl ?_
  refine y_iast (N) dX12_names_48 (by first | assumption) (by first | rfl | omega) (by omega) (by decide) ?_
  refine x_aload_n dX12_names_49 rfl ?_
  refine x_gr dX12_names_50 fX12_172 (by first | assumption) (fun _ _ _ => rfl) (by first | assumption) ?_
  refine x_dup dX12_names_53 rfl ?_
  refine y_gi dX12_names_54 fX12_211 (by first | assumption) (fun _ _ _ => rfl) ?_
  refine (show X _ _ 57 _ _ _ _ _ _ from ?_)
  refine X.val (b := (N : Int)) (by rw [u2_n (by omega), u2_n (by omega)]; exact h9) ?_
  refine y_iconst dX12_names_57 ?_
  refine y_iadd dX12_names_58 ?_
  refine y_pi dX12_names_59 (pX12_211 _) (by first | assumption) (fun _ _ _ => rfl) rfl rfl ?_
  refine (show X _ _ 62 _ _ _ _ _ _ from ?_)
  exact x_return dX12_names_62 rfl ⟨rfl, rfl⟩
theorem z_begins {x y : Int} (hX : MX T R r f t e) (hZ : MZ t V J A r f e (.inr i)) (hk : tkK t e i = 1) (hx : R32 x) (hy : R32 y) (h0 : R32 (A 0 0)) : X g mX12_begins 0 [.ref r, .int (iI x), .int (iI y)] [] (T, iV V, R, J, z) k n (ZQ T R J z t V A r f e none (sBg t e A x y i)) := by
  obtain ⟨hM, hG, hrf, hap, hb, he⟩ := id hX
  obtain ⟨x1, x2⟩ := hx
  obtain ⟨y1, y2⟩ := hy
  obtain ⟨o1, o2⟩ := h0
  obtain ⟨m0, -, -⟩ := id hM
  obtain ⟨g0, -, -⟩ := id hG
  have tl : ∀ (σ' : SG) V1 J1, KS V V1 J J1 r → MZ t V1 J1 A r f e σ' → (∀ i', σ' = .inr i' → i' = i) → X g mX12_begins 10 [.ref r, .int (iI x), .int (iI y)] [] (T, iV V1, R, J1, z) k n (ZQ T R J z t V A r f e none (if A 0 0 = 0 then sF t e 6 σ' else sG t e σ')) := fun σ' V1 J1 hK1 hZ1 hi => by
    refine x_aload_n dX12_begins_10 rfl ?_
    refine x_gr dX12_begins_11 fX12_172 (by first | assumption) (fun _ _ _ => rfl) (by first | assumption) ?_
    refine y_gi dX12_begins_14 fX12_176 (by first | assumption) (fun _ _ _ => rfl) ?_
    refine (show X _ _ 17 _ _ _ _ _ _ from ?_)
    refine X.val (hZ1.2.2.1.1.1 0 (by decide)) ?_
    refine y_if_ne 26 dX12_begins_17 (by decide) ⟨by omega, by omega⟩ (fun h2 => ?_) (fun h2 => ?_)
    · rw [if_neg h2]
      refine x_aload_n dX12_begins_26 rfl ?_
      refine (show X _ _ 27 _ _ _ _ _ _ from ?_)
      refine x_callV (As := []) (mc := 0) (ms := 0) (z := mX12_goesOn) (ci := 12) dX12_begins_27 lX12_149 oX12_goesOn (by decide) (by first | assumption) rfl rfl (Nat.le_of_ble_eq_true rfl) (Nat.le_of_ble_eq_true rfl) rfl (z_goes hX hZ1 (fun i' h => by rw [hi i' h]; omega)) (fun v M1 hq => ?_)
      obtain ⟨rfl, V2, J2, rfl, hK2, hZ2⟩ := hq
      exact x_return dX12_begins_30 rfl ⟨rfl, V2, J2, rfl, KS_t hK1 hK2, hZ2⟩
    · rw [if_pos h2]
      refine x_aload_n dX12_begins_20 rfl ?_
      refine y_bipush dX12_begins_21 rfl ?_
      refine (show X _ _ 23 _ _ _ _ _ _ from ?_)
      refine x_callV (As := [_]) (mc := 0) (ms := 0) (z := mX12_flaw) (ci := 12) dX12_begins_23 lX12_156 oX12_flaw (by decide) (by first | assumption) rfl rfl (Nat.le_of_ble_eq_true rfl) (Nat.le_of_ble_eq_true rfl) rfl (z_flaw hX hZ1) (fun v M1 hq => ?_)
      obtain ⟨rfl, V2, J2, rfl, hK2, hZ2⟩ := hq
      refine (show X _ _ 26 _ _ _ _ _ _ from ?_)
      refine x_aload_n dX12_begins_26 rfl ?_
      refine (show X _ _ 27 _ _ _ _ _ _ from ?_)
      refine x_callV (As := []) (mc := 0) (ms := 0) (z := mX12_goesOn) (ci := 12) dX12_begins_27 lX12_149 oX12_goesOn (by decide) (by first | assumption) rfl rfl (Nat.le_of_ble_eq_true rfl) (Nat.le_of_ble_eq_true rfl) rfl (z_goes hX hZ2 sF_sG) (fun v M1 hq => ?_)
      obtain ⟨rfl, V3, J3, rfl, hK3, hZ3⟩ := hq
      rw [sG_sF] at hZ3
      exact x_return dX12_begins_30 rfl ⟨rfl, V3, J3, rfl, KS_t hK1 (KS_t hK2 hK3), hZ3⟩
  unfold sBg
  refine x_iload_n dX12_begins_0 rfl ?_
  refine x_iload_n dX12_begins_1 rfl ?_
  refine (show X _ _ 2 _ _ _ _ _ _ from ?_)
  refine y_icmp_ne 10 dX12_begins_2 (by decide) ⟨by omega, by omega⟩ ⟨by omega, by omega⟩ (fun h1 => ?_) (fun h1 => ?_)
  · rw [if_neg h1]
    exact tl (.inr i) V J KS_r hZ (fun i' h => by cases h; rfl)
  · rw [if_pos h1]
    refine x_aload_n dX12_begins_5 rfl ?_
    refine y_iconst dX12_begins_6 ?_
    refine (show X _ _ 7 _ _ _ _ _ _ from ?_)
    refine x_callV (As := [_]) (mc := 0) (ms := 0) (z := mX12_flaw) (ci := 12) dX12_begins_7 lX12_156 oX12_flaw (by decide) (by first | assumption) rfl rfl (Nat.le_of_ble_eq_true rfl) (Nat.le_of_ble_eq_true rfl) rfl (z_flaw hX hZ) (fun v M1 hq => ?_)
    obtain ⟨rfl, V1, J1, rfl, hK1, hZ1⟩ := hq
    have q := tl (.inl (5, tkS t e i)) V1 J1 hK1 hZ1 (fun i' h => by cases h)
    have eq : (if A 0 0 = 0 then sF t e 6 (.inl (5, tkS t e i)) else sG t e (.inl (5, tkS t e i))) = (.inl (5, tkS t e i) : SG) := by split <;> rfl
    rw [eq] at q
    exact q
theorem z_semi (hX : MX T R r f t e) (hZ : MZ t V J A r f e σ) : X g mX12_eatsSemicolon 0 [.ref r, jk] [] (T, iV V, R, J, z) k n (ZQ T R J z t V A r f e (some (.int (iI (bI (sSe t e σ))))) (if sSe t e σ = true then sG t e σ else σ)) := by
  obtain ⟨hM, hG, hrf, hap, hb, he⟩ := id hX
  obtain ⟨a1, a2, a3, a4⟩ := id hZ
  obtain ⟨m0, -, -⟩ := id hM
  cases σ with
  | inl c =>
    refine x_aload_n dX12_eatsSemicolon_0 rfl ?_
    refine y_gi dX12_eatsSemicolon_1 fX12_113 (by first | assumption) (fun _ _ _ => rfl) ?_
    refine (show X _ _ 4 _ _ _ _ _ _ from ?_)
    refine X.val a4.1 ?_
    refine y_iconst dX12_eatsSemicolon_4 ?_
    refine (show X _ _ 5 _ _ _ _ _ _ from ?_)
    refine y_icmp_ne 12 dX12_eatsSemicolon_5 (by decide) ⟨by omega, by omega⟩ ⟨by omega, by omega⟩ (fun h => ?_) (fun h => ?_)
    rotate_left
    · omega
    refine y_iconst dX12_eatsSemicolon_12 ?_
    refine x_istore_n dX12_eatsSemicolon_13 (by decide) rfl rfl ?_
    refine x_iload_n dX12_eatsSemicolon_14 rfl ?_
    refine (show X _ _ 15 _ _ _ _ _ _ from ?_)
    refine y_if_eq 22 dX12_eatsSemicolon_15 (by decide) ⟨by omega, by omega⟩ (fun h2 => ?_) (fun h2 => ?_)
    rotate_left
    · omega
    refine x_iload_n dX12_eatsSemicolon_22 rfl ?_
    refine (show X _ _ 23 _ _ _ _ _ _ from ?_)
    exact x_zreturn dX12_eatsSemicolon_23 rfl rfl ⟨rfl, V, J, rfl, KS_r, hZ⟩
  | inr i =>
    have hkb := tkK_b t e i
    have hsr := srt_r hkb
    obtain ⟨⟨b1, b2, b3, b4, b5, b6⟩, b7⟩ := id a4
    have hs1 := srt_v (c := 4) hkb ⟨by decide, by decide⟩
    have es : sSe t e (.inr i) = decide (tkK t e i = 3) := rfl
    refine x_aload_n dX12_eatsSemicolon_0 rfl ?_
    refine y_gi dX12_eatsSemicolon_1 fX12_113 (by first | assumption) (fun _ _ _ => rfl) ?_
    refine (show X _ _ 4 _ _ _ _ _ _ from ?_)
    refine X.val b3 ?_
    refine y_iconst dX12_eatsSemicolon_4 ?_
    refine (show X _ _ 5 _ _ _ _ _ _ from ?_)
    refine y_icmp_ne 12 dX12_eatsSemicolon_5 (by decide) ⟨by omega, by omega⟩ ⟨by omega, by omega⟩ (fun h => ?_) (fun h => ?_)
    · rw [es, decide_eq_false (fun c => h (hs1.mpr (by omega))), if_neg (by decide)]
      refine y_iconst dX12_eatsSemicolon_12 ?_
      refine x_istore_n dX12_eatsSemicolon_13 (by decide) rfl rfl ?_
      refine x_iload_n dX12_eatsSemicolon_14 rfl ?_
      refine (show X _ _ 15 _ _ _ _ _ _ from ?_)
      refine y_if_eq 22 dX12_eatsSemicolon_15 (by decide) ⟨by omega, by omega⟩ (fun h2 => ?_) (fun h2 => ?_)
      rotate_left
      · omega
      refine x_iload_n dX12_eatsSemicolon_22 rfl ?_
      refine (show X _ _ 23 _ _ _ _ _ _ from ?_)
      exact x_zreturn dX12_eatsSemicolon_23 rfl rfl ⟨rfl, V, J, rfl, KS_r, hZ⟩
    · have h3 := hs1.mp h
      rw [es, decide_eq_true (by omega), if_pos rfl]
      refine y_iconst dX12_eatsSemicolon_8 ?_
      refine x_goto 13 dX12_eatsSemicolon_9 (by decide) ?_
      refine x_istore_n dX12_eatsSemicolon_13 (by decide) rfl rfl ?_
      refine x_iload_n dX12_eatsSemicolon_14 rfl ?_
      refine (show X _ _ 15 _ _ _ _ _ _ from ?_)
      refine y_if_eq 22 dX12_eatsSemicolon_15 (by decide) ⟨by omega, by omega⟩ (fun h2 => ?_) (fun h2 => ?_)
      · omega
      refine x_aload_n dX12_eatsSemicolon_18 rfl ?_
      refine (show X _ _ 19 _ _ _ _ _ _ from ?_)
      refine x_callV (As := []) (mc := 0) (ms := 0) (z := mX12_goesOn) (ci := 12) dX12_eatsSemicolon_19 lX12_149 oX12_goesOn (by decide) (by first | assumption) rfl rfl (Nat.le_of_ble_eq_true rfl) (Nat.le_of_ble_eq_true rfl) rfl (z_goes hX hZ (fun i' h' => by cases h'; omega)) (fun v M1 hq => ?_)
      obtain ⟨rfl, V1, J1, rfl, hK1, hZ1⟩ := hq
      refine (show X _ _ 22 _ _ _ _ _ _ from ?_)
      refine x_iload_n dX12_eatsSemicolon_22 rfl ?_
      refine (show X _ _ 23 _ _ _ _ _ _ from ?_)
      exact x_zreturn dX12_eatsSemicolon_23 rfl rfl ⟨rfl, V1, J1, rfl, hK1, hZ1⟩
theorem sW_k (h : sW t e j σ = true) : ∀ i, σ = .inr i → tkK t e i ≠ 4 := fun i h' => by subst h'; have := sw_k4 h; omega
theorem vKd_k (h : 0 ≤ vKd t e σ) : ∀ i, σ = .inr i → tkK t e i ≠ 4 := by
  unfold vKd at h
  split at h
  · rename_i hc; exact sW_k hc
  split at h
  · rename_i hc; exact sW_k hc
  split at h
  · rename_i hc; exact sW_k hc
  split at h
  · rename_i hc; exact sW_k hc
  split at h
  · rename_i hc; exact sW_k hc
  · omega
theorem vLw_k (h : 0 ≤ vLw t e σ) : ∀ i, σ = .inr i → tkK t e i ≠ 4 := by
  unfold vLw at h
  split at h
  · rename_i hc; exact sW_k hc
  split at h
  · rename_i hc; exact sW_k hc
  split at h
  · rename_i hc; exact sW_k hc
  split at h
  · rename_i hc; exact sW_k hc
  split at h
  · rename_i hc; exact sW_k hc
  · omega
theorem sC_p {x : Int} (h : 0 ≤ x) : sC t e x σ = sG t e σ := by cases σ with | inl y => rfl | inr i => exact if_pos h
theorem sC_n {x : Int} (h : ¬ 0 ≤ x) : sC t e x σ = sF t e 1 σ := by cases σ with | inl y => rfl | inr i => exact if_neg h
theorem z_readKind (hX : MX T R r f t e) (hZ : MZ t V J A r f e σ) : X g mX12_readKind 0 [.ref r, jk] [] (T, iV V, R, J, z) k n (ZQ T R J z t V A r f e (some (.int (iI (vKd t e σ)))) (sC t e (vKd t e σ) σ)) := by
  obtain ⟨hM, hG, hrf, hap, hb, he⟩ := id hX
  obtain ⟨m0, -, -⟩ := id hM
  have tl : ∀ x : Int, -1 ≤ x → x ≤ 4 → vKd t e σ = x → X g mX12_readKind 71 [.ref r, jk] [.int (iI x)] (T, iV V, R, J, z) k n (ZQ T R J z t V A r f e (some (.int (iI (vKd t e σ)))) (sC t e (vKd t e σ) σ)) := fun x h1 h2 h3 => by
    rw [h3]
    refine x_istore_n dX12_readKind_71 (by decide) rfl rfl ?_
    refine x_iload_n dX12_readKind_72 rfl ?_
    refine y_iconst dX12_readKind_73 ?_
    refine (show X _ _ 74 _ _ _ _ _ _ from ?_)
    refine y_icmp_ne 82 dX12_readKind_74 (by decide) ⟨by omega, by omega⟩ ⟨by omega, by omega⟩ (fun h4 => ?_) (fun h4 => ?_)
    · rw [sC_p (by omega)]
      refine x_aload_n dX12_readKind_82 rfl ?_
      refine (show X _ _ 83 _ _ _ _ _ _ from ?_)
      refine x_callV (As := []) (mc := 0) (ms := 0) (z := mX12_goesOn) (ci := 12) dX12_readKind_83 lX12_149 oX12_goesOn (by decide) (by first | assumption) rfl rfl (Nat.le_of_ble_eq_true rfl) (Nat.le_of_ble_eq_true rfl) rfl (z_goes hX hZ (vKd_k (by omega))) (fun v M1 hq => ?_)
      obtain ⟨rfl, V2, J2, rfl, hK2, hZ2⟩ := hq
      refine (show X _ _ 86 _ _ _ _ _ _ from ?_)
      refine x_iload_n dX12_readKind_86 rfl ?_
      refine (show X _ _ 87 _ _ _ _ _ _ from ?_)
      exact x_ireturn dX12_readKind_87 rfl ⟨rfl, V2, J2, rfl, hK2, hZ2⟩
    · rw [sC_n (by omega)]
      refine x_aload_n dX12_readKind_77 rfl ?_
      refine y_iconst dX12_readKind_78 ?_
      refine (show X _ _ 79 _ _ _ _ _ _ from ?_)
      refine x_callV (As := [_]) (mc := 0) (ms := 0) (z := mX12_flaw) (ci := 12) dX12_readKind_79 lX12_156 oX12_flaw (by decide) (by first | assumption) rfl rfl (Nat.le_of_ble_eq_true rfl) (Nat.le_of_ble_eq_true rfl) rfl (z_flaw hX hZ) (fun v M1 hq => ?_)
      obtain ⟨rfl, V1, J1, rfl, hK1, hZ1⟩ := hq
      refine (show X _ _ 82 _ _ _ _ _ _ from ?_)
      refine x_aload_n dX12_readKind_82 rfl ?_
      refine (show X _ _ 83 _ _ _ _ _ _ from ?_)
      refine x_callV (As := []) (mc := 0) (ms := 0) (z := mX12_goesOn) (ci := 12) dX12_readKind_83 lX12_149 oX12_goesOn (by decide) (by first | assumption) rfl rfl (Nat.le_of_ble_eq_true rfl) (Nat.le_of_ble_eq_true rfl) rfl (z_goes hX hZ1 sF_sG) (fun v M1 hq => ?_)
      obtain ⟨rfl, V2, J2, rfl, hK2, hZ2⟩ := hq
      rw [sG_sF] at hZ2
      refine (show X _ _ 86 _ _ _ _ _ _ from ?_)
      refine x_iload_n dX12_readKind_86 rfl ?_
      refine (show X _ _ 87 _ _ _ _ _ _ from ?_)
      exact x_ireturn dX12_readKind_87 rfl ⟨rfl, V2, J2, rfl, KS_t hK1 hK2, hZ2⟩
  refine x_aload_n dX12_readKind_0 rfl ?_
  refine x_ldcsw dX12_readKind_1 sX12_281 ?_
  refine (show X _ _ 4 _ _ _ _ _ _ from ?_)
  refine x_callV (As := [_]) (mc := 0) (ms := 0) (z := mX12_isWord) (ci := 12) dX12_readKind_4 lX12_152 oX12_isWord (by decide) (by first | assumption) rfl rfl (Nat.le_of_ble_eq_true rfl) (Nat.le_of_ble_eq_true rfl) rfl (z_isWord hX hZ (by decide)) (k_I ?_)
  refine (show X _ _ 7 _ _ _ _ _ _ from ?_)
  refine y_ifb_eq 14 dX12_readKind_7 (by decide) (fun c1 => ?_) (fun c1 => ?_)
  rotate_left
  · refine y_iconst dX12_readKind_10 ?_
    refine x_goto 71 dX12_readKind_11 (by decide) ?_
    refine (show X _ _ 71 _ _ _ _ _ _ from ?_)
    exact tl 0 (by decide) (by decide) (if_pos c1)
  refine x_aload_n dX12_readKind_14 rfl ?_
  refine x_ldcsw dX12_readKind_15 sX12_283 ?_
  refine (show X _ _ 18 _ _ _ _ _ _ from ?_)
  refine x_callV (As := [_]) (mc := 0) (ms := 0) (z := mX12_isWord) (ci := 12) dX12_readKind_18 lX12_152 oX12_isWord (by decide) (by first | assumption) rfl rfl (Nat.le_of_ble_eq_true rfl) (Nat.le_of_ble_eq_true rfl) rfl (z_isWord hX hZ (by decide)) (k_I ?_)
  refine (show X _ _ 21 _ _ _ _ _ _ from ?_)
  refine y_ifb_eq 28 dX12_readKind_21 (by decide) (fun c2 => ?_) (fun c2 => ?_)
  rotate_left
  · refine y_iconst dX12_readKind_24 ?_
    refine x_goto 71 dX12_readKind_25 (by decide) ?_
    refine (show X _ _ 71 _ _ _ _ _ _ from ?_)
    exact tl 1 (by decide) (by decide) (by unfold vKd; rw [c1, c2]; rfl)
  refine x_aload_n dX12_readKind_28 rfl ?_
  refine x_ldcsw dX12_readKind_29 sX12_285 ?_
  refine (show X _ _ 32 _ _ _ _ _ _ from ?_)
  refine x_callV (As := [_]) (mc := 0) (ms := 0) (z := mX12_isWord) (ci := 12) dX12_readKind_32 lX12_152 oX12_isWord (by decide) (by first | assumption) rfl rfl (Nat.le_of_ble_eq_true rfl) (Nat.le_of_ble_eq_true rfl) rfl (z_isWord hX hZ (by decide)) (k_I ?_)
  refine (show X _ _ 35 _ _ _ _ _ _ from ?_)
  refine y_ifb_eq 42 dX12_readKind_35 (by decide) (fun c3 => ?_) (fun c3 => ?_)
  rotate_left
  · refine y_iconst dX12_readKind_38 ?_
    refine x_goto 71 dX12_readKind_39 (by decide) ?_
    refine (show X _ _ 71 _ _ _ _ _ _ from ?_)
    exact tl 2 (by decide) (by decide) (by unfold vKd; rw [c1, c2, c3]; rfl)
  refine x_aload_n dX12_readKind_42 rfl ?_
  refine x_ldcsw dX12_readKind_43 sX12_287 ?_
  refine (show X _ _ 46 _ _ _ _ _ _ from ?_)
  refine x_callV (As := [_]) (mc := 0) (ms := 0) (z := mX12_isWord) (ci := 12) dX12_readKind_46 lX12_152 oX12_isWord (by decide) (by first | assumption) rfl rfl (Nat.le_of_ble_eq_true rfl) (Nat.le_of_ble_eq_true rfl) rfl (z_isWord hX hZ (by decide)) (k_I ?_)
  refine (show X _ _ 49 _ _ _ _ _ _ from ?_)
  refine y_ifb_eq 56 dX12_readKind_49 (by decide) (fun c4 => ?_) (fun c4 => ?_)
  rotate_left
  · refine y_iconst dX12_readKind_52 ?_
    refine x_goto 71 dX12_readKind_53 (by decide) ?_
    refine (show X _ _ 71 _ _ _ _ _ _ from ?_)
    exact tl 3 (by decide) (by decide) (by unfold vKd; rw [c1, c2, c3, c4]; rfl)
  refine x_aload_n dX12_readKind_56 rfl ?_
  refine x_ldcsw dX12_readKind_57 sX12_289 ?_
  refine (show X _ _ 60 _ _ _ _ _ _ from ?_)
  refine x_callV (As := [_]) (mc := 0) (ms := 0) (z := mX12_isWord) (ci := 12) dX12_readKind_60 lX12_152 oX12_isWord (by decide) (by first | assumption) rfl rfl (Nat.le_of_ble_eq_true rfl) (Nat.le_of_ble_eq_true rfl) rfl (z_isWord hX hZ (by decide)) (k_I ?_)
  refine (show X _ _ 63 _ _ _ _ _ _ from ?_)
  refine y_ifb_eq 70 dX12_readKind_63 (by decide) (fun c5 => ?_) (fun c5 => ?_)
  rotate_left
  · refine y_iconst dX12_readKind_66 ?_
    refine x_goto 71 dX12_readKind_67 (by decide) ?_
    refine (show X _ _ 71 _ _ _ _ _ _ from ?_)
    exact tl 4 (by decide) (by decide) (by unfold vKd; rw [c1, c2, c3, c4, c5]; rfl)
  refine y_iconst dX12_readKind_70 ?_
  refine (show X _ _ 71 _ _ _ _ _ _ from ?_)
  exact tl (-1) (by decide) (by decide) (by unfold vKd; rw [c1, c2, c3, c4, c5]; rfl)
end C9o
