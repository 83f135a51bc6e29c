/-! ===== the reference: family ===== -/
section C9z
variable {g : GG} {T : Nat → Nat × Nat} {V A : Nat → Nat → Int} {R : Nat → Nat → Option Nat} {J : Nat → Nat → Int64} {z : Nat} {r f e i : Nat} {t : Nat → Int}
theorem MSh_k {T' : Nat → Nat × Nat} {R' : Nat → Nat → Option Nat} (h : MSh T R r) (hT : ∀ b, r ≤ b → b < r + 24 → T' b = T b) (hR : ∀ c, c ≠ 3 → c ≠ 4 → R' r c = R r c) : MSh T' R' r := by
  obtain ⟨m0, ⟨a1, a2, a3, a4, a5, a6, a7, a8, a9, a10, a11, a12, a13, a14, a15, a16, a17, a18, a19, a20, a21, a22, a23⟩, ⟨b1, b2, b3, b4, b5, b6, b7, b8, b9, b10, b11, b12, b13, b14, b15, b16, b17, b18, b19, b20, b21, b22, b23⟩⟩ := h
  refine ⟨?_, ⟨?_, ?_, ?_, ?_, ?_, ?_, ?_, ?_, ?_, ?_, ?_, ?_, ?_, ?_, ?_, ?_, ?_, ?_, ?_, ?_, ?_, ?_, ?_⟩, ⟨?_, ?_, ?_, ?_, ?_, ?_, ?_, ?_, ?_, ?_, ?_, ?_, ?_, ?_, ?_, ?_, ?_, ?_, ?_, ?_, ?_, ?_, ?_⟩⟩ <;> first | (rw [hT _ (by omega) (by omega)]; assumption) | (rw [hR _ (by decide) (by decide)]; assumption)
theorem MF_0 {f : Nat} (h0 : ∀ c, V f c = 0) (hr : ∀ b, f < b → b < f + 24 → V b = fun _ => 0) : MF V J f A0 := by
  refine MF_mk (fun j _ => h0 j) (fun ρ r1 r2 j hj => ?_) ⟨h0 9, by decide, by decide⟩ (fun k hk => absurd hk (by show ¬ k < (0 : Int).toNat; omega))
  rw [hr (f + ρ) (by omega) (by omega)]
  split
  · rename_i hc
    subst hc
    exact absurd hj (by show ¬ j < 0; omega)
  · rfl
set_option maxRecDepth 8000 in
theorem fam_pre {Q : Option Value → Mem → Prop} (hM : MSh T R r) (hz : r + 24 ≤ z) (hb : byR t) (he : e ≤ 1100) (ht : V (r + 1) = t) (h6 : 0 ≤ V r 6 ∧ V r 6 ≤ 1100) (h6e : (e : Int) ≤ V r 6)
    (kk : ∀ T' R' J' V', (∀ b, b < z → T' b = T b) → (∀ b, b < z → b ≠ r → V' b = V b ∧ R' b = R b ∧ J' b = J b) → (∀ c, c ≠ 4 → R' r c = R r c) → MX T' R' r z t e → (V' r 0 = 0 ∧ V' r 6 = 0 ∧ ∀ c, c ≠ 0 → c ≠ 6 → c ≠ 7 → (c < 8 ∨ 14 ≤ c) → V' r c = V r c) → (match pText t e with | .inl c => V' r 12 = c.1 ∧ V' r 13 = (c.2 : Int) | .inr s => MF V' J' z s.1 ∧ V' r 12 = 0) → X g mX12_family 67 [.ref r, .int (iI (e : Int)), jk] [] (T', iV V', R', J', z + 24) 0 0 Q) : X g mX12_family 0 [.ref r, .int (iI (e : Int)), jk] [] (T, iV V, R, J, z) 24 (0 + 316 + 33) Q := by
  have m0 := hM.1
  have hr6 : r ≠ z := by omega
  refine x_aload_n dX12_family_0 rfl ?_
  refine y_iconst dX12_family_1 ?_
  refine y_pi dX12_family_2 (pX12_85 _) (by first | assumption) (fun _ _ _ => rfl) rfl rfl ?_
  refine x_iload_n dX12_family_5 rfl ?_
  refine (show X _ _ 6 _ _ _ _ _ _ from ?_)
  refine y_if_lt 17 dX12_family_6 (by decide) ⟨by omega, by omega⟩ (fun h1 => ?_) (fun h1 => ?_)
  · omega
  refine x_iload_n dX12_family_9 rfl ?_
  refine x_aload_n dX12_family_10 rfl ?_
  refine y_gi dX12_family_11 fX12_402 (by first | assumption) (fun _ _ _ => rfl) ?_
  refine (show X _ _ 14 _ _ _ _ _ _ from ?_)
  refine X.val (b := V r 6) (by rw [u2_s, u1_n (by decide)]) ?_
  refine y_icmp_le 23 dX12_family_14 (by decide) ⟨by omega, by omega⟩ ⟨by omega, by omega⟩ (fun h2 => ?_) (fun h2 => ?_)
  rotate_left
  · omega
  refine x_aload_n dX12_family_23 rfl ?_
  refine x_iload_n dX12_family_24 rfl ?_
  refine y_pi dX12_family_25 (pX12_98 _) (by first | assumption) (fun _ _ _ => rfl) rfl rfl ?_
  refine x_aload_n dX12_family_28 rfl ?_
  refine y_iconst dX12_family_29 ?_
  refine y_pi dX12_family_30 (pX12_402 _) (by first | assumption) (fun _ _ _ => rfl) rfl rfl ?_
  refine x_aload_n dX12_family_33 rfl ?_
  refine y_iconst dX12_family_34 ?_
  refine (show X _ _ 35 _ _ _ _ _ _ from ?_)
  refine y_pi dX12_family_35 (pX12_116 _) (by first | assumption) (fun _ _ _ => rfl) rfl rfl ?_
  refine x_aload_n dX12_family_38 rfl ?_
  refine y_iconst dX12_family_39 ?_
  refine y_pi dX12_family_40 (pX12_139 _) (by first | assumption) (fun _ _ _ => rfl) rfl rfl ?_
  refine x_aload_n dX12_family_43 rfl ?_
  refine (show X _ _ 44 _ _ _ _ _ _ from ?_)
  refine y_new (ci := 11) dX12_family_44 rfl cX12_177 nX11 iX11 dfX11 ?_
  refine x_dup dX12_family_47 rfl ?_
  refine (show X _ _ 48 _ _ _ _ _ _ from ?_)
  refine x_callI (As := []) (mc := 23) (ms := 316) (z := mX11_init) dX12_family_48 lX12_405 oX11_init (by decide) rfl (Nat.le_of_ble_eq_true rfl) (Nat.le_of_ble_eq_true rfl) rfl (i_MFam (by rw [u1_s]) (by rw [u1_s]) (by rw [u1_s])) (fun v M1 hq => ?_)
  obtain ⟨rfl, T1, V1, R1, J1, rfl, k1, s1, a1, z1⟩ := hq
  have kT : ∀ b, b < z → T1 b = T b := fun b h => by rw [(k1 b (by omega)).1, u1_n (by omega)]
  have kV : ∀ b, b < z → b ≠ r → V1 b = V b := fun b h h' => by rw [(k1 b (by omega)).2.1, u1_n (by omega)]; simp (discharger := omega) only [u2_n]
  have kVr : V1 r = u2 (u2 (u2 (u2 (u2 V r 0 0) r 7 (e : Int)) r 6 0) r 8 0) r 12 0 r := by rw [(k1 r (by omega)).2.1, u1_n hr6]
  have kR : ∀ b, b < z → R1 b = R b := fun b h => by rw [(k1 b (by omega)).2.2.1, u1_n (by omega)]
  have kJ : ∀ b, b < z → J1 b = J b := fun b h => by rw [(k1 b (by omega)).2.2.2, u1_n (by omega)]
  have mT1 : T1 r = (22, 0) := by rw [kT r (by omega)]; exact m0
  refine (show X _ _ 51 _ _ _ _ _ _ from ?_)
  refine x_pr dX12_family_51 (pX12_172 _) (by first | assumption) (fun _ _ _ => rfl) rfl rfl ?_
  refine x_aload_n dX12_family_54 rfl ?_
  refine y_iconst dX12_family_55 ?_
  refine y_pi dX12_family_56 (pX12_113 _) (by first | assumption) (fun _ _ _ => rfl) rfl rfl ?_
  refine x_aload_n dX12_family_59 rfl ?_
  refine (show X _ _ 60 _ _ _ _ _ _ from ?_)
  have hM1 : MSh T1 (u2 R1 r 4 (some z)) r := MSh_k hM (fun b _ h => kT b (by omega)) (fun c _ h4 => by rw [u2_s, u1_n h4, kR r (by omega)])
  have hX : MX T1 (u2 R1 r 4 (some z)) r z t e := by
    refine ⟨hM1, ?_, by rw [u2_s, u1_s], Or.inl hz, hb, he⟩
    obtain ⟨c0, c1, c2⟩ := s1
    refine ⟨c0, ?_, c2⟩
    rw [u2_n (show z ≠ r by omega)]
    exact c1
  refine x_callV (As := []) (mc := 0) (ms := 0) (z := mX12_goesOn) (ci := 12) dX12_family_60 lX12_149 oX12_goesOn (by decide) (by first | assumption) rfl rfl (Nat.le_of_ble_eq_true rfl) (Nat.le_of_ble_eq_true rfl) rfl (k_goes1 (t := t) (e := e) (i := 0) hM1 hb he (by rw [u2_s, u1_s]; decide) (by rw [u2_s, u1_s]; exact ⟨by decide, by decide⟩) (by rw [u2_s, u1_n (by decide), kVr]; simp (discharger := omega) only [u2_s, u1_n, u1_s]; rfl) (by omega) (by rw [u2_s, u1_n (by decide), kVr]; simp (discharger := omega) only [u2_s, u1_n, u1_s]) (by rw [u2_n (by omega), kV _ (by omega) (by omega)]; exact ht)) (fun v M1 hq => ?_)
  obtain ⟨rfl, V2, J2, rfl, ⟨q1, q2, q3⟩, q4⟩ := hq
  refine (show X _ _ 63 _ _ _ _ _ _ from ?_)
  have hZ : MZ t V2 J2 A0 r z e (.inr 0) := by
    refine ⟨?_, ?_, MF_k (MF_0 (J := J1) (f := z) a1 z1) (fun b h1 h2 => ?_) (q1.2.2 _ (by omega)), q4, ?_⟩
    · rw [q1.2.1 7 (by omega), u2_s, u1_n (by decide), kVr]; simp (discharger := omega) only [u2_s, u1_n, u1_s]
    · rw [q1.1 _ (by omega), u2_n (by omega), kV _ (by omega) (by omega)]; exact ht
    · rw [q1.1 b (by omega), u2_n (by omega)]
    · rw [q2, u2_s, u1_n (by decide), kVr]; simp (discharger := omega) only [u2_s, u1_s]
  refine x_aload_n dX12_family_63 rfl ?_
  refine (show X _ _ 64 _ _ _ _ _ _ from ?_)
  refine x_callV (As := []) (mc := 0) (ms := 0) (z := mX12_readAll) (ci := 12) dX12_family_64 lX12_406 oX12_readAll (by decide) (by first | assumption) rfl rfl (Nat.le_of_ble_eq_true rfl) (Nat.le_of_ble_eq_true rfl) rfl (z_readAll hX hZ) (fun v M1 hq => ?_)
  obtain ⟨rfl, V3, J3, rfl, w1, w2⟩ := hq
  refine kk T1 _ J3 V3 kT (fun b h h' => ⟨?_, ?_, ?_⟩) (fun c h4 => ?_) hX ⟨?_, ?_, fun c h0 h6 h7 hc => ?_⟩ w2
  · rw [w1.1 b h' (Or.inl h), q1.1 b h', u2_n h', kV b h h']
  · rw [u2_n h', kR b h]
  · rw [w1.2.2 b h' (Or.inl h), q1.2.2 b h', kJ b h]
  · rw [u2_s, u1_n h4, kR r (by omega)]
  · rw [w1.2.1 0 (by omega), q1.2.1 0 (by omega), u2_s, u1_n (by decide), kVr]; simp (discharger := omega) only [u2_s, u1_n, u1_s]
  · rw [w1.2.1 6 (by omega), q1.2.1 6 (by omega), u2_s, u1_n (by decide), kVr]; simp (discharger := omega) only [u2_s, u1_n, u1_s]
  · rw [w1.2.1 c hc, q1.2.1 c hc, u2_s, u1_n (by omega), kVr]; simp (discharger := omega) only [u2_s, u1_n]
end C9z
