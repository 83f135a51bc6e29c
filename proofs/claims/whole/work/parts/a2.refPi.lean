/-! ===== the reference: family, when it is read: the state behind it ===== -/
section Ca2
variable {g : GG} {T : Nat → Nat × Nat} {V E A B : Nat → Nat → Int} {R : Nat → Nat → Option Nat} {J : Nat → Nat → Int64} {z k n : Nat} {r f : Nat} {t : Nat → Int} {tp : Nat} {h : Bool} {a m : Nat} {H K : Nat → Nat → Nat → Int} {wr pl tr : Int}
theorem k_fam2 {x pl' : Int} {s : (Nat → Nat → Int) × Nat} (hI : DI T R V r f E t tp h A B a m H K wr pl tr) (hz : r + 24 ≤ z) (hb : byR t) (hx : 0 ≤ x ∧ x ≤ tp) (hp : pText t x.toNat = .inr s) : X g mX12_family 0 [.ref r, .int (iI x), jk] [] (T, iV (pB V r 24 E), R, J, z) 24 (0 + 316 + 33) (FQ T R J z V r z (some (.int (iI (s.1 0 3)))) t true s.1 (sfW s.1 B) 0 0 H K 0 pl' 0) := by
  obtain ⟨hM, ⟨d1, d2, d3⟩, ⟨d5, d6, d7⟩, ⟨⟨d8, d9⟩, d10, d11⟩, d12, d13, d14⟩ := hI
  obtain ⟨e, rfl⟩ : ∃ e : Nat, x = (e : Int) := ⟨x.toNat, (Int.toNat_of_nonneg hx.1).symm⟩
  rw [Int.toNat_natCast] at hp
  obtain ⟨hVP, hY4, hP1⟩ := pText_VP hp
  have v6 : pB V r 24 E r 6 = (tp : Int) := by rw [pB_0 (by decide)]; exact d6
  refine fam_pre (t := t) hM hz hb (by omega) (by rw [pB_at (by decide)]; exact d5) (by rw [v6]; omega) (by rw [v6]; exact hx.2) (fun T' R' J' V' kT kb kR hX kr kp => ?_)
  rw [hp] at kp
  obtain ⟨kF, k12⟩ := kp
  obtain ⟨hM', hG', hrd, -⟩ := id hX
  have hrz : z ≠ r := by omega
  have hM2 : MSh T' (u2 R' r 3 (some z)) r := MSh_k hM' (fun _ _ _ => rfl) (fun c h3 _ => by rw [u2_s, u1_n h3])
  have hG2 : FMS T' (u2 R' r 3 (some z)) z := FMS_k hG' (fun _ _ _ => rfl) (by rw [u2_n hrz])
  have hf2 : u2 R' r 3 (some z) r 3 = some z := by rw [u2_s, u1_s]
  have kFg := MF_get kF
  have m0 := hM'.1
  refine x_aload_n dX12_family_67 rfl ?_
  refine y_gi dX12_family_68 fX12_139 (by first | assumption) (fun _ _ _ => rfl) ?_
  refine (show X _ _ 71 _ _ _ _ _ _ from ?_)
  refine X.val (b := 0) k12 ?_
  refine y_if_le 89 dX12_family_71 (by decide) ⟨by omega, by omega⟩ (fun h1 => ?_) (fun h1 => ?_)
  rotate_left
  · omega
  refine x_aload_n dX12_family_89 rfl ?_
  refine x_aload_n dX12_family_90 rfl ?_
  refine x_gr dX12_family_91 fX12_172 (by first | assumption) (fun _ _ _ => rfl) (by first | assumption) ?_
  refine x_pr dX12_family_94 (pX12_409 _) (by first | assumption) (fun _ _ _ => rfl) rfl rfl ?_
  refine y_iconst dX12_family_97 ?_
  refine x_istore_n dX12_family_98 (by decide) rfl rfl ?_
  refine (show X _ _ 99 _ _ _ _ _ _ from ?_)
  clear hM hM'
  have hM := hM2
  have hG := hG2
  obtain ⟨m0, ⟨-, m15, -, -, -, -, -, -, -, -, -, -, -, -, -, -, -, -, -, -, -, -, -⟩, ⟨-, mk2, -, -, -, -, -, -, -, -, -, -, -, -, -, -, -, -, -, -, -, -, -⟩⟩ := id hM
  obtain ⟨g0, ⟨-, -, -, -, -, -, g16, -, -, -, -, -, -, -, -, -, -, -, -, -, -, -, -⟩, ⟨-, -, -, -, -, -, gk7, -, -, -, -, -, -, -, -, -, -, -, -, -, -, -, -⟩⟩ := id hG
  refine fam_l1 (R := u2 R' r 3 (some z)) hM 45 0 V' (by omega) (fun j hj => absurd hj (by omega)) (fun V1 e1 z1 => ?_)
  refine x_aload_n dX12_family_118 rfl ?_
  refine x_gr dX12_family_119 fX12_17 (by first | assumption) (fun _ _ _ => rfl) (by first | assumption) ?_
  refine y_iconst dX12_family_122 ?_
  refine x_aload_n dX12_family_123 rfl ?_
  refine x_gr dX12_family_124 fX12_409 (by first | assumption) (fun _ _ _ => rfl) (by first | assumption) ?_
  refine y_gi dX12_family_127 fX12_277 (by first | assumption) (fun _ _ _ => rfl) ?_
  refine (show X _ _ 130 _ _ _ _ _ _ from ?_)
  refine X.val (b := s.1 0 1) (by rw [e1 z (by omega)]; exact kF.1.1 1 (by decide)) ?_
  refine y_iast (0) dX12_family_130 (by first | assumption) (by first | rfl | omega) (by omega) (by decide) ?_
  refine y_iconst dX12_family_131 ?_
  refine x_istore_n dX12_family_132 (by decide) rfl rfl ?_
  refine (show X _ _ 133 _ _ _ _ _ _ from ?_)
  refine fam_l2 (R := u2 R' r 3 (some z)) hM hG hf2 hz 10 0 _ (by omega) (fun V3 e3 y3 w3 => ?_)
  have e13 : ∀ b, b ≠ r + 2 → V3 b = V' b := fun b hb => by rw [e3 b hb, u2_n hb, e1 b hb]
  refine x_aload_n dX12_family_162 rfl ?_
  refine y_iconst dX12_family_163 ?_
  refine y_pi dX12_family_164 (pX12_411 _) (by first | assumption) (fun _ _ _ => rfl) rfl rfl ?_
  refine x_aload_n dX12_family_167 rfl ?_
  refine y_iconst dX12_family_168 ?_
  refine y_pi dX12_family_169 (pX12_414 _) (by first | assumption) (fun _ _ _ => rfl) rfl rfl ?_
  refine x_aload_n dX12_family_172 rfl ?_
  refine x_aload_n dX12_family_173 rfl ?_
  refine (show X _ _ 174 _ _ _ _ _ _ from ?_)
  refine x_gr dX12_family_174 fX12_409 (by first | assumption) (fun _ _ _ => rfl) (by first | assumption) ?_
  refine y_gi dX12_family_177 fX12_230 (by first | assumption) (fun _ _ _ => rfl) ?_
  refine (show X _ _ 180 _ _ _ _ _ _ from ?_)
  refine X.val (b := s.1 0 3) (by rw [u2_n hrz, u2_n hrz, e13 z (by omega)]; exact kF.1.1 3 (by decide)) ?_
  have hg := k_good (g := g) (V := u2 (u2 V3 r 18 0) r 19 0) (E := fun j => u2 (u2 V3 r 18 0) r 19 0 (r + j)) (J := J') (z := z + 24) (k := 0) (n := 0) (x := s.1 0 3) hM
  rw [← pB_of (V := u2 (u2 V3 r 18 0) r 19 0) (V' := u2 (u2 V3 r 18 0) r 19 0) (r := r) (m := 24) (fun _ _ => rfl)] at hg
  refine x_callV (As := [_]) (mc := 0) (ms := 0) (z := mX12_good) (ci := 12) dX12_family_180 lX12_95 oX12_good (by decide) (by first | assumption) rfl rfl (Nat.le_of_ble_eq_true rfl) (Nat.le_of_ble_eq_true rfl) rfl (hg) (k_I ?_)
  refine (show X _ _ 183 _ _ _ _ _ _ from ?_)
  have kv : ∀ b, 1 ≤ b → b < 24 → b ≠ 2 → u2 (u2 V3 r 18 0) r 19 0 (r + b) = E b := fun b h1 h2 h3 => by rw [u2_n (by omega), u2_n (by omega), e13 _ (by omega), (kb _ (by omega) (by omega)).1, pB_at h2]
  have kc : ∀ q, q ≠ 18 → q ≠ 19 → u2 (u2 V3 r 18 0) r 19 0 r q = V' r q := fun q h1 h2 => by rw [u2_s, u1_n h2, u2_s, u1_n h1, e13 r (by omega)]
  have k0 : ∀ q, q ≠ 1 → q ≠ 2 → u2 (u2 (fun j => u2 (u2 V3 r 18 0) r 19 0 (r + j)) 0 1 0) 0 2 (-1) 0 q = u2 (u2 V3 r 18 0) r 19 0 r q := fun q h1 h2 => by rw [u2_s, u1_n h2, u2_s, u1_n h1]; rfl
  have kr' : ∀ b, b ≠ 0 → u2 (u2 (fun j => u2 (u2 V3 r 18 0) r 19 0 (r + j)) 0 1 0) 0 2 (-1) b = u2 (u2 V3 r 18 0) r 19 0 (r + b) := fun b hb => by rw [u2_n hb, u2_n hb]
  refine x_ireturn dX12_family_183 rfl ⟨rfl, T', u2 R' r 3 (some z), J', u2 (u2 V3 r 18 0) r 19 0, _, rfl, fun b hb1 hb2 => ⟨kT b hb1, ?_, ?_, (kb b hb1 (by omega)).2.2⟩, hM, ⟨?_, ?_, ?_⟩, ⟨?_, ?_, by omega⟩, ⟨⟨?_, by omega⟩, ?_, by omega⟩, ?_, fun hh => (by cases hh), fun _ => ⟨⟨hf2, hG2, ?_, Or.inr hz⟩, ⟨hVP.1, sfW_VB hVP.1, hY4, hP1⟩, ?_, fun i hi => absurd hi (by omega), fun i hi => absurd hi (by omega)⟩⟩
  · rw [u2_n (by omega), u2_n (by omega), e13 b (by omega), (kb b hb1 (by omega)).1, pB_out (by omega)]
  · rw [u2_n (by omega)]; exact (kb b hb1 (by omega)).2.1
  · rw [u2_s, u1_n (by decide), u2_s, u1_s]
  · rw [u2_s, u1_s, if_neg (by decide)]
  · rw [k0 12 (by decide) (by decide), kc 12 (by decide) (by decide)]; exact k12
  · rw [kr' 1 (by decide), kv 1 (by decide) (by decide) (by decide)]; exact d5
  · rw [k0 6 (by decide) (by decide), kc 6 (by decide) (by decide)]; exact kr.2.1
  · rw [k0 18 (by decide) (by decide), u2_s, u1_n (by decide), u2_s, u1_s]; rfl
  · rw [k0 19 (by decide) (by decide), u2_s, u1_s]; rfl
  · rw [k0 43 (by decide) (by decide), kc 43 (by decide) (by decide), kr.2.2 43 (by decide) (by decide) (by decide) (by omega), pB_0 (by decide)]; exact d12
  · exact FMC_k kF.1 (fun b h1 h2 => by rw [u2_n (by omega), u2_n (by omega), e13 b (by omega)])
  · obtain ⟨q1, q2, q3, q4⟩ := sfW_v (A := s.1) (W := B)
    have ev : u2 (u2 (fun j => u2 (u2 V3 r 18 0) r 19 0 (r + j)) 0 1 0) 0 2 (-1) 2 = V3 (r + 2) := by rw [kr' 2 (by decide), u2_n (by omega), u2_n (by omega)]
    rw [ev]
    refine ⟨?_, ?_, ?_, fun p hp => ?_, fun j hj => ?_⟩
    · rw [q1, w3 0 (by omega), u2_s, u1_s]
    · rw [q2, w3 1 (by omega), u2_s, u1_n (by decide)]; exact z1 1 (by decide)
    · rw [q3, w3 12 (by omega), u2_s, u1_n (by decide)]; exact z1 12 (by decide)
    · have hp10 : p < 10 := by have := hVP.1.2.2.2.1; unfold fP at hp; omega
      rw [q4 p hp, y3 p (by omega) hp10, u2_n (by omega), e1 _ (by omega)]
      have := kFg 7 (by decide) (by decide) p (by unfold ctR; rw [if_pos (by decide)]; exact hp)
      rwa [if_neg (by decide)] at this
    · rw [q3] at hj; exact absurd hj (by show ¬ j < 4 * (0 : Int).toNat; omega)
end Ca2
