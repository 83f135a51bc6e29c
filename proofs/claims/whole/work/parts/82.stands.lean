/-! ===== the class's face: stands ===== -/
section C82
variable {g : GG} {T : Nat → Nat × Nat} {V V' A B : Nat → Nat → Int} {R : Nat → Nat → Option Nat} {J : Nat → Nat → Int64} {z k n : Nat} {o fw fr : Nat} {σ : Nat → Nat} {t : Nat → Int} {tp : Nat} {h : Bool} {a m : Nat} {H K : Nat → Nat → Nat → Int} {wr pl tr : Int}
theorem c_commonPart {x y : Int} {M : Mem} (hx : 0 ≤ x ∧ x ≤ 10000000000000000) (hy : 0 ≤ y ∧ y ≤ 10000000000000000) : X g mX10_commonPart 0 [.long (lI x), jk, .long (lI y), jk, jk, jk, jk, jk, jk, jk, jk] [] M k n (fun v M1 => v = some (.long (lI (gcF 200 x y))) ∧ M1 = M) := by
  have r64 : ∀ x : Int, 0 ≤ x ∧ x ≤ 10000000000000000 → R64 x := fun x h => ⟨by omega, by omega⟩
  refine x_lload_n dX10_commonPart_0 rfl ?_
  refine x_lstore dX10_commonPart_1 (by decide) rfl rfl ?_
  refine x_lload_n dX10_commonPart_3 rfl ?_
  refine x_lstore dX10_commonPart_4 (by decide) rfl rfl ?_
  refine y_iconst dX10_commonPart_6 ?_
  refine x_istore dX10_commonPart_7 (by decide) rfl rfl ?_
  refine (show X _ _ 9 _ _ _ _ _ _ from ?_)
  have key : ∀ (d : Nat) (c a b : Int), (0 ≤ a ∧ a ≤ 10000000000000000) → (0 ≤ b ∧ b ≤ 10000000000000000) → (d : Int) + c = 200 → 0 ≤ c → gcF d a b = gcF 200 x y → X g mX10_commonPart 9 [.long (lI x), jk, .long (lI y), jk, .long (lI a), jk, .long (lI b), jk, .int (iI c), jk, jk] [] M k n (fun v M1 => v = some (.long (lI (gcF 200 x y))) ∧ M1 = M) := by
    intro d
    induction d with
    | zero =>
      intro c a b ha hb hc hc0 he
      refine x_iload dX10_commonPart_9 rfl ?_
      refine y_sipush dX10_commonPart_11 rfl ?_
      refine (show X _ _ 14 _ _ _ _ _ _ from ?_)
      refine y_icmp_ge 45 dX10_commonPart_14 (by decide) ⟨by omega, by omega⟩ ⟨by omega, by omega⟩ (fun h1 => ?_) (fun h1 => ?_)
      rotate_left
      · omega
      rw [← he]
      refine x_lload dX10_commonPart_45 rfl ?_
      refine (show X _ _ 47 _ _ _ _ _ _ from ?_)
      exact x_lreturn dX10_commonPart_47 rfl ⟨rfl, rfl⟩
    | succ d ih =>
      intro c a b ha hb hc hc0 he
      refine x_iload dX10_commonPart_9 rfl ?_
      refine y_sipush dX10_commonPart_11 rfl ?_
      refine (show X _ _ 14 _ _ _ _ _ _ from ?_)
      refine y_icmp_ge 45 dX10_commonPart_14 (by decide) ⟨by omega, by omega⟩ ⟨by omega, by omega⟩ (fun h1 => ?_) (fun h1 => ?_)
      · omega
      refine x_lload dX10_commonPart_17 rfl ?_
      refine x_lconst _ dX10_commonPart_19 rfl ?_
      refine x_lcmp dX10_commonPart_20 ?_
      refine (show X _ _ 21 _ _ _ _ _ _ from ?_)
      rw [gcF] at he
      refine x_if_eq 45 dX10_commonPart_21 (by decide) (fun h2 => ?_) (fun h2 => ?_)
      · have h3 := (lI_cmp0 (r64 b hb)).mp h2
        rw [if_pos h3] at he
        rw [← he]
        refine x_lload dX10_commonPart_45 rfl ?_
        refine (show X _ _ 47 _ _ _ _ _ _ from ?_)
        exact x_lreturn dX10_commonPart_47 rfl ⟨rfl, rfl⟩
      · have h3 : ¬ b = 0 := fun c => h2 ((lI_cmp0 (r64 b hb)).mpr c)
        rw [if_neg h3] at he
        have h4 : ¬ lI b = 0 := fun c => h3 ((lI_eq (r64 b hb) (r64 0 (by decide))).mp c)
        have q1 := Int.emod_nonneg a h3
        have q2 := Int.emod_lt_of_pos a (show 0 < b by omega)
        refine x_lload dX10_commonPart_24 rfl ?_
        refine x_lload dX10_commonPart_26 rfl ?_
        refine x_lrem dX10_commonPart_28 (by assumption) ?_
        refine (show X _ _ 29 _ _ _ _ _ _ from ?_)
        rw [lI_rem (r64 a ha) (r64 b hb) ha.1]
        refine x_lstore dX10_commonPart_29 (by decide) rfl rfl ?_
        refine x_lload dX10_commonPart_31 rfl ?_
        refine x_lstore dX10_commonPart_33 (by decide) rfl rfl ?_
        refine x_lload dX10_commonPart_35 rfl ?_
        refine x_lstore dX10_commonPart_37 (by decide) rfl rfl ?_
        refine y_iinc dX10_commonPart_39 rfl (by decide) rfl rfl ?_
        refine x_goto 9 dX10_commonPart_42 (by decide) ?_
        refine (show X _ _ 9 _ _ _ _ _ _ from ?_)
        exact X.drop 9 rfl (ih (c + 1) b (a % b) hb ⟨q1, by omega⟩ (by omega) (by omega) he)
  exact key 200 0 x y hx hy (by omega) (by omega) rfl
theorem lI_m1 : (iI (-1)).toInt64 = lI (-1) := i2l_lI ⟨by decide, by decide⟩
def stOk (h : Bool) (A : Nat → Nat → Int) (x : Int) : Prop := h = true ∧ 0 ≤ x ∧ x ≤ 8 ∧ x ≤ A 0 0
theorem f_stands0 {x y : Int} (hI : CI T R V o fw fr σ t tp h A B a m H K wr pl tr) (hx : R32 x) (hb : ¬ stOk h A x) : X g mX10_stands 0 [.ref o, .int (iI x), .int (iI y), jk, jk, jk, jk, jk, jk] [] (T, iV V, R, J, z) k n (CQ T R J z V o (some (.long (lI (-1)))) t tp h A B a m H K wr pl (if h = true then 2 else 1)) := by
  have hI0 := hI
  obtain ⟨hC, ⟨p6, p7⟩, -, -, -, ⟨f1, f2, f3, f4⟩, -⟩ := hI
  have hrf := fun x => c_refuse (g := g) (J := J) (z := z) (k := 0) (n := 0) (V := V) (x := x) hC
  obtain ⟨⟨c0, c1, c2, -⟩, -, ⟨⟨w0, w1, w2, w3⟩, hFS, -⟩, -⟩ := hC
  have hf0 := hFS.1
  have hA0 := f3.1
  obtain ⟨hx1, hx2⟩ := hx
  refine x_aload_n dX10_stands_0 rfl ?_
  refine y_gi dX10_stands_1 fX10_53 (by first | assumption) (fun _ _ _ => rfl) ?_
  refine (show X _ _ 4 _ _ _ _ _ _ from ?_)
  refine X.val p6 ?_
  refine y_ifb_ne 14 dX10_stands_4 (by decide) (fun e => ?_) (fun e => ?_)
  rotate_left
  · rw [if_neg (by rw [e]; decide)]
    refine x_aload_n dX10_stands_7 rfl ?_
    refine y_iconst dX10_stands_8 ?_
    refine (show X _ _ 9 _ _ _ _ _ _ from ?_)
    refine x_callV (As := [_]) (mc := 0) (ms := 0) (z := mX10_refuse) (ci := 10) dX10_stands_9 lX10_68 oX10_refuse (by decide) (by first | assumption) rfl rfl (Nat.le_of_ble_eq_true rfl) (Nat.le_of_ble_eq_true rfl) rfl (hrf _) (k_I ?_)
    refine (show X _ _ 12 _ _ _ _ _ _ from ?_)
    refine x_i2l dX10_stands_12 ?_
    refine (show X _ _ 13 _ _ _ _ _ _ from ?_)
    rw [lI_m1]
    exact x_lreturn dX10_stands_13 rfl (CQ_tr hI0 _ _)
  rw [if_pos e]
  have t2 : X g mX10_stands 38 [.ref o, .int (iI x), .int (iI y), jk, jk, jk, jk, jk, jk] [] (T, iV V, R, J, z) k n (CQ T R J z V o (some (.long (lI (-1)))) t tp h A B a m H K wr pl 2) := by
    refine x_aload_n dX10_stands_38 rfl ?_
    refine y_iconst dX10_stands_39 ?_
    refine (show X _ _ 40 _ _ _ _ _ _ from ?_)
    refine x_callV (As := [_]) (mc := 0) (ms := 0) (z := mX10_refuse) (ci := 10) dX10_stands_40 lX10_68 oX10_refuse (by decide) (by first | assumption) rfl rfl (Nat.le_of_ble_eq_true rfl) (Nat.le_of_ble_eq_true rfl) rfl (hrf _) (k_I ?_)
    refine (show X _ _ 43 _ _ _ _ _ _ from ?_)
    refine x_i2l dX10_stands_43 ?_
    refine (show X _ _ 44 _ _ _ _ _ _ from ?_)
    rw [lI_m1]
    exact x_lreturn dX10_stands_44 rfl (CQ_tr hI0 _ _)
  refine x_iload_n dX10_stands_14 rfl ?_
  refine (show X _ _ 15 _ _ _ _ _ _ from ?_)
  refine y_if_lt 38 dX10_stands_15 (by decide) ⟨by omega, by omega⟩ (fun e1 => ?_) (fun e1 => ?_)
  · exact t2
  refine x_iload_n dX10_stands_18 rfl ?_
  refine y_bipush dX10_stands_19 rfl ?_
  refine (show X _ _ 21 _ _ _ _ _ _ from ?_)
  refine y_icmp_gt 38 dX10_stands_21 (by decide) ⟨by omega, by omega⟩ ⟨by omega, by omega⟩ (fun e2 => ?_) (fun e2 => ?_)
  · exact t2
  refine x_iload_n dX10_stands_24 rfl ?_
  refine x_aload_n dX10_stands_25 rfl ?_
  refine x_gr dX10_stands_26 fX10_19 (by first | assumption) (fun _ _ _ => rfl) (by first | assumption) ?_
  refine x_gr dX10_stands_29 fX10_76 (by first | assumption) (fun _ _ _ => rfl) (by first | assumption) ?_
  refine y_gi dX10_stands_32 fX10_256 (by first | assumption) (fun _ _ _ => rfl) ?_
  refine (show X _ _ 35 _ _ _ _ _ _ from ?_)
  refine X.val (f1.1 0 (by decide)) ?_
  refine y_icmp_le 45 dX10_stands_35 (by decide) ⟨by omega, by omega⟩ ⟨by omega, by omega⟩ (fun e3 => ?_) (fun e3 => ?_)
  · exact absurd ⟨e, e1, e2, e3⟩ hb
  · exact t2
theorem f_stands {x : Int} {lo : Bool} (hI : CI T R V o fw fr σ t tp h A B a m H K wr pl tr) (hb : stOk h A x) : X g mX10_stands 0 [.ref o, .int (iI x), .int (iI (bI lo)), jk, jk, jk, jk, jk, jk] [] (T, iV V, R, J, z) k n (CQ T R J z V o (some (.long (lI (stdA A (rn A B (B 0 0) (B 0 1) 4) x.toNat lo)))) t tp h A B a m H K wr pl 0) := by
  obtain ⟨rfl, b1, b2, b3⟩ := hb
  have hI0 := hI
  have han := an_rn hI
  obtain ⟨hC, ⟨p6, p7⟩, -, -, -, ⟨f1, f2, f3, f4⟩, -⟩ := hI
  have hC0 := hC
  obtain ⟨⟨c0, c1, c2, c3, c4, -⟩, -, ⟨⟨w0, w1, w2, w3⟩, hFS, -⟩, -, hU, -⟩ := hC
  obtain ⟨⟨u0, u1, u2', u3⟩, -, -, ru, -⟩ := hU
  obtain ⟨⟨r0, r1⟩, ⟨r2, r3, r4, r5⟩, ⟨s1, s2, s3, s4⟩⟩ := ru
  have hf0 := hFS.1
  obtain ⟨-, ⟨f9, -⟩, ⟨t1, -⟩, hPR, -⟩ := hFS
  have hA0 := f3.1
  have hA3 := f3.2.2.2.1
  have eP := fP10 f3
  have hY := fY24 f3
  have hAp := f3.2.2.2.2.2.2.2.2.2.1
  have hrk := rn_ok (B := B) f3 f4 f4.1 f4.2.1
  have hel := hrk.2.2.2.2.2.2.2.2.2
  generalize eE : rn A B (B 0 0) (B 0 1) 4 = e at *
  have hst := stU_b (A := A) (e := e) (P := A 0 3) (fun p hp => (hAp p (by show p < (A 0 3).toNat; omega)).2.2.2.2.2.1)
  have r64 : ∀ x : Int, 0 ≤ x ∧ x ≤ 10000000000000000 → R64 x := fun x h => ⟨by omega, by omega⟩
  have hsx := hst x.toNat (fun y hy => (hel y (by omega)).2)
  have h100 := p100 (show x.toNat ≤ 8 by omega)
  have hcp := c_commonPart (g := g) (k := 0) (n := 0) (x := (stU A e x.toNat).1) (y := (stU A e x.toNat).2) (M := (T, iV (u2 V o 7 0), R, J, z)) (by omega) (by omega)
  refine x_aload_n dX10_stands_0 rfl ?_
  refine y_gi dX10_stands_1 fX10_53 (by first | assumption) (fun _ _ _ => rfl) ?_
  refine (show X _ _ 4 _ _ _ _ _ _ from ?_)
  refine X.val p6 ?_
  refine y_ifb_ne 14 dX10_stands_4 (by decide) (fun e0 => ?_) (fun e0 => ?_)
  rotate_left
  · cases e0
  refine x_iload_n dX10_stands_14 rfl ?_
  refine (show X _ _ 15 _ _ _ _ _ _ from ?_)
  refine y_if_lt 38 dX10_stands_15 (by decide) ⟨by omega, by omega⟩ (fun e1 => ?_) (fun e1 => ?_)
  · omega
  refine x_iload_n dX10_stands_18 rfl ?_
  refine y_bipush dX10_stands_19 rfl ?_
  refine (show X _ _ 21 _ _ _ _ _ _ from ?_)
  refine y_icmp_gt 38 dX10_stands_21 (by decide) ⟨by omega, by omega⟩ ⟨by omega, by omega⟩ (fun e2 => ?_) (fun e2 => ?_)
  · omega
  refine x_iload_n dX10_stands_24 rfl ?_
  refine x_aload_n dX10_stands_25 rfl ?_
  refine x_gr dX10_stands_26 fX10_19 (by first | assumption) (fun _ _ _ => rfl) (by first | assumption) ?_
  refine x_gr dX10_stands_29 fX10_76 (by first | assumption) (fun _ _ _ => rfl) (by first | assumption) ?_
  refine y_gi dX10_stands_32 fX10_256 (by first | assumption) (fun _ _ _ => rfl) ?_
  refine (show X _ _ 35 _ _ _ _ _ _ from ?_)
  refine X.val (f1.1 0 (by decide)) ?_
  refine y_icmp_le 45 dX10_stands_35 (by decide) ⟨by omega, by omega⟩ ⟨by omega, by omega⟩ (fun e3 => ?_) (fun e3 => ?_)
  rotate_left
  · omega
  refine x_lconst _ dX10_stands_45 rfl ?_
  refine x_lstore_n dX10_stands_46 (by decide) rfl rfl ?_
  refine x_lconst _ dX10_stands_47 rfl ?_
  refine x_lstore dX10_stands_48 (by decide) rfl rfl ?_
  refine y_iconst dX10_stands_50 ?_
  refine x_istore dX10_stands_51 (by decide) rfl rfl ?_
  refine (show X _ _ 53 _ _ _ _ _ _ from ?_)
  refine loopN (P := fun i => X g mX10_stands 53 [.ref o, .int (iI x), .int (iI (bI lo)), .long (lI (stU A e i).1), jk, .long (lI (stU A e i).2), jk, .int (iI (i : Int)), jk] [] (T, iV V, R, J, z) k n (CQ T R J z V o (some (.long (lI (stdA A e x.toNat lo)))) t tp true A B a m H K wr pl 0)) x.toNat ?_ (fun i hi ih => ?_)
  · refine x_iload dX10_stands_53 rfl ?_
    refine x_iload_n dX10_stands_55 rfl ?_
    refine (show X _ _ 56 _ _ _ _ _ _ from ?_)
    refine y_icmp_ge 115 dX10_stands_56 (by decide) ⟨by omega, by omega⟩ ⟨by omega, by omega⟩ (fun h1 => ?_) (fun h1 => ?_)
    rotate_left
    · omega
    refine x_aload_n dX10_stands_115 rfl ?_
    refine y_iconst dX10_stands_116 ?_
    refine y_pi dX10_stands_117 (pX10_57 _) (by first | assumption) (fun _ _ _ => rfl) rfl rfl ?_
    refine x_lload_n dX10_stands_120 rfl ?_
    refine x_lload dX10_stands_121 rfl ?_
    refine (show X _ _ 123 _ _ _ _ _ _ from ?_)
    refine X.drop 7 rfl ?_
    refine x_callS (As := [_, _]) (mc := 0) (ms := 0) (z := mX10_commonPart) dX10_stands_123 lX10_261 oX10_commonPart (by decide) rfl (Nat.le_of_ble_eq_true rfl) (Nat.le_of_ble_eq_true rfl) rfl (hcp) (k_L ?_)
    refine (show X _ _ 126 _ _ _ _ _ _ from ?_)
    have hg := gcF_b (N := 10000000000000000) 200 (stU A e x.toNat).1 (stU A e x.toNat).2 (by omega) (by omega)
    unfold stdA
    generalize gcF 200 (stU A e x.toNat).1 (stU A e x.toNat).2 = gg at *
    refine x_lstore dX10_stands_126 (by decide) rfl rfl ?_
    refine x_lload dX10_stands_128 rfl ?_
    refine x_lconst _ dX10_stands_130 rfl ?_
    refine x_lcmp dX10_stands_131 ?_
    refine (show X _ _ 132 _ _ _ _ _ _ from ?_)
    refine x_if_ne 137 dX10_stands_132 (by decide) (fun h2 => ?_) (fun h2 => ?_)
    rotate_left
    · rw [if_pos ((lI_cmp0 (r64 gg hg)).mp h2)]
      refine x_lconst _ dX10_stands_135 rfl ?_
      refine (show X _ _ 136 _ _ _ _ _ _ from ?_)
      exact x_lreturn dX10_stands_136 rfl (CQ_tr hI0 _ _)
    have h3 : ¬ gg = 0 := fun c => h2 ((lI_cmp0 (r64 gg hg)).mpr c)
    rw [if_neg h3]
    have h4 : ¬ lI gg = 0 := fun c => h3 ((lI_eq (r64 gg hg) (r64 0 (by decide))).mp c)
    refine x_iload_n dX10_stands_137 rfl ?_
    refine (show X _ _ 138 _ _ _ _ _ _ from ?_)
    refine y_ifb_eq 149 dX10_stands_138 (by decide) (fun h5 => ?_) (fun h5 => ?_)
    · rw [if_neg (by rw [h5]; decide)]
      refine x_lload_n dX10_stands_149 rfl ?_
      refine x_lload dX10_stands_150 rfl ?_
      refine x_ldiv dX10_stands_152 (by assumption) ?_
      refine (show X _ _ 153 _ _ _ _ _ _ from ?_)
      rw [lI_div (r64 _ (by omega)) (r64 gg hg) hsx.1.1]
      exact x_lreturn dX10_stands_153 rfl (CQ_tr hI0 _ _)
    · rw [if_pos h5]
      refine x_lload dX10_stands_141 rfl ?_
      refine x_lload dX10_stands_143 rfl ?_
      refine x_ldiv dX10_stands_145 (by assumption) ?_
      refine x_goto 153 dX10_stands_146 (by decide) ?_
      refine (show X _ _ 153 _ _ _ _ _ _ from ?_)
      rw [lI_div (r64 _ (by omega)) (r64 gg hg) (by omega)]
      exact x_lreturn dX10_stands_153 rfl (CQ_tr hI0 _ _)
  · have he := hel i (by omega)
    have hre : V (o + 155 + 8 + 4) i = e i := by rw [← eE]; exact RE_4 han (show i < fY A by omega)
    have es : stU A e (i + 1) = if 0 ≤ e i then ((stU A e i).1 * (100 - A 6 (e i).toNat), (stU A e i).2 * 100) else stU A e i := rfl
    rw [es] at ih
    refine x_iload dX10_stands_53 rfl ?_
    refine x_iload_n dX10_stands_55 rfl ?_
    refine (show X _ _ 56 _ _ _ _ _ _ from ?_)
    refine y_icmp_ge 115 dX10_stands_56 (by decide) ⟨by omega, by omega⟩ ⟨by omega, by omega⟩ (fun h1 => ?_) (fun h1 => ?_)
    · omega
    refine x_aload_n dX10_stands_59 rfl ?_
    refine x_gr dX10_stands_60 fX10_35 (by first | assumption) (fun _ _ _ => rfl) (by first | assumption) ?_
    refine x_gr dX10_stands_63 fX10_138 (by first | assumption) (fun _ _ _ => rfl) (by first | assumption) ?_
    refine x_gr dX10_stands_66 fX10_141 (by first | assumption) (fun _ _ _ => rfl) (by first | assumption) ?_
    refine x_iload dX10_stands_69 rfl ?_
    refine y_iald (i) dX10_stands_71 (by first | assumption) (by first | rfl | omega) (by omega) (by decide) ?_
    refine (show X _ _ 72 _ _ _ _ _ _ from ?_)
    refine X.val hre ?_
    refine x_istore dX10_stands_72 (by decide) rfl rfl ?_
    refine x_iload dX10_stands_74 rfl ?_
    refine (show X _ _ 76 _ _ _ _ _ _ from ?_)
    refine y_if_lt 109 dX10_stands_76 (by decide) ⟨by omega, by omega⟩ (fun h2 => ?_) (fun h2 => ?_)
    · rw [if_neg (by omega)] at ih
      refine y_iinc dX10_stands_109 rfl (by decide) rfl rfl ?_
      refine x_goto 53 dX10_stands_112 (by decide) ?_
      refine (show X _ _ 53 _ _ _ _ _ _ from ?_)
      exact X.drop 8 rfl ih
    · rw [if_pos h2] at ih
      obtain ⟨d1, d2⟩ := hPR (e i).toNat (by omega)
      have hpp : (e i).toNat < fP A := by omega
      have h6 := (hAp _ hpp).2.2.2.2.2.1
      refine x_lload_n dX10_stands_79 rfl ?_
      refine y_bipush dX10_stands_80 rfl ?_
      refine x_aload_n dX10_stands_82 rfl ?_
      refine x_gr dX10_stands_83 fX10_19 (by first | assumption) (fun _ _ _ => rfl) (by first | assumption) ?_
      refine x_gr dX10_stands_86 fX10_76 (by first | assumption) (fun _ _ _ => rfl) (by first | assumption) ?_
      refine x_gr dX10_stands_89 fX10_112 (by first | assumption) (fun _ _ _ => rfl) (by first | assumption) ?_
      refine x_iload dX10_stands_92 rfl ?_
      refine y_aald ((e i).toNat) dX10_stands_94 (by first | assumption) (by decide) (by first | rfl | omega) (by omega) (by decide) (by first | assumption) ?_
      refine (show X _ _ 95 _ _ _ _ _ _ from ?_)
      refine y_iconst dX10_stands_95 ?_
      refine y_iald (5) dX10_stands_96 (by first | assumption) (by first | rfl | omega) (by omega) (by decide) ?_
      refine (show X _ _ 97 _ _ _ _ _ _ from ?_)
      refine X.val (b := A 6 (e i).toNat) (f1.2.1 _ hpp 5 (by decide)) ?_
      refine y_isub dX10_stands_97 ?_
      refine x_i2l dX10_stands_98 ?_
      refine (show X _ _ 99 _ _ _ _ _ _ from ?_)
      rw [i2l_lI ⟨by omega, by omega⟩]
      refine x_lmul dX10_stands_99 ?_
      refine (show X _ _ 100 _ _ _ _ _ _ from ?_)
      rw [lI_mul]
      refine x_lstore_n dX10_stands_100 (by decide) rfl rfl ?_
      refine x_lload dX10_stands_101 rfl ?_
      refine x_ldc2 dX10_stands_103 kX10_259 ?_
      refine x_lmul dX10_stands_106 ?_
      refine (show X _ _ 107 _ _ _ _ _ _ from ?_)
      rw [show (100 : Int64) = lI 100 from rfl, lI_mul]
      refine x_lstore dX10_stands_107 (by decide) rfl rfl ?_
      refine y_iinc dX10_stands_109 rfl (by decide) rfl rfl ?_
      refine x_goto 53 dX10_stands_112 (by decide) ?_
      refine (show X _ _ 53 _ _ _ _ _ _ from ?_)
      exact X.drop 8 rfl ih
end C82
