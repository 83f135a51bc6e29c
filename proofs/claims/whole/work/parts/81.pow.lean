/-! ===== the class's face: power, stands ===== -/
def swB (A : Nat → Nat → Int) (vo p set : Nat) : Bool := decide (andn set (andn vo (2 ^ p)) = 0 ∧ 2 * wOf A set ≤ wOf A vo ∧ wOf A vo < 2 * (wOf A set + A 5 p))
def swS (A : Nat → Nat → Int) (vo p m : Nat) : Int := lp m (fun set c => if swB A vo p set then c + 1 else c) 0
def lI (x : Int) : Int64 := Int64.ofInt x
def R64 (x : Int) : Prop := -9223372036854775808 ≤ x ∧ x ≤ 9223372036854775807
theorem lI_toInt {x : Int} (h : R64 x) : (lI x).toInt = x := Int64.toInt_ofInt_of_le (by have := h.1; omega) (by have := h.2; omega)
theorem lI_mul (a b : Int) : lI a * lI b = lI (a * b) := (Int64.ofInt_mul a b).symm
theorem lI_sub (a b : Int) : lI a - lI b = lI (a - b) := (Int64.ofInt_sub a b).symm
theorem lI_eq {a b : Int} (ha : R64 a) (hb : R64 b) : lI a = lI b ↔ a = b := by
  constructor
  · intro h
    have := congrArg Int64.toInt h
    rwa [lI_toInt ha, lI_toInt hb] at this
  · exact fun h => by rw [h]
theorem lI_div {a b : Int} (ha : R64 a) (hb : R64 b) (h0 : 0 ≤ a) : lI a / lI b = lI (a / b) := by
  rw [← Int.tdiv_eq_ediv_of_nonneg h0]
  exact (Int64.ofInt_tdiv (by show -9223372036854775808 ≤ a; exact ha.1) (by show a ≤ 9223372036854775807; exact ha.2) (by show -9223372036854775808 ≤ b; exact hb.1) (by show b ≤ 9223372036854775807; exact hb.2)).symm
theorem lI_rem {a b : Int} (ha : R64 a) (hb : R64 b) (h0 : 0 ≤ a) : lI a - lI a / lI b * lI b = lI (a % b) := by
  rw [lI_div ha hb h0, lI_mul, lI_sub]
  congr 1
  have := Int.emod_add_mul_ediv a b
  rw [Int.mul_comm] at this
  omega
theorem i2l_lI {x : Int} (h : R32 x) : (iI x).toInt64 = lI x := by
  apply Int64.toInt_inj.mp
  rw [Int32.toInt_toInt64, iI_toInt h, lI_toInt ⟨by have := h.1; omega, by have := h.2; omega⟩]
theorem lI_cmp0 {a : Int} (ha : R64 a) : lg_cmp (lI a) 0 = 0 ↔ a = 0 := by
  have h0 : lI 0 = 0 := rfl
  unfold lg_cmp
  rw [← h0]
  constructor
  · intro h
    split at h
    · exact absurd h (by decide)
    · split at h
      · rename_i h2; exact (lI_eq ha ⟨by decide, by decide⟩).mp h2
      · exact absurd h (by decide)
  · intro h
    subst h
    rfl
/-- upper and under of the years y < t -/
def stU (A : Nat → Nat → Int) (e : Nat → Int) (t : Nat) : Int × Int := lp t (fun y s => if 0 ≤ e y then (s.1 * (100 - A 6 (e y).toNat), s.2 * 100) else s) (1, 1)
def gcF : Nat → Int → Int → Int
  | 0, a, _ => a
  | n + 1, a, b => if b = 0 then a else gcF n b (a % b)
def stdA (A : Nat → Nat → Int) (e : Nat → Int) (t : Nat) (lower : Bool) : Int := if gcF 200 (stU A e t).1 (stU A e t).2 = 0 then 0 else if lower then (stU A e t).2 / gcF 200 (stU A e t).1 (stU A e t).2 else (stU A e t).1 / gcF 200 (stU A e t).1 (stU A e t).2
theorem gcF_b {N : Int} : ∀ (n : Nat) (a b : Int), (0 ≤ a ∧ a ≤ N) → (0 ≤ b ∧ b ≤ N) → 0 ≤ gcF n a b ∧ gcF n a b ≤ N
  | 0, a, b, ha, hb => ha
  | n + 1, a, b, ha, hb => by
    rw [gcF]
    split
    · exact ha
    · rename_i h
      have h1 := Int.emod_nonneg a h
      have h2 := Int.emod_lt_of_pos a (show 0 < b by omega)
      exact gcF_b n b (a % b) hb ⟨h1, by omega⟩
theorem stU_b {A : Nat → Nat → Int} {e : Nat → Int} {P : Int} (hA : ∀ p : Nat, (p : Int) < P → 0 ≤ A 6 p ∧ A 6 p ≤ 100) : ∀ t, (∀ y, y < t → e y < P) → (0 ≤ (stU A e t).1 ∧ (stU A e t).1 ≤ 100 ^ t) ∧ (1 ≤ (stU A e t).2 ∧ (stU A e t).2 ≤ 100 ^ t)
  | 0, _ => ⟨⟨by show (0 : Int) ≤ 1; decide, by show (1 : Int) ≤ 1; decide⟩, ⟨by show (1 : Int) ≤ 1; decide, by show (1 : Int) ≤ 1; decide⟩⟩
  | t + 1, he => by
    have ih := stU_b hA t (fun y hy => he y (by omega))
    have e1 : stU A e (t + 1) = if 0 ≤ e t then ((stU A e t).1 * (100 - A 6 (e t).toNat), (stU A e t).2 * 100) else stU A e t := rfl
    have hp : (100 : Int) ^ (t + 1) = 100 ^ t * 100 := Int.pow_succ 100 t
    rw [e1, hp]
    generalize stU A e t = s at *
    generalize (100 : Int) ^ t = N at *
    split
    · rename_i h
      have h6 := hA (e t).toNat (by have := he t (by omega); omega)
      refine ⟨⟨Int.mul_nonneg ih.1.1 (by omega), ?_⟩, by show (1 : Int) ≤ s.2 * 100; omega, by show s.2 * 100 ≤ _; omega⟩
      exact Int.le_trans (Int.mul_le_mul_of_nonneg_left (show 100 - A 6 (e t).toNat ≤ 100 by omega) ih.1.1) (Int.mul_le_mul_of_nonneg_right ih.1.2 (by decide))
    · refine ⟨⟨ih.1.1, by omega⟩, ih.2.1, by omega⟩
theorem p100 {t : Nat} (h : t ≤ 8) : (100 : Int) ^ t ≤ 10000000000000000 := by
  have : t = 0 ∨ t = 1 ∨ t = 2 ∨ t = 3 ∨ t = 4 ∨ t = 5 ∨ t = 6 ∨ t = 7 ∨ t = 8 := by omega
  rcases this with rfl | rfl | rfl | rfl | rfl | rfl | rfl | rfl | rfl <;> decide
section C81
variable {g : GG} {T : Nat → Nat × Nat} {V V' A B : Nat → Nat → Int} {R : Nat → Nat → Option Nat} {J : Nat → Nat → Int64} {z k n : Nat} {o fw fr : Nat} {σ : Nat → Nat} {t : Nat → Int} {tp : Nat} {h : Bool} {a m : Nat} {H K : Nat → Nat → Nat → Int} {wr pl tr : Int}
theorem c_swayed {vo p : Nat} (hC : CS T R o fw fr σ) (hF : FC V fw A) (hA : VA A) (hv : vo < 1024) (hp : p < fP A) : X g mX10_swayedSets 0 [.ref o, .int (iI (p : Int)), .int (iI (vo : Int)), jk, jk, jk, jk, jk, jk] [] (T, iV V, R, J, z) k n (rI (iI (swS A vo p (andn vo (2 ^ p) + 1))) (T, iV V, R, J, z)) := by
  obtain ⟨⟨c0, c1, c2, -⟩, -, ⟨⟨w0, w1, w2, w3⟩, hFS, -⟩, -⟩ := hC
  have hwo := fun (set : Nat) (hs : set < 1024) => c_weightOf (g := g) (J := J) (z := z) (k := 0) (n := 0) (V := V) (set := set) hFS hF hA (by omega)
  have hwb := fun set => wOf_b hA set
  have f0 := hFS.1
  obtain ⟨-, ⟨f9, -⟩, ⟨t1, -⟩, hPR, -⟩ := hFS
  have eP := fP10 hA
  have hAp := hA.2.2.2.2.2.2.2.2.2.1 p hp
  have hown : V (fw + 2 + p) 4 = A 5 p := hF.2.1 p hp 4 (by decide)
  generalize hot : andn vo (2 ^ p) = ot
  have hot1 : ot < 1024 := by rw [← hot]; exact andn_lt hv
  have hb := hwb vo
  refine x_aload_n dX10_swayedSets_0 rfl ?_
  refine x_gr dX10_swayedSets_1 fX10_19 (by first | assumption | exact (hPR _ (by omega)).2) (fun _ _ _ => rfl) (by first | assumption | exact (hPR _ (by omega)).2) ?_
  refine x_gr dX10_swayedSets_4 fX10_76 (by first | assumption | exact (hPR _ (by omega)).2) (fun _ _ _ => rfl) (by first | assumption | exact (hPR _ (by omega)).2) ?_
  refine x_iload_n dX10_swayedSets_7 rfl ?_
  refine (show X _ _ 8 _ _ _ _ _ _ from ?_)
  refine x_callV (As := [_]) (mc := 0) (ms := 0) (z := mX2_weightOf) (ci := 2) dX10_swayedSets_8 lX10_355 oX2_weightOf (by decide) (by first | assumption | exact (hPR _ (by omega)).2) rfl rfl (Nat.le_of_ble_eq_true rfl) (Nat.le_of_ble_eq_true rfl) rfl (hwo vo hv) (k_I ?_)
  refine (show X _ _ 11 _ _ _ _ _ _ from ?_)
  refine x_istore_n dX10_swayedSets_11 (by decide) rfl rfl ?_
  refine x_iload_n dX10_swayedSets_12 rfl ?_
  refine y_iconst dX10_swayedSets_13 ?_
  refine x_iload_n dX10_swayedSets_14 rfl ?_
  refine y_ishl (p) dX10_swayedSets_15 (by first | rfl | omega) (by omega) ?_
  refine y_andn dX10_swayedSets_16 dX10_swayedSets_17 dX10_swayedSets_18 ?_
  refine x_istore dX10_swayedSets_19 (by decide) rfl rfl ?_
  refine x_aload_n dX10_swayedSets_21 rfl ?_
  refine (show X _ _ 22 _ _ _ _ _ _ from ?_)
  refine x_gr dX10_swayedSets_22 fX10_19 (by first | assumption | exact (hPR _ (by omega)).2) (fun _ _ _ => rfl) (by first | assumption | exact (hPR _ (by omega)).2) ?_
  refine x_gr dX10_swayedSets_25 fX10_76 (by first | assumption | exact (hPR _ (by omega)).2) (fun _ _ _ => rfl) (by first | assumption | exact (hPR _ (by omega)).2) ?_
  refine x_gr dX10_swayedSets_28 fX10_112 (by first | assumption | exact (hPR _ (by omega)).2) (fun _ _ _ => rfl) (by first | assumption | exact (hPR _ (by omega)).2) ?_
  refine x_iload_n dX10_swayedSets_31 rfl ?_
  refine y_aald (p) dX10_swayedSets_32 (by first | assumption | exact (hPR _ (by omega)).2) (by decide) (by first | rfl | omega) (by omega) (by decide) (by first | assumption | exact (hPR _ (by omega)).1) ?_
  refine y_iconst dX10_swayedSets_33 ?_
  refine y_iald (4) dX10_swayedSets_34 (by first | assumption | exact (hPR _ (by omega)).2) (by first | rfl | omega) (by omega) (by decide) ?_
  refine (show X _ _ 35 _ _ _ _ _ _ from ?_)
  refine X.val hown ?_
  rw [hot]
  refine x_istore dX10_swayedSets_35 (by decide) rfl rfl ?_
  refine y_iconst dX10_swayedSets_37 ?_
  refine x_istore dX10_swayedSets_38 (by decide) rfl rfl ?_
  refine y_iconst dX10_swayedSets_40 ?_
  refine x_istore dX10_swayedSets_41 (by decide) rfl rfl ?_
  refine (show X _ _ 43 _ _ _ _ _ _ from ?_)
  refine loopN (P := fun i => X g mX10_swayedSets 43 [.ref o, .int (iI (p : Int)), .int (iI (vo : Int)), .int (iI (wOf A vo)), .int (iI (ot : Int)), .int (iI (A 5 p)), .int (iI (swS A vo p i)), .int (iI (i : Int)), jk] [] (T, iV V, R, J, z) k n (rI (iI (swS A vo p (ot + 1))) (T, iV V, R, J, z))) (ot + 1) ?_ (fun i hi ih => ?_)
  · refine x_iload dX10_swayedSets_43 rfl ?_
    refine x_iload dX10_swayedSets_45 rfl ?_
    refine (show X _ _ 47 _ _ _ _ _ _ from ?_)
    refine y_icmp_gt 102 dX10_swayedSets_47 (by decide) ⟨by omega, by omega⟩ ⟨by omega, by omega⟩ (fun h1 => ?_) (fun h1 => ?_)
    rotate_left
    · omega
    refine x_iload dX10_swayedSets_102 rfl ?_
    refine (show X _ _ 104 _ _ _ _ _ _ from ?_)
    exact x_ireturn dX10_swayedSets_104 rfl ⟨rfl, rfl⟩
  · have hwi := hwb i
    have hle := andn_le i ot
    have es : swS A vo p (i + 1) = if swB A vo p i then swS A vo p i + 1 else swS A vo p i := rfl
    rw [es] at ih
    have no : ¬ (andn i ot = 0 ∧ 2 * wOf A i ≤ wOf A vo ∧ wOf A vo < 2 * (wOf A i + A 5 p)) → X g mX10_swayedSets 96 [.ref o, .int (iI (p : Int)), .int (iI (vo : Int)), .int (iI (wOf A vo)), .int (iI (ot : Int)), .int (iI (A 5 p)), .int (iI (swS A vo p i)), .int (iI (i : Int)), jk] [] (T, iV V, R, J, z) k n (rI (iI (swS A vo p (ot + 1))) (T, iV V, R, J, z)) := by
      intro c
      have e : swB A vo p i = false := by unfold swB; rw [hot]; exact decide_eq_false c
      rw [if_neg (by rw [e]; decide)] at ih
      refine y_iinc dX10_swayedSets_96 rfl (by decide) rfl rfl ?_
      refine x_goto 43 dX10_swayedSets_99 (by decide) ?_
      refine (show X _ _ 43 _ _ _ _ _ _ from ?_)
      exact ih
    refine x_iload dX10_swayedSets_43 rfl ?_
    refine x_iload dX10_swayedSets_45 rfl ?_
    refine (show X _ _ 47 _ _ _ _ _ _ from ?_)
    refine y_icmp_gt 102 dX10_swayedSets_47 (by decide) ⟨by omega, by omega⟩ ⟨by omega, by omega⟩ (fun h1 => ?_) (fun h1 => ?_)
    · omega
    refine x_iload dX10_swayedSets_50 rfl ?_
    refine x_iload dX10_swayedSets_52 rfl ?_
    refine y_andn dX10_swayedSets_54 dX10_swayedSets_55 dX10_swayedSets_56 ?_
    refine (show X _ _ 57 _ _ _ _ _ _ from ?_)
    refine y_if_ne 96 dX10_swayedSets_57 (by decide) ⟨by omega, by omega⟩ (fun h2 => ?_) (fun h2 => ?_)
    · exact no (fun c => h2 (by omega))
    refine x_aload_n dX10_swayedSets_60 rfl ?_
    refine x_gr dX10_swayedSets_61 fX10_19 (by first | assumption | exact (hPR _ (by omega)).2) (fun _ _ _ => rfl) (by first | assumption | exact (hPR _ (by omega)).2) ?_
    refine x_gr dX10_swayedSets_64 fX10_76 (by first | assumption | exact (hPR _ (by omega)).2) (fun _ _ _ => rfl) (by first | assumption | exact (hPR _ (by omega)).2) ?_
    refine x_iload dX10_swayedSets_67 rfl ?_
    refine (show X _ _ 69 _ _ _ _ _ _ from ?_)
    refine x_callV (As := [_]) (mc := 0) (ms := 0) (z := mX2_weightOf) (ci := 2) dX10_swayedSets_69 lX10_355 oX2_weightOf (by decide) (by first | assumption | exact (hPR _ (by omega)).2) rfl rfl (Nat.le_of_ble_eq_true rfl) (Nat.le_of_ble_eq_true rfl) rfl (hwo i (by omega)) (k_I ?_)
    refine (show X _ _ 72 _ _ _ _ _ _ from ?_)
    refine x_istore dX10_swayedSets_72 (by decide) rfl rfl ?_
    refine y_iconst dX10_swayedSets_74 ?_
    refine x_iload dX10_swayedSets_75 rfl ?_
    refine y_imul dX10_swayedSets_77 ?_
    refine x_iload_n dX10_swayedSets_78 rfl ?_
    refine (show X _ _ 79 _ _ _ _ _ _ from ?_)
    refine y_icmp_gt 96 dX10_swayedSets_79 (by decide) ⟨by omega, by omega⟩ ⟨by omega, by omega⟩ (fun h3 => ?_) (fun h3 => ?_)
    · exact X.drop 8 rfl (no (fun c => by omega))
    refine y_iconst dX10_swayedSets_82 ?_
    refine x_iload dX10_swayedSets_83 rfl ?_
    refine x_iload dX10_swayedSets_85 rfl ?_
    refine y_iadd dX10_swayedSets_87 ?_
    refine y_imul dX10_swayedSets_88 ?_
    refine x_iload_n dX10_swayedSets_89 rfl ?_
    refine (show X _ _ 90 _ _ _ _ _ _ from ?_)
    refine y_icmp_le 96 dX10_swayedSets_90 (by decide) ⟨by omega, by omega⟩ ⟨by omega, by omega⟩ (fun h4 => ?_) (fun h4 => ?_)
    · exact X.drop 8 rfl (no (fun c => by omega))
    have e : swB A vo p i = true := by unfold swB; rw [hot]; exact decide_eq_true ⟨by omega, h3, h4⟩
    rw [if_pos e] at ih
    refine y_iinc dX10_swayedSets_93 rfl (by decide) rfl rfl ?_
    refine y_iinc dX10_swayedSets_96 rfl (by decide) rfl rfl ?_
    refine x_goto 43 dX10_swayedSets_99 (by decide) ?_
    refine (show X _ _ 43 _ _ _ _ _ _ from ?_)
    exact X.drop 8 rfl ih
def pwA (A B : Nat → Nat → Int) (p : Nat) : Int := if (thS A B 0).testBit p then swS A (thS A B 0) p (andn (thS A B 0) (2 ^ p) + 1) else 0
theorem f_power {p : Int} (hI : CI T R V o fw fr σ t tp h A B a m H K wr pl tr) (hp : R32 p) : X g mX10_power 0 [.ref o, .int (iI p), jk] [] (T, iV V, R, J, z) k n (CQ T R J z V o (some (.int (iI (if noP h A p = true then -1 else pwA A B p.toNat)))) t tp h A B a m H K wr pl (if noP h A p = true then 1 else 0)) := by
  have hI0 := hI
  obtain ⟨hC, ⟨p6, p7⟩, -, -, -, ⟨f1, f2, f3, f4⟩, -, -, g1, -⟩ := hI
  have hrf := fun x => c_refuse (g := g) (J := J) (z := z) (k := 0) (n := 0) (V := V) (x := x) hC
  have hgr := fun x => c_grant (g := g) (J := J) (z := z) (k := 0) (n := 0) (V := V) (x := x) hC
  have hnp := c_isNoPerson (g := g) (J := J) (z := z) (k := 0) (n := 0) (p := p) hC p6 f1 f3 hp
  have hC0 := hC
  obtain ⟨⟨c0, c1, c2, -⟩, -, ⟨⟨w0, w1, w2, w3⟩, -, -, hAS⟩, -⟩ := hC
  obtain ⟨a0, ⟨a1, -⟩, ⟨at1, -⟩⟩ := hAS
  refine x_aload_n dX10_power_0 rfl ?_
  refine x_iload_n dX10_power_1 rfl ?_
  refine (show X _ _ 2 _ _ _ _ _ _ from ?_)
  refine x_callV (As := [_]) (mc := 0) (ms := 0) (z := mX10_isNoPerson) (ci := 10) dX10_power_2 lX10_109 oX10_isNoPerson (by decide) (by first | assumption) rfl rfl (Nat.le_of_ble_eq_true rfl) (Nat.le_of_ble_eq_true rfl) rfl (hnp) (k_I ?_)
  refine (show X _ _ 5 _ _ _ _ _ _ from ?_)
  refine y_ifb_eq 14 dX10_power_5 (by decide) (fun e => ?_) (fun e => ?_)
  rotate_left
  · rw [if_pos e, if_pos e]
    refine x_aload_n dX10_power_8 rfl ?_
    refine y_iconst dX10_power_9 ?_
    refine (show X _ _ 10 _ _ _ _ _ _ from ?_)
    refine x_callV (As := [_]) (mc := 0) (ms := 0) (z := mX10_refuse) (ci := 10) dX10_power_10 lX10_68 oX10_refuse (by decide) (by first | assumption) rfl rfl (Nat.le_of_ble_eq_true rfl) (Nat.le_of_ble_eq_true rfl) rfl (hrf _) (k_I ?_)
    refine (show X _ _ 13 _ _ _ _ _ _ from ?_)
    exact x_ireturn dX10_power_13 rfl (CQ_tr hI0 _ _)
  rw [if_neg (by rw [e]; decide), if_neg (by rw [e]; decide)]
  have e1 := noP_f e
  obtain ⟨rfl, e2, e3⟩ := e1
  obtain ⟨hy, hAC, -⟩ := g1 rfl
  have hY := fY24 f3
  have hA3 := f3.2.2.2.1
  have ht := (hAC.1 0 (by omega)).1
  have htl := thS_lt (B := B) f3 0
  have hpp : p.toNat < fP A := by show p.toNat < (A 0 3).toNat; omega
  have ep : ((p.toNat : Nat) : Int) = p := by omega
  have hh := c_has g (thS A B 0) p.toNat (T, iV V, R, J, z) 0 0 (by omega) (by omega)
  have hsw := c_swayed (g := g) (J := J) (z := z) (k := 0) (n := 0) (vo := thS A B 0) (p := p.toNat) hC0 f1 f3 htl hpp
  rw [ep] at hh hsw
  unfold pwA
  refine x_aload_n dX10_power_14 rfl ?_
  refine x_gr dX10_power_15 fX10_19 (by first | assumption) (fun _ _ _ => rfl) (by first | assumption) ?_
  refine x_gr dX10_power_18 fX10_246 (by first | assumption) (fun _ _ _ => rfl) (by first | assumption) ?_
  refine x_gr dX10_power_21 fX10_250 (by first | assumption) (fun _ _ _ => rfl) (by first | assumption) ?_
  refine y_iconst dX10_power_24 ?_
  refine y_iald (0) dX10_power_25 (by first | assumption) (by first | rfl | omega) (by omega) (by decide) ?_
  refine (show X _ _ 26 _ _ _ _ _ _ from ?_)
  refine X.val ht ?_
  refine x_istore_n dX10_power_26 (by decide) rfl rfl ?_
  refine x_aload_n dX10_power_27 rfl ?_
  refine x_iload_n dX10_power_28 rfl ?_
  refine x_iload_n dX10_power_29 rfl ?_
  refine (show X _ _ 30 _ _ _ _ _ _ from ?_)
  refine x_callS (As := [_, _]) (mc := 0) (ms := 0) (z := mX10_has) dX10_power_30 lX10_169 oX10_has (by decide) rfl (Nat.le_of_ble_eq_true rfl) (Nat.le_of_ble_eq_true rfl) rfl (hh) (k_I ?_)
  refine (show X _ _ 33 _ _ _ _ _ _ from ?_)
  refine y_ifb_eq 45 dX10_power_33 (by decide) (fun b => ?_) (fun b => ?_)
  · rw [if_neg (by rw [b]; decide)]
    refine y_iconst dX10_power_45 ?_
    refine (show X _ _ 46 _ _ _ _ _ _ from ?_)
    refine x_callV (As := [_]) (mc := 0) (ms := 0) (z := mX10_grant) (ci := 10) dX10_power_46 lX10_116 oX10_grant (by decide) (by first | assumption) rfl rfl (Nat.le_of_ble_eq_true rfl) (Nat.le_of_ble_eq_true rfl) rfl (hgr _) (k_I ?_)
    refine (show X _ _ 49 _ _ _ _ _ _ from ?_)
    exact x_ireturn dX10_power_49 rfl (CQ_tr hI0 _ _)
  · rw [if_pos b]
    refine x_aload_n dX10_power_36 rfl ?_
    refine x_iload_n dX10_power_37 rfl ?_
    refine x_iload_n dX10_power_38 rfl ?_
    refine (show X _ _ 39 _ _ _ _ _ _ from ?_)
    refine x_callV (As := [_, _]) (mc := 0) (ms := 0) (z := mX10_swayedSets) (ci := 10) dX10_power_39 lX10_253 oX10_swayedSets (by decide) (by first | assumption) rfl rfl (Nat.le_of_ble_eq_true rfl) (Nat.le_of_ble_eq_true rfl) rfl (hsw) (k_I ?_)
    refine (show X _ _ 42 _ _ _ _ _ _ from ?_)
    refine x_goto 46 dX10_power_42 (by decide) ?_
    refine (show X _ _ 46 _ _ _ _ _ _ from ?_)
    refine x_callV (As := [_]) (mc := 0) (ms := 0) (z := mX10_grant) (ci := 10) dX10_power_46 lX10_116 oX10_grant (by decide) (by first | assumption) rfl rfl (Nat.le_of_ble_eq_true rfl) (Nat.le_of_ble_eq_true rfl) rfl (hgr _) (k_I ?_)
    refine (show X _ _ 49 _ _ _ _ _ _ from ?_)
    exact x_ireturn dX10_power_49 rfl (CQ_tr hI0 _ _)
end C81
