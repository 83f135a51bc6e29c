/-! ===== the reference: power, stands, mean ===== -/
/-- the numbers run out within d steps -/
def gcE : Nat → Int → Int → Prop
  | 0, _, b => b = 0
  | d + 1, a, b => b = 0 ∨ gcE d b (a % b)
theorem gcE_m : ∀ d a b, gcE d a b → gcE (d + 1) a b
  | 0, a, b, h => Or.inl h
  | d + 1, a, b, h => by
    rcases h with h | h
    · exact Or.inl h
    · exact Or.inr (gcE_m d _ _ h)
theorem gcE_le {d e : Nat} {a b : Int} (h : gcE d a b) (hde : d ≤ e) : gcE e a b := by
  have key : ∀ c, gcE (d + c) a b := by
    intro c
    induction c with
    | zero => exact h
    | succ c ih => exact gcE_m _ _ _ ih
  have := key (e - d)
  rw [show d + (e - d) = e by omega] at this
  exact this
theorem gcE_2 : ∀ (n : Nat) (a b : Int), 0 ≤ a → 0 ≤ b → b < 2 ^ n → gcE (2 * n) a b
  | 0, a, b, _, h0, h => by show b = 0; have : b < 1 := h; omega
  | n + 1, a, b, ha, h0, h => by
    show gcE (2 * n + 1 + 1) a b
    by_cases e : b = 0
    · exact Or.inl e
    refine Or.inr ?_
    have r0 := Int.emod_nonneg a e
    have r1 := Int.emod_lt_of_pos a (show 0 < b by omega)
    generalize a % b = x at *
    by_cases e2 : x = 0
    · exact Or.inl e2
    refine Or.inr ?_
    have s0 := Int.emod_nonneg b e2
    have s1 := Int.emod_lt_of_pos b (show 0 < x by omega)
    have hd : 1 ≤ b / x := by
      have := Int.le_ediv_of_mul_le (show 0 < x by omega) (show 1 * x ≤ b by omega)
      exact this
    have hm := Int.emod_add_mul_ediv b x
    have hp : x * 1 ≤ x * (b / x) := Int.mul_le_mul_of_nonneg_left hd (by omega)
    have h2 : (2 : Int) ^ (n + 1) = 2 ^ n * 2 := Int.pow_succ 2 n
    generalize hw : (2 : Int) ^ n = w at *
    exact gcE_2 n x (b % x) (by omega) s0 (by rw [hw]; omega)
theorem gcE_200 {a b : Int} (ha : 0 ≤ a) (hb : 0 ≤ b ∧ b ≤ 10000000000000000) : gcE 200 a b := gcE_le (gcE_2 54 a b ha hb.1 (by have h54 : (2 : Int) ^ 54 = 18014398509481984 := (by decide); omega)) (by decide)
theorem gcF_pos : ∀ d a b, 0 ≤ a → 0 ≤ b → gcE d a b → (0 < a ∨ 0 < b) → 0 < gcF d a b
  | 0, a, b, ha, hb, h, hp => by
    have h : b = 0 := h
    show 0 < a
    omega
  | d + 1, a, b, ha, hb, h, hp => by
    rw [gcF]
    split
    · rename_i e; omega
    · rename_i e
      rcases h with h | h
      · exact absurd h e
      · exact gcF_pos d b (a % b) hb (Int.emod_nonneg a e) h (Or.inl (by omega))
theorem andn_0 {a d : Nat} : andn a d = 0 ↔ ∀ i, a.testBit i = true → d.testBit i = true := by
  constructor
  · intro h i hi
    have := andn_bit a d i
    rw [h, Nat.zero_testBit, hi] at this
    cases hd : d.testBit i
    · rw [hd] at this; cases this
    · rfl
  · intro h
    apply Nat.eq_of_testBit_eq
    intro i
    rw [andn_bit, Nat.zero_testBit]
    cases ha : a.testBit i
    · rfl
    · rw [h i ha]; rfl
def pwB (A : Nat → Nat → Int) (vo p set : Nat) : Bool := decide (andn set vo = 0 ∧ set.testBit p = false ∧ vo.testBit p = true ∧ 2 * wOf A set ≤ wOf A vo ∧ wOf A vo < 2 * (wOf A set + A 5 p))
def pwS (A : Nat → Nat → Int) (vo p m : Nat) : Int := lp m (fun set c => if pwB A vo p set then c + 1 else c) 0
theorem pw_eq {A : Nat → Nat → Int} {vo p P : Nat} (hv : vo < 2 ^ P) : pwS A vo p (2 ^ P) = if vo.testBit p then swS A vo p (andn vo (2 ^ p) + 1) else 0 := by
  cases hb : vo.testBit p
  · rw [if_neg (by decide)]
    have key : ∀ c, pwS A vo p c = 0 := by
      intro c
      induction c with
      | zero => rfl
      | succ c ih =>
        have es : pwS A vo p (c + 1) = if pwB A vo p c then pwS A vo p c + 1 else pwS A vo p c := rfl
        rw [es, if_neg (fun d => by have := of_decide_eq_true d; rw [hb] at this; cases this.2.2.1), ih]
    exact key _
  · rw [if_pos rfl]
    have eb : ∀ set, pwB A vo p set = swB A vo p set := by
      intro set
      unfold pwB swB
      congr 1
      apply propext
      rw [andn_0, andn_0]
      constructor
      · rintro ⟨h1, h2, h3, h4⟩
        refine ⟨fun i hi => ?_, h4⟩
        rw [andn_bit, h1 i hi]
        by_cases e : i = p
        · rw [e, h2] at hi; cases hi
        · rw [Nat.testBit_two_pow_of_ne (fun c => e c.symm)]; rfl
      · rintro ⟨h1, h4⟩
        refine ⟨fun i hi => ?_, ?_, hb, h4⟩
        · have := h1 i hi
          rw [andn_bit] at this
          cases hd : vo.testBit i
          · rw [hd] at this; cases this
          · rfl
        · cases hd : set.testBit p
          · rfl
          · have := h1 p hd
            rw [andn_bit, Nat.testBit_two_pow_self, Bool.not_true, Bool.and_false] at this; cases this
    have key : ∀ c, pwS A vo p c = swS A vo p c := by
      intro c
      induction c with
      | zero => rfl
      | succ c ih =>
        have es : pwS A vo p (c + 1) = if pwB A vo p c then pwS A vo p c + 1 else pwS A vo p c := rfl
        have es2 : swS A vo p (c + 1) = if swB A vo p c then swS A vo p c + 1 else swS A vo p c := rfl
        rw [es, es2, ih, eb]
    rw [key]
    have hle := andn_le vo (2 ^ p)
    generalize hot : andn vo (2 ^ p) = ot at *
    have key2 : ∀ c, swS A vo p (ot + 1 + c) = swS A vo p (ot + 1) := by
      intro c
      induction c with
      | zero => rfl
      | succ c ih =>
        have es2 : swS A vo p (ot + 1 + c + 1) = if swB A vo p (ot + 1 + c) then swS A vo p (ot + 1 + c) + 1 else swS A vo p (ot + 1 + c) := rfl
        rw [show ot + 1 + (c + 1) = ot + 1 + c + 1 by omega, es2, if_neg (fun d => by
          have := (of_decide_eq_true d).1
          rw [hot, andn_0] at this
          have h3 : (ot + 1 + c) &&& ot = ot + 1 + c := by
            apply Nat.eq_of_testBit_eq
            intro i
            rw [Nat.testBit_and]
            cases hd : (ot + 1 + c).testBit i
            · rfl
            · rw [this i hd]; rfl
          have h4 : (ot + 1 + c) &&& ot ≤ ot := Nat.and_le_right
          omega), ih]
    have := key2 (2 ^ P - (ot + 1))
    rw [show ot + 1 + (2 ^ P - (ot + 1)) = 2 ^ P by omega] at this
    exact this
section C9c
variable {g : GG} {T : Nat → Nat × Nat} {V E A B Wi Ni : Nat → Nat → Int} {R : Nat → Nat → Option Nat} {J : Nat → Nat → Int64} {z k n : Nat} {r f : Nat} {t : Nat → Int} {tp : Nat} {h : Bool} {a m : Nat} {H K : Nat → Nat → Nat → Int} {wr pl tr : Int}
theorem k_weight {set : Nat} (hM : MSh T R r) (hf : R r 3 = some f) (hG : FMS T R f) (hF : FMC V f A) (hA : VA A) (hap : apF f r) (hs : set < 1024) : X g mX12_weight 0 [.ref r, .int (iI set), jk, jk] [] (T, iV (pB V r 24 E), R, J, z) k n (rI (iI (wOf A set)) (T, iV (pB V r 24 E), R, J, z)) := by
  have bt := fun p hp => c_bit g set p (T, iV (pB V r 24 E), R, J, z) 0 0 (by omega) hp
  have eP := fP10 hA
  have hA3 := hA.2.2.2.1
  have e3 := hF.1 3 (by decide)
  obtain ⟨m0, -, -⟩ := id hM
  obtain ⟨g0, ⟨-, -, -, -, g14, -, -, -, -, -, -, -, -, -, -, -, -, -, -, -, -, -, -⟩, ⟨-, -, -, -, gk5, -, -, -, -, -, -, -, -, -, -, -, -, -, -, -, -, -, -⟩⟩ := id hG
  unfold apF at hap
  unfold wOf
  refine y_iconst dX12_weight_0 ?_
  refine x_istore_n dX12_weight_1 (by decide) rfl rfl ?_
  refine y_iconst dX12_weight_2 ?_
  refine x_istore_n dX12_weight_3 (by decide) rfl rfl ?_
  refine (show X _ _ 4 _ _ _ _ _ _ from ?_)
  refine loopN (P := fun p => X g mX12_weight 4 [.ref r, .int (iI set), .int (iI (lp p (fun p s => if set.testBit p then s + A 5 p else s) 0)), .int (iI (p : Int))] [] (T, iV (pB V r 24 E), R, J, z) k n (rI (iI (lp (fP A) (fun p s => if set.testBit p then s + A 5 p else s) 0)) (T, iV (pB V r 24 E), R, J, z))) (fP A) ?_ (fun p hp ih => ?_)
  · refine x_iload_n dX12_weight_4 rfl ?_
    refine x_aload_n dX12_weight_5 rfl ?_
    refine x_gr dX12_weight_6 fX12_409 (by first | assumption) (fun _ _ _ => rfl) (by first | assumption) ?_
    refine b_gio (r := r) (m := 24) dX12_weight_9 fX12_230 (by first | assumption) (fun _ _ _ => rfl) (by omega) ?_
    refine (show X _ _ 12 _ _ _ _ _ _ from ?_)
    refine X.val e3 ?_
    refine y_icmp_ge 45 dX12_weight_12 (by decide) ⟨by omega, by omega⟩ ⟨by omega, by omega⟩ (fun h1 => ?_) (fun h1 => ?_)
    rotate_left
    · omega
    refine x_iload_n dX12_weight_45 rfl ?_
    refine (show X _ _ 46 _ _ _ _ _ _ from ?_)
    exact x_ireturn dX12_weight_46 rfl ⟨rfl, rfl⟩
  · have e5 : V (f + 5) p = A 5 p := hF.2.1 4 (by decide) p hp
    rw [lp_s] at ih
    refine x_iload_n dX12_weight_4 rfl ?_
    refine x_aload_n dX12_weight_5 rfl ?_
    refine x_gr dX12_weight_6 fX12_409 (by first | assumption) (fun _ _ _ => rfl) (by first | assumption) ?_
    refine b_gio (r := r) (m := 24) dX12_weight_9 fX12_230 (by first | assumption) (fun _ _ _ => rfl) (by omega) ?_
    refine (show X _ _ 12 _ _ _ _ _ _ from ?_)
    refine X.val e3 ?_
    refine y_icmp_ge 45 dX12_weight_12 (by decide) ⟨by omega, by omega⟩ ⟨by omega, by omega⟩ (fun h1 => ?_) (fun h1 => ?_)
    · omega
    refine x_iload_n dX12_weight_15 rfl ?_
    refine x_iload_n dX12_weight_16 rfl ?_
    refine x_iload_n dX12_weight_17 rfl ?_
    refine (show X _ _ 18 _ _ _ _ _ _ from ?_)
    refine x_callS (As := [_, _]) (mc := 0) (ms := 0) (z := mX12_bit) dX12_weight_18 lX12_386 oX12_bit (by decide) rfl (Nat.le_of_ble_eq_true rfl) (Nat.le_of_ble_eq_true rfl) rfl (bt p (by omega)) (k_I ?_)
    refine (show X _ _ 21 _ _ _ _ _ _ from ?_)
    refine y_ifb_eq 36 dX12_weight_21 (by decide) (fun h2 => ?_) (fun h2 => ?_)
    · rw [h2, if_neg (by decide)] at ih
      refine y_iconst dX12_weight_36 ?_
      refine y_iadd dX12_weight_37 ?_
      refine (show X _ _ 38 _ _ _ _ _ _ from ?_)
      rw [Int.add_zero]
      refine x_istore_n dX12_weight_38 (by decide) rfl rfl ?_
      refine y_iinc dX12_weight_39 rfl (by decide) rfl rfl ?_
      refine x_goto 4 dX12_weight_42 (by decide) ?_
      refine (show X _ _ 4 _ _ _ _ _ _ from ?_)
      exact ih
    · rw [h2, if_pos rfl] at ih
      refine x_aload_n dX12_weight_24 rfl ?_
      refine x_gr dX12_weight_25 fX12_409 (by first | assumption) (fun _ _ _ => rfl) (by first | assumption) ?_
      refine x_gr dX12_weight_28 fX12_331 (by first | assumption) (fun _ _ _ => rfl) (by first | assumption) ?_
      refine x_iload_n dX12_weight_31 rfl ?_
      refine b_ialo (r := r) (m := 24) (p) dX12_weight_32 (by first | assumption) (by first | rfl | omega) (by omega) (by decide) (by omega) ?_
      refine (show X _ _ 33 _ _ _ _ _ _ from ?_)
      refine X.val e5 ?_
      refine x_goto 37 dX12_weight_33 (by decide) ?_
      refine y_iadd dX12_weight_37 ?_
      refine x_istore_n dX12_weight_38 (by decide) rfl rfl ?_
      refine y_iinc dX12_weight_39 rfl (by decide) rfl rfl ?_
      refine x_goto 4 dX12_weight_42 (by decide) ?_
      refine (show X _ _ 4 _ _ _ _ _ _ from ?_)
      exact ih
theorem k_power {p : Int} (hI : DI T R V r f E t tp h A B a m H K wr pl tr) (hp : R32 p) : X g mX12_power 0 [.ref r, .int (iI p), jk, jk, jk] [] (T, iV (pB V r 24 E), R, J, z) k n (DQ T R J z V r f (some (.int (iI (if noP h A p = true then -1 else pwA A B p.toNat)))) t tp h A B a m H K wr pl (if noP h A p = true then 1 else 0)) := by
  have hM := hI.1
  have hI1 := DI_sc hI (Sc_th hI 0)
  have hip := k_isPerson (g := g) (J := J) (z := z) (k := 0) (n := 0) (p := p) hI1 hp
  cases e : noP h A p
  rotate_left
  · rw [e] at hip
    have hak := k_asks0 (g := g) (J := J) (z := z) (k := 0) (n := 0) (b := !true) hI1 (fun c => by cases c.2)
    have hrf := k_refused (g := g) (V := V) (E := u2 E 0 0 0) (J := J) (z := z) (k := 0) (n := 0) (x := 1) hM
    rw [if_pos rfl, if_pos rfl]
    obtain ⟨m0, ⟨-, -, -, -, -, m21, -, -, -, -, -, -, -, -, -, -, -, -, -, -, -, -, -⟩, ⟨-, -, -, -, -, mk6, -, -, -, -, -, -, -, -, -, -, -, -, -, -, -, -, -⟩⟩ := id hM
    refine x_aload_n dX12_power_0 rfl ?_
    refine y_iconst dX12_power_1 ?_
    refine b_pi0 (r := r) (m := 24) dX12_power_2 (pX12_85 _) (by first | assumption) (fun _ _ _ => rfl) rfl rfl (by decide) ?_
    refine x_aload_n dX12_power_5 rfl ?_
    refine x_aload_n dX12_power_6 rfl ?_
    refine x_iload_n dX12_power_7 rfl ?_
    refine (show X _ _ 8 _ _ _ _ _ _ from ?_)
    refine x_callV (As := [_]) (mc := 0) (ms := 0) (z := mX12_isPerson) (ci := 12) dX12_power_8 lX12_513 oX12_isPerson (by decide) (by first | assumption) rfl rfl (Nat.le_of_ble_eq_true rfl) (Nat.le_of_ble_eq_true rfl) rfl (hip) (k_I ?_)
    refine (show X _ _ 11 _ _ _ _ _ _ from ?_)
    refine x_callV (As := [_]) (mc := 0) (ms := 0) (z := mX12_asks) (ci := 12) dX12_power_11 lX12_523 oX12_asks (by decide) (by first | assumption) rfl rfl (Nat.le_of_ble_eq_true rfl) (Nat.le_of_ble_eq_true rfl) rfl (hak) (k_I ?_)
    refine (show X _ _ 14 _ _ _ _ _ _ from ?_)
    refine y_ifb_ne 23 dX12_power_14 (by decide) (fun c => ?_) (fun c => ?_)
    · cases c
    refine x_aload_n dX12_power_17 rfl ?_
    refine y_iconst dX12_power_18 ?_
    refine (show X _ _ 19 _ _ _ _ _ _ from ?_)
    refine x_callV (As := [_]) (mc := 0) (ms := 0) (z := mX12_refused) (ci := 12) dX12_power_19 lX12_91 oX12_refused (by decide) (by first | assumption) rfl rfl (Nat.le_of_ble_eq_true rfl) (Nat.le_of_ble_eq_true rfl) rfl (hrf) (k_I ?_)
    refine (show X _ _ 22 _ _ _ _ _ _ from ?_)
    exact x_ireturn dX12_power_22 rfl (DQ_tr hI1 1 (by decide) _)
  obtain ⟨rfl, e3, e4⟩ := noP_f e
  rw [e] at hip
  have hak := k_asks (g := g) (J := J) (z := z) (k := 0) (n := 0) (Wi := A0) (Ni := A0) hI1 NOk_0
  obtain ⟨⟨hf, hG, hF, hap⟩, ⟨hA, hB, hY4, -⟩, -⟩ := hI.2.2.2.2.2.2 rfl
  have eP := fP10 hA
  have eY := fY24 hA
  have hA3 := hA.2.2.2.1
  rw [if_neg (by decide), if_neg (by decide)]
  have hpn : p.toNat < fP A := by omega
  have htl : thS A B 0 < 2 ^ fP A := sOf_lt _ _
  have h1024 := two10 eP.2
  have hpw := pw_eq (A := A) (p := p.toNat) htl
  have hpw2 : pwA A B p.toNat = pwS A (thS A B 0) p.toNat (2 ^ fP A) := by rw [hpw]; unfold pwA; rfl
  rw [hpw2]
  have e5 : V (f + 5) p.toNat = A 5 p.toNat := hF.2.1 4 (by decide) p.toNat hpn
  have hb5 := (hA.2.2.2.2.2.2.2.2.2.1 p.toNat hpn).2.2.2.2.1
  have hwb := fun set => wOf_b hA set
  have e3' := hF.1 3 (by decide)
  have h0Y : 0 < fY A := by omega
  obtain ⟨m0, ⟨-, -, -, -, -, m21, -, -, -, -, -, -, -, -, -, -, -, -, -, -, -, -, -⟩, ⟨-, -, -, -, -, mk6, -, -, -, -, -, -, -, -, -, -, -, -, -, -, -, -, -⟩⟩ := id hM
  obtain ⟨g0, ⟨-, -, -, -, g14, -, -, -, -, -, -, -, -, -, -, -, -, -, -, -, -, -, -⟩, ⟨-, -, -, -, gk5, -, -, -, -, -, -, -, -, -, -, -, -, -, -, -, -, -, -⟩⟩ := id hG
  refine x_aload_n dX12_power_0 rfl ?_
  refine y_iconst dX12_power_1 ?_
  refine b_pi0 (r := r) (m := 24) dX12_power_2 (pX12_85 _) (by first | assumption) (fun _ _ _ => rfl) rfl rfl (by decide) ?_
  refine x_aload_n dX12_power_5 rfl ?_
  refine x_aload_n dX12_power_6 rfl ?_
  refine x_iload_n dX12_power_7 rfl ?_
  refine (show X _ _ 8 _ _ _ _ _ _ from ?_)
  refine x_callV (As := [_]) (mc := 0) (ms := 0) (z := mX12_isPerson) (ci := 12) dX12_power_8 lX12_513 oX12_isPerson (by decide) (by first | assumption) rfl rfl (Nat.le_of_ble_eq_true rfl) (Nat.le_of_ble_eq_true rfl) rfl (hip) (k_I ?_)
  refine (show X _ _ 11 _ _ _ _ _ _ from ?_)
  refine x_callV (As := [_]) (mc := 0) (ms := 0) (z := mX12_asks) (ci := 12) dX12_power_11 lX12_523 oX12_asks (by decide) (by first | assumption) rfl rfl (Nat.le_of_ble_eq_true rfl) (Nat.le_of_ble_eq_true rfl) rfl (hak) (fun v M1 hq => ?_)
  obtain ⟨rfl, E', rfl, hq⟩ := hq
  refine (show X _ _ 14 _ [.int (iI (bI true))] _ _ _ _ from ?_)
  have hI2 := DI_sc hI1 (RnQ_sc hI1 hq)
  obtain ⟨⟨-, -, hrc, -⟩, -⟩ := hq
  have h60 : E' 6 0 = (thS A B 0 : Nat) := by
    have := (hrc 0 h0Y).1.1
    rw [this]
    have ed : dd (runTo A B (rBeg A A0 (B 0 0) (B 0 1)) 0) = 0 := by
      show (rBeg A A0 (B 0 0) (B 0 1) 0 5).toNat = 0
      rw [(Bg_beg (Wi := A0) hA hB.1 hB.2.1).1.1.2.2.1]
      rfl
    show ((andn (thS A B 0) (dd (runTo A B (rBeg A A0 (B 0 0) (B 0 1)) 0)) : Nat) : Int) = _
    rw [ed]
    congr 1
    apply Nat.eq_of_testBit_eq
    intro i
    rw [andn_bit, Nat.zero_testBit, Bool.not_false, Bool.and_true]
  have hwt := fun set (hs : set < 1024) => k_weight (g := g) (J := J) (z := z) (k := 0) (n := 0) (E := E') (set := set) hM hf hG hF hA hap hs
  have bt := fun b (hb : b < 1024) => c_bit g b p.toNat (T, iV (pB V r 24 E'), R, J, z) 0 0 (by omega) (by omega)
  rw [Int.toNat_of_nonneg e3] at bt
  unfold apF at hap
  generalize thS A B 0 = th at *
  have hba := hwb th
  refine y_ifb_ne 23 dX12_power_14 (by decide) (fun c => ?_) (fun c => ?_)
  rotate_left
  · cases c
  refine x_aload_n dX12_power_23 rfl ?_
  refine x_aload_n dX12_power_24 rfl ?_
  refine x_gr dX12_power_25 fX12_30 (by first | assumption) (fun _ _ _ => rfl) (by first | assumption) ?_
  refine y_iconst dX12_power_28 ?_
  refine b_iald (r := r) (m := 24) (j := 6) (0) dX12_power_29 (by first | assumption) (by first | rfl | omega) (by omega) (by decide) (by decide) ?_
  refine (show X _ _ 30 _ _ _ _ _ _ from ?_)
  refine X.val h60 ?_
  refine x_callV (As := [_]) (mc := 0) (ms := 0) (z := mX12_weight) (ci := 12) dX12_power_30 lX12_580 oX12_weight (by decide) (by first | assumption) rfl rfl (Nat.le_of_ble_eq_true rfl) (Nat.le_of_ble_eq_true rfl) rfl (hwt th (by omega)) (k_I ?_)
  refine (show X _ _ 33 _ _ _ _ _ _ from ?_)
  refine x_istore_n dX12_power_33 (by decide) rfl rfl ?_
  refine y_iconst dX12_power_34 ?_
  refine x_istore_n dX12_power_35 (by decide) rfl rfl ?_
  refine y_iconst dX12_power_36 ?_
  refine x_istore dX12_power_37 (by decide) rfl rfl ?_
  refine (show X _ _ 39 _ _ _ _ _ _ from ?_)
  refine loopN (P := fun i => X g mX12_power 39 [.ref r, .int (iI p), .int (iI (wOf A th)), .int (iI (pwS A th p.toNat i)), .int (iI (i : Int))] [] (T, iV (pB V r 24 E'), R, J, z) k n (DQ T R J z V r f (some (.int (iI (pwS A th p.toNat (2 ^ fP A))))) t tp true A B a m H K wr pl 0)) (2 ^ fP A) ?_ (fun i hi ih => ?_)
  · have hgo := k_good (g := g) (V := V) (E := E') (J := J) (z := z) (k := 0) (n := 0) (x := pwS A th p.toNat (2 ^ fP A)) hM
    refine x_iload dX12_power_39 rfl ?_
    refine y_iconst dX12_power_41 ?_
    refine x_aload_n dX12_power_42 rfl ?_
    refine x_gr dX12_power_43 fX12_409 (by first | assumption) (fun _ _ _ => rfl) (by first | assumption) ?_
    refine b_gio (r := r) (m := 24) dX12_power_46 fX12_230 (by first | assumption) (fun _ _ _ => rfl) (by omega) ?_
    refine (show X _ _ 49 _ _ _ _ _ _ from ?_)
    refine X.val e3' ?_
    refine y_ishl (fP A) dX12_power_49 (by first | rfl | omega) (by omega) ?_
    refine (show X _ _ 50 _ _ _ _ _ _ from ?_)
    refine y_icmp_ge 140 dX12_power_50 (by decide) ⟨by omega, by omega⟩ ⟨by omega, by omega⟩ (fun h1 => ?_) (fun h1 => ?_)
    rotate_left
    · omega
    refine x_aload_n dX12_power_140 rfl ?_
    refine x_iload_n dX12_power_141 rfl ?_
    refine (show X _ _ 142 _ _ _ _ _ _ from ?_)
    refine x_callV (As := [_]) (mc := 0) (ms := 0) (z := mX12_good) (ci := 12) dX12_power_142 lX12_95 oX12_good (by decide) (by first | assumption) rfl rfl (Nat.le_of_ble_eq_true rfl) (Nat.le_of_ble_eq_true rfl) rfl (hgo) (k_I ?_)
    refine (show X _ _ 145 _ _ _ _ _ _ from ?_)
    exact x_ireturn dX12_power_145 rfl (DQ_tr hI2 0 (by decide) _)
  · have hbi := hwb i
    have hle := andn_le i th
    have es : pwS A th p.toNat (i + 1) = if pwB A th p.toNat i then pwS A th p.toNat i + 1 else pwS A th p.toNat i := rfl
    rw [es] at ih
    have no : ¬ (andn i th = 0 ∧ i.testBit p.toNat = false ∧ th.testBit p.toNat = true) → X g mX12_power 134 [.ref r, .int (iI p), .int (iI (wOf A th)), .int (iI (pwS A th p.toNat i)), .int (iI (i : Int))] [] (T, iV (pB V r 24 E'), R, J, z) k n (DQ T R J z V r f (some (.int (iI (pwS A th p.toNat (2 ^ fP A))))) t tp true A B a m H K wr pl 0) := by
      intro c
      have e : pwB A th p.toNat i = false := decide_eq_false (fun d => c ⟨d.1, d.2.1, d.2.2.1⟩)
      rw [if_neg (by rw [e]; decide)] at ih
      refine y_iinc dX12_power_134 rfl (by decide) rfl rfl ?_
      refine x_goto 39 dX12_power_137 (by decide) ?_
      refine (show X _ _ 39 _ _ _ _ _ _ from ?_)
      exact ih
    refine x_iload dX12_power_39 rfl ?_
    refine y_iconst dX12_power_41 ?_
    refine x_aload_n dX12_power_42 rfl ?_
    refine x_gr dX12_power_43 fX12_409 (by first | assumption) (fun _ _ _ => rfl) (by first | assumption) ?_
    refine b_gio (r := r) (m := 24) dX12_power_46 fX12_230 (by first | assumption) (fun _ _ _ => rfl) (by omega) ?_
    refine (show X _ _ 49 _ _ _ _ _ _ from ?_)
    refine X.val e3' ?_
    refine y_ishl (fP A) dX12_power_49 (by first | rfl | omega) (by omega) ?_
    refine (show X _ _ 50 _ _ _ _ _ _ from ?_)
    refine y_icmp_ge 140 dX12_power_50 (by decide) ⟨by omega, by omega⟩ ⟨by omega, by omega⟩ (fun h1 => ?_) (fun h1 => ?_)
    · omega
    refine x_iload dX12_power_53 rfl ?_
    refine x_aload_n dX12_power_55 rfl ?_
    refine x_gr dX12_power_56 fX12_30 (by first | assumption) (fun _ _ _ => rfl) (by first | assumption) ?_
    refine y_iconst dX12_power_59 ?_
    refine b_iald (r := r) (m := 24) (j := 6) (0) dX12_power_60 (by first | assumption) (by first | rfl | omega) (by omega) (by decide) (by decide) ?_
    refine (show X _ _ 61 _ _ _ _ _ _ from ?_)
    refine X.val h60 ?_
    refine y_andn dX12_power_61 dX12_power_62 dX12_power_63 ?_
    refine (show X _ _ 64 _ _ _ _ _ _ from ?_)
    refine y_if_ne 134 dX12_power_64 (by decide) ⟨by omega, by omega⟩ (fun c1 => ?_) (fun c1 => ?_)
    · exact no (fun d => c1 (by omega))
    refine x_iload dX12_power_67 rfl ?_
    refine x_iload_n dX12_power_69 rfl ?_
    refine (show X _ _ 70 _ _ _ _ _ _ from ?_)
    refine x_callS (As := [_, _]) (mc := 0) (ms := 0) (z := mX12_bit) dX12_power_70 lX12_386 oX12_bit (by decide) rfl (Nat.le_of_ble_eq_true rfl) (Nat.le_of_ble_eq_true rfl) rfl (bt i (by omega)) (k_I ?_)
    refine (show X _ _ 73 _ _ _ _ _ _ from ?_)
    refine y_ifb_ne 134 dX12_power_73 (by decide) (fun c2 => ?_) (fun c2 => ?_)
    · exact no (fun d => by rw [c2] at d; cases d.2.1)
    refine x_aload_n dX12_power_76 rfl ?_
    refine x_gr dX12_power_77 fX12_30 (by first | assumption) (fun _ _ _ => rfl) (by first | assumption) ?_
    refine y_iconst dX12_power_80 ?_
    refine b_iald (r := r) (m := 24) (j := 6) (0) dX12_power_81 (by first | assumption) (by first | rfl | omega) (by omega) (by decide) (by decide) ?_
    refine (show X _ _ 82 _ _ _ _ _ _ from ?_)
    refine X.val h60 ?_
    refine x_iload_n dX12_power_82 rfl ?_
    refine (show X _ _ 83 _ _ _ _ _ _ from ?_)
    refine x_callS (As := [_, _]) (mc := 0) (ms := 0) (z := mX12_bit) dX12_power_83 lX12_386 oX12_bit (by decide) rfl (Nat.le_of_ble_eq_true rfl) (Nat.le_of_ble_eq_true rfl) rfl (bt th (by omega)) (k_I ?_)
    refine (show X _ _ 86 _ _ _ _ _ _ from ?_)
    refine y_ifb_ne 92 dX12_power_86 (by decide) (fun c3 => ?_) (fun c3 => ?_)
    rotate_left
    · refine x_goto 134 dX12_power_89 (by decide) ?_
      refine (show X _ _ 134 _ _ _ _ _ _ from ?_)
      exact no (fun d => by rw [c3] at d; cases d.2.2)
    have fin0 : ¬ (2 * wOf A i ≤ wOf A th ∧ wOf A th < 2 * (wOf A i + A 5 p.toNat)) → X g mX12_power 131 [.ref r, .int (iI p), .int (iI (wOf A th)), .int (iI (pwS A th p.toNat i)), .int (iI (i : Int))] [.int (iI (pwS A th p.toNat i))] (T, iV (pB V r 24 E'), R, J, z) k n (DQ T R J z V r f (some (.int (iI (pwS A th p.toNat (2 ^ fP A))))) t tp true A B a m H K wr pl 0) := by
      intro d
      have e : pwB A th p.toNat i = false := decide_eq_false (fun q => d q.2.2.2)
      rw [if_neg (by rw [e]; decide)] at ih
      refine y_iconst dX12_power_131 ?_
      refine y_iadd dX12_power_132 ?_
      refine (show X _ _ 133 _ _ _ _ _ _ from ?_)
      rw [Int.add_zero]
      refine x_istore_n dX12_power_133 (by decide) rfl rfl ?_
      refine y_iinc dX12_power_134 rfl (by decide) rfl rfl ?_
      refine x_goto 39 dX12_power_137 (by decide) ?_
      refine (show X _ _ 39 _ _ _ _ _ _ from ?_)
      exact ih
    refine x_iload_n dX12_power_92 rfl ?_
    refine y_iconst dX12_power_93 ?_
    refine x_aload_n dX12_power_94 rfl ?_
    refine x_iload dX12_power_95 rfl ?_
    refine (show X _ _ 97 _ _ _ _ _ _ from ?_)
    refine x_callV (As := [_]) (mc := 0) (ms := 0) (z := mX12_weight) (ci := 12) dX12_power_97 lX12_580 oX12_weight (by decide) (by first | assumption) rfl rfl (Nat.le_of_ble_eq_true rfl) (Nat.le_of_ble_eq_true rfl) rfl (hwt i (by omega)) (k_I ?_)
    refine (show X _ _ 100 _ _ _ _ _ _ from ?_)
    refine y_imul dX12_power_100 ?_
    refine x_iload_n dX12_power_101 rfl ?_
    refine (show X _ _ 102 _ _ _ _ _ _ from ?_)
    refine y_icmp_gt 131 dX12_power_102 (by decide) ⟨by omega, by omega⟩ ⟨by omega, by omega⟩ (fun c4 => ?_) (fun c4 => ?_)
    · exact fin0 (fun d => by omega)
    refine y_iconst dX12_power_105 ?_
    refine x_aload_n dX12_power_106 rfl ?_
    refine x_iload dX12_power_107 rfl ?_
    refine (show X _ _ 109 _ _ _ _ _ _ from ?_)
    refine x_callV (As := [_]) (mc := 0) (ms := 0) (z := mX12_weight) (ci := 12) dX12_power_109 lX12_580 oX12_weight (by decide) (by first | assumption) rfl rfl (Nat.le_of_ble_eq_true rfl) (Nat.le_of_ble_eq_true rfl) rfl (hwt i (by omega)) (k_I ?_)
    refine (show X _ _ 112 _ _ _ _ _ _ from ?_)
    refine x_aload_n dX12_power_112 rfl ?_
    refine x_gr dX12_power_113 fX12_409 (by first | assumption) (fun _ _ _ => rfl) (by first | assumption) ?_
    refine x_gr dX12_power_116 fX12_331 (by first | assumption) (fun _ _ _ => rfl) (by first | assumption) ?_
    refine x_iload_n dX12_power_119 rfl ?_
    refine b_ialo (r := r) (m := 24) (p.toNat) dX12_power_120 (by first | assumption) (by first | rfl | omega) (by omega) (by decide) (by omega) ?_
    refine (show X _ _ 121 _ _ _ _ _ _ from ?_)
    refine X.val e5 ?_
    refine y_iadd dX12_power_121 ?_
    refine y_imul dX12_power_122 ?_
    refine x_iload_n dX12_power_123 rfl ?_
    refine (show X _ _ 124 _ _ _ _ _ _ from ?_)
    refine y_icmp_le 131 dX12_power_124 (by decide) ⟨by omega, by omega⟩ ⟨by omega, by omega⟩ (fun c5 => ?_) (fun c5 => ?_)
    · exact fin0 (fun d => by omega)
    have e : pwB A th p.toNat i = true := decide_eq_true ⟨by omega, c2, c3, c4, c5⟩
    rw [if_pos e] at ih
    refine y_iconst dX12_power_127 ?_
    refine x_goto 132 dX12_power_128 (by decide) ?_
    refine y_iadd dX12_power_132 ?_
    refine x_istore_n dX12_power_133 (by decide) rfl rfl ?_
    refine y_iinc dX12_power_134 rfl (by decide) rfl rfl ?_
    refine x_goto 39 dX12_power_137 (by decide) ?_
    refine (show X _ _ 39 _ _ _ _ _ _ from ?_)
    exact ih
theorem k_mean0 {p sd x : Int} (hI : DI T R V r f E t tp h A B a m H K wr pl tr) (hp : R32 p) (hs : R32 sd) (hx : R32 x) (hb : ¬ (noP h A p = false ∧ meanOk sd x)) : X g mX12_mean 0 [.ref r, .int (iI p), .int (iI sd), .int (iI x), jk, jk] [] (T, iV (pB V r 24 E), R, J, z) k n (DQ T R J z V r f (some (.int (iI (-1)))) t tp h A B a m H K wr pl (if noP h A p = true then 1 else 2)) := by
  have hM := hI.1
  have hI1 := DI_sc hI (Sc_th hI 0)
  have hip := k_isPerson (g := g) (J := J) (z := z) (k := 0) (n := 0) (p := p) hI1 hp
  have hrf := fun x => k_refused (g := g) (V := V) (E := u2 E 0 0 0) (J := J) (z := z) (k := 0) (n := 0) (x := x) hM
  have hi1 := c_in (g := g) (k := 0) (n := 0) (x := sd) (lo := 0) (hi := 65536) (M := (T, iV (pB V r 24 (u2 E 0 0 0)), R, J, z)) hs ⟨by decide, by decide⟩ ⟨by decide, by decide⟩
  have hi2 := c_in (g := g) (k := 0) (n := 0) (x := x) (lo := 1) (hi := 50) (M := (T, iV (pB V r 24 (u2 E 0 0 0)), R, J, z)) hx ⟨by decide, by decide⟩ ⟨by decide, by decide⟩
  obtain ⟨m0, ⟨-, -, -, -, -, -, -, -, -, -, -, -, -, -, m30, -, -, -, -, -, -, -, -⟩, ⟨-, -, -, -, -, -, -, -, -, -, -, -, -, -, mk15, -, -, -, -, -, -, -, -⟩⟩ := id hM
  have t2 : X g mX12_mean 40 [.ref r, .int (iI p), .int (iI sd), .int (iI x), jk, jk] [] (T, iV (pB V r 24 (u2 E 0 0 0)), R, J, z) k n (DQ T R J z V r f (some (.int (iI (-1)))) t tp h A B a m H K wr pl 2) := by
    refine x_aload_n dX12_mean_40 rfl ?_
    refine y_iconst dX12_mean_41 ?_
    refine (show X _ _ 42 _ _ _ _ _ _ from ?_)
    refine x_callV (As := [_]) (mc := 0) (ms := 0) (z := mX12_refused) (ci := 12) dX12_mean_42 lX12_91 oX12_refused (by decide) (by first | assumption) rfl rfl (Nat.le_of_ble_eq_true rfl) (Nat.le_of_ble_eq_true rfl) rfl (hrf _) (k_I ?_)
    refine (show X _ _ 45 _ _ _ _ _ _ from ?_)
    exact x_ireturn dX12_mean_45 rfl (DQ_tr hI1 2 (by decide) _)
  refine x_aload_n dX12_mean_0 rfl ?_
  refine y_iconst dX12_mean_1 ?_
  refine b_pi0 (r := r) (m := 24) dX12_mean_2 (pX12_85 _) (by first | assumption) (fun _ _ _ => rfl) rfl rfl (by decide) ?_
  refine x_aload_n dX12_mean_5 rfl ?_
  refine x_iload_n dX12_mean_6 rfl ?_
  refine (show X _ _ 7 _ _ _ _ _ _ from ?_)
  refine x_callV (As := [_]) (mc := 0) (ms := 0) (z := mX12_isPerson) (ci := 12) dX12_mean_7 lX12_513 oX12_isPerson (by decide) (by first | assumption) rfl rfl (Nat.le_of_ble_eq_true rfl) (Nat.le_of_ble_eq_true rfl) rfl (hip) (k_I ?_)
  refine (show X _ _ 10 _ _ _ _ _ _ from ?_)
  refine y_ifb_ne 19 dX12_mean_10 (by decide) (fun c1 => ?_) (fun c1 => ?_)
  rotate_left
  · rw [if_pos (by cases hc : noP h A p; rw [hc] at c1; cases c1; rfl)]
    refine x_aload_n dX12_mean_13 rfl ?_
    refine y_iconst dX12_mean_14 ?_
    refine (show X _ _ 15 _ _ _ _ _ _ from ?_)
    refine x_callV (As := [_]) (mc := 0) (ms := 0) (z := mX12_refused) (ci := 12) dX12_mean_15 lX12_91 oX12_refused (by decide) (by first | assumption) rfl rfl (Nat.le_of_ble_eq_true rfl) (Nat.le_of_ble_eq_true rfl) rfl (hrf _) (k_I ?_)
    refine (show X _ _ 18 _ _ _ _ _ _ from ?_)
    exact x_ireturn dX12_mean_18 rfl (DQ_tr hI1 1 (by decide) _)
  have e1 : noP h A p = false := by cases hc : noP h A p; rfl; rw [hc] at c1; cases c1
  rw [if_neg (by rw [e1]; decide)]
  refine x_iload_n dX12_mean_19 rfl ?_
  refine y_iconst dX12_mean_20 ?_
  refine y_ldcw (65536) dX12_mean_21 kX12_585 rfl ?_
  refine (show X _ _ 24 _ _ _ _ _ _ from ?_)
  refine x_callS (As := [_, _, _]) (mc := 0) (ms := 0) (z := mX12_in) dX12_mean_24 lX12_160 oX12_in (by decide) rfl (Nat.le_of_ble_eq_true rfl) (Nat.le_of_ble_eq_true rfl) rfl (hi1) (k_I ?_)
  refine (show X _ _ 27 _ _ _ _ _ _ from ?_)
  refine y_ifb_eq 40 dX12_mean_27 (by decide) (fun c2 => ?_) (fun c2 => ?_)
  · exact t2
  refine x_iload_n dX12_mean_30 rfl ?_
  refine y_iconst dX12_mean_31 ?_
  refine y_bipush dX12_mean_32 rfl ?_
  refine (show X _ _ 34 _ _ _ _ _ _ from ?_)
  refine x_callS (As := [_, _, _]) (mc := 0) (ms := 0) (z := mX12_in) dX12_mean_34 lX12_160 oX12_in (by decide) rfl (Nat.le_of_ble_eq_true rfl) (Nat.le_of_ble_eq_true rfl) rfl (hi2) (k_I ?_)
  refine (show X _ _ 37 _ _ _ _ _ _ from ?_)
  refine y_ifb_ne 46 dX12_mean_37 (by decide) (fun c3 => ?_) (fun c3 => ?_)
  · have c2 := of_decide_eq_true c2
    have c3 := of_decide_eq_true c3
    exact absurd ⟨e1, by unfold meanOk; omega⟩ hb
  · exact t2
theorem k_mean {p sd x : Int} (hI : DI T R V r f E t tp h A B a m H K wr pl tr) (hp : R32 p) (b1 : noP h A p = false) (b2 : meanOk sd x) : X g mX12_mean 0 [.ref r, .int (iI p), .int (iI sd), .int (iI x), jk, jk] [] (T, iV (pB V r 24 E), R, J, z) k n (DQ T R J z V r f (some (.int (iI (meanS A B p.toNat sd x.toNat)))) t tp h A B a m H K wr pl 0) := by
  obtain ⟨b3, b4, b5⟩ := b2
  have hM := hI.1
  have hI1 := DI_sc hI (Sc_th hI 0)
  have hip := k_isPerson (g := g) (J := J) (z := z) (k := 0) (n := 0) (p := p) hI1 hp
  rw [b1] at hip
  have hi1 := c_in (g := g) (k := 0) (n := 0) (x := sd) (lo := 0) (hi := 65536) (M := (T, iV (pB V r 24 (u2 E 0 0 0)), R, J, z)) ⟨by omega, by omega⟩ ⟨by decide, by decide⟩ ⟨by decide, by decide⟩
  have hi2 := c_in (g := g) (k := 0) (n := 0) (x := x) (lo := 1) (hi := 50) (M := (T, iV (pB V r 24 (u2 E 0 0 0)), R, J, z)) ⟨by omega, by omega⟩ ⟨by decide, by decide⟩ ⟨by decide, by decide⟩
  rw [decide_eq_true (by omega)] at hi1 hi2
  obtain ⟨rfl, e3, e4⟩ := noP_f b1
  obtain ⟨⟨hf, hG, hF, hap⟩, ⟨hA, hB, hY4, -⟩, -⟩ := hI.2.2.2.2.2.2 rfl
  have hrb := fun (E1 : Nat → Nat → Int) (hs : Sc (u2 E 0 0 0) E1) (sd : Int) hl => k_runsBy (g := g) (J := J) (z := z) (k := 0) (n := 0) (Wi := A0) (Ni := A0) (lw := 3) (sd := sd) (DI_sc hI1 hs) (by omega) hl NOk_0
  have eP := fP10 hA
  have hpn : p.toNat < fP A := by omega
  obtain ⟨m0, ⟨-, -, -, -, -, -, -, -, -, -, -, -, -, -, m30, -, -, -, -, -, -, -, -⟩, ⟨-, -, -, -, -, -, -, -, -, -, -, -, -, -, mk15, -, -, -, -, -, -, -, -⟩⟩ := id hM
  refine x_aload_n dX12_mean_0 rfl ?_
  refine y_iconst dX12_mean_1 ?_
  refine b_pi0 (r := r) (m := 24) dX12_mean_2 (pX12_85 _) (by first | assumption) (fun _ _ _ => rfl) rfl rfl (by decide) ?_
  refine x_aload_n dX12_mean_5 rfl ?_
  refine x_iload_n dX12_mean_6 rfl ?_
  refine (show X _ _ 7 _ _ _ _ _ _ from ?_)
  refine x_callV (As := [_]) (mc := 0) (ms := 0) (z := mX12_isPerson) (ci := 12) dX12_mean_7 lX12_513 oX12_isPerson (by decide) (by first | assumption) rfl rfl (Nat.le_of_ble_eq_true rfl) (Nat.le_of_ble_eq_true rfl) rfl (hip) (k_I ?_)
  refine (show X _ _ 10 _ _ _ _ _ _ from ?_)
  refine y_ifb_ne 19 dX12_mean_10 (by decide) (fun c1 => ?_) (fun c1 => ?_)
  rotate_left
  · cases c1
  refine x_iload_n dX12_mean_19 rfl ?_
  refine y_iconst dX12_mean_20 ?_
  refine y_ldcw (65536) dX12_mean_21 kX12_585 rfl ?_
  refine (show X _ _ 24 _ _ _ _ _ _ from ?_)
  refine x_callS (As := [_, _, _]) (mc := 0) (ms := 0) (z := mX12_in) dX12_mean_24 lX12_160 oX12_in (by decide) rfl (Nat.le_of_ble_eq_true rfl) (Nat.le_of_ble_eq_true rfl) rfl (hi1) (k_I ?_)
  refine (show X _ _ 27 _ _ _ _ _ _ from ?_)
  refine y_ifb_eq 40 dX12_mean_27 (by decide) (fun c2 => ?_) (fun c2 => ?_)
  · cases c2
  refine x_iload_n dX12_mean_30 rfl ?_
  refine y_iconst dX12_mean_31 ?_
  refine y_bipush dX12_mean_32 rfl ?_
  refine (show X _ _ 34 _ _ _ _ _ _ from ?_)
  refine x_callS (As := [_, _, _]) (mc := 0) (ms := 0) (z := mX12_in) dX12_mean_34 lX12_160 oX12_in (by decide) rfl (Nat.le_of_ble_eq_true rfl) (Nat.le_of_ble_eq_true rfl) rfl (hi2) (k_I ?_)
  refine (show X _ _ 37 _ _ _ _ _ _ from ?_)
  refine y_ifb_ne 46 dX12_mean_37 (by decide) (fun c3 => ?_) (fun c3 => ?_)
  rotate_left
  · cases c3
  refine y_iconst dX12_mean_46 ?_
  refine x_istore dX12_mean_47 (by decide) rfl rfl ?_
  refine y_iconst dX12_mean_49 ?_
  refine x_istore dX12_mean_50 (by decide) rfl rfl ?_
  refine (show X _ _ 52 _ _ _ _ _ _ from ?_)
  refine loopN (P := fun i => ∀ E1, Sc (u2 E 0 0 0) E1 → X g mX12_mean 52 [.ref r, .int (iI p), .int (iI sd), .int (iI x), .int (iI (meanS A B p.toNat sd i)), .int (iI (i : Int))] [] (T, iV (pB V r 24 E1), R, J, z) k n (DQ T R J z V r f (some (.int (iI (meanS A B p.toNat sd x.toNat)))) t tp true A B a m H K wr pl 0)) x.toNat ?_ (fun i hi ih => ?_) _ (Sc_r hI1)
  · intro E1 hs1
    have hgo := k_good (g := g) (V := V) (E := E1) (J := J) (z := z) (k := 0) (n := 0) (x := meanS A B p.toNat sd x.toNat) hM
    refine x_iload dX12_mean_52 rfl ?_
    refine x_iload_n dX12_mean_54 rfl ?_
    refine (show X _ _ 55 _ _ _ _ _ _ from ?_)
    refine y_icmp_ge 88 dX12_mean_55 (by decide) ⟨by omega, by omega⟩ ⟨by omega, by omega⟩ (fun h2 => ?_) (fun h2 => ?_)
    rotate_left
    · omega
    refine x_aload_n dX12_mean_88 rfl ?_
    refine x_iload dX12_mean_89 rfl ?_
    refine (show X _ _ 91 _ _ _ _ _ _ from ?_)
    refine x_callV (As := [_]) (mc := 0) (ms := 0) (z := mX12_good) (ci := 12) dX12_mean_91 lX12_95 oX12_good (by decide) (by first | assumption) rfl rfl (Nat.le_of_ble_eq_true rfl) (Nat.le_of_ble_eq_true rfl) rfl (hgo) (k_I ?_)
    refine (show X _ _ 94 _ _ _ _ _ _ from ?_)
    exact x_ireturn dX12_mean_94 rfl (DQ_tr (DI_sc hI1 hs1) 0 (by decide) _)
  · intro E1 hs1
    have es : meanS A B p.toNat sd (i + 1) = meanS A B p.toNat sd i + rn A B 3 ((sd + (i : Int)) % 65537) 1 p.toNat := rfl
    rw [es] at ih
    refine x_iload dX12_mean_52 rfl ?_
    refine x_iload_n dX12_mean_54 rfl ?_
    refine (show X _ _ 55 _ _ _ _ _ _ from ?_)
    refine y_icmp_ge 88 dX12_mean_55 (by decide) ⟨by omega, by omega⟩ ⟨by omega, by omega⟩ (fun h2 => ?_) (fun h2 => ?_)
    · omega
    refine x_aload_n dX12_mean_58 rfl ?_
    refine y_iconst dX12_mean_59 ?_
    refine x_iload_n dX12_mean_60 rfl ?_
    refine x_iload dX12_mean_61 rfl ?_
    refine y_iadd dX12_mean_63 ?_
    refine y_ldcw (65537) dX12_mean_64 kX12_586 rfl ?_
    refine y_irem dX12_mean_67 ⟨by omega, by omega⟩ ⟨by omega, by omega⟩ (by omega) (by omega) ?_
    refine (show X _ _ 68 _ _ _ _ _ _ from ?_)
    refine x_callV (As := [_, _]) (mc := 0) (ms := 0) (z := mX12_runsBy) (ci := 12) dX12_mean_68 lX12_417 oX12_runsBy (by decide) (by first | assumption) rfl rfl (Nat.le_of_ble_eq_true rfl) (Nat.le_of_ble_eq_true rfl) rfl (hrb E1 hs1 ((sd + (i : Int)) % 65537) (by omega)) (fun v M1 hq => ?_)
    obtain ⟨rfl, E2, rfl, hq⟩ := hq
    refine (show X _ _ 71 _ [] _ _ _ _ from ?_)
    have hs2 := Sc_t hs1 (RnQ_sc (DI_sc hI1 hs1) hq)
    obtain ⟨⟨hRM, -⟩, -⟩ := hq
    have ih := ih E2 hs2
    refine x_iload dX12_mean_71 rfl ?_
    refine x_aload_n dX12_mean_73 rfl ?_
    refine x_gr dX12_mean_74 fX12_58 (by first | assumption) (fun _ _ _ => rfl) (by first | assumption) ?_
    refine x_iload_n dX12_mean_77 rfl ?_
    refine b_iald (r := r) (m := 24) (j := 15) (p.toNat) dX12_mean_78 (by first | assumption) (by first | rfl | omega) (by omega) (by decide) (by decide) ?_
    refine (show X _ _ 79 _ _ _ _ _ _ from ?_)
    refine X.val (b := rn A B 3 ((sd + (i : Int)) % 65537) 1 p.toNat) (hRM.2.1 p.toNat hpn).1 ?_
    refine y_iadd dX12_mean_79 ?_
    refine x_istore dX12_mean_80 (by decide) rfl rfl ?_
    refine y_iinc dX12_mean_82 rfl (by decide) rfl rfl ?_
    refine x_goto 52 dX12_mean_85 (by decide) ?_
    refine (show X _ _ 52 _ _ _ _ _ _ from ?_)
    exact ih
theorem k_stands0 {x y : Int} (hI : DI T R V r f E t tp h A B a m H K wr pl tr) (hx : R32 x) (hb : ¬ stOk h A x) : X g mX12_stands 0 [.ref r, .int (iI x), .int (iI y), jk, jk, jk, jk, jk, jk, jk, jk, jk, jk] [] (T, iV (pB V r 24 E), R, J, z) k n (DQ T R J z V r f (some (.long (lI (-1)))) t tp h A B a m H K wr pl (if h = true then 2 else 1)) := by
  have hM := hI.1
  have hI1 := DI_sc hI (Sc_th hI 0)
  have hrf := fun x => k_refused (g := g) (V := V) (E := u2 E 0 0 0) (J := J) (z := z) (k := 0) (n := 0) (x := x) hM
  have hi1 := c_in (g := g) (k := 0) (n := 0) (x := x) (lo := 0) (hi := 8) (M := (T, iV (pB V r 24 (u2 E 0 0 0)), R, J, z)) hx ⟨by decide, by decide⟩ ⟨by decide, by decide⟩
  obtain ⟨-, -, -, -, -, d1, d2⟩ := id hI
  obtain ⟨hx1, hx2⟩ := hx
  cases h
  · have hn := (d1 rfl).1
    rw [if_neg (by decide)]
    obtain ⟨m0, ⟨-, -, -, -, m20, -, -, -, -, -, -, -, -, -, -, -, -, -, -, -, -, -, -⟩, ⟨-, -, -, -, mk5, -, -, -, -, -, -, -, -, -, -, -, -, -, -, -, -, -, -⟩⟩ := id hM
    refine x_aload_n dX12_stands_0 rfl ?_
    refine y_iconst dX12_stands_1 ?_
    refine b_pi0 (r := r) (m := 24) dX12_stands_2 (pX12_85 _) (by first | assumption) (fun _ _ _ => rfl) rfl rfl (by decide) ?_
    refine x_aload_n dX12_stands_5 rfl ?_
    refine (show X _ _ 6 _ _ _ _ _ _ from ?_)
    refine x_gn dX12_stands_6 fX12_409 (by first | assumption) (fun _ _ _ => rfl) (by first | assumption) ?_
    refine (show X _ _ 9 _ _ _ _ _ _ from ?_)
    refine x_ifnonnull_n dX12_stands_9 ?_
    refine (show X _ _ 12 _ _ _ _ _ _ from ?_)
    refine x_aload_n dX12_stands_12 rfl ?_
    refine y_iconst dX12_stands_13 ?_
    refine (show X _ _ 14 _ _ _ _ _ _ from ?_)
    refine x_callV (As := [_]) (mc := 0) (ms := 0) (z := mX12_refused) (ci := 12) dX12_stands_14 lX12_91 oX12_refused (by decide) (by first | assumption) rfl rfl (Nat.le_of_ble_eq_true rfl) (Nat.le_of_ble_eq_true rfl) rfl (hrf _) (k_I ?_)
    refine (show X _ _ 17 _ _ _ _ _ _ from ?_)
    refine x_i2l dX12_stands_17 ?_
    refine (show X _ _ 18 _ _ _ _ _ _ from ?_)
    rw [lI_m1]
    exact x_lreturn dX12_stands_18 rfl (DQ_tr hI1 1 (by decide) _)
  obtain ⟨⟨hf, hG, hF, hap⟩, ⟨hA, -⟩, -⟩ := d2 rfl
  rw [if_pos rfl]
  have hA0 := hA.1
  obtain ⟨m0, ⟨-, -, -, -, m20, -, -, -, -, -, -, -, -, -, -, -, -, -, -, -, -, -, -⟩, ⟨-, -, -, -, mk5, -, -, -, -, -, -, -, -, -, -, -, -, -, -, -, -, -, -⟩⟩ := id hM
  obtain ⟨g0, ⟨-, -, -, -, -, g15, -, -, -, -, -, -, -, -, -, -, -, -, -, -, -, -, -⟩, ⟨-, -, -, -, -, gk6, -, -, -, -, -, -, -, -, -, -, -, -, -, -, -, -, -⟩⟩ := id hG
  unfold apF at hap
  have t2 : X g mX12_stands 40 [.ref r, .int (iI x), .int (iI y), jk, jk, jk, jk, jk, jk, jk, jk, jk, jk] [] (T, iV (pB V r 24 (u2 E 0 0 0)), R, J, z) k n (DQ T R J z V r f (some (.long (lI (-1)))) t tp true A B a m H K wr pl 2) := by
    refine x_aload_n dX12_stands_40 rfl ?_
    refine y_iconst dX12_stands_41 ?_
    refine (show X _ _ 42 _ _ _ _ _ _ from ?_)
    refine x_callV (As := [_]) (mc := 0) (ms := 0) (z := mX12_refused) (ci := 12) dX12_stands_42 lX12_91 oX12_refused (by decide) (by first | assumption) rfl rfl (Nat.le_of_ble_eq_true rfl) (Nat.le_of_ble_eq_true rfl) rfl (hrf _) (k_I ?_)
    refine (show X _ _ 45 _ _ _ _ _ _ from ?_)
    refine x_i2l dX12_stands_45 ?_
    refine (show X _ _ 46 _ _ _ _ _ _ from ?_)
    rw [lI_m1]
    exact x_lreturn dX12_stands_46 rfl (DQ_tr hI1 2 (by decide) _)
  refine x_aload_n dX12_stands_0 rfl ?_
  refine y_iconst dX12_stands_1 ?_
  refine b_pi0 (r := r) (m := 24) dX12_stands_2 (pX12_85 _) (by first | assumption) (fun _ _ _ => rfl) rfl rfl (by decide) ?_
  refine x_aload_n dX12_stands_5 rfl ?_
  refine x_gr dX12_stands_6 fX12_409 (by first | assumption) (fun _ _ _ => rfl) (by first | assumption) ?_
  refine (show X _ _ 9 _ _ _ _ _ _ from ?_)
  refine x_ifnonnull_r 19 dX12_stands_9 (by decide) ?_
  refine (show X _ _ 19 _ _ _ _ _ _ from ?_)
  refine x_iload_n dX12_stands_19 rfl ?_
  refine y_iconst dX12_stands_20 ?_
  refine y_bipush dX12_stands_21 rfl ?_
  refine (show X _ _ 23 _ _ _ _ _ _ from ?_)
  refine x_callS (As := [_, _, _]) (mc := 0) (ms := 0) (z := mX12_in) dX12_stands_23 lX12_160 oX12_in (by decide) rfl (Nat.le_of_ble_eq_true rfl) (Nat.le_of_ble_eq_true rfl) rfl (hi1) (k_I ?_)
  refine (show X _ _ 26 _ _ _ _ _ _ from ?_)
  refine y_ifb_eq 40 dX12_stands_26 (by decide) (fun c1 => ?_) (fun c1 => ?_)
  · exact t2
  have c1 := of_decide_eq_true c1
  refine x_iload_n dX12_stands_29 rfl ?_
  refine x_aload_n dX12_stands_30 rfl ?_
  refine x_gr dX12_stands_31 fX12_409 (by first | assumption) (fun _ _ _ => rfl) (by first | assumption) ?_
  refine b_gio (r := r) (m := 24) dX12_stands_34 fX12_176 (by first | assumption) (fun _ _ _ => rfl) (by omega) ?_
  refine (show X _ _ 37 _ _ _ _ _ _ from ?_)
  refine X.val (hF.1 0 (by decide)) ?_
  refine y_icmp_le 47 dX12_stands_37 (by decide) ⟨by omega, by omega⟩ ⟨by omega, by omega⟩ (fun c2 => ?_) (fun c2 => ?_)
  · exact absurd ⟨rfl, c1.1, c1.2, c2⟩ hb
  · exact t2
theorem k_stands {x : Int} {lo : Bool} (hI : DI T R V r f E t tp h A B a m H K wr pl tr) (hb : stOk h A x) : X g mX12_stands 0 [.ref r, .int (iI x), .int (iI (bI lo)), jk, jk, jk, jk, jk, jk, jk, jk, jk, jk] [] (T, iV (pB V r 24 E), R, J, z) k n (DQ T R J z V r f (some (.long (lI (stdA A (rn A B (B 0 0) (B 0 1) 4) x.toNat lo)))) t tp h A B a m H K wr pl 0) := by
  obtain ⟨rfl, b1, b2, b3⟩ := hb
  have hM := hI.1
  have hI1 := DI_sc hI (Sc_th hI 0)
  have hi1 := c_in (g := g) (k := 0) (n := 0) (x := x) (lo := 0) (hi := 8) (M := (T, iV (pB V r 24 (u2 E 0 0 0)), R, J, z)) ⟨by omega, by omega⟩ ⟨by decide, by decide⟩ ⟨by decide, by decide⟩
  rw [decide_eq_true (by omega)] at hi1
  have hru := k_runs (g := g) (J := J) (z := z) (k := 0) (n := 0) (Wi := A0) (Ni := A0) hI1 NOk_0
  obtain ⟨⟨hf, hG, hF, hap⟩, ⟨hA, hB, -⟩, -⟩ := hI.2.2.2.2.2.2 rfl
  have hA0 := hA.1
  have hA3 := hA.2.2.2.1
  have eP := fP10 hA
  have hY := fY24 hA
  have hAp := hA.2.2.2.2.2.2.2.2.2.1
  have e0 := hF.1 0 (by decide)
  have hF6 := fun p hp => hF.2.1 5 (by decide) p hp
  have r64 : ∀ x : Int, 0 ≤ x ∧ x ≤ 10000000000000000 → R64 x := fun x h => ⟨by omega, by omega⟩
  obtain ⟨m0, ⟨-, -, -, -, m20, -, -, -, -, -, -, -, -, -, -, -, -, -, -, -, -, -, -⟩, ⟨-, -, -, -, mk5, -, -, -, -, -, -, -, -, -, -, -, -, -, -, -, -, -, -⟩⟩ := id hM
  obtain ⟨g0, ⟨-, -, -, -, -, g15, -, -, -, -, -, -, -, -, -, -, -, -, -, -, -, -, -⟩, ⟨-, -, -, -, -, gk6, -, -, -, -, -, -, -, -, -, -, -, -, -, -, -, -, -⟩⟩ := id hG
  unfold apF at hap
  refine x_aload_n dX12_stands_0 rfl ?_
  refine y_iconst dX12_stands_1 ?_
  refine b_pi0 (r := r) (m := 24) dX12_stands_2 (pX12_85 _) (by first | assumption) (fun _ _ _ => rfl) rfl rfl (by decide) ?_
  refine x_aload_n dX12_stands_5 rfl ?_
  refine x_gr dX12_stands_6 fX12_409 (by first | assumption) (fun _ _ _ => rfl) (by first | assumption) ?_
  refine (show X _ _ 9 _ _ _ _ _ _ from ?_)
  refine x_ifnonnull_r 19 dX12_stands_9 (by decide) ?_
  refine (show X _ _ 19 _ _ _ _ _ _ from ?_)
  refine x_iload_n dX12_stands_19 rfl ?_
  refine y_iconst dX12_stands_20 ?_
  refine y_bipush dX12_stands_21 rfl ?_
  refine (show X _ _ 23 _ _ _ _ _ _ from ?_)
  refine x_callS (As := [_, _, _]) (mc := 0) (ms := 0) (z := mX12_in) dX12_stands_23 lX12_160 oX12_in (by decide) rfl (Nat.le_of_ble_eq_true rfl) (Nat.le_of_ble_eq_true rfl) rfl (hi1) (k_I ?_)
  refine (show X _ _ 26 _ _ _ _ _ _ from ?_)
  refine y_ifb_eq 40 dX12_stands_26 (by decide) (fun c1 => ?_) (fun c1 => ?_)
  · cases c1
  refine x_iload_n dX12_stands_29 rfl ?_
  refine x_aload_n dX12_stands_30 rfl ?_
  refine x_gr dX12_stands_31 fX12_409 (by first | assumption) (fun _ _ _ => rfl) (by first | assumption) ?_
  refine b_gio (r := r) (m := 24) dX12_stands_34 fX12_176 (by first | assumption) (fun _ _ _ => rfl) (by omega) ?_
  refine (show X _ _ 37 _ _ _ _ _ _ from ?_)
  refine X.val e0 ?_
  refine y_icmp_le 47 dX12_stands_37 (by decide) ⟨by omega, by omega⟩ ⟨by omega, by omega⟩ (fun c2 => ?_) (fun c2 => ?_)
  rotate_left
  · omega
  refine x_aload_n dX12_stands_47 rfl ?_
  refine (show X _ _ 48 _ _ _ _ _ _ from ?_)
  refine x_callV (As := []) (mc := 0) (ms := 0) (z := mX12_runs) (ci := 12) dX12_stands_48 lX12_510 oX12_runs (by decide) (by first | assumption) rfl rfl (Nat.le_of_ble_eq_true rfl) (Nat.le_of_ble_eq_true rfl) rfl (hru) (fun v M1 hq => ?_)
  obtain ⟨rfl, E', rfl, hq⟩ := hq
  refine (show X _ _ 51 _ [] _ _ _ _ from ?_)
  have hI2 := DI_sc hI1 (RnQ_sc hI1 hq)
  obtain ⟨⟨hRM, -⟩, -⟩ := hq
  have hel := hRM.2.2.2.2.1
  have eE : runTo A B (rBeg A A0 (B 0 0) (B 0 1)) (fY A) = rn A B (B 0 0) (B 0 1) := rfl
  rw [eE] at hel
  clear hRM eE
  unfold ElM at hel
  generalize rn A B (B 0 0) (B 0 1) 4 = e at *
  have hst := stU_b (A := A) (e := e) (P := A 0 3) (fun p hp => (hAp p (by show p < (A 0 3).toNat; omega)).2.2.2.2.2.1)
  have hsx := hst x.toNat (fun y hy => (hel y (by omega)).2.2)
  have h100 := p100 (show x.toNat ≤ 8 by omega)
  refine x_lconst _ dX12_stands_51 rfl ?_
  refine x_lstore_n dX12_stands_52 (by decide) rfl rfl ?_
  refine x_lconst _ dX12_stands_53 rfl ?_
  refine x_lstore dX12_stands_54 (by decide) rfl rfl ?_
  refine y_iconst dX12_stands_56 ?_
  refine x_istore dX12_stands_57 (by decide) rfl rfl ?_
  refine (show X _ _ 59 _ _ _ _ _ _ from ?_)
  refine loopN (P := fun i => X g mX12_stands 59 [.ref r, .int (iI x), .int (iI (bI lo)), .long (lI (stU A e i).1), jk, .long (lI (stU A e i).2), jk, .int (iI (i : Int)), jk, jk, jk, jk, jk] [] (T, iV (pB V r 24 E'), R, J, z) k n (DQ T R J z V r f (some (.long (lI (stdA A e x.toNat lo)))) t tp true A B a m H K wr pl 0)) x.toNat ?_ (fun i hi ih => ?_)
  · refine x_iload dX12_stands_59 rfl ?_
    refine x_iload_n dX12_stands_61 rfl ?_
    refine (show X _ _ 62 _ _ _ _ _ _ from ?_)
    refine y_icmp_ge 117 dX12_stands_62 (by decide) ⟨by omega, by omega⟩ ⟨by omega, by omega⟩ (fun h1 => ?_) (fun h1 => ?_)
    rotate_left
    · omega
    unfold stdA
    generalize stU A e x.toNat = s at *
    refine x_lload_n dX12_stands_117 rfl ?_
    refine (show X _ _ 118 _ _ _ _ _ _ from ?_)
    refine X.drop 7 rfl ?_
    refine x_lstore dX12_stands_118 (by decide) rfl rfl ?_
    refine x_lload dX12_stands_120 rfl ?_
    refine x_lstore dX12_stands_122 (by decide) rfl rfl ?_
    refine (show X _ _ 124 _ _ _ _ _ _ from ?_)
    have hgc := gcE_200 (a := s.1) (b := s.2) hsx.1.1 (by omega)
    have hgp := gcF_pos 200 s.1 s.2 hsx.1.1 (by omega) hgc (Or.inr (by omega))
    have hgb := gcF_b (N := 10000000000000000) 200 s.1 s.2 (by omega) (by omega)
    have key : ∀ (d : Nat) (c b : Int), (0 ≤ c ∧ c ≤ 10000000000000000) → (0 ≤ b ∧ b ≤ 10000000000000000) → gcE d c b → gcF d c b = gcF 200 s.1 s.2 → ∀ y : Value, X g mX12_stands 124 [.ref r, .int (iI x), .int (iI (bI lo)), .long (lI s.1), jk, .long (lI s.2), jk, .long (lI c), jk, .long (lI b), jk, jk, jk] [] (T, iV (pB V r 24 E'), R, J, z) k n (DQ T R J z V r f (some (.long (lI (if gcF 200 s.1 s.2 = 0 then 0 else if lo then s.2 / gcF 200 s.1 s.2 else s.1 / gcF 200 s.1 s.2)))) t tp true A B a m H K wr pl 0) := by
      have hgo := k_good (g := g) (V := V) (E := E') (J := J) (z := z) (k := 0) (n := 0) (x := 0) hM
      have fin : ∀ (c : Int), (0 ≤ c ∧ c ≤ 10000000000000000) → c = gcF 200 s.1 s.2 → ∀ b : Int, X g mX12_stands 149 [.ref r, .int (iI x), .int (iI (bI lo)), .long (lI s.1), jk, .long (lI s.2), jk, .long (lI c), jk, .long (lI b), jk, jk, jk] [] (T, iV (pB V r 24 E'), R, J, z) k n (DQ T R J z V r f (some (.long (lI (if gcF 200 s.1 s.2 = 0 then 0 else if lo then s.2 / gcF 200 s.1 s.2 else s.1 / gcF 200 s.1 s.2)))) t tp true A B a m H K wr pl 0) := by
        intro c hc ec b
        rw [← ec] at hgp ⊢
        rw [if_neg (by omega)]
        have h4 : ¬ lI c = 0 := fun q => absurd ((lI_eq (r64 c hc) (r64 0 (by decide))).mp q) (by omega)
        refine x_aload_n dX12_stands_149 rfl ?_
        refine y_iconst dX12_stands_150 ?_
        refine (show X _ _ 151 _ _ _ _ _ _ from ?_)
        refine x_callV (As := [_]) (mc := 0) (ms := 0) (z := mX12_good) (ci := 12) dX12_stands_151 lX12_95 oX12_good (by decide) (by first | assumption) rfl rfl (Nat.le_of_ble_eq_true rfl) (Nat.le_of_ble_eq_true rfl) rfl (hgo) (k_I ?_)
        refine (show X _ _ 154 _ _ _ _ _ _ from ?_)
        refine x_pop dX12_stands_154 rfl ?_
        refine x_iload_n dX12_stands_155 rfl ?_
        refine (show X _ _ 156 _ _ _ _ _ _ from ?_)
        refine y_ifb_eq 167 dX12_stands_156 (by decide) (fun h5 => ?_) (fun h5 => ?_)
        · rw [if_neg (by rw [h5]; decide)]
          refine x_lload_n dX12_stands_167 rfl ?_
          refine x_lload dX12_stands_168 rfl ?_
          refine x_ldiv dX12_stands_170 (by assumption) ?_
          refine (show X _ _ 171 _ _ _ _ _ _ from ?_)
          rw [lI_div (r64 _ (by omega)) (r64 c hc) hsx.1.1]
          exact x_lreturn dX12_stands_171 rfl (DQ_tr hI2 0 (by decide) _)
        · rw [if_pos h5]
          refine x_lload dX12_stands_159 rfl ?_
          refine x_lload dX12_stands_161 rfl ?_
          refine x_ldiv dX12_stands_163 (by assumption) ?_
          refine x_goto 171 dX12_stands_164 (by decide) ?_
          refine (show X _ _ 171 _ _ _ _ _ _ from ?_)
          rw [lI_div (r64 _ (by omega)) (r64 c hc) (by omega)]
          exact x_lreturn dX12_stands_171 rfl (DQ_tr hI2 0 (by decide) _)
      intro d
      induction d with
      | zero =>
        intro c b hc hb hg he y
        have hb0 : b = 0 := hg
        refine x_lload dX12_stands_124 rfl ?_
        refine x_lconst _ dX12_stands_126 rfl ?_
        refine x_lcmp dX12_stands_127 ?_
        refine (show X _ _ 128 _ _ _ _ _ _ from ?_)
        refine x_if_eq 149 dX12_stands_128 (by decide) (fun h2 => ?_) (fun h2 => ?_)
        · exact fin c hc he b
        · exact absurd ((lI_cmp0 (r64 b hb)).mpr hb0) h2
      | succ d ih =>
        intro c b hc hb hg he y
        rw [gcF] at he
        refine x_lload dX12_stands_124 rfl ?_
        refine x_lconst _ dX12_stands_126 rfl ?_
        refine x_lcmp dX12_stands_127 ?_
        refine (show X _ _ 128 _ _ _ _ _ _ from ?_)
        refine x_if_eq 149 dX12_stands_128 (by decide) (fun h2 => ?_) (fun h2 => ?_)
        · rw [if_pos ((lI_cmp0 (r64 b hb)).mp h2)] at he
          exact fin c hc he b
        · have h3 : ¬ b = 0 := fun q => h2 ((lI_cmp0 (r64 b hb)).mpr q)
          rw [if_neg h3] at he
          rcases hg with hg | hg
          · exact absurd hg h3
          have h4 : ¬ lI b = 0 := fun q => h3 ((lI_eq (r64 b hb) (r64 0 (by decide))).mp q)
          have q1 := Int.emod_nonneg c h3
          have q2 := Int.emod_lt_of_pos c (show 0 < b by omega)
          refine x_lload dX12_stands_131 rfl ?_
          refine x_lload dX12_stands_133 rfl ?_
          refine x_lrem dX12_stands_135 (by assumption) ?_
          refine (show X _ _ 136 _ _ _ _ _ _ from ?_)
          rw [lI_rem (r64 c hc) (r64 b hb) hc.1]
          refine x_lstore dX12_stands_136 (by decide) rfl rfl ?_
          refine x_lload dX12_stands_138 rfl ?_
          refine x_lstore dX12_stands_140 (by decide) rfl rfl ?_
          refine x_lload dX12_stands_142 rfl ?_
          refine x_lstore dX12_stands_144 (by decide) rfl rfl ?_
          refine x_goto 124 dX12_stands_146 (by decide) ?_
          refine (show X _ _ 124 _ _ _ _ _ _ from ?_)
          exact X.drop 11 rfl (ih b (c % b) hb ⟨q1, by omega⟩ hg he y)
    exact key 200 s.1 s.2 (by omega) (by omega) hgc rfl jk
  · obtain ⟨d1, d2, d3⟩ := hel i (by omega)
    have es : stU A e (i + 1) = if 0 ≤ e i then ((stU A e i).1 * (100 - A 6 (e i).toNat), (stU A e i).2 * 100) else stU A e i := rfl
    rw [es] at ih
    refine x_iload dX12_stands_59 rfl ?_
    refine x_iload_n dX12_stands_61 rfl ?_
    refine (show X _ _ 62 _ _ _ _ _ _ from ?_)
    refine y_icmp_ge 117 dX12_stands_62 (by decide) ⟨by omega, by omega⟩ ⟨by omega, by omega⟩ (fun h1 => ?_) (fun h1 => ?_)
    · omega
    refine x_aload_n dX12_stands_65 rfl ?_
    refine x_gr dX12_stands_66 fX12_27 (by first | assumption) (fun _ _ _ => rfl) (by first | assumption) ?_
    refine x_iload dX12_stands_69 rfl ?_
    refine b_iald (r := r) (m := 24) (j := 5) (i) dX12_stands_71 (by first | assumption) (by first | rfl | omega) (by omega) (by decide) (by decide) ?_
    refine (show X _ _ 72 _ _ _ _ _ _ from ?_)
    refine X.val d1 ?_
    refine y_bipush dX12_stands_72 rfl ?_
    refine (show X _ _ 74 _ _ _ _ _ _ from ?_)
    refine y_icmp_ne 80 dX12_stands_74 (by decide) ⟨by omega, by omega⟩ ⟨by omega, by omega⟩ (fun h2 => ?_) (fun h2 => ?_)
    rotate_left
    · rw [if_neg (by omega)] at ih
      refine x_goto 111 dX12_stands_77 (by decide) ?_
      refine y_iinc dX12_stands_111 rfl (by decide) rfl rfl ?_
      refine x_goto 59 dX12_stands_114 (by decide) ?_
      refine (show X _ _ 59 _ _ _ _ _ _ from ?_)
      exact ih
    · have h3 : 0 ≤ e i := by omega
      rw [if_pos h3] at ih
      have hpp : (e i).toNat < fP A := by omega
      have h6 := (hAp _ hpp).2.2.2.2.2.1
      refine x_lload_n dX12_stands_80 rfl ?_
      refine x_ldc2 dX12_stands_81 kX12_583 ?_
      refine x_aload_n dX12_stands_84 rfl ?_
      refine x_gr dX12_stands_85 fX12_409 (by first | assumption) (fun _ _ _ => rfl) (by first | assumption) ?_
      refine x_gr dX12_stands_88 fX12_333 (by first | assumption) (fun _ _ _ => rfl) (by first | assumption) ?_
      refine x_aload_n dX12_stands_91 rfl ?_
      refine x_gr dX12_stands_92 fX12_27 (by first | assumption) (fun _ _ _ => rfl) (by first | assumption) ?_
      refine x_iload dX12_stands_95 rfl ?_
      refine (show X _ _ 97 _ _ _ _ _ _ from ?_)
      refine b_iald (r := r) (m := 24) (j := 5) (i) dX12_stands_97 (by first | assumption) (by first | rfl | omega) (by omega) (by decide) (by decide) ?_
      refine (show X _ _ 98 _ _ _ _ _ _ from ?_)
      refine X.val d1 ?_
      refine b_ialo (r := r) (m := 24) ((e i).toNat) dX12_stands_98 (by first | assumption) (by first | rfl | omega) (by omega) (by decide) (by omega) ?_
      refine (show X _ _ 99 _ _ _ _ _ _ from ?_)
      refine X.val (b := A 6 (e i).toNat) (hF6 _ hpp) ?_
      refine x_i2l dX12_stands_99 ?_
      refine (show X _ _ 100 _ _ _ _ _ _ from ?_)
      rw [i2l_lI ⟨by omega, by omega⟩]
      refine x_lsub dX12_stands_100 ?_
      refine (show X _ _ 101 _ _ _ _ _ _ from ?_)
      rw [show (100 : Int64) = lI 100 from rfl, lI_sub]
      refine x_lmul dX12_stands_101 ?_
      refine (show X _ _ 102 _ _ _ _ _ _ from ?_)
      rw [lI_mul]
      refine x_lstore_n dX12_stands_102 (by decide) rfl rfl ?_
      refine x_lload dX12_stands_103 rfl ?_
      refine x_ldc2 dX12_stands_105 kX12_583 ?_
      refine x_lmul dX12_stands_108 ?_
      refine (show X _ _ 109 _ _ _ _ _ _ from ?_)
      rw [show (100 : Int64) = lI 100 from rfl, lI_mul]
      refine x_lstore dX12_stands_109 (by decide) rfl rfl ?_
      refine y_iinc dX12_stands_111 rfl (by decide) rfl rfl ?_
      refine x_goto 59 dX12_stands_114 (by decide) ?_
      refine (show X _ _ 59 _ _ _ _ _ _ from ?_)
      exact ih
end C9c
