/-! ===== the reference's reader: its small steps ===== -/
abbrev SG : Type := Sum (Int × Nat) Nat
section Sg
variable (t : Nat → Int) (e : Nat)
def sF (c : Int) : SG → SG
  | .inl x => .inl x
  | .inr i => .inl (c, tkS t e i)
def sG : SG → SG
  | .inl x => .inl x
  | .inr i => .inr (tkN t e i)
def sW (j : Nat) : SG → Bool
  | .inl _ => false
  | .inr i => sw t e i j
def sNd (j : Nat) : SG → SG
  | .inl x => .inl x
  | .inr i => if sw t e i j = true then .inr (tkN t e i) else .inl (1, tkS t e i)
def sN (lo hi : Int) : SG → SG
  | .inl x => .inl x
  | .inr i => if whB t e i lo hi = true then .inr (tkN t e i) else .inl (whC t e i, tkS t e i)
def vN (lo hi : Int) : SG → Int
  | .inl _ => lo
  | .inr i => if whB t e i lo hi = true then tkX t e i else lo
def sNm : SG → Bool
  | .inl _ => false
  | .inr i => decide (tkK t e i = 1 ∧ lnOf t e i < 0)
def sK (A : Nat → Nat → Int) (c : Int) : SG → SG
  | .inl x => .inl x
  | .inr i => if nmB t e A c i = true then .inr i else .inl (nxC t e i 2, tkS t e i)
def vK (A : Nat → Nat → Int) (c : Int) : SG → Int
  | .inl _ => 0
  | .inr i => if nmB t e A c i = true then nmX t e A i else 0
def sFr (A : Nat → Nat → Int) : SG → SG
  | .inl x => .inl x
  | .inr i => if nwB t e A i = true then .inr (tkN t e i) else .inl (nxC t e i 3, tkS t e i)
end Sg
def MX (T : Nat → Nat × Nat) (R : Nat → Nat → Option Nat) (r f : Nat) (t : Nat → Int) (e : Nat) : Prop := MSh T R r ∧ FMS T R f ∧ R r 4 = some f ∧ (r + 24 ≤ f ∨ f + 24 ≤ r) ∧ byR t ∧ e ≤ 1100
/-- what its family that is read holds -/
def MF (V : Nat → Nat → Int) (J : Nat → Nat → Int64) (f : Nat) (A : Nat → Nat → Int) : Prop := FMC V f A ∧ V f 9 = A 0 9 ∧ (0 ≤ A 0 9 ∧ A 0 9 ≤ 18) ∧ ∀ k, k < (A 0 9).toNat → (J (f + 21) k = lI (A 21 k) ∧ 0 ≤ A 21 k ∧ A 21 k < 1099511627776) ∧ V (f + 22) k = A 22 k ∧ V (f + 23) k = A 23 k ∧ (0 ≤ A 22 k ∧ A 22 k ≤ 1)
def MZ (t : Nat → Int) (V : Nat → Nat → Int) (J : Nat → Nat → Int64) (A : Nat → Nat → Int) (r f e : Nat) (σ : SG) : Prop := V r 7 = (e : Int) ∧ V (r + 1) = t ∧ MF V J f A ∧ match σ with
  | .inl c => V r 9 = 5 ∧ V r 12 = c.1 ∧ V r 13 = (c.2 : Int)
  | .inr i => TK t V J r e i ∧ V r 12 = 0
def ZQ (T : Nat → Nat × Nat) (R : Nat → Nat → Option Nat) (J : Nat → Nat → Int64) (z : Nat) (t : Nat → Int) (V A : Nat → Nat → Int) (r f e : Nat) (v0 : Option Value) (σ : SG) : Option Value → Mem → Prop := fun v M => v = v0 ∧ ∃ V' J', M = (T, iV V', R, J', z) ∧ KS V V' J J' r ∧ MZ t V' J' A r f e σ
theorem KS_t {V V1 V2 : Nat → Nat → Int} {J J1 J2 : Nat → Nat → Int64} {r : Nat} (a : KS V V1 J J1 r) (b : KS V1 V2 J1 J2 r) : KS V V2 J J2 r := ⟨fun c h => (b.1 c h).trans (a.1 c h), fun c h => (b.2.1 c h).trans (a.2.1 c h), fun c h => (b.2.2 c h).trans (a.2.2 c h)⟩
theorem KS_r {V : Nat → Nat → Int} {J : Nat → Nat → Int64} {r : Nat} : KS V V J J r := ⟨fun _ _ => rfl, fun _ _ => rfl, fun _ _ => rfl⟩
theorem MF_k {V V' : Nat → Nat → Int} {J J' : Nat → Nat → Int64} {f : Nat} {A : Nat → Nat → Int} (h : MF V J f A) (hv : ∀ b, f ≤ b → b < f + 24 → V' b = V b) (hj : J' (f + 21) = J (f + 21)) : MF V' J' f A := by
  obtain ⟨⟨h1, h2, h3, h4, h5, h6, h7⟩, h8, h9, h10⟩ := h
  refine ⟨⟨fun j hj => ?_, fun c hc p hp => ?_, fun c hc p hp => ?_, fun c hc p hp => ?_, fun p hp => ?_, fun p hp => ?_, fun p hp => ?_⟩, ?_, h9, fun k hk => ?_⟩
  · rw [hv f (by omega) (by omega)]; exact h1 j hj
  · rw [hv _ (by omega) (by omega)]; exact h2 c hc p hp
  · rw [hv _ (by omega) (by omega)]; exact h3 c hc p hp
  · rw [hv _ (by omega) (by omega)]; exact h4 c hc p hp
  · rw [hv _ (by omega) (by omega)]; exact h5 p hp
  · rw [hv _ (by omega) (by omega)]; exact h6 p hp
  · rw [hv _ (by omega) (by omega), hv (f + 19) (by omega) (by omega), hv (f + 20) (by omega) (by omega)]; exact h7 p hp
  · rw [hv f (by omega) (by omega)]; exact h8
  · rw [hv (f + 22) (by omega) (by omega), hv (f + 23) (by omega) (by omega), hj]; exact h10 k hk
theorem srt_r {x : Int} (h : 0 ≤ x ∧ x ≤ 4) : 0 ≤ srt x ∧ srt x ≤ 4 := by unfold srt; split <;> omega
theorem srt_v {x c : Int} (h : 0 ≤ x ∧ x ≤ 4) (hc : 1 ≤ c ∧ c ≤ 4) : srt x = c ↔ x = c - 1 := by unfold srt; split <;> omega
theorem lg0 {a b : Int64} : lg_cmp a b = 0 ↔ a = b := by
  unfold lg_cmp
  constructor
  · intro h
    split at h
    · exact absurd h (by decide)
    · split at h
      · assumption
      · exact absurd h (by decide)
  · intro h
    subst h
    simp [Int64.lt_irrefl]
theorem tkX_w {t : Nat → Int} {e i : Nat} (hk : tkK t e i = 1) : 0 ≤ tkX t e i ∧ tkX t e i < 1099511627776 := by
  have h := tk_word hk
  have e1 : tkX t e i = wk t (tkL t e i - tkS t e i) (tkS t e i) 0 := by unfold tkX; rw [if_pos hk]
  have hb := wk_b t (tkL t e i - tkS t e i) (tkS t e i) (fun q a b => h.2.2.2.2 q a (by omega))
  rw [e1]
  have hd := h.2.1
  generalize tkL t e i - tkS t e i = d at *
  refine ⟨hb.1, ?_⟩
  have : (32 : Int) ^ d ≤ 1099511627776 := by
    rcases (by omega : d = 0 ∨ d = 1 ∨ d = 2 ∨ d = 3 ∨ d = 4 ∨ d = 5 ∨ d = 6 ∨ d = 7 ∨ d = 8) with rfl | rfl | rfl | rfl | rfl | rfl | rfl | rfl | rfl <;> decide
  omega
theorem ky_b : ∀ j, j < 33 → 0 ≤ ky j ∧ ky j < 1099511627776 := by decide +kernel
section C9m
variable {g : GG} {T : Nat → Nat × Nat} {V A : Nat → Nat → Int} {R : Nat → Nat → Option Nat} {J : Nat → Nat → Int64} {z k n : Nat} {r f e i j : Nat} {t : Nat → Int} {σ : SG}
theorem z_goes (hX : MX T R r f t e) (hZ : MZ t V J A r f e σ) (hk : ∀ i, σ = .inr i → tkK t e i ≠ 4) : X g mX12_goesOn 0 [.ref r, jk, jk] [] (T, iV V, R, J, z) k n (ZQ T R J z t V A r f e none (sG t e σ)) := by
  obtain ⟨hM, hG, hrf, hap, hb, he⟩ := id hX
  obtain ⟨a1, a2, a3, a4⟩ := id hZ
  cases σ with
  | inl c => exact X.mono (k_goes0 hM a4.1) (fun v M h => ⟨h.1, V, J, h.2, KS_r, hZ⟩)
  | inr i =>
    have hk := hk i rfl
    have hsr := srt_r (tkK_b t e i)
    obtain ⟨⟨b1, b2, b3, b4, b5, b6⟩, b7⟩ := a4
    refine X.mono (k_goes1 hM hb he (i := tkN t e i) (by omega) ⟨by omega, by omega⟩ (b2 hk) (tk_b t b1).2.2.2.2.2.2.2 a1 a2) (fun v M h => ?_)
    obtain ⟨q0, V1, J1, q1, ⟨q2, q3, q4⟩, q5⟩ := h
    exact ⟨q0, V1, J1, q1, q2, (q2.2.1 7 (by omega)).trans a1, (q2.1 _ (by omega)).trans a2, MF_k a3 (fun b h1 h2 => q2.1 b (by omega)) (q2.2.2 _ (by omega)), q5, q3.trans b7⟩
theorem z_flaw {c : Int} (hX : MX T R r f t e) (hZ : MZ t V J A r f e σ) : X g mX12_flaw 0 [.ref r, .int (iI c)] [] (T, iV V, R, J, z) k n (ZQ T R J z t V A r f e none (sF t e c σ)) := by
  obtain ⟨hM, hG, hrf, hap, hb, he⟩ := id hX
  obtain ⟨a1, a2, a3, a4⟩ := id hZ
  cases σ with
  | inl c => exact X.mono (k_flaw0 hM a4.1) (fun v M h => ⟨h.1, V, J, h.2, KS_r, hZ⟩)
  | inr i =>
    have hsr := srt_r (tkK_b t e i)
    obtain ⟨⟨b1, b2, b3, b4, b5, b6⟩, b7⟩ := a4
    refine X.mono (k_flaw1 hM (by omega) ⟨by omega, by omega⟩) (fun v M h => ?_)
    refine ⟨h.1, _, J, h.2, ⟨fun b hb => ?_, fun c hc => ?_, fun _ _ => rfl⟩, ?_, ?_, MF_k a3 (fun b h1 h2 => ?_) rfl, ?_, ?_, ?_⟩
    · rw [u2_n hb, u2_n hb, u2_n hb]
    · rw [u2_s, u1_n (by omega), u2_s, u1_n (by omega), u2_s, u1_n (by omega)]
    · rw [u2_s, u1_n (by decide), u2_s, u1_n (by decide), u2_s, u1_n (by decide)]; exact a1
    · rw [u2_n (by omega), u2_n (by omega), u2_n (by omega)]; exact a2
    · rw [u2_n (by omega), u2_n (by omega), u2_n (by omega)]
    · rw [u2_s, u1_s]
    · rw [u2_s, u1_n (by decide), u2_s, u1_n (by decide), u2_s, u1_s]
    · rw [u2_s, u1_n (by decide), u2_s, u1_s]; exact b4
theorem c_wordOf {V : Nat → Nat → Int} (hj : j < 33) : X g mX12_wordOf 0 [.ref (g.2.2.1 j), jk, jk, jk] [] (T, iV V, R, J, z) k n (rL (lI (ky j)) (T, iV V, R, J, z)) := by
  obtain ⟨hj', -, hl8, hw⟩ := lit j hj
  obtain ⟨ln, hl⟩ : ∃ ln, lenStr.getD j 0 = ln := ⟨_, rfl⟩
  have en : nI ln = iI (ln : Int) := (ix_nat rfl).symm
  have ek : ky j = wk (wdOf j) ln 0 0 := by rw [← hl]; rfl
  rw [hl] at hl8 hw
  have cl := c_strLen (g := g) (M := (T, iV V, R, J, z)) (k := 0) (n := 0) hj'
  rw [hl, en] at cl
  have cc : ∀ p, p < ln → X g mJ0_charAt_5068e 0 [.ref (g.2.2.1 j), .int (iI (p : Int))] [] (T, iV V, R, J, z) 0 0 (rI (iI (wdOf j p)) (T, iV V, R, J, z)) := fun p hp => by
    have c := c_charAt (g := g) (M := (T, iV V, R, J, z)) (k := 0) (n := 0) (x := iI (p : Int)) hj' (ix_nat rfl) (by omega) (by omega) (fun h => by have := (iI_lt (b := 0) ⟨by omega, by omega⟩ ⟨by omega, by omega⟩).mp h; omega) (by rw [hl, en]; exact (iI_lt ⟨by omega, by omega⟩ ⟨by omega, by omega⟩).mpr (by omega)) (hw p hp).1.2
    rw [(hw p hp).1.1] at c
    exact c
  have lp : ∀ (d p : Nat), p + d = ln → X g mX12_wordOf 4 [.ref (g.2.2.1 j), .long (lI (wk (wdOf j) p 0 0)), jk, .int (iI (p : Int))] [] (T, iV V, R, J, z) k n (rL (lI (ky j)) (T, iV V, R, J, z)) := by
    intro d
    induction d with
    | zero =>
      intro p hp
      refine x_iload_n dX12_wordOf_4 rfl ?_
      refine x_aload_n dX12_wordOf_5 rfl ?_
      refine (show X _ _ 6 _ _ _ _ _ _ from ?_)
      refine x_callT (As := []) (mc := 0) (ms := 0) dX12_wordOf_6 lX12_101 oJ0_length_8abf5 (by decide) (by first | assumption) rfl rfl (Nat.le_of_ble_eq_true rfl) (Nat.le_of_ble_eq_true rfl) rfl (cl) (k_I ?_)
      refine (show X _ _ 9 _ _ _ _ _ _ from ?_)
      refine y_icmp_ge 36 dX12_wordOf_9 (by decide) ⟨by omega, by omega⟩ ⟨by omega, by omega⟩ (fun h => ?_) (fun h => ?_)
      · refine x_lload_n dX12_wordOf_36 rfl ?_
        refine (show X _ _ 37 _ _ _ _ _ _ from ?_)
        exact x_lreturn dX12_wordOf_37 rfl ⟨by rw [ek, show p = ln by omega], rfl⟩
      · omega
    | succ d ih =>
      intro p hp
      have b2 := (hw p (by omega)).2
      have ec : (p : Int) + 1 = ((p + 1 : Nat) : Int) := by omega
      refine x_iload_n dX12_wordOf_4 rfl ?_
      refine x_aload_n dX12_wordOf_5 rfl ?_
      refine (show X _ _ 6 _ _ _ _ _ _ from ?_)
      refine x_callT (As := []) (mc := 0) (ms := 0) dX12_wordOf_6 lX12_101 oJ0_length_8abf5 (by decide) (by first | assumption) rfl rfl (Nat.le_of_ble_eq_true rfl) (Nat.le_of_ble_eq_true rfl) rfl (cl) (k_I ?_)
      refine (show X _ _ 9 _ _ _ _ _ _ from ?_)
      refine y_icmp_ge 36 dX12_wordOf_9 (by decide) ⟨by omega, by omega⟩ ⟨by omega, by omega⟩ (fun h => ?_) (fun h => ?_)
      · omega
      refine x_ldc2 dX12_wordOf_12 kX12_107 ?_
      refine x_lload_n dX12_wordOf_15 rfl ?_
      refine x_lmul dX12_wordOf_16 ?_
      refine x_aload_n dX12_wordOf_17 rfl ?_
      refine x_iload_n dX12_wordOf_18 rfl ?_
      refine (show X _ _ 19 _ _ _ _ _ _ from ?_)
      refine x_callT (As := [_]) (mc := 0) (ms := 0) dX12_wordOf_19 lX12_109 oJ0_charAt_5068e (by decide) (by first | assumption) rfl rfl (Nat.le_of_ble_eq_true rfl) (Nat.le_of_ble_eq_true rfl) rfl (cc p (by omega)) (k_I ?_)
      refine (show X _ _ 22 _ _ _ _ _ _ from ?_)
      refine y_bipush dX12_wordOf_22 rfl ?_
      refine y_isub dX12_wordOf_24 ?_
      refine y_iconst dX12_wordOf_25 ?_
      refine y_iadd dX12_wordOf_26 ?_
      refine (show X _ _ 27 _ _ _ _ _ _ from ?_)
      refine x_i2l dX12_wordOf_27 ?_
      rw [i2l_lI ⟨by omega, by omega⟩]
      refine x_ladd dX12_wordOf_28 ?_
      have ev : (32 : Int64) * lI (wk (wdOf j) p 0 0) + lI (wdOf j p - 97 + 1) = lI (wk (wdOf j) (p + 1) 0 0) := by
        rw [show (32 : Int64) = lI 32 from rfl, lI_mul, lI_add, wk_snoc, Nat.zero_add]
        congr 1
        omega
      rw [ev]
      refine (show X _ _ 29 _ _ _ _ _ _ from ?_)
      refine x_lstore_n dX12_wordOf_29 (by decide) rfl rfl ?_
      refine y_iinc dX12_wordOf_30 rfl (by decide) rfl rfl ?_
      refine x_goto 4 dX12_wordOf_33 (by decide) ?_
      refine (show X _ _ 4 _ _ _ _ _ _ from ?_)
      rw [ec]
      exact ih (p + 1) (by omega)
  refine x_lconst _ dX12_wordOf_0 rfl ?_
  refine x_lstore_n dX12_wordOf_1 (by decide) rfl rfl ?_
  refine y_iconst dX12_wordOf_2 ?_
  refine x_istore_n dX12_wordOf_3 (by decide) rfl rfl ?_
  refine (show X _ _ 4 _ _ _ _ _ _ from ?_)
  exact lp ln 0 (by omega)
theorem z_isWord (hX : MX T R r f t e) (hZ : MZ t V J A r f e σ) (hj : j < 33) : X g mX12_isWord 0 [.ref r, .ref (g.2.2.1 j)] [] (T, iV V, R, J, z) k n (rI (iI (bI (sW t e j σ))) (T, iV V, R, J, z)) := by
  obtain ⟨hM, hG, hrf, hap, hb, he⟩ := id hX
  obtain ⟨a1, a2, a3, a4⟩ := id hZ
  obtain ⟨m0, -, -⟩ := id hM
  cases σ with
  | inl c =>
    refine x_aload_n dX12_isWord_0 rfl ?_
    refine y_gi dX12_isWord_1 fX12_113 (by first | assumption) (fun _ _ _ => rfl) ?_
    refine (show X _ _ 4 _ _ _ _ _ _ from ?_)
    refine X.val a4.1 ?_
    refine y_iconst dX12_isWord_4 ?_
    refine (show X _ _ 5 _ _ _ _ _ _ from ?_)
    refine y_icmp_ne 24 dX12_isWord_5 (by decide) ⟨by omega, by omega⟩ ⟨by omega, by omega⟩ (fun h => ?_) (fun h => ?_)
    · refine y_iconst dX12_isWord_24 ?_
      refine (show X _ _ 25 _ _ _ _ _ _ from ?_)
      exact x_zreturn dX12_isWord_25 rfl rfl ⟨rfl, rfl⟩
    · omega
  | inr i =>
    have hkb := tkK_b t e i
    have hsr := srt_r hkb
    obtain ⟨⟨b1, b2, b3, b4, b5, b6⟩, b7⟩ := a4
    have hs1 := srt_v (c := 2) hkb ⟨by decide, by decide⟩
    have es : sW t e j (.inr i) = decide (tkK t e i = 1 ∧ tkX t e i = ky j) := rfl
    rw [es]
    refine x_aload_n dX12_isWord_0 rfl ?_
    refine y_gi dX12_isWord_1 fX12_113 (by first | assumption) (fun _ _ _ => rfl) ?_
    refine (show X _ _ 4 _ _ _ _ _ _ from ?_)
    refine X.val b3 ?_
    refine y_iconst dX12_isWord_4 ?_
    refine (show X _ _ 5 _ _ _ _ _ _ from ?_)
    refine y_icmp_ne 24 dX12_isWord_5 (by decide) ⟨by omega, by omega⟩ ⟨by omega, by omega⟩ (fun h => ?_) (fun h => ?_)
    · rw [decide_eq_false (fun c => h (hs1.mpr c.1))]
      refine y_iconst dX12_isWord_24 ?_
      refine (show X _ _ 25 _ _ _ _ _ _ from ?_)
      exact x_zreturn dX12_isWord_25 rfl rfl ⟨rfl, rfl⟩
    have hk := hs1.mp h
    have hk : tkK t e i = 1 := by omega
    have hx := tkX_w hk
    have hy := ky_b j hj
    refine x_aload_n dX12_isWord_8 rfl ?_
    refine x_gl dX12_isWord_9 fX12_129 (by first | assumption) (fun _ _ _ => rfl) ?_
    refine x_aload_n dX12_isWord_12 rfl ?_
    refine (show X _ _ 13 _ _ _ _ _ _ from ?_)
    refine x_callS (As := [_]) (mc := 0) (ms := 0) (z := mX12_wordOf) dX12_isWord_13 lX12_145 oX12_wordOf (by decide) rfl (Nat.le_of_ble_eq_true rfl) (Nat.le_of_ble_eq_true rfl) rfl (c_wordOf hj) (k_L ?_)
    refine (show X _ _ 16 _ _ _ _ _ _ from ?_)
    refine x_lcmp dX12_isWord_16 ?_
    refine x_if_ne 24 dX12_isWord_17 (by decide) (fun h2 => ?_) (fun h2 => ?_)
    · rw [decide_eq_false (fun c => h2 (lg0.mpr (by rw [← c.2]; exact b5 hk)))]
      refine y_iconst dX12_isWord_24 ?_
      refine (show X _ _ 25 _ _ _ _ _ _ from ?_)
      exact x_zreturn dX12_isWord_25 rfl rfl ⟨rfl, rfl⟩
    · have h3 : J r 14 = lI (ky j) := lg0.mp h2
      have h4 : tkX t e i = ky j := (lI_eq ⟨by omega, by omega⟩ ⟨by omega, by omega⟩).mp ((b5 hk).symm.trans h3)
      rw [decide_eq_true ⟨hk, h4⟩]
      refine (show X _ _ 20 _ _ _ _ _ _ from ?_)
      refine y_iconst dX12_isWord_20 ?_
      refine x_goto 25 dX12_isWord_21 (by decide) ?_
      refine (show X _ _ 25 _ _ _ _ _ _ from ?_)
      exact x_zreturn dX12_isWord_25 rfl rfl ⟨rfl, rfl⟩
theorem sw_k4 (h : sw t e i j = true) : tkK t e i = 1 := (of_decide_eq_true h).1
theorem z_needs (hX : MX T R r f t e) (hZ : MZ t V J A r f e σ) (hj : j < 33) : X g mX12_needs 0 [.ref r, .ref (g.2.2.1 j)] [] (T, iV V, R, J, z) k n (ZQ T R J z t V A r f e none (sNd t e j σ)) := by
  obtain ⟨hM, hG, hrf, hap, hb, he⟩ := id hX
  obtain ⟨m0, -, -⟩ := id hM
  refine x_aload_n dX12_needs_0 rfl ?_
  refine x_aload_n dX12_needs_1 rfl ?_
  refine (show X _ _ 2 _ _ _ _ _ _ from ?_)
  refine x_callV (As := [_]) (mc := 0) (ms := 0) (z := mX12_isWord) (ci := 12) dX12_needs_2 lX12_152 oX12_isWord (by decide) (by first | assumption) rfl rfl (Nat.le_of_ble_eq_true rfl) (Nat.le_of_ble_eq_true rfl) rfl (z_isWord hX hZ hj) (k_I ?_)
  refine (show X _ _ 5 _ _ _ _ _ _ from ?_)
  refine y_ifb_ne 13 dX12_needs_5 (by decide) (fun h => ?_) (fun h => ?_)
  · refine x_aload_n dX12_needs_13 rfl ?_
    refine (show X _ _ 14 _ _ _ _ _ _ from ?_)
    refine x_callV (As := []) (mc := 0) (ms := 0) (z := mX12_goesOn) (ci := 12) dX12_needs_14 lX12_149 oX12_goesOn (by decide) (by first | assumption) rfl rfl (Nat.le_of_ble_eq_true rfl) (Nat.le_of_ble_eq_true rfl) rfl (z_goes hX hZ (fun i h' => by subst h'; have := sw_k4 h; omega)) (fun v M1 hq => ?_)
    obtain ⟨rfl, V1, J1, rfl, hK1, hZ1⟩ := hq
    refine x_return dX12_needs_17 rfl ⟨rfl, V1, J1, rfl, hK1, ?_⟩
    cases σ with
    | inl c => cases h
    | inr i => rw [show sNd t e j (.inr i) = sG t e (.inr i) from if_pos h]; exact hZ1
  · refine x_aload_n dX12_needs_8 rfl ?_
    refine y_iconst dX12_needs_9 ?_
    refine (show X _ _ 10 _ _ _ _ _ _ from ?_)
    refine x_callV (As := [_]) (mc := 0) (ms := 0) (z := mX12_flaw) (ci := 12) dX12_needs_10 lX12_156 oX12_flaw (by decide) (by first | assumption) rfl rfl (Nat.le_of_ble_eq_true rfl) (Nat.le_of_ble_eq_true rfl) rfl (z_flaw hX hZ) (fun v M1 hq => ?_)
    obtain ⟨rfl, V1, J1, rfl, hK1, hZ1⟩ := hq
    refine (show X _ _ 13 _ _ _ _ _ _ from ?_)
    refine x_aload_n dX12_needs_13 rfl ?_
    refine (show X _ _ 14 _ _ _ _ _ _ from ?_)
    refine x_callV (As := []) (mc := 0) (ms := 0) (z := mX12_goesOn) (ci := 12) dX12_needs_14 lX12_149 oX12_goesOn (by decide) (by first | assumption) rfl rfl (Nat.le_of_ble_eq_true rfl) (Nat.le_of_ble_eq_true rfl) rfl (z_goes hX hZ1 (fun i h' => by cases σ <;> cases h')) (fun v M1 hq => ?_)
    obtain ⟨rfl, V2, J2, rfl, hK2, hZ2⟩ := hq
    refine x_return dX12_needs_17 rfl ⟨rfl, V2, J2, rfl, KS_t hK1 hK2, ?_⟩
    cases σ with
    | inl c => exact hZ2
    | inr i => rw [show sNd t e j (.inr i) = sG t e (sF t e 1 (.inr i)) from if_neg (by rw [show sw t e i j = false from h]; decide)]; exact hZ2
theorem z_readWhole {lo hi : Int} (hX : MX T R r f t e) (hZ : MZ t V J A r f e σ) (hl : R32 lo) (hh : R32 hi) : X g mX12_readWhole 0 [.ref r, .int (iI lo), .int (iI hi), jk] [] (T, iV V, R, J, z) k n (ZQ T R J z t V A r f e (some (.int (iI (vN t e lo hi σ)))) (sN t e lo hi σ)) := by
  obtain ⟨hM, hG, hrf, hap, hb, he⟩ := id hX
  obtain ⟨a1, a2, a3, a4⟩ := id hZ
  obtain ⟨m0, -, -⟩ := id hM
  cases σ with
  | inl c =>
    refine x_aload_n dX12_readWhole_0 rfl ?_
    refine y_gi dX12_readWhole_1 fX12_113 (by first | assumption) (fun _ _ _ => rfl) ?_
    refine (show X _ _ 4 _ _ _ _ _ _ from ?_)
    refine X.val a4.1 ?_
    refine y_iconst dX12_readWhole_4 ?_
    refine (show X _ _ 5 _ _ _ _ _ _ from ?_)
    refine y_icmp_eq 16 dX12_readWhole_5 (by decide) ⟨by omega, by omega⟩ ⟨by omega, by omega⟩ (fun h => ?_) (fun h => ?_)
    · omega
    refine x_aload_n dX12_readWhole_8 rfl ?_
    refine y_iconst dX12_readWhole_9 ?_
    refine (show X _ _ 10 _ _ _ _ _ _ from ?_)
    refine x_callV (As := [_]) (mc := 0) (ms := 0) (z := mX12_flaw) (ci := 12) dX12_readWhole_10 lX12_156 oX12_flaw (by decide) (by first | assumption) rfl rfl (Nat.le_of_ble_eq_true rfl) (Nat.le_of_ble_eq_true rfl) rfl (z_flaw hX hZ) (fun v M1 hq => ?_)
    obtain ⟨rfl, V1, J1, rfl, hK1, hZ1⟩ := hq
    refine (show X _ _ 13 _ _ _ _ _ _ from ?_)
    refine x_goto 33 dX12_readWhole_13 (by decide) ?_
    refine x_aload_n dX12_readWhole_33 rfl ?_
    refine y_gi dX12_readWhole_34 fX12_113 (by first | assumption) (fun _ _ _ => rfl) ?_
    refine (show X _ _ 37 _ _ _ _ _ _ from ?_)
    refine X.val (b := 5) hZ1.2.2.2.1 ?_
    refine y_iconst dX12_readWhole_37 ?_
    refine (show X _ _ 38 _ _ _ _ _ _ from ?_)
    refine y_icmp_ne 45 dX12_readWhole_38 (by decide) ⟨by omega, by omega⟩ ⟨by omega, by omega⟩ (fun h2 => ?_) (fun h2 => ?_)
    · omega
    refine x_iload_n dX12_readWhole_41 rfl ?_
    refine x_goto 49 dX12_readWhole_42 (by decide) ?_
    refine x_istore_n dX12_readWhole_49 (by decide) rfl rfl ?_
    refine x_aload_n dX12_readWhole_50 rfl ?_
    refine (show X _ _ 51 _ _ _ _ _ _ from ?_)
    refine x_callV (As := []) (mc := 0) (ms := 0) (z := mX12_goesOn) (ci := 12) dX12_readWhole_51 lX12_149 oX12_goesOn (by decide) (by first | assumption) rfl rfl (Nat.le_of_ble_eq_true rfl) (Nat.le_of_ble_eq_true rfl) rfl (z_goes hX hZ1 (fun i h' => by cases h')) (fun v M1 hq => ?_)
    obtain ⟨rfl, V2, J2, rfl, hK2, hZ2⟩ := hq
    refine (show X _ _ 54 _ _ _ _ _ _ from ?_)
    refine x_iload_n dX12_readWhole_54 rfl ?_
    refine (show X _ _ 55 _ _ _ _ _ _ from ?_)
    exact x_ireturn dX12_readWhole_55 rfl ⟨rfl, V2, J2, rfl, KS_t hK1 hK2, hZ2⟩
  | inr i =>
    have hkb := tkK_b t e i
    have hsr := srt_r hkb
    obtain ⟨⟨b1, b2, b3, b4, b5, b6⟩, b7⟩ := id a4
    have hs1 := srt_v (c := 3) hkb ⟨by decide, by decide⟩
    have dead : ∀ c : Int, whB t e i lo hi = false → whC t e i = c → ∀ V1 J1, KS V V1 J J1 r → MZ t V1 J1 A r f e (sF t e c (.inr i)) → X g mX12_readWhole 33 [.ref r, .int (iI lo), .int (iI hi), jk] [] (T, iV V1, R, J1, z) k n (ZQ T R J z t V A r f e (some (.int (iI (vN t e lo hi (.inr i))))) (sN t e lo hi (.inr i))) := fun c hw hc V1 J1 hK1 hZ1 => by
      refine x_aload_n dX12_readWhole_33 rfl ?_
      refine y_gi dX12_readWhole_34 fX12_113 (by first | assumption) (fun _ _ _ => rfl) ?_
      refine (show X _ _ 37 _ _ _ _ _ _ from ?_)
      refine X.val (b := 5) hZ1.2.2.2.1 ?_
      refine y_iconst dX12_readWhole_37 ?_
      refine (show X _ _ 38 _ _ _ _ _ _ from ?_)
      refine y_icmp_ne 45 dX12_readWhole_38 (by decide) ⟨by omega, by omega⟩ ⟨by omega, by omega⟩ (fun h2 => ?_) (fun h2 => ?_)
      · omega
      refine x_iload_n dX12_readWhole_41 rfl ?_
      refine x_goto 49 dX12_readWhole_42 (by decide) ?_
      refine x_istore_n dX12_readWhole_49 (by decide) rfl rfl ?_
      refine x_aload_n dX12_readWhole_50 rfl ?_
      refine (show X _ _ 51 _ _ _ _ _ _ from ?_)
      refine x_callV (As := []) (mc := 0) (ms := 0) (z := mX12_goesOn) (ci := 12) dX12_readWhole_51 lX12_149 oX12_goesOn (by decide) (by first | assumption) rfl rfl (Nat.le_of_ble_eq_true rfl) (Nat.le_of_ble_eq_true rfl) rfl (z_goes hX hZ1 (fun i h' => by cases h')) (fun v M1 hq => ?_)
      obtain ⟨rfl, V2, J2, rfl, hK2, hZ2⟩ := hq
      refine (show X _ _ 54 _ _ _ _ _ _ from ?_)
      refine x_iload_n dX12_readWhole_54 rfl ?_
      refine (show X _ _ 55 _ _ _ _ _ _ from ?_)
      rw [show vN t e lo hi (.inr i) = lo from if_neg (by rw [hw]; decide), show sN t e lo hi (.inr i) = .inl (c, tkS t e i) from by rw [← hc]; exact if_neg (by rw [hw]; decide)]
      exact x_ireturn dX12_readWhole_55 rfl ⟨rfl, V2, J2, rfl, KS_t hK1 hK2, hZ2⟩
    refine x_aload_n dX12_readWhole_0 rfl ?_
    refine y_gi dX12_readWhole_1 fX12_113 (by first | assumption) (fun _ _ _ => rfl) ?_
    refine (show X _ _ 4 _ _ _ _ _ _ from ?_)
    refine X.val b3 ?_
    refine y_iconst dX12_readWhole_4 ?_
    refine (show X _ _ 5 _ _ _ _ _ _ from ?_)
    refine y_icmp_eq 16 dX12_readWhole_5 (by decide) ⟨by omega, by omega⟩ ⟨by omega, by omega⟩ (fun h => ?_) (fun h => ?_)
    · have hk : tkK t e i = 2 := by have := hs1.mp h; omega
      have hx := tkX_whole hk
      refine x_aload_n dX12_readWhole_16 rfl ?_
      refine y_gi dX12_readWhole_17 fX12_136 (by first | assumption) (fun _ _ _ => rfl) ?_
      refine (show X _ _ 20 _ _ _ _ _ _ from ?_)
      refine X.val (b6 hk) ?_
      refine x_iload_n dX12_readWhole_20 rfl ?_
      refine x_iload_n dX12_readWhole_21 rfl ?_
      refine (show X _ _ 22 _ _ _ _ _ _ from ?_)
      refine x_callS (As := [_, _, _]) (mc := 0) (ms := 0) (z := mX12_in) dX12_readWhole_22 lX12_160 oX12_in (by decide) rfl (Nat.le_of_ble_eq_true rfl) (Nat.le_of_ble_eq_true rfl) rfl (c_in ⟨by omega, by omega⟩ hl hh) (k_I ?_)
      refine (show X _ _ 25 _ _ _ _ _ _ from ?_)
      refine y_ifb_ne 33 dX12_readWhole_25 (by decide) (fun h3 => ?_) (fun h3 => ?_)
      · have hw : whB t e i lo hi = true := decide_eq_true ⟨hk, of_decide_eq_true h3⟩
        refine x_aload_n dX12_readWhole_33 rfl ?_
        refine y_gi dX12_readWhole_34 fX12_113 (by first | assumption) (fun _ _ _ => rfl) ?_
        refine (show X _ _ 37 _ _ _ _ _ _ from ?_)
        refine X.val b3 ?_
        refine y_iconst dX12_readWhole_37 ?_
        refine (show X _ _ 38 _ _ _ _ _ _ from ?_)
        refine y_icmp_ne 45 dX12_readWhole_38 (by decide) ⟨by omega, by omega⟩ ⟨by omega, by omega⟩ (fun h4 => ?_) (fun h4 => ?_)
        rotate_left
        · omega
        refine x_aload_n dX12_readWhole_45 rfl ?_
        refine y_gi dX12_readWhole_46 fX12_136 (by first | assumption) (fun _ _ _ => rfl) ?_
        refine (show X _ _ 49 _ _ _ _ _ _ from ?_)
        refine X.val (b6 hk) ?_
        refine x_istore_n dX12_readWhole_49 (by decide) rfl rfl ?_
        refine x_aload_n dX12_readWhole_50 rfl ?_
        refine (show X _ _ 51 _ _ _ _ _ _ from ?_)
        refine x_callV (As := []) (mc := 0) (ms := 0) (z := mX12_goesOn) (ci := 12) dX12_readWhole_51 lX12_149 oX12_goesOn (by decide) (by first | assumption) rfl rfl (Nat.le_of_ble_eq_true rfl) (Nat.le_of_ble_eq_true rfl) rfl (z_goes hX hZ (fun i' h' => by cases h'; omega)) (fun v M1 hq => ?_)
        obtain ⟨rfl, V2, J2, rfl, hK2, hZ2⟩ := hq
        refine (show X _ _ 54 _ _ _ _ _ _ from ?_)
        refine x_iload_n dX12_readWhole_54 rfl ?_
        refine (show X _ _ 55 _ _ _ _ _ _ from ?_)
        rw [show vN t e lo hi (.inr i) = tkX t e i from if_pos hw, show sN t e lo hi (.inr i) = sG t e (.inr i) from if_pos hw]
        exact x_ireturn dX12_readWhole_55 rfl ⟨rfl, V2, J2, rfl, hK2, hZ2⟩
      · refine x_aload_n dX12_readWhole_28 rfl ?_
        refine y_iconst dX12_readWhole_29 ?_
        refine (show X _ _ 30 _ _ _ _ _ _ from ?_)
        refine x_callV (As := [_]) (mc := 0) (ms := 0) (z := mX12_flaw) (ci := 12) dX12_readWhole_30 lX12_156 oX12_flaw (by decide) (by first | assumption) rfl rfl (Nat.le_of_ble_eq_true rfl) (Nat.le_of_ble_eq_true rfl) rfl (z_flaw hX hZ) (fun v M1 hq => ?_)
        obtain ⟨rfl, V1, J1, rfl, hK1, hZ1⟩ := hq
        refine (show X _ _ 33 _ _ _ _ _ _ from ?_)
        exact dead 4 (decide_eq_false (fun c => of_decide_eq_false h3 c.2)) (if_pos hk) V1 J1 hK1 hZ1
    · have hk : ¬ tkK t e i = 2 := fun c => h (hs1.mpr (by omega))
      refine x_aload_n dX12_readWhole_8 rfl ?_
      refine y_iconst dX12_readWhole_9 ?_
      refine (show X _ _ 10 _ _ _ _ _ _ from ?_)
      refine x_callV (As := [_]) (mc := 0) (ms := 0) (z := mX12_flaw) (ci := 12) dX12_readWhole_10 lX12_156 oX12_flaw (by decide) (by first | assumption) rfl rfl (Nat.le_of_ble_eq_true rfl) (Nat.le_of_ble_eq_true rfl) rfl (z_flaw hX hZ) (fun v M1 hq => ?_)
      obtain ⟨rfl, V1, J1, rfl, hK1, hZ1⟩ := hq
      refine (show X _ _ 13 _ _ _ _ _ _ from ?_)
      refine x_goto 33 dX12_readWhole_13 (by decide) ?_
      refine (show X _ _ 33 _ _ _ _ _ _ from ?_)
      exact dead 1 (decide_eq_false (fun c => hk c.1)) (if_neg hk) V1 J1 hK1 hZ1
theorem z_readPart {lo hi : Int} (hX : MX T R r f t e) (hZ : MZ t V J A r f e σ) (hj : j < 33) (hl : R32 lo) (hh : R32 hi) : X g mX12_readPart 0 [.ref r, .ref (g.2.2.1 j), .int (iI lo), .int (iI hi)] [] (T, iV V, R, J, z) k n (ZQ T R J z t V A r f e (some (.int (iI (vN t e lo hi (sNd t e j σ))))) (sN t e lo hi (sNd t e j σ))) := by
  obtain ⟨hM, hG, hrf, hap, hb, he⟩ := id hX
  obtain ⟨m0, -, -⟩ := id hM
  refine x_aload_n dX12_readPart_0 rfl ?_
  refine x_aload_n dX12_readPart_1 rfl ?_
  refine (show X _ _ 2 _ _ _ _ _ _ from ?_)
  refine x_callV (As := [_]) (mc := 0) (ms := 0) (z := mX12_needs) (ci := 12) dX12_readPart_2 lX12_164 oX12_needs (by decide) (by first | assumption) rfl rfl (Nat.le_of_ble_eq_true rfl) (Nat.le_of_ble_eq_true rfl) rfl (z_needs hX hZ hj) (fun v M1 hq => ?_)
  obtain ⟨rfl, V1, J1, rfl, hK1, hZ1⟩ := hq
  refine (show X _ _ 5 _ _ _ _ _ _ from ?_)
  refine x_aload_n dX12_readPart_5 rfl ?_
  refine x_iload_n dX12_readPart_6 rfl ?_
  refine x_iload_n dX12_readPart_7 rfl ?_
  refine (show X _ _ 8 _ _ _ _ _ _ from ?_)
  refine x_callV (As := [_, _]) (mc := 0) (ms := 0) (z := mX12_readWhole) (ci := 12) dX12_readPart_8 lX12_168 oX12_readWhole (by decide) (by first | assumption) rfl rfl (Nat.le_of_ble_eq_true rfl) (Nat.le_of_ble_eq_true rfl) rfl (z_readWhole hX hZ1 hl hh) (fun v M1 hq => ?_)
  obtain ⟨rfl, V2, J2, rfl, hK2, hZ2⟩ := hq
  exact x_ireturn dX12_readPart_11 rfl ⟨rfl, V2, J2, rfl, KS_t hK1 hK2, hZ2⟩
theorem z_readYear {lo : Int} (hX : MX T R r f t e) (hZ : MZ t V J A r f e σ) (hl : R32 lo) (hh : R32 (A 0 0 - 1)) : X g mX12_readYear 0 [.ref r, .int (iI lo)] [] (T, iV V, R, J, z) k n (ZQ T R J z t V A r f e (some (.int (iI (vN t e lo (A 0 0 - 1) σ)))) (sN t e lo (A 0 0 - 1) σ)) := by
  obtain ⟨hM, hG, hrf, hap, hb, he⟩ := id hX
  obtain ⟨m0, -, -⟩ := id hM
  obtain ⟨g0, -, -⟩ := id hG
  refine x_aload_n dX12_readYear_0 rfl ?_
  refine x_iload_n dX12_readYear_1 rfl ?_
  refine x_aload_n dX12_readYear_2 rfl ?_
  refine x_gr dX12_readYear_3 fX12_172 (by first | assumption) (fun _ _ _ => rfl) (by first | assumption) ?_
  refine y_gi dX12_readYear_6 fX12_176 (by first | assumption) (fun _ _ _ => rfl) ?_
  refine (show X _ _ 9 _ _ _ _ _ _ from ?_)
  refine X.val (hZ.2.2.1.1.1 0 (by decide)) ?_
  refine y_iconst dX12_readYear_9 ?_
  refine y_isub dX12_readYear_10 ?_
  refine (show X _ _ 11 _ _ _ _ _ _ from ?_)
  refine x_callV (As := [_, _]) (mc := 0) (ms := 0) (z := mX12_readWhole) (ci := 12) dX12_readYear_11 lX12_168 oX12_readWhole (by decide) (by first | assumption) rfl rfl (Nat.le_of_ble_eq_true rfl) (Nat.le_of_ble_eq_true rfl) rfl (z_readWhole hX hZ hl hh) (fun v M1 hq => ?_)
  obtain ⟨rfl, V2, J2, rfl, hK2, hZ2⟩ := hq
  exact x_ireturn dX12_readYear_14 rfl ⟨rfl, V2, J2, rfl, hK2, hZ2⟩
end C9m
