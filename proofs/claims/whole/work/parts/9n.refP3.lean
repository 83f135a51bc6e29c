/-! ===== the reference's reader: names, kinds, the start of a line ===== -/
theorem ln_neg {t : Nat → Int} {e i : Nat} : lnOf t e i < 0 ↔ sw t e i 8 = false ∧ sw t e i 18 = false ∧ sw t e i 20 = false ∧ sw t e i 6 = false ∧ sw t e i 3 = false ∧ sw t e i 24 = false ∧ sw t e i 12 = false ∧ sw t e i 5 = false ∧ sw t e i 17 = false := by
  unfold lnOf
  (repeat' split) <;> simp_all
def fdW (a : Nat → Int64) (w : Int64) : Nat → Nat → Int
  | 0, _ => -1
  | d + 1, i => if a i = w then (i : Int) else fdW a w d (i + 1)
theorem fdW_b (a : Nat → Int64) (w : Int64) : ∀ d i, fdW a w d i = -1 ∨ ((i : Int) ≤ fdW a w d i ∧ fdW a w d i < ((i + d : Nat) : Int))
  | 0, i => Or.inl rfl
  | d + 1, i => by
    rw [fdW]
    split
    · exact Or.inr ⟨Int.le_refl _, by omega⟩
    · rcases fdW_b a w d (i + 1) with h | h
      · exact Or.inl h
      · exact Or.inr ⟨by omega, by omega⟩
theorem fdW_F {a : Nat → Int64} {A : Nat → Nat → Int} {x : Int} (hx : 0 ≤ x ∧ x < 1099511627776) : ∀ d i, (∀ q, i ≤ q → q < i + d → a q = lI (A 21 q) ∧ 0 ≤ A 21 q ∧ A 21 q < 1099511627776) → fdW a (lI x) d i = fdF A x d i
  | 0, i, _ => rfl
  | d + 1, i, h => by
    have h0 := h i (Nat.le_refl _) (by omega)
    rw [fdW, fdF, fdW_F hx d (i + 1) (fun q a b => h q (by omega) (by omega)), h0.1]
    by_cases hc : A 21 i = x
    · rw [if_pos hc, if_pos (by rw [hc])]
    · rw [if_neg hc, if_neg (fun c => hc ((lI_eq ⟨by omega, by omega⟩ ⟨by omega, by omega⟩).mp c))]
section Sg2
variable (t : Nat → Int) (e : Nat)
def sC (x : Int) : SG → SG
  | .inl y => .inl y
  | .inr i => if 0 ≤ x then .inr (tkN t e i) else .inl (1, tkS t e i)
def vKd (σ : SG) : Int := if sW t e 19 σ = true then 0 else if sW t e 25 σ = true then 1 else if sW t e 4 σ = true then 2 else if sW t e 28 σ = true then 3 else if sW t e 13 σ = true then 4 else -1
def vLw (σ : SG) : Int := if sW t e 23 σ = true then 0 else if sW t e 7 σ = true then 1 else if sW t e 32 σ = true then 2 else if sW t e 16 σ = true then 3 else if sW t e 29 σ = true then 4 else -1
def sSe : SG → Bool
  | .inl _ => false
  | .inr i => decide (tkK t e i = 3)
def sBg (A : Nat → Nat → Int) (x y : Int) (i : Nat) : SG := if x = y then .inl (5, tkS t e i) else if A 0 0 = 0 then .inl (6, tkS t e i) else .inr (tkN t e i)
end Sg2
section C9n
variable {g : GG} {T : Nat → Nat × Nat} {V A : Nat → Nat → Int} {R : Nat → Nat → Option Nat} {J : Nat → Nat → Int64} {z k n : Nat} {r f e i j : Nat} {t : Nat → Int} {σ : SG}
theorem sF_sG {c : Int} : ∀ i, sF t e c σ = .inr i → tkK t e i ≠ 4 := fun i h => by cases σ <;> cases h
theorem sG_sF {c : Int} : sG t e (sF t e c σ) = sF t e c σ := by cases σ <;> rfl
theorem z_isName (hX : MX T R r f t e) (hZ : MZ t V J A r f e σ) : X g mX12_isName 0 [.ref r] [] (T, iV V, R, J, z) k n (rI (iI (bI (sNm t e σ))) (T, iV V, R, J, z)) := by
  obtain ⟨hM, hG, hrf, hap, hb, he⟩ := id hX
  obtain ⟨a1, a2, a3, a4⟩ := id hZ
  obtain ⟨m0, -, -⟩ := id hM
  cases σ with
  | inl c =>
    refine x_aload_n dX12_isName_0 rfl ?_
    refine y_gi dX12_isName_1 fX12_113 (by first | assumption) (fun _ _ _ => rfl) ?_
    refine (show X _ _ 4 _ _ _ _ _ _ from ?_)
    refine X.val a4.1 ?_
    refine y_iconst dX12_isName_4 ?_
    refine (show X _ _ 5 _ _ _ _ _ _ from ?_)
    refine y_icmp_ne 53 dX12_isName_5 (by decide) ⟨by omega, by omega⟩ ⟨by omega, by omega⟩ (fun h => ?_) (fun h => ?_)
    · refine y_iconst dX12_isName_53 ?_
      refine (show X _ _ 54 _ _ _ _ _ _ from ?_)
      exact x_zreturn dX12_isName_54 rfl rfl ⟨rfl, rfl⟩
    · omega
  | inr i =>
    have hkb := tkK_b t e i
    have hsr := srt_r hkb
    obtain ⟨⟨b1, b2, b3, b4, b5, b6⟩, b7⟩ := a4
    have hs1 := srt_v (c := 2) hkb ⟨by decide, by decide⟩
    have es : sNm t e (.inr i) = decide (tkK t e i = 1 ∧ lnOf t e i < 0) := rfl
    rw [es]
    have no1 : ¬ (tkK t e i = 1 ∧ lnOf t e i < 0) → X g mX12_isName 53 [.ref r] [] (T, iV V, R, J, z) k n (rI (iI (bI (decide (tkK t e i = 1 ∧ lnOf t e i < 0)))) (T, iV V, R, J, z)) := fun h => by
      rw [decide_eq_false h]
      refine y_iconst dX12_isName_53 ?_
      refine (show X _ _ 54 _ _ _ _ _ _ from ?_)
      exact x_zreturn dX12_isName_54 rfl rfl ⟨rfl, rfl⟩
    have no2 : ¬ (tkK t e i = 1 ∧ lnOf t e i < 0) → X g mX12_isName 95 [.ref r] [] (T, iV V, R, J, z) k n (rI (iI (bI (decide (tkK t e i = 1 ∧ lnOf t e i < 0)))) (T, iV V, R, J, z)) := fun h => by
      rw [decide_eq_false h]
      refine y_iconst dX12_isName_95 ?_
      refine (show X _ _ 96 _ _ _ _ _ _ from ?_)
      exact x_zreturn dX12_isName_96 rfl rfl ⟨rfl, rfl⟩
    refine x_aload_n dX12_isName_0 rfl ?_
    refine y_gi dX12_isName_1 fX12_113 (by first | assumption) (fun _ _ _ => rfl) ?_
    refine (show X _ _ 4 _ _ _ _ _ _ from ?_)
    refine X.val b3 ?_
    refine y_iconst dX12_isName_4 ?_
    refine (show X _ _ 5 _ _ _ _ _ _ from ?_)
    refine y_icmp_ne 53 dX12_isName_5 (by decide) ⟨by omega, by omega⟩ ⟨by omega, by omega⟩ (fun h => ?_) (fun h => ?_)
    · exact no1 (fun c => h (hs1.mpr c.1))
    have hk : tkK t e i = 1 := by have := hs1.mp h; omega
    refine x_aload_n dX12_isName_8 rfl ?_
    refine x_ldcs dX12_isName_9 sX12_181 ?_
    refine (show X _ _ 11 _ _ _ _ _ _ from ?_)
    refine x_callV (As := [_]) (mc := 0) (ms := 0) (z := mX12_isWord) (ci := 12) dX12_isName_11 lX12_152 oX12_isWord (by decide) (by first | assumption) rfl rfl (Nat.le_of_ble_eq_true rfl) (Nat.le_of_ble_eq_true rfl) rfl (z_isWord hX hZ (by decide)) (k_I ?_)
    refine (show X _ _ 14 _ _ _ _ _ _ from ?_)
    refine y_ifb_ne 53 dX12_isName_14 (by decide) (fun c1 => ?_) (fun c1 => ?_)
    · exact no1 (fun c => by have := (ln_neg.mp c.2).1; rw [show sw t e i 8 = true from c1] at this; cases this)
    refine x_aload_n dX12_isName_17 rfl ?_
    refine x_ldcs dX12_isName_18 sX12_183 ?_
    refine (show X _ _ 20 _ _ _ _ _ _ from ?_)
    refine x_callV (As := [_]) (mc := 0) (ms := 0) (z := mX12_isWord) (ci := 12) dX12_isName_20 lX12_152 oX12_isWord (by decide) (by first | assumption) rfl rfl (Nat.le_of_ble_eq_true rfl) (Nat.le_of_ble_eq_true rfl) rfl (z_isWord hX hZ (by decide)) (k_I ?_)
    refine (show X _ _ 23 _ _ _ _ _ _ from ?_)
    refine y_ifb_ne 53 dX12_isName_23 (by decide) (fun c2 => ?_) (fun c2 => ?_)
    · exact no1 (fun c => by have := (ln_neg.mp c.2).2.1; rw [show sw t e i 18 = true from c2] at this; cases this)
    refine x_aload_n dX12_isName_26 rfl ?_
    refine x_ldcs dX12_isName_27 sX12_185 ?_
    refine (show X _ _ 29 _ _ _ _ _ _ from ?_)
    refine x_callV (As := [_]) (mc := 0) (ms := 0) (z := mX12_isWord) (ci := 12) dX12_isName_29 lX12_152 oX12_isWord (by decide) (by first | assumption) rfl rfl (Nat.le_of_ble_eq_true rfl) (Nat.le_of_ble_eq_true rfl) rfl (z_isWord hX hZ (by decide)) (k_I ?_)
    refine (show X _ _ 32 _ _ _ _ _ _ from ?_)
    refine y_ifb_ne 53 dX12_isName_32 (by decide) (fun c3 => ?_) (fun c3 => ?_)
    · exact no1 (fun c => by have := (ln_neg.mp c.2).2.2.1; rw [show sw t e i 20 = true from c3] at this; cases this)
    refine x_aload_n dX12_isName_35 rfl ?_
    refine x_ldcs dX12_isName_36 sX12_187 ?_
    refine (show X _ _ 38 _ _ _ _ _ _ from ?_)
    refine x_callV (As := [_]) (mc := 0) (ms := 0) (z := mX12_isWord) (ci := 12) dX12_isName_38 lX12_152 oX12_isWord (by decide) (by first | assumption) rfl rfl (Nat.le_of_ble_eq_true rfl) (Nat.le_of_ble_eq_true rfl) rfl (z_isWord hX hZ (by decide)) (k_I ?_)
    refine (show X _ _ 41 _ _ _ _ _ _ from ?_)
    refine y_ifb_ne 53 dX12_isName_41 (by decide) (fun c4 => ?_) (fun c4 => ?_)
    · exact no1 (fun c => by have := (ln_neg.mp c.2).2.2.2.1; rw [show sw t e i 6 = true from c4] at this; cases this)
    refine x_aload_n dX12_isName_44 rfl ?_
    refine x_ldcs dX12_isName_45 sX12_189 ?_
    refine (show X _ _ 47 _ _ _ _ _ _ from ?_)
    refine x_callV (As := [_]) (mc := 0) (ms := 0) (z := mX12_isWord) (ci := 12) dX12_isName_47 lX12_152 oX12_isWord (by decide) (by first | assumption) rfl rfl (Nat.le_of_ble_eq_true rfl) (Nat.le_of_ble_eq_true rfl) rfl (z_isWord hX hZ (by decide)) (k_I ?_)
    refine (show X _ _ 50 _ _ _ _ _ _ from ?_)
    refine y_ifb_eq 55 dX12_isName_50 (by decide) (fun c5 => ?_) (fun c5 => ?_)
    rotate_left
    · exact no1 (fun c => by have := (ln_neg.mp c.2).2.2.2.2.1; rw [show sw t e i 3 = true from c5] at this; cases this)
    refine x_aload_n dX12_isName_55 rfl ?_
    refine x_ldcs dX12_isName_56 sX12_191 ?_
    refine (show X _ _ 58 _ _ _ _ _ _ from ?_)
    refine x_callV (As := [_]) (mc := 0) (ms := 0) (z := mX12_isWord) (ci := 12) dX12_isName_58 lX12_152 oX12_isWord (by decide) (by first | assumption) rfl rfl (Nat.le_of_ble_eq_true rfl) (Nat.le_of_ble_eq_true rfl) rfl (z_isWord hX hZ (by decide)) (k_I ?_)
    refine (show X _ _ 61 _ _ _ _ _ _ from ?_)
    refine y_ifb_ne 95 dX12_isName_61 (by decide) (fun c6 => ?_) (fun c6 => ?_)
    · exact no2 (fun c => by have := (ln_neg.mp c.2).2.2.2.2.2.1; rw [show sw t e i 24 = true from c6] at this; cases this)
    refine x_aload_n dX12_isName_64 rfl ?_
    refine x_ldcs dX12_isName_65 sX12_193 ?_
    refine (show X _ _ 67 _ _ _ _ _ _ from ?_)
    refine x_callV (As := [_]) (mc := 0) (ms := 0) (z := mX12_isWord) (ci := 12) dX12_isName_67 lX12_152 oX12_isWord (by decide) (by first | assumption) rfl rfl (Nat.le_of_ble_eq_true rfl) (Nat.le_of_ble_eq_true rfl) rfl (z_isWord hX hZ (by decide)) (k_I ?_)
    refine (show X _ _ 70 _ _ _ _ _ _ from ?_)
    refine y_ifb_ne 95 dX12_isName_70 (by decide) (fun c7 => ?_) (fun c7 => ?_)
    · exact no2 (fun c => by have := (ln_neg.mp c.2).2.2.2.2.2.2.1; rw [show sw t e i 12 = true from c7] at this; cases this)
    refine x_aload_n dX12_isName_73 rfl ?_
    refine x_ldcs dX12_isName_74 sX12_195 ?_
    refine (show X _ _ 76 _ _ _ _ _ _ from ?_)
    refine x_callV (As := [_]) (mc := 0) (ms := 0) (z := mX12_isWord) (ci := 12) dX12_isName_76 lX12_152 oX12_isWord (by decide) (by first | assumption) rfl rfl (Nat.le_of_ble_eq_true rfl) (Nat.le_of_ble_eq_true rfl) rfl (z_isWord hX hZ (by decide)) (k_I ?_)
    refine (show X _ _ 79 _ _ _ _ _ _ from ?_)
    refine y_ifb_ne 95 dX12_isName_79 (by decide) (fun c8 => ?_) (fun c8 => ?_)
    · exact no2 (fun c => by have := (ln_neg.mp c.2).2.2.2.2.2.2.2.1; rw [show sw t e i 5 = true from c8] at this; cases this)
    refine x_aload_n dX12_isName_82 rfl ?_
    refine x_ldcs dX12_isName_83 sX12_197 ?_
    refine (show X _ _ 85 _ _ _ _ _ _ from ?_)
    refine x_callV (As := [_]) (mc := 0) (ms := 0) (z := mX12_isWord) (ci := 12) dX12_isName_85 lX12_152 oX12_isWord (by decide) (by first | assumption) rfl rfl (Nat.le_of_ble_eq_true rfl) (Nat.le_of_ble_eq_true rfl) rfl (z_isWord hX hZ (by decide)) (k_I ?_)
    refine (show X _ _ 88 _ _ _ _ _ _ from ?_)
    refine y_ifb_ne 95 dX12_isName_88 (by decide) (fun c9 => ?_) (fun c9 => ?_)
    · exact no2 (fun c => by have := (ln_neg.mp c.2).2.2.2.2.2.2.2.2; rw [show sw t e i 17 = true from c9] at this; cases this)
    rw [decide_eq_true ⟨hk, ln_neg.mpr ⟨c1, c2, c3, c4, c5, c6, c7, c8, c9⟩⟩]
    refine y_iconst dX12_isName_91 ?_
    refine x_goto 96 dX12_isName_92 (by decide) ?_
    refine (show X _ _ 96 _ _ _ _ _ _ from ?_)
    exact x_zreturn dX12_isName_96 rfl rfl ⟨rfl, rfl⟩
theorem c_fnd {w : Int64} {m : Nat} (hG : FMS T R f) (h9 : V f 9 = (m : Int)) (hm : m ≤ 18) : X g mX11_find 0 [.ref f, .long w, jk, jk] [] (T, iV V, R, J, z) k n (rI (iI (fdW (J (f + 21)) w m 0)) (T, iV V, R, J, z)) := by
  obtain ⟨g0, ⟨-, -, -, -, -, -, -, -, -, -, -, -, -, -, -, -, -, -, -, -, g30, -⟩, ⟨-, -, -, -, -, -, -, -, -, -, -, -, -, -, -, -, -, -, -, -, gk21, -⟩⟩ := id hG
  have lp : ∀ (d p : Nat), p + d = m → X g mX11_find 2 [.ref f, .long w, jk, .int (iI (p : Int))] [] (T, iV V, R, J, z) k n (rI (iI (fdW (J (f + 21)) w d p)) (T, iV V, R, J, z)) := by
    intro d
    induction d with
    | zero =>
      intro p hp
      refine x_iload_n dX11_find_2 rfl ?_
      refine x_aload_n dX11_find_3 rfl ?_
      refine y_gi dX11_find_4 fX11_83 (by first | assumption) (fun _ _ _ => rfl) ?_
      refine (show X _ _ 7 _ _ _ _ _ _ from ?_)
      refine X.val h9 ?_
      refine y_icmp_ge 29 dX11_find_7 (by decide) ⟨by omega, by omega⟩ ⟨by omega, by omega⟩ (fun h => ?_) (fun h => ?_)
      · refine y_iconst dX11_find_29 ?_
        refine (show X _ _ 30 _ _ _ _ _ _ from ?_)
        exact x_ireturn dX11_find_30 rfl ⟨rfl, rfl⟩
      · omega
    | succ d ih =>
      intro p hp
      have ec : (p : Int) + 1 = ((p + 1 : Nat) : Int) := by omega
      rw [fdW]
      refine x_iload_n dX11_find_2 rfl ?_
      refine x_aload_n dX11_find_3 rfl ?_
      refine y_gi dX11_find_4 fX11_83 (by first | assumption) (fun _ _ _ => rfl) ?_
      refine (show X _ _ 7 _ _ _ _ _ _ from ?_)
      refine X.val h9 ?_
      refine y_icmp_ge 29 dX11_find_7 (by decide) ⟨by omega, by omega⟩ ⟨by omega, by omega⟩ (fun h => ?_) (fun h => ?_)
      · omega
      refine x_aload_n dX11_find_10 rfl ?_
      refine x_gr dX11_find_11 fX11_73 (by first | assumption) (fun _ _ _ => rfl) (by first | assumption) ?_
      refine x_iload_n dX11_find_14 rfl ?_
      refine y_lald (p) dX11_find_15 (by first | assumption) (by first | rfl | omega) (by omega) (by decide) ?_
      refine x_lload_n dX11_find_16 rfl ?_
      refine x_lcmp dX11_find_17 ?_
      refine (show X _ _ 18 _ _ _ _ _ _ from ?_)
      refine x_if_ne 23 dX11_find_18 (by decide) (fun h2 => ?_) (fun h2 => ?_)
      · rw [if_neg (fun c => h2 (lg0.mpr c))]
        refine y_iinc dX11_find_23 rfl (by decide) rfl rfl ?_
        refine x_goto 2 dX11_find_26 (by decide) ?_
        refine (show X _ _ 2 _ _ _ _ _ _ from ?_)
        rw [ec]
        exact ih (p + 1) (by omega)
      · rw [if_pos (lg0.mp h2)]
        refine (show X _ _ 21 _ _ _ _ _ _ from ?_)
        refine x_iload_n dX11_find_21 rfl ?_
        refine (show X _ _ 22 _ _ _ _ _ _ from ?_)
        exact x_ireturn dX11_find_22 rfl ⟨rfl, rfl⟩
  refine y_iconst dX11_find_0 ?_
  refine x_istore_n dX11_find_1 (by decide) rfl rfl ?_
  refine (show X _ _ 2 _ _ _ _ _ _ from ?_)
  exact lp m 0 (by omega)
theorem kn_dead {c : Int} {x : Int × Nat} {V0 : Nat → Nat → Int} {J0 : Nat → Nat → Int64} (hc : 0 ≤ c ∧ c ≤ 1) (hX : MX T R r f t e) (hK : KS V0 V J0 J r) (hZ : MZ t V J A r f e (.inl x)) : X g mX12_known 12 [.ref r, .int (iI c), jk] [] (T, iV V, R, J, z) k n (ZQ T R J0 z t V0 A r f e (some (.int (iI 0))) (.inl x)) := by
  obtain ⟨hM, hG, hrf, hap, hb, he⟩ := id hX
  obtain ⟨a1, a2, a3, a4⟩ := id hZ
  obtain ⟨f1, f2, f3, f4⟩ := id a3
  obtain ⟨m0, -, -⟩ := id hM
  obtain ⟨g0, ⟨-, -, -, -, -, -, -, -, -, -, -, -, -, -, -, -, -, -, -, -, -, g31, g32⟩, ⟨-, -, -, -, -, -, -, -, -, -, -, -, -, -, -, -, -, -, -, -, -, gk22, gk23⟩⟩ := id hG
  have h9 : V f 9 = (((A 0 9).toNat : Nat) : Int) := by rw [f2, Int.toNat_of_nonneg f3.1]
  have hfb := fdW_b (J (f + 21)) (J r 14) (A 0 9).toNat 0
  have en : ∀ (q : Int32) (V1 : Nat → Nat → Int) (J1 : Nat → Nat → Int64), KS V0 V1 J0 J1 r → MZ t V1 J1 A r f e (.inl x) → X g mX12_known 47 [.ref r, .int (iI c), .int q] [] (T, iV V1, R, J1, z) k n (ZQ T R J0 z t V0 A r f e (some (.int (iI 0))) (.inl x)) := fun q V1 J1 hK1 hZ1 => by
    refine x_aload_n dX12_known_47 rfl ?_
    refine y_gi dX12_known_48 fX12_113 (by first | assumption) (fun _ _ _ => rfl) ?_
    refine (show X _ _ 51 _ _ _ _ _ _ from ?_)
    refine X.val (b := 5) hZ1.2.2.2.1 ?_
    refine y_iconst dX12_known_51 ?_
    refine (show X _ _ 52 _ _ _ _ _ _ from ?_)
    refine y_icmp_ne 59 dX12_known_52 (by decide) ⟨by omega, by omega⟩ ⟨by omega, by omega⟩ (fun h => ?_) (fun h => ?_)
    · omega
    refine y_iconst dX12_known_55 ?_
    refine x_goto 68 dX12_known_56 (by decide) ?_
    refine (show X _ _ 68 _ _ _ _ _ _ from ?_)
    exact x_ireturn dX12_known_68 rfl ⟨rfl, V1, J1, rfl, hK1, hZ1⟩
  refine x_aload_n dX12_known_12 rfl ?_
  refine x_gr dX12_known_13 fX12_172 (by first | assumption) (fun _ _ _ => rfl) (by first | assumption) ?_
  refine x_aload_n dX12_known_16 rfl ?_
  refine x_gl dX12_known_17 fX12_129 (by first | assumption) (fun _ _ _ => rfl) ?_
  refine (show X _ _ 20 _ _ _ _ _ _ from ?_)
  refine x_callV (As := [_]) (mc := 0) (ms := 0) (z := mX11_find) (ci := 11) dX12_known_20 lX12_203 oX11_find (by decide) (by first | assumption) rfl rfl (Nat.le_of_ble_eq_true rfl) (Nat.le_of_ble_eq_true rfl) rfl (c_fnd (w := J r 14) hG h9 (by omega)) (k_I ?_)
  refine (show X _ _ 23 _ _ _ _ _ _ from ?_)
  refine x_istore_n dX12_known_23 (by decide) rfl rfl ?_
  refine x_iload_n dX12_known_24 rfl ?_
  refine y_iconst dX12_known_25 ?_
  refine (show X _ _ 26 _ _ _ _ _ _ from ?_)
  refine y_icmp_eq 42 dX12_known_26 (by decide) ⟨by omega, by omega⟩ ⟨by omega, by omega⟩ (fun h1 => ?_) (fun h1 => ?_)
  · refine x_aload_n dX12_known_42 rfl ?_
    refine y_iconst dX12_known_43 ?_
    refine (show X _ _ 44 _ _ _ _ _ _ from ?_)
    refine x_callV (As := [_]) (mc := 0) (ms := 0) (z := mX12_flaw) (ci := 12) dX12_known_44 lX12_156 oX12_flaw (by decide) (by first | assumption) rfl rfl (Nat.le_of_ble_eq_true rfl) (Nat.le_of_ble_eq_true rfl) rfl (z_flaw hX hZ) (fun v M1 hq => ?_)
    obtain ⟨rfl, V1, J1, rfl, hK1, hZ1⟩ := hq
    exact en _ V1 J1 (KS_t hK hK1) hZ1
  · have hq := f4 (fdW (J (f + 21)) (J r 14) (A 0 9).toNat 0).toNat (by omega)
    refine x_aload_n dX12_known_29 rfl ?_
    refine x_gr dX12_known_30 fX12_172 (by first | assumption) (fun _ _ _ => rfl) (by first | assumption) ?_
    refine x_gr dX12_known_33 fX12_214 (by first | assumption) (fun _ _ _ => rfl) (by first | assumption) ?_
    refine x_iload_n dX12_known_36 rfl ?_
    refine (show X _ _ 37 _ _ _ _ _ _ from ?_)
    refine y_zald (fdW (J (f + 21)) (J r 14) (A 0 9).toNat 0).toNat dX12_known_37 (by assumption) (by omega) (by omega) (by decide) ?_
    refine X.val hq.2.1 ?_
    refine (show X _ _ 38 _ _ _ _ _ _ from ?_)
    refine x_iload_n dX12_known_38 rfl ?_
    refine (show X _ _ 39 _ _ _ _ _ _ from ?_)
    refine y_icmp_eq 47 dX12_known_39 (by decide) ⟨by omega, by omega⟩ ⟨by omega, by omega⟩ (fun h2 => ?_) (fun h2 => ?_)
    · exact en _ V J hK hZ
    · refine x_aload_n dX12_known_42 rfl ?_
      refine y_iconst dX12_known_43 ?_
      refine (show X _ _ 44 _ _ _ _ _ _ from ?_)
      refine x_callV (As := [_]) (mc := 0) (ms := 0) (z := mX12_flaw) (ci := 12) dX12_known_44 lX12_156 oX12_flaw (by decide) (by first | assumption) rfl rfl (Nat.le_of_ble_eq_true rfl) (Nat.le_of_ble_eq_true rfl) rfl (z_flaw hX hZ) (fun v M1 hq => ?_)
      obtain ⟨rfl, V1, J1, rfl, hK1, hZ1⟩ := hq
      exact en _ V1 J1 (KS_t hK hK1) hZ1
theorem z_known {c : Int} (hc : 0 ≤ c ∧ c ≤ 1) (hX : MX T R r f t e) (hZ : MZ t V J A r f e σ) : X g mX12_known 0 [.ref r, .int (iI c), jk] [] (T, iV V, R, J, z) k n (ZQ T R J z t V A r f e (some (.int (iI (vK t e A c σ)))) (sK t e A c σ)) := by
  obtain ⟨hM, hG, hrf, hap, hb, he⟩ := id hX
  obtain ⟨a1, a2, a3, a4⟩ := id hZ
  obtain ⟨f1, f2, f3, f4⟩ := id a3
  obtain ⟨m0, -, -⟩ := id hM
  obtain ⟨g0, ⟨-, -, -, -, -, -, -, -, -, -, -, -, -, -, -, -, -, -, -, -, -, g31, g32⟩, ⟨-, -, -, -, -, -, -, -, -, -, -, -, -, -, -, -, -, -, -, -, -, gk22, gk23⟩⟩ := id hG
  have h9 : V f 9 = (((A 0 9).toNat : Nat) : Int) := by rw [f2, Int.toNat_of_nonneg f3.1]
  refine x_aload_n dX12_known_0 rfl ?_
  refine (show X _ _ 1 _ _ _ _ _ _ from ?_)
  refine x_callV (As := []) (mc := 0) (ms := 0) (z := mX12_isName) (ci := 12) dX12_known_1 lX12_199 oX12_isName (by decide) (by first | assumption) rfl rfl (Nat.le_of_ble_eq_true rfl) (Nat.le_of_ble_eq_true rfl) rfl (z_isName hX hZ) (k_I ?_)
  refine (show X _ _ 4 _ _ _ _ _ _ from ?_)
  refine y_ifb_ne 12 dX12_known_4 (by decide) (fun h1 => ?_) (fun h1 => ?_)
  rotate_left
  · refine x_aload_n dX12_known_7 rfl ?_
    refine y_iconst dX12_known_8 ?_
    refine (show X _ _ 9 _ _ _ _ _ _ from ?_)
    refine x_callV (As := [_]) (mc := 0) (ms := 0) (z := mX12_flaw) (ci := 12) dX12_known_9 lX12_156 oX12_flaw (by decide) (by first | assumption) rfl rfl (Nat.le_of_ble_eq_true rfl) (Nat.le_of_ble_eq_true rfl) rfl (z_flaw hX hZ) (fun v M1 hq => ?_)
    obtain ⟨rfl, V1, J1, rfl, hK1, hZ1⟩ := hq
    refine (show X _ _ 12 _ _ _ _ _ _ from ?_)
    cases σ with
    | inl x => exact kn_dead hc hX hK1 hZ1
    | inr i =>
      have h1 := of_decide_eq_false h1
      have hn : nmB t e A c i = false := decide_eq_false (fun q => h1 q.1)
      rw [show vK t e A c (.inr i) = 0 from if_neg (by rw [hn]; decide), show sK t e A c (.inr i) = .inl (1, tkS t e i) from (if_neg (by rw [hn]; decide)).trans (by rw [show nxC t e i 2 = 1 from if_neg h1])]
      exact kn_dead hc hX hK1 hZ1
  · cases σ with
    | inl x => cases h1
    | inr i =>
      have h1 := of_decide_eq_true h1
      obtain ⟨⟨b1, b2, b3, b4, b5, b6⟩, b7⟩ := id a4
      have hw := b5 h1.1
      have ex := fdW_F (a := J (f + 21)) (tkX_w h1.1) (A 0 9).toNat 0 (fun q _ hq => (f4 q (by omega)).1)
      rw [← hw] at ex
      have hfb := fdF_b A (tkX t e i) (A 0 9).toNat 0
      have efn : fdF A (tkX t e i) (A 0 9).toNat 0 = fnd A (tkX t e i) := rfl
      rw [efn] at ex hfb
      have e2 : nxC t e i 2 = 2 := if_pos h1
      have en : nmB t e A c i = false → ∀ (q : Int32), X g mX12_known 42 [.ref r, .int (iI c), .int q] [] (T, iV V, R, J, z) k n (ZQ T R J z t V A r f e (some (.int (iI (vK t e A c (.inr i))))) (sK t e A c (.inr i))) := fun hn q => by
        rw [show vK t e A c (.inr i) = 0 from if_neg (by rw [hn]; decide), show sK t e A c (.inr i) = .inl (2, tkS t e i) from (if_neg (by rw [hn]; decide)).trans (by rw [e2])]
        refine x_aload_n dX12_known_42 rfl ?_
        refine y_iconst dX12_known_43 ?_
        refine (show X _ _ 44 _ _ _ _ _ _ from ?_)
        refine x_callV (As := [_]) (mc := 0) (ms := 0) (z := mX12_flaw) (ci := 12) dX12_known_44 lX12_156 oX12_flaw (by decide) (by first | assumption) rfl rfl (Nat.le_of_ble_eq_true rfl) (Nat.le_of_ble_eq_true rfl) rfl (z_flaw hX hZ) (fun v M1 hq => ?_)
        obtain ⟨rfl, V1, J1, rfl, hK1, hZ1⟩ := hq
        refine (show X _ _ 47 _ _ _ _ _ _ from ?_)
        refine x_aload_n dX12_known_47 rfl ?_
        refine y_gi dX12_known_48 fX12_113 (by first | assumption) (fun _ _ _ => rfl) ?_
        refine (show X _ _ 51 _ _ _ _ _ _ from ?_)
        refine X.val (b := 5) hZ1.2.2.2.1 ?_
        refine y_iconst dX12_known_51 ?_
        refine (show X _ _ 52 _ _ _ _ _ _ from ?_)
        refine y_icmp_ne 59 dX12_known_52 (by decide) ⟨by omega, by omega⟩ ⟨by omega, by omega⟩ (fun h => ?_) (fun h => ?_)
        · omega
        refine y_iconst dX12_known_55 ?_
        refine x_goto 68 dX12_known_56 (by decide) ?_
        refine (show X _ _ 68 _ _ _ _ _ _ from ?_)
        exact x_ireturn dX12_known_68 rfl ⟨rfl, V1, J1, rfl, hK1, hZ1⟩
      refine x_aload_n dX12_known_12 rfl ?_
      refine x_gr dX12_known_13 fX12_172 (by first | assumption) (fun _ _ _ => rfl) (by first | assumption) ?_
      refine x_aload_n dX12_known_16 rfl ?_
      refine x_gl dX12_known_17 fX12_129 (by first | assumption) (fun _ _ _ => rfl) ?_
      refine (show X _ _ 20 _ _ _ _ _ _ from ?_)
      refine x_callV (As := [_]) (mc := 0) (ms := 0) (z := mX11_find) (ci := 11) dX12_known_20 lX12_203 oX11_find (by decide) (by first | assumption) rfl rfl (Nat.le_of_ble_eq_true rfl) (Nat.le_of_ble_eq_true rfl) rfl (c_fnd hG h9 (by omega)) (k_I ?_)
      refine (show X _ _ 23 _ _ _ _ _ _ from ?_)
      rw [ex]
      refine x_istore_n dX12_known_23 (by decide) rfl rfl ?_
      refine x_iload_n dX12_known_24 rfl ?_
      refine y_iconst dX12_known_25 ?_
      refine (show X _ _ 26 _ _ _ _ _ _ from ?_)
      refine y_icmp_eq 42 dX12_known_26 (by decide) ⟨by omega, by omega⟩ ⟨by omega, by omega⟩ (fun h2 => ?_) (fun h2 => ?_)
      · exact en (decide_eq_false (fun q => by have := q.2.1; omega)) _
      · have hq := f4 (fnd A (tkX t e i)).toNat (by omega)
        refine x_aload_n dX12_known_29 rfl ?_
        refine x_gr dX12_known_30 fX12_172 (by first | assumption) (fun _ _ _ => rfl) (by first | assumption) ?_
        refine x_gr dX12_known_33 fX12_214 (by first | assumption) (fun _ _ _ => rfl) (by first | assumption) ?_
        refine x_iload_n dX12_known_36 rfl ?_
        refine (show X _ _ 37 _ _ _ _ _ _ from ?_)
        refine y_zald (fnd A (tkX t e i)).toNat dX12_known_37 (by assumption) (by omega) (by omega) (by decide) ?_
        refine X.val hq.2.1 ?_
        refine (show X _ _ 38 _ _ _ _ _ _ from ?_)
        refine x_iload_n dX12_known_38 rfl ?_
        refine (show X _ _ 39 _ _ _ _ _ _ from ?_)
        refine y_icmp_eq 47 dX12_known_39 (by decide) ⟨by omega, by omega⟩ ⟨by omega, by omega⟩ (fun h3 => ?_) (fun h3 => ?_)
        · have hn : nmB t e A c i = true := decide_eq_true ⟨h1, by omega, h3⟩
          have hs2 : V r 9 = 2 := by rw [b3, h1.1]; rfl
          rw [show vK t e A c (.inr i) = nmX t e A i from if_pos hn, show sK t e A c (.inr i) = .inr i from if_pos hn]
          refine x_aload_n dX12_known_47 rfl ?_
          refine y_gi dX12_known_48 fX12_113 (by first | assumption) (fun _ _ _ => rfl) ?_
          refine (show X _ _ 51 _ _ _ _ _ _ from ?_)
          refine X.val hs2 ?_
          refine y_iconst dX12_known_51 ?_
          refine (show X _ _ 52 _ _ _ _ _ _ from ?_)
          refine y_icmp_ne 59 dX12_known_52 (by decide) ⟨by omega, by omega⟩ ⟨by omega, by omega⟩ (fun h4 => ?_) (fun h4 => ?_)
          · refine x_aload_n dX12_known_59 rfl ?_
            refine x_gr dX12_known_60 fX12_172 (by first | assumption) (fun _ _ _ => rfl) (by first | assumption) ?_
            refine x_gr dX12_known_63 fX12_217 (by first | assumption) (fun _ _ _ => rfl) (by first | assumption) ?_
            refine x_iload_n dX12_known_66 rfl ?_
            refine y_iald ((fnd A (tkX t e i)).toNat) dX12_known_67 (by first | assumption) (by first | rfl | omega) (by omega) (by decide) ?_
            refine (show X _ _ 68 _ _ _ _ _ _ from ?_)
            refine X.val hq.2.2.1 ?_
            exact x_ireturn dX12_known_68 rfl ⟨rfl, V, J, rfl, KS_r, hZ⟩
          · omega
        · exact en (decide_eq_false (fun q => h3 q.2.2)) _
theorem sK_k {c : Int} : ∀ i, sK t e A c σ = .inr i → tkK t e i ≠ 4 := fun i h => by
  cases σ with
  | inl x => cases h
  | inr i' =>
    unfold sK at h
    simp only at h
    split at h
    · rename_i hn
      cases h
      have := (of_decide_eq_true hn).1.1
      omega
    · cases h
theorem z_readPerson (hX : MX T R r f t e) (hZ : MZ t V J A r f e σ) : X g mX12_readPerson 0 [.ref r, jk] [] (T, iV V, R, J, z) k n (ZQ T R J z t V A r f e (some (.int (iI (vK t e A 0 σ)))) (sG t e (sK t e A 0 σ))) := by
  obtain ⟨hM, hG, hrf, hap, hb, he⟩ := id hX
  obtain ⟨m0, -, -⟩ := id hM
  refine x_aload_n dX12_readPerson_0 rfl ?_
  refine y_iconst dX12_readPerson_1 ?_
  refine (show X _ _ 2 _ _ _ _ _ _ from ?_)
  refine x_callV (As := [_]) (mc := 0) (ms := 0) (z := mX12_known) (ci := 12) dX12_readPerson_2 lX12_220 oX12_known (by decide) (by first | assumption) rfl rfl (Nat.le_of_ble_eq_true rfl) (Nat.le_of_ble_eq_true rfl) rfl (z_known ⟨by decide, by decide⟩ hX hZ) (fun v M1 hq => ?_)
  obtain ⟨rfl, V1, J1, rfl, hK1, hZ1⟩ := hq
  refine (show X _ _ 5 _ _ _ _ _ _ from ?_)
  refine x_istore_n dX12_readPerson_5 (by decide) rfl rfl ?_
  refine x_aload_n dX12_readPerson_6 rfl ?_
  refine (show X _ _ 7 _ _ _ _ _ _ from ?_)
  refine x_callV (As := []) (mc := 0) (ms := 0) (z := mX12_goesOn) (ci := 12) dX12_readPerson_7 lX12_149 oX12_goesOn (by decide) (by first | assumption) rfl rfl (Nat.le_of_ble_eq_true rfl) (Nat.le_of_ble_eq_true rfl) rfl (z_goes hX hZ1 sK_k) (fun v M1 hq => ?_)
  obtain ⟨rfl, V2, J2, rfl, hK2, hZ2⟩ := hq
  refine (show X _ _ 10 _ _ _ _ _ _ from ?_)
  refine x_iload_n dX12_readPerson_10 rfl ?_
  refine (show X _ _ 11 _ _ _ _ _ _ from ?_)
  exact x_ireturn dX12_readPerson_11 rfl ⟨rfl, V2, J2, rfl, KS_t hK1 hK2, hZ2⟩
end C9n
