/-! ===== the reference's run: votes, lots, the round ===== -/
theorem cF_1 {set i : Nat} (hb : set.testBit i = true) : ∀ m p, p ≤ i → i < p + m → 1 ≤ cF set m p
  | 0, p, h1, h2 => absurd h2 (by omega)
  | m + 1, p, h1, h2 => by
    rw [cF]
    by_cases e : p = i
    · subst e
      rw [hb, if_pos rfl]
      have := cF_0 set m (p + 1)
      omega
    · have := cF_1 hb m (p + 1) (by omega) (by omega)
      split <;> omega
/-- somebody can: then somebody comes first -/
theorem fm_some {A W : Nat → Nat → Int} {set : Nat} {sg : Int} (h : ∃ p, p < fP A ∧ set.testBit p = true) : ∃ q : Nat, fmL A W set sg (fP A) = (q : Int) ∧ q < fP A ∧ set.testBit q = true ∧ ∀ p, p < fP A → set.testBit p = true → cnt A W q ≤ cnt A W p := by
  rcases fmL_o (A := A) (W := W) (set := set) (sg := sg) (fP A) with ⟨e, h1⟩ | ⟨q, e, h1, h2, h3⟩
  · obtain ⟨p, hp, ht⟩ := h
    rw [h1 p hp] at ht; cases ht
  · exact ⟨q, e, h1, h2, fun p hp ht => by have := h3 p hp ht; omega⟩
def payE (E : Nat → Nat → Int) (s b : Nat) (pr : Int) : Nat → Nat → Int := u2 (u2 E 18 s (E 18 s - pr)) 18 b (u2 E 18 s (E 18 s - pr) 18 b + pr)
/-- who change places -/
def TrM (E W : Nat → Nat → Int) : Prop := (-2 ≤ E 0 42 ∧ E 0 42 ≤ 9) ∧ (-2 ≤ E 0 43 ∧ E 0 43 ≤ 9) ∧ ((W 0 3 = -1 ∧ W 0 4 = -1 ∧ E 0 42 = -2) ∨ (0 ≤ W 0 3 ∧ 0 ≤ W 0 4 ∧ W 0 3 ≠ W 0 4 ∧ E 0 42 = W 0 3 ∧ E 0 43 = W 0 4))
section C87
variable {g : GG} {T : Nat → Nat × Nat} {V E A B W : Nat → Nat → Int} {R : Nat → Nat → Option Nat} {J : Nat → Nat → Int64} {z k n : Nat} {r f : Nat}
theorem c_votedM {y can th : Nat} (hM : MSh T R r) (hf : R r 3 = some f) (hG : FMS T R f) (hF : FMC V f A) (hA : VA A) (hap : apF f r) (hW : ∀ p, p < fP A → E 15 p = W 1 p) (hWb : ∀ p, p < fP A → 0 ≤ W 1 p ∧ W 1 p ≤ 24) (hy : y < 24) (hc : E 7 y = (can : Int)) (hcl : can < 1024) (ht : E 6 y = (th : Int)) (hth : th = rTh A B W y) : X g mX12_voted 0 [.ref r, .int (iI (y : Int)), jk, jk, jk, jk] [] (T, iV (pB V r 24 E), R, J, z) k n (rI (iI (voted A B W y can)) (T, iV (pB V r 24 E), R, J, z)) := by
  have hcb : ∀ p, p < fP A → cnt A W p < 1000000000 := by
    intro p hp
    have := hWb p hp
    unfold cnt
    split <;> omega
  have hbr := fun sd hsd => c_branchOf (g := g) (J := J) (z := z) (k := 0) (n := 0) (E := E) (set := can) (sd := sd) hM hf hG hF hA hap hcl hsd
  have hfm := fun sd => c_foremost (g := g) (J := J) (z := z) (k := 0) (n := 0) (E := E) (W := W) (set := can &&& brS A sd) (y := y) (yb := false) hM hf hG hF hA hap hW hWb (and_lt hcl) (by omega)
  have el : fmL A W (can &&& brS A 0) (if false = true then -1 else 1) (fP A) = vLeft A W can := by rw [if_neg (by decide)]; exact fm_by hA hcb (Or.inl rfl)
  have er : fmL A W (can &&& brS A 1) (if false = true then -1 else 1) (fP A) = vRight A W can := by rw [if_neg (by decide)]; exact fm_by hA hcb (Or.inl rfl)
  have hfl := hfm 0
  have hfr := hfm 1
  rw [el] at hfl
  rw [er] at hfr
  have bl : vLeft A W can = -2 ∨ (0 ≤ vLeft A W can ∧ vLeft A W can < A 0 3) := by
    rw [← el, if_neg (by decide)]
    have eP := fP10 hA
    rcases fmL_o (A := A) (W := W) (set := can &&& brS A 0) (sg := 1) (fP A) with ⟨e, -⟩ | ⟨q, e, h1, -⟩
    · exact Or.inl e
    · exact Or.inr ⟨by omega, by omega⟩
  have br : vRight A W can = -2 ∨ (0 ≤ vRight A W can ∧ vRight A W can < A 0 3) := by
    rw [← er, if_neg (by decide)]
    have eP := fP10 hA
    rcases fmL_o (A := A) (W := W) (set := can &&& brS A 1) (sg := 1) (fP A) with ⟨e, -⟩ | ⟨q, e, h1, -⟩
    · exact Or.inl e
    · exact Or.inr ⟨by omega, by omega⟩
  have htl : th < 1024 := by rw [hth]; exact andn_lt (thS_lt hA y)
  have hbt := fun p hp => c_bit g th p (T, iV (pB V r 24 E), R, J, z) 0 0 (by omega) hp
  have hmw := mrL_w (A := A) (th := th) hA
  have hmb := mrL_b (A := A) (th := th) hA
  obtain ⟨m0, ⟨-, -, -, -, -, m21, m22, -, -, -, -, -, -, -, -, -, -, -, -, -, -, -, -⟩, ⟨-, -, -, -, -, mk6, mk7, -, -, -, -, -, -, -, -, -, -, -, -, -, -, -, -⟩⟩ := id hM
  obtain ⟨g0, ⟨-, g11, -, -, g14, -, -, -, -, -, -, -, -, -, -, -, -, -, -, -, -, -, -⟩, ⟨-, gk2, -, -, gk5, -, -, -, -, -, -, -, -, -, -, -, -, -, -, -, -, -, -⟩⟩ := id hG
  have eP := fP10 hA
  have e3 := hF.1 3 (by decide)
  have hA3 := hA.2.2.2.1
  unfold apF at hap
  unfold voted
  rw [← hth]
  generalize vLeft A W can = lf at *
  generalize vRight A W can = rt at *
  refine x_aload_n dX12_voted_0 rfl ?_
  refine x_aload_n dX12_voted_1 rfl ?_
  refine x_aload_n dX12_voted_2 rfl ?_
  refine x_gr dX12_voted_3 fX12_33 (by first | assumption) (fun _ _ _ => rfl) (by first | assumption) ?_
  refine x_iload_n dX12_voted_6 rfl ?_
  refine b_iald (r := r) (m := 24) (j := 7) (y) dX12_voted_7 (by first | assumption) (by first | rfl | omega) (by omega) (by decide) (by decide) ?_
  refine (show X _ _ 8 _ _ _ _ _ _ from ?_)
  refine X.val hc ?_
  refine y_iconst dX12_voted_8 ?_
  refine (show X _ _ 9 _ _ _ _ _ _ from ?_)
  refine x_callV (As := [_, _]) (mc := 0) (ms := 0) (z := mX12_branchOf) (ci := 12) dX12_voted_9 lX12_504 oX12_branchOf (by decide) (by first | assumption) rfl rfl (Nat.le_of_ble_eq_true rfl) (Nat.le_of_ble_eq_true rfl) rfl (hbr 0 ⟨by omega, by omega⟩) (k_I ?_)
  refine (show X _ _ 12 _ _ _ _ _ _ from ?_)
  refine x_iload_n dX12_voted_12 rfl ?_
  refine y_iconst dX12_voted_13 ?_
  refine (show X _ _ 14 _ _ _ _ _ _ from ?_)
  refine x_callV (As := [_, _, _]) (mc := 0) (ms := 0) (z := mX12_foremost) (ci := 12) dX12_voted_14 lX12_491 oX12_foremost (by decide) (by first | assumption) rfl rfl (Nat.le_of_ble_eq_true rfl) (Nat.le_of_ble_eq_true rfl) rfl (hfl) (k_I ?_)
  refine (show X _ _ 17 _ _ _ _ _ _ from ?_)
  refine x_istore_n dX12_voted_17 (by decide) rfl rfl ?_
  refine x_aload_n dX12_voted_18 rfl ?_
  refine x_aload_n dX12_voted_19 rfl ?_
  refine x_aload_n dX12_voted_20 rfl ?_
  refine x_gr dX12_voted_21 fX12_33 (by first | assumption) (fun _ _ _ => rfl) (by first | assumption) ?_
  refine x_iload_n dX12_voted_24 rfl ?_
  refine b_iald (r := r) (m := 24) (j := 7) (y) dX12_voted_25 (by first | assumption) (by first | rfl | omega) (by omega) (by decide) (by decide) ?_
  refine (show X _ _ 26 _ _ _ _ _ _ from ?_)
  refine X.val hc ?_
  refine y_iconst dX12_voted_26 ?_
  refine (show X _ _ 27 _ _ _ _ _ _ from ?_)
  refine x_callV (As := [_, _]) (mc := 0) (ms := 0) (z := mX12_branchOf) (ci := 12) dX12_voted_27 lX12_504 oX12_branchOf (by decide) (by first | assumption) rfl rfl (Nat.le_of_ble_eq_true rfl) (Nat.le_of_ble_eq_true rfl) rfl (hbr 1 ⟨by omega, by omega⟩) (k_I ?_)
  refine (show X _ _ 30 _ _ _ _ _ _ from ?_)
  refine x_iload_n dX12_voted_30 rfl ?_
  refine y_iconst dX12_voted_31 ?_
  refine (show X _ _ 32 _ _ _ _ _ _ from ?_)
  refine x_callV (As := [_, _, _]) (mc := 0) (ms := 0) (z := mX12_foremost) (ci := 12) dX12_voted_32 lX12_491 oX12_foremost (by decide) (by first | assumption) rfl rfl (Nat.le_of_ble_eq_true rfl) (Nat.le_of_ble_eq_true rfl) rfl (hfr) (k_I ?_)
  refine (show X _ _ 35 _ _ _ _ _ _ from ?_)
  refine x_istore_n dX12_voted_35 (by decide) rfl rfl ?_
  refine x_iload_n dX12_voted_36 rfl ?_
  refine y_bipush dX12_voted_37 rfl ?_
  refine (show X _ _ 39 _ _ _ _ _ _ from ?_)
  refine y_icmp_ne 44 dX12_voted_39 (by decide) ⟨by omega, by omega⟩ ⟨by omega, by omega⟩ (fun h1 => ?_) (fun h1 => ?_)
  rotate_left
  · rw [if_pos (Or.inl (by omega)), if_pos (by omega)]
    refine x_iload_n dX12_voted_42 rfl ?_
    refine (show X _ _ 43 _ _ _ _ _ _ from ?_)
    exact x_ireturn dX12_voted_43 rfl ⟨rfl, rfl⟩
  refine x_iload_n dX12_voted_44 rfl ?_
  refine y_bipush dX12_voted_45 rfl ?_
  refine (show X _ _ 47 _ _ _ _ _ _ from ?_)
  refine y_icmp_ne 52 dX12_voted_47 (by decide) ⟨by omega, by omega⟩ ⟨by omega, by omega⟩ (fun h2 => ?_) (fun h2 => ?_)
  rotate_left
  · rw [if_pos (Or.inr (by omega)), if_neg (by omega)]
    refine x_iload_n dX12_voted_50 rfl ?_
    refine (show X _ _ 51 _ _ _ _ _ _ from ?_)
    exact x_ireturn dX12_voted_51 rfl ⟨rfl, rfl⟩
  rw [if_neg (by omega)]
  refine y_iconst dX12_voted_52 ?_
  refine x_istore dX12_voted_53 (by decide) rfl rfl ?_
  refine y_iconst dX12_voted_55 ?_
  refine x_istore dX12_voted_56 (by decide) rfl rfl ?_
  refine (show X _ _ 58 _ _ _ _ _ _ from ?_)
  refine loopN (P := fun p => X g mX12_voted 58 [.ref r, .int (iI (y : Int)), .int (iI lf), .int (iI rt), .int (iI (mrL A th p)), .int (iI (p : Int))] [] (T, iV (pB V r 24 E), R, J, z) k n (rI (iI (if wOf A (th &&& brS A 1) = wOf A (th &&& brS A 0) then (if lf < rt then lf else rt) else if wOf A (th &&& brS A 0) < wOf A (th &&& brS A 1) then lf else rt)) (T, iV (pB V r 24 E), R, J, z))) (fP A) ?_ (fun p hp ih => ?_)
  · have hm2 := hmb (fP A) (Nat.le_refl _)
    rw [hmw] at hm2
    refine x_iload dX12_voted_58 rfl ?_
    refine x_aload_n dX12_voted_60 rfl ?_
    refine x_gr dX12_voted_61 fX12_409 (by first | assumption) (fun _ _ _ => rfl) (by first | assumption) ?_
    refine b_gio (r := r) (m := 24) dX12_voted_64 fX12_230 (by first | assumption) (fun _ _ _ => rfl) (by omega) ?_
    refine (show X _ _ 67 _ _ _ _ _ _ from ?_)
    refine X.val e3 ?_
    refine y_icmp_ge 133 dX12_voted_67 (by decide) ⟨by omega, by omega⟩ ⟨by omega, by omega⟩ (fun h3 => ?_) (fun h3 => ?_)
    rotate_left
    · omega
    rw [hmw]
    refine x_iload dX12_voted_133 rfl ?_
    refine (show X _ _ 135 _ _ _ _ _ _ from ?_)
    refine y_if_ne 149 dX12_voted_135 (by decide) ⟨by omega, by omega⟩ (fun h4 => ?_) (fun h4 => ?_)
    · rw [if_neg (by omega)]
      refine x_iload dX12_voted_149 rfl ?_
      refine (show X _ _ 151 _ _ _ _ _ _ from ?_)
      refine y_if_le 158 dX12_voted_151 (by decide) ⟨by omega, by omega⟩ (fun h5 => ?_) (fun h5 => ?_)
      · rw [if_neg (by omega)]
        refine x_iload_n dX12_voted_158 rfl ?_
        refine (show X _ _ 159 _ _ _ _ _ _ from ?_)
        exact x_ireturn dX12_voted_159 rfl ⟨rfl, rfl⟩
      · rw [if_pos (by omega)]
        refine x_iload_n dX12_voted_154 rfl ?_
        refine x_goto 159 dX12_voted_155 (by decide) ?_
        refine (show X _ _ 159 _ _ _ _ _ _ from ?_)
        exact x_ireturn dX12_voted_159 rfl ⟨rfl, rfl⟩
    · rw [if_pos (by omega)]
      refine x_iload_n dX12_voted_138 rfl ?_
      refine x_iload_n dX12_voted_139 rfl ?_
      refine (show X _ _ 140 _ _ _ _ _ _ from ?_)
      refine y_icmp_ge 147 dX12_voted_140 (by decide) ⟨by omega, by omega⟩ ⟨by omega, by omega⟩ (fun h5 => ?_) (fun h5 => ?_)
      · rw [if_neg (by omega)]
        refine x_iload_n dX12_voted_147 rfl ?_
        refine (show X _ _ 148 _ _ _ _ _ _ from ?_)
        exact x_ireturn dX12_voted_148 rfl ⟨rfl, rfl⟩
      · rw [if_pos h5]
        refine x_iload_n dX12_voted_143 rfl ?_
        refine x_goto 148 dX12_voted_144 (by decide) ?_
        refine (show X _ _ 148 _ _ _ _ _ _ from ?_)
        exact x_ireturn dX12_voted_148 rfl ⟨rfl, rfl⟩
  · have es : mrL A th (p + 1) = if th.testBit p then mrL A th p + (if A 2 p = 1 then A 5 p else -A 5 p) else mrL A th p := rfl
    rw [es] at ih
    have e2 : V (f + 2) p = A 2 p := hF.2.1 1 (by decide) p hp
    have e5 : V (f + 5) p = A 5 p := hF.2.1 4 (by decide) p hp
    have hb := (hA.2.2.2.2.2.2.2.2.2.1 p hp).2.1
    refine x_iload dX12_voted_58 rfl ?_
    refine x_aload_n dX12_voted_60 rfl ?_
    refine x_gr dX12_voted_61 fX12_409 (by first | assumption) (fun _ _ _ => rfl) (by first | assumption) ?_
    refine b_gio (r := r) (m := 24) dX12_voted_64 fX12_230 (by first | assumption) (fun _ _ _ => rfl) (by omega) ?_
    refine (show X _ _ 67 _ _ _ _ _ _ from ?_)
    refine X.val e3 ?_
    refine y_icmp_ge 133 dX12_voted_67 (by decide) ⟨by omega, by omega⟩ ⟨by omega, by omega⟩ (fun h3 => ?_) (fun h3 => ?_)
    · omega
    refine x_aload_n dX12_voted_70 rfl ?_
    refine x_gr dX12_voted_71 fX12_30 (by first | assumption) (fun _ _ _ => rfl) (by first | assumption) ?_
    refine x_iload_n dX12_voted_74 rfl ?_
    refine b_iald (r := r) (m := 24) (j := 6) (y) dX12_voted_75 (by first | assumption) (by first | rfl | omega) (by omega) (by decide) (by decide) ?_
    refine (show X _ _ 76 _ _ _ _ _ _ from ?_)
    refine X.val ht ?_
    refine x_iload dX12_voted_76 rfl ?_
    refine (show X _ _ 78 _ _ _ _ _ _ from ?_)
    refine x_callS (As := [_, _]) (mc := 0) (ms := 0) (z := mX12_bit) dX12_voted_78 lX12_386 oX12_bit (by decide) rfl (Nat.le_of_ble_eq_true rfl) (Nat.le_of_ble_eq_true rfl) rfl (hbt p (by omega)) (k_I ?_)
    refine (show X _ _ 81 _ _ _ _ _ _ from ?_)
    refine y_ifb_eq 127 dX12_voted_81 (by decide) (fun h4 => ?_) (fun h4 => ?_)
    · rw [h4, if_neg (by decide)] at ih
      refine y_iinc dX12_voted_127 rfl (by decide) rfl rfl ?_
      refine x_goto 58 dX12_voted_130 (by decide) ?_
      refine (show X _ _ 58 _ _ _ _ _ _ from ?_)
      exact ih
    rw [h4, if_pos rfl] at ih
    refine x_iload dX12_voted_84 rfl ?_
    refine x_aload_n dX12_voted_86 rfl ?_
    refine x_gr dX12_voted_87 fX12_409 (by first | assumption) (fun _ _ _ => rfl) (by first | assumption) ?_
    refine x_gr dX12_voted_90 fX12_326 (by first | assumption) (fun _ _ _ => rfl) (by first | assumption) ?_
    refine x_iload dX12_voted_93 rfl ?_
    refine b_ialo (r := r) (m := 24) (p) dX12_voted_95 (by first | assumption) (by first | rfl | omega) (by omega) (by decide) (by omega) ?_
    refine (show X _ _ 96 _ _ _ _ _ _ from ?_)
    refine X.val e2 ?_
    refine y_iconst dX12_voted_96 ?_
    refine (show X _ _ 97 _ _ _ _ _ _ from ?_)
    refine y_icmp_ne 113 dX12_voted_97 (by decide) ⟨by omega, by omega⟩ ⟨by omega, by omega⟩ (fun h5 => ?_) (fun h5 => ?_)
    · rw [if_neg h5] at ih
      refine x_aload_n dX12_voted_113 rfl ?_
      refine x_gr dX12_voted_114 fX12_409 (by first | assumption) (fun _ _ _ => rfl) (by first | assumption) ?_
      refine x_gr dX12_voted_117 fX12_331 (by first | assumption) (fun _ _ _ => rfl) (by first | assumption) ?_
      refine x_iload dX12_voted_120 rfl ?_
      refine b_ialo (r := r) (m := 24) (p) dX12_voted_122 (by first | assumption) (by first | rfl | omega) (by omega) (by decide) (by omega) ?_
      refine (show X _ _ 123 _ _ _ _ _ _ from ?_)
      refine X.val e5 ?_
      refine y_ineg dX12_voted_123 ?_
      refine y_iadd dX12_voted_124 ?_
      refine x_istore dX12_voted_125 (by decide) rfl rfl ?_
      refine y_iinc dX12_voted_127 rfl (by decide) rfl rfl ?_
      refine x_goto 58 dX12_voted_130 (by decide) ?_
      refine (show X _ _ 58 _ _ _ _ _ _ from ?_)
      exact ih
    · rw [if_pos h5] at ih
      refine x_aload_n dX12_voted_100 rfl ?_
      refine x_gr dX12_voted_101 fX12_409 (by first | assumption) (fun _ _ _ => rfl) (by first | assumption) ?_
      refine x_gr dX12_voted_104 fX12_331 (by first | assumption) (fun _ _ _ => rfl) (by first | assumption) ?_
      refine x_iload dX12_voted_107 rfl ?_
      refine b_ialo (r := r) (m := 24) (p) dX12_voted_109 (by first | assumption) (by first | rfl | omega) (by omega) (by decide) (by omega) ?_
      refine (show X _ _ 110 _ _ _ _ _ _ from ?_)
      refine X.val e5 ?_
      refine x_goto 124 dX12_voted_110 (by decide) ?_
      refine y_iadd dX12_voted_124 ?_
      refine x_istore dX12_voted_125 (by decide) rfl rfl ?_
      refine y_iinc dX12_voted_127 rfl (by decide) rfl rfl ?_
      refine x_goto 58 dX12_voted_130 (by decide) ?_
      refine (show X _ _ 58 _ _ _ _ _ _ from ?_)
      exact ih
theorem c_drawnOf {y can : Nat} (hM : MSh T R r) (hf : R r 3 = some f) (hG : FMS T R f) (hF : FMC V f A) (hA : VA A) (hap : apF f r) (hW : ∀ p, p < fP A → E 15 p = W 1 p) (hWb : ∀ p, p < fP A → 0 ≤ W 1 p ∧ W 1 p ≤ 24) (hy : y < 24) (hc : E 7 y = (can : Int)) (hcl : can < 1024) (hs : E 0 39 = W 0 2) (hsb : 0 ≤ W 0 2 ∧ W 0 2 ≤ 65536) (hex : ∃ p, p < fP A ∧ can.testBit p = true) : 0 ≤ drawn A W (fewest A W can) ∧ popc (fewest A W can) ≠ 0 ∧ X g mX12_drawnOf 0 [.ref r, .int (iI (y : Int)), jk, jk, jk, jk] [] (T, iV (pB V r 24 E), R, J, z) k n (rI (iI (drawn A W (fewest A W can))) (T, iV (pB V r 24 (u2 E 0 39 (dSeed W))), R, J, z)) := by
  have hcb : ∀ p, p < fP A → -1 ≤ cnt A W p ∧ cnt A W p ≤ 24 := by
    intro p hp
    have := hWb p hp
    unfold cnt
    split <;> omega
  obtain ⟨q, eq, hq1, hq2, hq3⟩ := fm_some (A := A) (W := W) (sg := 1) hex
  have hfb := fun p => few_bit (A := A) (W := W) (set := can) (q := q) (p := p) (fun p hp => by have := hcb p hp; omega) ⟨hq1, hq2, hq3⟩
  have hfm := c_foremost (g := g) (J := J) (z := z) (k := 0) (n := 0) (E := E) (W := W) (set := can) (y := y) (yb := false) hM hf hG hF hA hap hW hWb hcl (by omega)
  rw [if_neg (by decide), eq] at hfm
  have eP := fP10 hA
  have hfl : fewest A W can < 2 ^ fP A := (fw_b hWb _ (Nat.le_refl _)).2
  have hpc := popc_cF hfl eP.2
  have hfq : (fewest A W can).testBit q = true := by rw [hfb q, decide_eq_true hq1, hq2, decide_eq_true rfl]; rfl
  have hp1 := cF_1 hfq (fP A) 0 (by omega) (by omega)
  have hpb := popc_b (fewest A W can) (Nat.lt_of_lt_of_le hfl (two10 eP.2))
  generalize hfw : fewest A W can = fw at *
  have hne : popc fw ≠ 0 := by omega
  have hsd : 0 ≤ dSeed W ∧ dSeed W < 65537 := by unfold dSeed; omega
  have hl0 := Int.emod_nonneg (dSeed W) (show popc fw ≠ 0 by omega)
  have hl1 := Int.emod_lt_of_pos (dSeed W) (show 0 < popc fw by omega)
  have hnt := nth_ok fw (fP A) 0 (dSeed W % popc fw) hl0 (by omega)
  have hdr : drawn A W fw = nthF fw (fP A) 0 (dSeed W % popc fw) := by unfold drawn; rw [if_neg hne]
  have hnb := nthF_b fw (fP A) 0 (dSeed W % popc fw)
  rw [hdr]
  refine ⟨by omega, hne, ?_⟩
  have hbt := fun (E1 : Nat → Nat → Int) p hp => c_bit g can p (T, iV (pB V r 24 E1), R, J, z) 0 0 (by omega) hp
  have hco := fun (E1 : Nat → Nat → Int) (hE1 : E1 15 = E 15) p hp => c_counted (g := g) (J := J) (z := z) (k := 0) (n := 0) (E := E1) (p := p) (W := W) hM hf hG hF hA hap hp (by rw [hE1]; exact hW p hp)
  obtain ⟨m0, ⟨-, -, -, -, -, -, m22, -, -, -, -, -, -, -, -, -, -, -, -, -, -, -, -⟩, ⟨-, -, -, -, -, -, mk7, -, -, -, -, -, -, -, -, -, -, -, -, -, -, -, -⟩⟩ := id hM
  obtain ⟨g0, -, -⟩ := id hG
  have e3 := hF.1 3 (by decide)
  have hA3 := hA.2.2.2.1
  unfold apF at hap
  have hcq := hcb q hq1
  refine x_aload_n dX12_drawnOf_0 rfl ?_
  refine x_aload_n dX12_drawnOf_1 rfl ?_
  refine x_gr dX12_drawnOf_2 fX12_33 (by first | assumption) (fun _ _ _ => rfl) (by first | assumption) ?_
  refine x_iload_n dX12_drawnOf_5 rfl ?_
  refine b_iald (r := r) (m := 24) (j := 7) (y) dX12_drawnOf_6 (by first | assumption) (by first | rfl | omega) (by omega) (by decide) (by decide) ?_
  refine (show X _ _ 7 _ _ _ _ _ _ from ?_)
  refine X.val hc ?_
  refine x_iload_n dX12_drawnOf_7 rfl ?_
  refine (show X _ _ 8 _ _ _ _ _ _ from ?_)
  refine y_iconst dX12_drawnOf_8 ?_
  refine X.val (b := bI false) rfl ?_
  refine (show X _ _ 9 _ _ _ _ _ _ from ?_)
  refine x_callV (As := [_, _, _]) (mc := 0) (ms := 0) (z := mX12_foremost) (ci := 12) dX12_drawnOf_9 lX12_491 oX12_foremost (by decide) (by first | assumption) rfl rfl (Nat.le_of_ble_eq_true rfl) (Nat.le_of_ble_eq_true rfl) rfl (hfm) (k_I ?_)
  refine (show X _ _ 12 _ _ _ _ _ _ from ?_)
  refine x_istore_n dX12_drawnOf_12 (by decide) rfl rfl ?_
  refine y_iconst dX12_drawnOf_13 ?_
  refine x_istore_n dX12_drawnOf_14 (by decide) rfl rfl ?_
  refine y_iconst dX12_drawnOf_15 ?_
  refine x_istore dX12_drawnOf_16 (by decide) rfl rfl ?_
  refine (show X _ _ 18 _ _ _ _ _ _ from ?_)
  have loop2 : ∀ (E1 : Nat → Nat → Int), E1 15 = E 15 → E1 7 y = (can : Int) → ∀ (d p : Nat) (a : Int), p + d = fP A → 0 ≤ a → a ≤ 10 → nthF fw d p a = nthF fw (fP A) 0 (dSeed W % popc fw) → X g mX12_drawnOf 105 [.ref r, .int (iI (y : Int)), .int (iI (q : Int)), .int (iI (popc fw)), .int (iI a), .int (iI (p : Int))] [] (T, iV (pB V r 24 E1), R, J, z) k n (rI (iI (nthF fw (fP A) 0 (dSeed W % popc fw))) (T, iV (pB V r 24 E1), R, J, z)) := by
    intro E1 h15 h7 d
    have hco1 := hco E1 h15
    have hbt1 := hbt E1
    induction d with
    | zero =>
      intro p a hp ha0 ha1 hn
      rw [nthF] at hn
      exact absurd hn.symm hnt
    | succ d ih =>
      intro p a hp ha0 ha1 hn
      have hpp : p < fP A := by omega
      have hcp := hcb p hpp
      rw [nthF, hfb p, decide_eq_true hpp] at hn
      have body0 : (true && can.testBit p && decide (cnt A W p = cnt A W q)) = false → X g mX12_drawnOf 138 [.ref r, .int (iI (y : Int)), .int (iI (q : Int)), .int (iI (popc fw)), .int (iI a), .int (iI (p : Int))] [] (T, iV (pB V r 24 E1), R, J, z) k n (rI (iI (nthF fw (fP A) 0 (dSeed W % popc fw))) (T, iV (pB V r 24 E1), R, J, z)) := by
        intro hf0
        rw [hf0, if_neg (by decide)] at hn
        have ih := ih (p + 1) a (by omega) ha0 ha1 hn
        have fin : X g mX12_drawnOf 172 [.ref r, .int (iI (y : Int)), .int (iI (q : Int)), .int (iI (popc fw)), .int (iI a), .int (iI (p : Int))] [.int (iI a)] (T, iV (pB V r 24 E1), R, J, z) k n (rI (iI (nthF fw (fP A) 0 (dSeed W % popc fw))) (T, iV (pB V r 24 E1), R, J, z)) := by
          refine y_iconst dX12_drawnOf_172 ?_
          refine y_isub dX12_drawnOf_173 ?_
          refine (show X _ _ 174 _ _ _ _ _ _ from ?_)
          rw [Int.sub_zero]
          refine x_istore dX12_drawnOf_174 (by decide) rfl rfl ?_
          refine y_iinc dX12_drawnOf_176 rfl (by decide) rfl rfl ?_
          refine x_goto 105 dX12_drawnOf_179 (by decide) ?_
          refine (show X _ _ 105 _ _ _ _ _ _ from ?_)
          exact ih
        refine x_iload dX12_drawnOf_138 rfl ?_
        refine x_aload_n dX12_drawnOf_140 rfl ?_
        refine x_gr dX12_drawnOf_141 fX12_33 (by first | assumption) (fun _ _ _ => rfl) (by first | assumption) ?_
        refine x_iload_n dX12_drawnOf_144 rfl ?_
        refine b_iald (r := r) (m := 24) (j := 7) (y) dX12_drawnOf_145 (by first | assumption) (by first | rfl | omega) (by omega) (by decide) (by decide) ?_
        refine (show X _ _ 146 _ _ _ _ _ _ from ?_)
        refine X.val h7 ?_
        refine x_iload dX12_drawnOf_146 rfl ?_
        refine (show X _ _ 148 _ _ _ _ _ _ from ?_)
        refine x_callS (As := [_, _]) (mc := 0) (ms := 0) (z := mX12_bit) dX12_drawnOf_148 lX12_386 oX12_bit (by decide) rfl (Nat.le_of_ble_eq_true rfl) (Nat.le_of_ble_eq_true rfl) rfl (hbt1 p (by omega)) (k_I ?_)
        refine (show X _ _ 151 _ _ _ _ _ _ from ?_)
        refine y_ifb_eq 172 dX12_drawnOf_151 (by decide) (fun h1 => ?_) (fun h1 => ?_)
        · exact fin
        refine x_aload_n dX12_drawnOf_154 rfl ?_
        refine x_iload dX12_drawnOf_155 rfl ?_
        refine (show X _ _ 157 _ _ _ _ _ _ from ?_)
        refine x_callV (As := [_]) (mc := 0) (ms := 0) (z := mX12_counted) (ci := 12) dX12_drawnOf_157 lX12_495 oX12_counted (by decide) (by first | assumption) rfl rfl (Nat.le_of_ble_eq_true rfl) (Nat.le_of_ble_eq_true rfl) rfl (hco1 p hpp) (k_I ?_)
        refine (show X _ _ 160 _ _ _ _ _ _ from ?_)
        refine x_aload_n dX12_drawnOf_160 rfl ?_
        refine x_iload_n dX12_drawnOf_161 rfl ?_
        refine (show X _ _ 162 _ _ _ _ _ _ from ?_)
        refine x_callV (As := [_]) (mc := 0) (ms := 0) (z := mX12_counted) (ci := 12) dX12_drawnOf_162 lX12_495 oX12_counted (by decide) (by first | assumption) rfl rfl (Nat.le_of_ble_eq_true rfl) (Nat.le_of_ble_eq_true rfl) rfl (hco1 q hq1) (k_I ?_)
        refine (show X _ _ 165 _ _ _ _ _ _ from ?_)
        refine y_icmp_ne 172 dX12_drawnOf_165 (by decide) ⟨by omega, by omega⟩ ⟨by omega, by omega⟩ (fun h2 => ?_) (fun h2 => ?_)
        · exact fin
        · rw [h1, decide_eq_true h2] at hf0; cases hf0
      refine x_aload_n dX12_drawnOf_105 rfl ?_
      refine x_gr dX12_drawnOf_106 fX12_33 (by first | assumption) (fun _ _ _ => rfl) (by first | assumption) ?_
      refine x_iload_n dX12_drawnOf_109 rfl ?_
      refine b_iald (r := r) (m := 24) (j := 7) (y) dX12_drawnOf_110 (by first | assumption) (by first | rfl | omega) (by omega) (by decide) (by decide) ?_
      refine (show X _ _ 111 _ _ _ _ _ _ from ?_)
      refine X.val h7 ?_
      refine x_iload dX12_drawnOf_111 rfl ?_
      refine (show X _ _ 113 _ _ _ _ _ _ from ?_)
      refine x_callS (As := [_, _]) (mc := 0) (ms := 0) (z := mX12_bit) dX12_drawnOf_113 lX12_386 oX12_bit (by decide) rfl (Nat.le_of_ble_eq_true rfl) (Nat.le_of_ble_eq_true rfl) rfl (hbt1 p (by omega)) (k_I ?_)
      refine (show X _ _ 116 _ _ _ _ _ _ from ?_)
      refine y_ifb_eq 138 dX12_drawnOf_116 (by decide) (fun h1 => ?_) (fun h1 => ?_)
      · exact body0 (by rw [h1]; rfl)
      refine x_aload_n dX12_drawnOf_119 rfl ?_
      refine x_iload dX12_drawnOf_120 rfl ?_
      refine (show X _ _ 122 _ _ _ _ _ _ from ?_)
      refine x_callV (As := [_]) (mc := 0) (ms := 0) (z := mX12_counted) (ci := 12) dX12_drawnOf_122 lX12_495 oX12_counted (by decide) (by first | assumption) rfl rfl (Nat.le_of_ble_eq_true rfl) (Nat.le_of_ble_eq_true rfl) rfl (hco1 p hpp) (k_I ?_)
      refine (show X _ _ 125 _ _ _ _ _ _ from ?_)
      refine x_aload_n dX12_drawnOf_125 rfl ?_
      refine x_iload_n dX12_drawnOf_126 rfl ?_
      refine (show X _ _ 127 _ _ _ _ _ _ from ?_)
      refine x_callV (As := [_]) (mc := 0) (ms := 0) (z := mX12_counted) (ci := 12) dX12_drawnOf_127 lX12_495 oX12_counted (by decide) (by first | assumption) rfl rfl (Nat.le_of_ble_eq_true rfl) (Nat.le_of_ble_eq_true rfl) rfl (hco1 q hq1) (k_I ?_)
      refine (show X _ _ 130 _ _ _ _ _ _ from ?_)
      refine y_icmp_ne 138 dX12_drawnOf_130 (by decide) ⟨by omega, by omega⟩ ⟨by omega, by omega⟩ (fun h2 => ?_) (fun h2 => ?_)
      · exact body0 (by rw [decide_eq_false h2, Bool.and_false])
      rw [h1, decide_eq_true h2, if_pos (by decide)] at hn
      refine x_iload dX12_drawnOf_133 rfl ?_
      refine (show X _ _ 135 _ _ _ _ _ _ from ?_)
      refine y_if_le 182 dX12_drawnOf_135 (by decide) ⟨by omega, by omega⟩ (fun h3 => ?_) (fun h3 => ?_)
      · rw [if_pos (by omega)] at hn
        rw [← hn]
        refine x_iload dX12_drawnOf_182 rfl ?_
        refine (show X _ _ 184 _ _ _ _ _ _ from ?_)
        exact x_ireturn dX12_drawnOf_184 rfl ⟨rfl, rfl⟩
      · rw [if_neg (by omega)] at hn
        have ih := ih (p + 1) (a - 1) (by omega) (by omega) (by omega) hn
        refine x_iload dX12_drawnOf_138 rfl ?_
        refine x_aload_n dX12_drawnOf_140 rfl ?_
        refine x_gr dX12_drawnOf_141 fX12_33 (by first | assumption) (fun _ _ _ => rfl) (by first | assumption) ?_
        refine x_iload_n dX12_drawnOf_144 rfl ?_
        refine b_iald (r := r) (m := 24) (j := 7) (y) dX12_drawnOf_145 (by first | assumption) (by first | rfl | omega) (by omega) (by decide) (by decide) ?_
        refine (show X _ _ 146 _ _ _ _ _ _ from ?_)
        refine X.val h7 ?_
        refine x_iload dX12_drawnOf_146 rfl ?_
        refine (show X _ _ 148 _ _ _ _ _ _ from ?_)
        refine x_callS (As := [_, _]) (mc := 0) (ms := 0) (z := mX12_bit) dX12_drawnOf_148 lX12_386 oX12_bit (by decide) rfl (Nat.le_of_ble_eq_true rfl) (Nat.le_of_ble_eq_true rfl) rfl (hbt1 p (by omega)) (k_I ?_)
        refine (show X _ _ 151 _ _ _ _ _ _ from ?_)
        refine y_ifb_eq 172 dX12_drawnOf_151 (by decide) (fun h4 => ?_) (fun h4 => ?_)
        · rw [h1] at h4; cases h4
        refine x_aload_n dX12_drawnOf_154 rfl ?_
        refine x_iload dX12_drawnOf_155 rfl ?_
        refine (show X _ _ 157 _ _ _ _ _ _ from ?_)
        refine x_callV (As := [_]) (mc := 0) (ms := 0) (z := mX12_counted) (ci := 12) dX12_drawnOf_157 lX12_495 oX12_counted (by decide) (by first | assumption) rfl rfl (Nat.le_of_ble_eq_true rfl) (Nat.le_of_ble_eq_true rfl) rfl (hco1 p hpp) (k_I ?_)
        refine (show X _ _ 160 _ _ _ _ _ _ from ?_)
        refine x_aload_n dX12_drawnOf_160 rfl ?_
        refine x_iload_n dX12_drawnOf_161 rfl ?_
        refine (show X _ _ 162 _ _ _ _ _ _ from ?_)
        refine x_callV (As := [_]) (mc := 0) (ms := 0) (z := mX12_counted) (ci := 12) dX12_drawnOf_162 lX12_495 oX12_counted (by decide) (by first | assumption) rfl rfl (Nat.le_of_ble_eq_true rfl) (Nat.le_of_ble_eq_true rfl) rfl (hco1 q hq1) (k_I ?_)
        refine (show X _ _ 165 _ _ _ _ _ _ from ?_)
        refine y_icmp_ne 172 dX12_drawnOf_165 (by decide) ⟨by omega, by omega⟩ ⟨by omega, by omega⟩ (fun h5 => ?_) (fun h5 => ?_)
        · exact absurd h2 h5
        refine y_iconst dX12_drawnOf_168 ?_
        refine x_goto 173 dX12_drawnOf_169 (by decide) ?_
        refine y_isub dX12_drawnOf_173 ?_
        refine x_istore dX12_drawnOf_174 (by decide) rfl rfl ?_
        refine y_iinc dX12_drawnOf_176 rfl (by decide) rfl rfl ?_
        refine x_goto 105 dX12_drawnOf_179 (by decide) ?_
        refine (show X _ _ 105 _ _ _ _ _ _ from ?_)
        exact ih
  refine loopN (P := fun p => X g mX12_drawnOf 18 [.ref r, .int (iI (y : Int)), .int (iI (q : Int)), .int (iI (cF fw p 0)), .int (iI (p : Int)), jk] [] (T, iV (pB V r 24 E), R, J, z) k n (rI (iI (nthF fw (fP A) 0 (dSeed W % popc fw))) (T, iV (pB V r 24 (u2 E 0 39 (dSeed W))), R, J, z))) (fP A) ?_ (fun p hp ih => ?_)
  · refine x_iload dX12_drawnOf_18 rfl ?_
    refine x_aload_n dX12_drawnOf_20 rfl ?_
    refine x_gr dX12_drawnOf_21 fX12_409 (by first | assumption) (fun _ _ _ => rfl) (by first | assumption) ?_
    refine b_gio (r := r) (m := 24) dX12_drawnOf_24 fX12_230 (by first | assumption) (fun _ _ _ => rfl) (by omega) ?_
    refine (show X _ _ 27 _ _ _ _ _ _ from ?_)
    refine X.val e3 ?_
    refine y_icmp_ge 72 dX12_drawnOf_27 (by decide) ⟨by omega, by omega⟩ ⟨by omega, by omega⟩ (fun h1 => ?_) (fun h1 => ?_)
    rotate_left
    · omega
    rw [← hpc]
    have h65 : ¬ (65537 : Int64) = 0 := by decide
    refine x_aload_n dX12_drawnOf_72 rfl ?_
    refine x_ldc2 dX12_drawnOf_73 kX12_498 ?_
    refine x_aload_n dX12_drawnOf_76 rfl ?_
    refine b_gi0 (r := r) (m := 24) dX12_drawnOf_77 fX12_431 (by first | assumption) (fun _ _ _ => rfl) (by decide) ?_
    refine (show X _ _ 80 _ _ _ _ _ _ from ?_)
    refine X.val hs ?_
    refine x_i2l dX12_drawnOf_80 ?_
    refine (show X _ _ 81 _ _ _ _ _ _ from ?_)
    rw [i2l_lI ⟨by omega, by omega⟩]
    refine x_lmul dX12_drawnOf_81 ?_
    refine (show X _ _ 82 _ _ _ _ _ _ from ?_)
    rw [show (75 : Int64) = lI 75 from rfl, lI_mul]
    refine x_ldc2 dX12_drawnOf_82 kX12_500 ?_
    refine x_ladd dX12_drawnOf_85 ?_
    refine (show X _ _ 86 _ _ _ _ _ _ from ?_)
    rw [show (74 : Int64) = lI 74 from rfl, lI_add]
    refine x_ldc2 dX12_drawnOf_86 kX12_502 ?_
    refine x_lrem dX12_drawnOf_89 (by assumption) ?_
    refine (show X _ _ 90 _ _ _ _ _ _ from ?_)
    rw [show (65537 : Int64) = lI 65537 from rfl, lI_rem ⟨by omega, by omega⟩ ⟨by omega, by omega⟩ (by omega)]
    refine x_l2i dX12_drawnOf_90 ?_
    refine (show X _ _ 91 _ _ _ _ _ _ from ?_)
    rw [lI_i]
    refine X.val (b := dSeed W) rfl ?_
    refine b_pi0 (r := r) (m := 24) dX12_drawnOf_91 (pX12_431 _) (by first | assumption) (fun _ _ _ => rfl) rfl rfl (by decide) ?_
    refine x_aload_n dX12_drawnOf_94 rfl ?_
    refine b_gi0 (r := r) (m := 24) dX12_drawnOf_95 fX12_431 (by first | assumption) (fun _ _ _ => rfl) (by decide) ?_
    refine (show X _ _ 98 _ _ _ _ _ _ from ?_)
    refine X.val (b := dSeed W) (by rw [u2_s, u1_s]) ?_
    refine x_iload_n dX12_drawnOf_98 rfl ?_
    refine y_irem dX12_drawnOf_99 ⟨by omega, by omega⟩ ⟨by omega, by omega⟩ (by omega) (by omega) ?_
    refine x_istore dX12_drawnOf_100 (by decide) rfl rfl ?_
    refine y_iconst dX12_drawnOf_102 ?_
    refine x_istore dX12_drawnOf_103 (by decide) rfl rfl ?_
    refine (show X _ _ 105 _ _ _ _ _ _ from ?_)
    exact loop2 (u2 E 0 39 (dSeed W)) (u2_n (by decide)) (by rw [u2_n (by decide)]; exact hc) (fP A) 0 _ (by omega) hl0 (by omega) rfl
  · have es : cF fw (p + 1) 0 = cF fw p 0 + (if fw.testBit p then 1 else 0) := by
      rw [cF_app fw p 1 0, Nat.zero_add, cF, cF]
      omega
    rw [es, hfb p, decide_eq_true hp] at ih
    have hcp := hcb p hp
    have no : (true && can.testBit p && decide (cnt A W p = cnt A W q)) = false → X g mX12_drawnOf 63 [.ref r, .int (iI (y : Int)), .int (iI (q : Int)), .int (iI (cF fw p 0)), .int (iI (p : Int)), jk] [.int (iI (cF fw p 0))] (T, iV (pB V r 24 E), R, J, z) k n (rI (iI (nthF fw (fP A) 0 (dSeed W % popc fw))) (T, iV (pB V r 24 (u2 E 0 39 (dSeed W))), R, J, z)) := by
      intro hf0
      rw [hf0, if_neg (by decide)] at ih
      refine y_iconst dX12_drawnOf_63 ?_
      refine y_iadd dX12_drawnOf_64 ?_
      refine x_istore_n dX12_drawnOf_65 (by decide) rfl rfl ?_
      refine y_iinc dX12_drawnOf_66 rfl (by decide) rfl rfl ?_
      refine x_goto 18 dX12_drawnOf_69 (by decide) ?_
      refine (show X _ _ 18 _ _ _ _ _ _ from ?_)
      exact ih
    refine x_iload dX12_drawnOf_18 rfl ?_
    refine x_aload_n dX12_drawnOf_20 rfl ?_
    refine x_gr dX12_drawnOf_21 fX12_409 (by first | assumption) (fun _ _ _ => rfl) (by first | assumption) ?_
    refine b_gio (r := r) (m := 24) dX12_drawnOf_24 fX12_230 (by first | assumption) (fun _ _ _ => rfl) (by omega) ?_
    refine (show X _ _ 27 _ _ _ _ _ _ from ?_)
    refine X.val e3 ?_
    refine y_icmp_ge 72 dX12_drawnOf_27 (by decide) ⟨by omega, by omega⟩ ⟨by omega, by omega⟩ (fun h1 => ?_) (fun h1 => ?_)
    · omega
    refine x_iload_n dX12_drawnOf_30 rfl ?_
    refine x_aload_n dX12_drawnOf_31 rfl ?_
    refine x_gr dX12_drawnOf_32 fX12_33 (by first | assumption) (fun _ _ _ => rfl) (by first | assumption) ?_
    refine x_iload_n dX12_drawnOf_35 rfl ?_
    refine b_iald (r := r) (m := 24) (j := 7) (y) dX12_drawnOf_36 (by first | assumption) (by first | rfl | omega) (by omega) (by decide) (by decide) ?_
    refine (show X _ _ 37 _ _ _ _ _ _ from ?_)
    refine X.val hc ?_
    refine x_iload dX12_drawnOf_37 rfl ?_
    refine (show X _ _ 39 _ _ _ _ _ _ from ?_)
    refine x_callS (As := [_, _]) (mc := 0) (ms := 0) (z := mX12_bit) dX12_drawnOf_39 lX12_386 oX12_bit (by decide) rfl (Nat.le_of_ble_eq_true rfl) (Nat.le_of_ble_eq_true rfl) rfl (hbt E p (by omega)) (k_I ?_)
    refine (show X _ _ 42 _ _ _ _ _ _ from ?_)
    refine y_ifb_eq 63 dX12_drawnOf_42 (by decide) (fun h2 => ?_) (fun h2 => ?_)
    · exact no (by rw [h2]; rfl)
    refine x_aload_n dX12_drawnOf_45 rfl ?_
    refine x_iload dX12_drawnOf_46 rfl ?_
    refine (show X _ _ 48 _ _ _ _ _ _ from ?_)
    refine x_callV (As := [_]) (mc := 0) (ms := 0) (z := mX12_counted) (ci := 12) dX12_drawnOf_48 lX12_495 oX12_counted (by decide) (by first | assumption) rfl rfl (Nat.le_of_ble_eq_true rfl) (Nat.le_of_ble_eq_true rfl) rfl (hco E rfl p hp) (k_I ?_)
    refine (show X _ _ 51 _ _ _ _ _ _ from ?_)
    refine x_aload_n dX12_drawnOf_51 rfl ?_
    refine x_iload_n dX12_drawnOf_52 rfl ?_
    refine (show X _ _ 53 _ _ _ _ _ _ from ?_)
    refine x_callV (As := [_]) (mc := 0) (ms := 0) (z := mX12_counted) (ci := 12) dX12_drawnOf_53 lX12_495 oX12_counted (by decide) (by first | assumption) rfl rfl (Nat.le_of_ble_eq_true rfl) (Nat.le_of_ble_eq_true rfl) rfl (hco E rfl q hq1) (k_I ?_)
    refine (show X _ _ 56 _ _ _ _ _ _ from ?_)
    refine y_icmp_ne 63 dX12_drawnOf_56 (by decide) ⟨by omega, by omega⟩ ⟨by omega, by omega⟩ (fun h3 => ?_) (fun h3 => ?_)
    · exact no (by rw [decide_eq_false h3, Bool.and_false])
    rw [h2, decide_eq_true h3, if_pos (by decide)] at ih
    refine y_iconst dX12_drawnOf_59 ?_
    refine x_goto 64 dX12_drawnOf_60 (by decide) ?_
    refine y_iadd dX12_drawnOf_64 ?_
    refine x_istore_n dX12_drawnOf_65 (by decide) rfl rfl ?_
    refine y_iinc dX12_drawnOf_66 rfl (by decide) rfl rfl ?_
    refine x_goto 18 dX12_drawnOf_69 (by decide) ?_
    refine (show X _ _ 18 _ _ _ _ _ _ from ?_)
    exact ih
end C87
