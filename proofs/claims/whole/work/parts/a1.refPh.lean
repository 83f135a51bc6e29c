/-! ===== the reference: family, when it is read ===== -/
theorem sfL {A W : Nat → Nat → Int} : ∀ n, (∀ b, b ≠ 1 → lp n (fun p W => u2 W 1 p (A 7 p)) W b = W b) ∧ ∀ p, p < n → lp n (fun p W => u2 W 1 p (A 7 p)) W 1 p = A 7 p
  | 0 => ⟨fun _ _ => rfl, fun p hp => absurd hp (by omega)⟩
  | n + 1 => by
    have ih := sfL (A := A) (W := W) n
    refine ⟨fun b hb => ?_, fun p hp => ?_⟩
    · rw [lp_s, u2_n hb]; exact ih.1 b hb
    · rw [lp_s, u2_s]
      by_cases e : p = n
      · subst e; rw [u1_s]
      · rw [u1_n e]; exact ih.2 p (by omega)
theorem sfW_v {A W : Nat → Nat → Int} : sfW A W 0 0 = A 0 1 ∧ sfW A W 0 1 = 0 ∧ sfW A W 0 2 = 0 ∧ ∀ p, p < fP A → sfW A W 1 p = A 7 p := by
  have h := sfL (A := A) (W := u2 (u2 (u2 W 0 0 (A 0 1)) 0 1 0) 0 2 0) (fP A)
  have h0 : sfW A W 0 = u2 (u2 (u2 W 0 0 (A 0 1)) 0 1 0) 0 2 0 0 := h.1 0 (by decide)
  refine ⟨?_, ?_, ?_, h.2⟩
  · rw [h0, u2_s, u1_n (by decide), u2_s, u1_n (by decide), u2_s, u1_s]
  · rw [h0, u2_s, u1_n (by decide), u2_s, u1_s]
  · rw [h0, u2_s, u1_s]
section Ca1
variable {g : GG} {T : Nat → Nat × Nat} {V E A B : Nat → Nat → Int} {R : Nat → Nat → Option Nat} {J : Nat → Nat → Int64} {z k n : Nat} {r f : Nat} {t : Nat → Int} {tp : Nat} {h : Bool} {a m : Nat} {H K : Nat → Nat → Nat → Int} {wr pl tr : Int} {Q : Option Value → Mem → Prop}
theorem fam_l1 {x : Int32} (hM : MSh T R r) : ∀ (d i : Nat) (V : Nat → Nat → Int), i + d = 45 → (∀ j, j < i → V (r + 2) j = 0) → (∀ V', (∀ b, b ≠ r + 2 → V' b = V b) → (∀ j, j < 45 → V' (r + 2) j = 0) → X g mX12_family 118 [.ref r, .int x, jk] [] (T, iV V', R, J, z) k n Q) → X g mX12_family 99 [.ref r, .int x, .int (iI (i : Int))] [] (T, iV V, R, J, z) k n Q := by
  intro d
  induction d with
  | zero =>
    intro i V hi hv kk
    obtain ⟨m0, ⟨-, m15, -, -, -, -, -, -, -, -, -, -, -, -, -, -, -, -, -, -, -, -, -⟩, ⟨-, mk2, -, -, -, -, -, -, -, -, -, -, -, -, -, -, -, -, -, -, -, -, -⟩⟩ := id hM
    refine x_iload_n dX12_family_99 rfl ?_
    refine y_bipush dX12_family_100 rfl ?_
    refine (show X _ _ 102 _ _ _ _ _ _ from ?_)
    refine y_icmp_ge 118 dX12_family_102 (by decide) ⟨by omega, by omega⟩ ⟨by omega, by omega⟩ (fun h1 => ?_) (fun h1 => ?_)
    · exact X.drop 2 rfl (kk V (fun _ _ => rfl) (fun j hj => hv j (by omega)))
    · omega
  | succ d ih =>
    intro i V hi hv kk
    obtain ⟨m0, ⟨-, m15, -, -, -, -, -, -, -, -, -, -, -, -, -, -, -, -, -, -, -, -, -⟩, ⟨-, mk2, -, -, -, -, -, -, -, -, -, -, -, -, -, -, -, -, -, -, -, -, -⟩⟩ := id hM
    have ec : (i : Int) + 1 = ((i + 1 : Nat) : Int) := by omega
    refine x_iload_n dX12_family_99 rfl ?_
    refine y_bipush dX12_family_100 rfl ?_
    refine (show X _ _ 102 _ _ _ _ _ _ from ?_)
    refine y_icmp_ge 118 dX12_family_102 (by decide) ⟨by omega, by omega⟩ ⟨by omega, by omega⟩ (fun h1 => ?_) (fun h1 => ?_)
    · omega
    refine x_aload_n dX12_family_105 rfl ?_
    refine x_gr dX12_family_106 fX12_17 (by first | assumption) (fun _ _ _ => rfl) (by first | assumption) ?_
    refine x_iload_n dX12_family_109 rfl ?_
    refine y_iconst dX12_family_110 ?_
    refine y_iast (i) dX12_family_111 (by first | assumption) (by first | rfl | omega) (by omega) (by decide) ?_
    refine y_iinc dX12_family_112 rfl (by decide) rfl rfl ?_
    refine x_goto 99 dX12_family_115 (by decide) ?_
    refine (show X _ _ 99 _ _ _ _ _ _ from ?_)
    rw [ec]
    refine ih (i + 1) _ (by omega) (fun j hj => ?_) (fun V' h2 h3 => kk V' (fun b hb => by rw [h2 b hb, u2_n hb]) h3)
    rw [u2_s]
    by_cases hj2 : j = i
    · subst hj2; rw [u1_s]
    · rw [u1_n hj2]; exact hv j (by omega)
theorem fam_l2 {x : Int32} (hM : MSh T R r) (hG : FMS T R f) (hf : R r 3 = some f) (hap : r + 24 ≤ f) : ∀ (d i : Nat) (V : Nat → Nat → Int), i + d = 10 → (∀ V', (∀ b, b ≠ r + 2 → V' b = V b) → (∀ j, i ≤ j → j < 10 → V' (r + 2) (2 + j) = V (f + 7) j) → (∀ j, j < 2 + i ∨ 12 ≤ j → V' (r + 2) j = V (r + 2) j) → X g mX12_family 162 [.ref r, .int x, jk] [] (T, iV V', R, J, z) k n Q) → X g mX12_family 133 [.ref r, .int x, .int (iI (i : Int))] [] (T, iV V, R, J, z) k n Q := by
  intro d
  induction d with
  | zero =>
    intro i V hi kk
    obtain ⟨m0, ⟨-, m15, -, -, -, -, -, -, -, -, -, -, -, -, -, -, -, -, -, -, -, -, -⟩, ⟨-, mk2, -, -, -, -, -, -, -, -, -, -, -, -, -, -, -, -, -, -, -, -, -⟩⟩ := id hM
    obtain ⟨g0, ⟨-, -, -, -, -, -, g16, -, -, -, -, -, -, -, -, -, -, -, -, -, -, -, -⟩, ⟨-, -, -, -, -, -, gk7, -, -, -, -, -, -, -, -, -, -, -, -, -, -, -, -⟩⟩ := id hG
    refine x_iload_n dX12_family_133 rfl ?_
    refine y_bipush dX12_family_134 rfl ?_
    refine (show X _ _ 136 _ _ _ _ _ _ from ?_)
    refine y_icmp_ge 162 dX12_family_136 (by decide) ⟨by omega, by omega⟩ ⟨by omega, by omega⟩ (fun h1 => ?_) (fun h1 => ?_)
    · exact X.drop 2 rfl (kk V (fun _ _ => rfl) (fun j h1 h2 => by omega) (fun _ _ => rfl))
    · omega
  | succ d ih =>
    intro i V hi kk
    obtain ⟨m0, ⟨-, m15, -, -, -, -, -, -, -, -, -, -, -, -, -, -, -, -, -, -, -, -, -⟩, ⟨-, mk2, -, -, -, -, -, -, -, -, -, -, -, -, -, -, -, -, -, -, -, -, -⟩⟩ := id hM
    obtain ⟨g0, ⟨-, -, -, -, -, -, g16, -, -, -, -, -, -, -, -, -, -, -, -, -, -, -, -⟩, ⟨-, -, -, -, -, -, gk7, -, -, -, -, -, -, -, -, -, -, -, -, -, -, -, -⟩⟩ := id hG
    have ec : (i : Int) + 1 = ((i + 1 : Nat) : Int) := by omega
    have ec2 : (2 : Int) + (i : Int) = ((2 + i : Nat) : Int) := by omega
    refine x_iload_n dX12_family_133 rfl ?_
    refine y_bipush dX12_family_134 rfl ?_
    refine (show X _ _ 136 _ _ _ _ _ _ from ?_)
    refine y_icmp_ge 162 dX12_family_136 (by decide) ⟨by omega, by omega⟩ ⟨by omega, by omega⟩ (fun h1 => ?_) (fun h1 => ?_)
    · omega
    refine x_aload_n dX12_family_139 rfl ?_
    refine x_gr dX12_family_140 fX12_17 (by first | assumption) (fun _ _ _ => rfl) (by first | assumption) ?_
    refine y_iconst dX12_family_143 ?_
    refine x_iload_n dX12_family_144 rfl ?_
    refine y_iadd dX12_family_145 ?_
    refine x_aload_n dX12_family_146 rfl ?_
    refine x_gr dX12_family_147 fX12_409 (by first | assumption) (fun _ _ _ => rfl) (by first | assumption) ?_
    refine x_gr dX12_family_150 fX12_335 (by first | assumption) (fun _ _ _ => rfl) (by first | assumption) ?_
    refine (show X _ _ 153 _ _ _ _ _ _ from ?_)
    refine x_iload_n dX12_family_153 rfl ?_
    refine y_iald (i) dX12_family_154 (by first | assumption) (by first | rfl | omega) (by omega) (by decide) ?_
    refine y_iast (2 + i) dX12_family_155 (by first | assumption) (by first | rfl | omega) (by omega) (by decide) ?_
    refine y_iinc dX12_family_156 rfl (by decide) rfl rfl ?_
    refine x_goto 133 dX12_family_159 (by decide) ?_
    refine (show X _ _ 133 _ _ _ _ _ _ from ?_)
    rw [ec]
    refine ih (i + 1) _ (by omega) (fun V' h2 h3 h4 => kk V' (fun b hb => by rw [h2 b hb, u2_n hb]) (fun j a1 a2 => ?_) (fun j hj => ?_))
    · by_cases hj : j = i
      · subst hj
        rw [h4 (2 + j) (by omega), u2_s, u1_s]
      · rw [h3 j (by omega) a2, u2_n (by omega)]
    · rw [h4 j (by omega), u2_s, u1_n (by omega)]
end Ca1
