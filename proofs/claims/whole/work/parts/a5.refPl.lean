/-! ===== the reference: feed ===== -/
def fdT (t : Nat → Int) (tp : Nat) (w1 w2 w3 w4 w5 : Int32) (i : Nat) : Nat → Int := lp i (fun j u => u1 u (tp + j) (byI (fdSel w1 w2 w3 w4 w5 j) (24 - 8 * ((j : Int) % 4)))) t
theorem fdT_20 (t : Nat → Int) (tp : Nat) (w1 w2 w3 w4 w5 : Int32) : fdT t tp w1 w2 w3 w4 w5 20 = pu4 (pu4 (pu4 (pu4 (pu4 t tp w1) (tp + 4) w2) (tp + 8) w3) (tp + 12) w4) (tp + 16) w5 := rfl
section Ca5
variable {g : GG} {T : Nat → Nat × Nat} {V E A B : Nat → Nat → Int} {R : Nat → Nat → Option Nat} {J : Nat → Nat → Int64} {z k n : Nat} {r f : Nat} {t : Nat → Int} {tp : Nat} {h : Bool} {a m : Nat} {H K : Nat → Nat → Nat → Int} {wr pl tr : Int} {w1 w2 w3 w4 w5 : Int32}
theorem fd_lp {V0 : Nat → Nat → Int} (hM : MSh T R r) (h0 : tp ≤ 1080) : ∀ (d i : Nat) (V : Nat → Nat → Int) (c7 : Value), i + d = 20 → okp [.ref r, .int w1, .int w2, .int w3, .int w4, .int w5, .int (iI (i : Int)), c7] 7 = true → V (r + 1) = fdT t tp w1 w2 w3 w4 w5 i → V r 6 = ((tp + i : Nat) : Int) → (∀ b, b ≠ r → b ≠ r + 1 → V b = V0 b) → (∀ c, c ≠ 6 → V r c = V0 r c) → X g mX12_feed 23 [.ref r, .int w1, .int w2, .int w3, .int w4, .int w5, .int (iI (i : Int)), c7] [] (T, iV V, R, J, z) k n (fun v M => v = some (.int (iI ((tp + 20 : Nat) : Int))) ∧ ∃ V', M = (T, iV V', R, J, z) ∧ V' (r + 1) = fdT t tp w1 w2 w3 w4 w5 20 ∧ V' r 6 = ((tp + 20 : Nat) : Int) ∧ (∀ b, b ≠ r → b ≠ r + 1 → V' b = V0 b) ∧ ∀ c, c ≠ 6 → V' r c = V0 r c) := by
  intro d
  induction d with
  | zero =>
    intro i V c7 hi ho ht h6 hf hc
    have m0 := hM.1
    obtain rfl : i = 20 := by omega
    refine x_iload dX12_feed_23 rfl ?_
    refine y_bipush dX12_feed_25 rfl ?_
    refine (show X _ _ 27 _ _ _ _ _ _ from ?_)
    refine y_icmp_ge 117 dX12_feed_27 (by decide) ⟨by omega, by omega⟩ ⟨by omega, by omega⟩ (fun h1 => ?_) (fun h1 => ?_)
    · refine x_aload_n dX12_feed_117 rfl ?_
      refine y_gi dX12_feed_118 fX12_402 (by first | assumption) (fun _ _ _ => rfl) ?_
      refine (show X _ _ 121 _ _ _ _ _ _ from ?_)
      refine X.val h6 ?_
      exact x_ireturn dX12_feed_121 rfl ⟨rfl, V, rfl, ht, h6, hf, hc⟩
    · omega
  | succ d ih =>
    intro i V c7 hi ho ht h6 hf hc
    refine fd_go hM (by omega) h6 (by omega) ho (fun V' hb => ?_)
    obtain ⟨q1, q2, q3, q4⟩ := hb
    refine ih (i + 1) V' _ (by omega) rfl ?_ (by rw [q2]; rfl) (fun b h1 h2 => (q3 b h1 h2).trans (hf b h1 h2)) (fun c h => (q4 c h).trans (hc c h))
    rw [q1, ht]
    rfl
theorem k_feed1 (hI : DI T R V r f E t tp h A B a m H K wr pl tr) (h0 : 1080 < tp) : X g mX12_feed 0 [.ref r, .int w1, .int w2, .int w3, .int w4, .int w5, jk, jk] [] (T, iV (pB V r 24 E), R, J, z) k n (DQ T R J z V r f (some (.int (iI (-1)))) t tp h A B a m H K wr pl tr) := by
  have hI1 := DI_sc hI (E' := u2 E 0 0 0) ⟨fun b hb => by rw [u2_n (by omega)], fun c hc => by rw [u2_s, u1_n (by omega)], by rw [u2_s, u1_n (by decide)]; exact hI.2.2.2.2.1⟩
  obtain ⟨hM, -, ⟨-, d6, d7⟩, -⟩ := id hI1
  have m0 := hM.1
  refine x_aload_n dX12_feed_0 rfl ?_
  refine y_iconst dX12_feed_1 ?_
  refine b_pi0 (r := r) (m := 24) dX12_feed_2 (pX12_85 _) (by first | assumption) (fun _ _ _ => rfl) rfl rfl (by decide) ?_
  refine x_aload_n dX12_feed_5 rfl ?_
  refine b_gi0 (r := r) (m := 24) dX12_feed_6 fX12_402 (by first | assumption) (fun _ _ _ => rfl) (by decide) ?_
  refine (show X _ _ 9 _ _ _ _ _ _ from ?_)
  refine X.val d6 ?_
  refine y_bipush dX12_feed_9 rfl ?_
  refine y_iadd dX12_feed_11 ?_
  refine y_sipush dX12_feed_12 rfl ?_
  refine (show X _ _ 15 _ _ _ _ _ _ from ?_)
  refine y_icmp_le 20 dX12_feed_15 (by decide) ⟨by omega, by omega⟩ ⟨by omega, by omega⟩ (fun h1 => ?_) (fun h1 => ?_)
  · omega
  refine y_iconst dX12_feed_18 ?_
  refine (show X _ _ 19 _ _ _ _ _ _ from ?_)
  exact x_ireturn dX12_feed_19 rfl ⟨rfl, _, rfl, hI1⟩
theorem k_feed (hI : DI T R V r f E t tp h A B a m H K wr pl tr) (h0 : tp ≤ 1080) : X g mX12_feed 0 [.ref r, .int w1, .int w2, .int w3, .int w4, .int w5, jk, jk] [] (T, iV (pB V r 24 E), R, J, z) k n (DQ T R J z V r f (some (.int (iI ((tp + 20 : Nat) : Int)))) (pu4 (pu4 (pu4 (pu4 (pu4 t tp w1) (tp + 4) w2) (tp + 8) w3) (tp + 12) w4) (tp + 16) w5) (tp + 20) h A B a m H K wr pl tr) := by
  have hI1 := DI_sc hI (E' := u2 E 0 0 0) ⟨fun b hb => by rw [u2_n (by omega)], fun c hc => by rw [u2_s, u1_n (by omega)], by rw [u2_s, u1_n (by decide)]; exact hI.2.2.2.2.1⟩
  obtain ⟨hM, ⟨d1, d2, d3⟩, ⟨d5, d6, d7⟩, ⟨⟨d8, d9⟩, d10, d11⟩, d12, d13, d14⟩ := id hI1
  have m0 := hM.1
  refine x_aload_n dX12_feed_0 rfl ?_
  refine y_iconst dX12_feed_1 ?_
  refine b_pi0 (r := r) (m := 24) dX12_feed_2 (pX12_85 _) (by first | assumption) (fun _ _ _ => rfl) rfl rfl (by decide) ?_
  refine x_aload_n dX12_feed_5 rfl ?_
  refine b_gi0 (r := r) (m := 24) dX12_feed_6 fX12_402 (by first | assumption) (fun _ _ _ => rfl) (by decide) ?_
  refine (show X _ _ 9 _ _ _ _ _ _ from ?_)
  refine X.val d6 ?_
  refine y_bipush dX12_feed_9 rfl ?_
  refine y_iadd dX12_feed_11 ?_
  refine y_sipush dX12_feed_12 rfl ?_
  refine (show X _ _ 15 _ _ _ _ _ _ from ?_)
  refine y_icmp_le 20 dX12_feed_15 (by decide) ⟨by omega, by omega⟩ ⟨by omega, by omega⟩ (fun h1 => ?_) (fun h1 => ?_)
  rotate_left
  · omega
  refine y_iconst dX12_feed_20 ?_
  refine x_istore dX12_feed_21 (by decide) rfl rfl ?_
  refine (show X _ _ 23 _ _ _ _ _ _ from ?_)
  generalize u2 E 0 0 0 = E1 at *
  refine X.mono (fd_lp (t := t) (tp := tp) (V0 := pB V r 24 E1) hM h0 20 0 (pB V r 24 E1) jk (by omega) rfl (by rw [pB_at (by decide)]; exact d5) (by rw [pB_0 (by decide)]; exact d6) (fun _ _ _ => rfl) (fun _ _ => rfl)) ?_
  rintro v M ⟨rfl, V', rfl, q1, q2, q3, q4⟩
  have eV : V' = pB V r 24 (fun j => V' (r + j)) := pB_of (fun b hb => by rw [q3 b (by omega) (by omega), pB_out hb])
  have ec : ∀ c, c ≠ 6 → V' (r + 0) c = E1 0 c := fun c hc => by rw [show V' (r + 0) c = V' r c from rfl, q4 c hc, pB_0 (by decide)]
  have er : ∀ b, b ≠ 0 → b ≠ 1 → b < 24 → V' (r + b) = E1 b := fun b h1 h2 h3 => by rw [q3 _ (by omega) (by omega), pB_at h3]
  refine ⟨rfl, fun j => V' (r + j), by rw [← eV], hM, ⟨?_, ?_, ?_⟩, ⟨?_, ?_, by omega⟩, ⟨⟨?_, d9⟩, ?_, d11⟩, ?_, d13, fun hh => ?_⟩
  · exact (ec 1 (by decide)).trans d1
  · exact (ec 2 (by decide)).trans d2
  · exact (ec 12 (by decide)).trans d3
  · exact q1.trans (fdT_20 t tp w1 w2 w3 w4 w5)
  · exact q2
  · exact (ec 18 (by decide)).trans d8
  · exact (ec 19 (by decide)).trans d10
  · show -2 ≤ V' (r + 0) 43 ∧ V' (r + 0) 43 ≤ 9
    rw [ec 43 (by decide)]; exact d12
  · obtain ⟨w1, w2, w6, w7, w8⟩ := d14 hh
    refine ⟨w1, w2, ?_, ?_, ?_⟩
    · rw [show (fun j => V' (r + j)) 2 = E1 2 from er 2 (by decide) (by decide) (by decide)]; exact w6
    · rw [show (fun j => V' (r + j)) 3 = E1 3 from er 3 (by decide) (by decide) (by decide)]; exact w7
    · rw [show (fun j => V' (r + j)) 4 = E1 4 from er 4 (by decide) (by decide) (by decide)]; exact w8
end Ca5
