/-! ===== the reference: feed, its bytes ===== -/
section Ca4
variable {g : GG} {T : Nat → Nat × Nat} {V : Nat → Nat → Int} {R : Nat → Nat → Option Nat} {J : Nat → Nat → Int64} {z k n : Nat} {r : Nat} {Q : Option Value → Mem → Prop} {w1 w2 w3 w4 w5 : Int32}
/-- the word of which the i-th byte is fed -/
def fdSel (w1 w2 w3 w4 w5 : Int32) (i : Nat) : Int32 := if i < 4 then w1 else if i < 8 then w2 else if i < 12 then w3 else if i < 16 then w4 else w5
def fdB (V V' : Nat → Nat → Int) (r p : Nat) (x : Int) : Prop := V' (r + 1) = u1 (V (r + 1)) p x ∧ V' r 6 = ((p + 1 : Nat) : Int) ∧ (∀ b, b ≠ r → b ≠ r + 1 → V' b = V b) ∧ ∀ c, c ≠ 6 → V' r c = V r c
theorem fd_st {w : Int32} {c7 : Value} {i p : Nat} (hM : MSh T R r) (hi : i < 20) (hp : V r 6 = (p : Int)) (hp2 : p < 1100) (ho : okp [.ref r, .int w1, .int w2, .int w3, .int w4, .int w5, .int (iI (i : Int)), c7] 7 = true) (kk : ∀ V', fdB V V' r p (byI w (24 - 8 * ((i : Int) % 4))) → X g mX12_feed 23 [.ref r, .int w1, .int w2, .int w3, .int w4, .int w5, .int (iI ((i + 1 : Nat) : Int)), .int w] [] (T, iV V', R, J, z) k n Q) : X g mX12_feed 76 [.ref r, .int w1, .int w2, .int w3, .int w4, .int w5, .int (iI (i : Int)), c7] [.int w] (T, iV V, R, J, z) k n Q := by
  obtain ⟨m0, ⟨m5, -⟩, ⟨mk1, -⟩⟩ := id hM
  have ec : (i : Int) + 1 = ((i + 1 : Nat) : Int) := by omega
  refine x_istore dX12_feed_76 (by decide) ho rfl ?_
  refine (show X _ _ 78 _ _ _ _ _ _ from ?_)
  refine x_aload_n dX12_feed_78 rfl ?_
  refine x_gr dX12_feed_79 fX12_13 (by first | assumption) (fun _ _ _ => rfl) (by first | assumption) ?_
  refine x_aload_n dX12_feed_82 rfl ?_
  refine y_gi dX12_feed_83 fX12_402 (by first | assumption) (fun _ _ _ => rfl) ?_
  refine (show X _ _ 86 _ _ _ _ _ _ from ?_)
  refine X.val hp ?_
  refine x_iload dX12_feed_86 rfl ?_
  refine y_bipush dX12_feed_88 rfl ?_
  refine y_bipush dX12_feed_90 rfl ?_
  refine x_iload dX12_feed_92 rfl ?_
  refine y_iconst dX12_feed_94 ?_
  refine y_irem dX12_feed_95 ⟨by omega, by omega⟩ ⟨by omega, by omega⟩ (by omega) (by omega) ?_
  refine y_imul dX12_feed_96 ?_
  refine y_isub dX12_feed_97 ?_
  refine (show X _ _ 98 _ _ _ _ _ _ from ?_)
  refine x_ishr dX12_feed_98 ?_
  refine x_i2b dX12_feed_99 ?_
  rw [by_sh w (24 - 8 * ((i : Int) % 4)) (by omega)]
  refine x_bast dX12_feed_100 mk1 (ix_nat rfl) hp2 (by decide) ?_
  have eb : (((w.toUInt32 >>> ((iI (24 - 8 * ((i : Int) % 4))).toUInt32 &&& Int32.toUInt32 31)).toInt32.toInt8.toInt32).toInt8.toInt32) = iI (byI w (24 - 8 * ((i : Int) % 4))) := (iI_of _).symm
  rw [eb, iV_u2]
  refine (show X _ _ 101 _ _ _ _ _ _ from ?_)
  refine x_aload_n dX12_feed_101 rfl ?_
  refine x_dup dX12_feed_102 rfl ?_
  refine y_gi dX12_feed_103 fX12_402 (by first | assumption) (fun _ _ _ => rfl) ?_
  refine (show X _ _ 106 _ _ _ _ _ _ from ?_)
  refine X.val (b := (p : Int)) (by rw [u2_n (by omega)]; exact hp) ?_
  refine y_iconst dX12_feed_106 ?_
  refine y_iadd dX12_feed_107 ?_
  refine y_pi dX12_feed_108 (pX12_402 _) (by first | assumption) (fun _ _ _ => rfl) rfl rfl ?_
  refine y_iinc dX12_feed_111 rfl (by decide) rfl rfl ?_
  refine x_goto 23 dX12_feed_114 (by decide) ?_
  refine (show X _ _ 23 _ _ _ _ _ _ from ?_)
  rw [ec]
  refine kk _ ⟨?_, ?_, fun b h1 h2 => ?_, fun c hc => ?_⟩
  · rw [u2_n (by omega), u2_s]
  · rw [u2_s, u1_s]; omega
  · rw [u2_n h1, u2_n h2]
  · rw [u2_s, u1_n hc, u2_n (by omega)]
theorem fd_go {c7 : Value} {i p : Nat} (hM : MSh T R r) (hi : i < 20) (hp : V r 6 = (p : Int)) (hp2 : p < 1100) (ho : okp [.ref r, .int w1, .int w2, .int w3, .int w4, .int w5, .int (iI (i : Int)), c7] 7 = true) (kk : ∀ V', fdB V V' r p (byI (fdSel w1 w2 w3 w4 w5 i) (24 - 8 * ((i : Int) % 4))) → X g mX12_feed 23 [.ref r, .int w1, .int w2, .int w3, .int w4, .int w5, .int (iI ((i + 1 : Nat) : Int)), .int (fdSel w1 w2 w3 w4 w5 i)] [] (T, iV V', R, J, z) k n Q) : X g mX12_feed 23 [.ref r, .int w1, .int w2, .int w3, .int w4, .int w5, .int (iI (i : Int)), c7] [] (T, iV V, R, J, z) k n Q := by
  have st := fun (w : Int32) (kk : ∀ V', fdB V V' r p (byI w (24 - 8 * ((i : Int) % 4))) → X g mX12_feed 23 [.ref r, .int w1, .int w2, .int w3, .int w4, .int w5, .int (iI ((i + 1 : Nat) : Int)), .int w] [] (T, iV V', R, J, z) k n Q) => fd_st (g := g) (J := J) (z := z) (k := k) (n := n) (w := w) (c7 := c7) (i := i) (p := p) hM hi hp hp2 ho kk
  unfold fdSel at kk
  refine x_iload dX12_feed_23 rfl ?_
  refine y_bipush dX12_feed_25 rfl ?_
  refine (show X _ _ 27 _ _ _ _ _ _ from ?_)
  refine y_icmp_ge 117 dX12_feed_27 (by decide) ⟨by omega, by omega⟩ ⟨by omega, by omega⟩ (fun h0 => ?_) (fun h0 => ?_)
  · omega
  refine x_iload dX12_feed_30 rfl ?_
  refine y_iconst dX12_feed_32 ?_
  refine (show X _ _ 33 _ _ _ _ _ _ from ?_)
  refine y_icmp_ge 40 dX12_feed_33 (by decide) ⟨by omega, by omega⟩ ⟨by omega, by omega⟩ (fun h1 => ?_) (fun h1 => ?_)
  rotate_left
  · rw [if_pos (by omega)] at kk
    refine x_iload_n dX12_feed_36 rfl ?_
    refine x_goto 76 dX12_feed_37 (by decide) ?_
    refine (show X _ _ 76 _ _ _ _ _ _ from ?_)
    exact st w1 kk
  rw [if_neg (by omega)] at kk
  refine x_iload dX12_feed_40 rfl ?_
  refine y_bipush dX12_feed_42 rfl ?_
  refine (show X _ _ 44 _ _ _ _ _ _ from ?_)
  refine y_icmp_ge 51 dX12_feed_44 (by decide) ⟨by omega, by omega⟩ ⟨by omega, by omega⟩ (fun h2 => ?_) (fun h2 => ?_)
  rotate_left
  · rw [if_pos (by omega)] at kk
    refine x_iload_n dX12_feed_47 rfl ?_
    refine x_goto 76 dX12_feed_48 (by decide) ?_
    refine (show X _ _ 76 _ _ _ _ _ _ from ?_)
    exact st w2 kk
  rw [if_neg (by omega)] at kk
  refine x_iload dX12_feed_51 rfl ?_
  refine y_bipush dX12_feed_53 rfl ?_
  refine (show X _ _ 55 _ _ _ _ _ _ from ?_)
  refine y_icmp_ge 62 dX12_feed_55 (by decide) ⟨by omega, by omega⟩ ⟨by omega, by omega⟩ (fun h3 => ?_) (fun h3 => ?_)
  rotate_left
  · rw [if_pos (by omega)] at kk
    refine x_iload_n dX12_feed_58 rfl ?_
    refine x_goto 76 dX12_feed_59 (by decide) ?_
    refine (show X _ _ 76 _ _ _ _ _ _ from ?_)
    exact st w3 kk
  rw [if_neg (by omega)] at kk
  refine x_iload dX12_feed_62 rfl ?_
  refine y_bipush dX12_feed_64 rfl ?_
  refine (show X _ _ 66 _ _ _ _ _ _ from ?_)
  refine y_icmp_ge 74 dX12_feed_66 (by decide) ⟨by omega, by omega⟩ ⟨by omega, by omega⟩ (fun h4 => ?_) (fun h4 => ?_)
  rotate_left
  · rw [if_pos (by omega)] at kk
    refine x_iload dX12_feed_69 rfl ?_
    refine x_goto 76 dX12_feed_71 (by decide) ?_
    refine (show X _ _ 76 _ _ _ _ _ _ from ?_)
    exact st w4 kk
  rw [if_neg (by omega)] at kk
  refine x_iload dX12_feed_74 rfl ?_
  refine (show X _ _ 76 _ _ _ _ _ _ from ?_)
  exact st w5 kk
end Ca4
