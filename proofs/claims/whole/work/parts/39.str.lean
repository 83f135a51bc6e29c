/-! ===== String: length ===== -/
section C29
variable {g : GG} {M : Mem} {k n j : Nat}
theorem c_coder (hj : j < nStr) : X g mJ0_coder_7d493 0 [.ref (g.2.2.1 j)] [] M k n (rI 0 M) := by
  refine x_tcom dJ0_coder_7d493_0 fJ0_38 ?_
  refine x_if_eq 13 dJ0_coder_7d493_3 (by decide) (fun h => absurd h (by decide)) (fun _ => ?_)
  refine x_aload_n dJ0_coder_7d493_6 rfl ?_
  refine x_tcod dJ0_coder_7d493_7 fJ0_15 hj ?_
  refine x_goto 14 dJ0_coder_7d493_10 (by decide) ?_
  exact x_ret (v := some (.int 0)) ⟨dJ0_coder_7d493_14, .byte, rfl, rfl⟩ rfl ⟨rfl, rfl⟩
theorem c_isLatin1 (hj : j < nStr) : X g mJ0_isLatin1_aae02 0 [.ref (g.2.2.1 j)] [] M k n (rI 1 M) := by
  refine x_tcom dJ0_isLatin1_aae02_0 fJ0_38 ?_
  refine x_if_eq 17 dJ0_isLatin1_aae02_3 (by decide) (fun h => absurd h (by decide)) (fun _ => ?_)
  refine x_aload_n dJ0_isLatin1_aae02_6 rfl ?_
  refine x_tcod dJ0_isLatin1_aae02_7 fJ0_15 hj ?_
  refine x_if_ne 17 dJ0_isLatin1_aae02_10 (by decide) (fun h => absurd rfl h) (fun _ => ?_)
  refine x_iconst 1 dJ0_isLatin1_aae02_13 rfl ?_
  refine x_goto 18 dJ0_isLatin1_aae02_14 (by decide) ?_
  exact x_zreturn dJ0_isLatin1_aae02_18 rfl rfl ⟨rfl, rfl⟩
theorem c_strLen (hj : j < nStr) : X g mJ0_length_8abf5 0 [.ref (g.2.2.1 j)] [] M k n (rI (nI (lenStr.getD j 0)) M) := by
  refine x_aload_n dJ0_length_8abf5_0 rfl ?_
  refine x_tval dJ0_length_8abf5_1 fJ0_9 hj ?_
  refine x_tlen dJ0_length_8abf5_4 hj ?_
  refine x_aload_n dJ0_length_8abf5_5 rfl ?_
  refine x_callT (As := []) (mc := 0) (ms := 0) (z := mJ0_coder_7d493) dJ0_length_8abf5_6 lJ0_335 oJ0_coder_7d493 (by decide) hj rfl rfl (Nat.le_of_ble_eq_true rfl) (Nat.le_of_ble_eq_true rfl) rfl (c_coder hj) (k_I ?_)
  refine x_ishr dJ0_length_8abf5_9 ?_
  refine x_ireturn dJ0_length_8abf5_10 rfl ⟨?_, rfl⟩
  congr 2
  simp
end C29
