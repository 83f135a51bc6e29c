/-! ===== String: charAt ===== -/
section C30
variable {g : GG} {M : Mem} {k n j p : Nat}
theorem c_checkI {a b : Int32} {v : Value} (h0 : ¬ a < 0) (h : a < b) : X g mJ3_checkIndex_8e157 0 [.int a, .int b, v] [] M k n (rI a M) := by
  refine x_iload_n dJ3_checkIndex_8e157_0 rfl ?_
  refine x_if_lt 9 dJ3_checkIndex_8e157_1 (by decide) (fun c => absurd c h0) (fun _ => ?_)
  refine x_iload_n dJ3_checkIndex_8e157_4 rfl ?_
  refine x_iload_n dJ3_checkIndex_8e157_5 rfl ?_
  refine x_icmp_lt 16 dJ3_checkIndex_8e157_6 (by decide) (fun _ => ?_) (fun c => absurd h c)
  refine x_iload_n dJ3_checkIndex_8e157_16 rfl ?_
  exact x_ireturn dJ3_checkIndex_8e157_17 rfl ⟨rfl, rfl⟩
theorem c_checkS {a b : Int32} (h0 : ¬ a < 0) (h : a < b) : X g mJ0_checkIndex_df160 0 [.int a, .int b] [] M k n (rV M) := by
  refine x_iload_n dJ0_checkIndex_df160_0 rfl ?_
  refine x_iload_n dJ0_checkIndex_df160_1 rfl ?_
  refine x_tsio dJ0_checkIndex_df160_2 fJ0_1053 (fun r => ?_)
  cases r with
  | none =>
    refine x_callS (As := [_, _, va_rf none]) (mc := 0) (ms := 0) (z := mJ3_checkIndex_8e157) dJ0_checkIndex_df160_5 lJ0_1059 oJ3_checkIndex_8e157 (by decide) rfl (Nat.le_of_ble_eq_true rfl) (Nat.le_of_ble_eq_true rfl) rfl (c_checkI h0 h) (k_I ?_)
    refine x_pop dJ0_checkIndex_df160_8 rfl ?_
    exact x_return dJ0_checkIndex_df160_9 rfl ⟨rfl, rfl⟩
  | some r =>
    refine x_callS (As := [_, _, va_rf (some r)]) (mc := 0) (ms := 0) (z := mJ3_checkIndex_8e157) dJ0_checkIndex_df160_5 lJ0_1059 oJ3_checkIndex_8e157 (by decide) rfl (Nat.le_of_ble_eq_true rfl) (Nat.le_of_ble_eq_true rfl) rfl (c_checkI h0 h) (k_I ?_)
    refine x_pop dJ0_checkIndex_df160_8 rfl ?_
    exact x_return dJ0_checkIndex_df160_9 rfl ⟨rfl, rfl⟩
def chS (j p : Nat) : Int32 := ((((bytStr.getD j []).getD p 0) &&& 255).toUInt32 % 65536).toInt32
theorem c_charAt1 {x : Int32} (hj : j < nStr) (hx : x = nI p) (hp : p < lenStr.getD j 0) (hN : lenStr.getD j 0 < 2 ^ 31) (h0 : ¬ x < 0) (h : x < nI (lenStr.getD j 0)) (hc : narrow .char (.int (chS j p)) = .int (chS j p)) : X g mJ1_charAt_3b067 0 [.ref (g.2.2.2.1 j), .int x] [] M k n (rI (chS j p) M) := by
  refine x_iload_n dJ1_charAt_3b067_0 rfl ?_
  refine x_aload_n dJ1_charAt_3b067_1 rfl ?_
  refine x_tlen dJ1_charAt_3b067_2 hj ?_
  refine x_callS (As := [_, _]) (mc := 0) (ms := 0) (z := mJ0_checkIndex_df160) dJ1_charAt_3b067_3 lJ1_9 oJ0_checkIndex_df160 (by decide) rfl (Nat.le_of_ble_eq_true rfl) (Nat.le_of_ble_eq_true rfl) rfl (c_checkS h0 h) (k_V ?_)
  refine x_aload_n dJ1_charAt_3b067_6 rfl ?_
  refine x_iload_n dJ1_charAt_3b067_7 rfl ?_
  refine x_tald dJ1_charAt_3b067_8 hj hx hp hN ?_
  refine x_sipush 255 dJ1_charAt_3b067_9 rfl ?_
  refine x_iand dJ1_charAt_3b067_12 ?_
  refine x_i2c dJ1_charAt_3b067_13 ?_
  exact x_ret (v := some (.int (chS j p))) ⟨dJ1_charAt_3b067_14, .char, rfl, hc⟩ rfl ⟨rfl, rfl⟩
theorem c_charAt {x : Int32} (hj : j < nStr) (hx : x = nI p) (hp : p < lenStr.getD j 0) (hN : lenStr.getD j 0 < 2 ^ 31) (h0 : ¬ x < 0) (h : x < nI (lenStr.getD j 0)) (hc : narrow .char (.int (chS j p)) = .int (chS j p)) : X g mJ0_charAt_5068e 0 [.ref (g.2.2.1 j), .int x] [] M k n (rI (chS j p) M) := by
  refine x_aload_n dJ0_charAt_5068e_0 rfl ?_
  refine x_callT (As := []) (mc := 0) (ms := 0) (z := mJ0_isLatin1_aae02) dJ0_charAt_5068e_1 lJ0_492 oJ0_isLatin1_aae02 (by decide) hj rfl rfl (Nat.le_of_ble_eq_true rfl) (Nat.le_of_ble_eq_true rfl) rfl (c_isLatin1 hj) (k_I ?_)
  refine x_if_eq 16 dJ0_charAt_5068e_4 (by decide) (fun h => absurd h (by decide)) (fun _ => ?_)
  refine x_aload_n dJ0_charAt_5068e_7 rfl ?_
  refine x_tval dJ0_charAt_5068e_8 fJ0_9 hj ?_
  refine x_iload_n dJ0_charAt_5068e_11 rfl ?_
  refine x_callS (As := [_, _]) (mc := 0) (ms := 0) (z := mJ1_charAt_3b067) dJ0_charAt_5068e_12 lJ0_495 oJ1_charAt_3b067 (by decide) rfl (Nat.le_of_ble_eq_true rfl) (Nat.le_of_ble_eq_true rfl) rfl (c_charAt1 hj hx hp hN h0 h hc) (k_I ?_)
  exact x_ret (v := some (.int (chS j p))) ⟨dJ0_charAt_5068e_15, .char, rfl, hc⟩ rfl ⟨rfl, rfl⟩
end C30
