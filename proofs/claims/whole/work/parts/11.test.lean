theorem t_has (g : GG) (b p : Nat) (M : Mem) (k n : Nat) (hb : b < 2 ^ 31) (hp : p < 31) : X g mX10_has 0 [.int (iI b), .int (iI p)] [] M k n (rI (iI (bI (b.testBit p))) M) := by
  refine x_iload_n dX10_has_0 rfl ?_
  refine x_iload_n dX10_has_1 rfl ?_
  refine y_bit _ dX10_has_2 dX10_has_3 dX10_has_4 rfl (by omega) (by omega) ?_
  refine (show X _ _ 5 _ _ _ _ _ _ from ?_)
  refine y_ifb_eq 12 dX10_has_5 (by decide) (fun h => ?_) (fun h => ?_)
  · refine y_iconst dX10_has_12 ?_
    refine (show X _ _ 13 _ _ _ _ _ _ from ?_)
    rw [h]
    exact x_zreturn dX10_has_13 rfl (by first | rfl | exact bI_nar _) ⟨rfl, rfl⟩
  · refine y_iconst dX10_has_8 ?_
    refine x_goto 13 dX10_has_9 (by decide) ?_
    refine (show X _ _ 13 _ _ _ _ _ _ from ?_)
    rw [h]
    exact x_zreturn dX10_has_13 rfl (by first | rfl | exact bI_nar _) ⟨rfl, rfl⟩
theorem t_pay (g : GG) (T : Nat → Nat × Nat) (V : Nat → Nat → Int) (R : Nat → Nat → Option Nat) (J : Nat → Nat → Int64) (z r s b : Nat) (pr : Int) (k n : Nat) (h1 : T r = (18, 0)) (h2 : R r 13 = some (r + 3)) (h3 : T (r + 3) = (1, 10)) (hs : s < 10) (hb : b < 10) : X g mX8_pay 0 [.ref r, .int (iI s), .int (iI b), .int (iI pr)] [] (T, iV V, R, J, z) k n (rI (iI b) (T, iV (u2 (u2 V (r + 3) s (V (r + 3) s - pr)) (r + 3) b (u2 V (r + 3) s (V (r + 3) s - pr) (r + 3) b + pr)), R, J, z)) := by
  refine x_aload_n dX8_pay_0 rfl ?_
  refine x_gr dX8_pay_1 fX8_50 (by assumption) (fun _ _ _ => rfl) (by assumption) ?_
  refine x_iload_n dX8_pay_4 rfl ?_
  refine x_dup2 dX8_pay_5 rfl rfl ?_
  refine y_iald (s) dX8_pay_6 (by assumption) (by first | rfl | omega) (by omega) (by decide) ?_
  refine x_iload_n dX8_pay_7 rfl ?_
  refine y_isub dX8_pay_8 ?_
  refine y_iast (s) dX8_pay_9 (by assumption) (by first | rfl | omega) (by omega) (by decide) ?_
  refine (show X _ _ 10 _ _ _ _ _ _ from ?_)
  refine x_aload_n dX8_pay_10 rfl ?_
  refine x_gr dX8_pay_11 fX8_50 (by assumption) (fun _ _ _ => rfl) (by assumption) ?_
  refine x_iload_n dX8_pay_14 rfl ?_
  refine x_dup2 dX8_pay_15 rfl rfl ?_
  refine y_iald (b) dX8_pay_16 (by assumption) (by first | rfl | omega) (by omega) (by decide) ?_
  refine x_iload_n dX8_pay_17 rfl ?_
  refine y_iadd dX8_pay_18 ?_
  refine y_iast (b) dX8_pay_19 (by assumption) (by first | rfl | omega) (by omega) (by decide) ?_
  refine (show X _ _ 20 _ _ _ _ _ _ from ?_)
  refine x_iload_n dX8_pay_20 rfl ?_
  refine (show X _ _ 21 _ _ _ _ _ _ from ?_)
  exact x_ireturn dX8_pay_21 rfl ⟨rfl, rfl⟩
