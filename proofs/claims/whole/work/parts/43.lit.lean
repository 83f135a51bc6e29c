/-! ===== the literals ===== -/
def wdOf (j p : Nat) : Int := ((bytStr.getD j []).getD p 0).toInt
theorem lit_len : ∀ j, j < 33 → lenStr.getD j 0 ≤ 8 := by decide
theorem lit_ch : ∀ j, j < 33 → ∀ p, p < lenStr.getD j 0 → chS j p = iI (wdOf j p) ∧ (0 ≤ wdOf j p ∧ wdOf j p ≤ 127) := by decide +kernel
theorem lit_nar {x : Int} (h : 0 ≤ x ∧ x ≤ 127) : narrow .char (.int (iI x)) = .int (iI x) := by
  obtain ⟨m, rfl⟩ : ∃ m : Nat, x = (m : Int) := ⟨x.toNat, (Int.toNat_of_nonneg h.1).symm⟩
  have hm : m < 128 := by omega
  have key : ∀ m, m < 128 → ((iI ((m : Nat) : Int)).toUInt32 % 65536).toInt32 = iI ((m : Nat) : Int) := by decide +kernel
  exact congrArg Value.int (key m hm)
theorem lit (j : Nat) (hj : j < 33) : Lit j (lenStr.getD j 0) (wdOf j) := ⟨hj, rfl, lit_len j hj, fun p hp => ⟨⟨(lit_ch j hj p hp).1, by rw [(lit_ch j hj p hp).1]; exact lit_nar (lit_ch j hj p hp).2⟩, (lit_ch j hj p hp).2⟩⟩
