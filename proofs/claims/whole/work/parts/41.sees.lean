/-! ===== Reader: sees ===== -/
/-- whether d bytes from a are those of a word from p on -/
def swF (t wd : Nat → Int) : Nat → Nat → Nat → Bool
  | 0, _, _ => true
  | d + 1, a, p => if t a = wd p then swF t wd d (a + 1) (p + 1) else false
/-- the j-th literal is the word wd of ln letters -/
def Lit (j ln : Nat) (wd : Nat → Int) : Prop := j < nStr ∧ lenStr.getD j 0 = ln ∧ ln ≤ 8 ∧ ∀ p, p < ln → (chS j p = iI (wd p) ∧ narrow .char (.int (chS j p)) = .int (chS j p)) ∧ (0 ≤ wd p ∧ wd p ≤ 127)
def seB (V : Nat → Nat → Int) (rd tx : Nat) (ln : Nat) (wd : Nat → Int) : Bool := if V rd 7 = 1 ∧ V rd 9 = (ln : Int) then swF (V tx) wd ln (V rd 8).toNat 0 else false
section C31
variable {g : GG} {T : Nat → Nat × Nat} {V : Nat → Nat → Int} {R : Nat → Nat → Option Nat} {J : Nat → Nat → Int64} {z k n : Nat} {rd tx st j ln : Nat} {wd : Nat → Int}
theorem c_sees (hS : DS T R rd tx) (hL : Lit j ln wd) (h7 : 0 ≤ V rd 7 ∧ V rd 7 ≤ 4) (h9 : 0 ≤ V rd 9 ∧ V rd 9 ≤ 1100) (h8 : V rd 8 = (st : Int)) (hs : V rd 7 = 1 → (st : Int) + V rd 9 ≤ 1100) (ht : ∀ i, i < 1100 → -128 ≤ V tx i ∧ V tx i ≤ 127) : X g mX6_sees 0 [.ref rd, .ref (g.2.2.1 j), jk] [] (T, iV V, R, J, z) k n (rI (iI (bI (seB V rd tx ln wd))) (T, iV V, R, J, z)) := by
  obtain ⟨hj, hl, hl8, hw⟩ := hL
  obtain ⟨s0, s1, s2⟩ := hS
  have en : nI (lenStr.getD j 0) = iI (ln : Int) := by rw [hl]; exact (ix_nat rfl).symm
  have cl := c_strLen (g := g) (M := (T, iV V, R, J, z)) (k := 0) (n := 0) hj
  rw [en] at cl
  have cc : ∀ p, p < ln → X g mJ0_charAt_5068e 0 [.ref (g.2.2.1 j), .int (iI (p : Int))] [] (T, iV V, R, J, z) 0 0 (rI (iI (wd p)) (T, iV V, R, J, z)) := fun p hp => by
    have c := c_charAt (g := g) (M := (T, iV V, R, J, z)) (k := 0) (n := 0) (x := iI (p : Int)) hj (ix_nat rfl) (by omega) (by omega) (fun h => by have := (iI_lt (b := 0) ⟨by omega, by omega⟩ ⟨by omega, by omega⟩).mp h; omega) (by rw [en]; exact (iI_lt ⟨by omega, by omega⟩ ⟨by omega, by omega⟩).mpr (by omega)) (hw p hp).1.2
    rw [(hw p hp).1.1] at c
    exact c
  unfold seB
  rw [h8, Int.toNat_natCast]
  refine x_aload_n dX6_sees_0 rfl ?_
  refine y_gi dX6_sees_1 fX6_38 (by first | assumption) (fun _ _ _ => rfl) ?_
  refine y_iconst dX6_sees_4 ?_
  refine (show X _ _ 5 _ _ _ _ _ _ from ?_)
  refine y_icmp_ne 19 dX6_sees_5 (by decide) ⟨by omega, by omega⟩ ⟨by omega, by omega⟩ (fun h1 => ?_) (fun h1 => ?_)
  · rw [if_neg (fun c => h1 c.1)]
    refine y_iconst dX6_sees_19 ?_
    refine (show X _ _ 20 _ _ _ _ _ _ from ?_)
    exact x_zreturn dX6_sees_20 rfl rfl ⟨rfl, rfl⟩
  have hs := hs h1
  refine x_aload_n dX6_sees_8 rfl ?_
  refine y_gi dX6_sees_9 fX6_44 (by first | assumption) (fun _ _ _ => rfl) ?_
  refine x_aload_n dX6_sees_12 rfl ?_
  refine (show X _ _ 13 _ _ _ _ _ _ from ?_)
  refine x_callT (As := []) (mc := 0) (ms := 0) dX6_sees_13 lX6_103 oJ0_length_8abf5 (by decide) (by first | assumption) rfl rfl (Nat.le_of_ble_eq_true rfl) (Nat.le_of_ble_eq_true rfl) rfl (cl) (k_I ?_)
  refine (show X _ _ 16 _ _ _ _ _ _ from ?_)
  refine y_icmp_eq 21 dX6_sees_16 (by decide) ⟨by omega, by omega⟩ ⟨by omega, by omega⟩ (fun h2 => ?_) (fun h2 => ?_)
  rotate_left
  · rw [if_neg (fun c => h2 c.2)]
    refine y_iconst dX6_sees_19 ?_
    refine (show X _ _ 20 _ _ _ _ _ _ from ?_)
    exact x_zreturn dX6_sees_20 rfl rfl ⟨rfl, rfl⟩
  rw [if_pos ⟨h1, h2⟩]
  have k1 : ∀ (d p : Nat), p + d = ln → X g mX6_sees 23 [.ref rd, .ref (g.2.2.1 j), .int (iI (p : Int))] [] (T, iV V, R, J, z) k n (rI (iI (bI (swF (V tx) wd d (st + p) p))) (T, iV V, R, J, z)) := by
    intro d
    induction d with
    | zero =>
      intro p hp
      refine x_iload_n dX6_sees_23 rfl ?_
      refine x_aload_n dX6_sees_24 rfl ?_
      refine y_gi dX6_sees_25 fX6_44 (by first | assumption) (fun _ _ _ => rfl) ?_
      refine (show X _ _ 28 _ _ _ _ _ _ from ?_)
      refine X.val h2 ?_
      refine y_icmp_ge 58 dX6_sees_28 (by decide) ⟨by omega, by omega⟩ ⟨by omega, by omega⟩ (fun h => ?_) (fun h => ?_)
      · refine y_iconst dX6_sees_58 ?_
        refine (show X _ _ 59 _ _ _ _ _ _ from ?_)
        exact x_zreturn dX6_sees_59 rfl rfl ⟨rfl, rfl⟩
      · omega
    | succ d ih =>
      intro p hp
      have b1 := ht (st + p) (by omega)
      have b2 := (hw p (by omega)).2
      have e1 : (p : Int) + 1 = ((p + 1 : Nat) : Int) := by omega
      rw [swF]
      refine x_iload_n dX6_sees_23 rfl ?_
      refine x_aload_n dX6_sees_24 rfl ?_
      refine y_gi dX6_sees_25 fX6_44 (by first | assumption) (fun _ _ _ => rfl) ?_
      refine (show X _ _ 28 _ _ _ _ _ _ from ?_)
      refine X.val h2 ?_
      refine y_icmp_ge 58 dX6_sees_28 (by decide) ⟨by omega, by omega⟩ ⟨by omega, by omega⟩ (fun h => ?_) (fun h => ?_)
      · omega
      refine x_aload_n dX6_sees_31 rfl ?_
      refine x_gr dX6_sees_32 fX6_25 (by first | assumption) (fun _ _ _ => rfl) (by first | assumption) ?_
      refine x_aload_n dX6_sees_35 rfl ?_
      refine y_gi dX6_sees_36 fX6_41 (by first | assumption) (fun _ _ _ => rfl) ?_
      refine (show X _ _ 39 _ _ _ _ _ _ from ?_)
      refine X.val h8 ?_
      refine x_iload_n dX6_sees_39 rfl ?_
      refine y_iadd dX6_sees_40 ?_
      refine y_bald (st + p) dX6_sees_41 (by first | assumption) (by first | rfl | omega) (by omega) (by decide) ?_
      refine x_aload_n dX6_sees_42 rfl ?_
      refine x_iload_n dX6_sees_43 rfl ?_
      refine (show X _ _ 44 _ _ _ _ _ _ from ?_)
      refine x_callT (As := [_]) (mc := 0) (ms := 0) dX6_sees_44 lX6_108 oJ0_charAt_5068e (by decide) (by first | assumption) rfl rfl (Nat.le_of_ble_eq_true rfl) (Nat.le_of_ble_eq_true rfl) rfl (cc p (by omega)) (k_I ?_)
      refine (show X _ _ 47 _ _ _ _ _ _ from ?_)
      refine y_icmp_eq 52 dX6_sees_47 (by decide) ⟨by omega, by omega⟩ ⟨by omega, by omega⟩ (fun h3 => ?_) (fun h3 => ?_)
      · rw [if_pos h3]
        refine y_iinc dX6_sees_52 rfl (by decide) rfl rfl ?_
        refine x_goto 23 dX6_sees_55 (by decide) ?_
        refine (show X _ _ 23 _ _ _ _ _ _ from ?_)
        rw [e1]
        exact ih (p + 1) (by omega)
      · rw [if_neg h3]
        refine y_iconst dX6_sees_50 ?_
        refine (show X _ _ 51 _ _ _ _ _ _ from ?_)
        exact x_zreturn dX6_sees_51 rfl rfl ⟨rfl, rfl⟩
  refine y_iconst dX6_sees_21 ?_
  refine x_istore_n dX6_sees_22 (by decide) rfl rfl ?_
  refine (show X _ _ 23 _ _ _ _ _ _ from ?_)
  exact k1 ln 0 (by omega)
end C31
