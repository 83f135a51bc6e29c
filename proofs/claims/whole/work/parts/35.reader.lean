/-! ===== Reader: tokens ===== -/
/-- the reader at rd, its text at tx -/
def DS (T : Nat → Nat × Nat) (R : Nat → Nat → Option Nat) (rd tx : Nat) : Prop := T rd = (16, 0) ∧ R rd 3 = some tx ∧ T tx = (2, 1100)
/-- where a run of bytes from lo to hi ends -/
def eor (t : Nat → Int) (lo hi : Int) : Nat → Nat → Nat
  | 0, i => i
  | d + 1, i => if lo ≤ t i ∧ t i ≤ hi then eor t lo hi d (i + 1) else i
theorem eor_b (t : Nat → Int) (lo hi : Int) : ∀ d i, i ≤ eor t lo hi d i ∧ eor t lo hi d i ≤ i + d
  | 0, i => ⟨Nat.le_refl _, Nat.le_refl _⟩
  | d + 1, i => by
    have h := eor_b t lo hi d (i + 1)
    rw [eor]
    split <;> omega
/-- d digits from i on -/
def whS (t : Nat → Int) : Nat → Nat → Int → Int
  | 0, _, s => s
  | d + 1, i, s => whS t d (i + 1) (10 * s + (t i - 48))
/-- whether d bytes from a are those from b -/
def stA (t : Nat → Int) : Nat → Nat → Nat → Bool
  | 0, _, _ => true
  | d + 1, a, b => if t a = t b then stA t d (a + 1) (b + 1) else false
section C25
variable {g : GG} {T : Nat → Nat × Nat} {V : Nat → Nat → Int} {R : Nat → Nat → Option Nat} {J : Nat → Nat → Int64} {z k n : Nat} {rd tx e i : Nat}
theorem c_fail {x : Int} (hS : DS T R rd tx) : X g mX6_fail 0 [.ref rd, .int (iI x)] [] (T, iV V, R, J, z) k n (rI (iI 0) (T, iV (u2 (u2 V rd 1 x) rd 2 (V rd 8)), R, J, z)) := by
  obtain ⟨s0, s1, s2⟩ := hS
  refine x_aload_n dX6_fail_0 rfl ?_
  refine x_iload_n dX6_fail_1 rfl ?_
  refine y_pi dX6_fail_2 (pX6_18 _) (by first | assumption) (fun _ _ _ => rfl) rfl rfl ?_
  refine x_aload_n dX6_fail_5 rfl ?_
  refine x_aload_n dX6_fail_6 rfl ?_
  refine y_gi dX6_fail_7 fX6_41 (by first | assumption) (fun _ _ _ => rfl) ?_
  refine (show X _ _ 10 _ _ _ _ _ _ from ?_)
  refine X.val (b := V rd 8) (by rw [u2_s, u1_n (by decide)]) ?_
  refine y_pi dX6_fail_10 (pX6_22 _) (by first | assumption) (fun _ _ _ => rfl) rfl rfl ?_
  refine y_iconst dX6_fail_13 ?_
  refine (show X _ _ 14 _ _ _ _ _ _ from ?_)
  exact x_zreturn dX6_fail_14 rfl rfl ⟨rfl, rfl⟩
theorem c_failAtName {x : Int} (hS : DS T R rd tx) : X g mX6_failAtName 0 [.ref rd, .int (iI x)] [] (T, iV V, R, J, z) k n (rI (iI 0) (T, iV (u2 (u2 V rd 1 x) rd 2 (V rd 11)), R, J, z)) := by
  obtain ⟨s0, s1, s2⟩ := hS
  refine x_aload_n dX6_failAtName_0 rfl ?_
  refine x_iload_n dX6_failAtName_1 rfl ?_
  refine y_pi dX6_failAtName_2 (pX6_18 _) (by first | assumption) (fun _ _ _ => rfl) rfl rfl ?_
  refine x_aload_n dX6_failAtName_5 rfl ?_
  refine x_aload_n dX6_failAtName_6 rfl ?_
  refine y_gi dX6_failAtName_7 fX6_50 (by first | assumption) (fun _ _ _ => rfl) ?_
  refine (show X _ _ 10 _ _ _ _ _ _ from ?_)
  refine X.val (b := V rd 11) (by rw [u2_s, u1_n (by decide)]) ?_
  refine y_pi dX6_failAtName_10 (pX6_22 _) (by first | assumption) (fun _ _ _ => rfl) rfl rfl ?_
  refine y_iconst dX6_failAtName_13 ?_
  refine (show X _ _ 14 _ _ _ _ _ _ from ?_)
  exact x_zreturn dX6_failAtName_14 rfl rfl ⟨rfl, rfl⟩
theorem c_endOfRun {lo hi : Int} (hS : DS T R rd tx) (h6 : V rd 6 = (i : Int)) (h5 : V rd 5 = (e : Int)) (hi1 : i ≤ e) (he : e ≤ 1100) (ht : ∀ j, j < e → -128 ≤ V tx j ∧ V tx j ≤ 127) (hl : 0 ≤ lo ∧ lo ≤ 127) (hh : 0 ≤ hi ∧ hi ≤ 127) : X g mX6_endOfRun 0 [.ref rd, .int (iI lo), .int (iI hi), jk] [] (T, iV V, R, J, z) k n (rI (iI (eor (V tx) lo hi (e - i) i : Nat)) (T, iV V, R, J, z)) := by
  obtain ⟨s0, s1, s2⟩ := hS
  have k1 : ∀ (d i : Nat), i + d = e → X g mX6_endOfRun 5 [.ref rd, .int (iI lo), .int (iI hi), .int (iI (i : Int))] [] (T, iV V, R, J, z) k n (rI (iI (eor (V tx) lo hi d i : Nat)) (T, iV V, R, J, z)) := by
    intro d
    induction d with
    | zero =>
      intro i hi2
      refine x_iload_n dX6_endOfRun_5 rfl ?_
      refine x_aload_n dX6_endOfRun_6 rfl ?_
      refine y_gi dX6_endOfRun_7 fX6_32 (by first | assumption) (fun _ _ _ => rfl) ?_
      refine (show X _ _ 10 _ _ _ _ _ _ from ?_)
      refine X.val h5 ?_
      refine y_icmp_ge 39 dX6_endOfRun_10 (by decide) ⟨by omega, by omega⟩ ⟨by omega, by omega⟩ (fun h => ?_) (fun h => ?_)
      · refine x_iload_n dX6_endOfRun_39 rfl ?_
        refine (show X _ _ 40 _ _ _ _ _ _ from ?_)
        exact x_ireturn dX6_endOfRun_40 rfl ⟨rfl, rfl⟩
      · omega
    | succ d ih =>
      intro i hi2
      have hb := ht i (by omega)
      rw [eor]
      refine x_iload_n dX6_endOfRun_5 rfl ?_
      refine x_aload_n dX6_endOfRun_6 rfl ?_
      refine y_gi dX6_endOfRun_7 fX6_32 (by first | assumption) (fun _ _ _ => rfl) ?_
      refine (show X _ _ 10 _ _ _ _ _ _ from ?_)
      refine X.val h5 ?_
      refine y_icmp_ge 39 dX6_endOfRun_10 (by decide) ⟨by omega, by omega⟩ ⟨by omega, by omega⟩ (fun h => ?_) (fun h => ?_)
      · omega
      refine x_aload_n dX6_endOfRun_13 rfl ?_
      refine x_gr dX6_endOfRun_14 fX6_25 (by first | assumption) (fun _ _ _ => rfl) (by first | assumption) ?_
      refine x_iload_n dX6_endOfRun_17 rfl ?_
      refine y_bald (i) dX6_endOfRun_18 (by first | assumption) (by first | rfl | omega) (by omega) (by decide) ?_
      refine x_iload_n dX6_endOfRun_19 rfl ?_
      refine (show X _ _ 20 _ _ _ _ _ _ from ?_)
      refine y_icmp_lt 39 dX6_endOfRun_20 (by decide) ⟨by omega, by omega⟩ ⟨by omega, by omega⟩ (fun h1 => ?_) (fun h1 => ?_)
      · rw [if_neg (by omega)]
        refine x_iload_n dX6_endOfRun_39 rfl ?_
        refine (show X _ _ 40 _ _ _ _ _ _ from ?_)
        exact x_ireturn dX6_endOfRun_40 rfl ⟨rfl, rfl⟩
      refine x_aload_n dX6_endOfRun_23 rfl ?_
      refine x_gr dX6_endOfRun_24 fX6_25 (by first | assumption) (fun _ _ _ => rfl) (by first | assumption) ?_
      refine x_iload_n dX6_endOfRun_27 rfl ?_
      refine y_bald (i) dX6_endOfRun_28 (by first | assumption) (by first | rfl | omega) (by omega) (by decide) ?_
      refine x_iload_n dX6_endOfRun_29 rfl ?_
      refine (show X _ _ 30 _ _ _ _ _ _ from ?_)
      refine y_icmp_gt 39 dX6_endOfRun_30 (by decide) ⟨by omega, by omega⟩ ⟨by omega, by omega⟩ (fun h2 => ?_) (fun h2 => ?_)
      · rw [if_neg (by omega)]
        refine x_iload_n dX6_endOfRun_39 rfl ?_
        refine (show X _ _ 40 _ _ _ _ _ _ from ?_)
        exact x_ireturn dX6_endOfRun_40 rfl ⟨rfl, rfl⟩
      · rw [if_pos (by omega)]
        refine y_iinc dX6_endOfRun_33 rfl (by decide) rfl rfl ?_
        refine x_goto 5 dX6_endOfRun_36 (by decide) ?_
        refine (show X _ _ 5 _ _ _ _ _ _ from ?_)
        have e1 : (i : Int) + 1 = ((i + 1 : Nat) : Int) := by omega
        rw [e1]
        exact ih (i + 1) (by omega)
  refine x_aload_n dX6_endOfRun_0 rfl ?_
  refine y_gi dX6_endOfRun_1 fX6_35 (by first | assumption) (fun _ _ _ => rfl) ?_
  refine (show X _ _ 4 _ _ _ _ _ _ from ?_)
  refine X.val h6 ?_
  refine x_istore_n dX6_endOfRun_4 (by decide) rfl rfl ?_
  refine (show X _ _ 5 _ _ _ _ _ _ from ?_)
  exact k1 (e - i) i (by omega)
theorem c_wholeOf (hS : DS T R rd tx) (hi1 : i ≤ e) (he : e ≤ 1100) : X g mX6_wholeOf 0 [.ref rd, .int (iI (i : Int)), .int (iI (e : Int)), jk, jk] [] (T, iV V, R, J, z) k n (rI (iI (whS (V tx) (e - i) i 0)) (T, iV V, R, J, z)) := by
  obtain ⟨s0, s1, s2⟩ := hS
  have k1 : ∀ (d j : Nat) (s : Int), j + d = e → X g mX6_wholeOf 5 [.ref rd, .int (iI (i : Int)), .int (iI (e : Int)), .int (iI s), .int (iI (j : Int))] [] (T, iV V, R, J, z) k n (rI (iI (whS (V tx) d j s)) (T, iV V, R, J, z)) := by
    intro d
    induction d with
    | zero =>
      intro j s hj
      refine x_iload dX6_wholeOf_5 rfl ?_
      refine x_iload_n dX6_wholeOf_7 rfl ?_
      refine (show X _ _ 8 _ _ _ _ _ _ from ?_)
      refine y_icmp_ge 33 dX6_wholeOf_8 (by decide) ⟨by omega, by omega⟩ ⟨by omega, by omega⟩ (fun h => ?_) (fun h => ?_)
      · refine x_iload_n dX6_wholeOf_33 rfl ?_
        refine (show X _ _ 34 _ _ _ _ _ _ from ?_)
        exact x_ireturn dX6_wholeOf_34 rfl ⟨rfl, rfl⟩
      · omega
    | succ d ih =>
      intro j s hj
      rw [whS]
      refine x_iload dX6_wholeOf_5 rfl ?_
      refine x_iload_n dX6_wholeOf_7 rfl ?_
      refine (show X _ _ 8 _ _ _ _ _ _ from ?_)
      refine y_icmp_ge 33 dX6_wholeOf_8 (by decide) ⟨by omega, by omega⟩ ⟨by omega, by omega⟩ (fun h => ?_) (fun h => ?_)
      · omega
      refine y_bipush dX6_wholeOf_11 rfl ?_
      refine x_iload_n dX6_wholeOf_13 rfl ?_
      refine y_imul dX6_wholeOf_14 ?_
      refine x_aload_n dX6_wholeOf_15 rfl ?_
      refine x_gr dX6_wholeOf_16 fX6_25 (by first | assumption) (fun _ _ _ => rfl) (by first | assumption) ?_
      refine x_iload dX6_wholeOf_19 rfl ?_
      refine y_bald (j) dX6_wholeOf_21 (by first | assumption) (by first | rfl | omega) (by omega) (by decide) ?_
      refine y_bipush dX6_wholeOf_22 rfl ?_
      refine (show X _ _ 24 _ _ _ _ _ _ from ?_)
      refine y_isub dX6_wholeOf_24 ?_
      refine y_iadd dX6_wholeOf_25 ?_
      refine x_istore_n dX6_wholeOf_26 (by decide) rfl rfl ?_
      refine y_iinc dX6_wholeOf_27 rfl (by decide) rfl rfl ?_
      refine x_goto 5 dX6_wholeOf_30 (by decide) ?_
      refine (show X _ _ 5 _ _ _ _ _ _ from ?_)
      have e1 : (j : Int) + 1 = ((j + 1 : Nat) : Int) := by omega
      rw [e1]
      exact ih (j + 1) _ (by omega)
  refine y_iconst dX6_wholeOf_0 ?_
  refine x_istore_n dX6_wholeOf_1 (by decide) rfl rfl ?_
  refine x_iload_n dX6_wholeOf_2 rfl ?_
  refine x_istore dX6_wholeOf_3 (by decide) rfl rfl ?_
  refine (show X _ _ 5 _ _ _ _ _ _ from ?_)
  exact k1 (e - i) i 0 (by omega)
theorem c_standsAt {c st len : Nat} (hS : DS T R rd tx) (h9 : V rd 9 = (len : Int)) (h8 : V rd 8 = (st : Int)) (hs : st + len ≤ 1100) (hc : c + len ≤ 1100) (ht : ∀ j, j < 1100 → -128 ≤ V tx j ∧ V tx j ≤ 127) : X g mX6_standsAt 0 [.ref rd, .int (iI (c : Int)), jk] [] (T, iV V, R, J, z) k n (rI (iI (bI (stA (V tx) len c st))) (T, iV V, R, J, z)) := by
  obtain ⟨s0, s1, s2⟩ := hS
  have k1 : ∀ (d j : Nat), j + d = len → X g mX6_standsAt 2 [.ref rd, .int (iI (c : Int)), .int (iI (j : Int))] [] (T, iV V, R, J, z) k n (rI (iI (bI (stA (V tx) d (c + j) (st + j)))) (T, iV V, R, J, z)) := by
    intro d
    induction d with
    | zero =>
      intro j hj
      refine x_iload_n dX6_standsAt_2 rfl ?_
      refine x_aload_n dX6_standsAt_3 rfl ?_
      refine y_gi dX6_standsAt_4 fX6_44 (by first | assumption) (fun _ _ _ => rfl) ?_
      refine (show X _ _ 7 _ _ _ _ _ _ from ?_)
      refine X.val h9 ?_
      refine y_icmp_ge 40 dX6_standsAt_7 (by decide) ⟨by omega, by omega⟩ ⟨by omega, by omega⟩ (fun h => ?_) (fun h => ?_)
      · refine y_iconst dX6_standsAt_40 ?_
        refine (show X _ _ 41 _ _ _ _ _ _ from ?_)
        exact x_zreturn dX6_standsAt_41 rfl rfl ⟨rfl, rfl⟩
      · omega
    | succ d ih =>
      intro j hj
      have b1 := ht (c + j) (by omega)
      have b2 := ht (st + j) (by omega)
      rw [stA]
      refine x_iload_n dX6_standsAt_2 rfl ?_
      refine x_aload_n dX6_standsAt_3 rfl ?_
      refine y_gi dX6_standsAt_4 fX6_44 (by first | assumption) (fun _ _ _ => rfl) ?_
      refine (show X _ _ 7 _ _ _ _ _ _ from ?_)
      refine X.val h9 ?_
      refine y_icmp_ge 40 dX6_standsAt_7 (by decide) ⟨by omega, by omega⟩ ⟨by omega, by omega⟩ (fun h => ?_) (fun h => ?_)
      · omega
      refine x_aload_n dX6_standsAt_10 rfl ?_
      refine x_gr dX6_standsAt_11 fX6_25 (by first | assumption) (fun _ _ _ => rfl) (by first | assumption) ?_
      refine x_iload_n dX6_standsAt_14 rfl ?_
      refine x_iload_n dX6_standsAt_15 rfl ?_
      refine y_iadd dX6_standsAt_16 ?_
      refine y_bald (c + j) dX6_standsAt_17 (by first | assumption) (by first | rfl | omega) (by omega) (by decide) ?_
      refine x_aload_n dX6_standsAt_18 rfl ?_
      refine x_gr dX6_standsAt_19 fX6_25 (by first | assumption) (fun _ _ _ => rfl) (by first | assumption) ?_
      refine (show X _ _ 22 _ _ _ _ _ _ from ?_)
      refine x_aload_n dX6_standsAt_22 rfl ?_
      refine y_gi dX6_standsAt_23 fX6_41 (by first | assumption) (fun _ _ _ => rfl) ?_
      refine (show X _ _ 26 _ _ _ _ _ _ from ?_)
      refine X.val h8 ?_
      refine x_iload_n dX6_standsAt_26 rfl ?_
      refine y_iadd dX6_standsAt_27 ?_
      refine y_bald (st + j) dX6_standsAt_28 (by first | assumption) (by first | rfl | omega) (by omega) (by decide) ?_
      refine (show X _ _ 29 _ _ _ _ _ _ from ?_)
      refine y_icmp_eq 34 dX6_standsAt_29 (by decide) ⟨by omega, by omega⟩ ⟨by omega, by omega⟩ (fun h1 => ?_) (fun h1 => ?_)
      · rw [if_pos h1]
        refine y_iinc dX6_standsAt_34 rfl (by decide) rfl rfl ?_
        refine x_goto 2 dX6_standsAt_37 (by decide) ?_
        refine (show X _ _ 2 _ _ _ _ _ _ from ?_)
        have e1 : (j : Int) + 1 = ((j + 1 : Nat) : Int) := by omega
        rw [e1]
        exact ih (j + 1) (by omega)
      · rw [if_neg h1]
        refine y_iconst dX6_standsAt_32 ?_
        refine (show X _ _ 33 _ _ _ _ _ _ from ?_)
        exact x_zreturn dX6_standsAt_33 rfl rfl ⟨rfl, rfl⟩
  refine y_iconst dX6_standsAt_0 ?_
  refine x_istore_n dX6_standsAt_1 (by decide) rfl rfl ?_
  refine (show X _ _ 2 _ _ _ _ _ _ from ?_)
  exact k1 len 0 (by omega)
end C25
