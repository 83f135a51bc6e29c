/-! ===== the world that all runs look at; the years' parts ===== -/
def RS (T : Nat → Nat × Nat) (R : Nat → Nat → Option Nat) (r w : Nat) : Prop := (T r = (18, 0) ∧ R r 0 = some w) ∧ (R r 11 = some (r + 1) ∧ R r 12 = some (r + 2) ∧ R r 13 = some (r + 3) ∧ R r 14 = some (r + 4)) ∧ (T (r + 1) = (1, 10) ∧ T (r + 2) = (1, 10) ∧ T (r + 3) = (1, 10) ∧ T (r + 4) = (1, 24))
def NS (T : Nat → Nat × Nat) (R : Nat → Nat → Option Nat) (nw : Nat) : Prop := T nw = (14, 0) ∧ R nw 3 = some (nw + 1) ∧ R nw 4 = some (nw + 2) ∧ T (nw + 1) = (1, 10) ∧ T (nw + 2) = (1, 32)
def AS (T : Nat → Nat × Nat) (R : Nat → Nat → Option Nat) (al : Nat) : Prop := T al = (10, 0) ∧ (R al 0 = some (al + 1) ∧ R al 1 = some (al + 2) ∧ R al 2 = some (al + 3) ∧ R al 3 = some (al + 4)) ∧ (T (al + 1) = (1, 24) ∧ T (al + 2) = (1, 24) ∧ T (al + 3) = (1, 240) ∧ T (al + 4) = (1, 2))
def WS (T : Nat → Nat × Nat) (R : Nat → Nat → Option Nat) (w f nw al : Nat) : Prop := (T w = (19, 0) ∧ R w 0 = some f ∧ R w 1 = some nw ∧ R w 2 = some al) ∧ FS T R f ∧ NS T R nw ∧ AS T R al
/-- what Now holds -/
def NC (V : Nat → Nat → Int) (nw : Nat) (B : Nat → Nat → Int) : Prop := (∀ j, j < 3 → V nw j = B 0 j) ∧ (∀ p, p < 10 → V (nw + 1) p = B 1 p) ∧ (∀ j, j < 32 → V (nw + 2) j = B 2 j)
/-- what the almanac holds -/
def AC (V : Nat → Nat → Int) (al : Nat) (A B : Nat → Nat → Int) : Prop := (∀ y, y < fY A → V (al + 1) y = (thS A B y : Nat) ∧ V (al + 2) y = (cnS A B y : Nat) ∧ ∀ p, p < fP A → V (al + 3) (10 * y + p) = hmS A y p) ∧ V (al + 4) 0 = (brS A 0 : Nat) ∧ V (al + 4) 1 = (brS A 1 : Nat)
def WC (V : Nat → Nat → Int) (f nw al : Nat) (A B : Nat → Nat → Int) : Prop := FC V f A ∧ NC V nw B ∧ AC V al A B ∧ VA A ∧ VB A B
def AP (r w f nw al : Nat) : Prop := (w < r ∨ r + 5 ≤ w) ∧ (f + 45 ≤ r ∨ r + 5 ≤ f) ∧ (nw + 3 ≤ r ∨ r + 5 ≤ nw) ∧ (al + 5 ≤ r ∨ r + 5 ≤ al)
theorem fP10 {A : Nat → Nat → Int} (h : VA A) : ((fP A : Nat) : Int) = A 0 3 ∧ fP A ≤ 10 := ⟨Int.toNat_of_nonneg h.2.2.2.1.1, by have := h.2.2.2.1.2; show (A 0 3).toNat ≤ 10; omega⟩
theorem fY24 {A : Nat → Nat → Int} (h : VA A) : ((fY A : Nat) : Int) = A 0 0 ∧ fY A ≤ 24 := ⟨Int.toNat_of_nonneg h.1.1, by have := h.1.2; show (A 0 0).toNat ≤ 24; omega⟩
theorem two10 {n : Nat} (h : n ≤ 10) : 2 ^ n ≤ 1024 := Nat.pow_le_pow_right (n := 2) (by decide) h
theorem cnS_lt {A B : Nat → Nat → Int} (h : VA A) (y : Nat) : cnS A B y < 1024 := Nat.lt_of_lt_of_le (sOf_lt _ _) (two10 (fP10 h).2)
theorem thS_lt {A B : Nat → Nat → Int} (h : VA A) (y : Nat) : thS A B y < 1024 := Nat.lt_of_lt_of_le (sOf_lt _ _) (two10 (fP10 h).2)
theorem brS_lt {A : Nat → Nat → Int} (h : VA A) (b : Int) : brS A b < 1024 := Nat.lt_of_lt_of_le (sOf_lt _ _) (two10 (fP10 h).2)
theorem andn_lt {a d m : Nat} (h : a < m) : andn a d < m := Nat.lt_of_le_of_lt (andn_le a d) h
section Run
variable (A B W : Nat → Nat → Int)
/-- who died in a turn -/
abbrev dd : Nat := (W 0 5).toNat
abbrev rTh (y : Nat) : Nat := andn (thS A B y) (dd W)
abbrev rCn (y : Nat) : Nat := andn (cnS A B y) (dd W)
def rComes (y : Nat) : Int :=
  if W 0 6 ≠ 0 ∨ rCn A B W y = 0 then -2
  else if y = 0 then -3
  else if W 4 (y - 1) < 0 ∨ (rCn A B W y).testBit (W 4 (y - 1)).toNat = false ∨ A 1 (W 4 (y - 1)).toNat ≠ 3 then -3
  else if 1 < y ∧ W 4 (y - 2) = W 4 (y - 1) then -3
  else W 4 (y - 1)
/-- a keen one counts one less -/
def cnt (p : Nat) : Int := if A 1 p = 4 then W 1 p - 1 else W 1 p
def fwSt (set : Nat) (p : Nat) (s : Int × Nat) : Int × Nat := if set.testBit p then (if cnt A W p < s.1 then (cnt A W p, 2 ^ p) else if cnt A W p = s.1 then (s.1, s.2 ||| 2 ^ p) else s) else s
def fwL (set m : Nat) : Int × Nat := lp m (fwSt A W set) (1000000000, 0)
def fewest (set : Nat) : Nat := (fwL A W set (fP A)).2
def bgSt (set : Nat) (sg : Int) (p : Nat) (s : Int × Int) : Int × Int := if set.testBit p ∧ sg * A 3 p < s.2 then ((p : Int), sg * A 3 p) else s
def bgL (set : Nat) (sg : Int) (m : Nat) : Int × Int := lp m (bgSt A set sg) (-2, 1000000000)
def byAge (set : Nat) (sg : Int) : Int := (bgL A set sg (fP A)).1
end Run
section C2
variable {g : GG} {T : Nat → Nat × Nat} {V W : Nat → Nat → Int} {R : Nat → Nat → Option Nat} {J : Nat → Nat → Int64} {z k n : Nat} {A B : Nat → Nat → Int} {r w f nw al : Nat}
theorem c_whoCan {y : Nat} (hr : RS T R r w) (hw : WS T R w f nw al) (hC : WC V f nw al A B) (hap : AP r w f nw al) (hd : 0 ≤ W 0 5) (hy : y < fY A) : X g mX8_whoCan 0 [.ref r, .int (iI y)] [] (T, iV (pB V r 5 W), R, J, z) k n (rI (iI (rCn A B W y : Nat)) (T, iV (pB V r 5 W), R, J, z)) := by
  obtain ⟨⟨r0, r1⟩, -⟩ := hr
  obtain ⟨⟨w0, w1, w2, w3⟩, -, -, a0, ⟨a1, a2, a3, a4⟩, ⟨t1, t2, t3, t4⟩⟩ := hw
  obtain ⟨-, -, ⟨hAy, -⟩, hA, -⟩ := hC
  obtain ⟨p1, p2, p3, p4⟩ := hap
  have eY := fY24 hA
  refine x_aload_n dX8_whoCan_0 rfl ?_
  refine x_gr dX8_whoCan_1 fX8_56 (by assumption) (fun _ _ _ => rfl) (by assumption) ?_
  refine x_gr dX8_whoCan_4 fX8_103 (by assumption) (fun _ _ _ => rfl) (by assumption) ?_
  refine x_gr dX8_whoCan_7 fX8_112 (by assumption) (fun _ _ _ => rfl) (by assumption) ?_
  refine x_iload_n dX8_whoCan_10 rfl ?_
  refine b_ialo (r := r) (m := 5) (y) dX8_whoCan_11 (by assumption) (by first | rfl | omega) (by omega) (by decide) (by omega) ?_
  refine (show X _ _ 12 _ _ _ _ _ _ from ?_)
  refine X.val (hAy y hy).2.1 ?_
  refine x_aload_n dX8_whoCan_12 rfl ?_
  refine b_gi0 (r := r) (m := 5) dX8_whoCan_13 fX8_24 (by assumption) (fun _ _ _ => rfl) (by decide) ?_
  refine (show X _ _ 16 _ _ _ _ _ _ from ?_)
  refine X.val (Int.toNat_of_nonneg hd).symm ?_
  refine y_andn dX8_whoCan_16 dX8_whoCan_17 dX8_whoCan_18 ?_
  refine (show X _ _ 19 _ _ _ _ _ _ from ?_)
  exact x_ireturn dX8_whoCan_19 rfl ⟨rfl, rfl⟩
theorem c_whoIsThere {y : Nat} (hr : RS T R r w) (hw : WS T R w f nw al) (hC : WC V f nw al A B) (hap : AP r w f nw al) (hd : 0 ≤ W 0 5) (hy : y < fY A) : X g mX8_whoIsThere 0 [.ref r, .int (iI y)] [] (T, iV (pB V r 5 W), R, J, z) k n (rI (iI (rTh A B W y : Nat)) (T, iV (pB V r 5 W), R, J, z)) := by
  obtain ⟨⟨r0, r1⟩, -⟩ := hr
  obtain ⟨⟨w0, w1, w2, w3⟩, -, -, a0, ⟨a1, a2, a3, a4⟩, ⟨t1, t2, t3, t4⟩⟩ := hw
  obtain ⟨-, -, ⟨hAy, -⟩, hA, -⟩ := hC
  obtain ⟨p1, p2, p3, p4⟩ := hap
  have eY := fY24 hA
  refine x_aload_n dX8_whoIsThere_0 rfl ?_
  refine x_gr dX8_whoIsThere_1 fX8_56 (by assumption) (fun _ _ _ => rfl) (by assumption) ?_
  refine x_gr dX8_whoIsThere_4 fX8_103 (by assumption) (fun _ _ _ => rfl) (by assumption) ?_
  refine x_gr dX8_whoIsThere_7 fX8_107 (by assumption) (fun _ _ _ => rfl) (by assumption) ?_
  refine x_iload_n dX8_whoIsThere_10 rfl ?_
  refine b_ialo (r := r) (m := 5) (y) dX8_whoIsThere_11 (by assumption) (by first | rfl | omega) (by omega) (by decide) (by omega) ?_
  refine (show X _ _ 12 _ _ _ _ _ _ from ?_)
  refine X.val (hAy y hy).1 ?_
  refine x_aload_n dX8_whoIsThere_12 rfl ?_
  refine b_gi0 (r := r) (m := 5) dX8_whoIsThere_13 fX8_24 (by assumption) (fun _ _ _ => rfl) (by decide) ?_
  refine (show X _ _ 16 _ _ _ _ _ _ from ?_)
  refine X.val (Int.toNat_of_nonneg hd).symm ?_
  refine y_andn dX8_whoIsThere_16 dX8_whoIsThere_17 dX8_whoIsThere_18 ?_
  refine (show X _ _ 19 _ _ _ _ _ _ from ?_)
  exact x_ireturn dX8_whoIsThere_19 rfl ⟨rfl, rfl⟩
theorem c_whoComes {y : Nat} (hr : RS T R r w) (hw : WS T R w f nw al) (hC : WC V f nw al A B) (hap : AP r w f nw al) (hd : 0 ≤ W 0 5) (hl : R32 (W 0 6)) (hE : ∀ i, i < y → -2 ≤ W 4 i ∧ W 4 i < A 0 3) (hy : y < fY A) : X g mX8_whoComes 0 [.ref r, .int (iI y), jk, jk, jk] [] (T, iV (pB V r 5 W), R, J, z) k n (rI (iI (rComes A B W y)) (T, iV (pB V r 5 W), R, J, z)) := by
  have hcan := c_whoCan (g := g) (J := J) (z := z) (k := 0) (n := 0) hr hw hC hap hd hy
  obtain ⟨⟨r0, r1⟩, ⟨r2, r3, r4, r5⟩, ⟨s1, s2, s3, s4⟩⟩ := hr
  obtain ⟨⟨w0, w1, w2, w3⟩, ⟨f0, ⟨f9, -⟩, ⟨ft1, -⟩, hPR, -⟩, -, -⟩ := hw
  obtain ⟨⟨hV0, hVp, -⟩, -, -, hA, -⟩ := hC
  obtain ⟨p1, p2, p3, p4⟩ := hap
  have eY := fY24 hA
  have eP := fP10 hA
  have hcl : rCn A B W y < 1024 := andn_lt (cnS_lt hA y)
  have hl1 := hl.1
  have hl2 := hl.2
  have hAp := hA.2.2.2.2.2.2.2.2.2.1
  unfold rComes
  generalize hcn : rCn A B W y = cn at *
  refine x_aload_n dX8_whoComes_0 rfl ?_
  refine x_iload_n dX8_whoComes_1 rfl ?_
  refine (show X _ _ 2 _ _ _ _ _ _ from ?_)
  refine x_callV (As := [_]) (mc := 0) (ms := 0) (z := mX8_whoCan) (ci := 8) dX8_whoComes_2 lX8_89 oX8_whoCan (by decide) (by first | assumption | exact (hPR _ (by omega)).2) rfl rfl (Nat.le_of_ble_eq_true rfl) (Nat.le_of_ble_eq_true rfl) rfl (hcan) (k_I ?_)
  refine (show X _ _ 5 _ _ _ _ _ _ from ?_)
  refine x_istore_n dX8_whoComes_5 (by decide) rfl rfl ?_
  refine x_aload_n dX8_whoComes_6 rfl ?_
  refine b_gi0 (r := r) (m := 5) dX8_whoComes_7 fX8_27 (by first | assumption | exact (hPR _ (by omega)).2) (fun _ _ _ => rfl) (by decide) ?_
  refine (show X _ _ 10 _ _ _ _ _ _ from ?_)
  refine y_if_ne 17 dX8_whoComes_10 (by decide) ⟨by omega, by omega⟩ (fun h1 => ?_) (fun h1 => ?_)
  · rw [if_pos (Or.inl h1)]
    refine y_bipush dX8_whoComes_17 rfl ?_
    refine (show X _ _ 19 _ _ _ _ _ _ from ?_)
    exact x_ireturn dX8_whoComes_19 rfl ⟨rfl, rfl⟩
  refine x_iload_n dX8_whoComes_13 rfl ?_
  refine (show X _ _ 14 _ _ _ _ _ _ from ?_)
  refine y_if_ne 20 dX8_whoComes_14 (by decide) ⟨by omega, by omega⟩ (fun h2 => ?_) (fun h2 => ?_)
  rotate_left
  · rw [if_pos (Or.inr (by omega))]
    refine y_bipush dX8_whoComes_17 rfl ?_
    refine (show X _ _ 19 _ _ _ _ _ _ from ?_)
    exact x_ireturn dX8_whoComes_19 rfl ⟨rfl, rfl⟩
  rw [if_neg (by omega)]
  refine x_iload_n dX8_whoComes_20 rfl ?_
  refine (show X _ _ 21 _ _ _ _ _ _ from ?_)
  refine y_if_le 35 dX8_whoComes_21 (by decide) ⟨by omega, by omega⟩ (fun h3 => ?_) (fun h3 => ?_)
  · rw [if_pos (by omega)]
    refine y_bipush dX8_whoComes_35 rfl ?_
    refine x_istore_n dX8_whoComes_37 (by decide) rfl rfl ?_
    refine x_iload_n dX8_whoComes_38 rfl ?_
    refine (show X _ _ 39 _ _ _ _ _ _ from ?_)
    refine y_if_lt 68 dX8_whoComes_39 (by decide) ⟨by omega, by omega⟩ (fun h4 => ?_) (fun h4 => ?_)
    · refine y_bipush dX8_whoComes_68 rfl ?_
      refine (show X _ _ 70 _ _ _ _ _ _ from ?_)
      exact x_ireturn dX8_whoComes_70 rfl ⟨rfl, rfl⟩
    · omega
  rw [if_neg (by omega)]
  have hE1 := hE (y - 1) (by omega)
  refine x_aload_n dX8_whoComes_24 rfl ?_
  refine x_gr dX8_whoComes_25 fX8_53 (by first | assumption | exact (hPR _ (by omega)).2) (fun _ _ _ => rfl) (by first | assumption | exact (hPR _ (by omega)).2) ?_
  refine x_iload_n dX8_whoComes_28 rfl ?_
  refine y_iconst dX8_whoComes_29 ?_
  refine y_isub dX8_whoComes_30 ?_
  refine b_iald (r := r) (m := 5) (j := 4) (y - 1) dX8_whoComes_31 (by first | assumption | exact (hPR _ (by omega)).2) (by first | rfl | omega) (by omega) (by decide) (by decide) ?_
  refine x_goto 37 dX8_whoComes_32 (by decide) ?_
  refine x_istore_n dX8_whoComes_37 (by decide) rfl rfl ?_
  refine (show X _ _ 38 _ _ _ _ _ _ from ?_)
  refine x_iload_n dX8_whoComes_38 rfl ?_
  refine (show X _ _ 39 _ _ _ _ _ _ from ?_)
  refine y_if_lt 68 dX8_whoComes_39 (by decide) ⟨by omega, by omega⟩ (fun h4 => ?_) (fun h4 => ?_)
  · rw [if_pos (Or.inl h4)]
    refine y_bipush dX8_whoComes_68 rfl ?_
    refine (show X _ _ 70 _ _ _ _ _ _ from ?_)
    exact x_ireturn dX8_whoComes_70 rfl ⟨rfl, rfl⟩
  obtain ⟨l, hlE⟩ : ∃ l : Nat, W 4 (y - 1) = (l : Int) := ⟨(W 4 (y - 1)).toNat, (Int.toNat_of_nonneg h4).symm⟩
  rw [hlE] at hE1 ⊢
  have hl10 : l < fP A := by omega
  have hk := hAp l hl10
  simp only [Int.toNat_natCast]
  refine x_iload_n dX8_whoComes_42 rfl ?_
  refine x_iload_n dX8_whoComes_43 rfl ?_
  refine (show X _ _ 44 _ _ _ _ _ _ from ?_)
  refine x_callS (As := [_, _]) (mc := 0) (ms := 0) (z := mX10_has) dX8_whoComes_44 lX8_115 oX10_has (by decide) rfl (Nat.le_of_ble_eq_true rfl) (Nat.le_of_ble_eq_true rfl) rfl (c_has g cn l _ 0 0 (by omega) (by omega)) (k_I ?_)
  refine (show X _ _ 47 _ _ _ _ _ _ from ?_)
  refine y_ifb_eq 68 dX8_whoComes_47 (by decide) (fun h5 => ?_) (fun h5 => ?_)
  · rw [if_pos (Or.inr (Or.inl h5))]
    refine y_bipush dX8_whoComes_68 rfl ?_
    refine (show X _ _ 70 _ _ _ _ _ _ from ?_)
    exact x_ireturn dX8_whoComes_70 rfl ⟨rfl, rfl⟩
  refine x_aload_n dX8_whoComes_50 rfl ?_
  refine x_gr dX8_whoComes_51 fX8_56 (by first | assumption | exact (hPR _ (by omega)).2) (fun _ _ _ => rfl) (by first | assumption | exact (hPR _ (by omega)).2) ?_
  refine x_gr dX8_whoComes_54 fX8_60 (by first | assumption | exact (hPR _ (by omega)).2) (fun _ _ _ => rfl) (by first | assumption | exact (hPR _ (by omega)).2) ?_
  refine x_gr dX8_whoComes_57 fX8_71 (by first | assumption | exact (hPR _ (by omega)).2) (fun _ _ _ => rfl) (by first | assumption | exact (hPR _ (by omega)).2) ?_
  refine x_iload_n dX8_whoComes_60 rfl ?_
  refine y_aald (l) dX8_whoComes_61 (by first | assumption | exact (hPR _ (by omega)).2) (by decide) (by first | rfl | omega) (by omega) (by decide) (by first | assumption | exact (hPR _ (by omega)).1) ?_
  refine y_iconst dX8_whoComes_62 ?_
  refine b_ialo (r := r) (m := 5) (0) dX8_whoComes_63 (by first | assumption | exact (hPR _ (by omega)).2) (by first | rfl | omega) (by omega) (by decide) (by omega) ?_
  refine (show X _ _ 64 _ _ _ _ _ _ from ?_)
  refine X.val (b := A 1 l) (hVp l hl10 0 (by omega)) ?_
  refine y_iconst dX8_whoComes_64 ?_
  refine (show X _ _ 65 _ _ _ _ _ _ from ?_)
  refine y_icmp_eq 71 dX8_whoComes_65 (by decide) ⟨by omega, by omega⟩ ⟨by omega, by omega⟩ (fun h6 => ?_) (fun h6 => ?_)
  rotate_left
  · rw [if_pos (Or.inr (Or.inr h6))]
    refine y_bipush dX8_whoComes_68 rfl ?_
    refine (show X _ _ 70 _ _ _ _ _ _ from ?_)
    exact x_ireturn dX8_whoComes_70 rfl ⟨rfl, rfl⟩
  rw [if_neg (by rw [h5]; intro h; rcases h with h | h | h; omega; exact absurd h (by decide); exact h h6)]
  refine x_iload_n dX8_whoComes_71 rfl ?_
  refine y_iconst dX8_whoComes_72 ?_
  refine (show X _ _ 73 _ _ _ _ _ _ from ?_)
  refine y_icmp_le 92 dX8_whoComes_73 (by decide) ⟨by omega, by omega⟩ ⟨by omega, by omega⟩ (fun h7 => ?_) (fun h7 => ?_)
  · rw [if_neg (by omega)]
    refine y_iconst dX8_whoComes_92 ?_
    refine x_istore dX8_whoComes_93 (by decide) rfl rfl ?_
    refine x_iload dX8_whoComes_95 rfl ?_
    refine (show X _ _ 97 _ _ _ _ _ _ from ?_)
    refine y_if_eq 105 dX8_whoComes_97 (by decide) ⟨by omega, by omega⟩ (fun h8 => ?_) (fun h8 => ?_)
    · refine x_iload_n dX8_whoComes_105 rfl ?_
      refine (show X _ _ 106 _ _ _ _ _ _ from ?_)
      exact x_ireturn dX8_whoComes_106 rfl ⟨rfl, rfl⟩
    · omega
  have hE2 := hE (y - 2) (by omega)
  refine x_aload_n dX8_whoComes_76 rfl ?_
  refine x_gr dX8_whoComes_77 fX8_53 (by first | assumption | exact (hPR _ (by omega)).2) (fun _ _ _ => rfl) (by first | assumption | exact (hPR _ (by omega)).2) ?_
  refine x_iload_n dX8_whoComes_80 rfl ?_
  refine y_iconst dX8_whoComes_81 ?_
  refine y_isub dX8_whoComes_82 ?_
  refine b_iald (r := r) (m := 5) (j := 4) (y - 2) dX8_whoComes_83 (by first | assumption | exact (hPR _ (by omega)).2) (by first | rfl | omega) (by omega) (by decide) (by decide) ?_
  refine x_iload_n dX8_whoComes_84 rfl ?_
  refine (show X _ _ 85 _ _ _ _ _ _ from ?_)
  refine y_icmp_ne 92 dX8_whoComes_85 (by decide) ⟨by omega, by omega⟩ ⟨by omega, by omega⟩ (fun h8 => ?_) (fun h8 => ?_)
  · rw [if_neg (by omega)]
    refine y_iconst dX8_whoComes_92 ?_
    refine x_istore dX8_whoComes_93 (by decide) rfl rfl ?_
    refine x_iload dX8_whoComes_95 rfl ?_
    refine (show X _ _ 97 _ _ _ _ _ _ from ?_)
    refine y_if_eq 105 dX8_whoComes_97 (by decide) ⟨by omega, by omega⟩ (fun h9 => ?_) (fun h9 => ?_)
    · refine x_iload_n dX8_whoComes_105 rfl ?_
      refine (show X _ _ 106 _ _ _ _ _ _ from ?_)
      exact x_ireturn dX8_whoComes_106 rfl ⟨rfl, rfl⟩
    · omega
  · rw [if_pos ⟨by omega, h8⟩]
    refine y_iconst dX8_whoComes_88 ?_
    refine x_goto 93 dX8_whoComes_89 (by decide) ?_
    refine x_istore dX8_whoComes_93 (by decide) rfl rfl ?_
    refine x_iload dX8_whoComes_95 rfl ?_
    refine (show X _ _ 97 _ _ _ _ _ _ from ?_)
    refine y_if_eq 105 dX8_whoComes_97 (by decide) ⟨by omega, by omega⟩ (fun h9 => ?_) (fun h9 => ?_)
    · omega
    · refine y_bipush dX8_whoComes_100 rfl ?_
      refine x_goto 106 dX8_whoComes_102 (by decide) ?_
      refine (show X _ _ 106 _ _ _ _ _ _ from ?_)
      exact x_ireturn dX8_whoComes_106 rfl ⟨rfl, rfl⟩
end C2
