/-! ===== the reference's tokens ===== -/
theorem iI_mod (x : Int) : iI x = iI (x % 4294967296) := by
  unfold iI
  apply Int32.toInt_inj.mp
  rw [Int32.toInt_ofInt, Int32.toInt_ofInt]
  exact (Int.emod_bmod (x := x) (n := 4294967296)).symm
theorem iI_255 (x : Int) : iI x &&& iI 255 = iI (x % 256) := by
  rw [iI_mod x]
  obtain ⟨m, hm⟩ : ∃ m : Nat, x % 4294967296 = (m : Int) := ⟨(x % 4294967296).toNat, by omega⟩
  rw [hm, show (255 : Int) = ((255 : Nat) : Int) from rfl, iI_and, show m &&& 255 = m % 256 from Nat.and_two_pow_sub_one_eq_mod m 8]
  congr 1
  omega
theorem wk_snoc (t : Nat → Int) : ∀ d j v, wk t (d + 1) j v = 32 * wk t d j v + (t (j + d) - 96)
  | 0, j, v => rfl
  | d + 1, j, v => by rw [wk, wk_snoc t d (j + 1), show j + 1 + d = j + (d + 1) by omega]; rfl
theorem whS_snoc (t : Nat → Int) : ∀ d j v, whS t (d + 1) j v = 10 * whS t d j v + (t (j + d) - 48)
  | 0, j, v => rfl
  | d + 1, j, v => by rw [whS, whS_snoc t d (j + 1), show j + 1 + d = j + (d + 1) by omega]; rfl
/-- the byte at k, -1 behind the end -/
def bA (t : Nat → Int) (e k : Nat) : Int := if k < e then t k % 256 else -1
def byR (t : Nat → Int) : Prop := ∀ k, k < 1100 → -128 ≤ t k ∧ t k ≤ 127
/-- only the reader's own things have changed -/
def KS (V V' : Nat → Nat → Int) (J J' : Nat → Nat → Int64) (r : Nat) : Prop := (∀ b, b ≠ r → V' b = V b) ∧ (∀ c, c < 8 ∨ 14 ≤ c → V' r c = V r c) ∧ ∀ b, b ≠ r → J' b = J b
def srt (x : Int) : Int := if x = 4 then 0 else x + 1
/-- the token from i on stands now -/
def TK (t : Nat → Int) (V : Nat → Nat → Int) (J : Nat → Nat → Int64) (r e i : Nat) : Prop := i ≤ e ∧ (tkK t e i ≠ 4 → V r 8 = (tkN t e i : Nat)) ∧ V r 9 = srt (tkK t e i) ∧ V r 10 = (tkS t e i : Nat) ∧ (tkK t e i = 1 → J r 14 = lI (tkX t e i)) ∧ (tkK t e i = 2 → V r 11 = tkX t e i)
def S8 (V V' : Nat → Nat → Int) (r : Nat) : Prop := (∀ b, b ≠ r → V' b = V b) ∧ ∀ c, c ≠ 8 → V' r c = V r c
section C9l
variable {g : GG} {T : Nat → Nat × Nat} {V : Nat → Nat → Int} {R : Nat → Nat → Option Nat} {J : Nat → Nat → Int64} {z k n : Nat} {r e i : Nat} {t : Nat → Int} {Q : Option Value → Mem → Prop}
theorem c_byteAt {x : Nat} (hM : MSh T R r) (h7 : V r 7 = (e : Int)) (ht : V (r + 1) = t) (he : e ≤ 1100) (hx : x ≤ 1100) : X g mX12_byteAt 0 [.ref r, .int (iI (x : Int))] [] (T, iV V, R, J, z) k n (rI (iI (bA t e x)) (T, iV V, R, J, z)) := by
  obtain ⟨m0, ⟨m5, -, -, -, -, -, -, -, -, -, -, -, -, -, -, -, -, -, -, -, -, -, -⟩, ⟨mk1, -, -, -, -, -, -, -, -, -, -, -, -, -, -, -, -, -, -, -, -, -, -⟩⟩ := id hM
  unfold bA
  refine x_iload_n dX12_byteAt_0 rfl ?_
  refine x_aload_n dX12_byteAt_1 rfl ?_
  refine y_gi dX12_byteAt_2 fX12_98 (by first | assumption) (fun _ _ _ => rfl) ?_
  refine (show X _ _ 5 _ _ _ _ _ _ from ?_)
  refine X.val h7 ?_
  refine y_icmp_ge 21 dX12_byteAt_5 (by decide) ⟨by omega, by omega⟩ ⟨by omega, by omega⟩ (fun h1 => ?_) (fun h1 => ?_)
  · rw [if_neg (by omega)]
    refine y_iconst dX12_byteAt_21 ?_
    refine (show X _ _ 22 _ _ _ _ _ _ from ?_)
    exact x_ireturn dX12_byteAt_22 rfl ⟨rfl, rfl⟩
  · rw [if_pos (by omega)]
    refine x_aload_n dX12_byteAt_8 rfl ?_
    refine x_gr dX12_byteAt_9 fX12_13 (by first | assumption) (fun _ _ _ => rfl) (by first | assumption) ?_
    refine x_iload_n dX12_byteAt_12 rfl ?_
    refine y_bald (x) dX12_byteAt_13 (by first | assumption) (by first | rfl | omega) (by omega) (by decide) ?_
    refine y_sipush dX12_byteAt_14 rfl ?_
    refine (show X _ _ 17 _ _ _ _ _ _ from ?_)
    refine x_iand dX12_byteAt_17 ?_
    rw [iI_255, ht]
    refine (show X _ _ 18 _ _ _ _ _ _ from ?_)
    refine x_goto 22 dX12_byteAt_18 (by decide) ?_
    refine (show X _ _ 22 _ _ _ _ _ _ from ?_)
    exact x_ireturn dX12_byteAt_22 rfl ⟨rfl, rfl⟩
theorem c_isLet {M : Mem} {x : Int} (hx : R32 x) : X g mX12_isLetter 0 [.int (iI x)] [] M k n (rI (iI (bI (decide (97 ≤ x ∧ x ≤ 122)))) M) := by
  obtain ⟨x1, x2⟩ := hx
  refine x_iload_n dX12_isLetter_0 rfl ?_
  refine y_bipush dX12_isLetter_1 rfl ?_
  refine (show X _ _ 3 _ _ _ _ _ _ from ?_)
  refine y_icmp_lt 16 dX12_isLetter_3 (by decide) ⟨by omega, by omega⟩ ⟨by omega, by omega⟩ (fun h1 => ?_) (fun h1 => ?_)
  · rw [decide_eq_false (by omega)]
    refine y_iconst dX12_isLetter_16 ?_
    refine (show X _ _ 17 _ _ _ _ _ _ from ?_)
    exact x_zreturn dX12_isLetter_17 rfl rfl ⟨rfl, rfl⟩
  refine x_iload_n dX12_isLetter_6 rfl ?_
  refine y_bipush dX12_isLetter_7 rfl ?_
  refine (show X _ _ 9 _ _ _ _ _ _ from ?_)
  refine y_icmp_gt 16 dX12_isLetter_9 (by decide) ⟨by omega, by omega⟩ ⟨by omega, by omega⟩ (fun h2 => ?_) (fun h2 => ?_)
  · rw [decide_eq_false (by omega)]
    refine y_iconst dX12_isLetter_16 ?_
    refine (show X _ _ 17 _ _ _ _ _ _ from ?_)
    exact x_zreturn dX12_isLetter_17 rfl rfl ⟨rfl, rfl⟩
  rw [decide_eq_true (by omega)]
  refine y_iconst dX12_isLetter_12 ?_
  refine x_goto 17 dX12_isLetter_13 (by decide) ?_
  refine (show X _ _ 17 _ _ _ _ _ _ from ?_)
  exact x_zreturn dX12_isLetter_17 rfl rfl ⟨rfl, rfl⟩
theorem c_isDig {M : Mem} {x : Int} (hx : R32 x) : X g mX12_isDigit 0 [.int (iI x)] [] M k n (rI (iI (bI (decide (48 ≤ x ∧ x ≤ 57)))) M) := by
  obtain ⟨x1, x2⟩ := hx
  refine x_iload_n dX12_isDigit_0 rfl ?_
  refine y_bipush dX12_isDigit_1 rfl ?_
  refine (show X _ _ 3 _ _ _ _ _ _ from ?_)
  refine y_icmp_lt 16 dX12_isDigit_3 (by decide) ⟨by omega, by omega⟩ ⟨by omega, by omega⟩ (fun h1 => ?_) (fun h1 => ?_)
  · rw [decide_eq_false (by omega)]
    refine y_iconst dX12_isDigit_16 ?_
    refine (show X _ _ 17 _ _ _ _ _ _ from ?_)
    exact x_zreturn dX12_isDigit_17 rfl rfl ⟨rfl, rfl⟩
  refine x_iload_n dX12_isDigit_6 rfl ?_
  refine y_bipush dX12_isDigit_7 rfl ?_
  refine (show X _ _ 9 _ _ _ _ _ _ from ?_)
  refine y_icmp_gt 16 dX12_isDigit_9 (by decide) ⟨by omega, by omega⟩ ⟨by omega, by omega⟩ (fun h2 => ?_) (fun h2 => ?_)
  · rw [decide_eq_false (by omega)]
    refine y_iconst dX12_isDigit_16 ?_
    refine (show X _ _ 17 _ _ _ _ _ _ from ?_)
    exact x_zreturn dX12_isDigit_17 rfl rfl ⟨rfl, rfl⟩
  rw [decide_eq_true (by omega)]
  refine y_iconst dX12_isDigit_12 ?_
  refine x_goto 17 dX12_isDigit_13 (by decide) ?_
  refine (show X _ _ 17 _ _ _ _ _ _ from ?_)
  exact x_zreturn dX12_isDigit_17 rfl rfl ⟨rfl, rfl⟩
theorem bA_r (hb : byR t) (he : e ≤ 1100) (x : Nat) : R32 (bA t e x) := by
  unfold bA
  split
  · have := hb x (by omega); exact ⟨by omega, by omega⟩
  · exact ⟨by decide, by decide⟩
/-- the blanks -/
theorem g_sp (hM : MSh T R r) (hb : byR t) (he : e ≤ 1100) : ∀ (d i : Nat) (V : Nat → Nat → Int), i + d = e → V r 8 = (i : Int) → V r 7 = (e : Int) → V (r + 1) = t → (∀ V', S8 V V' r → V' r 8 = ((eor t 32 32 d i : Nat) : Int) → X g mX12_goesOn 35 [.ref r, jk, jk] [] (T, iV V', R, J, z) k n Q) → X g mX12_goesOn 9 [.ref r, jk, jk] [] (T, iV V, R, J, z) k n Q := by
  intro d
  induction d with
  | zero =>
    intro i V hi h8 h7 ht kk
    obtain ⟨m0, -, -⟩ := id hM
    have hr := bA_r hb he i
    obtain ⟨r1, r2⟩ := hr
    refine x_aload_n dX12_goesOn_9 rfl ?_
    refine x_aload_n dX12_goesOn_10 rfl ?_
    refine y_gi dX12_goesOn_11 fX12_116 (by first | assumption) (fun _ _ _ => rfl) ?_
    refine (show X _ _ 14 _ _ _ _ _ _ from ?_)
    refine X.val h8 ?_
    refine x_callV (As := [_]) (mc := 0) (ms := 0) (z := mX12_byteAt) (ci := 12) dX12_goesOn_14 lX12_119 oX12_byteAt (by decide) (by first | assumption) rfl rfl (Nat.le_of_ble_eq_true rfl) (Nat.le_of_ble_eq_true rfl) rfl (c_byteAt hM h7 ht he (by omega)) (k_I ?_)
    refine (show X _ _ 17 _ _ _ _ _ _ from ?_)
    refine y_bipush dX12_goesOn_17 rfl ?_
    refine (show X _ _ 19 _ _ _ _ _ _ from ?_)
    refine y_icmp_ne 35 dX12_goesOn_19 (by decide) ⟨by omega, by omega⟩ ⟨by omega, by omega⟩ (fun h1 => ?_) (fun h1 => ?_)
    · exact kk V ⟨fun _ _ => rfl, fun _ _ => rfl⟩ h8
    · unfold bA at h1
      rw [if_neg (by omega)] at h1
      omega
  | succ d ih =>
    intro i V hi h8 h7 ht kk
    obtain ⟨m0, -, -⟩ := id hM
    have hr := bA_r hb he i
    obtain ⟨r1, r2⟩ := hr
    have hbi := hb i (by omega)
    refine x_aload_n dX12_goesOn_9 rfl ?_
    refine x_aload_n dX12_goesOn_10 rfl ?_
    refine y_gi dX12_goesOn_11 fX12_116 (by first | assumption) (fun _ _ _ => rfl) ?_
    refine (show X _ _ 14 _ _ _ _ _ _ from ?_)
    refine X.val h8 ?_
    refine x_callV (As := [_]) (mc := 0) (ms := 0) (z := mX12_byteAt) (ci := 12) dX12_goesOn_14 lX12_119 oX12_byteAt (by decide) (by first | assumption) rfl rfl (Nat.le_of_ble_eq_true rfl) (Nat.le_of_ble_eq_true rfl) rfl (c_byteAt hM h7 ht he (by omega)) (k_I ?_)
    refine (show X _ _ 17 _ _ _ _ _ _ from ?_)
    refine y_bipush dX12_goesOn_17 rfl ?_
    refine (show X _ _ 19 _ _ _ _ _ _ from ?_)
    refine y_icmp_ne 35 dX12_goesOn_19 (by decide) ⟨by omega, by omega⟩ ⟨by omega, by omega⟩ (fun h1 => ?_) (fun h1 => ?_)
    · unfold bA at h1
      rw [if_pos (by omega)] at h1
      exact kk V ⟨fun _ _ => rfl, fun _ _ => rfl⟩ (by rw [h8, eor, if_neg (by omega)])
    · unfold bA at h1
      rw [if_pos (by omega)] at h1
      refine x_aload_n dX12_goesOn_22 rfl ?_
      refine x_dup dX12_goesOn_23 rfl ?_
      refine y_gi dX12_goesOn_24 fX12_116 (by first | assumption) (fun _ _ _ => rfl) ?_
      refine (show X _ _ 27 _ _ _ _ _ _ from ?_)
      refine X.val h8 ?_
      refine y_iconst dX12_goesOn_27 ?_
      refine y_iadd dX12_goesOn_28 ?_
      refine y_pi dX12_goesOn_29 (pX12_116 _) (by first | assumption) (fun _ _ _ => rfl) rfl rfl ?_
      refine x_goto 9 dX12_goesOn_32 (by decide) ?_
      refine (show X _ _ 9 _ _ _ _ _ _ from ?_)
      refine ih (i + 1) _ (by omega) (by rw [u2_s, u1_s]; omega) (by rw [u2_s, u1_n (by decide)]; exact h7) (by rw [u2_n (by omega)]; exact ht) (fun V' hs h => kk V' ⟨fun b hb => (hs.1 b hb).trans (by rw [u2_n hb]), fun c hc => (hs.2 c hc).trans (by rw [u2_s, u1_n hc])⟩ ?_)
      rw [h, eor, if_pos (by omega)]
/-- the letters -/
theorem g_let {s : Nat} {c : Int32} (hM : MSh T R r) (hb : byR t) (he : e ≤ 1100) : ∀ (d j : Nat) (V : Nat → Nat → Int) (J : Nat → Nat → Int64), j + d = e → s ≤ j → V r 8 = (j : Int) → V r 7 = (e : Int) → V (r + 1) = t → (j - s ≤ 8 → J r 14 = lI (wk t (j - s) s 0)) → (∀ V' J', S8 V V' r → (∀ b, b ≠ r → J' b = J b) → V' r 8 = ((eor t 97 122 d j : Nat) : Int) → (eor t 97 122 d j - s ≤ 8 → J' r 14 = lI (wk t (eor t 97 122 d j - s) s 0)) → X g mX12_goesOn 147 [.ref r, .int c, .int (iI ((eor t 97 122 d j - s : Nat) : Int))] [] (T, iV V', R, J', z) k n Q) → X g mX12_goesOn 84 [.ref r, .int c, .int (iI ((j - s : Nat) : Int))] [] (T, iV V, R, J, z) k n Q := by
  intro d
  induction d with
  | zero =>
    intro j V J hi hsj h8 h7 ht hJ kk
    obtain ⟨m0, -, -⟩ := id hM
    have hr := bA_r hb he j
    refine x_aload_n dX12_goesOn_84 rfl ?_
    refine x_aload_n dX12_goesOn_85 rfl ?_
    refine y_gi dX12_goesOn_86 fX12_116 (by first | assumption) (fun _ _ _ => rfl) ?_
    refine (show X _ _ 89 _ _ _ _ _ _ from ?_)
    refine X.val h8 ?_
    refine x_callV (As := [_]) (mc := 0) (ms := 0) (z := mX12_byteAt) (ci := 12) dX12_goesOn_89 lX12_119 oX12_byteAt (by decide) (by first | assumption) rfl rfl (Nat.le_of_ble_eq_true rfl) (Nat.le_of_ble_eq_true rfl) rfl (c_byteAt hM h7 ht he (by omega)) (k_I ?_)
    refine (show X _ _ 92 _ _ _ _ _ _ from ?_)
    refine x_callS (As := [_]) (mc := 0) (ms := 0) (z := mX12_isLetter) dX12_goesOn_92 lX12_125 oX12_isLetter (by decide) rfl (Nat.le_of_ble_eq_true rfl) (Nat.le_of_ble_eq_true rfl) rfl (c_isLet hr) (k_I ?_)
    refine (show X _ _ 95 _ _ _ _ _ _ from ?_)
    refine y_ifb_eq 147 dX12_goesOn_95 (by decide) (fun h1 => ?_) (fun h1 => ?_)
    · exact kk V J ⟨fun _ _ => rfl, fun _ _ => rfl⟩ (fun _ _ => rfl) h8 hJ
    · unfold bA at h1
      rw [if_neg (by omega)] at h1
      cases h1
  | succ d ih =>
    intro j V J hi hsj h8 h7 ht hJ kk
    obtain ⟨m0, -, -⟩ := id hM
    have hr := bA_r hb he j
    have hbi := hb j (by omega)
    have hbv : bA t e j = t j % 256 := if_pos (by omega)
    refine x_aload_n dX12_goesOn_84 rfl ?_
    refine x_aload_n dX12_goesOn_85 rfl ?_
    refine y_gi dX12_goesOn_86 fX12_116 (by first | assumption) (fun _ _ _ => rfl) ?_
    refine (show X _ _ 89 _ _ _ _ _ _ from ?_)
    refine X.val h8 ?_
    refine x_callV (As := [_]) (mc := 0) (ms := 0) (z := mX12_byteAt) (ci := 12) dX12_goesOn_89 lX12_119 oX12_byteAt (by decide) (by first | assumption) rfl rfl (Nat.le_of_ble_eq_true rfl) (Nat.le_of_ble_eq_true rfl) rfl (c_byteAt hM h7 ht he (by omega)) (k_I ?_)
    refine (show X _ _ 92 _ _ _ _ _ _ from ?_)
    refine x_callS (As := [_]) (mc := 0) (ms := 0) (z := mX12_isLetter) dX12_goesOn_92 lX12_125 oX12_isLetter (by decide) rfl (Nat.le_of_ble_eq_true rfl) (Nat.le_of_ble_eq_true rfl) rfl (c_isLet hr) (k_I ?_)
    refine (show X _ _ 95 _ _ _ _ _ _ from ?_)
    refine y_ifb_eq 147 dX12_goesOn_95 (by decide) (fun h1 => ?_) (fun h1 => ?_)
    · rw [hbv] at h1
      have h1 := of_decide_eq_false h1
      have ee : eor t 97 122 (d + 1) j = j := by rw [eor, if_neg (by omega)]
      rw [ee] at kk
      exact kk V J ⟨fun _ _ => rfl, fun _ _ => rfl⟩ (fun _ _ => rfl) h8 hJ
    · rw [hbv] at h1
      have h1 := of_decide_eq_true h1
      have ee : eor t 97 122 (d + 1) j = eor t 97 122 d (j + 1) := by rw [eor, if_pos (by omega)]
      rw [ee] at kk
      have ec : ((j - s : Nat) : Int) + 1 = ((j + 1 - s : Nat) : Int) := by omega
      refine x_iload_n dX12_goesOn_98 rfl ?_
      refine y_bipush dX12_goesOn_99 rfl ?_
      refine (show X _ _ 101 _ _ _ _ _ _ from ?_)
      refine y_icmp_ge 131 dX12_goesOn_101 (by decide) ⟨by omega, by omega⟩ ⟨by omega, by omega⟩ (fun h2 => ?_) (fun h2 => ?_)
      · refine y_iinc dX12_goesOn_131 rfl (by decide) rfl rfl ?_
        refine x_aload_n dX12_goesOn_134 rfl ?_
        refine x_dup dX12_goesOn_135 rfl ?_
        refine y_gi dX12_goesOn_136 fX12_116 (by first | assumption) (fun _ _ _ => rfl) ?_
        refine (show X _ _ 139 _ _ _ _ _ _ from ?_)
        refine X.val h8 ?_
        refine y_iconst dX12_goesOn_139 ?_
        refine y_iadd dX12_goesOn_140 ?_
        refine y_pi dX12_goesOn_141 (pX12_116 _) (by first | assumption) (fun _ _ _ => rfl) rfl rfl ?_
        refine x_goto 84 dX12_goesOn_144 (by decide) ?_
        refine (show X _ _ 84 _ _ _ _ _ _ from ?_)
        rw [ec]
        exact ih (j + 1) _ J (by omega) (by omega) (by rw [u2_s, u1_s]; omega) (by rw [u2_s, u1_n (by decide)]; exact h7) (by rw [u2_n (by omega)]; exact ht) (fun q => by omega) (fun V' J' hs hj h hJ' => kk V' J' ⟨fun b hb => (hs.1 b hb).trans (by rw [u2_n hb]), fun c hc => (hs.2 c hc).trans (by rw [u2_s, u1_n hc])⟩ hj h hJ')
      · have hJ := hJ (by omega)
        refine x_aload_n dX12_goesOn_104 rfl ?_
        refine x_ldc2 dX12_goesOn_105 kX12_107 ?_
        refine x_aload_n dX12_goesOn_108 rfl ?_
        refine x_gl dX12_goesOn_109 fX12_129 (by first | assumption) (fun _ _ _ => rfl) ?_
        refine x_lmul dX12_goesOn_112 ?_
        refine x_aload_n dX12_goesOn_113 rfl ?_
        refine x_aload_n dX12_goesOn_114 rfl ?_
        refine y_gi dX12_goesOn_115 fX12_116 (by first | assumption) (fun _ _ _ => rfl) ?_
        refine (show X _ _ 118 _ _ _ _ _ _ from ?_)
        refine X.val h8 ?_
        refine x_callV (As := [_]) (mc := 0) (ms := 0) (z := mX12_byteAt) (ci := 12) dX12_goesOn_118 lX12_119 oX12_byteAt (by decide) (by first | assumption) rfl rfl (Nat.le_of_ble_eq_true rfl) (Nat.le_of_ble_eq_true rfl) rfl (c_byteAt hM h7 ht he (by omega)) (k_I ?_)
        refine (show X _ _ 121 _ _ _ _ _ _ from ?_)
        refine y_bipush dX12_goesOn_121 rfl ?_
        refine y_isub dX12_goesOn_123 ?_
        refine y_iconst dX12_goesOn_124 ?_
        refine y_iadd dX12_goesOn_125 ?_
        refine (show X _ _ 126 _ _ _ _ _ _ from ?_)
        rw [hbv]
        refine x_i2l dX12_goesOn_126 ?_
        rw [i2l_lI ⟨by omega, by omega⟩]
        refine x_ladd dX12_goesOn_127 ?_
        have ev : (32 : Int64) * J r 14 + lI (t j % 256 - 97 + 1) = lI (wk t (j + 1 - s) s 0) := by
          rw [show (32 : Int64) = lI 32 from rfl, hJ, lI_mul, lI_add, show j + 1 - s = (j - s) + 1 by omega, wk_snoc, show s + (j - s) = j by omega]
          congr 1
          omega
        rw [ev]
        refine (show X _ _ 128 _ _ _ _ _ _ from ?_)
        refine x_pl dX12_goesOn_128 (pX12_129 _) (by first | assumption) (fun _ _ _ => rfl) rfl rfl ?_
        refine y_iinc dX12_goesOn_131 rfl (by decide) rfl rfl ?_
        refine x_aload_n dX12_goesOn_134 rfl ?_
        refine x_dup dX12_goesOn_135 rfl ?_
        refine y_gi dX12_goesOn_136 fX12_116 (by first | assumption) (fun _ _ _ => rfl) ?_
        refine (show X _ _ 139 _ _ _ _ _ _ from ?_)
        refine X.val h8 ?_
        refine y_iconst dX12_goesOn_139 ?_
        refine y_iadd dX12_goesOn_140 ?_
        refine y_pi dX12_goesOn_141 (pX12_116 _) (by first | assumption) (fun _ _ _ => rfl) rfl rfl ?_
        refine x_goto 84 dX12_goesOn_144 (by decide) ?_
        refine (show X _ _ 84 _ _ _ _ _ _ from ?_)
        rw [ec]
        exact ih (j + 1) _ _ (by omega) (by omega) (by rw [u2_s, u1_s]; omega) (by rw [u2_s, u1_n (by decide)]; exact h7) (by rw [u2_n (by omega)]; exact ht) (fun q => by rw [u2_s, u1_s]) (fun V' J' hs hj h hJ' => kk V' J' ⟨fun b hb => (hs.1 b hb).trans (by rw [u2_n hb]), fun c hc => (hs.2 c hc).trans (by rw [u2_s, u1_n hc])⟩ (fun b hb => (hj b hb).trans (by rw [u2_n hb])) h hJ')
def S8b (V V' : Nat → Nat → Int) (r : Nat) : Prop := (∀ b, b ≠ r → V' b = V b) ∧ ∀ c, c ≠ 8 → c ≠ 11 → V' r c = V r c
/-- the digits -/
theorem g_dig {s : Nat} {c : Int32} (hM : MSh T R r) (hb : byR t) (he : e ≤ 1100) : ∀ (d j : Nat) (V : Nat → Nat → Int), j + d = e → s ≤ j → V r 8 = (j : Int) → V r 7 = (e : Int) → V (r + 1) = t → (j - s ≤ 3 → V r 11 = whS t (j - s) s 0) → (∀ V', S8b V V' r → V' r 8 = ((eor t 48 57 d j : Nat) : Int) → (eor t 48 57 d j - s ≤ 3 → V' r 11 = whS t (eor t 48 57 d j - s) s 0) → X g mX12_goesOn 231 [.ref r, .int c, .int (iI ((eor t 48 57 d j - s : Nat) : Int))] [] (T, iV V', R, J, z) k n Q) → X g mX12_goesOn 173 [.ref r, .int c, .int (iI ((j - s : Nat) : Int))] [] (T, iV V, R, J, z) k n Q := by
  intro d
  induction d with
  | zero =>
    intro j V hi hsj h8 h7 ht hJ kk
    obtain ⟨m0, -, -⟩ := id hM
    have hr := bA_r hb he j
    refine x_aload_n dX12_goesOn_173 rfl ?_
    refine x_aload_n dX12_goesOn_174 rfl ?_
    refine y_gi dX12_goesOn_175 fX12_116 (by first | assumption) (fun _ _ _ => rfl) ?_
    refine (show X _ _ 178 _ _ _ _ _ _ from ?_)
    refine X.val h8 ?_
    refine x_callV (As := [_]) (mc := 0) (ms := 0) (z := mX12_byteAt) (ci := 12) dX12_goesOn_178 lX12_119 oX12_byteAt (by decide) (by first | assumption) rfl rfl (Nat.le_of_ble_eq_true rfl) (Nat.le_of_ble_eq_true rfl) rfl (c_byteAt hM h7 ht he (by omega)) (k_I ?_)
    refine (show X _ _ 181 _ _ _ _ _ _ from ?_)
    refine x_callS (As := [_]) (mc := 0) (ms := 0) (z := mX12_isDigit) dX12_goesOn_181 lX12_133 oX12_isDigit (by decide) rfl (Nat.le_of_ble_eq_true rfl) (Nat.le_of_ble_eq_true rfl) rfl (c_isDig hr) (k_I ?_)
    refine (show X _ _ 184 _ _ _ _ _ _ from ?_)
    refine y_ifb_eq 231 dX12_goesOn_184 (by decide) (fun h1 => ?_) (fun h1 => ?_)
    · exact kk V ⟨fun _ _ => rfl, fun _ _ _ => rfl⟩ h8 hJ
    · unfold bA at h1
      rw [if_neg (by omega)] at h1
      cases h1
  | succ d ih =>
    intro j V hi hsj h8 h7 ht hJ kk
    obtain ⟨m0, -, -⟩ := id hM
    have hr := bA_r hb he j
    have hbi := hb j (by omega)
    have hbv : bA t e j = t j % 256 := if_pos (by omega)
    refine x_aload_n dX12_goesOn_173 rfl ?_
    refine x_aload_n dX12_goesOn_174 rfl ?_
    refine y_gi dX12_goesOn_175 fX12_116 (by first | assumption) (fun _ _ _ => rfl) ?_
    refine (show X _ _ 178 _ _ _ _ _ _ from ?_)
    refine X.val h8 ?_
    refine x_callV (As := [_]) (mc := 0) (ms := 0) (z := mX12_byteAt) (ci := 12) dX12_goesOn_178 lX12_119 oX12_byteAt (by decide) (by first | assumption) rfl rfl (Nat.le_of_ble_eq_true rfl) (Nat.le_of_ble_eq_true rfl) rfl (c_byteAt hM h7 ht he (by omega)) (k_I ?_)
    refine (show X _ _ 181 _ _ _ _ _ _ from ?_)
    refine x_callS (As := [_]) (mc := 0) (ms := 0) (z := mX12_isDigit) dX12_goesOn_181 lX12_133 oX12_isDigit (by decide) rfl (Nat.le_of_ble_eq_true rfl) (Nat.le_of_ble_eq_true rfl) rfl (c_isDig hr) (k_I ?_)
    refine (show X _ _ 184 _ _ _ _ _ _ from ?_)
    refine y_ifb_eq 231 dX12_goesOn_184 (by decide) (fun h1 => ?_) (fun h1 => ?_)
    · rw [hbv] at h1
      have h1 := of_decide_eq_false h1
      have ee : eor t 48 57 (d + 1) j = j := by rw [eor, if_neg (by omega)]
      rw [ee] at kk
      exact kk V ⟨fun _ _ => rfl, fun _ _ _ => rfl⟩ h8 hJ
    · rw [hbv] at h1
      have h1 := of_decide_eq_true h1
      have ee : eor t 48 57 (d + 1) j = eor t 48 57 d (j + 1) := by rw [eor, if_pos (by omega)]
      rw [ee] at kk
      have ec : ((j - s : Nat) : Int) + 1 = ((j + 1 - s : Nat) : Int) := by omega
      refine x_iload_n dX12_goesOn_187 rfl ?_
      refine y_iconst dX12_goesOn_188 ?_
      refine (show X _ _ 189 _ _ _ _ _ _ from ?_)
      refine y_icmp_ge 215 dX12_goesOn_189 (by decide) ⟨by omega, by omega⟩ ⟨by omega, by omega⟩ (fun h2 => ?_) (fun h2 => ?_)
      · refine y_iinc dX12_goesOn_215 rfl (by decide) rfl rfl ?_
        refine x_aload_n dX12_goesOn_218 rfl ?_
        refine x_dup dX12_goesOn_219 rfl ?_
        refine y_gi dX12_goesOn_220 fX12_116 (by first | assumption) (fun _ _ _ => rfl) ?_
        refine (show X _ _ 223 _ _ _ _ _ _ from ?_)
        refine X.val h8 ?_
        refine y_iconst dX12_goesOn_223 ?_
        refine y_iadd dX12_goesOn_224 ?_
        refine y_pi dX12_goesOn_225 (pX12_116 _) (by first | assumption) (fun _ _ _ => rfl) rfl rfl ?_
        refine x_goto 173 dX12_goesOn_228 (by decide) ?_
        refine (show X _ _ 173 _ _ _ _ _ _ from ?_)
        rw [ec]
        exact ih (j + 1) _ (by omega) (by omega) (by rw [u2_s, u1_s]; omega) (by rw [u2_s, u1_n (by decide)]; exact h7) (by rw [u2_n (by omega)]; exact ht) (fun q => by omega) (fun V' hs h hJ' => kk V' ⟨fun b hb => (hs.1 b hb).trans (by rw [u2_n hb]), fun c hc h11 => (hs.2 c hc h11).trans (by rw [u2_s, u1_n hc])⟩ h hJ')
      · have hJ := hJ (by omega)
        refine x_aload_n dX12_goesOn_192 rfl ?_
        refine y_bipush dX12_goesOn_193 rfl ?_
        refine x_aload_n dX12_goesOn_195 rfl ?_
        refine y_gi dX12_goesOn_196 fX12_136 (by first | assumption) (fun _ _ _ => rfl) ?_
        refine y_imul dX12_goesOn_199 ?_
        refine x_aload_n dX12_goesOn_200 rfl ?_
        refine x_aload_n dX12_goesOn_201 rfl ?_
        refine y_gi dX12_goesOn_202 fX12_116 (by first | assumption) (fun _ _ _ => rfl) ?_
        refine (show X _ _ 205 _ _ _ _ _ _ from ?_)
        refine X.val h8 ?_
        refine x_callV (As := [_]) (mc := 0) (ms := 0) (z := mX12_byteAt) (ci := 12) dX12_goesOn_205 lX12_119 oX12_byteAt (by decide) (by first | assumption) rfl rfl (Nat.le_of_ble_eq_true rfl) (Nat.le_of_ble_eq_true rfl) rfl (c_byteAt hM h7 ht he (by omega)) (k_I ?_)
        refine (show X _ _ 208 _ _ _ _ _ _ from ?_)
        refine y_iadd dX12_goesOn_208 ?_
        refine y_bipush dX12_goesOn_209 rfl ?_
        refine y_isub dX12_goesOn_211 ?_
        refine (show X _ _ 212 _ _ _ _ _ _ from ?_)
        rw [hbv]
        have ev : 10 * V r 11 + t j % 256 - 48 = whS t (j + 1 - s) s 0 := by
          rw [hJ, show j + 1 - s = (j - s) + 1 by omega, whS_snoc, show s + (j - s) = j by omega]
          omega
        refine X.val ev ?_
        refine y_pi dX12_goesOn_212 (pX12_136 _) (by first | assumption) (fun _ _ _ => rfl) rfl rfl ?_
        refine y_iinc dX12_goesOn_215 rfl (by decide) rfl rfl ?_
        refine x_aload_n dX12_goesOn_218 rfl ?_
        refine x_dup dX12_goesOn_219 rfl ?_
        refine y_gi dX12_goesOn_220 fX12_116 (by first | assumption) (fun _ _ _ => rfl) ?_
        refine (show X _ _ 223 _ _ _ _ _ _ from ?_)
        refine X.val (b := (j : Int)) (by rw [u2_s, u1_n (by decide)]; exact h8) ?_
        refine y_iconst dX12_goesOn_223 ?_
        refine y_iadd dX12_goesOn_224 ?_
        refine y_pi dX12_goesOn_225 (pX12_116 _) (by first | assumption) (fun _ _ _ => rfl) rfl rfl ?_
        refine x_goto 173 dX12_goesOn_228 (by decide) ?_
        refine (show X _ _ 173 _ _ _ _ _ _ from ?_)
        rw [ec]
        exact ih (j + 1) _ (by omega) (by omega) (by rw [u2_s, u1_s]; omega) (by rw [u2_s, u1_n (by decide), u2_s, u1_n (by decide)]; exact h7) (by rw [u2_n (by omega), u2_n (by omega)]; exact ht) (fun q => by rw [u2_s, u1_n (by decide), u2_s, u1_s]) (fun V' hs h hJ' => kk V' ⟨fun b hb => (hs.1 b hb).trans (by rw [u2_n hb, u2_n hb]), fun c hc h11 => (hs.2 c hc h11).trans (by rw [u2_s, u1_n hc, u2_s, u1_n h11])⟩ h hJ')
theorem tkL_0 {s : Nat} (hs : tkS t e i = s) (h : s < e) (hn : ¬ (97 ≤ t s ∧ t s ≤ 122)) : tkL t e i = s := by
  unfold tkL
  rw [hs, show e - s = (e - s - 1) + 1 by omega, eor, if_neg hn]
theorem tkL_1 {s : Nat} (hs : tkS t e i = s) (h : s < e) (hn : 97 ≤ t s ∧ t s ≤ 122) : s < tkL t e i := by
  unfold tkL
  rw [hs, show e - s = (e - s - 1) + 1 by omega, eor, if_pos hn]
  have := eor_b t 97 122 (e - s - 1) (s + 1)
  omega
theorem tkD_0 {s : Nat} (hs : tkS t e i = s) (h : s < e) (hn : ¬ (48 ≤ t s ∧ t s ≤ 57)) : tkD t e i = s := by
  unfold tkD
  rw [hs, show e - s = (e - s - 1) + 1 by omega, eor, if_neg hn]
theorem tkD_1 {s : Nat} (hs : tkS t e i = s) (h : s < e) (hn : 48 ≤ t s ∧ t s ≤ 57) : s < tkD t e i := by
  unfold tkD
  rw [hs, show e - s = (e - s - 1) + 1 by omega, eor, if_pos hn]
  have := eor_b t 48 57 (e - s - 1) (s + 1)
  omega
theorem k_goes0 (hM : MSh T R r) (h9 : V r 9 = 5) : X g mX12_goesOn 0 [.ref r, jk, jk] [] (T, iV V, R, J, z) k n (rV (T, iV V, R, J, z)) := by
  obtain ⟨m0, -, -⟩ := id hM
  refine x_aload_n dX12_goesOn_0 rfl ?_
  refine y_gi dX12_goesOn_1 fX12_113 (by first | assumption) (fun _ _ _ => rfl) ?_
  refine (show X _ _ 4 _ _ _ _ _ _ from ?_)
  refine X.val h9 ?_
  refine y_iconst dX12_goesOn_4 ?_
  refine (show X _ _ 5 _ _ _ _ _ _ from ?_)
  refine y_icmp_ne 9 dX12_goesOn_5 (by decide) ⟨by omega, by omega⟩ ⟨by omega, by omega⟩ (fun h1 => ?_) (fun h1 => ?_)
  · omega
  · exact x_return dX12_goesOn_8 rfl ⟨rfl, rfl⟩
theorem k_goes1 (hM : MSh T R r) (hb : byR t) (he : e ≤ 1100) (h9 : V r 9 ≠ 5) (h9r : R32 (V r 9)) (h8 : V r 8 = (i : Int)) (hi : i ≤ e) (h7 : V r 7 = (e : Int)) (ht : V (r + 1) = t) : X g mX12_goesOn 0 [.ref r, jk, jk] [] (T, iV V, R, J, z) k n (fun v M => v = none ∧ ∃ V' J', M = (T, iV V', R, J', z) ∧ (KS V V' J J' r ∧ V' r 12 = V r 12 ∧ V' r 13 = V r 13) ∧ TK t V' J' r e i) := by
  obtain ⟨m0, -, -⟩ := id hM
  obtain ⟨q1, q2⟩ := h9r
  refine x_aload_n dX12_goesOn_0 rfl ?_
  refine y_gi dX12_goesOn_1 fX12_113 (by first | assumption) (fun _ _ _ => rfl) ?_
  refine y_iconst dX12_goesOn_4 ?_
  refine (show X _ _ 5 _ _ _ _ _ _ from ?_)
  refine y_icmp_ne 9 dX12_goesOn_5 (by decide) ⟨by omega, by omega⟩ ⟨by omega, by omega⟩ (fun h1 => ?_) (fun h1 => ?_)
  rotate_left
  · omega
  refine g_sp hM hb he (e - i) i V (by omega) h8 h7 ht (fun V1 hs h8 => ?_)
  have hbd := tk_b t hi
  have e1 : eor t 32 32 (e - i) i = tkS t e i := rfl
  rw [e1] at h8
  obtain ⟨s, hsv⟩ : ∃ s, tkS t e i = s := ⟨_, rfl⟩
  rw [hsv] at h8 hbd
  have h71 : V1 r 7 = (e : Int) := (hs.2 7 (by decide)).trans h7
  have ht1 : V1 (r + 1) = t := (hs.1 _ (by omega)).trans ht
  have hr := bA_r hb he s
  obtain ⟨b1, b2⟩ := id hr
  refine x_aload_n dX12_goesOn_35 rfl ?_
  refine x_aload_n dX12_goesOn_36 rfl ?_
  refine y_gi dX12_goesOn_37 fX12_116 (by first | assumption) (fun _ _ _ => rfl) ?_
  refine (show X _ _ 40 _ _ _ _ _ _ from ?_)
  refine X.val h8 ?_
  refine y_pi dX12_goesOn_40 (pX12_122 _) (by first | assumption) (fun _ _ _ => rfl) rfl rfl ?_
  refine x_aload_n dX12_goesOn_43 rfl ?_
  refine y_iconst dX12_goesOn_44 ?_
  refine y_pi dX12_goesOn_45 (pX12_113 _) (by first | assumption) (fun _ _ _ => rfl) rfl rfl ?_
  refine x_aload_n dX12_goesOn_48 rfl ?_
  refine x_aload_n dX12_goesOn_49 rfl ?_
  refine y_gi dX12_goesOn_50 fX12_116 (by first | assumption) (fun _ _ _ => rfl) ?_
  refine (show X _ _ 53 _ _ _ _ _ _ from ?_)
  refine X.val (b := (s : Int)) (by rw [u2_s, u1_n (by decide), u2_s, u1_n (by decide)]; exact h8) ?_
  refine x_callV (As := [_]) (mc := 0) (ms := 0) (z := mX12_byteAt) (ci := 12) dX12_goesOn_53 lX12_119 oX12_byteAt (by decide) (by first | assumption) rfl rfl (Nat.le_of_ble_eq_true rfl) (Nat.le_of_ble_eq_true rfl) rfl (c_byteAt (t := t) (e := e) hM (by rw [u2_s, u1_n (by decide), u2_s, u1_n (by decide)]; exact h71) (by rw [u2_n (by omega), u2_n (by omega)]; exact ht1) he (by omega)) (k_I ?_)
  refine (show X _ _ 56 _ _ _ _ _ _ from ?_)
  refine x_istore_n dX12_goesOn_56 (by decide) rfl rfl ?_
  refine y_iconst dX12_goesOn_57 ?_
  refine x_istore_n dX12_goesOn_58 (by decide) rfl rfl ?_
  refine x_iload_n dX12_goesOn_59 rfl ?_
  refine y_iconst dX12_goesOn_60 ?_
  refine (show X _ _ 61 _ _ _ _ _ _ from ?_)
  refine y_icmp_ne 72 dX12_goesOn_61 (by decide) ⟨by omega, by omega⟩ ⟨by omega, by omega⟩ (fun h2 => ?_) (fun h2 => ?_)
  rotate_left
  · have hse : e ≤ s := by
      by_cases hc : s < e
      · have := hb s (by omega)
        unfold bA at h2; rw [if_pos hc] at h2; omega
      · omega
    have eK : tkK t e i = 0 := by unfold tkK; rw [hsv, if_pos hse]
    have eN : tkN t e i = s := by unfold tkN; rw [hsv, if_pos hse]
    refine x_aload_n dX12_goesOn_64 rfl ?_
    refine y_iconst dX12_goesOn_65 ?_
    refine y_pi dX12_goesOn_66 (pX12_113 _) (by first | assumption) (fun _ _ _ => rfl) rfl rfl ?_
    refine x_goto 265 dX12_goesOn_69 (by decide) ?_
    refine (show X _ _ 265 _ _ _ _ _ _ from ?_)
    refine x_return dX12_goesOn_265 rfl ⟨rfl, _, J, rfl, ⟨⟨fun b hb => ?_, fun c hc => ?_, fun _ _ => rfl⟩, ?_, ?_⟩, hi, fun _ => ?_, ?_, ?_, fun h => ?_, fun h => ?_⟩
    · rw [u2_n hb, u2_n hb, u2_n hb]; exact hs.1 b hb
    · rw [u2_s, u1_n (by omega), u2_s, u1_n (by omega), u2_s, u1_n (by omega)]; exact hs.2 c (by omega)
    · rw [u2_s, u1_n (by decide), u2_s, u1_n (by decide), u2_s, u1_n (by decide)]; exact hs.2 12 (by decide)
    · rw [u2_s, u1_n (by decide), u2_s, u1_n (by decide), u2_s, u1_n (by decide)]; exact hs.2 13 (by decide)
    · rw [u2_s, u1_n (by decide), u2_s, u1_n (by decide), u2_s, u1_n (by decide), eN]; exact h8
    · rw [u2_s, u1_s, eK]; rfl
    · rw [u2_s, u1_n (by decide), u2_s, u1_n (by decide), u2_s, u1_s, hsv]
    · rw [eK] at h; cases h
    · rw [eK] at h; cases h
  have hse : s < e := by
    by_cases hc : s < e
    · exact hc
    · unfold bA at h2; rw [if_neg hc] at h2; omega
  have hbv : bA t e s = t s % 256 := if_pos hse
  have hbs := hb s (by omega)
  refine x_iload_n dX12_goesOn_72 rfl ?_
  refine (show X _ _ 73 _ _ _ _ _ _ from ?_)
  refine x_callS (As := [_]) (mc := 0) (ms := 0) (z := mX12_isLetter) dX12_goesOn_73 lX12_125 oX12_isLetter (by decide) rfl (Nat.le_of_ble_eq_true rfl) (Nat.le_of_ble_eq_true rfl) rfl (c_isLet hr) (k_I ?_)
  refine (show X _ _ 76 _ _ _ _ _ _ from ?_)
  rw [hbv]
  refine y_ifb_eq 161 dX12_goesOn_76 (by decide) (fun h3 => ?_) (fun h3 => ?_)
  rotate_left
  · have h3 := of_decide_eq_true h3
    have hl := tkL_1 hsv hse (by omega)
    have eK : tkK t e i = if tkL t e i - s ≤ 8 then 1 else 4 := by unfold tkK; rw [hsv, if_neg (by omega), if_pos hl]
    have eN : tkN t e i = tkL t e i := by unfold tkN; rw [hsv, if_neg (by omega), if_pos hl]
    have eX : tkL t e i - s ≤ 8 → tkX t e i = wk t (tkL t e i - s) s 0 := fun h => by unfold tkX; rw [eK, if_pos h, if_pos rfl, hsv]
    have eL : eor t 97 122 (e - s) s = tkL t e i := by unfold tkL; rw [hsv]
    refine x_aload_n dX12_goesOn_79 rfl ?_
    refine x_lconst _ dX12_goesOn_80 rfl ?_
    refine x_pl dX12_goesOn_81 (pX12_129 _) (by first | assumption) (fun _ _ _ => rfl) rfl rfl ?_
    refine (show X _ _ 84 _ _ _ _ _ _ from ?_)
    have gl := g_let (g := g) (T := T) (R := R) (z := z) (k := k) (n := n) (r := r) (e := e) (t := t) (s := s) (c := iI (t s % 256)) (Q := fun v M => v = none ∧ ∃ V' J', M = (T, iV V', R, J', z) ∧ (KS V V' J J' r ∧ V' r 12 = V r 12 ∧ V' r 13 = V r 13) ∧ TK t V' J' r e i) hM hb he (e - s) s (u2 (u2 V1 r 10 (s : Int)) r 9 0) (u2 J r 14 0) (by omega) (Nat.le_refl _) (by rw [u2_s, u1_n (by decide), u2_s, u1_n (by decide)]; exact h8) (by rw [u2_s, u1_n (by decide), u2_s, u1_n (by decide)]; exact h71) (by rw [u2_n (by omega), u2_n (by omega)]; exact ht1) (fun _ => by rw [u2_s, u1_s, Nat.sub_self]; rfl)
    rw [Nat.sub_self, eL] at gl
    refine gl (fun V2 J2 hs2 hj2 h82 hJ2 => ?_)
    have hbl : tkL t e i ≤ 1100 := by omega
    refine x_iload_n dX12_goesOn_147 rfl ?_
    refine y_bipush dX12_goesOn_148 rfl ?_
    refine (show X _ _ 150 _ _ _ _ _ _ from ?_)
    refine y_icmp_gt 265 dX12_goesOn_150 (by decide) ⟨by omega, by omega⟩ ⟨by omega, by omega⟩ (fun h4 => ?_) (fun h4 => ?_)
    · have eK : tkK t e i = 4 := by rw [eK, if_neg (by omega)]
      refine x_return dX12_goesOn_265 rfl ⟨rfl, V2, J2, rfl, ⟨⟨fun b hb => ?_, fun c hc => ?_, fun b hb => ?_⟩, ?_, ?_⟩, hi, fun h => absurd eK h, ?_, ?_, fun h => ?_, fun h => ?_⟩
      · rw [hs2.1 b hb, u2_n hb, u2_n hb]; exact hs.1 b hb
      · rw [hs2.2 c (by omega), u2_s, u1_n (by omega), u2_s, u1_n (by omega)]; exact hs.2 c (by omega)
      · rw [hj2 b hb, u2_n hb]
      · rw [hs2.2 12 (by decide), u2_s, u1_n (by decide), u2_s, u1_n (by decide)]; exact hs.2 12 (by decide)
      · rw [hs2.2 13 (by decide), u2_s, u1_n (by decide), u2_s, u1_n (by decide)]; exact hs.2 13 (by decide)
      · rw [hs2.2 9 (by decide), u2_s, u1_s, eK]; rfl
      · rw [hs2.2 10 (by decide), u2_s, u1_n (by decide), u2_s, u1_s, hsv]
      · rw [eK] at h; cases h
      · rw [eK] at h; cases h
    · have eK : tkK t e i = 1 := by rw [eK, if_pos (by omega)]
      refine x_aload_n dX12_goesOn_153 rfl ?_
      refine y_iconst dX12_goesOn_154 ?_
      refine y_pi dX12_goesOn_155 (pX12_113 _) (by first | assumption) (fun _ _ _ => rfl) rfl rfl ?_
      refine x_goto 265 dX12_goesOn_158 (by decide) ?_
      refine (show X _ _ 265 _ _ _ _ _ _ from ?_)
      refine x_return dX12_goesOn_265 rfl ⟨rfl, _, J2, rfl, ⟨⟨fun b hb => ?_, fun c hc => ?_, fun b hb => ?_⟩, ?_, ?_⟩, hi, fun h => ?_, ?_, ?_, fun h => ?_, fun h => ?_⟩
      · rw [u2_n hb, hs2.1 b hb, u2_n hb, u2_n hb]; exact hs.1 b hb
      · rw [u2_s, u1_n (by omega), hs2.2 c (by omega), u2_s, u1_n (by omega), u2_s, u1_n (by omega)]; exact hs.2 c (by omega)
      · rw [hj2 b hb, u2_n hb]
      · rw [u2_s, u1_n (by decide), hs2.2 12 (by decide), u2_s, u1_n (by decide), u2_s, u1_n (by decide)]; exact hs.2 12 (by decide)
      · rw [u2_s, u1_n (by decide), hs2.2 13 (by decide), u2_s, u1_n (by decide), u2_s, u1_n (by decide)]; exact hs.2 13 (by decide)
      · rw [u2_s, u1_n (by decide), h82, eN]
      · rw [u2_s, u1_s, eK]; rfl
      · rw [u2_s, u1_n (by decide), hs2.2 10 (by decide), u2_s, u1_n (by decide), u2_s, u1_s, hsv]
      · rw [eX (by omega)]; exact hJ2 (by omega)
      · rw [eK] at h; cases h
  have h3 := of_decide_eq_false h3
  have eL := tkL_0 hsv hse (by omega)
  rw [← hbv]
  refine x_iload_n dX12_goesOn_161 rfl ?_
  refine (show X _ _ 162 _ _ _ _ _ _ from ?_)
  refine x_callS (As := [_]) (mc := 0) (ms := 0) (z := mX12_isDigit) dX12_goesOn_162 lX12_133 oX12_isDigit (by decide) rfl (Nat.le_of_ble_eq_true rfl) (Nat.le_of_ble_eq_true rfl) rfl (c_isDig hr) (k_I ?_)
  refine (show X _ _ 165 _ _ _ _ _ _ from ?_)
  rw [hbv]
  refine y_ifb_eq 244 dX12_goesOn_165 (by decide) (fun h5 => ?_) (fun h5 => ?_)
  rotate_left
  · have h5 := of_decide_eq_true h5
    have hl := tkD_1 hsv hse (by omega)
    have eK : tkK t e i = if tkD t e i - s ≤ 3 then 2 else 4 := by unfold tkK; rw [hsv, eL, if_neg (by omega), if_neg (by omega), if_pos hl]
    have eN : tkN t e i = tkD t e i := by unfold tkN; rw [hsv, eL, if_neg (by omega), if_neg (by omega), if_pos hl]
    have eX : tkD t e i - s ≤ 3 → tkX t e i = whS t (tkD t e i - s) s 0 := fun h => by unfold tkX; rw [eK, if_pos h, if_neg (by decide), hsv]
    have eD : eor t 48 57 (e - s) s = tkD t e i := by unfold tkD; rw [hsv]
    refine x_aload_n dX12_goesOn_168 rfl ?_
    refine y_iconst dX12_goesOn_169 ?_
    refine y_pi dX12_goesOn_170 (pX12_136 _) (by first | assumption) (fun _ _ _ => rfl) rfl rfl ?_
    refine (show X _ _ 173 _ _ _ _ _ _ from ?_)
    have gl := g_dig (g := g) (T := T) (R := R) (J := J) (z := z) (k := k) (n := n) (r := r) (e := e) (t := t) (s := s) (c := iI (t s % 256)) (Q := fun v M => v = none ∧ ∃ V' J', M = (T, iV V', R, J', z) ∧ (KS V V' J J' r ∧ V' r 12 = V r 12 ∧ V' r 13 = V r 13) ∧ TK t V' J' r e i) hM hb he (e - s) s (u2 (u2 (u2 V1 r 10 (s : Int)) r 9 0) r 11 0) (by omega) (Nat.le_refl _) (by rw [u2_s, u1_n (by decide), u2_s, u1_n (by decide), u2_s, u1_n (by decide)]; exact h8) (by rw [u2_s, u1_n (by decide), u2_s, u1_n (by decide), u2_s, u1_n (by decide)]; exact h71) (by rw [u2_n (by omega), u2_n (by omega), u2_n (by omega)]; exact ht1) (fun _ => by rw [u2_s, u1_s, Nat.sub_self]; rfl)
    rw [Nat.sub_self, eD] at gl
    refine gl (fun V2 hs2 h82 hJ2 => ?_)
    have hbl : tkD t e i ≤ 1100 := by omega
    refine x_iload_n dX12_goesOn_231 rfl ?_
    refine y_iconst dX12_goesOn_232 ?_
    refine (show X _ _ 233 _ _ _ _ _ _ from ?_)
    refine y_icmp_gt 265 dX12_goesOn_233 (by decide) ⟨by omega, by omega⟩ ⟨by omega, by omega⟩ (fun h4 => ?_) (fun h4 => ?_)
    · have eK : tkK t e i = 4 := by rw [eK, if_neg (by omega)]
      refine x_return dX12_goesOn_265 rfl ⟨rfl, V2, J, rfl, ⟨⟨fun b hb => ?_, fun c hc => ?_, fun b hb => rfl⟩, ?_, ?_⟩, hi, fun h => absurd eK h, ?_, ?_, fun h => ?_, fun h => ?_⟩
      · rw [hs2.1 b hb, u2_n hb, u2_n hb, u2_n hb]; exact hs.1 b hb
      · rw [hs2.2 c (by omega) (by omega), u2_s, u1_n (by omega), u2_s, u1_n (by omega), u2_s, u1_n (by omega)]; exact hs.2 c (by omega)
      · rw [hs2.2 12 (by decide) (by decide), u2_s, u1_n (by decide), u2_s, u1_n (by decide), u2_s, u1_n (by decide)]; exact hs.2 12 (by decide)
      · rw [hs2.2 13 (by decide) (by decide), u2_s, u1_n (by decide), u2_s, u1_n (by decide), u2_s, u1_n (by decide)]; exact hs.2 13 (by decide)
      · rw [hs2.2 9 (by decide) (by decide), u2_s, u1_n (by decide), u2_s, u1_s, eK]; rfl
      · rw [hs2.2 10 (by decide) (by decide), u2_s, u1_n (by decide), u2_s, u1_n (by decide), u2_s, u1_s, hsv]
      · rw [eK] at h; cases h
      · rw [eK] at h; cases h
    · have eK : tkK t e i = 2 := by rw [eK, if_pos (by omega)]
      refine x_aload_n dX12_goesOn_236 rfl ?_
      refine y_iconst dX12_goesOn_237 ?_
      refine y_pi dX12_goesOn_238 (pX12_113 _) (by first | assumption) (fun _ _ _ => rfl) rfl rfl ?_
      refine x_goto 265 dX12_goesOn_241 (by decide) ?_
      refine (show X _ _ 265 _ _ _ _ _ _ from ?_)
      refine x_return dX12_goesOn_265 rfl ⟨rfl, _, J, rfl, ⟨⟨fun b hb => ?_, fun c hc => ?_, fun b hb => rfl⟩, ?_, ?_⟩, hi, fun h => ?_, ?_, ?_, fun h => ?_, fun h => ?_⟩
      · rw [u2_n hb, hs2.1 b hb, u2_n hb, u2_n hb, u2_n hb]; exact hs.1 b hb
      · rw [u2_s, u1_n (by omega), hs2.2 c (by omega) (by omega), u2_s, u1_n (by omega), u2_s, u1_n (by omega), u2_s, u1_n (by omega)]; exact hs.2 c (by omega)
      · rw [u2_s, u1_n (by decide), hs2.2 12 (by decide) (by decide), u2_s, u1_n (by decide), u2_s, u1_n (by decide), u2_s, u1_n (by decide)]; exact hs.2 12 (by decide)
      · rw [u2_s, u1_n (by decide), hs2.2 13 (by decide) (by decide), u2_s, u1_n (by decide), u2_s, u1_n (by decide), u2_s, u1_n (by decide)]; exact hs.2 13 (by decide)
      · rw [u2_s, u1_n (by decide), h82, eN]
      · rw [u2_s, u1_s, eK]; rfl
      · rw [u2_s, u1_n (by decide), hs2.2 10 (by decide) (by decide), u2_s, u1_n (by decide), u2_s, u1_n (by decide), u2_s, u1_s, hsv]
      · rw [eK] at h; cases h
      · rw [u2_s, u1_n (by decide), eX (by omega)]; exact hJ2 (by omega)
  have h5 := of_decide_eq_false h5
  have eD := tkD_0 hsv hse (by omega)
  refine x_iload_n dX12_goesOn_244 rfl ?_
  refine y_bipush dX12_goesOn_245 rfl ?_
  refine (show X _ _ 247 _ _ _ _ _ _ from ?_)
  refine y_icmp_ne 265 dX12_goesOn_247 (by decide) ⟨by omega, by omega⟩ ⟨by omega, by omega⟩ (fun h6 => ?_) (fun h6 => ?_)
  · have eK : tkK t e i = 4 := by unfold tkK; rw [hsv, eL, eD, if_neg (by omega), if_neg (by omega), if_neg (by omega), if_neg (by omega)]
    refine x_return dX12_goesOn_265 rfl ⟨rfl, _, J, rfl, ⟨⟨fun b hb => ?_, fun c hc => ?_, fun _ _ => rfl⟩, ?_, ?_⟩, hi, fun h => absurd eK h, ?_, ?_, fun h => ?_, fun h => ?_⟩
    · rw [u2_n hb, u2_n hb]; exact hs.1 b hb
    · rw [u2_s, u1_n (by omega), u2_s, u1_n (by omega)]; exact hs.2 c (by omega)
    · rw [u2_s, u1_n (by decide), u2_s, u1_n (by decide)]; exact hs.2 12 (by decide)
    · rw [u2_s, u1_n (by decide), u2_s, u1_n (by decide)]; exact hs.2 13 (by decide)
    · rw [u2_s, u1_s, eK]; rfl
    · rw [u2_s, u1_n (by decide), u2_s, u1_s, hsv]
    · rw [eK] at h; cases h
    · rw [eK] at h; cases h
  · have eK : tkK t e i = 3 := by unfold tkK; rw [hsv, eL, eD, if_neg (by omega), if_neg (by omega), if_neg (by omega), if_pos (by omega)]
    have eN : tkN t e i = s + 1 := by unfold tkN; rw [hsv, eL, eD, if_neg (by omega), if_neg (by omega), if_neg (by omega)]
    refine x_aload_n dX12_goesOn_250 rfl ?_
    refine y_iconst dX12_goesOn_251 ?_
    refine y_pi dX12_goesOn_252 (pX12_113 _) (by first | assumption) (fun _ _ _ => rfl) rfl rfl ?_
    refine x_aload_n dX12_goesOn_255 rfl ?_
    refine x_dup dX12_goesOn_256 rfl ?_
    refine y_gi dX12_goesOn_257 fX12_116 (by first | assumption) (fun _ _ _ => rfl) ?_
    refine (show X _ _ 260 _ _ _ _ _ _ from ?_)
    refine X.val (b := (s : Int)) (by rw [u2_s, u1_n (by decide), u2_s, u1_n (by decide), u2_s, u1_n (by decide), h8]) ?_
    refine y_iconst dX12_goesOn_260 ?_
    refine y_iadd dX12_goesOn_261 ?_
    refine y_pi dX12_goesOn_262 (pX12_116 _) (by first | assumption) (fun _ _ _ => rfl) rfl rfl ?_
    refine (show X _ _ 265 _ _ _ _ _ _ from ?_)
    refine x_return dX12_goesOn_265 rfl ⟨rfl, _, J, rfl, ⟨⟨fun b hb => ?_, fun c hc => ?_, fun _ _ => rfl⟩, ?_, ?_⟩, hi, fun _ => ?_, ?_, ?_, fun h => ?_, fun h => ?_⟩
    · rw [u2_n hb, u2_n hb, u2_n hb, u2_n hb]; exact hs.1 b hb
    · rw [u2_s, u1_n (by omega), u2_s, u1_n (by omega), u2_s, u1_n (by omega), u2_s, u1_n (by omega)]; exact hs.2 c (by omega)
    · rw [u2_s, u1_n (by decide), u2_s, u1_n (by decide), u2_s, u1_n (by decide), u2_s, u1_n (by decide)]; exact hs.2 12 (by decide)
    · rw [u2_s, u1_n (by decide), u2_s, u1_n (by decide), u2_s, u1_n (by decide), u2_s, u1_n (by decide)]; exact hs.2 13 (by decide)
    · rw [u2_s, u1_s, eN]; omega
    · rw [u2_s, u1_n (by decide), u2_s, u1_s, eK]; rfl
    · rw [u2_s, u1_n (by decide), u2_s, u1_n (by decide), u2_s, u1_n (by decide), u2_s, u1_s, hsv]
    · rw [eK] at h; cases h
    · rw [eK] at h; cases h
theorem k_flaw0 {c : Int} (hM : MSh T R r) (h9 : V r 9 = 5) : X g mX12_flaw 0 [.ref r, .int (iI c)] [] (T, iV V, R, J, z) k n (rV (T, iV V, R, J, z)) := by
  obtain ⟨m0, -, -⟩ := id hM
  refine x_aload_n dX12_flaw_0 rfl ?_
  refine y_gi dX12_flaw_1 fX12_113 (by first | assumption) (fun _ _ _ => rfl) ?_
  refine (show X _ _ 4 _ _ _ _ _ _ from ?_)
  refine X.val h9 ?_
  refine y_iconst dX12_flaw_4 ?_
  refine (show X _ _ 5 _ _ _ _ _ _ from ?_)
  refine y_icmp_ne 9 dX12_flaw_5 (by decide) ⟨by omega, by omega⟩ ⟨by omega, by omega⟩ (fun h1 => ?_) (fun h1 => ?_)
  · omega
  · exact x_return dX12_flaw_8 rfl ⟨rfl, rfl⟩
theorem k_flaw1 {c : Int} (hM : MSh T R r) (h9 : V r 9 ≠ 5) (h9r : R32 (V r 9)) : X g mX12_flaw 0 [.ref r, .int (iI c)] [] (T, iV V, R, J, z) k n (rV (T, iV (u2 (u2 (u2 V r 12 c) r 13 (V r 10)) r 9 5), R, J, z)) := by
  obtain ⟨m0, -, -⟩ := id hM
  obtain ⟨q1, q2⟩ := h9r
  refine x_aload_n dX12_flaw_0 rfl ?_
  refine y_gi dX12_flaw_1 fX12_113 (by first | assumption) (fun _ _ _ => rfl) ?_
  refine y_iconst dX12_flaw_4 ?_
  refine (show X _ _ 5 _ _ _ _ _ _ from ?_)
  refine y_icmp_ne 9 dX12_flaw_5 (by decide) ⟨by omega, by omega⟩ ⟨by omega, by omega⟩ (fun h1 => ?_) (fun h1 => ?_)
  rotate_left
  · omega
  refine x_aload_n dX12_flaw_9 rfl ?_
  refine x_iload_n dX12_flaw_10 rfl ?_
  refine y_pi dX12_flaw_11 (pX12_139 _) (by first | assumption) (fun _ _ _ => rfl) rfl rfl ?_
  refine x_aload_n dX12_flaw_14 rfl ?_
  refine x_aload_n dX12_flaw_15 rfl ?_
  refine y_gi dX12_flaw_16 fX12_122 (by first | assumption) (fun _ _ _ => rfl) ?_
  refine (show X _ _ 19 _ _ _ _ _ _ from ?_)
  refine X.val (b := V r 10) (by rw [u2_s, u1_n (by decide)]) ?_
  refine y_pi dX12_flaw_19 (pX12_142 _) (by first | assumption) (fun _ _ _ => rfl) rfl rfl ?_
  refine x_aload_n dX12_flaw_22 rfl ?_
  refine y_iconst dX12_flaw_23 ?_
  refine y_pi dX12_flaw_24 (pX12_113 _) (by first | assumption) (fun _ _ _ => rfl) rfl rfl ?_
  refine (show X _ _ 27 _ _ _ _ _ _ from ?_)
  exact x_return dX12_flaw_27 rfl ⟨rfl, rfl⟩
end C9l
