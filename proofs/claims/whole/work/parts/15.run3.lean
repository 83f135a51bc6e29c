/-! ===== Run: lot, round, in place of, taking a turn, beginning ===== -/
def us (x : Int32) (s : Int32) : Int32 := (x.toUInt32 >>> (s.toUInt32 &&& Int32.toUInt32 31)).toInt32
def bc1 (x : Int32) : Int32 := x - (us x 1 &&& 1431655765)
def bc2 (x : Int32) : Int32 := (x &&& 858993459) + (us x 2 &&& 858993459)
def bc3 (x : Int32) : Int32 := (x + us x 4) &&& 252645135
def bc4 (x : Int32) : Int32 := x + us x 8
def bc5 (x : Int32) : Int32 := x + us x 16
/-- how many are in a set -/
def popc (n : Nat) : Int := lp 10 (fun p s => if n.testBit p then s + 1 else s) 0
theorem bc_ok : ∀ n : Nat, n < 1024 → bc5 (bc4 (bc3 (bc2 (bc1 (iI (n : Int)))))) &&& 63 = iI (popc n) := by decide +kernel
theorem popc_b : ∀ n : Nat, n < 1024 → 0 ≤ popc n ∧ popc n ≤ 10 := by decide +kernel
/-- the a-th of a set from p on, m places -/
def nthF (set : Nat) : Nat → Nat → Int → Int
  | 0, _, _ => -2
  | m + 1, p, a => if set.testBit p then (if a = 0 then (p : Int) else nthF set m (p + 1) (a - 1)) else nthF set m (p + 1) a
/-- the first of a set from p on, m places -/
def fiF (set : Nat) : Nat → Nat → Int
  | 0, _ => -2
  | m + 1, p => if set.testBit p then (p : Int) else fiF set m (p + 1)
section RunF
variable (A B W : Nat → Nat → Int)
def dSeed : Int := (75 * W 0 2 + 74) % 65537
def drawn (set : Nat) : Int := if popc set = 0 then -2 else nthF set (fP A) 0 (dSeed W % popc set)
def drawnW (set : Nat) : Nat → Nat → Int := if popc set = 0 then W else u2 W 0 2 (dSeed W)
def rRound (can : Nat) : Int := if fiF can (fP A - (W 0 7 + 1).toNat) (W 0 7 + 1).toNat < 0 then fiF can (W 0 7 + 1).toNat 0 else fiF can (fP A - (W 0 7 + 1).toNat) (W 0 7 + 1).toNat
def inPl (can : Nat) (who : Int) : Int := if who = W 0 3 ∧ 0 ≤ W 0 4 ∧ can.testBit (W 0 4).toNat = true then W 0 4 else if who = W 0 4 ∧ 0 ≤ W 0 3 ∧ can.testBit (W 0 3).toNat = true then W 0 3 else who
def payW (s b : Nat) (pr : Int) : Nat → Nat → Int := u2 (u2 W 3 s (W 3 s - pr)) 3 b (u2 W 3 s (W 3 s - pr) 3 b + pr)
end RunF
section C4
variable {g : GG} {T : Nat → Nat × Nat} {V W : Nat → Nat → Int} {R : Nat → Nat → Option Nat} {J : Nat → Nat → Int64} {z k n : Nat} {A B : Nat → Nat → Int} {r w f nw al : Nat}
theorem c_bitCount {set : Nat} {M : Mem} (hset : set < 1024) : X g mJ6_bitCount_0f7a4 0 [.int (iI set)] [] M k n (rI (iI (popc set)) M) := by
  have e := bc_ok set hset
  generalize iI (set : Int) = x at *
  refine x_iload_n dJ6_bitCount_0f7a4_0 rfl ?_
  refine x_iload_n dJ6_bitCount_0f7a4_1 rfl ?_
  refine x_iconst (1) dJ6_bitCount_0f7a4_2 rfl ?_
  refine x_iushr dJ6_bitCount_0f7a4_3 ?_
  refine x_ldcw dJ6_bitCount_0f7a4_4 kJ6_265 ?_
  refine x_iand dJ6_bitCount_0f7a4_7 ?_
  refine x_isub dJ6_bitCount_0f7a4_8 ?_
  refine x_istore_n dJ6_bitCount_0f7a4_9 (by decide) rfl rfl ?_
  refine (show X _ _ 10 _ _ _ _ _ _ from ?_)
  refine (show X _ _ 10 [.int (bc1 x)] _ _ _ _ _ from ?_)
  generalize bc1 x = x1 at *
  refine x_iload_n dJ6_bitCount_0f7a4_10 rfl ?_
  refine x_ldcw dJ6_bitCount_0f7a4_11 kJ6_266 ?_
  refine x_iand dJ6_bitCount_0f7a4_14 ?_
  refine x_iload_n dJ6_bitCount_0f7a4_15 rfl ?_
  refine x_iconst (2) dJ6_bitCount_0f7a4_16 rfl ?_
  refine x_iushr dJ6_bitCount_0f7a4_17 ?_
  refine x_ldcw dJ6_bitCount_0f7a4_18 kJ6_266 ?_
  refine x_iand dJ6_bitCount_0f7a4_21 ?_
  refine (show X _ _ 22 _ _ _ _ _ _ from ?_)
  refine x_iadd dJ6_bitCount_0f7a4_22 ?_
  refine x_istore_n dJ6_bitCount_0f7a4_23 (by decide) rfl rfl ?_
  refine (show X _ _ 24 _ _ _ _ _ _ from ?_)
  refine (show X _ _ 24 [.int (bc2 x1)] _ _ _ _ _ from ?_)
  generalize bc2 x1 = x2 at *
  refine x_iload_n dJ6_bitCount_0f7a4_24 rfl ?_
  refine x_iload_n dJ6_bitCount_0f7a4_25 rfl ?_
  refine x_iconst (4) dJ6_bitCount_0f7a4_26 rfl ?_
  refine x_iushr dJ6_bitCount_0f7a4_27 ?_
  refine x_iadd dJ6_bitCount_0f7a4_28 ?_
  refine x_ldcw dJ6_bitCount_0f7a4_29 kJ6_267 ?_
  refine x_iand dJ6_bitCount_0f7a4_32 ?_
  refine x_istore_n dJ6_bitCount_0f7a4_33 (by decide) rfl rfl ?_
  refine (show X _ _ 34 _ _ _ _ _ _ from ?_)
  refine (show X _ _ 34 [.int (bc3 x2)] _ _ _ _ _ from ?_)
  generalize bc3 x2 = x3 at *
  refine x_iload_n dJ6_bitCount_0f7a4_34 rfl ?_
  refine x_iload_n dJ6_bitCount_0f7a4_35 rfl ?_
  refine x_bipush (8) dJ6_bitCount_0f7a4_36 rfl ?_
  refine x_iushr dJ6_bitCount_0f7a4_38 ?_
  refine x_iadd dJ6_bitCount_0f7a4_39 ?_
  refine x_istore_n dJ6_bitCount_0f7a4_40 (by decide) rfl rfl ?_
  refine (show X _ _ 41 _ _ _ _ _ _ from ?_)
  refine (show X _ _ 41 [.int (bc4 x3)] _ _ _ _ _ from ?_)
  generalize bc4 x3 = x4 at *
  refine x_iload_n dJ6_bitCount_0f7a4_41 rfl ?_
  refine x_iload_n dJ6_bitCount_0f7a4_42 rfl ?_
  refine x_bipush (16) dJ6_bitCount_0f7a4_43 rfl ?_
  refine x_iushr dJ6_bitCount_0f7a4_45 ?_
  refine x_iadd dJ6_bitCount_0f7a4_46 ?_
  refine x_istore_n dJ6_bitCount_0f7a4_47 (by decide) rfl rfl ?_
  refine (show X _ _ 48 _ _ _ _ _ _ from ?_)
  refine (show X _ _ 48 [.int (bc5 x4)] _ _ _ _ _ from ?_)
  generalize bc5 x4 = x5 at *
  refine x_iload_n dJ6_bitCount_0f7a4_48 rfl ?_
  refine x_bipush (63) dJ6_bitCount_0f7a4_49 rfl ?_
  refine x_iand dJ6_bitCount_0f7a4_51 ?_
  refine (show X _ _ 52 _ _ _ _ _ _ from ?_)
  rw [e]
  exact x_ireturn dJ6_bitCount_0f7a4_52 rfl ⟨rfl, rfl⟩
theorem c_drawn {set : Nat} (hr : RS T R r w) (hw : WS T R w f nw al) (hC : WC V f nw al A B) (hap : AP r w f nw al) (hset : set < 1024) (hsd : 0 ≤ W 0 2 ∧ W 0 2 ≤ 65536) : X g mX8_drawn 0 [.ref r, .int (iI set), jk, jk, jk] [] (T, iV (pB V r 5 W), R, J, z) k n (rI (iI (drawn A W set)) (T, iV (pB V r 5 (drawnW W set)), R, J, z)) := by
  obtain ⟨⟨r0, r1⟩, -⟩ := hr
  obtain ⟨⟨w0, w1, w2, w3⟩, ⟨f0, ⟨f9, -⟩, ⟨ft1, -⟩, hPR, -⟩, -, -⟩ := hw
  obtain ⟨⟨hV0, hVp, -⟩, -, -, hA, -⟩ := hC
  obtain ⟨p1, p2, -, -⟩ := hap
  have eP := fP10 hA
  have hpb := popc_b set hset
  refine x_iload_n dX8_drawn_0 rfl ?_
  refine (show X _ _ 1 _ _ _ _ _ _ from ?_)
  refine x_callS (As := [_]) (mc := 0) (ms := 0) (z := mJ6_bitCount_0f7a4) dX8_drawn_1 lX8_135 oJ6_bitCount_0f7a4 (by decide) rfl (Nat.le_of_ble_eq_true rfl) (Nat.le_of_ble_eq_true rfl) rfl (c_bitCount hset) (k_I ?_)
  refine (show X _ _ 4 _ _ _ _ _ _ from ?_)
  rw [drawn, drawnW]
  generalize popc set = pc at *
  refine x_istore_n dX8_drawn_4 (by decide) rfl rfl ?_
  refine x_iload_n dX8_drawn_5 rfl ?_
  refine (show X _ _ 6 _ _ _ _ _ _ from ?_)
  refine y_if_ne 12 dX8_drawn_6 (by decide) ⟨by omega, by omega⟩ (fun h1 => ?_) (fun h1 => ?_)
  rotate_left
  · rw [if_pos h1, if_pos h1]
    refine y_bipush dX8_drawn_9 rfl ?_
    refine (show X _ _ 11 _ _ _ _ _ _ from ?_)
    exact x_ireturn dX8_drawn_11 rfl ⟨rfl, rfl⟩
  rw [if_neg h1, if_neg h1]
  refine x_aload_n dX8_drawn_12 rfl ?_
  refine y_bipush dX8_drawn_13 rfl ?_
  refine x_aload_n dX8_drawn_15 rfl ?_
  refine b_gi0 (r := r) (m := 5) dX8_drawn_16 fX8_15 (by first | assumption | exact (hPR _ (by omega)).2) (fun _ _ _ => rfl) (by decide) ?_
  refine y_imul dX8_drawn_19 ?_
  refine y_bipush dX8_drawn_20 rfl ?_
  refine y_iadd dX8_drawn_22 ?_
  refine y_ldc (65537) dX8_drawn_23 kX8_140 rfl ?_
  refine (show X _ _ 25 _ _ _ _ _ _ from ?_)
  have hs1 : 0 ≤ dSeed W ∧ dSeed W < 65537 := ⟨Int.emod_nonneg _ (by decide), Int.emod_lt_of_pos _ (by decide)⟩
  refine y_irem dX8_drawn_25 ⟨by omega, by omega⟩ ⟨by omega, by omega⟩ (by omega) (by omega) ?_
  refine (show X _ _ 26 _ _ _ _ _ _ from ?_)
  refine X.val (b := dSeed W) rfl ?_
  refine b_pi0 (r := r) (m := 5) dX8_drawn_26 (pX8_15 _) (by first | assumption | exact (hPR _ (by omega)).2) (fun _ _ _ => rfl) rfl rfl (by decide) ?_
  refine x_aload_n dX8_drawn_29 rfl ?_
  refine b_gi0 (r := r) (m := 5) dX8_drawn_30 fX8_15 (by first | assumption | exact (hPR _ (by omega)).2) (fun _ _ _ => rfl) (by decide) ?_
  refine (show X _ _ 33 _ _ _ _ _ _ from ?_)
  refine X.val (b := dSeed W) rfl ?_
  refine x_iload_n dX8_drawn_33 rfl ?_
  refine y_irem dX8_drawn_34 ⟨by omega, by omega⟩ ⟨by omega, by omega⟩ (by omega) (by omega) ?_
  refine x_istore_n dX8_drawn_35 (by decide) rfl rfl ?_
  refine y_iconst dX8_drawn_36 ?_
  refine x_istore dX8_drawn_37 (by decide) rfl rfl ?_
  refine (show X _ _ 39 _ _ _ _ _ _ from ?_)
  have hs2 : 0 ≤ dSeed W % pc ∧ dSeed W % pc < pc := ⟨Int.emod_nonneg _ h1, Int.emod_lt_of_pos _ (by omega)⟩
  have key : ∀ (m p : Nat) (a : Int), m + p = fP A → 0 ≤ a → a ≤ 100 → X g mX8_drawn 39 [.ref r, .int (iI set), .int (iI pc), .int (iI a), .int (iI (p : Int))] [] (T, iV (pB V r 5 (u2 W 0 2 (dSeed W))), R, J, z) k n (rI (iI (nthF set m p a)) (T, iV (pB V r 5 (u2 W 0 2 (dSeed W))), R, J, z)) := by
    intro m
    induction m with
    | zero =>
      intro p a hp ha1 ha2
      refine x_iload dX8_drawn_39 rfl ?_
      refine x_aload_n dX8_drawn_41 rfl ?_
      refine x_gr dX8_drawn_42 fX8_56 (by first | assumption | exact (hPR _ (by omega)).2) (fun _ _ _ => rfl) (by first | assumption | exact (hPR _ (by omega)).2) ?_
      refine x_gr dX8_drawn_45 fX8_60 (by first | assumption | exact (hPR _ (by omega)).2) (fun _ _ _ => rfl) (by first | assumption | exact (hPR _ (by omega)).2) ?_
      refine b_gio (r := r) (m := 5) dX8_drawn_48 fX8_66 (by first | assumption | exact (hPR _ (by omega)).2) (fun _ _ _ => rfl) (by omega) ?_
      refine (show X _ _ 51 _ _ _ _ _ _ from ?_)
      refine X.val (b := A 0 3) (hV0 3 (by omega)) ?_
      refine y_icmp_ge 79 dX8_drawn_51 (by decide) ⟨by omega, by omega⟩ ⟨by omega, by omega⟩ (fun h => ?_) (fun h => ?_)
      · refine y_bipush dX8_drawn_79 rfl ?_
        refine (show X _ _ 81 _ _ _ _ _ _ from ?_)
        exact x_ireturn dX8_drawn_81 rfl ⟨rfl, rfl⟩
      · omega
    | succ m ih =>
      intro p a hp ha1 ha2
      refine x_iload dX8_drawn_39 rfl ?_
      refine x_aload_n dX8_drawn_41 rfl ?_
      refine x_gr dX8_drawn_42 fX8_56 (by first | assumption | exact (hPR _ (by omega)).2) (fun _ _ _ => rfl) (by first | assumption | exact (hPR _ (by omega)).2) ?_
      refine x_gr dX8_drawn_45 fX8_60 (by first | assumption | exact (hPR _ (by omega)).2) (fun _ _ _ => rfl) (by first | assumption | exact (hPR _ (by omega)).2) ?_
      refine b_gio (r := r) (m := 5) dX8_drawn_48 fX8_66 (by first | assumption | exact (hPR _ (by omega)).2) (fun _ _ _ => rfl) (by omega) ?_
      refine (show X _ _ 51 _ _ _ _ _ _ from ?_)
      refine X.val (b := A 0 3) (hV0 3 (by omega)) ?_
      refine y_icmp_ge 79 dX8_drawn_51 (by decide) ⟨by omega, by omega⟩ ⟨by omega, by omega⟩ (fun h => ?_) (fun h => ?_)
      · omega
      refine x_iload_n dX8_drawn_54 rfl ?_
      refine x_iload dX8_drawn_55 rfl ?_
      refine (show X _ _ 57 _ _ _ _ _ _ from ?_)
      refine x_callS (As := [_, _]) (mc := 0) (ms := 0) (z := mX10_has) dX8_drawn_57 lX8_115 oX10_has (by decide) rfl (Nat.le_of_ble_eq_true rfl) (Nat.le_of_ble_eq_true rfl) rfl (c_has g set p _ 0 0 (by omega) (by omega)) (k_I ?_)
      refine (show X _ _ 60 _ _ _ _ _ _ from ?_)
      rw [nthF]
      refine y_ifb_eq 73 dX8_drawn_60 (by decide) (fun hb => ?_) (fun hb => ?_)
      · rw [if_neg (by rw [hb]; decide)]
        refine y_iinc dX8_drawn_73 rfl (by decide) rfl rfl ?_
        refine x_goto 39 dX8_drawn_76 (by decide) ?_
        refine (show X _ _ 39 _ _ _ _ _ _ from ?_)
        exact ih (p + 1) a (by omega) ha1 ha2
      rw [if_pos hb]
      refine x_iload_n dX8_drawn_63 rfl ?_
      refine (show X _ _ 64 _ _ _ _ _ _ from ?_)
      refine y_if_ne 70 dX8_drawn_64 (by decide) ⟨by omega, by omega⟩ (fun h3 => ?_) (fun h3 => ?_)
      · rw [if_neg h3]
        refine y_iinc dX8_drawn_70 rfl (by decide) rfl rfl ?_
        refine y_iinc dX8_drawn_73 rfl (by decide) rfl rfl ?_
        refine x_goto 39 dX8_drawn_76 (by decide) ?_
        refine (show X _ _ 39 _ _ _ _ _ _ from ?_)
        exact ih (p + 1) (a - 1) (by omega) (by omega) (by omega)
      · rw [if_pos h3]
        refine x_iload dX8_drawn_67 rfl ?_
        refine (show X _ _ 69 _ _ _ _ _ _ from ?_)
        exact x_ireturn dX8_drawn_69 rfl ⟨rfl, rfl⟩
  exact key (fP A) 0 _ (by omega) hs2.1 (by omega)
theorem c_nextRound {can : Nat} (hr : RS T R r w) (hw : WS T R w f nw al) (hC : WC V f nw al A B) (hap : AP r w f nw al) (hset : can < 1024) (hl : -1 ≤ W 0 7 ∧ W 0 7 < A 0 3) : X g mX8_nextRound 0 [.ref r, .int (iI can), jk, jk] [] (T, iV (pB V r 5 W), R, J, z) k n (rI (iI (rRound A W can)) (T, iV (pB V r 5 W), R, J, z)) := by
  obtain ⟨⟨r0, r1⟩, -⟩ := hr
  obtain ⟨⟨w0, w1, w2, w3⟩, ⟨f0, -⟩, -, -⟩ := hw
  obtain ⟨⟨hV0, hVp, -⟩, -, -, hA, -⟩ := hC
  obtain ⟨p1, p2, -, -⟩ := hap
  have eP := fP10 hA
  obtain ⟨a0, ha0⟩ : ∃ a : Nat, W 0 7 + 1 = (a : Int) := ⟨(W 0 7 + 1).toNat, (Int.toNat_of_nonneg (by omega)).symm⟩
  unfold rRound
  rw [ha0]
  simp only [Int.toNat_natCast]
  have hpos : ∀ m p, fiF can m p < 0 ∨ 0 ≤ fiF can m p := fun m p => by omega
  have k2 : ∀ (m p : Nat), m + p = a0 → X g mX8_nextRound 41 [.ref r, .int (iI can), .int (iI (A 0 3)), .int (iI (p : Int))] [] (T, iV (pB V r 5 W), R, J, z) k n (rI (iI (fiF can m p)) (T, iV (pB V r 5 W), R, J, z)) := by
    intro m
    induction m with
    | zero =>
      intro p hp
      refine x_iload_n dX8_nextRound_41 rfl ?_
      refine x_aload_n dX8_nextRound_42 rfl ?_
      refine b_gi0 (r := r) (m := 5) dX8_nextRound_43 fX8_31 (by first | assumption | exact (hPR _ (by omega)).2) (fun _ _ _ => rfl) (by decide) ?_
      refine (show X _ _ 46 _ _ _ _ _ _ from ?_)
      refine y_icmp_gt 65 dX8_nextRound_46 (by decide) ⟨by omega, by omega⟩ ⟨by omega, by omega⟩ (fun h => ?_) (fun h => ?_)
      · refine y_bipush dX8_nextRound_65 rfl ?_
        refine (show X _ _ 67 _ _ _ _ _ _ from ?_)
        exact x_ireturn dX8_nextRound_67 rfl ⟨rfl, rfl⟩
      · omega
    | succ m ih =>
      intro p hp
      refine x_iload_n dX8_nextRound_41 rfl ?_
      refine x_aload_n dX8_nextRound_42 rfl ?_
      refine b_gi0 (r := r) (m := 5) dX8_nextRound_43 fX8_31 (by first | assumption | exact (hPR _ (by omega)).2) (fun _ _ _ => rfl) (by decide) ?_
      refine (show X _ _ 46 _ _ _ _ _ _ from ?_)
      refine y_icmp_gt 65 dX8_nextRound_46 (by decide) ⟨by omega, by omega⟩ ⟨by omega, by omega⟩ (fun h => ?_) (fun h => ?_)
      · omega
      refine x_iload_n dX8_nextRound_49 rfl ?_
      refine x_iload_n dX8_nextRound_50 rfl ?_
      refine (show X _ _ 51 _ _ _ _ _ _ from ?_)
      refine x_callS (As := [_, _]) (mc := 0) (ms := 0) (z := mX10_has) dX8_nextRound_51 lX8_115 oX10_has (by decide) rfl (Nat.le_of_ble_eq_true rfl) (Nat.le_of_ble_eq_true rfl) rfl (c_has g can p _ 0 0 (by omega) (by omega)) (k_I ?_)
      refine (show X _ _ 54 _ _ _ _ _ _ from ?_)
      rw [fiF]
      refine y_ifb_eq 59 dX8_nextRound_54 (by decide) (fun hb => ?_) (fun hb => ?_)
      · rw [if_neg (by rw [hb]; decide)]
        refine y_iinc dX8_nextRound_59 rfl (by decide) rfl rfl ?_
        refine x_goto 41 dX8_nextRound_62 (by decide) ?_
        refine (show X _ _ 41 _ _ _ _ _ _ from ?_)
        exact ih (p + 1) (by omega)
      · rw [if_pos hb]
        refine x_iload_n dX8_nextRound_57 rfl ?_
        refine (show X _ _ 58 _ _ _ _ _ _ from ?_)
        exact x_ireturn dX8_nextRound_58 rfl ⟨rfl, rfl⟩
  have k1 : ∀ (m p : Nat), (m + p = fP A ∨ (m = 0 ∧ fP A ≤ p)) → p ≤ 11 → X g mX8_nextRound 18 [.ref r, .int (iI can), .int (iI (A 0 3)), .int (iI (p : Int))] [] (T, iV (pB V r 5 W), R, J, z) k n (rI (iI (if fiF can m p < 0 then fiF can a0 0 else fiF can m p)) (T, iV (pB V r 5 W), R, J, z)) := by
    intro m
    induction m with
    | zero =>
      intro p hp hp2
      refine x_iload_n dX8_nextRound_18 rfl ?_
      refine x_iload_n dX8_nextRound_19 rfl ?_
      refine (show X _ _ 20 _ _ _ _ _ _ from ?_)
      refine y_icmp_ge 39 dX8_nextRound_20 (by decide) ⟨by omega, by omega⟩ ⟨by omega, by omega⟩ (fun h => ?_) (fun h => ?_)
      · rw [if_pos (by show (-2 : Int) < 0; decide)]
        refine y_iconst dX8_nextRound_39 ?_
        refine x_istore_n dX8_nextRound_40 (by decide) rfl rfl ?_
        refine (show X _ _ 41 _ _ _ _ _ _ from ?_)
        exact k2 a0 0 (by omega)
      · omega
    | succ m ih =>
      intro p hp hp2
      refine x_iload_n dX8_nextRound_18 rfl ?_
      refine x_iload_n dX8_nextRound_19 rfl ?_
      refine (show X _ _ 20 _ _ _ _ _ _ from ?_)
      refine y_icmp_ge 39 dX8_nextRound_20 (by decide) ⟨by omega, by omega⟩ ⟨by omega, by omega⟩ (fun h => ?_) (fun h => ?_)
      · omega
      refine x_iload_n dX8_nextRound_23 rfl ?_
      refine x_iload_n dX8_nextRound_24 rfl ?_
      refine (show X _ _ 25 _ _ _ _ _ _ from ?_)
      refine x_callS (As := [_, _]) (mc := 0) (ms := 0) (z := mX10_has) dX8_nextRound_25 lX8_115 oX10_has (by decide) rfl (Nat.le_of_ble_eq_true rfl) (Nat.le_of_ble_eq_true rfl) rfl (c_has g can p _ 0 0 (by omega) (by omega)) (k_I ?_)
      refine (show X _ _ 28 _ _ _ _ _ _ from ?_)
      rw [fiF]
      refine y_ifb_eq 33 dX8_nextRound_28 (by decide) (fun hb => ?_) (fun hb => ?_)
      · rw [if_neg (show ¬ can.testBit p = true by rw [hb]; decide)]
        refine y_iinc dX8_nextRound_33 rfl (by decide) rfl rfl ?_
        refine x_goto 18 dX8_nextRound_36 (by decide) ?_
        refine (show X _ _ 18 _ _ _ _ _ _ from ?_)
        exact ih (p + 1) (by omega) (by omega)
      · rw [if_pos hb, if_neg (by omega)]
        refine x_iload_n dX8_nextRound_31 rfl ?_
        refine (show X _ _ 32 _ _ _ _ _ _ from ?_)
        exact x_ireturn dX8_nextRound_32 rfl ⟨rfl, rfl⟩
  refine x_aload_n dX8_nextRound_0 rfl ?_
  refine x_gr dX8_nextRound_1 fX8_56 (by first | assumption | exact (hPR _ (by omega)).2) (fun _ _ _ => rfl) (by first | assumption | exact (hPR _ (by omega)).2) ?_
  refine x_gr dX8_nextRound_4 fX8_60 (by first | assumption | exact (hPR _ (by omega)).2) (fun _ _ _ => rfl) (by first | assumption | exact (hPR _ (by omega)).2) ?_
  refine b_gio (r := r) (m := 5) dX8_nextRound_7 fX8_66 (by first | assumption | exact (hPR _ (by omega)).2) (fun _ _ _ => rfl) (by omega) ?_
  refine (show X _ _ 10 _ _ _ _ _ _ from ?_)
  refine X.val (b := A 0 3) (hV0 3 (by omega)) ?_
  refine x_istore_n dX8_nextRound_10 (by decide) rfl rfl ?_
  refine x_aload_n dX8_nextRound_11 rfl ?_
  refine b_gi0 (r := r) (m := 5) dX8_nextRound_12 fX8_31 (by first | assumption | exact (hPR _ (by omega)).2) (fun _ _ _ => rfl) (by decide) ?_
  refine y_iconst dX8_nextRound_15 ?_
  refine y_iadd dX8_nextRound_16 ?_
  refine (show X _ _ 17 _ _ _ _ _ _ from ?_)
  refine X.val ha0 ?_
  refine x_istore_n dX8_nextRound_17 (by decide) rfl rfl ?_
  refine (show X _ _ 18 _ _ _ _ _ _ from ?_)
  exact k1 (fP A - a0) a0 (by omega) (by omega)
theorem c_inPlaceOf {can : Nat} {who : Int} (hr : RS T R r w) (hset : can < 1024) (hwho : R32 who) (h3 : -1 ≤ W 0 3 ∧ W 0 3 ≤ 9) (h4 : -1 ≤ W 0 4 ∧ W 0 4 ≤ 9) : X g mX8_inPlaceOf 0 [.ref r, .int (iI who), .int (iI can)] [] (T, iV (pB V r 5 W), R, J, z) k n (rI (iI (inPl W can who)) (T, iV (pB V r 5 W), R, J, z)) := by
  obtain ⟨⟨r0, r1⟩, -⟩ := hr
  have hw1 := hwho.1
  have hw2 := hwho.2
  have hPR : True := trivial
  have tail : X g mX8_inPlaceOf 31 [.ref r, .int (iI who), .int (iI can)] [] (T, iV (pB V r 5 W), R, J, z) k n (rI (iI (if who = W 0 4 ∧ 0 ≤ W 0 3 ∧ can.testBit (W 0 3).toNat = true then W 0 3 else who)) (T, iV (pB V r 5 W), R, J, z)) := by
    refine x_iload_n dX8_inPlaceOf_31 rfl ?_
    refine x_aload_n dX8_inPlaceOf_32 rfl ?_
    refine b_gi0 (r := r) (m := 5) dX8_inPlaceOf_33 fX8_21 (by first | assumption | exact (hPR _ (by omega)).2) (fun _ _ _ => rfl) (by decide) ?_
    refine (show X _ _ 36 _ _ _ _ _ _ from ?_)
    refine y_icmp_ne 62 dX8_inPlaceOf_36 (by decide) ⟨by omega, by omega⟩ ⟨by omega, by omega⟩ (fun h1 => ?_) (fun h1 => ?_)
    · rw [if_neg (fun h => h1 h.1)]
      refine x_iload_n dX8_inPlaceOf_62 rfl ?_
      refine (show X _ _ 63 _ _ _ _ _ _ from ?_)
      exact x_ireturn dX8_inPlaceOf_63 rfl ⟨rfl, rfl⟩
    refine x_aload_n dX8_inPlaceOf_39 rfl ?_
    refine b_gi0 (r := r) (m := 5) dX8_inPlaceOf_40 fX8_18 (by first | assumption | exact (hPR _ (by omega)).2) (fun _ _ _ => rfl) (by decide) ?_
    refine (show X _ _ 43 _ _ _ _ _ _ from ?_)
    refine y_if_lt 62 dX8_inPlaceOf_43 (by decide) ⟨by omega, by omega⟩ (fun h2 => ?_) (fun h2 => ?_)
    · rw [if_neg (fun h => by omega)]
      refine x_iload_n dX8_inPlaceOf_62 rfl ?_
      refine (show X _ _ 63 _ _ _ _ _ _ from ?_)
      exact x_ireturn dX8_inPlaceOf_63 rfl ⟨rfl, rfl⟩
    refine x_iload_n dX8_inPlaceOf_46 rfl ?_
    refine x_aload_n dX8_inPlaceOf_47 rfl ?_
    refine b_gi0 (r := r) (m := 5) dX8_inPlaceOf_48 fX8_18 (by first | assumption | exact (hPR _ (by omega)).2) (fun _ _ _ => rfl) (by decide) ?_
    refine (show X _ _ 51 _ _ _ _ _ _ from ?_)
    obtain ⟨l, hlE⟩ : ∃ l : Nat, W 0 3 = (l : Int) := ⟨(W 0 3).toNat, (Int.toNat_of_nonneg h2).symm⟩
    refine X.val hlE ?_
    refine x_callS (As := [_, _]) (mc := 0) (ms := 0) (z := mX10_has) dX8_inPlaceOf_51 lX8_115 oX10_has (by decide) rfl (Nat.le_of_ble_eq_true rfl) (Nat.le_of_ble_eq_true rfl) rfl (c_has g can l _ 0 0 (by omega) (by omega)) (k_I ?_)
    refine (show X _ _ 54 _ _ _ _ _ _ from ?_)
    have e : (W 0 3).toNat = l := by omega
    rw [e]
    refine y_ifb_eq 62 dX8_inPlaceOf_54 (by decide) (fun hb => ?_) (fun hb => ?_)
    · rw [if_neg (fun h => by rw [hb] at h; exact absurd h.2.2 (by decide))]
      refine x_iload_n dX8_inPlaceOf_62 rfl ?_
      refine (show X _ _ 63 _ _ _ _ _ _ from ?_)
      exact x_ireturn dX8_inPlaceOf_63 rfl ⟨rfl, rfl⟩
    · rw [if_pos ⟨h1, h2, hb⟩]
      refine x_aload_n dX8_inPlaceOf_57 rfl ?_
      refine b_gi0 (r := r) (m := 5) dX8_inPlaceOf_58 fX8_18 (by first | assumption | exact (hPR _ (by omega)).2) (fun _ _ _ => rfl) (by decide) ?_
      refine (show X _ _ 61 _ _ _ _ _ _ from ?_)
      exact x_ireturn dX8_inPlaceOf_61 rfl ⟨rfl, rfl⟩
  unfold inPl
  refine x_iload_n dX8_inPlaceOf_0 rfl ?_
  refine x_aload_n dX8_inPlaceOf_1 rfl ?_
  refine b_gi0 (r := r) (m := 5) dX8_inPlaceOf_2 fX8_18 (by first | assumption | exact (hPR _ (by omega)).2) (fun _ _ _ => rfl) (by decide) ?_
  refine (show X _ _ 5 _ _ _ _ _ _ from ?_)
  refine y_icmp_ne 31 dX8_inPlaceOf_5 (by decide) ⟨by omega, by omega⟩ ⟨by omega, by omega⟩ (fun h1 => ?_) (fun h1 => ?_)
  · rw [if_neg (fun h => h1 h.1)]
    exact tail
  refine x_aload_n dX8_inPlaceOf_8 rfl ?_
  refine b_gi0 (r := r) (m := 5) dX8_inPlaceOf_9 fX8_21 (by first | assumption | exact (hPR _ (by omega)).2) (fun _ _ _ => rfl) (by decide) ?_
  refine (show X _ _ 12 _ _ _ _ _ _ from ?_)
  refine y_if_lt 31 dX8_inPlaceOf_12 (by decide) ⟨by omega, by omega⟩ (fun h2 => ?_) (fun h2 => ?_)
  · rw [if_neg (fun h => by omega)]
    exact tail
  refine x_iload_n dX8_inPlaceOf_15 rfl ?_
  refine x_aload_n dX8_inPlaceOf_16 rfl ?_
  refine b_gi0 (r := r) (m := 5) dX8_inPlaceOf_17 fX8_21 (by first | assumption | exact (hPR _ (by omega)).2) (fun _ _ _ => rfl) (by decide) ?_
  refine (show X _ _ 20 _ _ _ _ _ _ from ?_)
  obtain ⟨l, hlE⟩ : ∃ l : Nat, W 0 4 = (l : Int) := ⟨(W 0 4).toNat, (Int.toNat_of_nonneg h2).symm⟩
  refine X.val hlE ?_
  refine x_callS (As := [_, _]) (mc := 0) (ms := 0) (z := mX10_has) dX8_inPlaceOf_20 lX8_115 oX10_has (by decide) rfl (Nat.le_of_ble_eq_true rfl) (Nat.le_of_ble_eq_true rfl) rfl (c_has g can l _ 0 0 (by omega) (by omega)) (k_I ?_)
  refine (show X _ _ 23 _ _ _ _ _ _ from ?_)
  have e : (W 0 4).toNat = l := by omega
  refine y_ifb_eq 31 dX8_inPlaceOf_23 (by decide) (fun hb => ?_) (fun hb => ?_)
  · rw [if_neg (fun h => by rw [e, hb] at h; exact absurd h.2.2 (by decide))]
    exact tail
  · rw [if_pos ⟨h1, h2, by rw [e]; exact hb⟩]
    refine x_aload_n dX8_inPlaceOf_26 rfl ?_
    refine b_gi0 (r := r) (m := 5) dX8_inPlaceOf_27 fX8_21 (by first | assumption | exact (hPR _ (by omega)).2) (fun _ _ _ => rfl) (by decide) ?_
    refine (show X _ _ 30 _ _ _ _ _ _ from ?_)
    exact x_ireturn dX8_inPlaceOf_30 rfl ⟨rfl, rfl⟩
theorem c_pay {s b : Nat} {pr : Int} (hr : RS T R r w) (hs : s < 10) (hb : b < 10) : X g mX8_pay 0 [.ref r, .int (iI s), .int (iI b), .int (iI pr)] [] (T, iV (pB V r 5 W), R, J, z) k n (rI (iI b) (T, iV (pB V r 5 (payW W s b pr)), R, J, z)) := by
  obtain ⟨⟨r0, r1⟩, ⟨r2, r3, r4, r5⟩, ⟨s1, s2, s3, s4⟩⟩ := hr
  have hPR : True := trivial
  refine x_aload_n dX8_pay_0 rfl ?_
  refine x_gr dX8_pay_1 fX8_50 (by first | assumption | exact (hPR _ (by omega)).2) (fun _ _ _ => rfl) (by first | assumption | exact (hPR _ (by omega)).2) ?_
  refine x_iload_n dX8_pay_4 rfl ?_
  refine x_dup2 dX8_pay_5 rfl rfl ?_
  refine b_iald (r := r) (m := 5) (j := 3) (s) dX8_pay_6 (by first | assumption | exact (hPR _ (by omega)).2) (by first | rfl | omega) (by omega) (by decide) (by decide) ?_
  refine x_iload_n dX8_pay_7 rfl ?_
  refine y_isub dX8_pay_8 ?_
  refine b_iast (r := r) (m := 5) (j := 3) (s) dX8_pay_9 (by first | assumption | exact (hPR _ (by omega)).2) (by first | rfl | omega) (by omega) (by decide) (by decide) ?_
  refine (show X _ _ 10 _ _ _ _ _ _ from ?_)
  refine x_aload_n dX8_pay_10 rfl ?_
  refine x_gr dX8_pay_11 fX8_50 (by first | assumption | exact (hPR _ (by omega)).2) (fun _ _ _ => rfl) (by first | assumption | exact (hPR _ (by omega)).2) ?_
  refine x_iload_n dX8_pay_14 rfl ?_
  refine x_dup2 dX8_pay_15 rfl rfl ?_
  refine b_iald (r := r) (m := 5) (j := 3) (b) dX8_pay_16 (by first | assumption | exact (hPR _ (by omega)).2) (by first | rfl | omega) (by omega) (by decide) (by decide) ?_
  refine x_iload_n dX8_pay_17 rfl ?_
  refine y_iadd dX8_pay_18 ?_
  refine b_iast (r := r) (m := 5) (j := 3) (b) dX8_pay_19 (by first | assumption | exact (hPR _ (by omega)).2) (by first | rfl | omega) (by omega) (by decide) (by decide) ?_
  refine (show X _ _ 20 _ _ _ _ _ _ from ?_)
  refine x_iload_n dX8_pay_20 rfl ?_
  refine (show X _ _ 21 _ _ _ _ _ _ from ?_)
  exact x_ireturn dX8_pay_21 rfl ⟨rfl, rfl⟩
end C4
