/-! ===== Run: of those with fewest turns, by age, by lot, by votes ===== -/
theorem fw_b {A W : Nat → Nat → Int} {set : Nat} (hW : ∀ p, p < fP A → 0 ≤ W 1 p ∧ W 1 p ≤ 24) : ∀ m, m ≤ fP A → (-1 ≤ (fwL A W set m).1 ∧ (fwL A W set m).1 ≤ 1000000000) ∧ (fwL A W set m).2 < 2 ^ m
  | 0, _ => ⟨⟨by show (-1 : Int) ≤ 1000000000; decide, by show (1000000000 : Int) ≤ 1000000000; decide⟩, by show 0 < 1; decide⟩
  | m + 1, h => by
    obtain ⟨⟨h1, h2⟩, h3⟩ := fw_b (set := set) hW m (by omega)
    have hw := hW m (by omega)
    have hc : -1 ≤ cnt A W m ∧ cnt A W m ≤ 24 := by unfold cnt; split <;> omega
    have hp : 2 ^ m < 2 ^ (m + 1) := Nat.pow_lt_pow_right (by decide) (by omega)
    have e : fwL A W set (m + 1) = fwSt A W set m (fwL A W set m) := rfl
    rw [e, fwSt]
    split
    · split
      · exact ⟨⟨by omega, by show cnt A W m ≤ _; omega⟩, hp⟩
      · split
        · exact ⟨⟨h1, h2⟩, Nat.or_lt_two_pow (Nat.lt_trans h3 hp) hp⟩
        · exact ⟨⟨h1, h2⟩, Nat.lt_trans h3 hp⟩
    · exact ⟨⟨h1, h2⟩, Nat.lt_trans h3 hp⟩
theorem fewest_lt {A W : Nat → Nat → Int} {set : Nat} (hA : VA A) (hW : ∀ p, p < fP A → 0 ≤ W 1 p ∧ W 1 p ≤ 24) : fewest A W set < 1024 := Nat.lt_of_lt_of_le (fw_b hW _ (Nat.le_refl _)).2 (two10 (fP10 hA).2)
section C3
variable {g : GG} {T : Nat → Nat × Nat} {V W : Nat → Nat → Int} {R : Nat → Nat → Option Nat} {J : Nat → Nat → Int64} {z k n : Nat} {A B : Nat → Nat → Int} {r w f nw al : Nat}
theorem c_fewest {set : Nat} (hr : RS T R r w) (hw : WS T R w f nw al) (hC : WC V f nw al A B) (hap : AP r w f nw al) (hW : ∀ p, p < fP A → 0 ≤ W 1 p ∧ W 1 p ≤ 24) (hset : set < 1024) : X g mX8_fewestTurns 0 [.ref r, .int (iI set), jk, jk, jk, jk, jk] [] (T, iV (pB V r 5 W), R, J, z) k n (rI (iI (fewest A W set : Nat)) (T, iV (pB V r 5 W), R, J, z)) := by
  obtain ⟨⟨r0, r1⟩, ⟨r2, r3, r4, r5⟩, ⟨s1, s2, s3, s4⟩⟩ := hr
  obtain ⟨⟨w0, w1, w2, w3⟩, ⟨f0, ⟨f9, -⟩, ⟨ft1, -⟩, hPR, -⟩, -, -⟩ := hw
  obtain ⟨⟨hV0, hVp, -⟩, -, -, hA, -⟩ := hC
  obtain ⟨p1, p2, -, -⟩ := hap
  have eP := fP10 hA
  have hAp := hA.2.2.2.2.2.2.2.2.2.1
  refine y_ldc (1000000000) dX8_fewestTurns_0 kX8_134 rfl ?_
  refine x_istore_n dX8_fewestTurns_2 (by decide) rfl rfl ?_
  refine y_iconst dX8_fewestTurns_3 ?_
  refine x_istore_n dX8_fewestTurns_4 (by decide) rfl rfl ?_
  refine y_iconst dX8_fewestTurns_5 ?_
  refine x_istore dX8_fewestTurns_6 (by decide) rfl rfl ?_
  refine (show X _ _ 8 _ _ _ _ _ _ from ?_)
  refine loopN (P := fun p => X g mX8_fewestTurns 8 [.ref r, .int (iI set), .int (iI (fwL A W set p).1), .int (iI ((fwL A W set p).2 : Nat)), .int (iI (p : Int)), jk, jk] [] (T, iV (pB V r 5 W), R, J, z) k n (rI (iI (fewest A W set : Nat)) (T, iV (pB V r 5 W), R, J, z))) (fP A) ?_ (fun p hp ih => ?_)
  · refine x_iload dX8_fewestTurns_8 rfl ?_
    refine x_aload_n dX8_fewestTurns_10 rfl ?_
    refine x_gr dX8_fewestTurns_11 fX8_56 (by first | assumption | exact (hPR _ (by omega)).2) (fun _ _ _ => rfl) (by first | assumption | exact (hPR _ (by omega)).2) ?_
    refine x_gr dX8_fewestTurns_14 fX8_60 (by first | assumption | exact (hPR _ (by omega)).2) (fun _ _ _ => rfl) (by first | assumption | exact (hPR _ (by omega)).2) ?_
    refine b_gio (r := r) (m := 5) dX8_fewestTurns_17 fX8_66 (by first | assumption | exact (hPR _ (by omega)).2) (fun _ _ _ => rfl) (by omega) ?_
    refine (show X _ _ 20 _ _ _ _ _ _ from ?_)
    refine X.val (b := A 0 3) (hV0 3 (by omega)) ?_
    refine y_icmp_ge 119 dX8_fewestTurns_20 (by decide) ⟨by omega, by omega⟩ ⟨by omega, by omega⟩ (fun h => ?_) (fun h => ?_)
    · refine x_iload_n dX8_fewestTurns_119 rfl ?_
      refine (show X _ _ 120 _ _ _ _ _ _ from ?_)
      exact x_ireturn dX8_fewestTurns_120 rfl ⟨rfl, rfl⟩
    · omega
  have hk := hAp p hp
  have hw1 := hW p hp
  have hfb := fw_b (set := set) hW p (by omega)
  have hc : -1 ≤ cnt A W p ∧ cnt A W p ≤ 24 := by unfold cnt; split <;> omega
  have e : fwL A W set (p + 1) = fwSt A W set p (fwL A W set p) := rfl
  rw [e, fwSt] at ih
  generalize fwL A W set p = q at *
  obtain ⟨q1, q2⟩ := q
  dsimp only at *
  have fin : X g mX8_fewestTurns 61 [.ref r, .int (iI set), .int (iI q1), .int (iI (q2 : Nat)), .int (iI (p : Int)), jk, jk] [.int (iI (cnt A W p))] (T, iV (pB V r 5 W), R, J, z) k n (rI (iI (fewest A W set : Nat)) (T, iV (pB V r 5 W), R, J, z)) := by
    generalize cnt A W p = c at *
    refine x_istore dX8_fewestTurns_61 (by decide) rfl rfl ?_
    refine x_iload_n dX8_fewestTurns_63 rfl ?_
    refine x_iload dX8_fewestTurns_64 rfl ?_
    refine y_bit (p) dX8_fewestTurns_66 dX8_fewestTurns_67 dX8_fewestTurns_68 (by first | rfl | omega) (by omega) (by omega) ?_
    refine (show X _ _ 69 _ _ _ _ _ _ from ?_)
    refine y_ifb_eq 76 dX8_fewestTurns_69 (by decide) (fun hb => ?_) (fun hb => ?_)
    · rw [if_neg (by rw [hb]; decide)] at ih
      refine y_iconst dX8_fewestTurns_76 ?_
      refine x_istore dX8_fewestTurns_77 (by decide) rfl rfl ?_
      refine x_iload dX8_fewestTurns_79 rfl ?_
      refine (show X _ _ 81 _ _ _ _ _ _ from ?_)
      refine y_if_eq 95 dX8_fewestTurns_81 (by decide) ⟨by omega, by omega⟩ (fun h1 => ?_) (fun h1 => ?_)
      · refine x_iload dX8_fewestTurns_95 rfl ?_
        refine (show X _ _ 97 _ _ _ _ _ _ from ?_)
        refine y_if_eq 113 dX8_fewestTurns_97 (by decide) ⟨by omega, by omega⟩ (fun h2 => ?_) (fun h2 => ?_)
        · refine y_iinc dX8_fewestTurns_113 rfl (by decide) rfl rfl ?_
          refine x_goto 8 dX8_fewestTurns_116 (by decide) ?_
          refine (show X _ _ 8 _ _ _ _ _ _ from ?_)
          exact X.drop 5 rfl (X.drop 6 rfl ih)
        · omega
      · omega
    rw [if_pos hb] at ih
    refine y_iconst dX8_fewestTurns_72 ?_
    refine x_goto 77 dX8_fewestTurns_73 (by decide) ?_
    refine x_istore dX8_fewestTurns_77 (by decide) rfl rfl ?_
    refine x_iload dX8_fewestTurns_79 rfl ?_
    refine (show X _ _ 81 _ _ _ _ _ _ from ?_)
    refine y_if_eq 95 dX8_fewestTurns_81 (by decide) ⟨by omega, by omega⟩ (fun h1 => ?_) (fun h1 => ?_)
    · omega
    refine x_iload dX8_fewestTurns_84 rfl ?_
    refine x_iload_n dX8_fewestTurns_86 rfl ?_
    refine (show X _ _ 87 _ _ _ _ _ _ from ?_)
    refine y_icmp_ge 95 dX8_fewestTurns_87 (by decide) ⟨by omega, by omega⟩ ⟨by omega, by omega⟩ (fun h3 => ?_) (fun h3 => ?_)
    · rw [if_neg (by omega)] at ih
      refine x_iload dX8_fewestTurns_95 rfl ?_
      refine (show X _ _ 97 _ _ _ _ _ _ from ?_)
      refine y_if_eq 113 dX8_fewestTurns_97 (by decide) ⟨by omega, by omega⟩ (fun h2 => ?_) (fun h2 => ?_)
      · omega
      refine x_iload dX8_fewestTurns_100 rfl ?_
      refine x_iload_n dX8_fewestTurns_102 rfl ?_
      refine (show X _ _ 103 _ _ _ _ _ _ from ?_)
      refine y_icmp_ne 113 dX8_fewestTurns_103 (by decide) ⟨by omega, by omega⟩ ⟨by omega, by omega⟩ (fun h4 => ?_) (fun h4 => ?_)
      · rw [if_neg h4] at ih
        refine y_iinc dX8_fewestTurns_113 rfl (by decide) rfl rfl ?_
        refine x_goto 8 dX8_fewestTurns_116 (by decide) ?_
        refine (show X _ _ 8 _ _ _ _ _ _ from ?_)
        exact X.drop 5 rfl (X.drop 6 rfl ih)
      · rw [if_pos h4] at ih
        refine x_iload_n dX8_fewestTurns_106 rfl ?_
        refine y_iconst dX8_fewestTurns_107 ?_
        refine x_iload dX8_fewestTurns_108 rfl ?_
        refine y_ishl (p) dX8_fewestTurns_110 (by first | rfl | omega) (by omega) ?_
        refine y_ior dX8_fewestTurns_111 ?_
        refine x_istore_n dX8_fewestTurns_112 (by decide) rfl rfl ?_
        refine y_iinc dX8_fewestTurns_113 rfl (by decide) rfl rfl ?_
        refine x_goto 8 dX8_fewestTurns_116 (by decide) ?_
        refine (show X _ _ 8 _ _ _ _ _ _ from ?_)
        exact X.drop 5 rfl (X.drop 6 rfl ih)
    · rw [if_pos h3] at ih
      refine x_iload dX8_fewestTurns_90 rfl ?_
      refine x_istore_n dX8_fewestTurns_92 (by decide) rfl rfl ?_
      refine y_iconst dX8_fewestTurns_93 ?_
      refine x_istore_n dX8_fewestTurns_94 (by decide) rfl rfl ?_
      refine x_iload dX8_fewestTurns_95 rfl ?_
      refine (show X _ _ 97 _ _ _ _ _ _ from ?_)
      refine y_if_eq 113 dX8_fewestTurns_97 (by decide) ⟨by omega, by omega⟩ (fun h2 => ?_) (fun h2 => ?_)
      · omega
      refine x_iload dX8_fewestTurns_100 rfl ?_
      refine x_iload_n dX8_fewestTurns_102 rfl ?_
      refine (show X _ _ 103 _ _ _ _ _ _ from ?_)
      refine y_icmp_ne 113 dX8_fewestTurns_103 (by decide) ⟨by omega, by omega⟩ ⟨by omega, by omega⟩ (fun h4 => ?_) (fun h4 => ?_)
      · omega
      refine (show X _ _ 106 [_, _, _, .int (iI ((0 : Nat) : Int)), _, _, _] _ _ _ _ _ from ?_)
      refine x_iload_n dX8_fewestTurns_106 rfl ?_
      refine y_iconst dX8_fewestTurns_107 ?_
      refine x_iload dX8_fewestTurns_108 rfl ?_
      refine y_ishl (p) dX8_fewestTurns_110 (by first | rfl | omega) (by omega) ?_
      refine y_ior dX8_fewestTurns_111 ?_
      refine x_istore_n dX8_fewestTurns_112 (by decide) rfl rfl ?_
      refine y_iinc dX8_fewestTurns_113 rfl (by decide) rfl rfl ?_
      refine x_goto 8 dX8_fewestTurns_116 (by decide) ?_
      refine (show X _ _ 8 _ _ _ _ _ _ from ?_)
      rw [Nat.zero_or]
      exact X.drop 5 rfl (X.drop 6 rfl ih)
  refine x_iload dX8_fewestTurns_8 rfl ?_
  refine x_aload_n dX8_fewestTurns_10 rfl ?_
  refine x_gr dX8_fewestTurns_11 fX8_56 (by first | assumption | exact (hPR _ (by omega)).2) (fun _ _ _ => rfl) (by first | assumption | exact (hPR _ (by omega)).2) ?_
  refine x_gr dX8_fewestTurns_14 fX8_60 (by first | assumption | exact (hPR _ (by omega)).2) (fun _ _ _ => rfl) (by first | assumption | exact (hPR _ (by omega)).2) ?_
  refine b_gio (r := r) (m := 5) dX8_fewestTurns_17 fX8_66 (by first | assumption | exact (hPR _ (by omega)).2) (fun _ _ _ => rfl) (by omega) ?_
  refine (show X _ _ 20 _ _ _ _ _ _ from ?_)
  refine X.val (b := A 0 3) (hV0 3 (by omega)) ?_
  refine y_icmp_ge 119 dX8_fewestTurns_20 (by decide) ⟨by omega, by omega⟩ ⟨by omega, by omega⟩ (fun h => ?_) (fun h => ?_)
  · omega
  refine x_aload_n dX8_fewestTurns_23 rfl ?_
  refine x_gr dX8_fewestTurns_24 fX8_56 (by first | assumption | exact (hPR _ (by omega)).2) (fun _ _ _ => rfl) (by first | assumption | exact (hPR _ (by omega)).2) ?_
  refine x_gr dX8_fewestTurns_27 fX8_60 (by first | assumption | exact (hPR _ (by omega)).2) (fun _ _ _ => rfl) (by first | assumption | exact (hPR _ (by omega)).2) ?_
  refine x_gr dX8_fewestTurns_30 fX8_71 (by first | assumption | exact (hPR _ (by omega)).2) (fun _ _ _ => rfl) (by first | assumption | exact (hPR _ (by omega)).2) ?_
  refine x_iload dX8_fewestTurns_33 rfl ?_
  refine y_aald (p) dX8_fewestTurns_35 (by first | assumption | exact (hPR _ (by omega)).2) (by decide) (by first | rfl | omega) (by omega) (by decide) (by first | assumption | exact (hPR _ (by omega)).1) ?_
  refine y_iconst dX8_fewestTurns_36 ?_
  refine b_ialo (r := r) (m := 5) (0) dX8_fewestTurns_37 (by first | assumption | exact (hPR _ (by omega)).2) (by first | rfl | omega) (by omega) (by decide) (by omega) ?_
  refine (show X _ _ 38 _ _ _ _ _ _ from ?_)
  refine X.val (b := A 1 p) (hVp p hp 0 (by omega)) ?_
  refine y_iconst dX8_fewestTurns_38 ?_
  refine (show X _ _ 39 _ _ _ _ _ _ from ?_)
  refine y_icmp_ne 54 dX8_fewestTurns_39 (by decide) ⟨by omega, by omega⟩ ⟨by omega, by omega⟩ (fun h1 => ?_) (fun h1 => ?_)
  · refine x_aload_n dX8_fewestTurns_54 rfl ?_
    refine x_gr dX8_fewestTurns_55 fX8_43 (by first | assumption | exact (hPR _ (by omega)).2) (fun _ _ _ => rfl) (by first | assumption | exact (hPR _ (by omega)).2) ?_
    refine x_iload dX8_fewestTurns_58 rfl ?_
    refine b_iald (r := r) (m := 5) (j := 1) (p) dX8_fewestTurns_60 (by first | assumption | exact (hPR _ (by omega)).2) (by first | rfl | omega) (by omega) (by decide) (by decide) ?_
    refine (show X _ _ 61 _ _ _ _ _ _ from ?_)
    refine X.val (b := cnt A W p) (by rw [cnt, if_neg h1]) ?_
    exact fin
  · refine x_aload_n dX8_fewestTurns_42 rfl ?_
    refine x_gr dX8_fewestTurns_43 fX8_43 (by first | assumption | exact (hPR _ (by omega)).2) (fun _ _ _ => rfl) (by first | assumption | exact (hPR _ (by omega)).2) ?_
    refine x_iload dX8_fewestTurns_46 rfl ?_
    refine b_iald (r := r) (m := 5) (j := 1) (p) dX8_fewestTurns_48 (by first | assumption | exact (hPR _ (by omega)).2) (by first | rfl | omega) (by omega) (by decide) (by decide) ?_
    refine y_iconst dX8_fewestTurns_49 ?_
    refine y_isub dX8_fewestTurns_50 ?_
    refine x_goto 61 dX8_fewestTurns_51 (by decide) ?_
    refine (show X _ _ 61 _ _ _ _ _ _ from ?_)
    refine X.val (b := cnt A W p) (by rw [cnt, if_pos h1]) ?_
    exact fin
theorem bg_b {A : Nat → Nat → Int} {set : Nat} {sg : Int} (hA : VA A) (hs : sg = 1 ∨ sg = -1) : ∀ m, m ≤ fP A → (-2 ≤ (bgL A set sg m).1 ∧ (bgL A set sg m).1 < (m : Int)) ∧ (-100 ≤ (bgL A set sg m).2 ∧ (bgL A set sg m).2 ≤ 1000000000)
  | 0, _ => ⟨⟨by show (-2 : Int) ≤ -2; decide, by show (-2 : Int) < 0; decide⟩, ⟨by show (-100 : Int) ≤ 1000000000; decide, by show (1000000000 : Int) ≤ 1000000000; decide⟩⟩
  | m + 1, h => by
    obtain ⟨⟨h1, h2⟩, h3, h4⟩ := bg_b (set := set) hA hs m (by omega)
    have hk := hA.2.2.2.2.2.2.2.2.2.1 m (by omega)
    have hy := hA.1
    have hc : -100 ≤ sg * A 3 m ∧ sg * A 3 m ≤ 100 := by rcases hs with rfl | rfl <;> omega
    have e : bgL A set sg (m + 1) = bgSt A set sg m (bgL A set sg m) := rfl
    rw [e, bgSt]
    split
    · exact ⟨⟨by show -2 ≤ (m : Int); omega, by show (m : Int) < _; omega⟩, by show -100 ≤ sg * A 3 m; omega, by show sg * A 3 m ≤ _; omega⟩
    · exact ⟨⟨h1, by omega⟩, h3, h4⟩
theorem byAge_b {A : Nat → Nat → Int} {set : Nat} {sg : Int} (hA : VA A) (hs : sg = 1 ∨ sg = -1) : -2 ≤ byAge A set sg ∧ byAge A set sg < A 0 3 := by
  have h := (bg_b (set := set) hA hs (fP A) (Nat.le_refl _)).1
  have := (fP10 hA).1
  rw [this] at h
  exact h
theorem c_byAge {set : Nat} {sg : Int} (hs : sg = 1 ∨ sg = -1) (hr : RS T R r w) (hw : WS T R w f nw al) (hC : WC V f nw al A B) (hap : AP r w f nw al) (hset : set < 1024) : X g mX8_byAge 0 [.ref r, .int (iI set), .int (iI sg), jk, jk, jk, jk] [] (T, iV (pB V r 5 W), R, J, z) k n (rI (iI (byAge A set sg)) (T, iV (pB V r 5 W), R, J, z)) := by
  obtain ⟨⟨r0, r1⟩, ⟨r2, r3, r4, r5⟩, ⟨s1, s2, s3, s4⟩⟩ := hr
  obtain ⟨⟨w0, w1, w2, w3⟩, ⟨f0, ⟨f9, -⟩, ⟨ft1, -⟩, hPR, -⟩, -, -⟩ := hw
  obtain ⟨⟨hV0, hVp, -⟩, -, -, hA, -⟩ := hC
  obtain ⟨p1, p2, -, -⟩ := hap
  have eP := fP10 hA
  have hAp := hA.2.2.2.2.2.2.2.2.2.1
  refine y_bipush dX8_byAge_0 rfl ?_
  refine x_istore_n dX8_byAge_2 (by decide) rfl rfl ?_
  refine y_ldc (1000000000) dX8_byAge_3 kX8_134 rfl ?_
  refine x_istore dX8_byAge_5 (by decide) rfl rfl ?_
  refine y_iconst dX8_byAge_7 ?_
  refine x_istore dX8_byAge_8 (by decide) rfl rfl ?_
  refine (show X _ _ 10 _ _ _ _ _ _ from ?_)
  refine loopN (P := fun p => X g mX8_byAge 10 [.ref r, .int (iI set), .int (iI sg), .int (iI (bgL A set sg p).1), .int (iI (bgL A set sg p).2), .int (iI (p : Int)), jk] [] (T, iV (pB V r 5 W), R, J, z) k n (rI (iI (byAge A set sg)) (T, iV (pB V r 5 W), R, J, z))) (fP A) ?_ (fun p hp ih => ?_)
  · refine x_iload dX8_byAge_10 rfl ?_
    refine x_aload_n dX8_byAge_12 rfl ?_
    refine x_gr dX8_byAge_13 fX8_56 (by first | assumption | exact (hPR _ (by omega)).2) (fun _ _ _ => rfl) (by first | assumption | exact (hPR _ (by omega)).2) ?_
    refine x_gr dX8_byAge_16 fX8_60 (by first | assumption | exact (hPR _ (by omega)).2) (fun _ _ _ => rfl) (by first | assumption | exact (hPR _ (by omega)).2) ?_
    refine b_gio (r := r) (m := 5) dX8_byAge_19 fX8_66 (by first | assumption | exact (hPR _ (by omega)).2) (fun _ _ _ => rfl) (by omega) ?_
    refine (show X _ _ 22 _ _ _ _ _ _ from ?_)
    refine X.val (b := A 0 3) (hV0 3 (by omega)) ?_
    refine y_icmp_ge 73 dX8_byAge_22 (by decide) ⟨by omega, by omega⟩ ⟨by omega, by omega⟩ (fun h => ?_) (fun h => ?_)
    · refine x_iload_n dX8_byAge_73 rfl ?_
      refine (show X _ _ 74 _ _ _ _ _ _ from ?_)
      exact x_ireturn dX8_byAge_74 rfl ⟨rfl, rfl⟩
    · omega
  have hk := hAp p hp
  have hy := hA.1
  have hb := bg_b (set := set) hA hs p (by omega)
  have hc : -100 ≤ sg * A 3 p ∧ sg * A 3 p ≤ 100 := by rcases hs with rfl | rfl <;> omega
  have e : bgL A set sg (p + 1) = bgSt A set sg p (bgL A set sg p) := rfl
  rw [e, bgSt] at ih
  generalize bgL A set sg p = q at *
  obtain ⟨q1, q2⟩ := q
  dsimp only at *
  refine x_iload dX8_byAge_10 rfl ?_
  refine x_aload_n dX8_byAge_12 rfl ?_
  refine x_gr dX8_byAge_13 fX8_56 (by first | assumption | exact (hPR _ (by omega)).2) (fun _ _ _ => rfl) (by first | assumption | exact (hPR _ (by omega)).2) ?_
  refine x_gr dX8_byAge_16 fX8_60 (by first | assumption | exact (hPR _ (by omega)).2) (fun _ _ _ => rfl) (by first | assumption | exact (hPR _ (by omega)).2) ?_
  refine b_gio (r := r) (m := 5) dX8_byAge_19 fX8_66 (by first | assumption | exact (hPR _ (by omega)).2) (fun _ _ _ => rfl) (by omega) ?_
  refine (show X _ _ 22 _ _ _ _ _ _ from ?_)
  refine X.val (b := A 0 3) (hV0 3 (by omega)) ?_
  refine y_icmp_ge 73 dX8_byAge_22 (by decide) ⟨by omega, by omega⟩ ⟨by omega, by omega⟩ (fun h => ?_) (fun h => ?_)
  · omega
  refine x_iload_n dX8_byAge_25 rfl ?_
  refine x_aload_n dX8_byAge_26 rfl ?_
  refine x_gr dX8_byAge_27 fX8_56 (by first | assumption | exact (hPR _ (by omega)).2) (fun _ _ _ => rfl) (by first | assumption | exact (hPR _ (by omega)).2) ?_
  refine x_gr dX8_byAge_30 fX8_60 (by first | assumption | exact (hPR _ (by omega)).2) (fun _ _ _ => rfl) (by first | assumption | exact (hPR _ (by omega)).2) ?_
  refine x_gr dX8_byAge_33 fX8_71 (by first | assumption | exact (hPR _ (by omega)).2) (fun _ _ _ => rfl) (by first | assumption | exact (hPR _ (by omega)).2) ?_
  refine x_iload dX8_byAge_36 rfl ?_
  refine y_aald (p) dX8_byAge_38 (by first | assumption | exact (hPR _ (by omega)).2) (by decide) (by first | rfl | omega) (by omega) (by decide) (by first | assumption | exact (hPR _ (by omega)).1) ?_
  refine y_iconst dX8_byAge_39 ?_
  refine (show X _ _ 40 _ _ _ _ _ _ from ?_)
  refine b_ialo (r := r) (m := 5) (2) dX8_byAge_40 (by first | assumption | exact (hPR _ (by omega)).2) (by first | rfl | omega) (by omega) (by decide) (by omega) ?_
  refine (show X _ _ 41 _ _ _ _ _ _ from ?_)
  refine X.val (b := A 3 p) (hVp p hp 2 (by omega)) ?_
  refine y_imul dX8_byAge_41 ?_
  refine (show X _ _ 42 _ _ _ _ _ _ from ?_)
  generalize sg * A 3 p = c at *
  refine x_istore dX8_byAge_42 (by decide) rfl rfl ?_
  refine x_iload_n dX8_byAge_44 rfl ?_
  refine x_iload dX8_byAge_45 rfl ?_
  refine y_bit (p) dX8_byAge_47 dX8_byAge_48 dX8_byAge_49 (by first | rfl | omega) (by omega) (by omega) ?_
  refine (show X _ _ 50 _ _ _ _ _ _ from ?_)
  refine y_ifb_eq 67 dX8_byAge_50 (by decide) (fun hb1 => ?_) (fun hb1 => ?_)
  · rw [if_neg (by rw [hb1]; intro h; exact absurd h.1 (by decide))] at ih
    refine y_iinc dX8_byAge_67 rfl (by decide) rfl rfl ?_
    refine x_goto 10 dX8_byAge_70 (by decide) ?_
    refine (show X _ _ 10 _ _ _ _ _ _ from ?_)
    exact X.drop 6 rfl ih
  refine x_iload dX8_byAge_53 rfl ?_
  refine x_iload dX8_byAge_55 rfl ?_
  refine (show X _ _ 57 _ _ _ _ _ _ from ?_)
  refine y_icmp_ge 67 dX8_byAge_57 (by decide) ⟨by omega, by omega⟩ ⟨by omega, by omega⟩ (fun h3 => ?_) (fun h3 => ?_)
  · rw [if_neg (by omega)] at ih
    refine y_iinc dX8_byAge_67 rfl (by decide) rfl rfl ?_
    refine x_goto 10 dX8_byAge_70 (by decide) ?_
    refine (show X _ _ 10 _ _ _ _ _ _ from ?_)
    exact X.drop 6 rfl ih
  · rw [if_pos ⟨hb1, h3⟩] at ih
    refine x_iload dX8_byAge_60 rfl ?_
    refine x_istore_n dX8_byAge_62 (by decide) rfl rfl ?_
    refine x_iload dX8_byAge_63 rfl ?_
    refine x_istore dX8_byAge_65 (by decide) rfl rfl ?_
    refine y_iinc dX8_byAge_67 rfl (by decide) rfl rfl ?_
    refine x_goto 10 dX8_byAge_70 (by decide) ?_
    refine (show X _ _ 10 _ _ _ _ _ _ from ?_)
    exact X.drop 6 rfl ih
end C3
