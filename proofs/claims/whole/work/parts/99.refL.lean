/-! ===== the reference: as told, size ===== -/
section C99
variable {g : GG} {T : Nat → Nat × Nat} {V E A B Wi Ni : Nat → Nat → Int} {R : Nat → Nat → Option Nat} {J : Nat → Nat → Int64} {z k n : Nat} {r f : Nat} {t : Nat → Int} {tp : Nat} {h : Bool} {a m : Nat} {H K : Nat → Nat → Nat → Int} {wr pl tr : Int}
theorem k_thrown {x : Int} (hM : MSh T R r) (hx : E 0 0 = x) : X g mX12_thrown 0 [.ref r] [] (T, iV (pB V r 24 E), R, J, z) k n (rI (iI x) (T, iV (pB V r 24 E), R, J, z)) := by
  obtain ⟨m0, -, -⟩ := id hM
  refine x_aload_n dX12_thrown_0 rfl ?_
  refine b_gi0 (r := r) (m := 24) dX12_thrown_1 fX12_85 (by first | assumption) (fun _ _ _ => rfl) (by decide) ?_
  refine (show X _ _ 4 _ _ _ _ _ _ from ?_)
  refine X.val hx ?_
  exact x_ireturn dX12_thrown_4 rfl ⟨rfl, rfl⟩
theorem k_person {p w : Int} (hI : DI T R V r f E t tp h A B a m H K wr pl tr) (hp : R32 p) (hw : R32 w) : X g mX12_person 0 [.ref r, .int (iI p), .int (iI w)] [] (T, iV (pB V r 24 E), R, J, z) k n (DQ T R J z V r f (some (.int (iI (if noP h A p = true ∨ w < 0 ∨ 7 ≤ w then -1 else psX A B p.toNat w)))) t tp h A B a m H K wr pl (if noP h A p = true ∨ w < 0 ∨ 7 ≤ w then 1 else 0)) := by
  have hM := hI.1
  have hI1 := DI_sc hI (Sc_th hI 0)
  have hip := k_isPerson (g := g) (J := J) (z := z) (k := 0) (n := 0) (p := p) hI1 hp
  have hrf := k_refused (g := g) (V := V) (E := u2 E 0 0 0) (J := J) (z := z) (k := 0) (n := 0) (x := 1) hM
  have hgo := fun x => k_good (g := g) (V := V) (E := u2 E 0 0 0) (J := J) (z := z) (k := 0) (n := 0) (x := x) hM
  have hin := c_in (g := g) (k := 0) (n := 0) (x := w) (lo := 0) (hi := 6) (M := (T, iV (pB V r 24 (u2 E 0 0 0)), R, J, z)) hw ⟨by decide, by decide⟩ ⟨by decide, by decide⟩
  obtain ⟨w1, w2⟩ := hw
  by_cases e : noP h A p = true ∨ w < 0 ∨ 7 ≤ w
  · rw [if_pos e, if_pos e]
    obtain ⟨m0, ⟨-, m15, -, -, -, -, -, -, -, -, -, -, -, -, -, -, -, -, -, -, -, -, -⟩, ⟨-, mk2, -, -, -, -, -, -, -, -, -, -, -, -, -, -, -, -, -, -, -, -, -⟩⟩ := id hM
    have fin : X g mX12_person 23 [.ref r, .int (iI p), .int (iI w)] [] (T, iV (pB V r 24 (u2 E 0 0 0)), R, J, z) k n (DQ T R J z V r f (some (.int (iI (-1)))) t tp h A B a m H K wr pl (1)) := by
      refine x_aload_n dX12_person_23 rfl ?_
      refine y_iconst dX12_person_24 ?_
      refine (show X _ _ 25 _ _ _ _ _ _ from ?_)
      refine x_callV (As := [_]) (mc := 0) (ms := 0) (z := mX12_refused) (ci := 12) dX12_person_25 lX12_91 oX12_refused (by decide) (by first | assumption) rfl rfl (Nat.le_of_ble_eq_true rfl) (Nat.le_of_ble_eq_true rfl) rfl (hrf) (k_I ?_)
      refine (show X _ _ 28 _ _ _ _ _ _ from ?_)
      exact x_ireturn dX12_person_28 rfl (DQ_tr hI1 1 (by decide) _)
    refine x_aload_n dX12_person_0 rfl ?_
    refine y_iconst dX12_person_1 ?_
    refine b_pi0 (r := r) (m := 24) dX12_person_2 (pX12_85 _) (by first | assumption) (fun _ _ _ => rfl) rfl rfl (by decide) ?_
    refine x_aload_n dX12_person_5 rfl ?_
    refine x_iload_n dX12_person_6 rfl ?_
    refine (show X _ _ 7 _ _ _ _ _ _ from ?_)
    refine x_callV (As := [_]) (mc := 0) (ms := 0) (z := mX12_isPerson) (ci := 12) dX12_person_7 lX12_513 oX12_isPerson (by decide) (by first | assumption) rfl rfl (Nat.le_of_ble_eq_true rfl) (Nat.le_of_ble_eq_true rfl) rfl (hip) (k_I ?_)
    refine (show X _ _ 10 _ _ _ _ _ _ from ?_)
    refine y_ifb_eq 23 dX12_person_10 (by decide) (fun c1 => ?_) (fun c1 => ?_)
    · exact fin
    refine x_iload_n dX12_person_13 rfl ?_
    refine y_iconst dX12_person_14 ?_
    refine y_bipush dX12_person_15 rfl ?_
    refine (show X _ _ 17 _ _ _ _ _ _ from ?_)
    refine x_callS (As := [_, _, _]) (mc := 0) (ms := 0) (z := mX12_in) dX12_person_17 lX12_160 oX12_in (by decide) rfl (Nat.le_of_ble_eq_true rfl) (Nat.le_of_ble_eq_true rfl) rfl (hin) (k_I ?_)
    refine (show X _ _ 20 _ _ _ _ _ _ from ?_)
    refine y_ifb_ne 29 dX12_person_20 (by decide) (fun c2 => ?_) (fun c2 => ?_)
    · have c3 := of_decide_eq_true c2
      rcases e with e | e
      · rw [e] at c1; cases c1
      · omega
    · exact fin
  rw [if_neg e, if_neg e]
  have e1 : noP h A p = false := by
    cases c : noP h A p
    · rfl
    · exact absurd (Or.inl c) e
  rw [e1] at hip
  rw [decide_eq_true (show (0 : Int) ≤ w ∧ w ≤ 6 by omega)] at hin
  obtain ⟨rfl, e3, e4⟩ := noP_f e1
  obtain ⟨⟨hf, hG, hF, hap⟩, ⟨hA, hB, hY4, -⟩, hv, -⟩ := hI.2.2.2.2.2.2 rfl
  have eP := fP10 hA
  have hpn : p.toNat < fP A := by omega
  have hib := c_isBorn (g := g) (J := J) (z := z) (k := 0) (n := 0) (E := u2 E 0 0 0) (p := p.toNat) (y := 0) hG hF hA hap hpn ⟨by decide, by decide⟩
  have hag := c_ageM (g := g) (J := J) (z := z) (k := 0) (n := 0) (E := u2 E 0 0 0) (p := p.toNat) (y := 0) hG hF hA hap hpn
  rw [Int.toNat_of_nonneg e3] at hib hag
  obtain ⟨m0, ⟨-, m15, -, -, -, -, -, -, -, -, -, -, -, -, -, -, -, -, -, -, -, -, -⟩, ⟨-, mk2, -, -, -, -, -, -, -, -, -, -, -, -, -, -, -, -, -, -, -, -, -⟩⟩ := id hM
  obtain ⟨g0, ⟨g10, g11, -, g13, g14, g15, -, -, -, -, -, -, -, -, -, -, -, -, -, -, -, -, -⟩, ⟨gk1, gk2, -, gk4, gk5, gk6, -, -, -, -, -, -, -, -, -, -, -, -, -, -, -, -, -⟩⟩ := id hG
  unfold apF at hap
  unfold psX
  refine x_aload_n dX12_person_0 rfl ?_
  refine y_iconst dX12_person_1 ?_
  refine b_pi0 (r := r) (m := 24) dX12_person_2 (pX12_85 _) (by first | assumption) (fun _ _ _ => rfl) rfl rfl (by decide) ?_
  refine x_aload_n dX12_person_5 rfl ?_
  refine x_iload_n dX12_person_6 rfl ?_
  refine (show X _ _ 7 _ _ _ _ _ _ from ?_)
  refine x_callV (As := [_]) (mc := 0) (ms := 0) (z := mX12_isPerson) (ci := 12) dX12_person_7 lX12_513 oX12_isPerson (by decide) (by first | assumption) rfl rfl (Nat.le_of_ble_eq_true rfl) (Nat.le_of_ble_eq_true rfl) rfl (hip) (k_I ?_)
  refine (show X _ _ 10 _ _ _ _ _ _ from ?_)
  refine y_ifb_eq 23 dX12_person_10 (by decide) (fun c1 => ?_) (fun c1 => ?_)
  · cases c1
  refine x_iload_n dX12_person_13 rfl ?_
  refine y_iconst dX12_person_14 ?_
  refine y_bipush dX12_person_15 rfl ?_
  refine (show X _ _ 17 _ _ _ _ _ _ from ?_)
  refine x_callS (As := [_, _, _]) (mc := 0) (ms := 0) (z := mX12_in) dX12_person_17 lX12_160 oX12_in (by decide) rfl (Nat.le_of_ble_eq_true rfl) (Nat.le_of_ble_eq_true rfl) rfl (hin) (k_I ?_)
  refine (show X _ _ 20 _ _ _ _ _ _ from ?_)
  refine y_ifb_ne 29 dX12_person_20 (by decide) (fun c2 => ?_) (fun c2 => ?_)
  rotate_left
  · cases c2
  refine x_iload_n dX12_person_29 rfl ?_
  refine (show X _ _ 30 _ _ _ _ _ _ from ?_)
  have hc : w = 0 ∨ w = 1 ∨ w = 2 ∨ w = 3 ∨ w = 4 ∨ w = 5 ∨ w = 6 := by omega
  rcases hc with rfl | rfl | rfl | rfl | rfl | rfl | rfl
  · refine y_tsIn 68 dX12_person_30 ⟨by decide, by decide⟩ (by decide) (by decide) rfl (by decide) ?_
    rw [if_neg (by decide), if_neg (by decide)]
    refine x_aload_n dX12_person_68 rfl ?_
    refine x_aload_n dX12_person_69 rfl ?_
    refine x_gr dX12_person_70 fX12_409 (by first | assumption) (fun _ _ _ => rfl) (by first | assumption) ?_
    refine x_gr dX12_person_73 fX12_323 (by first | assumption) (fun _ _ _ => rfl) (by first | assumption) ?_
    refine x_iload_n dX12_person_76 rfl ?_
    refine b_ialo (r := r) (m := 24) (p.toNat) dX12_person_77 (by first | assumption) (by first | rfl | omega) (by omega) (by decide) (by omega) ?_
    refine (show X _ _ 78 _ _ _ _ _ _ from ?_)
    refine X.val (hF.2.1 0 (by decide) p.toNat hpn) ?_
    refine x_callV (As := [_]) (mc := 0) (ms := 0) (z := mX12_good) (ci := 12) dX12_person_78 lX12_95 oX12_good (by decide) (by first | assumption) rfl rfl (Nat.le_of_ble_eq_true rfl) (Nat.le_of_ble_eq_true rfl) rfl (hgo _) (k_I ?_)
    refine (show X _ _ 81 _ _ _ _ _ _ from ?_)
    exact x_ireturn dX12_person_81 rfl (DQ_tr hI1 0 (by decide) _)
  · refine y_tsIn 82 dX12_person_30 ⟨by decide, by decide⟩ (by decide) (by decide) rfl (by decide) ?_
    rw [if_neg (by decide), if_neg (by decide)]
    refine x_aload_n dX12_person_82 rfl ?_
    refine x_aload_n dX12_person_83 rfl ?_
    refine x_gr dX12_person_84 fX12_409 (by first | assumption) (fun _ _ _ => rfl) (by first | assumption) ?_
    refine x_gr dX12_person_87 fX12_326 (by first | assumption) (fun _ _ _ => rfl) (by first | assumption) ?_
    refine x_iload_n dX12_person_90 rfl ?_
    refine b_ialo (r := r) (m := 24) (p.toNat) dX12_person_91 (by first | assumption) (by first | rfl | omega) (by omega) (by decide) (by omega) ?_
    refine (show X _ _ 92 _ _ _ _ _ _ from ?_)
    refine X.val (hF.2.1 1 (by decide) p.toNat hpn) ?_
    refine x_callV (As := [_]) (mc := 0) (ms := 0) (z := mX12_good) (ci := 12) dX12_person_92 lX12_95 oX12_good (by decide) (by first | assumption) rfl rfl (Nat.le_of_ble_eq_true rfl) (Nat.le_of_ble_eq_true rfl) rfl (hgo _) (k_I ?_)
    refine (show X _ _ 95 _ _ _ _ _ _ from ?_)
    exact x_ireturn dX12_person_95 rfl (DQ_tr hI1 0 (by decide) _)
  · refine y_tsIn 96 dX12_person_30 ⟨by decide, by decide⟩ (by decide) (by decide) rfl (by decide) ?_
    rw [if_pos rfl]
    refine x_aload_n dX12_person_96 rfl ?_
    refine x_aload_n dX12_person_97 rfl ?_
    refine x_gr dX12_person_98 fX12_409 (by first | assumption) (fun _ _ _ => rfl) (by first | assumption) ?_
    refine x_iload_n dX12_person_101 rfl ?_
    refine y_iconst dX12_person_102 ?_
    refine (show X _ _ 103 _ _ _ _ _ _ from ?_)
    refine x_callV (As := [_, _]) (mc := 0) (ms := 0) (z := mX11_isBorn) (ci := 11) dX12_person_103 lX12_452 oX11_isBorn (by decide) (by first | assumption) rfl rfl (Nat.le_of_ble_eq_true rfl) (Nat.le_of_ble_eq_true rfl) rfl (hib) (k_I ?_)
    refine (show X _ _ 106 _ _ _ _ _ _ from ?_)
    refine y_ifb_eq 121 dX12_person_106 (by decide) (fun c3 => ?_) (fun c3 => ?_)
    · have c4 := of_decide_eq_false c3
      rw [if_pos (by omega)]
      refine y_bipush dX12_person_121 rfl ?_
      refine (show X _ _ 123 _ _ _ _ _ _ from ?_)
      refine x_callV (As := [_]) (mc := 0) (ms := 0) (z := mX12_good) (ci := 12) dX12_person_123 lX12_95 oX12_good (by decide) (by first | assumption) rfl rfl (Nat.le_of_ble_eq_true rfl) (Nat.le_of_ble_eq_true rfl) rfl (hgo _) (k_I ?_)
      refine (show X _ _ 126 _ _ _ _ _ _ from ?_)
      exact x_ireturn dX12_person_126 rfl (DQ_tr hI1 0 (by decide) _)
    have c4 := of_decide_eq_true c3
    rw [if_neg (by omega)]
    refine x_aload_n dX12_person_109 rfl ?_
    refine x_gr dX12_person_110 fX12_409 (by first | assumption) (fun _ _ _ => rfl) (by first | assumption) ?_
    refine x_iload_n dX12_person_113 rfl ?_
    refine y_iconst dX12_person_114 ?_
    refine (show X _ _ 115 _ _ _ _ _ _ from ?_)
    refine x_callV (As := [_, _]) (mc := 0) (ms := 0) (z := mX11_age) (ci := 11) dX12_person_115 lX12_458 oX11_age (by decide) (by first | assumption) rfl rfl (Nat.le_of_ble_eq_true rfl) (Nat.le_of_ble_eq_true rfl) rfl (hag) (k_I ?_)
    refine (show X _ _ 118 _ _ _ _ _ _ from ?_)
    refine X.val (b := -(A 3 p.toNat)) (by omega) ?_
    refine x_goto 123 dX12_person_118 (by decide) ?_
    refine (show X _ _ 123 _ _ _ _ _ _ from ?_)
    refine x_callV (As := [_]) (mc := 0) (ms := 0) (z := mX12_good) (ci := 12) dX12_person_123 lX12_95 oX12_good (by decide) (by first | assumption) rfl rfl (Nat.le_of_ble_eq_true rfl) (Nat.le_of_ble_eq_true rfl) rfl (hgo _) (k_I ?_)
    refine (show X _ _ 126 _ _ _ _ _ _ from ?_)
    exact x_ireturn dX12_person_126 rfl (DQ_tr hI1 0 (by decide) _)
  · refine y_tsIn 127 dX12_person_30 ⟨by decide, by decide⟩ (by decide) (by decide) rfl (by decide) ?_
    rw [if_neg (by decide), if_neg (by decide)]
    refine x_aload_n dX12_person_127 rfl ?_
    refine x_aload_n dX12_person_128 rfl ?_
    refine x_gr dX12_person_129 fX12_409 (by first | assumption) (fun _ _ _ => rfl) (by first | assumption) ?_
    refine x_gr dX12_person_132 fX12_330 (by first | assumption) (fun _ _ _ => rfl) (by first | assumption) ?_
    refine x_iload_n dX12_person_135 rfl ?_
    refine b_ialo (r := r) (m := 24) (p.toNat) dX12_person_136 (by first | assumption) (by first | rfl | omega) (by omega) (by decide) (by omega) ?_
    refine (show X _ _ 137 _ _ _ _ _ _ from ?_)
    refine X.val (hF.2.1 3 (by decide) p.toNat hpn) ?_
    refine x_callV (As := [_]) (mc := 0) (ms := 0) (z := mX12_good) (ci := 12) dX12_person_137 lX12_95 oX12_good (by decide) (by first | assumption) rfl rfl (Nat.le_of_ble_eq_true rfl) (Nat.le_of_ble_eq_true rfl) rfl (hgo _) (k_I ?_)
    refine (show X _ _ 140 _ _ _ _ _ _ from ?_)
    exact x_ireturn dX12_person_140 rfl (DQ_tr hI1 0 (by decide) _)
  · refine y_tsIn 141 dX12_person_30 ⟨by decide, by decide⟩ (by decide) (by decide) rfl (by decide) ?_
    rw [if_neg (by decide), if_neg (by decide)]
    refine x_aload_n dX12_person_141 rfl ?_
    refine x_aload_n dX12_person_142 rfl ?_
    refine x_gr dX12_person_143 fX12_409 (by first | assumption) (fun _ _ _ => rfl) (by first | assumption) ?_
    refine x_gr dX12_person_146 fX12_331 (by first | assumption) (fun _ _ _ => rfl) (by first | assumption) ?_
    refine x_iload_n dX12_person_149 rfl ?_
    refine b_ialo (r := r) (m := 24) (p.toNat) dX12_person_150 (by first | assumption) (by first | rfl | omega) (by omega) (by decide) (by omega) ?_
    refine (show X _ _ 151 _ _ _ _ _ _ from ?_)
    refine X.val (hF.2.1 4 (by decide) p.toNat hpn) ?_
    refine x_callV (As := [_]) (mc := 0) (ms := 0) (z := mX12_good) (ci := 12) dX12_person_151 lX12_95 oX12_good (by decide) (by first | assumption) rfl rfl (Nat.le_of_ble_eq_true rfl) (Nat.le_of_ble_eq_true rfl) rfl (hgo _) (k_I ?_)
    refine (show X _ _ 154 _ _ _ _ _ _ from ?_)
    exact x_ireturn dX12_person_154 rfl (DQ_tr hI1 0 (by decide) _)
  · refine y_tsIn 155 dX12_person_30 ⟨by decide, by decide⟩ (by decide) (by decide) rfl (by decide) ?_
    rw [if_neg (by decide), if_neg (by decide)]
    refine x_aload_n dX12_person_155 rfl ?_
    refine x_aload_n dX12_person_156 rfl ?_
    refine x_gr dX12_person_157 fX12_409 (by first | assumption) (fun _ _ _ => rfl) (by first | assumption) ?_
    refine x_gr dX12_person_160 fX12_333 (by first | assumption) (fun _ _ _ => rfl) (by first | assumption) ?_
    refine x_iload_n dX12_person_163 rfl ?_
    refine b_ialo (r := r) (m := 24) (p.toNat) dX12_person_164 (by first | assumption) (by first | rfl | omega) (by omega) (by decide) (by omega) ?_
    refine (show X _ _ 165 _ _ _ _ _ _ from ?_)
    refine X.val (hF.2.1 5 (by decide) p.toNat hpn) ?_
    refine x_callV (As := [_]) (mc := 0) (ms := 0) (z := mX12_good) (ci := 12) dX12_person_165 lX12_95 oX12_good (by decide) (by first | assumption) rfl rfl (Nat.le_of_ble_eq_true rfl) (Nat.le_of_ble_eq_true rfl) rfl (hgo _) (k_I ?_)
    refine (show X _ _ 168 _ _ _ _ _ _ from ?_)
    exact x_ireturn dX12_person_168 rfl (DQ_tr hI1 0 (by decide) _)
  · refine y_tsOut 169 dX12_person_30 ⟨by decide, by decide⟩ (by decide) (by decide) ?_
    rw [if_neg (by decide), if_pos rfl]
    refine x_aload_n dX12_person_169 rfl ?_
    refine x_aload_n dX12_person_170 rfl ?_
    refine x_gr dX12_person_171 fX12_17 (by first | assumption) (fun _ _ _ => rfl) (by first | assumption) ?_
    refine y_iconst dX12_person_174 ?_
    refine x_iload_n dX12_person_175 rfl ?_
    refine y_iadd dX12_person_176 ?_
    refine b_iald (r := r) (m := 24) (j := 2) (2 + p.toNat) dX12_person_177 (by first | assumption) (by first | rfl | omega) (by omega) (by decide) (by decide) ?_
    refine (show X _ _ 178 _ _ _ _ _ _ from ?_)
    refine X.val (b := B 1 p.toNat) (by rw [u2_n (by decide)]; exact hv.2.2.2.1 p.toNat hpn) ?_
    refine x_callV (As := [_]) (mc := 0) (ms := 0) (z := mX12_good) (ci := 12) dX12_person_178 lX12_95 oX12_good (by decide) (by first | assumption) rfl rfl (Nat.le_of_ble_eq_true rfl) (Nat.le_of_ble_eq_true rfl) rfl (hgo _) (k_I ?_)
    refine (show X _ _ 181 _ _ _ _ _ _ from ?_)
    exact x_ireturn dX12_person_181 rfl (DQ_tr hI1 0 (by decide) _)
theorem k_plan {i w : Int} (hI : DI T R V r f E t tp h A B a m H K wr pl tr) (hi : R32 i) (hw : R32 w) : X g mX12_plan 0 [.ref r, .int (iI i), .int (iI w)] [] (T, iV (pB V r 24 E), R, J, z) k n (DQ T R J z V r f (some (.int (iI (if noPl h A i w = true then -1 else A (8 + w.toNat) i.toNat)))) t tp h A B a m H K wr pl (if noPl h A i w = true then 1 else 0)) := by
  have hM := hI.1
  have hI1 := DI_sc hI (Sc_th hI 0)
  have hrf := k_refused (g := g) (V := V) (E := u2 E 0 0 0) (J := J) (z := z) (k := 0) (n := 0) (x := 1) hM
  have hgo := fun x => k_good (g := g) (V := V) (E := u2 E 0 0 0) (J := J) (z := z) (k := 0) (n := 0) (x := x) hM
  have hin := c_in (g := g) (k := 0) (n := 0) (x := w) (lo := 0) (hi := 3) (M := (T, iV (pB V r 24 (u2 E 0 0 0)), R, J, z)) hw ⟨by decide, by decide⟩ ⟨by decide, by decide⟩
  obtain ⟨w1, w2⟩ := hw
  obtain ⟨i1, i2⟩ := hi
  have fin : noPl h A i w = true → X g mX12_plan 36 [.ref r, .int (iI i), .int (iI w)] [] (T, iV (pB V r 24 (u2 E 0 0 0)), R, J, z) k n (DQ T R J z V r f (some (.int (iI (if noPl h A i w = true then -1 else A (8 + w.toNat) i.toNat)))) t tp h A B a m H K wr pl (if noPl h A i w = true then 1 else 0)) := by
    intro e
    rw [if_pos e, if_pos e]
    obtain ⟨m0, -, -⟩ := id hM
    refine x_aload_n dX12_plan_36 rfl ?_
    refine y_iconst dX12_plan_37 ?_
    refine (show X _ _ 38 _ _ _ _ _ _ from ?_)
    refine x_callV (As := [_]) (mc := 0) (ms := 0) (z := mX12_refused) (ci := 12) dX12_plan_38 lX12_91 oX12_refused (by decide) (by first | assumption) rfl rfl (Nat.le_of_ble_eq_true rfl) (Nat.le_of_ble_eq_true rfl) rfl (hrf) (k_I ?_)
    refine (show X _ _ 41 _ _ _ _ _ _ from ?_)
    exact x_ireturn dX12_plan_41 rfl (DQ_tr hI1 1 (by decide) _)
  obtain ⟨-, -, -, -, -, d1, d2⟩ := id hI
  cases h
  · have hn := (d1 rfl).1
    obtain ⟨m0, -, -⟩ := id hM
    refine x_aload_n dX12_plan_0 rfl ?_
    refine y_iconst dX12_plan_1 ?_
    refine b_pi0 (r := r) (m := 24) dX12_plan_2 (pX12_85 _) (by first | assumption) (fun _ _ _ => rfl) rfl rfl (by decide) ?_
    refine x_aload_n dX12_plan_5 rfl ?_
    refine (show X _ _ 6 _ _ _ _ _ _ from ?_)
    refine x_gn dX12_plan_6 fX12_409 (by first | assumption) (fun _ _ _ => rfl) (by first | assumption) ?_
    refine (show X _ _ 9 _ _ _ _ _ _ from ?_)
    refine x_ifnull_n 36 dX12_plan_9 (by decide) ?_
    refine (show X _ _ 36 _ _ _ _ _ _ from ?_)
    exact fin (decide_eq_true (fun c => by cases c.1))
  obtain ⟨⟨hf, hG, hF, hap⟩, ⟨hA, hB, hY4, -⟩, hv, -⟩ := d2 rfl
  have hA4 := hA.2.2.2.2.1
  obtain ⟨m0, -, -⟩ := id hM
  obtain ⟨g0, ⟨-, -, -, -, -, -, -, g17, g18, g19, g20, -, -, -, -, -, -, -, -, -, -, -, -⟩, ⟨-, -, -, -, -, -, -, gk8, gk9, gk10, gk11, -, -, -, -, -, -, -, -, -, -, -, -⟩⟩ := id hG
  unfold apF at hap
  refine x_aload_n dX12_plan_0 rfl ?_
  refine y_iconst dX12_plan_1 ?_
  refine b_pi0 (r := r) (m := 24) dX12_plan_2 (pX12_85 _) (by first | assumption) (fun _ _ _ => rfl) rfl rfl (by decide) ?_
  refine x_aload_n dX12_plan_5 rfl ?_
  refine x_gr dX12_plan_6 fX12_409 (by first | assumption) (fun _ _ _ => rfl) (by first | assumption) ?_
  refine (show X _ _ 9 _ _ _ _ _ _ from ?_)
  refine x_ifnull_r dX12_plan_9 ?_
  refine (show X _ _ 12 _ _ _ _ _ _ from ?_)
  refine x_iload_n dX12_plan_12 rfl ?_
  refine (show X _ _ 13 _ _ _ _ _ _ from ?_)
  refine y_if_lt 36 dX12_plan_13 (by decide) ⟨by omega, by omega⟩ (fun c1 => ?_) (fun c1 => ?_)
  · exact fin (decide_eq_true (fun c => by omega))
  refine x_iload_n dX12_plan_16 rfl ?_
  refine x_aload_n dX12_plan_17 rfl ?_
  refine x_gr dX12_plan_18 fX12_409 (by first | assumption) (fun _ _ _ => rfl) (by first | assumption) ?_
  refine b_gio (r := r) (m := 24) dX12_plan_21 fX12_337 (by first | assumption) (fun _ _ _ => rfl) (by omega) ?_
  refine (show X _ _ 24 _ _ _ _ _ _ from ?_)
  refine X.val (hF.1 4 (by decide)) ?_
  refine y_icmp_ge 36 dX12_plan_24 (by decide) ⟨by omega, by omega⟩ ⟨by omega, by omega⟩ (fun c2 => ?_) (fun c2 => ?_)
  · exact fin (decide_eq_true (fun c => by omega))
  refine x_iload_n dX12_plan_27 rfl ?_
  refine y_iconst dX12_plan_28 ?_
  refine y_iconst dX12_plan_29 ?_
  refine (show X _ _ 30 _ _ _ _ _ _ from ?_)
  refine x_callS (As := [_, _, _]) (mc := 0) (ms := 0) (z := mX12_in) dX12_plan_30 lX12_160 oX12_in (by decide) rfl (Nat.le_of_ble_eq_true rfl) (Nat.le_of_ble_eq_true rfl) rfl (hin) (k_I ?_)
  refine (show X _ _ 33 _ _ _ _ _ _ from ?_)
  refine y_ifb_ne 42 dX12_plan_33 (by decide) (fun c3 => ?_) (fun c3 => ?_)
  rotate_left
  · have c4 := of_decide_eq_false c3
    exact fin (decide_eq_true (fun c => by omega))
  have c4 := of_decide_eq_true c3
  rw [show noPl true A i w = false from decide_eq_false (fun c => c ⟨rfl, c1, c2, by omega, by omega⟩), if_neg (by decide), if_neg (by decide)]
  have hin' : i.toNat < fPl A := by show i.toNat < (A 0 4).toNat; omega
  have hv2 := fun c (hc : c < 4) => hF.2.2.1 c hc i.toNat hin'
  have e2 : ∀ x : Int, x = A (8 + w.toNat) i.toNat → X g mX12_plan 102 [.ref r, .int (iI i), .int (iI w)] [.int (iI x), .ref r] (T, iV (pB V r 24 (u2 E 0 0 0)), R, J, z) k n (DQ T R J z V r f (some (.int (iI (A (8 + w.toNat) i.toNat)))) t tp true A B a m H K wr pl (0)) := by
    intro x hx
    rw [hx]
    refine x_callV (As := [_]) (mc := 0) (ms := 0) (z := mX12_good) (ci := 12) dX12_plan_102 lX12_95 oX12_good (by decide) (by first | assumption) rfl rfl (Nat.le_of_ble_eq_true rfl) (Nat.le_of_ble_eq_true rfl) rfl (hgo _) (k_I ?_)
    refine (show X _ _ 105 _ _ _ _ _ _ from ?_)
    exact x_ireturn dX12_plan_105 rfl (DQ_tr hI1 0 (by decide) _)
  refine x_aload_n dX12_plan_42 rfl ?_
  refine x_iload_n dX12_plan_43 rfl ?_
  refine (show X _ _ 44 _ _ _ _ _ _ from ?_)
  refine y_if_ne 59 dX12_plan_44 (by decide) ⟨by omega, by omega⟩ (fun b0 => ?_) (fun b0 => ?_)
  rotate_left
  · refine x_aload_n dX12_plan_47 rfl ?_
    refine x_gr dX12_plan_48 fX12_409 (by first | assumption) (fun _ _ _ => rfl) (by first | assumption) ?_
    refine x_gr dX12_plan_51 fX12_347 (by first | assumption) (fun _ _ _ => rfl) (by first | assumption) ?_
    refine x_iload_n dX12_plan_54 rfl ?_
    refine b_ialo (r := r) (m := 24) (i.toNat) dX12_plan_55 (by first | assumption) (by first | rfl | omega) (by omega) (by decide) (by omega) ?_
    refine (show X _ _ 56 _ _ _ _ _ _ from ?_)
    refine X.val (hv2 0 (by decide)) ?_
    refine x_goto 102 dX12_plan_56 (by decide) ?_
    refine (show X _ _ 102 _ _ _ _ _ _ from ?_)
    exact e2 _ (by rw [b0]; rfl)
  refine x_iload_n dX12_plan_59 rfl ?_
  refine y_iconst dX12_plan_60 ?_
  refine (show X _ _ 61 _ _ _ _ _ _ from ?_)
  refine y_icmp_ne 76 dX12_plan_61 (by decide) ⟨by omega, by omega⟩ ⟨by omega, by omega⟩ (fun b1 => ?_) (fun b1 => ?_)
  rotate_left
  · refine x_aload_n dX12_plan_64 rfl ?_
    refine x_gr dX12_plan_65 fX12_409 (by first | assumption) (fun _ _ _ => rfl) (by first | assumption) ?_
    refine x_gr dX12_plan_68 fX12_350 (by first | assumption) (fun _ _ _ => rfl) (by first | assumption) ?_
    refine x_iload_n dX12_plan_71 rfl ?_
    refine b_ialo (r := r) (m := 24) (i.toNat) dX12_plan_72 (by first | assumption) (by first | rfl | omega) (by omega) (by decide) (by omega) ?_
    refine (show X _ _ 73 _ _ _ _ _ _ from ?_)
    refine X.val (hv2 1 (by decide)) ?_
    refine x_goto 102 dX12_plan_73 (by decide) ?_
    refine (show X _ _ 102 _ _ _ _ _ _ from ?_)
    exact e2 _ (by rw [b1]; rfl)
  refine x_iload_n dX12_plan_76 rfl ?_
  refine y_iconst dX12_plan_77 ?_
  refine (show X _ _ 78 _ _ _ _ _ _ from ?_)
  refine y_icmp_ne 93 dX12_plan_78 (by decide) ⟨by omega, by omega⟩ ⟨by omega, by omega⟩ (fun b2 => ?_) (fun b2 => ?_)
  rotate_left
  · refine x_aload_n dX12_plan_81 rfl ?_
    refine x_gr dX12_plan_82 fX12_409 (by first | assumption) (fun _ _ _ => rfl) (by first | assumption) ?_
    refine x_gr dX12_plan_85 fX12_353 (by first | assumption) (fun _ _ _ => rfl) (by first | assumption) ?_
    refine x_iload_n dX12_plan_88 rfl ?_
    refine b_ialo (r := r) (m := 24) (i.toNat) dX12_plan_89 (by first | assumption) (by first | rfl | omega) (by omega) (by decide) (by omega) ?_
    refine (show X _ _ 90 _ _ _ _ _ _ from ?_)
    refine X.val (hv2 2 (by decide)) ?_
    refine x_goto 102 dX12_plan_90 (by decide) ?_
    refine (show X _ _ 102 _ _ _ _ _ _ from ?_)
    exact e2 _ (by rw [b2]; rfl)
  have b3 : w = 3 := by omega
  refine x_aload_n dX12_plan_93 rfl ?_
  refine x_gr dX12_plan_94 fX12_409 (by first | assumption) (fun _ _ _ => rfl) (by first | assumption) ?_
  refine x_gr dX12_plan_97 fX12_356 (by first | assumption) (fun _ _ _ => rfl) (by first | assumption) ?_
  refine x_iload_n dX12_plan_100 rfl ?_
  refine b_ialo (r := r) (m := 24) (i.toNat) dX12_plan_101 (by first | assumption) (by first | rfl | omega) (by omega) (by decide) (by omega) ?_
  refine (show X _ _ 102 _ _ _ _ _ _ from ?_)
  refine X.val (hv2 3 (by decide)) ?_
  exact e2 _ (by rw [b3]; rfl)
theorem k_size {w : Int} (hI : DI T R V r f E t tp h A B a m H K wr pl tr) (hz : h = false → (∀ c, c < 9 → A 0 c = 0) ∧ ∀ c, c < 3 → B 0 c = 0) (hw : R32 w) : X g mX12_size 0 [.ref r, .int (iI w)] [] (T, iV (pB V r 24 E), R, J, z) k n (DQ T R J z V r f (some (.int (iI (szX A B a m tp w)))) t tp h A B a m H K wr pl (tr)) := by
  have hM := hI.1
  have hI1 := DI_sc hI (Sc_th hI 0)
  have hin := c_in (g := g) (k := 0) (n := 0) (x := w) (lo := 0) (hi := 11) (M := (T, iV (pB V r 24 (u2 E 0 0 0)), R, J, z)) hw ⟨by decide, by decide⟩ ⟨by decide, by decide⟩
  obtain ⟨w1, w2⟩ := hw
  obtain ⟨-, -, ⟨-, d6, -⟩, ⟨⟨d18, -⟩, d19, -⟩, -, d1, d2⟩ := id hI1
  unfold szX
  obtain ⟨m0, ⟨-, m15, -, -, -, -, -, -, -, -, -, -, -, -, -, -, -, -, -, -, -, -, -⟩, ⟨-, mk2, -, -, -, -, -, -, -, -, -, -, -, -, -, -, -, -, -, -, -, -, -⟩⟩ := id hM
  refine x_aload_n dX12_size_0 rfl ?_
  refine y_iconst dX12_size_1 ?_
  refine b_pi0 (r := r) (m := 24) dX12_size_2 (pX12_85 _) (by first | assumption) (fun _ _ _ => rfl) rfl rfl (by decide) ?_
  refine x_iload_n dX12_size_5 rfl ?_
  refine y_bipush dX12_size_6 rfl ?_
  refine (show X _ _ 8 _ _ _ _ _ _ from ?_)
  refine y_icmp_ne 16 dX12_size_8 (by decide) ⟨by omega, by omega⟩ ⟨by omega, by omega⟩ (fun c12 => ?_) (fun c12 => ?_)
  rotate_left
  · rw [if_neg (by omega), if_neg (by omega), if_neg (by omega), if_neg (by omega), if_neg (by omega), if_neg (by omega), if_neg (by omega), if_neg (by omega), if_neg (by omega), if_neg (by omega), if_neg (by omega), if_neg (by omega), if_pos c12]
    refine x_aload_n dX12_size_11 rfl ?_
    refine b_gi0 (r := r) (m := 24) dX12_size_12 fX12_402 (by first | assumption) (fun _ _ _ => rfl) (by decide) ?_
    refine (show X _ _ 15 _ _ _ _ _ _ from ?_)
    refine X.val d6 ?_
    exact x_ireturn dX12_size_15 rfl (DQ_id hI1 _)
  refine x_iload_n dX12_size_16 rfl ?_
  refine y_iconst dX12_size_17 ?_
  refine y_bipush dX12_size_18 rfl ?_
  refine (show X _ _ 20 _ _ _ _ _ _ from ?_)
  refine x_callS (As := [_, _, _]) (mc := 0) (ms := 0) (z := mX12_in) dX12_size_20 lX12_160 oX12_in (by decide) rfl (Nat.le_of_ble_eq_true rfl) (Nat.le_of_ble_eq_true rfl) rfl (hin) (k_I ?_)
  refine (show X _ _ 23 _ _ _ _ _ _ from ?_)
  refine y_ifb_ne 28 dX12_size_23 (by decide) (fun c1 => ?_) (fun c1 => ?_)
  rotate_left
  · have c2 := of_decide_eq_false c1
    rw [if_neg (by omega), if_neg (by omega), if_neg (by omega), if_neg (by omega), if_neg (by omega), if_neg (by omega), if_neg (by omega), if_neg (by omega), if_neg (by omega), if_neg (by omega), if_neg (by omega), if_neg (by omega), if_neg (by omega)]
    refine y_iconst dX12_size_26 ?_
    refine (show X _ _ 27 _ _ _ _ _ _ from ?_)
    exact x_ireturn dX12_size_27 rfl (DQ_id hI1 _)
  have c2 := of_decide_eq_true c1
  have hc : w = 0 ∨ w = 1 ∨ w = 2 ∨ w = 3 ∨ w = 4 ∨ w = 5 ∨ w = 6 ∨ w = 7 ∨ w = 8 ∨ w = 9 ∨ w = 10 ∨ w = 11 := by omega
  cases h
  · obtain ⟨hn, ha0, hm0⟩ := d1 rfl
    obtain ⟨z1, z2⟩ := hz rfl
    have ez : (if w = 0 then A 0 0 else if w = 1 then B 0 0 else if w = 2 then A 0 2 else if w = 3 then A 0 3 else if w = 4 then A 0 4 else if w = 5 then A 0 5 + B 0 2 else if w = 6 then A 0 6 else if w = 7 then A 0 7 else if w = 8 then A 0 8 else if w = 9 then B 0 1 else if w = 10 then (a : Int) else if w = 11 then (m : Int) else if w = 12 then (tp : Int) else -1) = 0 := by
      rw [z1 0 (by decide), z2 0 (by decide), z1 2 (by decide), z1 3 (by decide), z1 4 (by decide), z1 5 (by decide), z2 2 (by decide), z1 6 (by decide), z1 7 (by decide), z1 8 (by decide), z2 1 (by decide), ha0, hm0]
      repeat' split
      all_goals omega
    rw [ez]
    refine x_aload_n dX12_size_28 rfl ?_
    refine (show X _ _ 29 _ _ _ _ _ _ from ?_)
    refine x_gn dX12_size_29 fX12_409 (by first | assumption) (fun _ _ _ => rfl) (by first | assumption) ?_
    refine (show X _ _ 32 _ _ _ _ _ _ from ?_)
    refine x_ifnonnull_n dX12_size_32 ?_
    refine (show X _ _ 35 _ _ _ _ _ _ from ?_)
    refine y_iconst dX12_size_35 ?_
    refine (show X _ _ 36 _ _ _ _ _ _ from ?_)
    exact x_ireturn dX12_size_36 rfl (DQ_id hI1 _)
  obtain ⟨⟨hf, hG, hF, hap⟩, -, hv, -⟩ := d2 rfl
  have g0 := hG.1
  unfold apF at hap
  have hV := fun c (hc : c < 9) => hF.1 c hc
  refine x_aload_n dX12_size_28 rfl ?_
  refine x_gr dX12_size_29 fX12_409 (by first | assumption) (fun _ _ _ => rfl) (by first | assumption) ?_
  refine (show X _ _ 32 _ _ _ _ _ _ from ?_)
  refine x_ifnonnull_r 37 dX12_size_32 (by decide) ?_
  refine (show X _ _ 37 _ _ _ _ _ _ from ?_)
  refine x_iload_n dX12_size_37 rfl ?_
  refine (show X _ _ 38 _ _ _ _ _ _ from ?_)
  rcases hc with rfl | rfl | rfl | rfl | rfl | rfl | rfl | rfl | rfl | rfl | rfl | rfl
  · rw [if_pos rfl]
    refine y_tsIn 96 dX12_size_38 ⟨by decide, by decide⟩ (by decide) (by decide) rfl (by decide) ?_
    refine x_aload_n dX12_size_96 rfl ?_
    refine x_gr dX12_size_97 fX12_409 (by first | assumption) (fun _ _ _ => rfl) (by first | assumption) ?_
    refine b_gio (r := r) (m := 24) dX12_size_100 fX12_176 (by first | assumption) (fun _ _ _ => rfl) (by omega) ?_
    refine (show X _ _ 103 _ _ _ _ _ _ from ?_)
    refine X.val (hV 0 (by decide)) ?_
    exact x_ireturn dX12_size_103 rfl (DQ_id hI1 _)
  · rw [if_neg (by decide), if_pos rfl]
    refine y_tsIn 104 dX12_size_38 ⟨by decide, by decide⟩ (by decide) (by decide) rfl (by decide) ?_
    refine x_aload_n dX12_size_104 rfl ?_
    refine x_gr dX12_size_105 fX12_17 (by first | assumption) (fun _ _ _ => rfl) (by first | assumption) ?_
    refine y_iconst dX12_size_108 ?_
    refine b_iald (r := r) (m := 24) (j := 2) (0) dX12_size_109 (by first | assumption) (by first | rfl | omega) (by omega) (by decide) (by decide) ?_
    refine (show X _ _ 110 _ _ _ _ _ _ from ?_)
    refine X.val hv.1 ?_
    exact x_ireturn dX12_size_110 rfl (DQ_id hI1 _)
  · rw [if_neg (by decide), if_neg (by decide), if_pos rfl]
    refine y_tsIn 111 dX12_size_38 ⟨by decide, by decide⟩ (by decide) (by decide) rfl (by decide) ?_
    refine x_aload_n dX12_size_111 rfl ?_
    refine x_gr dX12_size_112 fX12_409 (by first | assumption) (fun _ _ _ => rfl) (by first | assumption) ?_
    refine b_gio (r := r) (m := 24) dX12_size_115 fX12_279 (by first | assumption) (fun _ _ _ => rfl) (by omega) ?_
    refine (show X _ _ 118 _ _ _ _ _ _ from ?_)
    refine X.val (hV 2 (by decide)) ?_
    exact x_ireturn dX12_size_118 rfl (DQ_id hI1 _)
  · rw [if_neg (by decide), if_neg (by decide), if_neg (by decide), if_pos rfl]
    refine y_tsIn 119 dX12_size_38 ⟨by decide, by decide⟩ (by decide) (by decide) rfl (by decide) ?_
    refine x_aload_n dX12_size_119 rfl ?_
    refine x_gr dX12_size_120 fX12_409 (by first | assumption) (fun _ _ _ => rfl) (by first | assumption) ?_
    refine b_gio (r := r) (m := 24) dX12_size_123 fX12_230 (by first | assumption) (fun _ _ _ => rfl) (by omega) ?_
    refine (show X _ _ 126 _ _ _ _ _ _ from ?_)
    refine X.val (hV 3 (by decide)) ?_
    exact x_ireturn dX12_size_126 rfl (DQ_id hI1 _)
  · rw [if_neg (by decide), if_neg (by decide), if_neg (by decide), if_neg (by decide), if_pos rfl]
    refine y_tsIn 127 dX12_size_38 ⟨by decide, by decide⟩ (by decide) (by decide) rfl (by decide) ?_
    refine x_aload_n dX12_size_127 rfl ?_
    refine x_gr dX12_size_128 fX12_409 (by first | assumption) (fun _ _ _ => rfl) (by first | assumption) ?_
    refine b_gio (r := r) (m := 24) dX12_size_131 fX12_337 (by first | assumption) (fun _ _ _ => rfl) (by omega) ?_
    refine (show X _ _ 134 _ _ _ _ _ _ from ?_)
    refine X.val (hV 4 (by decide)) ?_
    exact x_ireturn dX12_size_134 rfl (DQ_id hI1 _)
  · rw [if_neg (by decide), if_neg (by decide), if_neg (by decide), if_neg (by decide), if_neg (by decide), if_pos rfl]
    refine y_tsIn 135 dX12_size_38 ⟨by decide, by decide⟩ (by decide) (by decide) rfl (by decide) ?_
    refine x_aload_n dX12_size_135 rfl ?_
    refine x_gr dX12_size_136 fX12_409 (by first | assumption) (fun _ _ _ => rfl) (by first | assumption) ?_
    refine b_gio (r := r) (m := 24) dX12_size_139 fX12_359 (by first | assumption) (fun _ _ _ => rfl) (by omega) ?_
    refine (show X _ _ 142 _ _ _ _ _ _ from ?_)
    refine X.val (hV 5 (by decide)) ?_
    refine x_aload_n dX12_size_142 rfl ?_
    refine x_gr dX12_size_143 fX12_17 (by first | assumption) (fun _ _ _ => rfl) (by first | assumption) ?_
    refine y_bipush dX12_size_146 rfl ?_
    refine b_iald (r := r) (m := 24) (j := 2) (12) dX12_size_148 (by first | assumption) (by first | rfl | omega) (by omega) (by decide) (by decide) ?_
    refine (show X _ _ 149 _ _ _ _ _ _ from ?_)
    refine X.val hv.2.2.1 ?_
    refine y_iadd dX12_size_149 ?_
    refine (show X _ _ 150 _ _ _ _ _ _ from ?_)
    exact x_ireturn dX12_size_150 rfl (DQ_id hI1 _)
  · rw [if_neg (by decide), if_neg (by decide), if_neg (by decide), if_neg (by decide), if_neg (by decide), if_neg (by decide), if_pos rfl]
    refine y_tsIn 151 dX12_size_38 ⟨by decide, by decide⟩ (by decide) (by decide) rfl (by decide) ?_
    refine x_aload_n dX12_size_151 rfl ?_
    refine x_gr dX12_size_152 fX12_409 (by first | assumption) (fun _ _ _ => rfl) (by first | assumption) ?_
    refine b_gio (r := r) (m := 24) dX12_size_155 fX12_375 (by first | assumption) (fun _ _ _ => rfl) (by omega) ?_
    refine (show X _ _ 158 _ _ _ _ _ _ from ?_)
    refine X.val (hV 6 (by decide)) ?_
    exact x_ireturn dX12_size_158 rfl (DQ_id hI1 _)
  · rw [if_neg (by decide), if_neg (by decide), if_neg (by decide), if_neg (by decide), if_neg (by decide), if_neg (by decide), if_neg (by decide), if_pos rfl]
    refine y_tsIn 159 dX12_size_38 ⟨by decide, by decide⟩ (by decide) (by decide) rfl (by decide) ?_
    refine x_aload_n dX12_size_159 rfl ?_
    refine x_gr dX12_size_160 fX12_409 (by first | assumption) (fun _ _ _ => rfl) (by first | assumption) ?_
    refine b_gio (r := r) (m := 24) dX12_size_163 fX12_381 (by first | assumption) (fun _ _ _ => rfl) (by omega) ?_
    refine (show X _ _ 166 _ _ _ _ _ _ from ?_)
    refine X.val (hV 7 (by decide)) ?_
    exact x_ireturn dX12_size_166 rfl (DQ_id hI1 _)
  · rw [if_neg (by decide), if_neg (by decide), if_neg (by decide), if_neg (by decide), if_neg (by decide), if_neg (by decide), if_neg (by decide), if_neg (by decide), if_pos rfl]
    refine y_tsIn 167 dX12_size_38 ⟨by decide, by decide⟩ (by decide) (by decide) rfl (by decide) ?_
    refine x_aload_n dX12_size_167 rfl ?_
    refine x_gr dX12_size_168 fX12_409 (by first | assumption) (fun _ _ _ => rfl) (by first | assumption) ?_
    refine b_gio (r := r) (m := 24) dX12_size_171 fX12_390 (by first | assumption) (fun _ _ _ => rfl) (by omega) ?_
    refine (show X _ _ 174 _ _ _ _ _ _ from ?_)
    refine X.val (hV 8 (by decide)) ?_
    exact x_ireturn dX12_size_174 rfl (DQ_id hI1 _)
  · rw [if_neg (by decide), if_neg (by decide), if_neg (by decide), if_neg (by decide), if_neg (by decide), if_neg (by decide), if_neg (by decide), if_neg (by decide), if_neg (by decide), if_pos rfl]
    refine y_tsIn 175 dX12_size_38 ⟨by decide, by decide⟩ (by decide) (by decide) rfl (by decide) ?_
    refine x_aload_n dX12_size_175 rfl ?_
    refine x_gr dX12_size_176 fX12_17 (by first | assumption) (fun _ _ _ => rfl) (by first | assumption) ?_
    refine y_iconst dX12_size_179 ?_
    refine b_iald (r := r) (m := 24) (j := 2) (1) dX12_size_180 (by first | assumption) (by first | rfl | omega) (by omega) (by decide) (by decide) ?_
    refine (show X _ _ 181 _ _ _ _ _ _ from ?_)
    refine X.val hv.2.1 ?_
    exact x_ireturn dX12_size_181 rfl (DQ_id hI1 _)
  · rw [if_neg (by decide), if_neg (by decide), if_neg (by decide), if_neg (by decide), if_neg (by decide), if_neg (by decide), if_neg (by decide), if_neg (by decide), if_neg (by decide), if_neg (by decide), if_pos rfl]
    refine y_tsIn 182 dX12_size_38 ⟨by decide, by decide⟩ (by decide) (by decide) rfl (by decide) ?_
    refine x_aload_n dX12_size_182 rfl ?_
    refine b_gi0 (r := r) (m := 24) dX12_size_183 fX12_411 (by first | assumption) (fun _ _ _ => rfl) (by decide) ?_
    refine (show X _ _ 186 _ _ _ _ _ _ from ?_)
    refine X.val d18 ?_
    exact x_ireturn dX12_size_186 rfl (DQ_id hI1 _)
  · rw [if_neg (by decide), if_neg (by decide), if_neg (by decide), if_neg (by decide), if_neg (by decide), if_neg (by decide), if_neg (by decide), if_neg (by decide), if_neg (by decide), if_neg (by decide), if_neg (by decide), if_pos rfl]
    refine y_tsOut 187 dX12_size_38 ⟨by decide, by decide⟩ (by decide) (by decide) ?_
    refine x_aload_n dX12_size_187 rfl ?_
    refine b_gi0 (r := r) (m := 24) dX12_size_188 fX12_414 (by first | assumption) (fun _ _ _ => rfl) (by decide) ?_
    refine (show X _ _ 191 _ _ _ _ _ _ from ?_)
    refine X.val d19 ?_
    exact x_ireturn dX12_size_191 rfl (DQ_id hI1 _)
end C99
