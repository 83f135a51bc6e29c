/-! ===== Rows: a row is tried ===== -/
section HB1
variable {A B W : Nat → Nat → Int} {y : Nat}
def HB (W : Nat → Nat → Int) (y : Nat) : Prop := 0 ≤ W 0 8 ∧ W 0 8 ≤ 1188 * (y : Int)
theorem hmS_b (hA : VA A) (y p : Nat) : 0 ≤ hmS A y p ∧ hmS A y p ≤ 1188 := by
  have hp := hA.2.2.2.2.2.2.2.2.2.2.1
  have h4 := hA.2.2.2.2.1
  have key : ∀ i, i ≤ fPl A → 0 ≤ lp i (fun i s => if A 8 i = p ∧ A 9 i ≤ y ∧ (y : Int) ≤ A 10 i then s + A 11 i else s) 0 ∧ lp i (fun i s => if A 8 i = p ∧ A 9 i ≤ y ∧ (y : Int) ≤ A 10 i then s + A 11 i else s) 0 ≤ 99 * (i : Int) := by
    intro i
    induction i with
    | zero => intro _; exact ⟨Int.le_refl _, Int.le_refl _⟩
    | succ i ih =>
      intro hi
      have h := ih (by omega)
      have hb := (hp i (by omega)).2.2.2
      show 0 ≤ (if A 8 i = p ∧ A 9 i ≤ y ∧ (y : Int) ≤ A 10 i then lp i _ 0 + A 11 i else lp i _ 0) ∧ (if A 8 i = p ∧ A 9 i ≤ y ∧ (y : Int) ≤ A 10 i then lp i _ 0 + A 11 i else lp i _ 0) ≤ _
      split <;> omega
  have h := key (fPl A) (Nat.le_refl _)
  have e : fPl A ≤ 12 := by unfold fPl; omega
  unfold hmS
  omega
theorem takeT_h (who : Int) : takeT A W y who 0 8 = W 0 8 + (if 0 ≤ who then hmS A y who.toNat else 0) := by
  have ta : tk1 W y who 0 8 = W 0 8 := by
    unfold tk1
    split
    · rw [u2_s, u1_n (by decide)]; rfl
    · rw [u2_s, u1_n (by decide), u2_s, u1_n (by decide)]; rfl
  unfold takeT
  split
  · generalize who.toNat = p
    have d0 : tkT A (tk1 W y who) y p 0 8 = tk3 A (tk2 A (tk1 W y who) y p) p 0 8 := by
      unfold tkT tk4
      split
      · rfl
      · rw [u2_s, u1_n (by decide), u2_s, u1_n (by decide), u2_s, u1_n (by decide)]
    have c : tk3 A (tk2 A (tk1 W y who) y p) p 0 = tk2 A (tk1 W y who) y p 0 := by
      unfold tk3
      split
      · exact u2_n (by decide)
      · rfl
    have b : tk2 A (tk1 W y who) y p 0 8 = tk1 W y who 0 8 + hmS A y p := by
      unfold tk2
      rw [u2_s, u1_s]
    rw [d0, c, b, ta]
  · rw [ta, Int.add_zero]
theorem takeT_hb (hA : VA A) (who : Int) (h : HB W y) : HB (takeT A W y who) (y + 1) := by
  unfold HB at *
  rw [takeT_h]
  have := hmS_b hA y who.toNat
  split <;> omega
theorem passY_hb (hA : VA A) (h : HB W y) : HB (passY A B W y) (y + 1) := by
  unfold passY
  refine takeT_hb hA _ ?_
  unfold HB at *
  rw [sold_row 0 (by decide), yrW_row 0 8 (by decide)]
  exact h
theorem rBeg_hb {lw sd : Int} : HB (rBeg A W lw sd) 0 := by
  unfold HB
  have e : rBeg A W lw sd 0 8 = beg0 W lw sd 0 8 := (rBeg_row (A := A) (W := W) (lw := lw) (sd := sd) (fP A)).1 8
  have e2 : beg0 W lw sd 0 8 = 0 := rfl
  rw [e, e2]
  exact ⟨Int.le_refl _, Int.le_refl _⟩
theorem mwW_ok {wi : Int} (hA : VA A) (hk : ROk A W y) (hwi : 0 ≤ wi) (h : mwOk A B W y wi = true) : ROk A (mwW A B W y wi) (y + 1) := by
  have hc := rComes_b (B := B) hk (by have := hA.2.2.2.1; omega)
  have hP := hA.2.2.2.1
  obtain ⟨k1, k2, k3, k4, k5, k6, k7, k8, k9, k10⟩ := hk
  unfold mwOk at h
  unfold mwW
  refine takeT_ok (m := y) hA ?_ k1 k2 k3 k4 k5 k6 k7 k8 k9 k10
  by_cases e : rComes A B W y = -3
  · rw [if_pos e] at h ⊢
    have := rCn_bit h
    unfold fP at this
    omega
  · rw [if_neg e]
    omega
theorem mwW_hb {wi : Int} (hA : VA A) (h : HB W y) : HB (mwW A B W y wi) (y + 1) := takeT_hb hA _ h
end HB1
section Try
variable (A B E : Nat → Nat → Int) (m : Nat)
def trEnd (W : Nat → Nat → Int) : Int × (Nat → Nat → Int) := ((m : Int) - 1, if W 0 8 < E 3 m then u1 (u2 (pB E 6 5 W) 3 m (W 0 8)) 4 (cpR (W 4) (E 4) 0 (4 * m) m) else pB E 6 5 W)
def tr2 : Nat → Nat → (Nat → Nat → Int) → Int × (Nat → Nat → Int)
  | 0, _, W => trEnd E m W
  | d + 1, y, W => if W 0 8 < E 3 m then tr2 d (y + 1) (passY A B W y) else trEnd E m W
def trA : Nat → Nat → (Nat → Nat → Int) → Int × (Nat → Nat → Int)
  | 0, _, W => tr2 A B E m (fY A - m) m W
  | d + 1, i, W => if mwOk A B W i (E 1 i) = true then (if mwW A B W i (E 1 i) 0 8 < E 3 m then trA d (i + 1) (mwW A B W i (E 1 i)) else ((i : Int), pB E 6 5 (mwW A B W i (E 1 i)))) else ((i : Int), pB E 6 5 W)
def tryR : Int × (Nat → Nat → Int) := trA A B E m m 0 (rBeg A (fun j => E (6 + j)) (B 0 0) (B 0 1))
end Try
section C17
variable {g : GG} {T : Nat → Nat × Nat} {V E W : Nat → Nat → Int} {R : Nat → Nat → Option Nat} {J : Nat → Nat → Int64} {z k n : Nat} {A B : Nat → Nat → Int} {rr w f nw al : Nat}
theorem c_tryRow {m : Nat} (hq : QS T R rr w) (hw : WS T R w f nw al) (hC : WC V f nw al A B) (hap : AP14 rr w f nw al) (hm : 1 ≤ m ∧ m ≤ 4) (h4 : m ≤ fY A) (hE : ∀ j, j < 4 → 0 ≤ E 1 j ∧ E 1 j ≤ 9) (hL : 0 ≤ E 3 m ∧ E 3 m ≤ 1000000000) : X g mX7_tryRow 0 [.ref rr, .int (iI (m : Int)), jk] [] (T, iV (pB V rr 14 E), R, J, z) k n (rI (iI (tryR A B E m).1) (T, iV (pB V rr 14 (tryR A B E m).2), R, J, z)) := by
  have hA := hC.2.2.2.1
  have hB := hC.2.2.2.2
  have eY := fY24 hA
  obtain ⟨p1, p2, p3, p4⟩ := id hap
  have hWC := fun F => WC_out (W := F) (r := rr) (m := 14) hC p2 p3 p4
  have hAP : AP (rr + 6) w f nw al := ⟨by omega, by omega, by omega, by omega⟩
  have hRS := hq.2.2.2.1
  have hbg := c_begin (g := g) (J := J) (z := z) (k := 0) (n := 0) (V := pB V rr 14 E) (W := fun j => E (6 + j)) (lw := B 0 0) (sd := B 0 1) hRS hw (hWC E) hAP
  rw [pB_in (by decide), pB_sub (by decide)] at hbg
  have hok0 : ROk A (rBeg A (fun j => E (6 + j)) (B 0 0) (B 0 1)) 0 := rBeg_ok hA hB.1 hB.2.1
  have hhb0 : HB (rBeg A (fun j => E (6 + j)) (B 0 0) (B 0 1)) 0 := rBeg_hb
  have hpy := fun W y hy hk => c_passYear (g := g) (J := J) (z := z) (k := 0) (n := 0) (V := pB V rr 14 (pB E 6 5 W)) (W := W) (y := y) hRS hw (hWC _) hAP hy hk
  have hmw := fun W y (hy : y < 4) hyY hk => c_meetWish (g := g) (J := J) (z := z) (k := 0) (n := 0) (E := pB E 6 5 W) (W := W) (y := y) hq hw hC hap hy hyY (fun j hj => pB_at hj) hk (by rw [pB_out (by decide)]; exact hE y hy)
  have e1 : ∀ W, pB E 6 5 W 1 = E 1 := fun W => pB_out (by decide)
  have e3 : ∀ W, pB E 6 5 W 3 m = E 3 m := fun W => by rw [pB_out (by decide)]
  have e6 : ∀ W, pB E 6 5 W 6 8 = W 0 8 := fun W => by rw [pB_0 (by decide)]
  obtain ⟨⟨q0, q1, q2, q3⟩, ⟨v3, v4, v5, v6, v8⟩, ⟨t1, t2, t3, t4, t5⟩, ⟨⟨r0, r1⟩, ⟨r2, r3, r4, r5⟩, ⟨s1, s2, s3, s4⟩⟩, -⟩ := hq
  obtain ⟨⟨w0, w1, w2, w3⟩, ⟨f0, -⟩, ⟨n0, n1, n2, n3, n4⟩, -⟩ := hw
  obtain ⟨⟨hV0, -⟩, ⟨hN0, -⟩, -⟩ := hC
  have k3 : ∀ W q, 0 ≤ W 0 8 ∧ W 0 8 ≤ 30000 → X g mX7_tryRow 112 [.ref rr, .int (iI (m : Int)), q] [] (T, iV (pB V rr 14 (pB E 6 5 W)), R, J, z) k n (rI (iI (trEnd E m W).1) (T, iV (pB V rr 14 (trEnd E m W).2), R, J, z)) := by
    intro W q hh
    unfold trEnd
    refine x_aload_n dX7_tryRow_112 rfl ?_
    refine x_gr dX7_tryRow_113 fX7_41 (by first | assumption) (fun _ _ _ => rfl) (by first | assumption) ?_
    refine b_gi (r := rr) (m := 14) (j := 6) dX7_tryRow_116 fX7_101 (by first | assumption) (fun _ _ _ => rfl) (by decide) ?_
    refine (show X _ _ 119 _ _ _ _ _ _ from ?_)
    refine X.val (e6 W) ?_
    refine x_aload_n dX7_tryRow_119 rfl ?_
    refine x_gr dX7_tryRow_120 fX7_19 (by first | assumption) (fun _ _ _ => rfl) (by first | assumption) ?_
    refine x_iload_n dX7_tryRow_123 rfl ?_
    refine b_iald (r := rr) (m := 14) (j := 3) (m) dX7_tryRow_124 (by first | assumption) (by first | rfl | omega) (by omega) (by decide) (by decide) ?_
    refine (show X _ _ 125 _ _ _ _ _ _ from ?_)
    refine X.val (e3 W) ?_
    refine y_icmp_ge 160 dX7_tryRow_125 (by decide) ⟨by omega, by omega⟩ ⟨by omega, by omega⟩ (fun h => ?_) (fun h => ?_)
    · rw [if_neg (by omega)]
      refine x_iload_n dX7_tryRow_160 rfl ?_
      refine y_iconst dX7_tryRow_161 ?_
      refine y_isub dX7_tryRow_162 ?_
      refine (show X _ _ 163 _ _ _ _ _ _ from ?_)
      exact x_ireturn dX7_tryRow_163 rfl ⟨rfl, rfl⟩
    · rw [if_pos h]
      refine x_aload_n dX7_tryRow_128 rfl ?_
      refine x_gr dX7_tryRow_129 fX7_19 (by first | assumption) (fun _ _ _ => rfl) (by first | assumption) ?_
      refine x_iload_n dX7_tryRow_132 rfl ?_
      refine x_aload_n dX7_tryRow_133 rfl ?_
      refine x_gr dX7_tryRow_134 fX7_41 (by first | assumption) (fun _ _ _ => rfl) (by first | assumption) ?_
      refine b_gi (r := rr) (m := 14) (j := 6) dX7_tryRow_137 fX7_101 (by first | assumption) (fun _ _ _ => rfl) (by decide) ?_
      refine (show X _ _ 140 _ _ _ _ _ _ from ?_)
      refine X.val (e6 W) ?_
      refine b_iast (r := rr) (m := 14) (j := 3) (m) dX7_tryRow_140 (by first | assumption) (by first | rfl | omega) (by omega) (by decide) (by decide) ?_
      refine x_aload_n dX7_tryRow_141 rfl ?_
      refine x_gr dX7_tryRow_142 fX7_41 (by first | assumption) (fun _ _ _ => rfl) (by first | assumption) ?_
      refine x_gr dX7_tryRow_145 fX7_111 (by first | assumption) (fun _ _ _ => rfl) (by first | assumption) ?_
      refine y_iconst dX7_tryRow_148 ?_
      refine x_aload_n dX7_tryRow_149 rfl ?_
      refine x_gr dX7_tryRow_150 fX7_22 (by first | assumption) (fun _ _ _ => rfl) (by first | assumption) ?_
      refine x_iload_n dX7_tryRow_153 rfl ?_
      refine (show X _ _ 154 _ _ _ _ _ _ from ?_)
      refine y_iconst dX7_tryRow_154 ?_
      refine y_imul dX7_tryRow_155 ?_
      refine x_iload_n dX7_tryRow_156 rfl ?_
      refine (show X _ _ 157 _ _ _ _ _ _ from ?_)
      refine b_copy (r := rr) (m := 14) (j0 := 10) (j := 4) (p0 := 0) (p1 := 4 * m) (q := m) dX7_tryRow_157 lX7_114 (by decide) s4 t4 rfl (by omega) rfl (by omega) (by omega) (by decide) (by decide) (Nat.le_of_ble_eq_true rfl) (by decide) (by decide) ?_
      refine (show X _ _ 160 _ _ _ _ _ _ from ?_)
      refine x_iload_n dX7_tryRow_160 rfl ?_
      refine y_iconst dX7_tryRow_161 ?_
      refine y_isub dX7_tryRow_162 ?_
      refine (show X _ _ 163 _ _ _ _ _ _ from ?_)
      exact x_ireturn dX7_tryRow_163 rfl ⟨rfl, rfl⟩
  have k2 : ∀ d y W, y + d = fY A → ROk A W y → HB W y → X g mX7_tryRow 68 [.ref rr, .int (iI (m : Int)), .int (iI (y : Int))] [] (T, iV (pB V rr 14 (pB E 6 5 W)), R, J, z) k n (rI (iI (tr2 A B E m d y W).1) (T, iV (pB V rr 14 (tr2 A B E m d y W).2), R, J, z)) := by
    intro d
    induction d with
    | zero =>
      intro y W hy hk hh
      have hh2 : 0 ≤ W 0 8 ∧ W 0 8 ≤ 30000 := ⟨hh.1, by have := hh.2; omega⟩
      refine x_iload_n dX7_tryRow_68 rfl ?_
      refine x_aload_n dX7_tryRow_69 rfl ?_
      refine x_gr dX7_tryRow_70 fX7_32 (by first | assumption) (fun _ _ _ => rfl) (by first | assumption) ?_
      refine x_gr dX7_tryRow_73 fX7_70 (by first | assumption) (fun _ _ _ => rfl) (by first | assumption) ?_
      refine b_gio (r := rr) (m := 14) dX7_tryRow_76 fX7_104 (by first | assumption) (fun _ _ _ => rfl) (by omega) ?_
      refine (show X _ _ 79 _ _ _ _ _ _ from ?_)
      refine X.val (b := A 0 0) (hV0 0 (by omega)) ?_
      refine y_icmp_ge 112 dX7_tryRow_79 (by decide) ⟨by omega, by omega⟩ ⟨by omega, by omega⟩ (fun h => ?_) (fun h => ?_)
      · exact k3 W _ hh2
      · omega
    | succ d ih =>
      intro y W hy hk hh
      have hh2 : 0 ≤ W 0 8 ∧ W 0 8 ≤ 30000 := ⟨hh.1, by have := hh.2; omega⟩
      rw [tr2]
      refine x_iload_n dX7_tryRow_68 rfl ?_
      refine x_aload_n dX7_tryRow_69 rfl ?_
      refine x_gr dX7_tryRow_70 fX7_32 (by first | assumption) (fun _ _ _ => rfl) (by first | assumption) ?_
      refine x_gr dX7_tryRow_73 fX7_70 (by first | assumption) (fun _ _ _ => rfl) (by first | assumption) ?_
      refine b_gio (r := rr) (m := 14) dX7_tryRow_76 fX7_104 (by first | assumption) (fun _ _ _ => rfl) (by omega) ?_
      refine (show X _ _ 79 _ _ _ _ _ _ from ?_)
      refine X.val (b := A 0 0) (hV0 0 (by omega)) ?_
      refine y_icmp_ge 112 dX7_tryRow_79 (by decide) ⟨by omega, by omega⟩ ⟨by omega, by omega⟩ (fun h => ?_) (fun h => ?_)
      · omega
      refine x_aload_n dX7_tryRow_82 rfl ?_
      refine x_gr dX7_tryRow_83 fX7_41 (by first | assumption) (fun _ _ _ => rfl) (by first | assumption) ?_
      refine b_gi (r := rr) (m := 14) (j := 6) dX7_tryRow_86 fX7_101 (by first | assumption) (fun _ _ _ => rfl) (by decide) ?_
      refine (show X _ _ 89 _ _ _ _ _ _ from ?_)
      refine X.val (e6 W) ?_
      refine x_aload_n dX7_tryRow_89 rfl ?_
      refine x_gr dX7_tryRow_90 fX7_19 (by first | assumption) (fun _ _ _ => rfl) (by first | assumption) ?_
      refine x_iload_n dX7_tryRow_93 rfl ?_
      refine b_iald (r := rr) (m := 14) (j := 3) (m) dX7_tryRow_94 (by first | assumption) (by first | rfl | omega) (by omega) (by decide) (by decide) ?_
      refine (show X _ _ 95 _ _ _ _ _ _ from ?_)
      refine X.val (e3 W) ?_
      refine y_icmp_ge 112 dX7_tryRow_95 (by decide) ⟨by omega, by omega⟩ ⟨by omega, by omega⟩ (fun h2 => ?_) (fun h2 => ?_)
      · rw [if_neg (by omega)]
        exact k3 W _ hh2
      · rw [if_pos h2]
        refine x_aload_n dX7_tryRow_98 rfl ?_
        refine x_gr dX7_tryRow_99 fX7_41 (by first | assumption) (fun _ _ _ => rfl) (by first | assumption) ?_
        refine x_iload_n dX7_tryRow_102 rfl ?_
        refine (show X _ _ 103 _ _ _ _ _ _ from ?_)
        have c := hpy W y (by omega) hk
        rw [pB_inW (by decide) (fun j hj => pB_at hj), pB_sub (by decide), pB_pB] at c
        refine x_callV (As := [_]) (mc := 0) (ms := 0) (z := mX8_passYear) (ci := 8) dX7_tryRow_103 lX7_107 oX8_passYear (by decide) (by first | assumption) rfl rfl (Nat.le_of_ble_eq_true rfl) (Nat.le_of_ble_eq_true rfl) rfl (c) (k_V ?_)
        refine (show X _ _ 106 _ _ _ _ _ _ from ?_)
        refine y_iinc dX7_tryRow_106 rfl (by decide) rfl rfl ?_
        refine x_goto 68 dX7_tryRow_109 (by decide) ?_
        refine (show X _ _ 68 _ _ _ _ _ _ from ?_)
        have e : (y : Int) + 1 = ((y + 1 : Nat) : Int) := by omega
        rw [e]
        exact ih (y + 1) _ (by omega) (passY_ok hA hB hk) (passY_hb hA hh)
  have k1 : ∀ d i W, i + d = m → ROk A W i → HB W i → X g mX7_tryRow 29 [.ref rr, .int (iI (m : Int)), .int (iI (i : Int))] [] (T, iV (pB V rr 14 (pB E 6 5 W)), R, J, z) k n (rI (iI (trA A B E m d i W).1) (T, iV (pB V rr 14 (trA A B E m d i W).2), R, J, z)) := by
    intro d
    induction d with
    | zero =>
      intro i W hi hk hh
      refine x_iload_n dX7_tryRow_29 rfl ?_
      refine x_iload_n dX7_tryRow_30 rfl ?_
      refine (show X _ _ 31 _ _ _ _ _ _ from ?_)
      refine y_icmp_ge 66 dX7_tryRow_31 (by decide) ⟨by omega, by omega⟩ ⟨by omega, by omega⟩ (fun h => ?_) (fun h => ?_)
      · refine x_iload_n dX7_tryRow_66 rfl ?_
        refine x_istore_n dX7_tryRow_67 (by decide) rfl rfl ?_
        refine (show X _ _ 68 _ _ _ _ _ _ from ?_)
        have e : i = m := by omega
        subst e
        exact k2 (fY A - i) i W (by omega) hk hh
      · omega
    | succ d ih =>
      intro i W hi hk hh
      rw [trA]
      refine x_iload_n dX7_tryRow_29 rfl ?_
      refine x_iload_n dX7_tryRow_30 rfl ?_
      refine (show X _ _ 31 _ _ _ _ _ _ from ?_)
      refine y_icmp_ge 66 dX7_tryRow_31 (by decide) ⟨by omega, by omega⟩ ⟨by omega, by omega⟩ (fun h => ?_) (fun h => ?_)
      · omega
      refine x_aload_n dX7_tryRow_34 rfl ?_
      refine x_iload_n dX7_tryRow_35 rfl ?_
      refine (show X _ _ 36 _ _ _ _ _ _ from ?_)
      have c := hmw W i (by omega) (by omega) hk
      rw [e1, pB_pB] at c
      refine x_callV (As := [_]) (mc := 0) (ms := 0) (z := mX7_meetWish) (ci := 7) dX7_tryRow_36 lX7_98 oX7_meetWish (by decide) (by first | assumption) rfl rfl (Nat.le_of_ble_eq_true rfl) (Nat.le_of_ble_eq_true rfl) rfl (c) (k_I ?_)
      refine (show X _ _ 39 _ _ _ _ _ _ from ?_)
      refine y_ifb_eq 58 dX7_tryRow_39 (by decide) (fun h2 => ?_) (fun h2 => ?_)
      · rw [h2, if_neg (by decide), if_neg (by decide)]
        refine x_iload_n dX7_tryRow_58 rfl ?_
        refine (show X _ _ 59 _ _ _ _ _ _ from ?_)
        exact x_ireturn dX7_tryRow_59 rfl ⟨rfl, rfl⟩
      · rw [h2, if_pos rfl, if_pos rfl]
        have hh1 : HB (mwW A B W i (E 1 i)) (i + 1) := mwW_hb hA hh
        have hh2 : 0 ≤ mwW A B W i (E 1 i) 0 8 ∧ mwW A B W i (E 1 i) 0 8 ≤ 30000 := ⟨hh1.1, by have := hh1.2; omega⟩
        have hk1 := mwW_ok (B := B) hA hk (hE i (by omega)).1 h2
        generalize mwW A B W i (E 1 i) = W1 at *
        refine x_aload_n dX7_tryRow_42 rfl ?_
        refine x_gr dX7_tryRow_43 fX7_41 (by first | assumption) (fun _ _ _ => rfl) (by first | assumption) ?_
        refine b_gi (r := rr) (m := 14) (j := 6) dX7_tryRow_46 fX7_101 (by first | assumption) (fun _ _ _ => rfl) (by decide) ?_
        refine (show X _ _ 49 _ _ _ _ _ _ from ?_)
        refine X.val (e6 W1) ?_
        refine x_aload_n dX7_tryRow_49 rfl ?_
        refine x_gr dX7_tryRow_50 fX7_19 (by first | assumption) (fun _ _ _ => rfl) (by first | assumption) ?_
        refine x_iload_n dX7_tryRow_53 rfl ?_
        refine b_iald (r := rr) (m := 14) (j := 3) (m) dX7_tryRow_54 (by first | assumption) (by first | rfl | omega) (by omega) (by decide) (by decide) ?_
        refine (show X _ _ 55 _ _ _ _ _ _ from ?_)
        refine X.val (e3 W1) ?_
        refine y_icmp_lt 60 dX7_tryRow_55 (by decide) ⟨by omega, by omega⟩ ⟨by omega, by omega⟩ (fun h3 => ?_) (fun h3 => ?_)
        · rw [if_pos h3]
          refine y_iinc dX7_tryRow_60 rfl (by decide) rfl rfl ?_
          refine x_goto 29 dX7_tryRow_63 (by decide) ?_
          refine (show X _ _ 29 _ _ _ _ _ _ from ?_)
          have e : (i : Int) + 1 = ((i + 1 : Nat) : Int) := by omega
          rw [e]
          exact ih (i + 1) _ (by omega) hk1 hh1
        · rw [if_neg (by omega)]
          refine x_iload_n dX7_tryRow_58 rfl ?_
          refine (show X _ _ 59 _ _ _ _ _ _ from ?_)
          exact x_ireturn dX7_tryRow_59 rfl ⟨rfl, rfl⟩
  refine x_aload_n dX7_tryRow_0 rfl ?_
  refine x_gr dX7_tryRow_1 fX7_41 (by first | assumption) (fun _ _ _ => rfl) (by first | assumption) ?_
  refine x_aload_n dX7_tryRow_4 rfl ?_
  refine x_gr dX7_tryRow_5 fX7_32 (by first | assumption) (fun _ _ _ => rfl) (by first | assumption) ?_
  refine x_gr dX7_tryRow_8 fX7_82 (by first | assumption) (fun _ _ _ => rfl) (by first | assumption) ?_
  refine b_gio (r := rr) (m := 14) dX7_tryRow_11 fX7_86 (by first | assumption) (fun _ _ _ => rfl) (by omega) ?_
  refine (show X _ _ 14 _ _ _ _ _ _ from ?_)
  refine X.val (b := B 0 0) (hN0 0 (by omega)) ?_
  refine x_aload_n dX7_tryRow_14 rfl ?_
  refine x_gr dX7_tryRow_15 fX7_32 (by first | assumption) (fun _ _ _ => rfl) (by first | assumption) ?_
  refine x_gr dX7_tryRow_18 fX7_82 (by first | assumption) (fun _ _ _ => rfl) (by first | assumption) ?_
  refine b_gio (r := rr) (m := 14) dX7_tryRow_21 fX7_91 (by first | assumption) (fun _ _ _ => rfl) (by omega) ?_
  refine (show X _ _ 24 _ _ _ _ _ _ from ?_)
  refine X.val (b := B 0 1) (hN0 1 (by omega)) ?_
  refine x_callV (As := [_, _]) (mc := 0) (ms := 0) (z := mX8_begin) (ci := 8) dX7_tryRow_24 lX7_94 oX8_begin (by decide) (by first | assumption) rfl rfl (Nat.le_of_ble_eq_true rfl) (Nat.le_of_ble_eq_true rfl) rfl (hbg) (k_V ?_)
  refine (show X _ _ 27 _ _ _ _ _ _ from ?_)
  refine y_iconst dX7_tryRow_27 ?_
  refine x_istore_n dX7_tryRow_28 (by decide) rfl rfl ?_
  refine (show X _ _ 29 _ _ _ _ _ _ from ?_)
  exact k1 m 0 _ (by omega) hok0 hhb0
end C17
