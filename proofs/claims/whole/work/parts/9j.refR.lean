/-! ===== the reference: row, rowAt, chain ===== -/
abbrev ss0 : SS := (-1, (fun _ => 0), false)
def rwS (A B : Nat → Nat → Int) (N : Nat) : SS := trS A B N 0 0 true N 0 (fun _ => -1) ss0
def chF (A B : Nat → Nat → Int) (s p : Nat) : Nat → Bool := fun N => (trS A B N s p false N 0 (fun _ => -1) ss0).2.2
def chA (A B : Nat → Nat → Int) (s p : Nat) : Int := if A 16 s = (p : Int) then 0 else fiC (chF A B s p) 4 1
section Ne
variable {A B : Nat → Nat → Int} {N s p : Nat}
theorem rTo_hb (hA : VA A) {ch : Nat → Int} {rw : Nat} : ∀ i, HB (rTo A B rw ch (wB A B) i) i
  | 0 => rBeg_hb
  | i + 1 => by
    have ih := rTo_hb (rw := rw) (ch := ch) hA i
    show HB (stp A B rw ch (rTo A B rw ch (wB A B) i) i) (i + 1)
    unfold stp
    split
    · exact mwW_hb hA ih
    · exact passY_hb hA ih
/-- by the harm: something is found, nothing is called found -/
theorem trS_ne (hA : VA A) : ∀ (d y : Nat) (ch : Nat → Int) (σ : SS), σ.2.2 = false → (trS A B N s p true d y ch σ).1 ≠ -1 ∧ (trS A B N s p true d y ch σ).2.2 = false
  | 0, y, ch, σ, hf => by
    show (lfS A B N s p true ch σ).1 ≠ -1 ∧ (lfS A B N s p true ch σ).2.2 = false
    unfold lfS lfR
    rw [if_pos rfl]
    have := (rTo_hb (B := B) (rw := N) (ch := ch) hA (fY A)).1
    split
    · refine ⟨?_, hf⟩
      show rTo A B N ch (wB A B) (fY A) 0 8 ≠ -1
      omega
    · rename_i h
      exact ⟨fun c => h (Or.inl c), hf⟩
  | d + 1, y, ch, σ, hf => by
    rw [trS]
    split
    · rename_i hop
      have hne : rCn A B (wt A B ch (wB A B) y) y ≠ 0 := fun c => by rw [comes_n (Or.inr c)] at hop; cases hop
      have hex : ∃ q, q < fP A ∧ (rCn A B (wt A B ch (wB A B) y) y).testBit q = true := by
        refine Classical.byContradiction fun c => hne ?_
        apply Nat.eq_of_testBit_eq
        intro i
        rw [Nat.zero_testBit]
        cases hb : (rCn A B (wt A B ch (wB A B) y) y).testBit i
        · rfl
        · exact absurd ⟨i, rCn_bit hb, hb⟩ c
      have key : ∀ c, (lp c (fun q σ => if σ.2.2 then σ else if (rCn A B (wt A B ch (wB A B) y) y).testBit q then trS A B N s p true d (y + 1) (u1 ch y (q : Int)) σ else σ) σ).2.2 = false ∧ ((∃ q, q < c ∧ (rCn A B (wt A B ch (wB A B) y) y).testBit q = true) → (lp c (fun q σ => if σ.2.2 then σ else if (rCn A B (wt A B ch (wB A B) y) y).testBit q then trS A B N s p true d (y + 1) (u1 ch y (q : Int)) σ else σ) σ).1 ≠ -1) := by
        intro c
        induction c with
        | zero => exact ⟨hf, fun ⟨q, hq, _⟩ => absurd hq (by omega)⟩
        | succ c ih =>
          rw [lp_s]
          generalize lp c (fun q σ => if σ.2.2 then σ else if (rCn A B (wt A B ch (wB A B) y) y).testBit q then trS A B N s p true d (y + 1) (u1 ch y (q : Int)) σ else σ) σ = σ1 at *
          rw [if_neg (by rw [ih.1]; decide)]
          cases hb : (rCn A B (wt A B ch (wB A B) y) y).testBit c
          · rw [if_neg (by decide)]
            refine ⟨ih.1, fun ⟨q, hq, ht⟩ => ih.2 ⟨q, ?_, ht⟩⟩
            by_cases e : q = c
            · rw [e, hb] at ht; cases ht
            · omega
          · rw [if_pos rfl]
            have := trS_ne hA d (y + 1) (u1 ch y (c : Int)) σ1 ih.1
            exact ⟨this.2, fun _ => this.1⟩
      exact ⟨(key (fP A)).2 hex, (key (fP A)).1⟩
    · exact trS_ne hA d (y + 1) (u1 ch y 10) σ hf
end Ne
section C9j
variable {g : GG} {T : Nat → Nat × Nat} {V E A B : Nat → Nat → Int} {R : Nat → Nat → Option Nat} {J : Nat → Nat → Int64} {z k n : Nat} {r f : Nat} {t : Nat → Int} {tp : Nat} {h : Bool} {a m : Nat} {H K : Nat → Nat → Nat → Int} {wr pl tr : Int}
theorem k_refusesRow {x : Int} (hI : DI T R V r f E t tp h A B a m H K wr pl tr) (hx : R32 x) : X g mX12_refusesRow 0 [.ref r, .int (iI x)] [] (T, iV (pB V r 24 E), R, J, z) k n (rI (iI (rTr h x)) (T, iV (pB V r 24 E), R, J, z)) := by
  obtain ⟨hM, -, -, -, -, d1, d2⟩ := hI
  have hin := c_in (g := g) (k := 0) (n := 0) (x := x) (lo := 1) (hi := 4) (M := (T, iV (pB V r 24 E), R, J, z)) hx ⟨by decide, by decide⟩ ⟨by decide, by decide⟩
  unfold rTr
  cases h
  · have hn := (d1 rfl).1
    rw [if_neg (by decide)]
    obtain ⟨m0, -, -⟩ := id hM
    refine x_aload_n dX12_refusesRow_0 rfl ?_
    refine (show X _ _ 1 _ _ _ _ _ _ from ?_)
    refine x_gn dX12_refusesRow_1 fX12_409 (by first | assumption) (fun _ _ _ => rfl) (by first | assumption) ?_
    refine (show X _ _ 4 _ _ _ _ _ _ from ?_)
    refine x_ifnonnull_n dX12_refusesRow_4 ?_
    refine (show X _ _ 7 _ _ _ _ _ _ from ?_)
    refine y_iconst dX12_refusesRow_7 ?_
    refine x_goto 25 dX12_refusesRow_8 (by decide) ?_
    refine (show X _ _ 25 _ _ _ _ _ _ from ?_)
    exact x_ireturn dX12_refusesRow_25 rfl ⟨rfl, rfl⟩
  · obtain ⟨⟨hf, -⟩, -⟩ := d2 rfl
    rw [if_pos rfl]
    obtain ⟨m0, -, -⟩ := id hM
    refine x_aload_n dX12_refusesRow_0 rfl ?_
    refine x_gr dX12_refusesRow_1 fX12_409 (by first | assumption) (fun _ _ _ => rfl) (by first | assumption) ?_
    refine (show X _ _ 4 _ _ _ _ _ _ from ?_)
    refine x_ifnonnull_r 11 dX12_refusesRow_4 (by decide) ?_
    refine (show X _ _ 11 _ _ _ _ _ _ from ?_)
    refine x_iload_n dX12_refusesRow_11 rfl ?_
    refine y_iconst dX12_refusesRow_12 ?_
    refine y_iconst dX12_refusesRow_13 ?_
    refine (show X _ _ 14 _ _ _ _ _ _ from ?_)
    refine x_callS (As := [_, _, _]) (mc := 0) (ms := 0) (z := mX12_in) dX12_refusesRow_14 lX12_160 oX12_in (by decide) rfl (Nat.le_of_ble_eq_true rfl) (Nat.le_of_ble_eq_true rfl) rfl (hin) (k_I ?_)
    refine (show X _ _ 17 _ _ _ _ _ _ from ?_)
    refine y_ifb_eq 24 dX12_refusesRow_17 (by decide) (fun c => ?_) (fun c => ?_)
    · have := of_decide_eq_false c
      rw [if_pos (by omega)]
      refine y_iconst dX12_refusesRow_24 ?_
      refine (show X _ _ 25 _ _ _ _ _ _ from ?_)
      exact x_ireturn dX12_refusesRow_25 rfl ⟨rfl, rfl⟩
    · have := of_decide_eq_true c
      rw [if_neg (by omega)]
      refine y_iconst dX12_refusesRow_20 ?_
      refine x_goto 25 dX12_refusesRow_21 (by decide) ?_
      refine (show X _ _ 25 _ _ _ _ _ _ from ?_)
      exact x_ireturn dX12_refusesRow_25 rfl ⟨rfl, rfl⟩
theorem k_row {x : Int} (hI : DI T R V r f E t tp h A B a m H K wr pl tr) (hx : R32 x) : X g mX12_row 0 [.ref r, .int (iI x), jk] [] (T, iV (pB V r 24 E), R, J, z) k n (DQ T R J z V r f (some (.int (iI (if rTr h x = 0 then (rwS A B x.toNat).1 else -1)))) t tp h A B a m H K wr pl (rTr h x)) := by
  have hM := hI.1
  have hI1 := DI_sc hI (Sc_th hI 0)
  have hrm := k_refusesRow (g := g) (J := J) (z := z) (k := 0) (n := 0) (x := x) hI1 hx
  have hs3 : 0 ≤ rTr h x ∧ rTr h x ≤ 2 := by unfold rTr; split <;> (try split) <;> omega
  obtain ⟨m0, -, -⟩ := id hM
  refine x_aload_n dX12_row_0 rfl ?_
  refine y_iconst dX12_row_1 ?_
  refine b_pi0 (r := r) (m := 24) dX12_row_2 (pX12_85 _) (by first | assumption) (fun _ _ _ => rfl) rfl rfl (by decide) ?_
  refine x_aload_n dX12_row_5 rfl ?_
  refine x_iload_n dX12_row_6 rfl ?_
  refine (show X _ _ 7 _ _ _ _ _ _ from ?_)
  refine x_callV (As := [_]) (mc := 0) (ms := 0) (z := mX12_refusesRow) (ci := 12) dX12_row_7 lX12_559 oX12_refusesRow (by decide) (by first | assumption) rfl rfl (Nat.le_of_ble_eq_true rfl) (Nat.le_of_ble_eq_true rfl) rfl (hrm) (k_I ?_)
  refine (show X _ _ 10 _ _ _ _ _ _ from ?_)
  refine x_istore_n dX12_row_10 (by decide) rfl rfl ?_
  refine x_iload_n dX12_row_11 rfl ?_
  refine (show X _ _ 12 _ _ _ _ _ _ from ?_)
  refine y_if_le 21 dX12_row_12 (by decide) ⟨by omega, by omega⟩ (fun c => ?_) (fun c => ?_)
  rotate_left
  · have hrf := k_refused (g := g) (V := V) (E := u2 E 0 0 0) (J := J) (z := z) (k := 0) (n := 0) (x := rTr h x) hM
    rw [if_neg (by omega)]
    refine x_aload_n dX12_row_15 rfl ?_
    refine x_iload_n dX12_row_16 rfl ?_
    refine (show X _ _ 17 _ _ _ _ _ _ from ?_)
    refine x_callV (As := [_]) (mc := 0) (ms := 0) (z := mX12_refused) (ci := 12) dX12_row_17 lX12_91 oX12_refused (by decide) (by first | assumption) rfl rfl (Nat.le_of_ble_eq_true rfl) (Nat.le_of_ble_eq_true rfl) rfl (hrf) (k_I ?_)
    refine (show X _ _ 20 _ _ _ _ _ _ from ?_)
    exact x_ireturn dX12_row_20 rfl (DQ_tr hI1 _ (by omega) _)
  have e : rTr h x = 0 := by omega
  rw [if_pos e, e]
  obtain ⟨rfl, e2, e3⟩ := rTr_0 e
  have htr := k_tries (g := g) (J := J) (z := z) (k := 0) (n := 0) (N := x.toNat) (s := 0) (p := 0) (bh := true) hI1 (by omega) (fun c => by cases c)
  rw [show ((x.toNat : Nat) : Int) = x by omega] at htr
  refine x_aload_n dX12_row_21 rfl ?_
  refine x_iload_n dX12_row_22 rfl ?_
  refine y_iconst dX12_row_23 ?_
  refine (show X _ _ 24 _ _ _ _ _ _ from ?_)
  refine X.val (b := bI true) rfl ?_
  refine x_callV (As := [_, _]) (mc := 0) (ms := 0) (z := mX12_tries) (ci := 12) dX12_row_24 lX12_562 oX12_tries (by decide) (by first | assumption) rfl rfl (Nat.le_of_ble_eq_true rfl) (Nat.le_of_ble_eq_true rfl) rfl (htr) (fun v M1 hq => ?_)
  obtain ⟨rfl, E', rfl, hq, -, hS⟩ := hq
  refine (show X _ _ 27 _ [] _ _ _ _ from ?_)
  have hgo := k_good (g := g) (V := V) (E := E') (J := J) (z := z) (k := 0) (n := 0) (x := (rwS A B x.toNat).1) hM
  refine x_aload_n dX12_row_27 rfl ?_
  refine x_aload_n dX12_row_28 rfl ?_
  refine b_gi0 (r := r) (m := 24) dX12_row_29 fX12_539 (by first | assumption) (fun _ _ _ => rfl) (by decide) ?_
  refine (show X _ _ 32 _ _ _ _ _ _ from ?_)
  refine X.val (b := (rwS A B x.toNat).1) hS.1 ?_
  refine x_callV (As := [_]) (mc := 0) (ms := 0) (z := mX12_good) (ci := 12) dX12_row_32 lX12_95 oX12_good (by decide) (by first | assumption) rfl rfl (Nat.le_of_ble_eq_true rfl) (Nat.le_of_ble_eq_true rfl) rfl (hgo) (k_I ?_)
  refine (show X _ _ 35 _ _ _ _ _ _ from ?_)
  exact x_ireturn dX12_row_35 rfl (DQ_tr (DI_sc hI1 hq) 0 (by decide) _)
theorem k_rowAt0 {x i : Int} (hI : DI T R V r f E t tp h A B a m H K wr pl tr) (hx : R32 x) (hi : R32 i) (hb : ¬ (rTr h x = 0 ∧ 0 ≤ i ∧ i < x)) : X g mX12_rowAt 0 [.ref r, .int (iI x), .int (iI i), jk] [] (T, iV (pB V r 24 E), R, J, z) k n (DQ T R J z V r f (some (.int (iI (-1)))) t tp h A B a m H K wr pl (if rTr h x = 0 then 1 else rTr h x)) := by
  have hM := hI.1
  have hI1 := DI_sc hI (Sc_th hI 0)
  have hrm := k_refusesRow (g := g) (J := J) (z := z) (k := 0) (n := 0) (x := x) hI1 hx
  have hs3 : 0 ≤ rTr h x ∧ rTr h x ≤ 2 := by unfold rTr; split <;> (try split) <;> omega
  have hrf := fun x => k_refused (g := g) (V := V) (E := u2 E 0 0 0) (J := J) (z := z) (k := 0) (n := 0) (x := x) hM
  obtain ⟨x1, x2⟩ := hx
  obtain ⟨i1, i2⟩ := hi
  obtain ⟨m0, ⟨-, -, -, -, -, -, -, -, -, -, -, -, -, -, -, -, -, -, -, -, -, -, m47⟩, ⟨-, -, -, -, -, -, -, -, -, -, -, -, -, -, -, -, -, -, -, -, -, -, mk23⟩⟩ := id hM
  refine x_aload_n dX12_rowAt_0 rfl ?_
  refine y_iconst dX12_rowAt_1 ?_
  refine b_pi0 (r := r) (m := 24) dX12_rowAt_2 (pX12_85 _) (by first | assumption) (fun _ _ _ => rfl) rfl rfl (by decide) ?_
  refine x_aload_n dX12_rowAt_5 rfl ?_
  refine x_iload_n dX12_rowAt_6 rfl ?_
  refine (show X _ _ 7 _ _ _ _ _ _ from ?_)
  refine x_callV (As := [_]) (mc := 0) (ms := 0) (z := mX12_refusesRow) (ci := 12) dX12_rowAt_7 lX12_559 oX12_refusesRow (by decide) (by first | assumption) rfl rfl (Nat.le_of_ble_eq_true rfl) (Nat.le_of_ble_eq_true rfl) rfl (hrm) (k_I ?_)
  refine (show X _ _ 10 _ _ _ _ _ _ from ?_)
  refine x_istore_n dX12_rowAt_10 (by decide) rfl rfl ?_
  refine x_iload_n dX12_rowAt_11 rfl ?_
  refine (show X _ _ 12 _ _ _ _ _ _ from ?_)
  refine y_if_le 21 dX12_rowAt_12 (by decide) ⟨by omega, by omega⟩ (fun c => ?_) (fun c => ?_)
  rotate_left
  · rw [if_neg (by omega)]
    refine x_aload_n dX12_rowAt_15 rfl ?_
    refine x_iload_n dX12_rowAt_16 rfl ?_
    refine (show X _ _ 17 _ _ _ _ _ _ from ?_)
    refine x_callV (As := [_]) (mc := 0) (ms := 0) (z := mX12_refused) (ci := 12) dX12_rowAt_17 lX12_91 oX12_refused (by decide) (by first | assumption) rfl rfl (Nat.le_of_ble_eq_true rfl) (Nat.le_of_ble_eq_true rfl) rfl (hrf _) (k_I ?_)
    refine (show X _ _ 20 _ _ _ _ _ _ from ?_)
    exact x_ireturn dX12_rowAt_20 rfl (DQ_tr hI1 _ (by omega) _)
  have e : rTr h x = 0 := by omega
  rw [if_pos e]
  have t1 : X g mX12_rowAt 30 [.ref r, .int (iI x), .int (iI i), .int (iI (rTr h x))] [] (T, iV (pB V r 24 (u2 E 0 0 0)), R, J, z) k n (DQ T R J z V r f (some (.int (iI (-1)))) t tp h A B a m H K wr pl 1) := by
    refine x_aload_n dX12_rowAt_30 rfl ?_
    refine y_iconst dX12_rowAt_31 ?_
    refine (show X _ _ 32 _ _ _ _ _ _ from ?_)
    refine x_callV (As := [_]) (mc := 0) (ms := 0) (z := mX12_refused) (ci := 12) dX12_rowAt_32 lX12_91 oX12_refused (by decide) (by first | assumption) rfl rfl (Nat.le_of_ble_eq_true rfl) (Nat.le_of_ble_eq_true rfl) rfl (hrf _) (k_I ?_)
    refine (show X _ _ 35 _ _ _ _ _ _ from ?_)
    exact x_ireturn dX12_rowAt_35 rfl (DQ_tr hI1 1 (by decide) _)
  refine x_iload_n dX12_rowAt_21 rfl ?_
  refine (show X _ _ 22 _ _ _ _ _ _ from ?_)
  refine y_if_lt 30 dX12_rowAt_22 (by decide) ⟨by omega, by omega⟩ (fun c1 => ?_) (fun c1 => ?_)
  · exact t1
  refine x_iload_n dX12_rowAt_25 rfl ?_
  refine x_iload_n dX12_rowAt_26 rfl ?_
  refine (show X _ _ 27 _ _ _ _ _ _ from ?_)
  refine y_icmp_lt 36 dX12_rowAt_27 (by decide) ⟨by omega, by omega⟩ ⟨by omega, by omega⟩ (fun c2 => ?_) (fun c2 => ?_)
  · exact absurd ⟨e, c1, c2⟩ hb
  · exact t1
theorem k_rowAt {x i : Int} (hI : DI T R V r f E t tp h A B a m H K wr pl tr) (hx : R32 x) (e : rTr h x = 0) (hi : 0 ≤ i ∧ i < x) : X g mX12_rowAt 0 [.ref r, .int (iI x), .int (iI i), jk] [] (T, iV (pB V r 24 E), R, J, z) k n (DQ T R J z V r f (some (.int (iI ((rwS A B x.toNat).2.1 i.toNat)))) t tp h A B a m H K wr pl 0) := by
  have hM := hI.1
  have hI1 := DI_sc hI (Sc_th hI 0)
  have hrm := k_refusesRow (g := g) (J := J) (z := z) (k := 0) (n := 0) (x := x) hI1 hx
  rw [e] at hrm
  obtain ⟨rfl, e2, e3⟩ := rTr_0 e
  have htr := k_tries (g := g) (J := J) (z := z) (k := 0) (n := 0) (N := x.toNat) (s := 0) (p := 0) (bh := true) hI1 (by omega) (fun c => by cases c)
  rw [show ((x.toNat : Nat) : Int) = x by omega] at htr
  have hA := (hI.2.2.2.2.2.2 rfl).2.1.1
  have hne := (trS_ne (B := B) (N := x.toNat) (s := 0) (p := 0) hA x.toNat 0 (fun _ => -1) ss0 rfl).1
  obtain ⟨m0, ⟨-, -, -, -, -, -, -, -, -, -, -, -, -, -, -, -, -, -, -, -, -, -, m47⟩, ⟨-, -, -, -, -, -, -, -, -, -, -, -, -, -, -, -, -, -, -, -, -, -, mk23⟩⟩ := id hM
  refine x_aload_n dX12_rowAt_0 rfl ?_
  refine y_iconst dX12_rowAt_1 ?_
  refine b_pi0 (r := r) (m := 24) dX12_rowAt_2 (pX12_85 _) (by first | assumption) (fun _ _ _ => rfl) rfl rfl (by decide) ?_
  refine x_aload_n dX12_rowAt_5 rfl ?_
  refine x_iload_n dX12_rowAt_6 rfl ?_
  refine (show X _ _ 7 _ _ _ _ _ _ from ?_)
  refine x_callV (As := [_]) (mc := 0) (ms := 0) (z := mX12_refusesRow) (ci := 12) dX12_rowAt_7 lX12_559 oX12_refusesRow (by decide) (by first | assumption) rfl rfl (Nat.le_of_ble_eq_true rfl) (Nat.le_of_ble_eq_true rfl) rfl (hrm) (k_I ?_)
  refine (show X _ _ 10 _ _ _ _ _ _ from ?_)
  refine x_istore_n dX12_rowAt_10 (by decide) rfl rfl ?_
  refine x_iload_n dX12_rowAt_11 rfl ?_
  refine (show X _ _ 12 _ _ _ _ _ _ from ?_)
  refine y_if_le 21 dX12_rowAt_12 (by decide) ⟨by omega, by omega⟩ (fun c => ?_) (fun c => ?_)
  rotate_left
  · exact absurd c (by decide)
  refine x_iload_n dX12_rowAt_21 rfl ?_
  refine (show X _ _ 22 _ _ _ _ _ _ from ?_)
  refine y_if_lt 30 dX12_rowAt_22 (by decide) ⟨by omega, by omega⟩ (fun c1 => ?_) (fun c1 => ?_)
  · omega
  refine x_iload_n dX12_rowAt_25 rfl ?_
  refine x_iload_n dX12_rowAt_26 rfl ?_
  refine (show X _ _ 27 _ _ _ _ _ _ from ?_)
  refine y_icmp_lt 36 dX12_rowAt_27 (by decide) ⟨by omega, by omega⟩ ⟨by omega, by omega⟩ (fun c2 => ?_) (fun c2 => ?_)
  rotate_left
  · omega
  refine x_aload_n dX12_rowAt_36 rfl ?_
  refine x_iload_n dX12_rowAt_37 rfl ?_
  refine y_iconst dX12_rowAt_38 ?_
  refine (show X _ _ 39 _ _ _ _ _ _ from ?_)
  refine X.val (b := bI true) rfl ?_
  refine x_callV (As := [_, _]) (mc := 0) (ms := 0) (z := mX12_tries) (ci := 12) dX12_rowAt_39 lX12_562 oX12_tries (by decide) (by first | assumption) rfl rfl (Nat.le_of_ble_eq_true rfl) (Nat.le_of_ble_eq_true rfl) rfl (htr) (fun v M1 hq => ?_)
  obtain ⟨rfl, E', rfl, hq, -, hS⟩ := hq
  refine (show X _ _ 42 _ [] _ _ _ _ from ?_)
  have hgo := k_good (g := g) (V := V) (E := E') (J := J) (z := z) (k := 0) (n := 0) (x := (rwS A B x.toNat).2.1 i.toNat) hM
  refine x_aload_n dX12_rowAt_42 rfl ?_
  refine x_aload_n dX12_rowAt_43 rfl ?_
  refine x_gr dX12_rowAt_44 fX12_82 (by first | assumption) (fun _ _ _ => rfl) (by first | assumption) ?_
  refine x_iload_n dX12_rowAt_47 rfl ?_
  refine b_iald (r := r) (m := 24) (j := 23) (i.toNat) dX12_rowAt_48 (by first | assumption) (by first | rfl | omega) (by omega) (by decide) (by decide) ?_
  refine (show X _ _ 49 _ _ _ _ _ _ from ?_)
  refine X.val (b := (rwS A B x.toNat).2.1 i.toNat) (hS.2.2.1 hne i.toNat (by omega)) ?_
  refine x_callV (As := [_]) (mc := 0) (ms := 0) (z := mX12_good) (ci := 12) dX12_rowAt_49 lX12_95 oX12_good (by decide) (by first | assumption) rfl rfl (Nat.le_of_ble_eq_true rfl) (Nat.le_of_ble_eq_true rfl) rfl (hgo) (k_I ?_)
  refine (show X _ _ 52 _ _ _ _ _ _ from ?_)
  exact x_ireturn dX12_rowAt_52 rfl (DQ_tr (DI_sc hI1 hq) 0 (by decide) _)
theorem k_chain0 {s p : Int} (hI : DI T R V r f E t tp h A B a m H K wr pl tr) (hs : R32 s) (hp : R32 p) (hb : ¬ (noS h A s = false ∧ noP h A p = false)) : X g mX12_chain 0 [.ref r, .int (iI s), .int (iI p), jk] [] (T, iV (pB V r 24 E), R, J, z) k n (DQ T R J z V r f (some (.int (iI (-1)))) t tp h A B a m H K wr pl 1) := by
  have hM := hI.1
  have hI1 := DI_sc hI (Sc_th hI 0)
  have his := k_isSecret (g := g) (J := J) (z := z) (k := 0) (n := 0) (p := s) hI1 hs
  have hip := k_isPerson (g := g) (J := J) (z := z) (k := 0) (n := 0) (p := p) hI1 hp
  have hrf := k_refused (g := g) (V := V) (E := u2 E 0 0 0) (J := J) (z := z) (k := 0) (n := 0) (x := 1) hM
  obtain ⟨m0, -, -⟩ := id hM
  have t1 : X g mX12_chain 21 [.ref r, .int (iI s), .int (iI p), jk] [] (T, iV (pB V r 24 (u2 E 0 0 0)), R, J, z) k n (DQ T R J z V r f (some (.int (iI (-1)))) t tp h A B a m H K wr pl 1) := by
    refine x_aload_n dX12_chain_21 rfl ?_
    refine y_iconst dX12_chain_22 ?_
    refine (show X _ _ 23 _ _ _ _ _ _ from ?_)
    refine x_callV (As := [_]) (mc := 0) (ms := 0) (z := mX12_refused) (ci := 12) dX12_chain_23 lX12_91 oX12_refused (by decide) (by first | assumption) rfl rfl (Nat.le_of_ble_eq_true rfl) (Nat.le_of_ble_eq_true rfl) rfl (hrf) (k_I ?_)
    refine (show X _ _ 26 _ _ _ _ _ _ from ?_)
    exact x_ireturn dX12_chain_26 rfl (DQ_tr hI1 1 (by decide) _)
  refine x_aload_n dX12_chain_0 rfl ?_
  refine y_iconst dX12_chain_1 ?_
  refine b_pi0 (r := r) (m := 24) dX12_chain_2 (pX12_85 _) (by first | assumption) (fun _ _ _ => rfl) rfl rfl (by decide) ?_
  refine x_aload_n dX12_chain_5 rfl ?_
  refine x_iload_n dX12_chain_6 rfl ?_
  refine (show X _ _ 7 _ _ _ _ _ _ from ?_)
  refine x_callV (As := [_]) (mc := 0) (ms := 0) (z := mX12_isSecretNumber) (ci := 12) dX12_chain_7 lX12_516 oX12_isSecretNumber (by decide) (by first | assumption) rfl rfl (Nat.le_of_ble_eq_true rfl) (Nat.le_of_ble_eq_true rfl) rfl (his) (k_I ?_)
  refine (show X _ _ 10 _ _ _ _ _ _ from ?_)
  refine y_ifb_eq 21 dX12_chain_10 (by decide) (fun c1 => ?_) (fun c1 => ?_)
  · exact t1
  refine x_aload_n dX12_chain_13 rfl ?_
  refine x_iload_n dX12_chain_14 rfl ?_
  refine (show X _ _ 15 _ _ _ _ _ _ from ?_)
  refine x_callV (As := [_]) (mc := 0) (ms := 0) (z := mX12_isPerson) (ci := 12) dX12_chain_15 lX12_513 oX12_isPerson (by decide) (by first | assumption) rfl rfl (Nat.le_of_ble_eq_true rfl) (Nat.le_of_ble_eq_true rfl) rfl (hip) (k_I ?_)
  refine (show X _ _ 18 _ _ _ _ _ _ from ?_)
  refine y_ifb_ne 27 dX12_chain_18 (by decide) (fun c2 => ?_) (fun c2 => ?_)
  · exact absurd ⟨(by cases hc : noS h A s; rfl; rw [hc] at c1; cases c1), (by cases hc : noP h A p; rfl; rw [hc] at c2; cases c2)⟩ hb
  · exact t1
theorem k_chain {s p : Int} (hI : DI T R V r f E t tp h A B a m H K wr pl tr) (hs : R32 s) (hp : R32 p) (b1 : noS h A s = false) (b2 : noP h A p = false) : X g mX12_chain 0 [.ref r, .int (iI s), .int (iI p), jk] [] (T, iV (pB V r 24 E), R, J, z) k n (DQ T R J z V r f (some (.int (iI (chA A B s.toNat p.toNat)))) t tp h A B a m H K wr pl 0) := by
  have hM := hI.1
  have hI1 := DI_sc hI (Sc_th hI 0)
  have his := k_isSecret (g := g) (J := J) (z := z) (k := 0) (n := 0) (p := s) hI1 hs
  have hip := k_isPerson (g := g) (J := J) (z := z) (k := 0) (n := 0) (p := p) hI1 hp
  rw [b1] at his
  rw [b2] at hip
  obtain ⟨rfl, s1, s2⟩ := noS_f b1
  obtain ⟨-, p1, p2⟩ := noP_f b2
  obtain ⟨⟨hf, hG, hF, hap⟩, ⟨hA, hB, -⟩, -⟩ := hI.2.2.2.2.2.2 rfl
  have eS := fS8 hA
  have eP := fP10 hA
  have hA16 := hA.2.2.2.2.2.2.2.2.2.2.2.2.1 s.toNat (by omega)
  have v16 := hF.2.2.2.2.1 s.toNat (by omega)
  have ep : ((p.toNat : Nat) : Int) = p := by omega
  have es : ((s.toNat : Nat) : Int) = s := by omega
  unfold chA
  rw [ep]
  obtain ⟨m0, -, -⟩ := id hM
  obtain ⟨g0, ⟨-, -, -, -, -, -, -, -, -, -, -, -, -, -, -, g25, -, -, -, -, -, -, -⟩, ⟨-, -, -, -, -, -, -, -, -, -, -, -, -, -, -, gk16, -, -, -, -, -, -, -⟩⟩ := id hG
  unfold apF at hap
  refine x_aload_n dX12_chain_0 rfl ?_
  refine y_iconst dX12_chain_1 ?_
  refine b_pi0 (r := r) (m := 24) dX12_chain_2 (pX12_85 _) (by first | assumption) (fun _ _ _ => rfl) rfl rfl (by decide) ?_
  refine x_aload_n dX12_chain_5 rfl ?_
  refine x_iload_n dX12_chain_6 rfl ?_
  refine (show X _ _ 7 _ _ _ _ _ _ from ?_)
  refine x_callV (As := [_]) (mc := 0) (ms := 0) (z := mX12_isSecretNumber) (ci := 12) dX12_chain_7 lX12_516 oX12_isSecretNumber (by decide) (by first | assumption) rfl rfl (Nat.le_of_ble_eq_true rfl) (Nat.le_of_ble_eq_true rfl) rfl (his) (k_I ?_)
  refine (show X _ _ 10 _ _ _ _ _ _ from ?_)
  refine y_ifb_eq 21 dX12_chain_10 (by decide) (fun c1 => ?_) (fun c1 => ?_)
  · cases c1
  refine x_aload_n dX12_chain_13 rfl ?_
  refine x_iload_n dX12_chain_14 rfl ?_
  refine (show X _ _ 15 _ _ _ _ _ _ from ?_)
  refine x_callV (As := [_]) (mc := 0) (ms := 0) (z := mX12_isPerson) (ci := 12) dX12_chain_15 lX12_513 oX12_isPerson (by decide) (by first | assumption) rfl rfl (Nat.le_of_ble_eq_true rfl) (Nat.le_of_ble_eq_true rfl) rfl (hip) (k_I ?_)
  refine (show X _ _ 18 _ _ _ _ _ _ from ?_)
  refine y_ifb_ne 27 dX12_chain_18 (by decide) (fun c2 => ?_) (fun c2 => ?_)
  rotate_left
  · cases c2
  refine x_aload_n dX12_chain_27 rfl ?_
  refine x_gr dX12_chain_28 fX12_409 (by first | assumption) (fun _ _ _ => rfl) (by first | assumption) ?_
  refine x_gr dX12_chain_31 fX12_378 (by first | assumption) (fun _ _ _ => rfl) (by first | assumption) ?_
  refine x_iload_n dX12_chain_34 rfl ?_
  refine b_ialo (r := r) (m := 24) (s.toNat) dX12_chain_35 (by first | assumption) (by first | rfl | omega) (by omega) (by decide) (by omega) ?_
  refine (show X _ _ 36 _ _ _ _ _ _ from ?_)
  refine X.val v16 ?_
  refine x_iload_n dX12_chain_36 rfl ?_
  refine (show X _ _ 37 _ _ _ _ _ _ from ?_)
  refine y_icmp_ne 46 dX12_chain_37 (by decide) ⟨by omega, by omega⟩ ⟨by omega, by omega⟩ (fun c3 => ?_) (fun c3 => ?_)
  rotate_left
  · rw [if_pos c3]
    have hgo := k_good (g := g) (V := V) (E := u2 E 0 0 0) (J := J) (z := z) (k := 0) (n := 0) (x := 0) hM
    refine x_aload_n dX12_chain_40 rfl ?_
    refine y_iconst dX12_chain_41 ?_
    refine (show X _ _ 42 _ _ _ _ _ _ from ?_)
    refine x_callV (As := [_]) (mc := 0) (ms := 0) (z := mX12_good) (ci := 12) dX12_chain_42 lX12_95 oX12_good (by decide) (by first | assumption) rfl rfl (Nat.le_of_ble_eq_true rfl) (Nat.le_of_ble_eq_true rfl) rfl (hgo) (k_I ?_)
    refine (show X _ _ 45 _ _ _ _ _ _ from ?_)
    exact x_ireturn dX12_chain_45 rfl (DQ_tr hI1 0 (by decide) _)
  rw [if_neg c3]
  refine x_aload_n dX12_chain_46 rfl ?_
  refine x_iload_n dX12_chain_47 rfl ?_
  refine b_pi0 (r := r) (m := 24) dX12_chain_48 (pX12_556 _) (by first | assumption) (fun _ _ _ => rfl) rfl rfl (by decide) ?_
  refine x_aload_n dX12_chain_51 rfl ?_
  refine x_iload_n dX12_chain_52 rfl ?_
  refine b_pi0 (r := r) (m := 24) dX12_chain_53 (pX12_553 _) (by first | assumption) (fun _ _ _ => rfl) rfl rfl (by decide) ?_
  refine y_iconst dX12_chain_56 ?_
  refine x_istore_n dX12_chain_57 (by decide) rfl rfl ?_
  refine (show X _ _ 58 _ _ _ _ _ _ from ?_)
  have h43 := hI1.2.2.2.2.1
  have hsc0 : Sc (u2 E 0 0 0) (u2 (u2 (u2 E 0 0 0) 0 49 s) 0 50 p) := ⟨fun b hb => by rw [u2_n (by omega), u2_n (by omega)], fun c hc => by rw [u2_s, u1_n (by omega), u2_s, u1_n (by omega)], by rw [u2_s, u1_n (by decide), u2_s, u1_n (by decide)]; exact h43⟩
  have h49 : u2 (u2 (u2 E 0 0 0) 0 49 s) 0 50 p 0 49 = s := by rw [u2_s, u1_n (by decide), u2_s, u1_s]
  have h50 : u2 (u2 (u2 E 0 0 0) 0 49 s) 0 50 p 0 50 = p := by rw [u2_s, u1_s]
  generalize u2 (u2 (u2 E 0 0 0) 0 49 s) 0 50 p = E1 at *
  refine loopN (P := fun i => ∀ E2, Sc (u2 E 0 0 0) E2 → E2 0 49 = s → E2 0 50 = p → fiC (chF A B s.toNat p.toNat) 4 1 = fiC (chF A B s.toNat p.toNat) (4 - i) (i + 1) → X g mX12_chain 58 [.ref r, .int (iI s), .int (iI p), .int (iI ((i : Int) + 1))] [] (T, iV (pB V r 24 E2), R, J, z) k n (DQ T R J z V r f (some (.int (iI (fiC (chF A B s.toNat p.toNat) 4 1)))) t tp true A B a m H K wr pl 0)) 4 ?_ (fun i hi ih => ?_) E1 hsc0 h49 h50 rfl
  · intro E2 w1 w2 w3 he
    have hgo := k_good (g := g) (V := V) (E := E2) (J := J) (z := z) (k := 0) (n := 0) (x := -2) hM
    rw [he]
    refine x_iload_n dX12_chain_58 rfl ?_
    refine y_iconst dX12_chain_59 ?_
    refine (show X _ _ 60 _ _ _ _ _ _ from ?_)
    refine y_icmp_gt 88 dX12_chain_60 (by decide) ⟨by omega, by omega⟩ ⟨by omega, by omega⟩ (fun g1 => ?_) (fun g1 => ?_)
    rotate_left
    · omega
    refine x_aload_n dX12_chain_88 rfl ?_
    refine y_bipush dX12_chain_89 rfl ?_
    refine (show X _ _ 91 _ _ _ _ _ _ from ?_)
    refine x_callV (As := [_]) (mc := 0) (ms := 0) (z := mX12_good) (ci := 12) dX12_chain_91 lX12_95 oX12_good (by decide) (by first | assumption) rfl rfl (Nat.le_of_ble_eq_true rfl) (Nat.le_of_ble_eq_true rfl) rfl (hgo) (k_I ?_)
    refine (show X _ _ 94 _ _ _ _ _ _ from ?_)
    exact x_ireturn dX12_chain_94 rfl (DQ_tr (DI_sc hI1 w1) 0 (by decide) _)
  · intro E2 w1 w2 w3 he
    have htr := k_tries (g := g) (J := J) (z := z) (k := 0) (n := 0) (N := i + 1) (s := s.toNat) (p := p.toNat) (bh := false) (DI_sc hI1 w1) (by omega) (fun _ => ⟨⟨by rw [w2]; exact es.symm, by omega⟩, by rw [w3]; exact ep.symm, by omega⟩)
    rw [show (((i + 1 : Nat) : Int)) = (i : Int) + 1 by omega] at htr
    have ef : fiC (chF A B s.toNat p.toNat) (4 - i) (i + 1) = if chF A B s.toNat p.toNat (i + 1) then ((i + 1 : Nat) : Int) else fiC (chF A B s.toNat p.toNat) (4 - (i + 1)) (i + 1 + 1) := by
      rw [show 4 - i = (4 - (i + 1)) + 1 by omega]; rfl
    refine x_iload_n dX12_chain_58 rfl ?_
    refine y_iconst dX12_chain_59 ?_
    refine (show X _ _ 60 _ _ _ _ _ _ from ?_)
    refine y_icmp_gt 88 dX12_chain_60 (by decide) ⟨by omega, by omega⟩ ⟨by omega, by omega⟩ (fun g1 => ?_) (fun g1 => ?_)
    · omega
    refine x_aload_n dX12_chain_63 rfl ?_
    refine x_iload_n dX12_chain_64 rfl ?_
    refine y_iconst dX12_chain_65 ?_
    refine (show X _ _ 66 _ _ _ _ _ _ from ?_)
    refine X.val (b := bI false) rfl ?_
    refine x_callV (As := [_, _]) (mc := 0) (ms := 0) (z := mX12_tries) (ci := 12) dX12_chain_66 lX12_562 oX12_tries (by decide) (by first | assumption) rfl rfl (Nat.le_of_ble_eq_true rfl) (Nat.le_of_ble_eq_true rfl) rfl (htr) (fun v M1 hq => ?_)
    obtain ⟨rfl, E3, rfl, q1, q2, q3⟩ := hq
    refine (show X _ _ 69 _ [] _ _ _ _ from ?_)
    have w13 := Sc_t w1 q1
    have h51 : E3 0 51 = bI (chF A B s.toNat p.toNat (i + 1)) := q3.2.2.2
    refine x_aload_n dX12_chain_69 rfl ?_
    refine b_gi0 (r := r) (m := 24) dX12_chain_70 fX12_542 (by first | assumption) (fun _ _ _ => rfl) (by decide) ?_
    refine (show X _ _ 73 _ _ _ _ _ _ from ?_)
    refine X.val h51 ?_
    refine y_ifb_eq 82 dX12_chain_73 (by decide) (fun g2 => ?_) (fun g2 => ?_)
    · rw [ef, if_neg (by rw [g2]; decide)] at he
      refine y_iinc dX12_chain_82 rfl (by decide) rfl rfl ?_
      refine x_goto 58 dX12_chain_85 (by decide) ?_
      refine (show X _ _ 58 _ _ _ _ _ _ from ?_)
      exact ih E3 w13 (by rw [q2.1]; exact w2) (by rw [q2.2]; exact w3) he
    · rw [ef, if_pos g2] at he
      have hgo := k_good (g := g) (V := V) (E := E3) (J := J) (z := z) (k := 0) (n := 0) (x := (i : Int) + 1) hM
      rw [he, show (((i + 1 : Nat) : Int)) = (i : Int) + 1 by omega]
      refine x_aload_n dX12_chain_76 rfl ?_
      refine x_iload_n dX12_chain_77 rfl ?_
      refine (show X _ _ 78 _ _ _ _ _ _ from ?_)
      refine x_callV (As := [_]) (mc := 0) (ms := 0) (z := mX12_good) (ci := 12) dX12_chain_78 lX12_95 oX12_good (by decide) (by first | assumption) rfl rfl (Nat.le_of_ble_eq_true rfl) (Nat.le_of_ble_eq_true rfl) rfl (hgo) (k_I ?_)
      refine (show X _ _ 81 _ _ _ _ _ _ from ?_)
      exact x_ireturn dX12_chain_81 rfl (DQ_tr (DI_sc hI1 w13) 0 (by decide) _)
end C9j
