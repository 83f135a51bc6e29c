/-! ===== the best row: class and reference ===== -/
section Rw
variable {A B W W' : Nat → Nat → Int} {y : Nat}
theorem RE_mwOk (h : RE A y W W') (w : Int) : mwOk A B W y w = mwOk A B W' y w := by
  unfold mwOk
  rw [RE_comes h, RE_cn h y]
theorem RE_mwW (hA : VA A) (hk : ROk A W y) (h : RE A y W W') {w : Int} (h0 : 0 ≤ w) (hm : mwOk A B W y w = true) : RE A (y + 1) (mwW A B W y w) (mwW A B W' y w) := by
  unfold mwW
  rw [← RE_comes h]
  refine RE_take h ?_
  have hc := rComes_b (B := B) hk hA.2.2.2.1.1
  unfold mwOk at hm
  by_cases e : rComes A B W y = -3
  · rw [if_pos e] at hm ⊢
    have := rCn_bit hm
    have eP := fP10 hA
    omega
  · rw [if_neg e]; omega
/-- by the law from year y on -/
def psT (A B : Nat → Nat → Int) : Nat → Nat → (Nat → Nat → Int) → Nat → Nat → Int
  | 0, _, W => W
  | d + 1, y, W => psT A B d (y + 1) (passY A B W y)
theorem takeT_hg (hA : VA A) (who : Int) : W 0 8 ≤ takeT A W y who 0 8 := by
  rw [takeT_h]
  have := hmS_b hA y who.toNat
  split <;> omega
theorem passY_hg (hA : VA A) : W 0 8 ≤ passY A B W y 0 8 := by
  unfold passY
  have e : (sold A B y (rCn A B W y) (yrWho A B W y) (yrW A B W y)).2 0 8 = W 0 8 := by
    rw [sold_row 0 (by decide), yrW_row 0 8 (by decide)]
  have := takeT_hg (W := (sold A B y (rCn A B W y) (yrWho A B W y) (yrW A B W y)).2) (y := y) hA (sold A B y (rCn A B W y) (yrWho A B W y) (yrW A B W y)).1
  omega
theorem psT_hg (hA : VA A) : ∀ d y (W : Nat → Nat → Int), W 0 8 ≤ psT A B d y W 0 8
  | 0, _, _ => Int.le_refl _
  | d + 1, y, W => Int.le_trans (passY_hg hA) (psT_hg hA d (y + 1) _)
theorem psT_hb (hA : VA A) : ∀ d y (W : Nat → Nat → Int), HB W y → HB (psT A B d y W) (y + d)
  | 0, _, _, h => h
  | d + 1, y, W, h => by
    have := psT_hb hA d (y + 1) _ (passY_hb (B := B) hA h)
    rw [show y + (d + 1) = y + 1 + d by omega]
    exact this
theorem psT_re (hA : VA A) (hB : VB A B) : ∀ d y (W W' : Nat → Nat → Int), ROk A W y → RE A y W W' → RE A (y + d) (psT A B d y W) (psT A B d y W')
  | 0, _, _, _, _, h => h
  | d + 1, y, W, W', hk, h => by
    have := psT_re hA hB d (y + 1) _ _ (passY_ok hA hB hk) (RE_pass hA hB hk h)
    rw [show y + (d + 1) = y + 1 + d by omega]
    exact this
abbrev RD : Type := Int × (Nat → Int)
/-- the class's search for rows of m wishes -/
def rwG (A B : Nat → Nat → Int) (m : Nat) : Sr (Nat → Nat → Int) RD := (fP A, mwOk A B, mwW A B, fun _ _ x => x, fun W x => if psT A B (fY A - m) m W 0 8 < x.1 then (psT A B (fY A - m) m W 0 8, psT A B (fY A - m) m W 4) else x, fun W x => decide (x.1 ≤ W 0 8))
theorem rwG_fc (hA : VA A) {m : Nat} : ∀ (d y : Nat) (W : Nat → Nat → Int) (x : RD), x.1 ≤ W 0 8 → fuS (rwG A B m) d y W x = x
  | 0, y, W, x, h => by
    show (if psT A B (fY A - m) m W 0 8 < x.1 then _ else x) = x
    have := psT_hg (B := B) hA (fY A - m) m W
    rw [if_neg (by omega)]
  | d + 1, y, W, x, h => by
    rw [fuS_s]
    refine fr_id (fun q => ?_) _ _
    unfold fcS
    split
    · exact rwG_fc hA d (y + 1) _ x (Int.le_trans h (takeT_hg hA _))
    · rfl
theorem rwG_rc (hA : VA A) {m : Nat} : ∀ (d y : Nat) (W : Nat → Nat → Int) (w : Nat → Int) (x : RD), x.1 ≤ W 0 8 → reS (rwG A B m) d y W w x = x
  | 0, y, W, w, x, h => rwG_fc hA 0 y W x h
  | d + 1, y, W, w, x, h => by
    have h1 : ∀ q, x.1 ≤ sX (rwG A B m) W y q 0 8 := fun q => Int.le_trans h (takeT_hg hA _)
    rw [reS]
    have e : (if sO (rwG A B m) W y (w y) = true then reS (rwG A B m) d (y + 1) (sX (rwG A B m) W y (w y)) w (sE (rwG A B m) (sX (rwG A B m) W y (w y)) y x) else x) = x := by
      split
      · exact rwG_rc hA d (y + 1) _ w x (h1 _)
      · rfl
    rw [e]
    refine fr_id (fun q => ?_) _ _
    unfold fcS
    split
    · exact rwG_fc hA d (y + 1) _ x (h1 _)
    · rfl
theorem rwG_ok (hA : VA A) (hP : 1 ≤ fP A) {m : Nat} : SrOk (rwG A B m) := ⟨hP, fun d y s w x h => rwG_rc hA d y s w x (of_decide_eq_true h), fun _ _ _ _ _ => rfl, fun _ _ _ => rfl, fun _ _ _ _ => rfl, fun _ _ _ _ => rfl⟩
/-- the class's cells for rows of m -/
def RwI (m : Nat) (E : Nat → Nat → Int) (x : RD) : Prop := E 3 m = x.1 ∧ 0 ≤ x.1 ∧ (x.1 ≠ 1000000000 → ∀ j, j < m → E 4 (4 * m + j) = x.2 j)
theorem trEnd_I {E : Nat → Nat → Int} {x : RD} {m : Nat} (hx : RwI m E x) (hm : m ≤ fY A) (hW : RE A (fY A) W W') (h0 : 0 ≤ W' 0 8) : RwI m (trEnd E m W).2 (if W' 0 8 < x.1 then (W' 0 8, W' 4) else x) := by
  obtain ⟨h1, h2, h3⟩ := hx
  unfold trEnd
  rw [RE_0 hW (j := 8) (by decide) (by decide), h1]
  by_cases e : W' 0 8 < x.1
  · rw [if_pos e, if_pos e]
    refine ⟨?_, h0, fun _ j hj => ?_⟩
    · show u2 (pB E 6 5 W) 3 m (W' 0 8) 3 m = _
      rw [u2_s, u1_s]
    · show cpR (W 4) (E 4) 0 (4 * m) m (4 * m + j) = W' 4 j
      rw [cpR_in (by omega), show 0 + (4 * m + j - 4 * m) = j by omega]
      exact RE_4 hW (by omega)
  · rw [if_neg e, if_neg e]
    refine ⟨?_, h2, fun q j hj => ?_⟩
    · show pB E 6 5 W 3 m = _
      rw [pB_out (by decide)]; exact h1
    · show pB E 6 5 W 4 _ = _
      rw [pB_out (by decide)]; exact h3 q j hj
theorem run_I {E : Nat → Nat → Int} {x : RD} {m : Nat} (hx : RwI m E x) : RwI m (pB E 6 5 W) x := by
  obtain ⟨h1, h2, h3⟩ := hx
  refine ⟨?_, h2, fun q j hj => ?_⟩
  · rw [pB_out (by decide)]; exact h1
  · rw [pB_out (by decide)]; exact h3 q j hj
theorem tr2_I (hA : VA A) (hB : VB A B) {E : Nat → Nat → Int} {x : RD} {m : Nat} (hx : RwI m E x) (hm : m ≤ fY A) : ∀ (d y : Nat) (W W' : Nat → Nat → Int), y + d = fY A → ROk A W y → RE A y W W' → HB W' y → (tr2 A B E m d y W).1 = (m : Int) - 1 ∧ RwI m (tr2 A B E m d y W).2 (if psT A B d y W' 0 8 < x.1 then (psT A B d y W' 0 8, psT A B d y W' 4) else x)
  | 0, y, W, W', hy, hk, h, hh => by
    have e : y = fY A := by omega
    subst e
    exact ⟨rfl, trEnd_I hx hm h hh.1⟩
  | d + 1, y, W, W', hy, hk, h, hh => by
    rw [tr2]
    by_cases e : W 0 8 < E 3 m
    · rw [if_pos e]
      exact tr2_I hA hB hx hm d (y + 1) _ _ (by omega) (passY_ok hA hB hk) (RE_pass hA hB hk h) (passY_hb hA hh)
    · rw [if_neg e]
      refine ⟨rfl, ?_⟩
      have hg := psT_hg (B := B) hA (d + 1) y W'
      have e8 := RE_0 h (j := 8) (by decide) (by decide)
      rw [hx.1] at e
      rw [if_neg (by omega)]
      unfold trEnd
      rw [hx.1, if_neg e]
      exact run_I hx
theorem trA_I (hA : VA A) (hB : VB A B) {E : Nat → Nat → Int} {x : RD} {m : Nat} (hx : RwI m E x) (hm : 1 ≤ m ∧ m ≤ fY A) (hE : ∀ j, j < m → 0 ≤ E 1 j) : ∀ (d y : Nat) (W W' : Nat → Nat → Int), y + d = m → ROk A W y → RE A y W W' → HB W' y → (trA A B E m d y W).1.toNat = (tyS (rwG A B m) m d y W' (E 1) x).1 ∧ RwI m (trA A B E m d y W).2 (tyS (rwG A B m) m d y W' (E 1) x).2
  | 0, y, W, W', hy, hk, h, hh => by
    have e : y = m := by omega
    subst e
    have := tr2_I hA hB hx hm.2 (fY A - y) y W W' (by omega) hk h hh
    rw [trA]
    refine ⟨?_, this.2⟩
    rw [this.1]
    show ((y : Int) - 1).toNat = y - 1
    omega
  | d + 1, y, W, W', hy, hk, h, hh => by
    rw [trA, tyS]
    have hok : sO (rwG A B m) W' y (E 1 y) = mwOk A B W y (E 1 y) := (RE_mwOk h _).symm
    rw [hok]
    by_cases e : mwOk A B W y (E 1 y) = true
    · rw [if_pos e, if_pos e]
      have h0 := hE y (by omega)
      have hr := RE_mwW hA hk h h0 e
      have hk1 := mwW_ok (B := B) hA hk h0 e
      have e8 := RE_0 hr (j := 8) (by decide) (by decide)
      have hct : sCt (rwG A B m) (sX (rwG A B m) W' y (E 1 y)) (sE (rwG A B m) (sX (rwG A B m) W' y (E 1 y)) y x) = decide (x.1 ≤ mwW A B W' y (E 1 y) 0 8) := rfl
      rw [hct]
      by_cases e2 : mwW A B W y (E 1 y) 0 8 < E 3 m
      · rw [if_pos e2, if_neg (show ¬ (decide (x.1 ≤ mwW A B W' y (E 1 y) 0 8) = true) from fun c => by have := of_decide_eq_true c; rw [hx.1] at e2; omega)]
        exact trA_I hA hB hx hm hE d (y + 1) _ _ (by omega) hk1 hr (mwW_hb hA hh)
      · rw [if_neg e2, if_pos (show decide (x.1 ≤ mwW A B W' y (E 1 y) 0 8) = true from decide_eq_true (by rw [hx.1] at e2; omega))]
        exact ⟨Int.toNat_natCast _, run_I hx⟩
    · rw [if_neg e, if_neg e]
      exact ⟨Int.toNat_natCast _, run_I hx⟩
theorem fdL_wl {m : Nat} : ∀ c E, fdL A B m c E = wlL A (fun E => tryR A B E m) c E
  | 0, _ => rfl
  | c + 1, E => by
    rw [fdL, wlL]
    unfold fdN
    rw [fdL_wl c]
theorem fd_row (hA : VA A) (hB : VB A B) (hP : 1 ≤ fP A) {E : Nat → Nat → Int} {m : Nat} (hm : 1 ≤ m ∧ m ≤ 4) (h4 : m ≤ fY A) (h2 : E 2 m = 0) {r0 : Nat → Int} : RwI m (fdE A B m E) (fuS (rwG A B m) m 0 (wB A B) (1000000000, r0)) := by
  have hG := rwG_ok (B := B) (m := m) hA hP
  obtain ⟨c1, c2⟩ := cwE_1 (u2 (u2 E 2 m 1) 3 m 1000000000)
  rw [← reS_0 hG (w := cwE (u2 (u2 E 2 m 1) 3 m 1000000000) 1) m 0 (wB A B) _ (fun j q1 q2 => c1 j (by omega))]
  unfold fdE
  rw [if_pos h2, fdL_wl]
  refine wlL_eq (I := RwI m) hA hG rfl hm (fun F x hF hx => ?_) (fun F F' x hF hx => ?_) 10000 _ _ (fun j hj => by rw [c1 j hj]; omega) ?_ ?_
  · have hok0 : ROk A (rBeg A (fun j => F (6 + j)) (B 0 0) (B 0 1)) 0 := rBeg_ok hA hB.1 hB.2.1
    have := trA_I hA hB hx ⟨hm.1, h4⟩ (fun j hj => (hF j (by omega)).1) m 0 (rBeg A (fun j => F (6 + j)) (B 0 0) (B 0 1)) (wB A B) (by omega) hok0 RE_beg rBeg_hb
    refine ⟨this.1, this.2, ?_⟩
    exact (tryR_i (B := B) hA hm (by rw [hx.1]; exact hx.2.1)).2.1 1 (by decide) (by decide) (by decide)
  · obtain ⟨g1, g2, g3⟩ := hx
    exact ⟨by rw [hF 3 (by decide)]; exact g1, g2, fun q j hj => by rw [hF 4 (by decide)]; exact g3 q j hj⟩
  · refine ⟨?_, by show (0 : Int) ≤ 1000000000; decide, fun q => absurd rfl q⟩
    rw [c2 3 (by decide), u2_s, u1_s]
  · unfold vlW
    rw [c1 0 (by decide), c1 1 (by decide), c1 2 (by decide), c1 3 (by decide)]
    decide
/-- the reference's best against the class's -/
def RlS (x : SS) (c : RD) : Prop := x.2.2 = false ∧ ((x.1 = -1 ∧ c.1 = 1000000000) ∨ (0 ≤ x.1 ∧ x.1 ≤ 100000 ∧ x.1 = c.1 ∧ x.2.1 = c.2))
theorem psT_rTo {n : Nat} {ch : Nat → Int} {W0 : Nat → Nat → Int} : ∀ d y, n ≤ y → psT A B d y (rTo A B n ch W0 y) = rTo A B n ch W0 (y + d)
  | 0, _, _ => rfl
  | d + 1, y, h => by
    rw [psT, show y + (d + 1) = y + 1 + d by omega, ← psT_rTo d (y + 1) (by omega)]
    congr 1
    show _ = stp A B n ch (rTo A B n ch W0 y) y
    unfold stp
    rw [if_neg (by omega)]
theorem trS_full (hA : VA A) {m s p : Nat} (hm : m ≤ fY A) (hP : 1 ≤ fP A) : ∀ (d y : Nat) (ch : Nat → Int) (x : SS) (c : RD), y + d = m → RlS x c → RlS (trS A B m s p true d y ch x) (fuS (rwG A B m) d y (wt A B ch (wB A B) y) c)
  | 0, y, ch, x, c, hy, h => by
    have e : y = m := by omega
    subst e
    show RlS (lfS A B y s p true ch x) (if psT A B (fY A - y) y (wt A B ch (wB A B) y) 0 8 < c.1 then _ else c)
    unfold lfS lfR
    rw [if_pos rfl, ← rTo_wt (rw := y) y (Nat.le_refl _), psT_rTo _ _ (Nat.le_refl _), show y + (fY A - y) = fY A by omega]
    have hb := rTo_hb (B := B) (rw := y) (ch := ch) hA (fY A)
    have eY := fY24 hA
    unfold HB at hb
    generalize rTo A B y ch (wB A B) (fY A) = F at *
    obtain ⟨h1, h2⟩ := h
    rcases h2 with ⟨h2, h3⟩ | ⟨h2, h3, h4, h5⟩
    · rw [if_pos (Or.inl h2), if_pos (by omega)]
      exact ⟨h1, Or.inr ⟨hb.1, by show F 0 8 ≤ 100000; omega, rfl, rfl⟩⟩
    · by_cases e : F 0 8 < x.1
      · rw [if_pos (Or.inr e), if_pos (by omega)]
        exact ⟨h1, Or.inr ⟨hb.1, by show F 0 8 ≤ 100000; omega, rfl, rfl⟩⟩
      · rw [if_neg (by omega), if_neg (by omega)]
        exact ⟨h1, Or.inr ⟨h2, h3, h4, h5⟩⟩
  | d + 1, y, ch, x, c, hy, h => by
    rw [trS, fuS_s]
    have ew : ∀ v, wt A B (u1 ch y v) (wB A B) (y + 1) = mwW A B (wt A B ch (wB A B) y) y v := fun v => by
      show mwW A B (wt A B (u1 ch y v) (wB A B) y) y (u1 ch y v y) = _
      rw [u1_s, wt_c (ch := u1 ch y v) (ch' := ch) y (fun j hj => u1_n (by omega))]
    by_cases e : rComes A B (wt A B ch (wB A B) y) y = -3
    · rw [if_pos e]
      show RlS _ (fr (fP A) 0 _ c)
      rw [fr_lp0]
      have key : ∀ q, RlS (lp q (fun q x => if x.2.2 then x else if (rCn A B (wt A B ch (wB A B) y) y).testBit q then trS A B m s p true d (y + 1) (u1 ch y (q : Int)) x else x) x) (lp q (fcS (rwG A B m) d y (wt A B ch (wB A B) y)) c) := by
        intro q
        induction q with
        | zero => exact h
        | succ q ih =>
          rw [lp_s, lp_s]
          generalize lp q (fun q x => if x.2.2 then x else if (rCn A B (wt A B ch (wB A B) y) y).testBit q then trS A B m s p true d (y + 1) (u1 ch y (q : Int)) x else x) x = x1 at *
          generalize lp q (fcS (rwG A B m) d y (wt A B ch (wB A B) y)) c = c1 at *
          have eo : sO (rwG A B m) (wt A B ch (wB A B) y) y (q : Int) = (rCn A B (wt A B ch (wB A B) y) y).testBit q := by
            show mwOk A B (wt A B ch (wB A B) y) y (q : Int) = _
            unfold mwOk
            rw [if_pos e, Int.toNat_natCast]
          unfold fcS
          rw [eo, if_neg (by rw [ih.1]; decide)]
          cases (rCn A B (wt A B ch (wB A B) y) y).testBit q
          · rw [if_neg (by decide), if_neg (by decide)]; exact ih
          · rw [if_pos rfl, if_pos rfl]
            have := trS_full hA hm hP (s := s) (p := p) d (y + 1) (u1 ch y (q : Int)) x1 c1 (by omega) ih
            rw [ew] at this
            exact this
      exact key (fP A)
    · rw [if_neg e]
      have e1 : fP A = (fP A - 1) + 1 := by omega
      show RlS _ (fr (fP A) 0 _ c)
      rw [e1, fr]
      have eo : ∀ q : Nat, sO (rwG A B m) (wt A B ch (wB A B) y) y (q : Int) = decide ((q : Int) = 0) := fun q => by
        show mwOk A B (wt A B ch (wB A B) y) y (q : Int) = _
        unfold mwOk
        rw [if_neg e]
      have e0 : fcS (rwG A B m) d y (wt A B ch (wB A B) y) 0 c = fuS (rwG A B m) d (y + 1) (wt A B (u1 ch y 10) (wB A B) (y + 1)) c := by
        unfold fcS
        rw [eo, if_pos (by decide), ew]
        show fuS (rwG A B m) d (y + 1) (mwW A B (wt A B ch (wB A B) y) y 0) c = _
        unfold mwW
        rw [if_neg e, if_neg e]
      have er : ∀ n a (c : RD), 1 ≤ a → fr n a (fcS (rwG A B m) d y (wt A B ch (wB A B) y)) c = c := by
        intro n
        induction n with
        | zero => exact fun _ _ _ => rfl
        | succ n ih =>
          intro a c ha
          rw [fr, ih (a + 1) _ (by omega)]
          unfold fcS
          rw [eo, if_neg (fun q => by have := of_decide_eq_true q; omega)]
      rw [er _ _ _ (by omega), e0]
      exact trS_full hA hm hP (s := s) (p := p) d (y + 1) (u1 ch y 10) x c (by omega) h
/-- the class's best row is the reference's -/
theorem row_eq (hA : VA A) (hB : VB A B) (hP : 1 ≤ fP A) {E : Nat → Nat → Int} {m : Nat} (hm : 1 ≤ m ∧ m ≤ 4) (h4 : m ≤ fY A) (h2 : E 2 m = 0) : fdE A B m E 3 m = (rwS A B m).1 ∧ ∀ i, i < m → fdE A B m E 4 (4 * m + i) = (rwS A B m).2.1 i := by
  obtain ⟨h5, h6, h7⟩ := fd_row (r0 := fun _ => 0) hA hB hP hm h4 h2
  have h := trS_full (B := B) (s := 0) (p := 0) hA h4 hP m 0 (fun _ => -1) ss0 (1000000000, fun _ => 0) (by omega) ⟨rfl, Or.inl ⟨rfl, rfl⟩⟩
  have hne := (trS_ne (B := B) (N := m) (s := 0) (p := 0) hA m 0 (fun _ => -1) ss0 rfl).1
  have ew : wt A B (fun _ => -1) (wB A B) 0 = wB A B := rfl
  rw [ew] at h
  have er : trS A B m 0 0 true m 0 (fun _ => -1) ss0 = rwS A B m := rfl
  rw [er] at h hne
  generalize fuS (rwG A B m) m 0 (wB A B) (1000000000, fun _ => 0) = c at *
  rcases h.2 with ⟨q, -⟩ | ⟨q1, q2, q3, q4⟩
  · exact absurd q hne
  · exact ⟨h5.trans q3.symm, fun i hi => by rw [h7 (by omega) i hi, q4]⟩
end Rw
