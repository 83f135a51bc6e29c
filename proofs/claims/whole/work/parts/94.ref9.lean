/-! ===== the reference's years one by one ===== -/
def rTo (A B : Nat → Nat → Int) (rw : Nat) (ch : Nat → Int) (W0 : Nat → Nat → Int) (m : Nat) : Nat → Nat → Int := lp m (fun y W => stp A B rw ch W y) W0
def mTo (A B : Nat → Nat → Int) (rw : Nat) (ch : Nat → Int) (W0 N0 : Nat → Nat → Int) (m : Nat) : Nat → Nat → Int := lp m (fun y N => nst A (rTo A B rw ch W0 (y + 1)) N y) N0
/-- what is recorded of year y -/
def Rc (A B W W' N' E : Nat → Nat → Int) (y : Nat) : Prop := (E 6 y = (rTh A B W y : Nat) ∧ E 7 y = (rCn A B W y : Nat) ∧ E 8 y = N' 0 1 ∧ E 9 y = W' 0 8 - W 0 8 ∧ E 10 y = bI (decide (W 0 6 ≠ 0))) ∧ (∀ p, p < fP A → E 11 (10 * y + p) = W' 1 p ∧ E 12 (10 * y + p) = W' 2 p) ∧ (∀ p, p < 10 → E 13 (10 * y + p) = N' 1 p) ∧ (∀ s, s < 8 → (N' 0 1).toNat.testBit s = true → E 14 (8 * y + s) = N' 2 s)
def hdS (Ws : Nat → Nat → Nat → Int) (m : Nat) (p : Nat) : Int := lp m (fun i s => s + if Ws (i + 1) 4 i = (p : Int) then Ws (i + 1) 0 8 - Ws i 0 8 else 0) 0
def GI (A B : Nat → Nat → Int) (Ws Ns : Nat → Nat → Nat → Int) (E0 E : Nat → Nat → Int) (y : Nat) : Prop := RM A E (Ws y) y ∧ NM A E (Ns y) ∧ (∀ i, i < y → Rc A B (Ws i) (Ws (i + 1)) (Ns (i + 1)) E i) ∧ ((∀ p, p < 10 → E 19 p = hdS Ws y p) ∧ ∀ p, p < fP A → ∀ i, i ≤ y → (dd (Ws i)).testBit p = decide (E 20 p ≤ (i : Int))) ∧ (∀ a, a = 1 ∨ a = 2 ∨ a = 3 ∨ a = 4 ∨ a = 22 ∨ a = 23 → E a = E0 a) ∧ ∀ c, c ≠ 38 → c ≠ 39 → c ≠ 40 → c ≠ 44 → c ≠ 45 → c ≠ 46 → E 0 c = E0 0 c
/-- how a run begins -/
def Bg (A W0 : Nat → Nat → Int) (lw sd : Int) : Prop := (W0 0 1 = lw ∧ W0 0 2 = sd ∧ W0 0 5 = 0 ∧ W0 0 6 = 0 ∧ W0 0 7 = -1 ∧ W0 0 8 = 0 ∧ W0 0 9 = 0) ∧ (∀ p, p < fP A → W0 1 p = 0 ∧ W0 2 p = A 4 p ∧ W0 3 p = 0) ∧ ROk A W0 0
section GIs
variable {A B E E0 E' W0 N0 : Nat → Nat → Int} {Ws Ns : Nat → Nat → Nat → Int} {y : Nat}
theorem GI_step (hP10 : fP A ≤ 10) (hy24 : y < 24) (h : GI A B Ws Ns E0 E y) (hq : YrQ A (yrE A B E (Ws y) y) E' (Ws y) (Ws (y + 1)) (Ns (y + 1)) y) : GI A B Ws Ns E0 E' (y + 1) := by
  obtain ⟨h1, h2, h3, h4, h5, h6⟩ := h
  obtain ⟨q1, q2, ⟨q3, q4⟩, q5, q6, q7, q8, q9, q10, q11, q12, q13, q14⟩ := hq
  have hE3 : ∀ a, a ≠ 6 → a ≠ 7 → a ≠ 9 → a ≠ 10 → yrE A B E (Ws y) y a = E a := fun a h6 h7 h9 h10 => by unfold yrE; rw [u2_n h9, u2_n h10, u2_n h7, u2_n h6]
  have y6 : ∀ j, yrE A B E (Ws y) y 6 j = if j = y then ((rTh A B (Ws y) y : Nat) : Int) else E 6 j := by
    intro j; unfold yrE; rw [u2_n (by decide), u2_n (by decide), u2_n (by decide), u2_s]
    by_cases e : j = y
    · rw [e, u1_s, if_pos rfl]
    · rw [u1_n e, if_neg e]
  have y7 : ∀ j, yrE A B E (Ws y) y 7 j = if j = y then ((rCn A B (Ws y) y : Nat) : Int) else E 7 j := by
    intro j; unfold yrE; rw [u2_n (by decide), u2_n (by decide), u2_s, u2_n (by decide)]
    by_cases e : j = y
    · rw [e, u1_s, if_pos rfl]
    · rw [u1_n e, if_neg e]
  have y10 : ∀ j, yrE A B E (Ws y) y 10 j = if j = y then bI (decide (Ws y 0 6 ≠ 0)) else E 10 j := by
    intro j; unfold yrE; rw [u2_n (by decide), u2_s, u2_n (by decide), u2_n (by decide)]
    by_cases e : j = y
    · rw [e, u1_s, if_pos rfl]
    · rw [u1_n e, if_neg e]
  have y9 : ∀ j, j ≠ y → yrE A B E (Ws y) y 9 j = E 9 j := by
    intro j e; unfold yrE; rw [u2_s, u1_n e, u2_n (by decide), u2_n (by decide), u2_n (by decide)]
  refine ⟨q1, q2, fun i hi => ?_, ⟨fun p hp => ?_, fun p hp i hi => ?_⟩, fun a ha => ?_, fun c c1 c2 c3 c4 c5 c6 => ?_⟩
  · by_cases e : i = y
    · subst e
      refine ⟨⟨?_, ?_, q3, q4, ?_⟩, q5, q6, fun s hs ht => ?_⟩
      · rw [q8 6 (by omega), y6, if_pos rfl]
      · rw [q8 7 (by omega), y7, if_pos rfl]
      · rw [q8 10 (by omega), y10, if_pos rfl]
      · rw [q7 s hs]; exact q2.2.2.1 s hs ht
    · obtain ⟨⟨a1, a2, a3, a4, a5⟩, a6, a7, a8⟩ := h3 i (by omega)
      refine ⟨⟨?_, ?_, ?_, ?_, ?_⟩, fun p hp => ?_, fun p hp => ?_, fun s hs ht => ?_⟩
      · rw [q8 6 (by omega), y6, if_neg e, a1]
      · rw [q8 7 (by omega), y7, if_neg e, a2]
      · rw [(q10 i e).1, hE3 8 (by decide) (by decide) (by decide) (by decide), a3]
      · rw [(q10 i e).2, y9 i e, a4]
      · rw [q8 10 (by omega), y10, if_neg e, a5]
      · rw [(q11 (10 * i + p) (by omega)).1, (q11 (10 * i + p) (by omega)).2.1, hE3 11 (by decide) (by decide) (by decide) (by decide), hE3 12 (by decide) (by decide) (by decide) (by decide)]
        exact a6 p hp
      · rw [(q11 (10 * i + p) (by omega)).2.2, hE3 13 (by decide) (by decide) (by decide) (by decide)]
        exact a7 p hp
      · rw [q12 (8 * i + s) (by omega), hE3 14 (by decide) (by decide) (by decide) (by decide)]
        exact a8 s hs ht
  · rw [q13 p, hE3 19 (by decide) (by decide) (by decide) (by decide), h4.1 p hp]
    rfl
  · by_cases e : i = y + 1
    · rw [e]; exact (q1.2.2.1 p hp).2
    · rw [h4.2 p hp i (by omega)]
      have hb := (h1.2.2.1 p hp).1
      have hc := q14 p hp
      rw [hE3 20 (by decide) (by decide) (by decide) (by decide)] at hc
      rcases hc with c | ⟨c, d⟩
      · rw [c]
      · rw [c, d, decide_eq_false (by omega), decide_eq_false (by omega)]
  · rcases ha with rfl | rfl | rfl | rfl | rfl | rfl
    all_goals rw [q8 _ (by omega), hE3 _ (by decide) (by decide) (by decide) (by decide), h5 _ (by omega)]
  · rw [q9 c c1 c2 c4 c5 c6, hE3 0 (by decide) (by decide) (by decide) (by decide), h6 c c1 c2 c3 c4 c5 c6]
end GIs
section C94
variable {g : GG} {T : Nat → Nat × Nat} {V E A B W0 Ni : Nat → Nat → Int} {R : Nat → Nat → Option Nat} {J : Nat → Nat → Int64} {z k n : Nat} {r f : Nat}
/-- the years, and what is there behind the last -/
theorem c_goesY {m rw : Nat} {lw sd : Int} {N0 : Nat → Nat → Int} (hM : MSh T R r) (hf : R r 3 = some f) (hG : FMS T R f) (hF : FMC V f A) (hA : VA A) (hB : VB A B) (hap : apF f r) (hv : NV (E 2) A B) (hm : m ≤ fY A) (hrw : E 0 41 = (rw : Int)) (hr4 : rw ≤ 4) (hch : ∀ y, y < m → y < rw → rComes A B (rTo A B rw (E 22) W0 y) y = -3 → 0 ≤ E 22 y ∧ (rCn A B (rTo A B rw (E 22) W0 y) y).testBit (E 22 y).toNat = true) (hg : GI A B (rTo A B rw (E 22) W0) (mTo A B rw (E 22) W0 N0) E E 0) : X g mX12_goes 167 [.ref r, .int (iI lw), .int (iI sd), .int (iI (m : Int)), .int (iI 0)] [] (T, iV (pB V r 24 E), R, J, z) k n (fun v M => v = none ∧ ∃ E', M = (T, iV (pB V r 24 E'), R, J, z) ∧ GI A B (rTo A B rw (E 22) W0) (mTo A B rw (E 22) W0 N0) E E' m ∧ E' 6 (fY A) = (sOf (fP A) (thE A B E' (fY A)) : Nat)) := by
  have eP := fP10 hA
  have eY := fY24 hA
  have hyr := fun (y : Nat) (E1 : Nat → Nat → Int) (hy : y < m) (hg1 : GI A B (rTo A B rw (E 22) W0) (mTo A B rw (E 22) W0 N0) E E1 y) => c_year (g := g) (J := J) (z := z) (k := 0) (n := 0) (E := E1) (W := rTo A B rw (E 22) W0 y) (N := mTo A B rw (E 22) W0 N0 y) (y := y) (rw := rw) hM hf hG hF hA hB hap (by rw [hg1.2.2.2.2.1 2 (by omega)]; exact hv) (by omega) hg1.1 hg1.2.1 (by rw [hg1.2.2.2.2.2 41 (by decide) (by decide) (by decide) (by decide) (by decide) (by decide)]; exact hrw) hr4 (by rw [hg1.2.2.2.2.1 22 (by omega)]; exact hch y hy)
  have hti := fun (E1 : Nat → Nat → Int) (hg1 : GI A B (rTo A B rw (E 22) W0) (mTo A B rw (E 22) W0 N0) E E1 m) => c_thereIn (g := g) (J := J) (z := z) (k := 0) (n := 0) (E := E1) (y := fY A) hM hf hG hF hA hB hap (by rw [hg1.2.2.2.2.1 2 (by omega)]; exact hv) eY.2 (fun p hp => by have := (hg1.1.2.2.1 p hp).1; omega)
  obtain ⟨m0, ⟨-, -, -, -, -, m21, -, -, -, -, -, -, -, -, m30, m31, m32, m33, m34, m35, -, -, -⟩, ⟨-, -, -, -, -, mk6, -, -, -, -, -, -, -, -, mk15, mk16, mk17, mk18, mk19, mk20, -, -, -⟩⟩ := id hM
  obtain ⟨g0, ⟨-, -, -, g13, -, -, -, -, -, -, -, -, -, -, -, g25, -, -, -, -, -, -, -⟩, ⟨-, -, -, gk4, -, -, -, -, -, -, -, -, -, -, -, gk16, -, -, -, -, -, -, -⟩⟩ := id hG
  have e0 := hF.1 0 (by decide)
  unfold apF at hap
  refine loopN (P := fun y => ∀ E1, GI A B (rTo A B rw (E 22) W0) (mTo A B rw (E 22) W0 N0) E E1 y → X g mX12_goes 167 [.ref r, .int (iI lw), .int (iI sd), .int (iI (m : Int)), .int (iI (y : Int))] [] (T, iV (pB V r 24 E1), R, J, z) k n (fun v M => v = none ∧ ∃ E', M = (T, iV (pB V r 24 E'), R, J, z) ∧ GI A B (rTo A B rw (E 22) W0) (mTo A B rw (E 22) W0 N0) E E' m ∧ E' 6 (fY A) = (sOf (fP A) (thE A B E' (fY A)) : Nat))) m ?_ (fun y hy ih => ?_) E hg
  · intro E1 hg1
    have hti := hti E1 hg1
    rw [eY.1] at hti
    refine x_iload dX12_goes_167 rfl ?_
    refine x_iload_n dX12_goes_169 rfl ?_
    refine (show X _ _ 170 _ _ _ _ _ _ from ?_)
    refine y_icmp_ge 185 dX12_goes_170 (by decide) ⟨by omega, by omega⟩ ⟨by omega, by omega⟩ (fun h1 => ?_) (fun h1 => ?_)
    rotate_left
    · omega
    refine x_aload_n dX12_goes_185 rfl ?_
    refine x_gr dX12_goes_186 fX12_30 (by first | assumption) (fun _ _ _ => rfl) (by first | assumption) ?_
    refine x_aload_n dX12_goes_189 rfl ?_
    refine x_gr dX12_goes_190 fX12_409 (by first | assumption) (fun _ _ _ => rfl) (by first | assumption) ?_
    refine b_gio (r := r) (m := 24) dX12_goes_193 fX12_176 (by first | assumption) (fun _ _ _ => rfl) (by omega) ?_
    refine (show X _ _ 196 _ _ _ _ _ _ from ?_)
    refine X.val e0 ?_
    refine x_aload_n dX12_goes_196 rfl ?_
    refine x_aload_n dX12_goes_197 rfl ?_
    refine x_gr dX12_goes_198 fX12_409 (by first | assumption) (fun _ _ _ => rfl) (by first | assumption) ?_
    refine b_gio (r := r) (m := 24) dX12_goes_201 fX12_176 (by first | assumption) (fun _ _ _ => rfl) (by omega) ?_
    refine (show X _ _ 204 _ _ _ _ _ _ from ?_)
    refine X.val e0 ?_
    refine x_callV (As := [_]) (mc := 0) (ms := 0) (z := mX12_thereIn) (ci := 12) dX12_goes_204 lX12_449 oX12_thereIn (by decide) (by first | assumption) rfl rfl (Nat.le_of_ble_eq_true rfl) (Nat.le_of_ble_eq_true rfl) rfl (hti) (k_I ?_)
    refine (show X _ _ 207 _ _ _ _ _ _ from ?_)
    refine b_iast (r := r) (m := 24) (j := 6) (fY A) dX12_goes_207 (by first | assumption) (by first | rfl | omega) (by omega) (by decide) (by decide) ?_
    refine (show X _ _ 208 _ _ _ _ _ _ from ?_)
    refine x_return dX12_goes_208 rfl ⟨rfl, _, rfl, ?_, ?_⟩
    · obtain ⟨g1, g2, g3, g4, g5, g6⟩ := hg1
      have hu : ∀ a, a ≠ 6 → u2 E1 6 (fY A) ((sOf (fP A) (thE A B E1 (fY A)) : Nat) : Int) a = E1 a := fun a ha => u2_n ha
      refine ⟨RM_con g1 (fun c _ => by rw [hu 0 (by decide)]) (hu 5 (by decide)) (hu 15 (by decide)) (hu 16 (by decide)) (hu 18 (by decide)) (hu 20 (by decide)), NM_eq g2 (by rw [hu 0 (by decide)]) (hu 17 (by decide)) (hu 21 (by decide)), fun i hi => ?_, ⟨fun p hp => by rw [hu 19 (by decide)]; exact g4.1 p hp, fun p hp i hi => by rw [hu 20 (by decide)]; exact g4.2 p hp i hi⟩, fun a ha => by rw [hu a (by omega)]; exact g5 a ha, fun c c1 c2 c3 c4 c5 c6 => by rw [hu 0 (by decide)]; exact g6 c c1 c2 c3 c4 c5 c6⟩
      have := g3 i hi
      unfold Rc at this ⊢
      rw [hu 7 (by decide), hu 8 (by decide), hu 9 (by decide), hu 10 (by decide), hu 11 (by decide), hu 12 (by decide), hu 13 (by decide), hu 14 (by decide), u2_s, u1_n (by omega)]
      exact this
    · rw [u2_s, u1_s]
      have : thE A B (u2 E1 6 (fY A) ((sOf (fP A) (thE A B E1 (fY A)) : Nat) : Int)) = thE A B E1 := by
        funext a b
        unfold thE
        rw [u2_n (by decide)]
      rw [this]
  · intro E1 hg1
    have e22 : E1 22 = E 22 := hg1.2.2.2.2.1 22 (by omega)
    have hyr := hyr y E1 hy hg1
    rw [e22] at hyr
    refine x_iload dX12_goes_167 rfl ?_
    refine x_iload_n dX12_goes_169 rfl ?_
    refine (show X _ _ 170 _ _ _ _ _ _ from ?_)
    refine y_icmp_ge 185 dX12_goes_170 (by decide) ⟨by omega, by omega⟩ ⟨by omega, by omega⟩ (fun h1 => ?_) (fun h1 => ?_)
    · omega
    refine x_aload_n dX12_goes_173 rfl ?_
    refine x_iload dX12_goes_174 rfl ?_
    refine (show X _ _ 176 _ _ _ _ _ _ from ?_)
    refine x_callV (As := [_]) (mc := 0) (ms := 0) (z := mX12_year) (ci := 12) dX12_goes_176 lX12_446 oX12_year (by decide) (by first | assumption) rfl rfl (Nat.le_of_ble_eq_true rfl) (Nat.le_of_ble_eq_true rfl) rfl (hyr) (fun v M1 hq => ?_)
    obtain ⟨rfl, E2, rfl, hq⟩ := hq
    refine (show X _ _ 179 _ [] _ _ _ _ from ?_)
    have ih := ih E2 (GI_step eP.2 (by omega) hg1 hq)
    refine y_iinc dX12_goes_179 rfl (by decide) rfl rfl ?_
    refine x_goto 167 dX12_goes_182 (by decide) ?_
    refine (show X _ _ 167 _ _ _ _ _ _ from ?_)
    exact ih
theorem c_goes {m rw : Nat} {lw sd : Int} (hM : MSh T R r) (hf : R r 3 = some f) (hG : FMS T R f) (hF : FMC V f A) (hA : VA A) (hB : VB A B) (hap : apF f r) (hv : NV (E 2) A B) (hm : m ≤ fY A) (hrw : E 0 41 = (rw : Int)) (hr4 : rw ≤ 4) (hBg : Bg A W0 lw sd) (hTr : TrM E W0) (hNi : NOk Ni) (hch : ∀ y, y < m → y < rw → rComes A B (rTo A B rw (E 22) W0 y) y = -3 → 0 ≤ E 22 y ∧ (rCn A B (rTo A B rw (E 22) W0 y) y).testBit (E 22 y).toNat = true) : X g mX12_goes 0 [.ref r, .int (iI lw), .int (iI sd), .int (iI (m : Int)), jk] [] (T, iV (pB V r 24 E), R, J, z) k n (fun v M => v = none ∧ ∃ E', M = (T, iV (pB V r 24 E'), R, J, z) ∧ GI A B (rTo A B rw (E 22) W0) (mTo A B rw (E 22) W0 (nBeg A Ni)) E E' m ∧ E' 6 (fY A) = (sOf (fP A) (thE A B E' (fY A)) : Nat)) := by
  have eP := fP10 hA
  have eS := fS8 hA
  have hlast := fun (E1 : Nat → Nat → Int) h1 h2 h3 h4 h5 => c_goesY (g := g) (V := V) (J := J) (z := z) (k := k) (n := n) (B := B) (E := E1) (W0 := W0) (m := m) (rw := rw) (lw := lw) (sd := sd) (N0 := nBeg A Ni) hM hf hG hF hA hB hap h1 hm h2 h3 h4 h5
  obtain ⟨m0, ⟨-, -, -, -, -, m21, -, -, -, -, -, -, -, -, m30, m31, m32, m33, m34, m35, -, -, -⟩, ⟨-, -, -, -, -, mk6, -, -, -, -, -, -, -, -, mk15, mk16, mk17, mk18, mk19, mk20, -, -, -⟩⟩ := id hM
  obtain ⟨g0, ⟨-, -, -, g13, -, -, -, -, -, -, -, -, -, -, -, g25, -, -, -, -, -, -, -⟩, ⟨-, -, -, gk4, -, -, -, -, -, -, -, -, -, -, -, gk16, -, -, -, -, -, -, -⟩⟩ := id hG
  have e3 := hF.1 3 (by decide)
  have e6 := hF.1 6 (by decide)
  have hA3 := hA.2.2.2.1
  have hA16 := hA.2.2.2.2.2.2.2.2.2.2.2.2.1
  have hF16 := hF.2.2.2.2.1
  unfold apF at hap
  obtain ⟨⟨b1, b2, b5, b6, b7, b8, b9⟩, bp, bk⟩ := hBg
  have ok1 := nB1_ok (N := u2 Ni 0 1 0) (NOk.u0 hNi ⟨by decide, by decide⟩) 10
  -- the notes begin
  have nz : ∀ c, lp c nB1 (u2 Ni 0 1 0) 0 1 = 0 ∧ ∀ p, p < c → lp c nB1 (u2 Ni 0 1 0) 1 p = 0 := by
    intro c
    induction c with
    | zero => exact ⟨by show u2 Ni 0 1 0 0 1 = 0; rw [u2_s, u1_s], fun p hp => absurd hp (by omega)⟩
    | succ c ih =>
      rw [lp_s]
      unfold nB1 at ih ⊢
      refine ⟨by rw [u2_n (by decide)]; exact ih.1, fun p hp => ?_⟩
      rw [u2_s]
      by_cases e : p = c
      · rw [e, u1_s]
      · rw [u1_n e]; exact ih.2 p (by omega)
  have nz10 := nz 10
  have nb : ∀ c, c ≤ fSe A → lp c (nB2 A) (lp 10 nB1 (u2 Ni 0 1 0)) 0 1 = 0 ∧ ∀ p, p < 10 → (lp c (nB2 A) (lp 10 nB1 (u2 Ni 0 1 0)) 1 p).toNat < 2 ^ fSe A := by
    intro c
    induction c with
    | zero => exact fun _ => ⟨nz10.1, fun p hp => by show (lp 10 nB1 (u2 Ni 0 1 0) 1 p).toNat < _; rw [nz10.2 p hp]; exact Nat.two_pow_pos _⟩
    | succ c ih =>
      intro hc
      have ih := ih (by omega)
      rw [lp_s]
      generalize lp c (nB2 A) (lp 10 nB1 (u2 Ni 0 1 0)) = N1 at *
      unfold nB2
      refine ⟨by rw [u2_n (by decide)]; exact ih.1, fun p hp => ?_⟩
      rw [u2_s]
      by_cases e : p = (A 16 c).toNat
      · rw [e, u1_s, Int.toNat_natCast]
        have := hA16 c (by omega)
        exact or_lt2 (ih.2 _ (by omega)) (by omega)
      · rw [u1_n e]; exact ih.2 p hp
  refine x_aload_n dX12_goes_0 rfl ?_
  refine x_iload_n dX12_goes_1 rfl ?_
  refine b_pi0 (r := r) (m := 24) dX12_goes_2 (pX12_430 _) (by first | assumption) (fun _ _ _ => rfl) rfl rfl (by decide) ?_
  refine x_aload_n dX12_goes_5 rfl ?_
  refine x_iload_n dX12_goes_6 rfl ?_
  refine b_pi0 (r := r) (m := 24) dX12_goes_7 (pX12_431 _) (by first | assumption) (fun _ _ _ => rfl) rfl rfl (by decide) ?_
  refine x_aload_n dX12_goes_10 rfl ?_
  refine y_iconst dX12_goes_11 ?_
  refine (show X _ _ 12 _ _ _ _ _ _ from ?_)
  refine b_pi0 (r := r) (m := 24) dX12_goes_12 (pX12_434 _) (by first | assumption) (fun _ _ _ => rfl) rfl rfl (by decide) ?_
  refine x_aload_n dX12_goes_15 rfl ?_
  refine y_iconst dX12_goes_16 ?_
  refine b_pi0 (r := r) (m := 24) dX12_goes_17 (pX12_437 _) (by first | assumption) (fun _ _ _ => rfl) rfl rfl (by decide) ?_
  refine x_aload_n dX12_goes_20 rfl ?_
  refine y_iconst dX12_goes_21 ?_
  refine b_pi0 (r := r) (m := 24) dX12_goes_22 (pX12_440 _) (by first | assumption) (fun _ _ _ => rfl) rfl rfl (by decide) ?_
  refine x_aload_n dX12_goes_25 rfl ?_
  refine (show X _ _ 26 _ _ _ _ _ _ from ?_)
  refine y_bipush dX12_goes_26 rfl ?_
  refine b_pi0 (r := r) (m := 24) dX12_goes_28 (pX12_443 _) (by first | assumption) (fun _ _ _ => rfl) rfl rfl (by decide) ?_
  refine y_iconst dX12_goes_31 ?_
  refine x_istore dX12_goes_32 (by decide) rfl rfl ?_
  refine (show X _ _ 34 _ _ _ _ _ _ from ?_)
  generalize hE0 : u2 (u2 (u2 (u2 (u2 (u2 E 0 40 lw) 0 39 sd) 0 44 0) 0 46 0) 0 38 0) 0 45 (-2) = F0
  have f0 : ∀ c, c ≠ 38 → c ≠ 39 → c ≠ 40 → c ≠ 44 → c ≠ 45 → c ≠ 46 → F0 0 c = E 0 c := fun c c1 c2 c3 c4 c5 c6 => by rw [← hE0, u2_s, u1_n c5, u2_s, u1_n c1, u2_s, u1_n c6, u2_s, u1_n c4, u2_s, u1_n c2, u2_s, u1_n c3]
  have f1 : F0 0 40 = lw ∧ F0 0 39 = sd ∧ F0 0 44 = 0 ∧ F0 0 46 = 0 ∧ F0 0 38 = 0 ∧ F0 0 45 = -2 := by
    rw [← hE0]
    simp (discharger := decide) only [u2_s, u1_s, u1_n, and_self]
  have f2 : ∀ a, a ≠ 0 → F0 a = E a := fun a ha => by rw [← hE0, u2_n ha, u2_n ha, u2_n ha, u2_n ha, u2_n ha, u2_n ha]
  refine loopN (P := fun p => ∀ E1 : Nat → Nat → Int, (∀ a, a ≠ 15 → a ≠ 16 → a ≠ 17 → a ≠ 18 → a ≠ 19 → a ≠ 20 → E1 a = F0 a) → (∀ q, q < p → E1 15 q = 0 ∧ (q < fP A → E1 16 q = A 4 q) ∧ E1 17 q = 0 ∧ E1 18 q = 0 ∧ E1 19 q = 0 ∧ E1 20 q = 25) → X g mX12_goes 34 [.ref r, .int (iI lw), .int (iI sd), .int (iI (m : Int)), .int (iI (p : Int))] [] (T, iV (pB V r 24 E1), R, J, z) k n (fun v M => v = none ∧ ∃ E', M = (T, iV (pB V r 24 E'), R, J, z) ∧ GI A B (rTo A B rw (E 22) W0) (mTo A B rw (E 22) W0 (nBeg A Ni)) E E' m ∧ E' 6 (fY A) = (sOf (fP A) (thE A B E' (fY A)) : Nat))) 10 ?_ (fun p hp ih => ?_) F0 (fun _ _ _ _ _ _ _ => rfl) (fun q hq => absurd hq (by omega))
  · intro E1 q1 q2
    refine x_iload dX12_goes_34 rfl ?_
    refine y_bipush dX12_goes_36 rfl ?_
    refine (show X _ _ 38 _ _ _ _ _ _ from ?_)
    refine y_icmp_ge 121 dX12_goes_38 (by decide) ⟨by omega, by omega⟩ ⟨by omega, by omega⟩ (fun h1 => ?_) (fun h1 => ?_)
    rotate_left
    · omega
    refine y_iconst dX12_goes_121 ?_
    refine x_istore dX12_goes_122 (by decide) rfl rfl ?_
    refine (show X _ _ 124 _ _ _ _ _ _ from ?_)
    refine loopN (P := fun s => ∀ E2 : Nat → Nat → Int, (∀ a, a ≠ 17 → E2 a = E1 a) → (∀ p, p < 10 → E2 17 p = lp s (nB2 A) (lp 10 nB1 (u2 Ni 0 1 0)) 1 p) → X g mX12_goes 124 [.ref r, .int (iI lw), .int (iI sd), .int (iI (m : Int)), .int (iI (s : Int))] [] (T, iV (pB V r 24 E2), R, J, z) k n (fun v M => v = none ∧ ∃ E', M = (T, iV (pB V r 24 E'), R, J, z) ∧ GI A B (rTo A B rw (E 22) W0) (mTo A B rw (E 22) W0 (nBeg A Ni)) E E' m ∧ E' 6 (fY A) = (sOf (fP A) (thE A B E' (fY A)) : Nat))) (fSe A) ?_ (fun s hs ih => ?_) E1 (fun _ _ => rfl) (fun p hp => by show E1 17 p = lp 10 nB1 (u2 Ni 0 1 0) 1 p; rw [(q2 p hp).2.2.1, nz10.2 p hp])
    · intro E2 w1 w2
      refine x_iload dX12_goes_124 rfl ?_
      refine x_aload_n dX12_goes_126 rfl ?_
      refine x_gr dX12_goes_127 fX12_409 (by first | assumption) (fun _ _ _ => rfl) (by first | assumption) ?_
      refine b_gio (r := r) (m := 24) dX12_goes_130 fX12_375 (by first | assumption) (fun _ _ _ => rfl) (by omega) ?_
      refine (show X _ _ 133 _ _ _ _ _ _ from ?_)
      refine X.val e6 ?_
      refine y_icmp_ge 164 dX12_goes_133 (by decide) ⟨by omega, by omega⟩ ⟨by omega, by omega⟩ (fun h2 => ?_) (fun h2 => ?_)
      rotate_left
      · omega
      refine y_iconst dX12_goes_164 ?_
      refine x_istore dX12_goes_165 (by decide) rfl rfl ?_
      refine (show X _ _ 167 _ _ _ _ _ _ from ?_)
      have hr0 : ∀ c, E2 0 c = F0 0 c := fun c => by rw [w1 0 (by decide), q1 0 (by decide) (by decide) (by decide) (by decide) (by decide) (by decide)]
      have hra : ∀ a, a ≠ 0 → a ≠ 15 → a ≠ 16 → a ≠ 17 → a ≠ 18 → a ≠ 19 → a ≠ 20 → E2 a = E a := fun a a0 a15 a16 a17 a18 a19 a20 => by rw [w1 a a17, q1 a a15 a16 a17 a18 a19 a20, f2 a a0]
      have e22 : E2 22 = E 22 := hra 22 (by decide) (by decide) (by decide) (by decide) (by decide) (by decide) (by decide)
      have hgi : GI A B (rTo A B rw (E 22) W0) (mTo A B rw (E 22) W0 (nBeg A Ni)) E2 E2 0 := by
        refine ⟨⟨⟨?_, ?_, ?_, ?_, ?_⟩, fun p hp => ⟨?_, ?_, ?_⟩, fun p hp => ⟨⟨?_, ?_⟩, ?_⟩, ?_, fun i hi => absurd hi (by omega), fun p hp _ => ?_, bk, ?_⟩, ⟨?_, fun p hp => ?_, fun s hs ht => ?_, nBeg_ok hA hNi, fun p hp => (nb (fSe A) (Nat.le_refl _)).2 p hp⟩, fun i hi => absurd hi (by omega), ⟨fun p hp => ?_, fun p hp i hi => ?_⟩, fun _ _ => rfl, fun _ _ _ _ _ _ _ => rfl⟩
        · rw [hr0, f1.1]; exact b1.symm
        · rw [hr0, f1.2.1]; exact b2.symm
        · rw [hr0, f1.2.2.1]; exact b9.symm
        · rw [hr0, f1.2.2.2.1]; exact b8.symm
        · rw [hr0, f1.2.2.2.2.2]; show _ = if W0 0 7 = -1 then _ else _; rw [if_pos b7]
        · rw [w1 15 (by decide), (q2 p (by omega)).1]; exact (bp p hp).1.symm
        · rw [w1 16 (by decide), (q2 p (by omega)).2.1 hp]; exact (bp p hp).2.1.symm
        · rw [w1 18 (by decide), (q2 p (by omega)).2.2.2.1]; exact (bp p hp).2.2.symm
        · rw [w1 20 (by decide), (q2 p (by omega)).2.2.2.2.2]; decide
        · exact Or.inr (by rw [w1 20 (by decide), (q2 p (by omega)).2.2.2.2.2])
        · rw [w1 20 (by decide), (q2 p (by omega)).2.2.2.2.2]
          show (W0 0 5).toNat.testBit p = _
          rw [b5]
          exact Nat.zero_testBit p
        · constructor
          · intro c; exact absurd b6 c
          · intro c; exact absurd rfl c.1
        · show 1 ≤ W0 2 p
          rw [(bp p hp).2.1]
          exact (hA.2.2.2.2.2.2.2.2.2.1 p hp).2.2.2.1.1
        · show TrM E2 W0
          unfold TrM
          rw [hr0, hr0, f0 42 (by decide) (by decide) (by decide) (by decide) (by decide) (by decide), f0 43 (by decide) (by decide) (by decide) (by decide) (by decide) (by decide)]
          exact hTr
        · rw [hr0, f1.2.2.2.2.1]; exact (nb (fSe A) (Nat.le_refl _)).1.symm
        · exact w2 p hp
        · exfalso
          have : nBeg A Ni 0 1 = 0 := (nb (fSe A) (Nat.le_refl _)).1
          have ht : (nBeg A Ni 0 1).toNat.testBit s = true := ht
          rw [this] at ht
          rw [show (0 : Int).toNat = 0 from rfl, Nat.zero_testBit] at ht
          cases ht
        · rw [w1 19 (by decide), (q2 p hp).2.2.2.2.1]; rfl
        · rw [w1 20 (by decide), (q2 p (by omega)).2.2.2.2.2, show i = 0 by omega]
          show (W0 0 5).toNat.testBit p = _
          rw [b5]
          exact Nat.zero_testBit p
      have hl := hlast E2 (by rw [hra 2 (by decide) (by decide) (by decide) (by decide) (by decide) (by decide) (by decide)]; exact hv) (by rw [hr0, f0 41 (by decide) (by decide) (by decide) (by decide) (by decide) (by decide)]; exact hrw) hr4 (by rw [e22]; exact hch) (by rw [e22]; exact hgi)
      rw [e22] at hl
      refine X.mono hl ?_
      rintro v M ⟨rfl, E', rfl, hg, h6⟩
      refine ⟨rfl, E', rfl, ⟨hg.1, hg.2.1, hg.2.2.1, hg.2.2.2.1, fun a ha => by rw [hg.2.2.2.2.1 a ha, hra a (by omega) (by omega) (by omega) (by omega) (by omega) (by omega) (by omega)], fun c c1 c2 c3 c4 c5 c6 => by rw [hg.2.2.2.2.2 c c1 c2 c3 c4 c5 c6, hr0, f0 c c1 c2 c3 c4 c5 c6]⟩, h6⟩
    · intro E2 w1 w2
      have v16 := hF16 s hs
      have hb16 := hA16 s hs
      have oks := nB2_ok hA ok1 s (by omega)
      have hk := oks.2.1 (A 16 s).toNat (by omega)
      rw [lp_s] at ih
      generalize lp s (nB2 A) (lp 10 nB1 (u2 Ni 0 1 0)) = N1 at *
      unfold nB2 at ih
      have e17 : E2 17 (A 16 s).toNat = ((N1 1 (A 16 s).toNat).toNat : Int) := by rw [w2 _ (by omega)]; omega
      refine x_iload dX12_goes_124 rfl ?_
      refine x_aload_n dX12_goes_126 rfl ?_
      refine x_gr dX12_goes_127 fX12_409 (by first | assumption) (fun _ _ _ => rfl) (by first | assumption) ?_
      refine b_gio (r := r) (m := 24) dX12_goes_130 fX12_375 (by first | assumption) (fun _ _ _ => rfl) (by omega) ?_
      refine (show X _ _ 133 _ _ _ _ _ _ from ?_)
      refine X.val e6 ?_
      refine y_icmp_ge 164 dX12_goes_133 (by decide) ⟨by omega, by omega⟩ ⟨by omega, by omega⟩ (fun h2 => ?_) (fun h2 => ?_)
      · omega
      refine x_aload_n dX12_goes_136 rfl ?_
      refine x_gr dX12_goes_137 fX12_64 (by first | assumption) (fun _ _ _ => rfl) (by first | assumption) ?_
      refine x_aload_n dX12_goes_140 rfl ?_
      refine x_gr dX12_goes_141 fX12_409 (by first | assumption) (fun _ _ _ => rfl) (by first | assumption) ?_
      refine x_gr dX12_goes_144 fX12_378 (by first | assumption) (fun _ _ _ => rfl) (by first | assumption) ?_
      refine x_iload dX12_goes_147 rfl ?_
      refine b_ialo (r := r) (m := 24) (s) dX12_goes_149 (by first | assumption) (by first | rfl | omega) (by omega) (by decide) (by omega) ?_
      refine (show X _ _ 150 _ _ _ _ _ _ from ?_)
      refine X.val v16 ?_
      refine x_dup2 dX12_goes_150 rfl rfl ?_
      refine b_iald (r := r) (m := 24) (j := 17) ((A 16 s).toNat) dX12_goes_151 (by first | assumption) (by first | rfl | omega) (by omega) (by decide) (by decide) ?_
      refine (show X _ _ 152 _ _ _ _ _ _ from ?_)
      refine X.val e17 ?_
      refine y_iconst dX12_goes_152 ?_
      refine x_iload dX12_goes_153 rfl ?_
      refine y_ishl (s) dX12_goes_155 (by first | rfl | omega) (by omega) ?_
      refine y_ior dX12_goes_156 ?_
      refine b_iast (r := r) (m := 24) (j := 17) ((A 16 s).toNat) dX12_goes_157 (by first | assumption) (by first | rfl | omega) (by omega) (by decide) (by decide) ?_
      refine y_iinc dX12_goes_158 rfl (by decide) rfl rfl ?_
      refine x_goto 124 dX12_goes_161 (by decide) ?_
      refine (show X _ _ 124 _ _ _ _ _ _ from ?_)
      refine ih _ (fun a ha => by rw [u2_n ha, w1 a ha]) (fun p hp => ?_)
      rw [u2_s, u2_s]
      by_cases e : p = (A 16 s).toNat
      · rw [e, u1_s, u1_s]
      · rw [u1_n e, u1_n e, w2 p hp]
  · intro E1 q1 q2
    have rest : ∀ (v : Int), (p < fP A → v = A 4 p) → X g mX12_goes 81 [.ref r, .int (iI lw), .int (iI sd), .int (iI (m : Int)), .int (iI (p : Int))] [.int (iI v), .int (iI (p : Int)), .ref (r + 16)] (T, iV (pB V r 24 (u2 E1 15 p 0)), R, J, z) k n (fun v M => v = none ∧ ∃ E', M = (T, iV (pB V r 24 E'), R, J, z) ∧ GI A B (rTo A B rw (E 22) W0) (mTo A B rw (E 22) W0 (nBeg A Ni)) E E' m ∧ E' 6 (fY A) = (sOf (fP A) (thE A B E' (fY A)) : Nat)) := by
      intro v hv
      refine b_iast (r := r) (m := 24) (j := 16) (p) dX12_goes_81 (by first | assumption) (by first | rfl | omega) (by omega) (by decide) (by decide) ?_
      refine x_aload_n dX12_goes_82 rfl ?_
      refine x_gr dX12_goes_83 fX12_64 (by first | assumption) (fun _ _ _ => rfl) (by first | assumption) ?_
      refine x_iload dX12_goes_86 rfl ?_
      refine y_iconst dX12_goes_88 ?_
      refine b_iast (r := r) (m := 24) (j := 17) (p) dX12_goes_89 (by first | assumption) (by first | rfl | omega) (by omega) (by decide) (by decide) ?_
      refine x_aload_n dX12_goes_90 rfl ?_
      refine x_gr dX12_goes_91 fX12_67 (by first | assumption) (fun _ _ _ => rfl) (by first | assumption) ?_
      refine (show X _ _ 94 _ _ _ _ _ _ from ?_)
      refine x_iload dX12_goes_94 rfl ?_
      refine y_iconst dX12_goes_96 ?_
      refine b_iast (r := r) (m := 24) (j := 18) (p) dX12_goes_97 (by first | assumption) (by first | rfl | omega) (by omega) (by decide) (by decide) ?_
      refine x_aload_n dX12_goes_98 rfl ?_
      refine x_gr dX12_goes_99 fX12_70 (by first | assumption) (fun _ _ _ => rfl) (by first | assumption) ?_
      refine x_iload dX12_goes_102 rfl ?_
      refine y_iconst dX12_goes_104 ?_
      refine b_iast (r := r) (m := 24) (j := 19) (p) dX12_goes_105 (by first | assumption) (by first | rfl | omega) (by omega) (by decide) (by decide) ?_
      refine (show X _ _ 106 _ _ _ _ _ _ from ?_)
      refine x_aload_n dX12_goes_106 rfl ?_
      refine x_gr dX12_goes_107 fX12_73 (by first | assumption) (fun _ _ _ => rfl) (by first | assumption) ?_
      refine x_iload dX12_goes_110 rfl ?_
      refine y_bipush dX12_goes_112 rfl ?_
      refine b_iast (r := r) (m := 24) (j := 20) (p) dX12_goes_114 (by first | assumption) (by first | rfl | omega) (by omega) (by decide) (by decide) ?_
      refine y_iinc dX12_goes_115 rfl (by decide) rfl rfl ?_
      refine x_goto 34 dX12_goes_118 (by decide) ?_
      refine (show X _ _ 34 _ _ _ _ _ _ from ?_)
      refine ih _ (fun a a15 a16 a17 a18 a19 a20 => by rw [u2_n a20, u2_n a19, u2_n a18, u2_n a17, u2_n a16, u2_n a15, q1 a a15 a16 a17 a18 a19 a20]) (fun q hq => ?_)
      by_cases e : q = p
      · subst e
        simp (discharger := decide) only [u2_s, u2_n, u1_s]
        exact ⟨trivial, hv, trivial, trivial, trivial, trivial⟩
      · have := q2 q (by omega)
        simp (discharger := first | decide | assumption) only [u2_s, u2_n, u1_n]
        exact this
    refine x_iload dX12_goes_34 rfl ?_
    refine y_bipush dX12_goes_36 rfl ?_
    refine (show X _ _ 38 _ _ _ _ _ _ from ?_)
    refine y_icmp_ge 121 dX12_goes_38 (by decide) ⟨by omega, by omega⟩ ⟨by omega, by omega⟩ (fun h1 => ?_) (fun h1 => ?_)
    · omega
    refine x_aload_n dX12_goes_41 rfl ?_
    refine x_gr dX12_goes_42 fX12_58 (by first | assumption) (fun _ _ _ => rfl) (by first | assumption) ?_
    refine x_iload dX12_goes_45 rfl ?_
    refine y_iconst dX12_goes_47 ?_
    refine b_iast (r := r) (m := 24) (j := 15) (p) dX12_goes_48 (by first | assumption) (by first | rfl | omega) (by omega) (by decide) (by decide) ?_
    refine x_aload_n dX12_goes_49 rfl ?_
    refine x_gr dX12_goes_50 fX12_61 (by first | assumption) (fun _ _ _ => rfl) (by first | assumption) ?_
    refine x_iload dX12_goes_53 rfl ?_
    refine (show X _ _ 55 _ _ _ _ _ _ from ?_)
    refine x_iload dX12_goes_55 rfl ?_
    refine x_aload_n dX12_goes_57 rfl ?_
    refine x_gr dX12_goes_58 fX12_409 (by first | assumption) (fun _ _ _ => rfl) (by first | assumption) ?_
    refine b_gio (r := r) (m := 24) dX12_goes_61 fX12_230 (by first | assumption) (fun _ _ _ => rfl) (by omega) ?_
    refine (show X _ _ 64 _ _ _ _ _ _ from ?_)
    refine X.val e3 ?_
    refine y_icmp_ge 80 dX12_goes_64 (by decide) ⟨by omega, by omega⟩ ⟨by omega, by omega⟩ (fun h2 => ?_) (fun h2 => ?_)
    · refine y_iconst dX12_goes_80 ?_
      refine (show X _ _ 81 _ _ _ _ _ _ from ?_)
      exact rest 0 (fun c => by omega)
    · have v4 : V (f + 4) p = A 4 p := hF.2.1 3 (by decide) p (by omega)
      refine x_aload_n dX12_goes_67 rfl ?_
      refine x_gr dX12_goes_68 fX12_409 (by first | assumption) (fun _ _ _ => rfl) (by first | assumption) ?_
      refine x_gr dX12_goes_71 fX12_330 (by first | assumption) (fun _ _ _ => rfl) (by first | assumption) ?_
      refine x_iload dX12_goes_74 rfl ?_
      refine b_ialo (r := r) (m := 24) (p) dX12_goes_76 (by first | assumption) (by first | rfl | omega) (by omega) (by decide) (by omega) ?_
      refine (show X _ _ 77 _ _ _ _ _ _ from ?_)
      refine X.val v4 ?_
      refine x_goto 81 dX12_goes_77 (by decide) ?_
      refine (show X _ _ 81 _ _ _ _ _ _ from ?_)
      exact rest _ (fun _ => rfl)
end C94
