/-! ===== the reference's year ===== -/
/-- what recording a year leaves -/
def RecQ (E E' : Nat → Nat → Int) (y : Nat) : Prop := (∀ a, a ≠ 8 → a ≠ 11 → a ≠ 12 → a ≠ 13 → a ≠ 14 → E' a = E a) ∧ E' 8 = u1 (E 8) y (E 0 38) ∧ (∀ j, E' 11 j = if 10 * y ≤ j ∧ j < 10 * y + 10 then E 15 (j - 10 * y) else E 11 j) ∧ (∀ j, E' 12 j = if 10 * y ≤ j ∧ j < 10 * y + 10 then E 16 (j - 10 * y) else E 12 j) ∧ (∀ j, E' 13 j = if 10 * y ≤ j ∧ j < 10 * y + 10 then E 17 (j - 10 * y) else E 13 j) ∧ (∀ j, E' 14 j = if 8 * y ≤ j ∧ j < 8 * y + 8 then E 21 (j - 8 * y) else E 14 j)
/-- what a year leaves: behind what is known of who is there and who can -/
def YrQ (A E E' W W' N' : Nat → Nat → Int) (y : Nat) : Prop :=
  RM A E' W' (y + 1) ∧ NM A E' N' ∧ (E' 8 y = N' 0 1 ∧ E' 9 y = W' 0 8 - W 0 8) ∧ (∀ p, p < fP A → E' 11 (10 * y + p) = W' 1 p ∧ E' 12 (10 * y + p) = W' 2 p) ∧ (∀ p, p < 10 → E' 13 (10 * y + p) = N' 1 p) ∧ (∀ s, s < 8 → E' 14 (8 * y + s) = E' 21 s) ∧
  (∀ a, a = 1 ∨ a = 2 ∨ a = 3 ∨ a = 4 ∨ a = 6 ∨ a = 7 ∨ a = 10 ∨ a = 22 ∨ a = 23 → E' a = E a) ∧ (∀ c, c ≠ 38 → c ≠ 39 → c ≠ 44 → c ≠ 45 → c ≠ 46 → E' 0 c = E 0 c) ∧ (∀ j, j ≠ y → E' 8 j = E 8 j ∧ E' 9 j = E 9 j) ∧ (∀ j, j < 10 * y ∨ 10 * y + 10 ≤ j → E' 11 j = E 11 j ∧ E' 12 j = E 12 j ∧ E' 13 j = E 13 j) ∧ (∀ j, j < 8 * y ∨ 8 * y + 8 ≤ j → E' 14 j = E 14 j) ∧
  (∀ p : Nat, E' 19 p = E 19 p + if W' 4 y = (p : Int) then W' 0 8 - W 0 8 else 0) ∧ (∀ p, p < fP A → E' 20 p = E 20 p ∨ (E 20 p = 25 ∧ E' 20 p = (y : Int) + 1))
def nst (A W' N : Nat → Nat → Int) (y : Nat) : Nat → Nat → Int := if 0 ≤ W' 4 y then nTurn A (W' 4 y).toNat (decide (W' 0 6 ≠ 0)) N else N
section Rec
variable {A E E1 E' W W1 N : Nat → Nat → Int} {y : Nat}
theorem RM_con {E'} (h : RM A E W y) (h0 : ∀ c, c = 39 ∨ c = 40 ∨ c = 42 ∨ c = 43 ∨ c = 44 ∨ c = 45 ∨ c = 46 → E' 0 c = E 0 c) (h5 : E' 5 = E 5) (h15 : E' 15 = E 15) (h16 : E' 16 = E 16) (h18 : E' 18 = E 18) (h20 : E' 20 = E 20) : RM A E' W y := by
  obtain ⟨r1, rp, rd, r6, re, ra, rk, rt⟩ := h
  refine ⟨by rw [h0 40 (by omega), h0 39 (by omega), h0 44 (by omega), h0 46 (by omega), h0 45 (by omega)]; exact r1, by rw [h15, h16, h18]; exact rp, by rw [h20]; exact rd, by rw [h20]; exact r6, fun i hi => by rw [h5]; exact re i hi, ra, rk, ?_⟩
  unfold TrM
  rw [h0 42 (by omega), h0 43 (by omega)]
  exact rt
/-- nobody is it -/
theorem yr_none (h : RM A E W y) (hN : NM A E N) (hy : y < 24) (hok : ROk A (takeT A W y (-2)) (y + 1)) (hP10 : fP A ≤ 10) (h9 : E 9 y = 0) (hr : RecQ (u2 E 5 y (-2)) E' y) : YrQ A E E' W (takeT A W y (-2)) (nst A (takeT A W y (-2)) N y) y := by
  obtain ⟨q1, q2, q3, q4, q5, q6⟩ := hr
  have e14 : takeT A W y (-2) 4 y = -2 := by rw [takeT_n, (tk1_r (W := W) (y := y) (-2)).2.2.2.2.2, u1_s]
  have e8 : takeT A W y (-2) 0 8 = W 0 8 := by rw [takeT_n, (tk1_r (W := W) (y := y) (-2)).1 8 (by decide) (by decide)]
  have hRM : RM A E' (takeT A W y (-2)) (y + 1) := RM_none h hy hok (fun c _ => by rw [q1 0 (by decide) (by decide) (by decide) (by decide) (by decide), u2_n (by decide)]) (by rw [q1 15 (by decide) (by decide) (by decide) (by decide) (by decide), u2_n (by decide)]) (by rw [q1 16 (by decide) (by decide) (by decide) (by decide) (by decide), u2_n (by decide)]) (by rw [q1 18 (by decide) (by decide) (by decide) (by decide) (by decide), u2_n (by decide)]) (by rw [q1 20 (by decide) (by decide) (by decide) (by decide) (by decide), u2_n (by decide)]) (by rw [q1 5 (by decide) (by decide) (by decide) (by decide) (by decide), u2_s])
  have hNM : NM A E' N := NM_eq hN (by rw [q1 0 (by decide) (by decide) (by decide) (by decide) (by decide), u2_n (by decide)]) (by rw [q1 17 (by decide) (by decide) (by decide) (by decide) (by decide), u2_n (by decide)]) (by rw [q1 21 (by decide) (by decide) (by decide) (by decide) (by decide), u2_n (by decide)])
  unfold nst
  rw [e14, if_neg (by decide)]
  refine ⟨hRM, hNM, ⟨?_, ?_⟩, fun p hp => ⟨?_, ?_⟩, fun p hp => ?_, fun s hs => ?_, fun a ha => ?_, fun c c1 c2 c3 c4 c5 => ?_, fun j hj => ⟨?_, ?_⟩, fun j hj => ⟨?_, ?_, ?_⟩, fun j hj => ?_, fun p => ?_, fun p hp => ?_⟩
  · rw [q2, u1_s, u2_n (by decide)]; exact hN.1
  · rw [q1 9 (by decide) (by decide) (by decide) (by decide) (by decide), u2_n (by decide), h9, e8]; omega
  · rw [q3, if_pos (by omega), u2_n (by decide), show 10 * y + p - 10 * y = p by omega, takeT_n, (tk1_r (W := W) (y := y) (-2)).2.2.1]; exact (h.2.1 p hp).1
  · rw [q4, if_pos (by omega), u2_n (by decide), show 10 * y + p - 10 * y = p by omega, takeT_n, (tk1_r (W := W) (y := y) (-2)).2.2.2.1]; exact (h.2.1 p hp).2.1
  · rw [q5, if_pos (by omega), u2_n (by decide), show 10 * y + p - 10 * y = p by omega]; exact hN.2.1 p hp
  · rw [q6, if_pos (by omega), show 8 * y + s - 8 * y = s by omega, q1 21 (by decide) (by decide) (by decide) (by decide) (by decide)]
  · rw [q1 a (by omega) (by omega) (by omega) (by omega) (by omega), u2_n (by omega)]
  · rw [q1 0 (by decide) (by decide) (by decide) (by decide) (by decide), u2_n (by decide)]
  · rw [q2, u1_n hj, u2_n (by decide)]
  · rw [q1 9 (by decide) (by decide) (by decide) (by decide) (by decide), u2_n (by decide)]
  · rw [q3, if_neg (by omega), u2_n (by decide)]
  · rw [q4, if_neg (by omega), u2_n (by decide)]
  · rw [q5, if_neg (by omega), u2_n (by decide)]
  · rw [q6, if_neg (by omega), u2_n (by decide)]
  · rw [q1 19 (by decide) (by decide) (by decide) (by decide) (by decide), u2_n (by decide), e14, e8]
    split <;> omega
  · exact Or.inl (by rw [q1 20 (by decide) (by decide) (by decide) (by decide) (by decide), u2_n (by decide)])
/-- q is it -/
theorem yr_some {q : Nat} {E3 : Nat → Nat → Int} (h : RM A E W y) (hN : NM A E N) (hy : y < 24) (hq : q < fP A) (hP : (fP A : Int) = A 0 3) (hP10 : fP A ≤ 10) (hal : (dd W).testBit q = false) (w1 : ∀ a j, ¬ (a = 0 ∧ j = 2) → a ≠ 3 → W1 a j = W a j) (hok : ROk A (takeT A W1 y (q : Int)) (y + 1))
    (e0 : ∀ c, c ≠ 39 → E1 0 c = E 0 c) (e39 : E1 0 39 = W1 0 2) (e18 : ∀ p, p < fP A → E1 18 p = W1 3 p) (ea : ∀ a, a ≠ 0 → a ≠ 18 → E1 a = E a) (h9 : E 9 y = 0) (hs : SitQ A (u2 E1 5 y (q : Int)) E3 N q y) (hr : RecQ E3 E' y) : YrQ A E E' W (takeT A W1 y (q : Int)) (nst A (takeT A W1 y (q : Int)) N y) y := by
  obtain ⟨s1, s2, s3, s4, s5, s6, s7, s8, s9, s10, s11⟩ := hs
  obtain ⟨q1, q2, q3, q4, q5, q6⟩ := hr
  obtain ⟨t1, t7, t8, t11, t12, t13, t14, t5⟩ := takeT_q (A := A) (W := W1) (y := y) q
  have u5 : ∀ a, a ≠ 5 → u2 E1 5 y (q : Int) a = E1 a := fun a ha => u2_n ha
  rw [u5 9 (by decide), u5 0 (by decide), ea 9 (by decide) (by decide), h9, e0 46 (by decide)] at s4
  rw [u5 9 (by decide), ea 9 (by decide) (by decide), h9] at s5
  rw [u5 15 (by decide), ea 15 (by decide) (by decide)] at s6
  rw [u5 16 (by decide), ea 16 (by decide) (by decide)] at s7 s10 s11
  rw [u5 18 (by decide)] at s8
  rw [u5 19 (by decide), ea 19 (by decide) (by decide)] at s9
  rw [u5 20 (by decide), u5 0 (by decide), ea 20 (by decide) (by decide), e0 44 (by decide)] at s10
  have e8 : W1 0 8 = W 0 8 := w1 0 8 (by omega) (by decide)
  have c0 : ∀ c, c ≠ 38 → c ≠ 44 → c ≠ 45 → c ≠ 46 → E3 0 c = E1 0 c := fun c c1 c2 c3 c4 => by rw [s2 c c1 c2 c3 c4, u5 0 (by decide)]
  have rec0 : E' 0 = E3 0 := q1 0 (by decide) (by decide) (by decide) (by decide) (by decide)
  have hb := RM_take (E' := E') h hy hq hP hal w1 hok (fun c hc => by rw [rec0, c0 c (by omega) (by omega) (by omega) (by omega), e0 c (by omega)]) (by rw [rec0, c0 39 (by decide) (by decide) (by decide) (by decide), e39]) (by rw [rec0, s3]) (by rw [rec0, s4]; omega) (by rw [q1 15 (by decide) (by decide) (by decide) (by decide) (by decide), s6]) (by rw [q1 16 (by decide) (by decide) (by decide) (by decide) (by decide), s7])
    (fun p hp => by
      rw [q1 18 (by decide) (by decide) (by decide) (by decide) (by decide), s8]
      by_cases c : A 1 q = 2
      · rw [if_pos c, if_pos c]
        by_cases e : p = q
        · rw [e, u1_s, u1_s, e18 q hq]
        · rw [u1_n e, u1_n e, e18 p hp]
      · rw [if_neg c, if_neg c, e18 p hp])
    (by rw [rec0, q1 20 (by decide) (by decide) (by decide) (by decide) (by decide)]; exact s10) (by rw [q1 5 (by decide) (by decide) (by decide) (by decide) (by decide), s1 5 (by decide) (by decide) (by decide) (by decide) (by decide) (by decide) (by decide) (by decide) (by decide), u2_s, ea 5 (by decide) (by decide)])
  obtain ⟨hRM, hdl⟩ := hb
  have e4 : takeT A W1 y (q : Int) 4 y = (q : Int) := by rw [t14, u1_s]
  have ed : decide (E 16 q - 1 = 0) = decide (takeT A W1 y (q : Int) 0 6 ≠ 0) := by
    by_cases c : E 16 q - 1 = 0
    · rw [decide_eq_true c, decide_eq_true (hdl.mpr c)]
    · rw [decide_eq_false c, decide_eq_false (fun d => c (hdl.mp d))]
  have hNM : NM A E' (nst A (takeT A W1 y (q : Int)) N y) := by
    unfold nst
    rw [e4, if_pos (by omega), Int.toNat_natCast, ← ed]
    exact NM_eq s11 (by rw [rec0]) (q1 17 (by decide) (by decide) (by decide) (by decide) (by decide)) (q1 21 (by decide) (by decide) (by decide) (by decide) (by decide))
  refine ⟨hRM, hNM, ⟨?_, ?_⟩, fun p hp => ⟨?_, ?_⟩, fun p hp => ?_, fun s hs => ?_, fun a ha => ?_, fun c c1 c2 c3 c4 c5 => ?_, fun j hj => ⟨?_, ?_⟩, fun j hj => ⟨?_, ?_, ?_⟩, fun j hj => ?_, fun p => ?_, fun p hp => ?_⟩
  · rw [q2, u1_s, ← rec0]; exact hNM.1
  · rw [q1 9 (by decide) (by decide) (by decide) (by decide) (by decide), s5.1, t8, e8]; omega
  · rw [q3, if_pos (by omega), show 10 * y + p - 10 * y = p by omega, ← q1 15 (by decide) (by decide) (by decide) (by decide) (by decide)]; exact (hRM.2.1 p hp).1
  · rw [q4, if_pos (by omega), show 10 * y + p - 10 * y = p by omega, ← q1 16 (by decide) (by decide) (by decide) (by decide) (by decide)]; exact (hRM.2.1 p hp).2.1
  · rw [q5, if_pos (by omega), show 10 * y + p - 10 * y = p by omega, ← q1 17 (by decide) (by decide) (by decide) (by decide) (by decide)]; exact hNM.2.1 p hp
  · rw [q6, if_pos (by omega), show 8 * y + s - 8 * y = s by omega, q1 21 (by decide) (by decide) (by decide) (by decide) (by decide)]
  · rw [q1 a (by omega) (by omega) (by omega) (by omega) (by omega), s1 a (by omega) (by omega) (by omega) (by omega) (by omega) (by omega) (by omega) (by omega) (by omega), u5 a (by omega), ea a (by omega) (by omega)]
  · rw [rec0, c0 c c1 c3 c4 c5, e0 c c2]
  · rw [q2, u1_n hj, s1 8 (by decide) (by decide) (by decide) (by decide) (by decide) (by decide) (by decide) (by decide) (by decide), u5 8 (by decide), ea 8 (by decide) (by decide)]
  · rw [q1 9 (by decide) (by decide) (by decide) (by decide) (by decide), s5.2 j hj]
  · rw [q3, if_neg (by omega), s1 11 (by decide) (by decide) (by decide) (by decide) (by decide) (by decide) (by decide) (by decide) (by decide), u5 11 (by decide), ea 11 (by decide) (by decide)]
  · rw [q4, if_neg (by omega), s1 12 (by decide) (by decide) (by decide) (by decide) (by decide) (by decide) (by decide) (by decide) (by decide), u5 12 (by decide), ea 12 (by decide) (by decide)]
  · rw [q5, if_neg (by omega), s1 13 (by decide) (by decide) (by decide) (by decide) (by decide) (by decide) (by decide) (by decide) (by decide), u5 13 (by decide), ea 13 (by decide) (by decide)]
  · rw [q6, if_neg (by omega), s1 14 (by decide) (by decide) (by decide) (by decide) (by decide) (by decide) (by decide) (by decide) (by decide), u5 14 (by decide), ea 14 (by decide) (by decide)]
  · rw [q1 19 (by decide) (by decide) (by decide) (by decide) (by decide), e4, t8, e8]
    by_cases c : p = q
    · rw [c, if_pos rfl, s9.1]; omega
    · rw [if_neg (by omega), s9.2 p c]; omega
  · rw [q1 20 (by decide) (by decide) (by decide) (by decide) (by decide)]
    by_cases c : E 16 q - 1 = 0
    · rw [if_pos c] at s10
      rw [s10.1]
      by_cases e : p = q
      · refine Or.inr ⟨?_, by rw [e, u1_s]⟩
        have hh := h.2.2.1 q hq
        rw [hal] at hh
        have := of_decide_eq_false hh.2.symm
        rw [e]; omega
      · exact Or.inl (u1_n e)
    · rw [if_neg c] at s10
      exact Or.inl (by rw [s10.1])
end Rec
section C92
variable {g : GG} {T : Nat → Nat × Nat} {V E A B W N : Nat → Nat → Int} {R : Nat → Nat → Option Nat} {J : Nat → Nat → Int64} {z k n : Nat} {r f : Nat}
theorem c_yrRec {y : Nat} {x : Int} {Q : Option Value → Mem → Prop} (hM : MSh T R r) (hy : y < 24) (kk : ∀ E', RecQ E E' y → Q none (T, iV (pB V r 24 E'), R, J, z)) : X g mX12_year 218 [.ref r, .int (iI (y : Int)), .int (iI x), jk] [] (T, iV (pB V r 24 E), R, J, z) k n Q := by
  obtain ⟨m0, ⟨-, -, -, -, m20, m21, m22, m23, m24, m25, m26, m27, m28, m29, m30, m31, m32, -, -, m35, m36, m37, -⟩, ⟨-, -, -, -, mk5, mk6, mk7, mk8, mk9, mk10, mk11, mk12, mk13, mk14, mk15, mk16, mk17, -, -, mk20, mk21, mk22, -⟩⟩ := id hM
  refine y_iconst dX12_year_218 ?_
  refine x_istore_n dX12_year_219 (by decide) rfl rfl ?_
  refine (show X _ _ 220 _ _ _ _ _ _ from ?_)
  refine loopN (P := fun i => ∀ E1 : Nat → Nat → Int, (∀ a, a ≠ 11 → a ≠ 12 → a ≠ 13 → E1 a = E a) → (∀ j, E1 11 j = if 10 * y ≤ j ∧ j < 10 * y + i then E 15 (j - 10 * y) else E 11 j) → (∀ j, E1 12 j = if 10 * y ≤ j ∧ j < 10 * y + i then E 16 (j - 10 * y) else E 12 j) → (∀ j, E1 13 j = if 10 * y ≤ j ∧ j < 10 * y + i then E 17 (j - 10 * y) else E 13 j) → X g mX12_year 220 [.ref r, .int (iI (y : Int)), .int (iI x), .int (iI (i : Int))] [] (T, iV (pB V r 24 E1), R, J, z) k n Q) 10 ?_ (fun i hi ih => ?_) E (fun _ _ _ _ => rfl) (fun j => by rw [if_neg (by omega)]) (fun j => by rw [if_neg (by omega)]) (fun j => by rw [if_neg (by omega)])
  · intro E1 q1 q2 q3 q4
    refine x_iload_n dX12_year_220 rfl ?_
    refine y_bipush dX12_year_221 rfl ?_
    refine (show X _ _ 223 _ _ _ _ _ _ from ?_)
    refine y_icmp_ge 283 dX12_year_223 (by decide) ⟨by omega, by omega⟩ ⟨by omega, by omega⟩ (fun h1 => ?_) (fun h1 => ?_)
    rotate_left
    · omega
    refine x_aload_n dX12_year_283 rfl ?_
    refine x_gr dX12_year_284 fX12_36 (by first | assumption) (fun _ _ _ => rfl) (by first | assumption) ?_
    refine x_iload_n dX12_year_287 rfl ?_
    refine x_aload_n dX12_year_288 rfl ?_
    refine b_gi0 (r := r) (m := 24) dX12_year_289 fX12_440 (by first | assumption) (fun _ _ _ => rfl) (by decide) ?_
    refine b_iast (r := r) (m := 24) (j := 8) (y) dX12_year_292 (by first | assumption) (by first | rfl | omega) (by omega) (by decide) (by decide) ?_
    refine y_iconst dX12_year_293 ?_
    refine x_istore_n dX12_year_294 (by decide) rfl rfl ?_
    refine (show X _ _ 295 _ _ _ _ _ _ from ?_)
    refine loopN (P := fun i => ∀ E2 : Nat → Nat → Int, (∀ a, a ≠ 14 → E2 a = u2 E1 8 y (E1 0 38) a) → (∀ j, E2 14 j = if 8 * y ≤ j ∧ j < 8 * y + i then E 21 (j - 8 * y) else E 14 j) → X g mX12_year 295 [.ref r, .int (iI (y : Int)), .int (iI x), .int (iI (i : Int))] [] (T, iV (pB V r 24 E2), R, J, z) k n Q) 8 ?_ (fun i hi ih => ?_) _ (fun _ _ => rfl) (fun j => by rw [if_neg (by omega), u2_n (by decide), q1 14 (by decide) (by decide) (by decide)])
    · intro E2 w1 w2
      refine x_iload_n dX12_year_295 rfl ?_
      refine y_bipush dX12_year_296 rfl ?_
      refine (show X _ _ 298 _ _ _ _ _ _ from ?_)
      refine y_icmp_ge 324 dX12_year_298 (by decide) ⟨by omega, by omega⟩ ⟨by omega, by omega⟩ (fun h2 => ?_) (fun h2 => ?_)
      rotate_left
      · omega
      refine x_return dX12_year_324 rfl (kk E2 ⟨fun a a8 a11 a12 a13 a14 => by rw [w1 a a14, u2_n a8, q1 a a11 a12 a13], by rw [w1 8 (by decide), u2_s, q1 8 (by decide) (by decide) (by decide), q1 0 (by decide) (by decide) (by decide)], fun j => by rw [w1 11 (by decide), u2_n (by decide), q2], fun j => by rw [w1 12 (by decide), u2_n (by decide), q3], fun j => by rw [w1 13 (by decide), u2_n (by decide), q4], w2⟩)
    · intro E2 w1 w2
      refine x_iload_n dX12_year_295 rfl ?_
      refine y_bipush dX12_year_296 rfl ?_
      refine (show X _ _ 298 _ _ _ _ _ _ from ?_)
      refine y_icmp_ge 324 dX12_year_298 (by decide) ⟨by omega, by omega⟩ ⟨by omega, by omega⟩ (fun h2 => ?_) (fun h2 => ?_)
      · omega
      refine x_aload_n dX12_year_301 rfl ?_
      refine x_gr dX12_year_302 fX12_55 (by first | assumption) (fun _ _ _ => rfl) (by first | assumption) ?_
      refine y_bipush dX12_year_305 rfl ?_
      refine x_iload_n dX12_year_307 rfl ?_
      refine y_imul dX12_year_308 ?_
      refine x_iload_n dX12_year_309 rfl ?_
      refine y_iadd dX12_year_310 ?_
      refine x_aload_n dX12_year_311 rfl ?_
      refine (show X _ _ 312 _ _ _ _ _ _ from ?_)
      refine x_gr dX12_year_312 fX12_76 (by first | assumption) (fun _ _ _ => rfl) (by first | assumption) ?_
      refine x_iload_n dX12_year_315 rfl ?_
      refine b_iald (r := r) (m := 24) (j := 21) (i) dX12_year_316 (by first | assumption) (by first | rfl | omega) (by omega) (by decide) (by decide) ?_
      refine b_iast (r := r) (m := 24) (j := 14) (8 * y + i) dX12_year_317 (by first | assumption) (by first | rfl | omega) (by omega) (by decide) (by decide) ?_
      refine y_iinc dX12_year_318 rfl (by decide) rfl rfl ?_
      refine x_goto 295 dX12_year_321 (by decide) ?_
      refine (show X _ _ 295 _ _ _ _ _ _ from ?_)
      refine ih _ (fun a ha => by rw [u2_n ha, w1 a ha]) (fun j => ?_)
      rw [u2_s]
      by_cases e : j = 8 * y + i
      · rw [e, u1_s, if_pos (by omega), w1 21 (by decide), u2_n (by decide), q1 21 (by decide) (by decide) (by decide), show 8 * y + i - 8 * y = i by omega]
      · rw [u1_n e, w2 j]
        by_cases c : 8 * y ≤ j ∧ j < 8 * y + i
        · rw [if_pos c, if_pos (by omega)]
        · rw [if_neg c, if_neg (by omega)]
  · intro E1 q1 q2 q3 q4
    refine x_iload_n dX12_year_220 rfl ?_
    refine y_bipush dX12_year_221 rfl ?_
    refine (show X _ _ 223 _ _ _ _ _ _ from ?_)
    refine y_icmp_ge 283 dX12_year_223 (by decide) ⟨by omega, by omega⟩ ⟨by omega, by omega⟩ (fun h1 => ?_) (fun h1 => ?_)
    · omega
    refine x_aload_n dX12_year_226 rfl ?_
    refine x_gr dX12_year_227 fX12_46 (by first | assumption) (fun _ _ _ => rfl) (by first | assumption) ?_
    refine y_bipush dX12_year_230 rfl ?_
    refine x_iload_n dX12_year_232 rfl ?_
    refine y_imul dX12_year_233 ?_
    refine x_iload_n dX12_year_234 rfl ?_
    refine y_iadd dX12_year_235 ?_
    refine x_aload_n dX12_year_236 rfl ?_
    refine (show X _ _ 237 _ _ _ _ _ _ from ?_)
    refine x_gr dX12_year_237 fX12_58 (by first | assumption) (fun _ _ _ => rfl) (by first | assumption) ?_
    refine x_iload_n dX12_year_240 rfl ?_
    refine b_iald (r := r) (m := 24) (j := 15) (i) dX12_year_241 (by first | assumption) (by first | rfl | omega) (by omega) (by decide) (by decide) ?_
    refine b_iast (r := r) (m := 24) (j := 11) (10 * y + i) dX12_year_242 (by first | assumption) (by first | rfl | omega) (by omega) (by decide) (by decide) ?_
    refine x_aload_n dX12_year_243 rfl ?_
    refine x_gr dX12_year_244 fX12_49 (by first | assumption) (fun _ _ _ => rfl) (by first | assumption) ?_
    refine y_bipush dX12_year_247 rfl ?_
    refine x_iload_n dX12_year_249 rfl ?_
    refine (show X _ _ 250 _ _ _ _ _ _ from ?_)
    refine y_imul dX12_year_250 ?_
    refine x_iload_n dX12_year_251 rfl ?_
    refine y_iadd dX12_year_252 ?_
    refine x_aload_n dX12_year_253 rfl ?_
    refine x_gr dX12_year_254 fX12_61 (by first | assumption) (fun _ _ _ => rfl) (by first | assumption) ?_
    refine x_iload_n dX12_year_257 rfl ?_
    refine b_iald (r := r) (m := 24) (j := 16) (i) dX12_year_258 (by first | assumption) (by first | rfl | omega) (by omega) (by decide) (by decide) ?_
    refine b_iast (r := r) (m := 24) (j := 12) (10 * y + i) dX12_year_259 (by first | assumption) (by first | rfl | omega) (by omega) (by decide) (by decide) ?_
    refine (show X _ _ 260 _ _ _ _ _ _ from ?_)
    refine x_aload_n dX12_year_260 rfl ?_
    refine x_gr dX12_year_261 fX12_52 (by first | assumption) (fun _ _ _ => rfl) (by first | assumption) ?_
    refine y_bipush dX12_year_264 rfl ?_
    refine x_iload_n dX12_year_266 rfl ?_
    refine y_imul dX12_year_267 ?_
    refine x_iload_n dX12_year_268 rfl ?_
    refine y_iadd dX12_year_269 ?_
    refine x_aload_n dX12_year_270 rfl ?_
    refine (show X _ _ 271 _ _ _ _ _ _ from ?_)
    refine x_gr dX12_year_271 fX12_64 (by first | assumption) (fun _ _ _ => rfl) (by first | assumption) ?_
    refine x_iload_n dX12_year_274 rfl ?_
    refine b_iald (r := r) (m := 24) (j := 17) (i) dX12_year_275 (by first | assumption) (by first | rfl | omega) (by omega) (by decide) (by decide) ?_
    refine b_iast (r := r) (m := 24) (j := 13) (10 * y + i) dX12_year_276 (by first | assumption) (by first | rfl | omega) (by omega) (by decide) (by decide) ?_
    refine y_iinc dX12_year_277 rfl (by decide) rfl rfl ?_
    refine x_goto 220 dX12_year_280 (by decide) ?_
    refine (show X _ _ 220 _ _ _ _ _ _ from ?_)
    have key : ∀ (F G H : Nat → Int) (v : Int), (∀ j, F j = if 10 * y ≤ j ∧ j < 10 * y + i then G (j - 10 * y) else H j) → v = G i → ∀ j, u1 F (10 * y + i) v j = if 10 * y ≤ j ∧ j < 10 * y + (i + 1) then G (j - 10 * y) else H j := by
      intro F G H v hF hv j
      by_cases e : j = 10 * y + i
      · rw [e, u1_s, if_pos (by omega), hv, show 10 * y + i - 10 * y = i by omega]
      · rw [u1_n e, hF j]
        by_cases c : 10 * y ≤ j ∧ j < 10 * y + i
        · rw [if_pos c, if_pos (by omega)]
        · rw [if_neg c, if_neg (by omega)]
    refine ih _ (fun a a11 a12 a13 => by rw [u2_n a13, u2_n a12, u2_n a11, q1 a a11 a12 a13]) (fun j => ?_) (fun j => ?_) (fun j => ?_)
    · rw [u2_n (by decide), u2_n (by decide), u2_s]
      exact key _ _ _ _ q2 (by rw [q1 15 (by decide) (by decide) (by decide)]) j
    · rw [u2_n (by decide), u2_s, u2_n (by decide)]
      exact key _ _ _ _ q3 (by rw [u2_n (by decide), q1 16 (by decide) (by decide) (by decide)]) j
    · rw [u2_s, u2_n (by decide), u2_n (by decide)]
      exact key _ _ _ _ q4 (by rw [u2_n (by decide), u2_n (by decide), q1 17 (by decide) (by decide) (by decide)]) j
end C92
