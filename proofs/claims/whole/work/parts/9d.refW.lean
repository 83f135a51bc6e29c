/-! ===== the reference: acts ===== -/
theorem NV_eq {v v' : Nat → Int} {A B : Nat → Nat → Int} (hA : VA A) (hB : VB A B) (h : NV v A B) (he : ∀ j, j < 45 → v' j = v j) : NV v' A B := by
  have eP := fP10 hA
  have hb := hB.2.2.1
  obtain ⟨h1, h2, h3, h4, h5⟩ := h
  exact ⟨by rw [he 0 (by decide)]; exact h1, by rw [he 1 (by decide)]; exact h2, by rw [he 12 (by decide)]; exact h3, fun p hp => by rw [he _ (by omega)]; exact h4 p hp, fun j hj => by rw [he _ (by omega)]; exact h5 j hj⟩
section C9d
variable {g : GG} {T : Nat → Nat × Nat} {V E E' A B B' : Nat → Nat → Int} {R : Nat → Nat → Option Nat} {J : Nat → Nat → Int64} {z k n : Nat} {r f : Nat} {t : Nat → Int} {tp : Nat} {h : Bool} {a m a' : Nat} {H K H' : Nat → Nat → Nat → Int} {wr pl tr : Int}
theorem DI_act (hI : DI T R V r f E t tp true A B a m H K wr pl tr) (h0 : ∀ c, c = 1 ∨ c = 2 ∨ c = 6 ∨ c = 12 ∨ c = 19 ∨ c = 43 → E' 0 c = E 0 c) (h1 : E' 1 = E 1) (h4 : E' 4 = E 4) (hv : NV (E' 2) A B') (hB : VB A B') (ha : E' 0 18 = (a' : Int) ∧ a' ≤ 12) (hH : ∀ i, i < a' → NV (fun j => E' 3 (45 * i + j)) A (H' i)) : DI T R V r f E' t tp true A B' a' m H' K wr pl tr := by
  obtain ⟨d1, ⟨d2, d3, d4⟩, ⟨d5, d6, d7⟩, ⟨-, d10, d11⟩, d12, d13, d14⟩ := hI
  obtain ⟨g1, ⟨gA, -, gY⟩, -, -, g5⟩ := d14 rfl
  exact ⟨d1, ⟨by rw [h0 1 (by omega)]; exact d2, by rw [h0 2 (by omega)]; exact d3, by rw [h0 12 (by omega)]; exact d4⟩, ⟨by rw [h1]; exact d5, by rw [h0 6 (by omega)]; exact d6, d7⟩, ⟨ha, by rw [h0 19 (by omega)]; exact d10, d11⟩, by rw [h0 43 (by omega)]; exact d12, (fun c => by cases c), fun _ => ⟨g1, ⟨gA, hB, gY⟩, hv, hH, by rw [h4]; exact g5⟩⟩
theorem k_keepsAll (hI : DI T R V r f E t tp true A B a m H K wr pl tr) (hVH : ∀ i, i < a → VB A (H i)) : X g mX12_keepsAll 0 [.ref r, jk] [] (T, iV (pB V r 24 E), R, J, z) k n (fun v M => v = none ∧ ∃ E', M = (T, iV (pB V r 24 E'), R, J, z) ∧ (∀ b, b ≠ 0 → b ≠ 3 → E' b = E b) ∧ (∀ c, c ≠ 18 → E' 0 c = E 0 c) ∧ E' 0 18 = (kaN a : Int) ∧ ∀ i, i < kaN a → NV (fun j => E' 3 (45 * i + j)) A (kaH a H B i)) := by
  have hM := hI.1
  obtain ⟨d18, d18b⟩ := hI.2.2.2.1.1
  obtain ⟨-, ⟨hA, hB, -⟩, hv, hH, -⟩ := hI.2.2.2.2.2.2 rfl
  obtain ⟨m0, ⟨-, m15, m16, -, -, -, -, -, -, -, -, -, -, -, -, -, -, -, -, -, -, -, -⟩, ⟨-, mk2, mk3, -, -, -, -, -, -, -, -, -, -, -, -, -, -, -, -, -, -, -, -⟩⟩ := id hM
  have part2 : ∀ (c : Nat) (E1 : Nat → Nat → Int), c < 12 → (∀ b, b ≠ 0 → b ≠ 3 → E1 b = E b) → (∀ d, d ≠ 18 → E1 0 d = E 0 d) → E1 0 18 = (c : Int) → kaN a = c + 1 → (∀ i, i < c → NV (fun j => E1 3 (45 * i + j)) A (kaH a H B i)) → (∀ i, i < c → VB A (kaH a H B i)) → kaH a H B c = B → X g mX12_keepsAll 49 [.ref r, jk] [] (T, iV (pB V r 24 E1), R, J, z) k n (fun v M => v = none ∧ ∃ E', M = (T, iV (pB V r 24 E'), R, J, z) ∧ (∀ b, b ≠ 0 → b ≠ 3 → E' b = E b) ∧ (∀ c, c ≠ 18 → E' 0 c = E 0 c) ∧ E' 0 18 = (kaN a : Int) ∧ ∀ i, i < kaN a → NV (fun j => E' 3 (45 * i + j)) A (kaH a H B i)) := by
    intro c E1 hc q1 q2 q3 q4 q5 q6 q7
    refine y_iconst dX12_keepsAll_49 ?_
    refine x_istore_n dX12_keepsAll_50 (by decide) rfl rfl ?_
    refine (show X _ _ 51 _ _ _ _ _ _ from ?_)
    refine loopN (P := fun i => ∀ E2 : Nat → Nat → Int, (∀ b, b ≠ 3 → E2 b = E1 b) → (∀ j, E2 3 j = if 45 * c ≤ j ∧ j < 45 * c + i then E 2 (j - 45 * c) else E1 3 j) → X g mX12_keepsAll 51 [.ref r, .int (iI (i : Int))] [] (T, iV (pB V r 24 E2), R, J, z) k n (fun v M => v = none ∧ ∃ E', M = (T, iV (pB V r 24 E'), R, J, z) ∧ (∀ b, b ≠ 0 → b ≠ 3 → E' b = E b) ∧ (∀ c, c ≠ 18 → E' 0 c = E 0 c) ∧ E' 0 18 = (kaN a : Int) ∧ ∀ i, i < kaN a → NV (fun j => E' 3 (45 * i + j)) A (kaH a H B i))) 45 ?_ (fun i hi ih => ?_) E1 (fun _ _ => rfl) (fun j => by rw [if_neg (by omega)])
    · intro E2 w1 w2
      refine x_iload_n dX12_keepsAll_51 rfl ?_
      refine y_bipush dX12_keepsAll_52 rfl ?_
      refine (show X _ _ 54 _ _ _ _ _ _ from ?_)
      refine y_icmp_ge 83 dX12_keepsAll_54 (by decide) ⟨by omega, by omega⟩ ⟨by omega, by omega⟩ (fun h1 => ?_) (fun h1 => ?_)
      rotate_left
      · omega
      refine x_aload_n dX12_keepsAll_83 rfl ?_
      refine x_dup dX12_keepsAll_84 rfl ?_
      refine b_gi0 (r := r) (m := 24) dX12_keepsAll_85 fX12_411 (by first | assumption) (fun _ _ _ => rfl) (by decide) ?_
      refine (show X _ _ 88 _ _ _ _ _ _ from ?_)
      refine X.val (b := (c : Int)) (by rw [w1 0 (by decide)]; exact q3) ?_
      refine y_iconst dX12_keepsAll_88 ?_
      refine y_iadd dX12_keepsAll_89 ?_
      refine b_pi0 (r := r) (m := 24) dX12_keepsAll_90 (pX12_411 _) (by first | assumption) (fun _ _ _ => rfl) rfl rfl (by decide) ?_
      refine (show X _ _ 93 _ _ _ _ _ _ from ?_)
      refine x_return dX12_keepsAll_93 rfl ⟨rfl, _, rfl, fun b b0 b3 => by rw [u2_n b0, w1 b b3, q1 b b0 b3], fun d hd => by rw [u2_s, u1_n hd, w1 0 (by decide), q2 d hd], by rw [u2_s, u1_s, q4]; rfl, fun i hi => ?_⟩
      rw [u2_n (by decide)]
      by_cases e : i = c
      · rw [e, q7]
        refine NV_eq hA hB hv (fun j hj => ?_)
        show E2 3 (45 * c + j) = E 2 j
        rw [w2, if_pos (by omega), show 45 * c + j - 45 * c = j by omega]
      · have hic : i < c := by omega
        refine NV_eq hA (q6 i hic) (q5 i hic) (fun j hj => ?_)
        show E2 3 (45 * i + j) = E1 3 (45 * i + j)
        rw [w2, if_neg (by omega)]
    · intro E2 w1 w2
      refine x_iload_n dX12_keepsAll_51 rfl ?_
      refine y_bipush dX12_keepsAll_52 rfl ?_
      refine (show X _ _ 54 _ _ _ _ _ _ from ?_)
      refine y_icmp_ge 83 dX12_keepsAll_54 (by decide) ⟨by omega, by omega⟩ ⟨by omega, by omega⟩ (fun h1 => ?_) (fun h1 => ?_)
      · omega
      refine x_aload_n dX12_keepsAll_57 rfl ?_
      refine x_gr dX12_keepsAll_58 fX12_21 (by first | assumption) (fun _ _ _ => rfl) (by first | assumption) ?_
      refine y_bipush dX12_keepsAll_61 rfl ?_
      refine x_aload_n dX12_keepsAll_63 rfl ?_
      refine b_gi0 (r := r) (m := 24) dX12_keepsAll_64 fX12_411 (by first | assumption) (fun _ _ _ => rfl) (by decide) ?_
      refine (show X _ _ 67 _ _ _ _ _ _ from ?_)
      refine X.val (b := (c : Int)) (by rw [w1 0 (by decide)]; exact q3) ?_
      refine y_imul dX12_keepsAll_67 ?_
      refine x_iload_n dX12_keepsAll_68 rfl ?_
      refine y_iadd dX12_keepsAll_69 ?_
      refine x_aload_n dX12_keepsAll_70 rfl ?_
      refine x_gr dX12_keepsAll_71 fX12_17 (by first | assumption) (fun _ _ _ => rfl) (by first | assumption) ?_
      refine x_iload_n dX12_keepsAll_74 rfl ?_
      refine b_iald (r := r) (m := 24) (j := 2) (i) dX12_keepsAll_75 (by first | assumption) (by first | rfl | omega) (by omega) (by decide) (by decide) ?_
      refine b_iast (r := r) (m := 24) (j := 3) (45 * c + i) dX12_keepsAll_76 (by first | assumption) (by first | rfl | omega) (by omega) (by decide) (by decide) ?_
      refine (show X _ _ 77 _ _ _ _ _ _ from ?_)
      refine y_iinc dX12_keepsAll_77 rfl (by decide) rfl rfl ?_
      refine x_goto 51 dX12_keepsAll_80 (by decide) ?_
      refine (show X _ _ 51 _ _ _ _ _ _ from ?_)
      refine ih _ (fun b hb => by rw [u2_n hb, w1 b hb]) (fun j => ?_)
      rw [u2_s]
      by_cases e : j = 45 * c + i
      · rw [e, u1_s, if_pos (by omega), w1 2 (by decide), q1 2 (by decide) (by decide), show 45 * c + i - 45 * c = i by omega]
      · rw [u1_n e, w2 j]
        by_cases d : 45 * c ≤ j ∧ j < 45 * c + i
        · rw [if_pos d, if_pos (by omega)]
        · rw [if_neg d, if_neg (by omega)]
  refine x_aload_n dX12_keepsAll_0 rfl ?_
  refine b_gi0 (r := r) (m := 24) dX12_keepsAll_1 fX12_411 (by first | assumption) (fun _ _ _ => rfl) (by decide) ?_
  refine (show X _ _ 4 _ _ _ _ _ _ from ?_)
  refine X.val d18 ?_
  refine y_bipush dX12_keepsAll_4 rfl ?_
  refine (show X _ _ 6 _ _ _ _ _ _ from ?_)
  refine y_icmp_ne 49 dX12_keepsAll_6 (by decide) ⟨by omega, by omega⟩ ⟨by omega, by omega⟩ (fun h1 => ?_) (fun h1 => ?_)
  · have h12 : a < 12 := by omega
    refine part2 a E h12 (fun _ _ _ => rfl) (fun _ _ => rfl) d18 (by unfold kaN; rw [if_pos h12]) (fun i hi => ?_) (fun i hi => ?_) ?_
    · unfold kaH
      rw [if_pos h12]
      show NV _ A (if i = a then B else H i)
      rw [if_neg (by omega)]
      exact hH i hi
    · unfold kaH
      rw [if_pos h12]
      show VB A (if i = a then B else H i)
      rw [if_neg (by omega)]
      exact hVH i hi
    · unfold kaH
      rw [if_pos h12]
      show (if a = a then B else H a) = B
      rw [if_pos rfl]
  · have h12 : a = 12 := by omega
    subst h12
    refine y_iconst dX12_keepsAll_9 ?_
    refine x_istore_n dX12_keepsAll_10 (by decide) rfl rfl ?_
    refine (show X _ _ 11 _ _ _ _ _ _ from ?_)
    refine loopN (P := fun i => ∀ E2 : Nat → Nat → Int, (∀ b, b ≠ 3 → E2 b = E b) → (∀ j, E2 3 j = if j < i then E 3 (j + 45) else E 3 j) → X g mX12_keepsAll 11 [.ref r, .int (iI (i : Int))] [] (T, iV (pB V r 24 E2), R, J, z) k n (fun v M => v = none ∧ ∃ E', M = (T, iV (pB V r 24 E'), R, J, z) ∧ (∀ b, b ≠ 0 → b ≠ 3 → E' b = E b) ∧ (∀ c, c ≠ 18 → E' 0 c = E 0 c) ∧ E' 0 18 = (kaN 12 : Int) ∧ ∀ i, i < kaN 12 → NV (fun j => E' 3 (45 * i + j)) A (kaH 12 H B i))) 495 ?_ (fun i hi ih => ?_) E (fun _ _ => rfl) (fun j => by rw [if_neg (by omega)])
    · intro E2 w1 w2
      refine x_iload_n dX12_keepsAll_11 rfl ?_
      refine y_sipush dX12_keepsAll_12 rfl ?_
      refine (show X _ _ 15 _ _ _ _ _ _ from ?_)
      refine y_icmp_ge 39 dX12_keepsAll_15 (by decide) ⟨by omega, by omega⟩ ⟨by omega, by omega⟩ (fun h2 => ?_) (fun h2 => ?_)
      rotate_left
      · omega
      refine x_aload_n dX12_keepsAll_39 rfl ?_
      refine x_dup dX12_keepsAll_40 rfl ?_
      refine b_gi0 (r := r) (m := 24) dX12_keepsAll_41 fX12_411 (by first | assumption) (fun _ _ _ => rfl) (by decide) ?_
      refine (show X _ _ 44 _ _ _ _ _ _ from ?_)
      refine X.val (b := 12) (by rw [w1 0 (by decide)]; exact d18) ?_
      refine y_iconst dX12_keepsAll_44 ?_
      refine y_isub dX12_keepsAll_45 ?_
      refine b_pi0 (r := r) (m := 24) dX12_keepsAll_46 (pX12_411 _) (by first | assumption) (fun _ _ _ => rfl) rfl rfl (by decide) ?_
      refine (show X _ _ 49 _ _ _ _ _ _ from ?_)
      refine X.drop 1 rfl ?_
      refine part2 11 _ (by decide) (fun b b0 b3 => by rw [u2_n b0, w1 b b3]) (fun d hd => by rw [u2_s, u1_n hd, w1 0 (by decide)]) (by rw [u2_s, u1_s]; rfl) rfl (fun i hi => ?_) (fun i hi => ?_) ?_
      · unfold kaH
        rw [if_neg (by decide), u2_n (by decide)]
        show NV _ A (if i = 11 then B else H (i + 1))
        rw [if_neg (by omega)]
        refine NV_eq hA (hVH (i + 1) (by omega)) (hH (i + 1) (by omega)) (fun j hj => ?_)
        show E2 3 (45 * i + j) = E 3 (45 * (i + 1) + j)
        rw [w2, if_pos (by omega), show 45 * i + j + 45 = 45 * (i + 1) + j by omega]
      · unfold kaH
        rw [if_neg (by decide)]
        show VB A (if i = 11 then B else H (i + 1))
        rw [if_neg (by omega)]
        exact hVH (i + 1) (by omega)
      · unfold kaH
        rw [if_neg (by decide)]
        show (if 11 = 11 then B else H (11 + 1)) = B
        rw [if_pos rfl]
    · intro E2 w1 w2
      refine x_iload_n dX12_keepsAll_11 rfl ?_
      refine y_sipush dX12_keepsAll_12 rfl ?_
      refine (show X _ _ 15 _ _ _ _ _ _ from ?_)
      refine y_icmp_ge 39 dX12_keepsAll_15 (by decide) ⟨by omega, by omega⟩ ⟨by omega, by omega⟩ (fun h2 => ?_) (fun h2 => ?_)
      · omega
      refine x_aload_n dX12_keepsAll_18 rfl ?_
      refine x_gr dX12_keepsAll_19 fX12_21 (by first | assumption) (fun _ _ _ => rfl) (by first | assumption) ?_
      refine x_iload_n dX12_keepsAll_22 rfl ?_
      refine x_aload_n dX12_keepsAll_23 rfl ?_
      refine x_gr dX12_keepsAll_24 fX12_21 (by first | assumption) (fun _ _ _ => rfl) (by first | assumption) ?_
      refine x_iload_n dX12_keepsAll_27 rfl ?_
      refine y_bipush dX12_keepsAll_28 rfl ?_
      refine y_iadd dX12_keepsAll_30 ?_
      refine (show X _ _ 31 _ _ _ _ _ _ from ?_)
      refine b_iald (r := r) (m := 24) (j := 3) (i + 45) dX12_keepsAll_31 (by first | assumption) (by first | rfl | omega) (by omega) (by decide) (by decide) ?_
      refine b_iast (r := r) (m := 24) (j := 3) (i) dX12_keepsAll_32 (by first | assumption) (by first | rfl | omega) (by omega) (by decide) (by decide) ?_
      refine y_iinc dX12_keepsAll_33 rfl (by decide) rfl rfl ?_
      refine x_goto 11 dX12_keepsAll_36 (by decide) ?_
      refine (show X _ _ 11 _ _ _ _ _ _ from ?_)
      refine ih _ (fun b hb => by rw [u2_n hb, w1 b hb]) (fun j => ?_)
      rw [u2_s]
      by_cases e : j = i
      · rw [e, u1_s, if_pos (by omega), w2, if_neg (by omega)]
      · rw [u1_n e, w2 j]
        by_cases d : j < i
        · rw [if_pos d, if_pos (by omega)]
        · rw [if_neg d, if_neg (by omega)]
theorem NV_0 {x : Int} {v : Nat → Int} (hA : VA A) (h : NV v A B) : NV (u1 v 0 x) A (u2 B 0 0 x) := by
  obtain ⟨h1, h2, h3, h4, h5⟩ := h
  refine ⟨by rw [u1_s, u2_s, u1_s], by rw [u1_n (by decide), u2_s, u1_n (by decide)]; exact h2, by rw [u1_n (by decide), u2_s, u1_n (by decide)]; exact h3, fun p hp => by rw [u1_n (by omega), u2_n (by decide)]; exact h4 p hp, fun j hj => ?_⟩
  rw [u2_s, u1_n (by decide)] at hj
  rw [u1_n (by omega), u2_n (by decide)]; exact h5 j hj
theorem NV_1 {x : Int} {v : Nat → Int} (h : NV v A B) : NV (u1 v 1 x) A (u2 B 0 1 x) := by
  obtain ⟨h1, h2, h3, h4, h5⟩ := h
  refine ⟨by rw [u1_n (by decide), u2_s, u1_n (by decide)]; exact h1, by rw [u1_s, u2_s, u1_s], by rw [u1_n (by decide), u2_s, u1_n (by decide)]; exact h3, fun p hp => by rw [u1_n (by omega), u2_n (by decide)]; exact h4 p hp, fun j hj => ?_⟩
  rw [u2_s, u1_n (by decide)] at hj
  rw [u1_n (by omega), u2_n (by decide)]; exact h5 j hj
theorem NV_d {x : Int} {v : Nat → Int} {q : Nat} (hA : VA A) (hq : q < fP A) (h : NV v A B) : NV (u1 v (2 + q) x) A (u2 B 1 q x) := by
  have eP := fP10 hA
  obtain ⟨h1, h2, h3, h4, h5⟩ := h
  refine ⟨by rw [u1_n (by omega), u2_n (by decide)]; exact h1, by rw [u1_n (by omega), u2_n (by decide)]; exact h2, by rw [u1_n (by omega), u2_n (by decide)]; exact h3, fun p hp => ?_, fun j hj => ?_⟩
  · rw [u2_s]
    by_cases e : p = q
    · rw [e, u1_s, u1_s]
    · rw [u1_n (by omega), u1_n e]; exact h4 p hp
  · rw [u2_n (by decide)] at hj
    rw [u1_n (by omega), u2_n (by decide)]; exact h5 j hj
theorem k_law0 {x : Int} (hI : DI T R V r f E t tp h A B a m H K wr pl tr) (hx : R32 x) (hb : ¬ (h = true ∧ 0 ≤ x ∧ x < 5 ∧ B 0 0 ≠ x)) : X g mX12_law 0 [.ref r, .int (iI x)] [] (T, iV (pB V r 24 E), R, J, z) k n (DQ T R J z V r f (some (.int (iI 0))) t tp h A B a m H K wr pl (if h = true ∧ 0 ≤ x ∧ x < 5 then 5 else 1)) := by
  have hM := hI.1
  have hI1 := DI_sc hI (Sc_th hI 0)
  have hdn := fun x => k_denied (g := g) (V := V) (E := u2 E 0 0 0) (J := J) (z := z) (k := 0) (n := 0) (x := x) hM
  have hin := c_in (g := g) (k := 0) (n := 0) (x := x) (lo := 0) (hi := 4) (M := (T, iV (pB V r 24 (u2 E 0 0 0)), R, J, z)) hx ⟨by decide, by decide⟩ ⟨by decide, by decide⟩
  obtain ⟨-, -, -, -, -, d1, d2⟩ := id hI1
  cases h
  · have hn := (d1 rfl).1
    rw [if_neg (fun c => by cases c.1)]
    obtain ⟨m0, ⟨-, m15, -, -, -, -, -, -, -, -, -, -, -, -, -, -, -, -, -, -, -, -, -⟩, ⟨-, mk2, -, -, -, -, -, -, -, -, -, -, -, -, -, -, -, -, -, -, -, -, -⟩⟩ := id hM
    refine x_aload_n dX12_law_0 rfl ?_
    refine y_iconst dX12_law_1 ?_
    refine b_pi0 (r := r) (m := 24) dX12_law_2 (pX12_85 _) (by first | assumption) (fun _ _ _ => rfl) rfl rfl (by decide) ?_
    refine x_aload_n dX12_law_5 rfl ?_
    refine (show X _ _ 6 _ _ _ _ _ _ from ?_)
    refine x_gn dX12_law_6 fX12_409 (by first | assumption) (fun _ _ _ => rfl) (by first | assumption) ?_
    refine (show X _ _ 9 _ _ _ _ _ _ from ?_)
    refine x_ifnull_n 21 dX12_law_9 (by decide) ?_
    refine (show X _ _ 21 _ _ _ _ _ _ from ?_)
    refine x_aload_n dX12_law_21 rfl ?_
    refine y_iconst dX12_law_22 ?_
    refine (show X _ _ 23 _ _ _ _ _ _ from ?_)
    refine x_callV (As := [_]) (mc := 0) (ms := 0) (z := mX12_denied) (ci := 12) dX12_law_23 lX12_587 oX12_denied (by decide) (by first | assumption) rfl rfl (Nat.le_of_ble_eq_true rfl) (Nat.le_of_ble_eq_true rfl) rfl (hdn _) (k_I ?_)
    refine (show X _ _ 26 _ _ _ _ _ _ from ?_)
    exact x_zreturn dX12_law_26 rfl rfl (DQ_tr hI1 1 (by decide) _)
  obtain ⟨⟨hf, -⟩, ⟨hA, hB, -⟩, hv, -⟩ := d2 rfl
  have hB0 := hB.1
  obtain ⟨m0, ⟨-, m15, -, -, -, -, -, -, -, -, -, -, -, -, -, -, -, -, -, -, -, -, -⟩, ⟨-, mk2, -, -, -, -, -, -, -, -, -, -, -, -, -, -, -, -, -, -, -, -, -⟩⟩ := id hM
  refine x_aload_n dX12_law_0 rfl ?_
  refine y_iconst dX12_law_1 ?_
  refine b_pi0 (r := r) (m := 24) dX12_law_2 (pX12_85 _) (by first | assumption) (fun _ _ _ => rfl) rfl rfl (by decide) ?_
  refine x_aload_n dX12_law_5 rfl ?_
  refine x_gr dX12_law_6 fX12_409 (by first | assumption) (fun _ _ _ => rfl) (by first | assumption) ?_
  refine (show X _ _ 9 _ _ _ _ _ _ from ?_)
  refine x_ifnull_r dX12_law_9 ?_
  refine (show X _ _ 12 _ _ _ _ _ _ from ?_)
  refine x_iload_n dX12_law_12 rfl ?_
  refine y_iconst dX12_law_13 ?_
  refine y_iconst dX12_law_14 ?_
  refine (show X _ _ 15 _ _ _ _ _ _ from ?_)
  refine x_callS (As := [_, _, _]) (mc := 0) (ms := 0) (z := mX12_in) dX12_law_15 lX12_160 oX12_in (by decide) rfl (Nat.le_of_ble_eq_true rfl) (Nat.le_of_ble_eq_true rfl) rfl (hin) (k_I ?_)
  refine (show X _ _ 18 _ _ _ _ _ _ from ?_)
  refine y_ifb_ne 27 dX12_law_18 (by decide) (fun c1 => ?_) (fun c1 => ?_)
  rotate_left
  · have := of_decide_eq_false c1
    rw [if_neg (fun c => by omega)]
    refine x_aload_n dX12_law_21 rfl ?_
    refine y_iconst dX12_law_22 ?_
    refine (show X _ _ 23 _ _ _ _ _ _ from ?_)
    refine x_callV (As := [_]) (mc := 0) (ms := 0) (z := mX12_denied) (ci := 12) dX12_law_23 lX12_587 oX12_denied (by decide) (by first | assumption) rfl rfl (Nat.le_of_ble_eq_true rfl) (Nat.le_of_ble_eq_true rfl) rfl (hdn _) (k_I ?_)
    refine (show X _ _ 26 _ _ _ _ _ _ from ?_)
    exact x_zreturn dX12_law_26 rfl rfl (DQ_tr hI1 1 (by decide) _)
  have c1 := of_decide_eq_true c1
  rw [if_pos ⟨rfl, by omega, by omega⟩]
  refine x_aload_n dX12_law_27 rfl ?_
  refine x_gr dX12_law_28 fX12_17 (by first | assumption) (fun _ _ _ => rfl) (by first | assumption) ?_
  refine y_iconst dX12_law_31 ?_
  refine b_iald (r := r) (m := 24) (j := 2) (0) dX12_law_32 (by first | assumption) (by first | rfl | omega) (by omega) (by decide) (by decide) ?_
  refine (show X _ _ 33 _ _ _ _ _ _ from ?_)
  refine X.val hv.1 ?_
  refine x_iload_n dX12_law_33 rfl ?_
  refine (show X _ _ 34 _ _ _ _ _ _ from ?_)
  refine y_icmp_ne 43 dX12_law_34 (by decide) ⟨by omega, by omega⟩ ⟨by omega, by omega⟩ (fun c2 => ?_) (fun c2 => ?_)
  · exact absurd ⟨rfl, c1.1, by omega, c2⟩ hb
  refine x_aload_n dX12_law_37 rfl ?_
  refine y_iconst dX12_law_38 ?_
  refine (show X _ _ 39 _ _ _ _ _ _ from ?_)
  refine x_callV (As := [_]) (mc := 0) (ms := 0) (z := mX12_denied) (ci := 12) dX12_law_39 lX12_587 oX12_denied (by decide) (by first | assumption) rfl rfl (Nat.le_of_ble_eq_true rfl) (Nat.le_of_ble_eq_true rfl) rfl (hdn _) (k_I ?_)
  refine (show X _ _ 42 _ _ _ _ _ _ from ?_)
  exact x_zreturn dX12_law_42 rfl rfl (DQ_tr hI1 5 (by decide) _)
theorem k_law {x : Int} (hI : DI T R V r f E t tp true A B a m H K wr pl tr) (hx : 0 ≤ x ∧ x < 5) (hb : B 0 0 ≠ x) (hVH : ∀ i, i < a → VB A (H i)) (hB' : VB A (u2 B 0 0 x)) : X g mX12_law 0 [.ref r, .int (iI x)] [] (T, iV (pB V r 24 E), R, J, z) k n (DQ T R J z V r f (some (.int (iI 1))) t tp true A (u2 B 0 0 x) (kaN a) m (kaH a H B) K wr pl 0) := by
  have hM := hI.1
  have hI1 := DI_sc hI (Sc_th hI 0)
  have hin := c_in (g := g) (k := 0) (n := 0) (x := x) (lo := 0) (hi := 4) (M := (T, iV (pB V r 24 (u2 E 0 0 0)), R, J, z)) ⟨by omega, by omega⟩ ⟨by decide, by decide⟩ ⟨by decide, by decide⟩
  rw [decide_eq_true (by omega)] at hin
  have hka := k_keepsAll (g := g) (J := J) (z := z) (k := 0) (n := 0) hI1 hVH
  obtain ⟨-, -, -, ⟨⟨-, ha12⟩, -⟩, -, d1, d2⟩ := id hI1
  obtain ⟨⟨hf, -⟩, ⟨hA, hB, -⟩, hv, -⟩ := d2 rfl
  have hB0 := hB.1
  obtain ⟨m0, ⟨-, m15, -, -, -, -, -, -, -, -, -, -, -, -, -, -, -, -, -, -, -, -, -⟩, ⟨-, mk2, -, -, -, -, -, -, -, -, -, -, -, -, -, -, -, -, -, -, -, -, -⟩⟩ := id hM
  refine x_aload_n dX12_law_0 rfl ?_
  refine y_iconst dX12_law_1 ?_
  refine b_pi0 (r := r) (m := 24) dX12_law_2 (pX12_85 _) (by first | assumption) (fun _ _ _ => rfl) rfl rfl (by decide) ?_
  refine x_aload_n dX12_law_5 rfl ?_
  refine x_gr dX12_law_6 fX12_409 (by first | assumption) (fun _ _ _ => rfl) (by first | assumption) ?_
  refine (show X _ _ 9 _ _ _ _ _ _ from ?_)
  refine x_ifnull_r dX12_law_9 ?_
  refine (show X _ _ 12 _ _ _ _ _ _ from ?_)
  refine x_iload_n dX12_law_12 rfl ?_
  refine y_iconst dX12_law_13 ?_
  refine y_iconst dX12_law_14 ?_
  refine (show X _ _ 15 _ _ _ _ _ _ from ?_)
  refine x_callS (As := [_, _, _]) (mc := 0) (ms := 0) (z := mX12_in) dX12_law_15 lX12_160 oX12_in (by decide) rfl (Nat.le_of_ble_eq_true rfl) (Nat.le_of_ble_eq_true rfl) rfl (hin) (k_I ?_)
  refine (show X _ _ 18 _ _ _ _ _ _ from ?_)
  refine y_ifb_ne 27 dX12_law_18 (by decide) (fun c1 => ?_) (fun c1 => ?_)
  rotate_left
  · cases c1
  refine x_aload_n dX12_law_27 rfl ?_
  refine x_gr dX12_law_28 fX12_17 (by first | assumption) (fun _ _ _ => rfl) (by first | assumption) ?_
  refine y_iconst dX12_law_31 ?_
  refine b_iald (r := r) (m := 24) (j := 2) (0) dX12_law_32 (by first | assumption) (by first | rfl | omega) (by omega) (by decide) (by decide) ?_
  refine (show X _ _ 33 _ _ _ _ _ _ from ?_)
  refine X.val hv.1 ?_
  refine x_iload_n dX12_law_33 rfl ?_
  refine (show X _ _ 34 _ _ _ _ _ _ from ?_)
  refine y_icmp_ne 43 dX12_law_34 (by decide) ⟨by omega, by omega⟩ ⟨by omega, by omega⟩ (fun c2 => ?_) (fun c2 => ?_)
  rotate_left
  · exact absurd c2 hb
  refine x_aload_n dX12_law_43 rfl ?_
  refine (show X _ _ 44 _ _ _ _ _ _ from ?_)
  refine x_callV (As := []) (mc := 0) (ms := 0) (z := mX12_keepsAll) (ci := 12) dX12_law_44 lX12_590 oX12_keepsAll (by decide) (by first | assumption) rfl rfl (Nat.le_of_ble_eq_true rfl) (Nat.le_of_ble_eq_true rfl) rfl (hka) (fun v M1 hq => ?_)
  obtain ⟨rfl, E1, rfl, y1, y2, y3, y4⟩ := hq
  refine (show X _ _ 47 _ [] _ _ _ _ from ?_)
  have hgr := k_granted (g := g) (V := V) (E := u2 E1 2 0 x) (J := J) (z := z) (k := 0) (n := 0) hM
  have hka12 : kaN a ≤ 12 := by unfold kaN; split <;> omega
  have hfin : DI T R V r f (u2 E1 2 0 x) t tp true A (u2 B 0 0 x) (kaN a) m (kaH a H B) K wr pl tr := DI_act hI1 (fun c hc => by rw [u2_n (by decide), y2 c (by omega)]) (by rw [u2_n (by decide), y1 1 (by decide) (by decide)]) (by rw [u2_n (by decide), y1 4 (by decide) (by decide)]) (by rw [u2_s, y1 2 (by decide) (by decide)]; exact NV_0 hA hv) hB' ⟨by rw [u2_n (by decide)]; exact y3, hka12⟩ (by rw [u2_n (by decide)]; exact y4)
  refine x_aload_n dX12_law_47 rfl ?_
  refine x_gr dX12_law_48 fX12_17 (by first | assumption) (fun _ _ _ => rfl) (by first | assumption) ?_
  refine y_iconst dX12_law_51 ?_
  refine x_iload_n dX12_law_52 rfl ?_
  refine b_iast (r := r) (m := 24) (j := 2) (0) dX12_law_53 (by first | assumption) (by first | rfl | omega) (by omega) (by decide) (by decide) ?_
  refine x_aload_n dX12_law_54 rfl ?_
  refine (show X _ _ 55 _ _ _ _ _ _ from ?_)
  refine x_callV (As := []) (mc := 0) (ms := 0) (z := mX12_granted) (ci := 12) dX12_law_55 lX12_593 oX12_granted (by decide) (by first | assumption) rfl rfl (Nat.le_of_ble_eq_true rfl) (Nat.le_of_ble_eq_true rfl) rfl (hgr) (k_I ?_)
  refine (show X _ _ 58 _ _ _ _ _ _ from ?_)
  exact x_zreturn dX12_law_58 rfl rfl (DQ_tr hfin 0 (by decide) _)
theorem k_death0 {x y : Int} (hI : DI T R V r f E t tp h A B a m H K wr pl tr) (hx : R32 x) (hy : R32 y) (hb : ¬ (noP h A x = false ∧ (y = -2 ∨ noY A y = false) ∧ B 1 x.toNat ≠ y)) : X g mX12_death 0 [.ref r, .int (iI x), .int (iI y)] [] (T, iV (pB V r 24 E), R, J, z) k n (DQ T R J z V r f (some (.int (iI 0))) t tp h A B a m H K wr pl (if noP h A x = true then 1 else if y ≠ -2 ∧ noY A y = true then 2 else 5)) := by
  have hM := hI.1
  have hI1 := DI_sc hI (Sc_th hI 0)
  have hdn := fun x => k_denied (g := g) (V := V) (E := u2 E 0 0 0) (J := J) (z := z) (k := 0) (n := 0) (x := x) hM
  have hip := k_isPerson (g := g) (J := J) (z := z) (k := 0) (n := 0) (p := x) hI1 hx
  cases e : noP h A x
  rotate_left
  · rw [e] at hip
    rw [if_pos rfl]
    obtain ⟨m0, ⟨-, m15, -, -, -, -, -, -, -, -, -, -, -, -, -, -, -, -, -, -, -, -, -⟩, ⟨-, mk2, -, -, -, -, -, -, -, -, -, -, -, -, -, -, -, -, -, -, -, -, -⟩⟩ := id hM
    refine x_aload_n dX12_death_0 rfl ?_
    refine y_iconst dX12_death_1 ?_
    refine b_pi0 (r := r) (m := 24) dX12_death_2 (pX12_85 _) (by first | assumption) (fun _ _ _ => rfl) rfl rfl (by decide) ?_
    refine x_aload_n dX12_death_5 rfl ?_
    refine x_iload_n dX12_death_6 rfl ?_
    refine (show X _ _ 7 _ _ _ _ _ _ from ?_)
    refine x_callV (As := [_]) (mc := 0) (ms := 0) (z := mX12_isPerson) (ci := 12) dX12_death_7 lX12_513 oX12_isPerson (by decide) (by first | assumption) rfl rfl (Nat.le_of_ble_eq_true rfl) (Nat.le_of_ble_eq_true rfl) rfl (hip) (k_I ?_)
    refine (show X _ _ 10 _ _ _ _ _ _ from ?_)
    refine y_ifb_ne 19 dX12_death_10 (by decide) (fun c => ?_) (fun c => ?_)
    · cases c
    refine x_aload_n dX12_death_13 rfl ?_
    refine y_iconst dX12_death_14 ?_
    refine (show X _ _ 15 _ _ _ _ _ _ from ?_)
    refine x_callV (As := [_]) (mc := 0) (ms := 0) (z := mX12_denied) (ci := 12) dX12_death_15 lX12_587 oX12_denied (by decide) (by first | assumption) rfl rfl (Nat.le_of_ble_eq_true rfl) (Nat.le_of_ble_eq_true rfl) rfl (hdn _) (k_I ?_)
    refine (show X _ _ 18 _ _ _ _ _ _ from ?_)
    exact x_zreturn dX12_death_18 rfl rfl (DQ_tr hI1 1 (by decide) _)
  obtain ⟨rfl, e3, e4⟩ := noP_f e
  rw [e] at hip hb
  have hiy := k_isYear (g := g) (J := J) (z := z) (k := 0) (n := 0) (p := y) hI1 hy
  obtain ⟨-, -, -, -, -, d1, d2⟩ := id hI1
  obtain ⟨-, ⟨hA, hB, -⟩, hv, -⟩ := d2 rfl
  have eP := fP10 hA
  have hpn : x.toNat < fP A := by omega
  have hbd := hB.2.2.2.1 x.toNat hpn
  have hA0 := hA.1
  obtain ⟨y1, y2⟩ := hy
  rw [if_neg (show ¬ (false = true) by decide)]
  obtain ⟨m0, ⟨-, m15, -, -, -, -, -, -, -, -, -, -, -, -, -, -, -, -, -, -, -, -, -⟩, ⟨-, mk2, -, -, -, -, -, -, -, -, -, -, -, -, -, -, -, -, -, -, -, -, -⟩⟩ := id hM
  have tail : (y = -2 ∨ noY A y = false) → X g mX12_death 39 [.ref r, .int (iI x), .int (iI y)] [] (T, iV (pB V r 24 (u2 E 0 0 0)), R, J, z) k n (DQ T R J z V r f (some (.int (iI 0))) t tp true A B a m H K wr pl 5) := by
    intro e2
    refine x_aload_n dX12_death_39 rfl ?_
    refine x_gr dX12_death_40 fX12_17 (by first | assumption) (fun _ _ _ => rfl) (by first | assumption) ?_
    refine y_iconst dX12_death_43 ?_
    refine x_iload_n dX12_death_44 rfl ?_
    refine y_iadd dX12_death_45 ?_
    refine b_iald (r := r) (m := 24) (j := 2) (2 + x.toNat) dX12_death_46 (by first | assumption) (by first | rfl | omega) (by omega) (by decide) (by decide) ?_
    refine (show X _ _ 47 _ _ _ _ _ _ from ?_)
    refine X.val (hv.2.2.2.1 x.toNat hpn) ?_
    refine x_iload_n dX12_death_47 rfl ?_
    refine (show X _ _ 48 _ _ _ _ _ _ from ?_)
    refine y_icmp_ne 57 dX12_death_48 (by decide) ⟨by omega, by omega⟩ ⟨by omega, by omega⟩ (fun c4 => ?_) (fun c4 => ?_)
    · exact absurd ⟨rfl, e2, c4⟩ hb
    refine x_aload_n dX12_death_51 rfl ?_
    refine y_iconst dX12_death_52 ?_
    refine (show X _ _ 53 _ _ _ _ _ _ from ?_)
    refine x_callV (As := [_]) (mc := 0) (ms := 0) (z := mX12_denied) (ci := 12) dX12_death_53 lX12_587 oX12_denied (by decide) (by first | assumption) rfl rfl (Nat.le_of_ble_eq_true rfl) (Nat.le_of_ble_eq_true rfl) rfl (hdn _) (k_I ?_)
    refine (show X _ _ 56 _ _ _ _ _ _ from ?_)
    exact x_zreturn dX12_death_56 rfl rfl (DQ_tr hI1 5 (by decide) _)
  refine x_aload_n dX12_death_0 rfl ?_
  refine y_iconst dX12_death_1 ?_
  refine b_pi0 (r := r) (m := 24) dX12_death_2 (pX12_85 _) (by first | assumption) (fun _ _ _ => rfl) rfl rfl (by decide) ?_
  refine x_aload_n dX12_death_5 rfl ?_
  refine x_iload_n dX12_death_6 rfl ?_
  refine (show X _ _ 7 _ _ _ _ _ _ from ?_)
  refine x_callV (As := [_]) (mc := 0) (ms := 0) (z := mX12_isPerson) (ci := 12) dX12_death_7 lX12_513 oX12_isPerson (by decide) (by first | assumption) rfl rfl (Nat.le_of_ble_eq_true rfl) (Nat.le_of_ble_eq_true rfl) rfl (hip) (k_I ?_)
  refine (show X _ _ 10 _ _ _ _ _ _ from ?_)
  refine y_ifb_ne 19 dX12_death_10 (by decide) (fun c => ?_) (fun c => ?_)
  rotate_left
  · cases c
  refine x_iload_n dX12_death_19 rfl ?_
  refine y_bipush dX12_death_20 rfl ?_
  refine (show X _ _ 22 _ _ _ _ _ _ from ?_)
  refine y_icmp_eq 39 dX12_death_22 (by decide) ⟨by omega, by omega⟩ ⟨by omega, by omega⟩ (fun c1 => ?_) (fun c1 => ?_)
  · rw [if_neg (by omega)]
    exact tail (Or.inl c1)
  refine x_aload_n dX12_death_25 rfl ?_
  refine x_iload_n dX12_death_26 rfl ?_
  refine (show X _ _ 27 _ _ _ _ _ _ from ?_)
  refine x_callV (As := [_]) (mc := 0) (ms := 0) (z := mX12_isYear) (ci := 12) dX12_death_27 lX12_507 oX12_isYear (by decide) (by first | assumption) rfl rfl (Nat.le_of_ble_eq_true rfl) (Nat.le_of_ble_eq_true rfl) rfl (hiy) (k_I ?_)
  refine (show X _ _ 30 _ _ _ _ _ _ from ?_)
  refine y_ifb_ne 39 dX12_death_30 (by decide) (fun c2 => ?_) (fun c2 => ?_)
  · have e5 : noY A y = false := by cases hc : noY A y; rfl; rw [hc] at c2; cases c2
    rw [if_neg (by rw [e5]; exact fun c => by cases c.2)]
    exact tail (Or.inr e5)
  · have e5 : noY A y = true := by cases hc : noY A y; rw [hc] at c2; cases c2; rfl
    rw [if_pos ⟨c1, e5⟩]
    refine x_aload_n dX12_death_33 rfl ?_
    refine y_iconst dX12_death_34 ?_
    refine (show X _ _ 35 _ _ _ _ _ _ from ?_)
    refine x_callV (As := [_]) (mc := 0) (ms := 0) (z := mX12_denied) (ci := 12) dX12_death_35 lX12_587 oX12_denied (by decide) (by first | assumption) rfl rfl (Nat.le_of_ble_eq_true rfl) (Nat.le_of_ble_eq_true rfl) rfl (hdn _) (k_I ?_)
    refine (show X _ _ 38 _ _ _ _ _ _ from ?_)
    exact x_zreturn dX12_death_38 rfl rfl (DQ_tr hI1 2 (by decide) _)
theorem k_death {x y : Int} (hI : DI T R V r f E t tp h A B a m H K wr pl tr) (hx : R32 x) (hy : R32 y) (b1 : noP h A x = false) (b2 : y = -2 ∨ noY A y = false) (b3 : B 1 x.toNat ≠ y) (hVH : ∀ i, i < a → VB A (H i)) (hB' : VB A (u2 B 1 x.toNat y)) : X g mX12_death 0 [.ref r, .int (iI x), .int (iI y)] [] (T, iV (pB V r 24 E), R, J, z) k n (DQ T R J z V r f (some (.int (iI 1))) t tp true A (u2 B 1 x.toNat y) (kaN a) m (kaH a H B) K wr pl 0) := by
  have hM := hI.1
  have hI1 := DI_sc hI (Sc_th hI 0)
  have hip := k_isPerson (g := g) (J := J) (z := z) (k := 0) (n := 0) (p := x) hI1 hx
  obtain ⟨rfl, e3, e4⟩ := noP_f b1
  rw [b1] at hip
  have hka := k_keepsAll (g := g) (J := J) (z := z) (k := 0) (n := 0) hI1 hVH
  have hiy := k_isYear (g := g) (J := J) (z := z) (k := 0) (n := 0) (p := y) hI1 hy
  obtain ⟨-, -, -, ⟨⟨-, ha12⟩, -⟩, -, d1, d2⟩ := id hI1
  obtain ⟨-, ⟨hA, hB, -⟩, hv, -⟩ := d2 rfl
  have eP := fP10 hA
  have hpn : x.toNat < fP A := by omega
  have hbd := hB.2.2.2.1 x.toNat hpn
  have hA0 := hA.1
  obtain ⟨y1, y2⟩ := hy
  obtain ⟨m0, ⟨-, m15, -, -, -, -, -, -, -, -, -, -, -, -, -, -, -, -, -, -, -, -, -⟩, ⟨-, mk2, -, -, -, -, -, -, -, -, -, -, -, -, -, -, -, -, -, -, -, -, -⟩⟩ := id hM
  have tail : X g mX12_death 39 [.ref r, .int (iI x), .int (iI y)] [] (T, iV (pB V r 24 (u2 E 0 0 0)), R, J, z) k n (DQ T R J z V r f (some (.int (iI 1))) t tp true A (u2 B 1 x.toNat y) (kaN a) m (kaH a H B) K wr pl 0) := by
    refine x_aload_n dX12_death_39 rfl ?_
    refine x_gr dX12_death_40 fX12_17 (by first | assumption) (fun _ _ _ => rfl) (by first | assumption) ?_
    refine y_iconst dX12_death_43 ?_
    refine x_iload_n dX12_death_44 rfl ?_
    refine y_iadd dX12_death_45 ?_
    refine b_iald (r := r) (m := 24) (j := 2) (2 + x.toNat) dX12_death_46 (by first | assumption) (by first | rfl | omega) (by omega) (by decide) (by decide) ?_
    refine (show X _ _ 47 _ _ _ _ _ _ from ?_)
    refine X.val (hv.2.2.2.1 x.toNat hpn) ?_
    refine x_iload_n dX12_death_47 rfl ?_
    refine (show X _ _ 48 _ _ _ _ _ _ from ?_)
    refine y_icmp_ne 57 dX12_death_48 (by decide) ⟨by omega, by omega⟩ ⟨by omega, by omega⟩ (fun c4 => ?_) (fun c4 => ?_)
    rotate_left
    · exact absurd c4 b3
    refine x_aload_n dX12_death_57 rfl ?_
    refine (show X _ _ 58 _ _ _ _ _ _ from ?_)
    refine x_callV (As := []) (mc := 0) (ms := 0) (z := mX12_keepsAll) (ci := 12) dX12_death_58 lX12_590 oX12_keepsAll (by decide) (by first | assumption) rfl rfl (Nat.le_of_ble_eq_true rfl) (Nat.le_of_ble_eq_true rfl) rfl (hka) (fun v M1 hq => ?_)
    obtain ⟨rfl, E1, rfl, q1, q2, q3, q4⟩ := hq
    refine (show X _ _ 61 _ [] _ _ _ _ from ?_)
    have hgr := k_granted (g := g) (V := V) (E := u2 E1 2 (2 + x.toNat) y) (J := J) (z := z) (k := 0) (n := 0) hM
    have hka12 : kaN a ≤ 12 := by unfold kaN; split <;> omega
    have hfin : DI T R V r f (u2 E1 2 (2 + x.toNat) y) t tp true A (u2 B 1 x.toNat y) (kaN a) m (kaH a H B) K wr pl tr := DI_act hI1 (fun c hc => by rw [u2_n (by decide), q2 c (by omega)]) (by rw [u2_n (by decide), q1 1 (by decide) (by decide)]) (by rw [u2_n (by decide), q1 4 (by decide) (by decide)]) (by rw [u2_s, q1 2 (by decide) (by decide)]; exact NV_d hA hpn hv) hB' ⟨by rw [u2_n (by decide)]; exact q3, hka12⟩ (by rw [u2_n (by decide)]; exact q4)
    refine x_aload_n dX12_death_61 rfl ?_
    refine x_gr dX12_death_62 fX12_17 (by first | assumption) (fun _ _ _ => rfl) (by first | assumption) ?_
    refine y_iconst dX12_death_65 ?_
    refine x_iload_n dX12_death_66 rfl ?_
    refine y_iadd dX12_death_67 ?_
    refine x_iload_n dX12_death_68 rfl ?_
    refine b_iast (r := r) (m := 24) (j := 2) (2 + x.toNat) dX12_death_69 (by first | assumption) (by first | rfl | omega) (by omega) (by decide) (by decide) ?_
    refine x_aload_n dX12_death_70 rfl ?_
    refine (show X _ _ 71 _ _ _ _ _ _ from ?_)
    refine x_callV (As := []) (mc := 0) (ms := 0) (z := mX12_granted) (ci := 12) dX12_death_71 lX12_593 oX12_granted (by decide) (by first | assumption) rfl rfl (Nat.le_of_ble_eq_true rfl) (Nat.le_of_ble_eq_true rfl) rfl (hgr) (k_I ?_)
    refine (show X _ _ 74 _ _ _ _ _ _ from ?_)
    exact x_zreturn dX12_death_74 rfl rfl (DQ_tr hfin 0 (by decide) _)
  refine x_aload_n dX12_death_0 rfl ?_
  refine y_iconst dX12_death_1 ?_
  refine b_pi0 (r := r) (m := 24) dX12_death_2 (pX12_85 _) (by first | assumption) (fun _ _ _ => rfl) rfl rfl (by decide) ?_
  refine x_aload_n dX12_death_5 rfl ?_
  refine x_iload_n dX12_death_6 rfl ?_
  refine (show X _ _ 7 _ _ _ _ _ _ from ?_)
  refine x_callV (As := [_]) (mc := 0) (ms := 0) (z := mX12_isPerson) (ci := 12) dX12_death_7 lX12_513 oX12_isPerson (by decide) (by first | assumption) rfl rfl (Nat.le_of_ble_eq_true rfl) (Nat.le_of_ble_eq_true rfl) rfl (hip) (k_I ?_)
  refine (show X _ _ 10 _ _ _ _ _ _ from ?_)
  refine y_ifb_ne 19 dX12_death_10 (by decide) (fun c => ?_) (fun c => ?_)
  rotate_left
  · cases c
  refine x_iload_n dX12_death_19 rfl ?_
  refine y_bipush dX12_death_20 rfl ?_
  refine (show X _ _ 22 _ _ _ _ _ _ from ?_)
  refine y_icmp_eq 39 dX12_death_22 (by decide) ⟨by omega, by omega⟩ ⟨by omega, by omega⟩ (fun c1 => ?_) (fun c1 => ?_)
  · exact tail
  refine x_aload_n dX12_death_25 rfl ?_
  refine x_iload_n dX12_death_26 rfl ?_
  refine (show X _ _ 27 _ _ _ _ _ _ from ?_)
  refine x_callV (As := [_]) (mc := 0) (ms := 0) (z := mX12_isYear) (ci := 12) dX12_death_27 lX12_507 oX12_isYear (by decide) (by first | assumption) rfl rfl (Nat.le_of_ble_eq_true rfl) (Nat.le_of_ble_eq_true rfl) rfl (hiy) (k_I ?_)
  refine (show X _ _ 30 _ _ _ _ _ _ from ?_)
  refine y_ifb_ne 39 dX12_death_30 (by decide) (fun c2 => ?_) (fun c2 => ?_)
  · exact tail
  · rcases b2 with b2 | b2
    · exact absurd b2 c1
    · rw [b2] at c2; cases c2
theorem k_seed0 {x : Int} (hI : DI T R V r f E t tp h A B a m H K wr pl tr) (hx : R32 x) (hb : ¬ (h = true ∧ 0 ≤ x ∧ x < 65537)) : X g mX12_seed 0 [.ref r, .int (iI x)] [] (T, iV (pB V r 24 E), R, J, z) k n (DQ T R J z V r f (some (.int (iI 0))) t tp h A B a m H K wr pl (if h = true then 2 else 1)) := by
  have hM := hI.1
  have hI1 := DI_sc hI (Sc_th hI 0)
  have hdn := fun x => k_denied (g := g) (V := V) (E := u2 E 0 0 0) (J := J) (z := z) (k := 0) (n := 0) (x := x) hM
  have hin := c_in (g := g) (k := 0) (n := 0) (x := x) (lo := 0) (hi := 65536) (M := (T, iV (pB V r 24 (u2 E 0 0 0)), R, J, z)) hx ⟨by decide, by decide⟩ ⟨by decide, by decide⟩
  obtain ⟨-, -, -, -, -, d1, d2⟩ := id hI1
  cases h
  · have hn := (d1 rfl).1
    rw [if_neg (by decide)]
    obtain ⟨m0, ⟨-, m15, -, -, -, -, -, -, -, -, -, -, -, -, -, -, -, -, -, -, -, -, -⟩, ⟨-, mk2, -, -, -, -, -, -, -, -, -, -, -, -, -, -, -, -, -, -, -, -, -⟩⟩ := id hM
    refine x_aload_n dX12_seed_0 rfl ?_
    refine y_iconst dX12_seed_1 ?_
    refine b_pi0 (r := r) (m := 24) dX12_seed_2 (pX12_85 _) (by first | assumption) (fun _ _ _ => rfl) rfl rfl (by decide) ?_
    refine x_aload_n dX12_seed_5 rfl ?_
    refine (show X _ _ 6 _ _ _ _ _ _ from ?_)
    refine x_gn dX12_seed_6 fX12_409 (by first | assumption) (fun _ _ _ => rfl) (by first | assumption) ?_
    refine (show X _ _ 9 _ _ _ _ _ _ from ?_)
    refine x_ifnonnull_n dX12_seed_9 ?_
    refine (show X _ _ 12 _ _ _ _ _ _ from ?_)
    refine x_aload_n dX12_seed_12 rfl ?_
    refine y_iconst dX12_seed_13 ?_
    refine (show X _ _ 14 _ _ _ _ _ _ from ?_)
    refine x_callV (As := [_]) (mc := 0) (ms := 0) (z := mX12_denied) (ci := 12) dX12_seed_14 lX12_587 oX12_denied (by decide) (by first | assumption) rfl rfl (Nat.le_of_ble_eq_true rfl) (Nat.le_of_ble_eq_true rfl) rfl (hdn _) (k_I ?_)
    refine (show X _ _ 17 _ _ _ _ _ _ from ?_)
    exact x_zreturn dX12_seed_17 rfl rfl (DQ_tr hI1 1 (by decide) _)
  obtain ⟨⟨hf, -⟩, -⟩ := d2 rfl
  rw [if_pos rfl]
  obtain ⟨m0, ⟨-, m15, -, -, -, -, -, -, -, -, -, -, -, -, -, -, -, -, -, -, -, -, -⟩, ⟨-, mk2, -, -, -, -, -, -, -, -, -, -, -, -, -, -, -, -, -, -, -, -, -⟩⟩ := id hM
  refine x_aload_n dX12_seed_0 rfl ?_
  refine y_iconst dX12_seed_1 ?_
  refine b_pi0 (r := r) (m := 24) dX12_seed_2 (pX12_85 _) (by first | assumption) (fun _ _ _ => rfl) rfl rfl (by decide) ?_
  refine x_aload_n dX12_seed_5 rfl ?_
  refine x_gr dX12_seed_6 fX12_409 (by first | assumption) (fun _ _ _ => rfl) (by first | assumption) ?_
  refine (show X _ _ 9 _ _ _ _ _ _ from ?_)
  refine x_ifnonnull_r 18 dX12_seed_9 (by decide) ?_
  refine (show X _ _ 18 _ _ _ _ _ _ from ?_)
  refine x_iload_n dX12_seed_18 rfl ?_
  refine y_iconst dX12_seed_19 ?_
  refine y_ldcw (65536) dX12_seed_20 kX12_585 rfl ?_
  refine (show X _ _ 23 _ _ _ _ _ _ from ?_)
  refine x_callS (As := [_, _, _]) (mc := 0) (ms := 0) (z := mX12_in) dX12_seed_23 lX12_160 oX12_in (by decide) rfl (Nat.le_of_ble_eq_true rfl) (Nat.le_of_ble_eq_true rfl) rfl (hin) (k_I ?_)
  refine (show X _ _ 26 _ _ _ _ _ _ from ?_)
  refine y_ifb_ne 35 dX12_seed_26 (by decide) (fun c1 => ?_) (fun c1 => ?_)
  · have := of_decide_eq_true c1
    exact absurd ⟨rfl, by omega, by omega⟩ hb
  refine x_aload_n dX12_seed_29 rfl ?_
  refine y_iconst dX12_seed_30 ?_
  refine (show X _ _ 31 _ _ _ _ _ _ from ?_)
  refine x_callV (As := [_]) (mc := 0) (ms := 0) (z := mX12_denied) (ci := 12) dX12_seed_31 lX12_587 oX12_denied (by decide) (by first | assumption) rfl rfl (Nat.le_of_ble_eq_true rfl) (Nat.le_of_ble_eq_true rfl) rfl (hdn _) (k_I ?_)
  refine (show X _ _ 34 _ _ _ _ _ _ from ?_)
  exact x_zreturn dX12_seed_34 rfl rfl (DQ_tr hI1 2 (by decide) _)
theorem k_seed {x : Int} (hI : DI T R V r f E t tp true A B a m H K wr pl tr) (hx : 0 ≤ x ∧ x < 65537) (hB' : VB A (u2 B 0 1 x)) : X g mX12_seed 0 [.ref r, .int (iI x)] [] (T, iV (pB V r 24 E), R, J, z) k n (DQ T R J z V r f (some (.int (iI 1))) t tp true A (u2 B 0 1 x) a m H K wr pl 0) := by
  have hM := hI.1
  have hI1 := DI_sc hI (Sc_th hI 0)
  have hin := c_in (g := g) (k := 0) (n := 0) (x := x) (lo := 0) (hi := 65536) (M := (T, iV (pB V r 24 (u2 E 0 0 0)), R, J, z)) ⟨by omega, by omega⟩ ⟨by decide, by decide⟩ ⟨by decide, by decide⟩
  rw [decide_eq_true (by omega)] at hin
  obtain ⟨-, -, -, ⟨d18, -⟩, -, d1, d2⟩ := id hI1
  obtain ⟨⟨hf, -⟩, -, hv, hH, -⟩ := d2 rfl
  have hgr := k_granted (g := g) (V := V) (E := u2 (u2 E 0 0 0) 2 1 x) (J := J) (z := z) (k := 0) (n := 0) hM
  have hfin : DI T R V r f (u2 (u2 E 0 0 0) 2 1 x) t tp true A (u2 B 0 1 x) a m H K wr pl tr := DI_act hI1 (fun c hc => by rw [u2_n (by decide)]) (u2_n (by decide)) (u2_n (by decide)) (by rw [u2_s]; exact NV_1 hv) hB' (by rw [u2_n (by decide)]; exact d18) (by rw [u2_n (by decide)]; exact hH)
  obtain ⟨m0, ⟨-, m15, -, -, -, -, -, -, -, -, -, -, -, -, -, -, -, -, -, -, -, -, -⟩, ⟨-, mk2, -, -, -, -, -, -, -, -, -, -, -, -, -, -, -, -, -, -, -, -, -⟩⟩ := id hM
  refine x_aload_n dX12_seed_0 rfl ?_
  refine y_iconst dX12_seed_1 ?_
  refine b_pi0 (r := r) (m := 24) dX12_seed_2 (pX12_85 _) (by first | assumption) (fun _ _ _ => rfl) rfl rfl (by decide) ?_
  refine x_aload_n dX12_seed_5 rfl ?_
  refine x_gr dX12_seed_6 fX12_409 (by first | assumption) (fun _ _ _ => rfl) (by first | assumption) ?_
  refine (show X _ _ 9 _ _ _ _ _ _ from ?_)
  refine x_ifnonnull_r 18 dX12_seed_9 (by decide) ?_
  refine (show X _ _ 18 _ _ _ _ _ _ from ?_)
  refine x_iload_n dX12_seed_18 rfl ?_
  refine y_iconst dX12_seed_19 ?_
  refine y_ldcw (65536) dX12_seed_20 kX12_585 rfl ?_
  refine (show X _ _ 23 _ _ _ _ _ _ from ?_)
  refine x_callS (As := [_, _, _]) (mc := 0) (ms := 0) (z := mX12_in) dX12_seed_23 lX12_160 oX12_in (by decide) rfl (Nat.le_of_ble_eq_true rfl) (Nat.le_of_ble_eq_true rfl) rfl (hin) (k_I ?_)
  refine (show X _ _ 26 _ _ _ _ _ _ from ?_)
  refine y_ifb_ne 35 dX12_seed_26 (by decide) (fun c1 => ?_) (fun c1 => ?_)
  rotate_left
  · cases c1
  refine x_aload_n dX12_seed_35 rfl ?_
  refine x_gr dX12_seed_36 fX12_17 (by first | assumption) (fun _ _ _ => rfl) (by first | assumption) ?_
  refine y_iconst dX12_seed_39 ?_
  refine x_iload_n dX12_seed_40 rfl ?_
  refine b_iast (r := r) (m := 24) (j := 2) (1) dX12_seed_41 (by first | assumption) (by first | rfl | omega) (by omega) (by decide) (by decide) ?_
  refine x_aload_n dX12_seed_42 rfl ?_
  refine (show X _ _ 43 _ _ _ _ _ _ from ?_)
  refine x_callV (As := []) (mc := 0) (ms := 0) (z := mX12_granted) (ci := 12) dX12_seed_43 lX12_593 oX12_granted (by decide) (by first | assumption) rfl rfl (Nat.le_of_ble_eq_true rfl) (Nat.le_of_ble_eq_true rfl) rfl (hgr) (k_I ?_)
  refine (show X _ _ 46 _ _ _ _ _ _ from ?_)
  exact x_zreturn dX12_seed_46 rfl rfl (DQ_tr hfin 0 (by decide) _)
end C9d
