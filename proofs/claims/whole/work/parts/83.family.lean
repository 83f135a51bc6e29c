/-! ===== the class's face: family ===== -/
section PT
variable {t : Nat → Int} {e : Nat}
theorem pMore_VP : ∀ d (r : PR), (∀ x, r = .inr x → VP x.1 ∧ 4 ≤ x.1 0 0) → ∀ x, pMore t e d r = .inr x → VP x.1 ∧ 4 ≤ x.1 0 0
  | 0, r, h, x, hx => h x hx
  | d + 1, .inl c, h, x, hx => by cases hx
  | d + 1, .inr s, h, x, hx => by
    rw [pMore] at hx
    split at hx
    · exact pMore_VP d _ (fun y hy => pLine_VP (h s rfl).1 hy) x hx
    · exact h x hx
theorem pText_VP {x : (Nat → Nat → Int) × Nat} (h : pText t e = .inr x) : VP x.1 ∧ 4 ≤ x.1 0 0 ∧ 1 ≤ x.1 0 3 := by
  unfold pText at h
  have h1 := pMore_VP (t := t) (e := e) 1100 (pLine t e A0 0) (fun y hy => pLine_VP VP_0 hy)
  generalize pMore t e 1100 (pLine t e A0 0) = r at h h1
  cases r with
  | inl c => cases h
  | inr s =>
    rw [pFin] at h
    split at h
    · split at h
      · rename_i q
        cases h
        exact ⟨(h1 _ rfl).1, (h1 _ rfl).2, q⟩
      · cases h
    · cases h
end PT
section SW
variable {A W : Nat → Nat → Int}
theorem sfW_0 : (sfW A W 0 0 = A 0 1 ∧ sfW A W 0 1 = 0 ∧ sfW A W 0 2 = 0) ∧ (∀ p, p < fP A → sfW A W 1 p = A 7 p) ∧ (∀ p, fP A ≤ p → sfW A W 1 p = W 1 p) ∧ sfW A W 2 = W 2 := by
  have key : ∀ m (U : Nat → Nat → Int), (∀ a, a ≠ 1 → lp m (fun p W => u2 W 1 p (A 7 p)) U a = U a) ∧ (∀ p, p < m → lp m (fun p W => u2 W 1 p (A 7 p)) U 1 p = A 7 p) ∧ (∀ p, m ≤ p → lp m (fun p W => u2 W 1 p (A 7 p)) U 1 p = U 1 p) := by
    intro m U
    induction m with
    | zero => exact ⟨fun _ _ => rfl, fun p hp => absurd hp (by omega), fun _ _ => rfl⟩
    | succ m ih =>
      rw [lp_s]
      refine ⟨fun a ha => by rw [u2_n ha]; exact ih.1 a ha, fun p hp => ?_, fun p hp => ?_⟩
      · rw [u2_s]
        by_cases ep : p = m
        · rw [ep, u1_s]
        · rw [u1_n ep]; exact ih.2.1 p (by omega)
      · rw [u2_s, u1_n (by omega)]; exact ih.2.2 p (by omega)
  obtain ⟨k1, k2, k3⟩ := key (fP A) (u2 (u2 (u2 W 0 0 (A 0 1)) 0 1 0) 0 2 0)
  unfold sfW
  refine ⟨?_, k2, fun p hp => ?_, ?_⟩
  · rw [k1 0 (by decide)]
    simp (discharger := decide) only [u2_s, u1_s, u1_n, and_self]
  · rw [k3 p hp, u2_n (by decide), u2_n (by decide), u2_n (by decide)]
  · rw [k1 2 (by decide), u2_n (by decide), u2_n (by decide), u2_n (by decide)]
theorem sfW_VB (hA : VA A) : VB A (sfW A W) := by
  obtain ⟨⟨h0, h1, h2⟩, h3, -, -⟩ := sfW_0 (A := A) (W := W)
  refine ⟨by rw [h0]; exact hA.2.1, by rw [h1]; omega, by rw [h2]; omega, fun p hp => by rw [h3 p hp]; exact (hA.2.2.2.2.2.2.2.2.2.1 p hp).2.2.2.2.2.2, fun i hi => ?_⟩
  rw [h2] at hi
  exact absurd hi (by show ¬ i < 0; omega)
end SW
section C83
variable {g : GG} {T : Nat → Nat × Nat} {V V' A B : Nat → Nat → Int} {R : Nat → Nat → Option Nat} {J : Nat → Nat → Int64} {z k n : Nat} {o fw fr : Nat} {σ : Nat → Nat} {t : Nat → Int} {tp : Nat} {h : Bool} {a m : Nat} {H K : Nat → Nat → Nat → Int} {wr pl tr : Int}
theorem f_fam0 {x : Int} (hI : CI T R V o fw fr σ t tp h A B a m H K wr pl tr) (hx : R32 x) (hb : x < 0 ∨ (tp : Int) < x) : X g mX10_family 0 [.ref o, .int (iI x), jk] [] (T, iV V, R, J, z) k n (CQ T R J z V o (some (.int (iI (-1)))) t tp h A B a m H K wr pl 2) := by
  have hI0 := hI
  obtain ⟨hC, ⟨p6, p7⟩, ⟨r1, r2, r4, r9⟩, ⟨x1, x2, x3⟩, -⟩ := hI
  have hrf := fun x => c_refuse (g := g) (J := J) (z := z) (k := 0) (n := 0) (V := V) (x := x) hC
  obtain ⟨⟨c0, c1, c2, -⟩, hB, -⟩ := hC
  have b0 := hB.1.1
  obtain ⟨hx1, hx2⟩ := hx
  have t1 : X g mX10_family 15 [.ref o, .int (iI x), jk] [] (T, iV V, R, J, z) k n (CQ T R J z V o (some (.int (iI (-1)))) t tp h A B a m H K wr pl 2) := by
    refine x_aload_n dX10_family_15 rfl ?_
    refine y_iconst dX10_family_16 ?_
    refine (show X _ _ 17 _ _ _ _ _ _ from ?_)
    refine x_callV (As := [_]) (mc := 0) (ms := 0) (z := mX10_refuse) (ci := 10) dX10_family_17 lX10_68 oX10_refuse (by decide) (by first | assumption) rfl rfl (Nat.le_of_ble_eq_true rfl) (Nat.le_of_ble_eq_true rfl) rfl (hrf _) (k_I ?_)
    refine (show X _ _ 20 _ _ _ _ _ _ from ?_)
    exact x_ireturn dX10_family_20 rfl (CQ_tr hI0 _ _)
  refine x_iload_n dX10_family_0 rfl ?_
  refine (show X _ _ 1 _ _ _ _ _ _ from ?_)
  refine y_if_lt 15 dX10_family_1 (by decide) ⟨by omega, by omega⟩ (fun e => ?_) (fun e => ?_)
  · exact t1
  refine x_iload_n dX10_family_4 rfl ?_
  refine x_aload_n dX10_family_5 rfl ?_
  refine x_gr dX10_family_6 fX10_12 (by first | assumption) (fun _ _ _ => rfl) (by first | assumption) ?_
  refine y_gi dX10_family_9 fX10_61 (by first | assumption) (fun _ _ _ => rfl) ?_
  refine (show X _ _ 12 _ _ _ _ _ _ from ?_)
  refine X.val r4 ?_
  refine y_icmp_le 21 dX10_family_12 (by decide) ⟨by omega, by omega⟩ ⟨by omega, by omega⟩ (fun e1 => ?_) (fun e1 => ?_)
  · omega
  · exact t1
theorem f_fam1 {x c : Int} {s : Nat} (hI : CI T R V o fw fr σ t tp h A B a m H K wr pl tr) (hx : 0 ≤ x ∧ x ≤ tp) (hp : pText t x.toNat = .inl (c, s)) : X g mX10_family 0 [.ref o, .int (iI x), jk] [] (T, iV V, R, J, z) k n (CQ T R J z V o (some (.int (iI (-1)))) t 0 h A B a m H K c (s : Int) 4) := by
  have hI0 := hI
  obtain ⟨hC, ⟨p6, p7⟩, ⟨r1, r2, r4, r9⟩, ⟨x1, x2, x3⟩, hP, ⟨f1, f2, f3, f4⟩, ⟨n1, n2⟩, ⟨w1, w2⟩, g1, g2⟩ := hI
  have hsep := hC.2.2.2.2.2.2.2
  have hσ : ∀ i, i < 12 → σ i < 12 := fun i hi => (hC.2.2.2.1.2.1 i hi).2
  have hC0 := hC
  obtain ⟨⟨c0, c1, c2, -⟩, hB, -⟩ := hC
  have b0 := hB.1.1
  have rt := q_readText (g := g) (J := J) (z := z) (k := 0) (n := 0) (V := V) (x := x) hB r4 hx x3 r9 x1 x2
  rw [hp] at rt
  refine x_iload_n dX10_family_0 rfl ?_
  refine (show X _ _ 1 _ _ _ _ _ _ from ?_)
  refine y_if_lt 15 dX10_family_1 (by decide) ⟨by omega, by omega⟩ (fun e => ?_) (fun e => ?_)
  · omega
  refine x_iload_n dX10_family_4 rfl ?_
  refine x_aload_n dX10_family_5 rfl ?_
  refine x_gr dX10_family_6 fX10_12 (by first | assumption) (fun _ _ _ => rfl) (by first | assumption) ?_
  refine y_gi dX10_family_9 fX10_61 (by first | assumption) (fun _ _ _ => rfl) ?_
  refine (show X _ _ 12 _ _ _ _ _ _ from ?_)
  refine X.val r4 ?_
  refine y_icmp_le 21 dX10_family_12 (by decide) ⟨by omega, by omega⟩ ⟨by omega, by omega⟩ (fun e1 => ?_) (fun e1 => ?_)
  rotate_left
  · omega
  refine x_aload_n dX10_family_21 rfl ?_
  refine x_gr dX10_family_22 fX10_12 (by first | assumption) (fun _ _ _ => rfl) (by first | assumption) ?_
  refine x_iload_n dX10_family_25 rfl ?_
  refine (show X _ _ 26 _ _ _ _ _ _ from ?_)
  refine x_callV (As := [_]) (mc := 0) (ms := 0) (z := mX6_readText) (ci := 6) dX10_family_26 lX10_72 oX6_readText (by decide) (by first | assumption) rfl rfl (Nat.le_of_ble_eq_true rfl) (Nat.le_of_ble_eq_true rfl) rfl (rt) (fun v M1 hq => ?_)
  obtain ⟨V1, rfl, ⟨q1, q2, q3⟩, rfl, q4, q5⟩ := hq
  refine (show X _ _ 29 _ [.int (iI 0)] _ _ _ _ from ?_)
  have hrf := c_refuse (g := g) (J := J) (z := z) (k := 0) (n := 0) (V := V1) (x := 4) hC0
  have he : ∀ b, b ≠ o + 1 → (b < o + 48 ∨ o + 53 ≤ b) → (b < fr ∨ fr + 45 ≤ b) → u2 V1 o 7 4 b = if b = o then u2 V1 o 7 4 o else V b := by
    intro b h1 h2 h3
    by_cases eb : b = o
    · rw [if_pos eb, eb]
    · rw [if_neg eb, u2_n eb, q1 b h1 (by omega) h3, u2_n h1]
  have ho : V1 o = V o := by rw [q1 o (by omega) (by omega) (by omega), u2_n (by omega)]
  refine y_if_ne 38 dX10_family_29 (by decide) ⟨by omega, by omega⟩ (fun e2 => ?_) (fun e2 => ?_)
  · exact absurd rfl e2
  refine x_aload_n dX10_family_32 rfl ?_
  refine y_iconst dX10_family_33 ?_
  refine (show X _ _ 34 _ _ _ _ _ _ from ?_)
  refine x_callV (As := [_]) (mc := 0) (ms := 0) (z := mX10_refuse) (ci := 10) dX10_family_34 lX10_68 oX10_refuse (by decide) (by first | assumption) rfl rfl (Nat.le_of_ble_eq_true rfl) (Nat.le_of_ble_eq_true rfl) rfl (hrf) (k_I ?_)
  refine (show X _ _ 37 _ _ _ _ _ _ from ?_)
  have hv : ∀ b, b ≠ o → b ≠ o + 1 → (b < o + 48 ∨ o + 53 ≤ b) → (b < fr ∨ fr + 45 ≤ b) → u2 V1 o 7 4 b = V b := by
    intro b h0 h1 h2 h3
    rw [he b h1 h2 h3, if_neg h0]
  have h1b : u2 V1 o 7 4 (o + 1) = V1 (o + 1) := u2_n (by omega)
  refine x_ireturn dX10_family_37 rfl ⟨rfl, _, R, fw, fr, σ, rfl, fun b hb => ⟨hv b (by omega) (by omega) (by omega) (by omega), rfl⟩, hC0, ⟨by rw [u2_s, u1_n (by decide), ho]; exact p6, by rw [u2_s, u1_s]⟩, ?_, ?_, PC_eq hP hσ (fun b u1 u2 => hv b (by omega) (by omega) (by omega) (by omega)), ⟨FC_eq f1 f3 (fun b u1 u2 => hv b (by omega) (by omega) (by omega) (by omega)), NC_eq f2 (fun b u1 u2 => hv b (by omega) (by omega) (by omega) (by omega)), f3, f4⟩, ⟨NOk_eq n1 (fun b u1 u2 => hv b (by omega) (by omega) (by omega) (by omega)), NOk_eq n2 (fun b u1 u2 => hv b (by omega) (by omega) (by omega) (by omega))⟩, ?_, fun hh => ?_, g2⟩
  · rw [h1b]
    exact ⟨q4, q5, by rw [q2, u2_s, u1_s]; rfl, q3⟩
  · rw [hv (o + 47) (by omega) (by omega) (by omega) (by omega)]; exact ⟨x1, x2, by omega⟩
  · rw [hv (o + 178) (by omega) (by omega) (by omega) (by omega), hv (o + 176) (by omega) (by omega) (by omega) (by omega)]; exact ⟨w1, w2⟩
  · obtain ⟨y1, y2, ⟨Ni, Wi, y3, y4⟩, y5, y6⟩ := g1 hh
    refine ⟨y1, AC_eq y2 (fun b u1 u2 => hv b (by omega) (by omega) (by omega) (by omega)), ⟨Ni, Wi, y3, AnI_eq y4 (fun j hj => hv _ (by omega) (by omega) (by omega) (by omega))⟩, y5, ?_⟩
    unfold RwOk
    rw [hv (o + 178) (by omega) (by omega) (by omega) (by omega), hv (o + 179) (by omega) (by omega) (by omega) (by omega), hv (o + 180) (by omega) (by omega) (by omega) (by omega), hv (o + 176) (by omega) (by omega) (by omega) (by omega), hv (o + 181) (by omega) (by omega) (by omega) (by omega)]
    exact y6
/-- the world's and the reader's family have changed places -/
theorem CS_sw (hC : CS T R o fw fr σ) : CS T (u2 (u2 R (o + 53) 0 (some fr)) (o + 1) 0 (some fw)) o fr fw σ := by
  obtain ⟨⟨c0, c1, c2, c3, c4, c5, c6⟩, ⟨hS, hD, hFr, hr0, hs⟩, ⟨⟨w0, w1, w2, w3⟩, hFw, hN, hA⟩, hP, hU, hr, hQ, hsep⟩ := hC
  have hR : ∀ b, b ≠ o + 1 → b ≠ o + 53 → u2 (u2 R (o + 53) 0 (some fr)) (o + 1) 0 (some fw) b = R b := fun b h1 h2 => by rw [u2_n h1, u2_n h2]
  have h1 : ∀ c, c ≠ 0 → u2 (u2 R (o + 53) 0 (some fr)) (o + 1) 0 (some fw) (o + 1) c = R (o + 1) c := fun c hc => by rw [u2_s, u1_n hc, u2_n (by omega)]
  have h53 : ∀ c, c ≠ 0 → u2 (u2 R (o + 53) 0 (some fr)) (o + 1) 0 (some fw) (o + 53) c = R (o + 53) c := fun c hc => by rw [u2_n (by omega), u2_s, u1_n hc]
  refine ⟨?_, ⟨⟨hS.1, by rw [h1 3 (by decide)]; exact hS.2.1, hS.2.2⟩, ⟨?_, hD.2⟩, FS_k hFw (fun b u1 u2 => ⟨rfl, hR b (by omega) (by omega)⟩), by rw [u2_s, u1_s], by omega⟩, ⟨⟨w0, by rw [u2_n (by omega), u2_s, u1_s], by rw [h53 1 (by decide)]; exact w2, by rw [h53 2 (by decide)]; exact w3⟩, FS_k hFr (fun b u1 u2 => ⟨rfl, hR b (by omega) (by omega)⟩), NS_k hN (fun b u1 u2 => ⟨rfl, hR b (by omega) (by omega)⟩), AS_k hA (fun b u1 u2 => ⟨rfl, hR b (by omega) (by omega)⟩)⟩, PS_k hP (fun b u1 u2 => ⟨rfl, hR b (by omega) (by omega)⟩), US_k hU (fun b u1 u2 => ⟨rfl, hR b (by omega) (by omega)⟩), RS_k hr (fun b u1 u2 => ⟨rfl, hR b (by omega) (by omega)⟩), QS_k hQ (fun b u1 u2 => ⟨rfl, hR b (by omega) (by omega)⟩), by omega⟩
  · rw [hR o (by omega) (by omega)]; exact ⟨c0, c1, c2, c3, c4, c5, c6⟩
  · rw [h1 13 (by decide), h1 14 (by decide), h1 15 (by decide), h1 16 (by decide), h1 17 (by decide)]; exact hD.1
theorem f_fam2 {x : Int} {s : (Nat → Nat → Int) × Nat} (hI : CI T R V o fw fr σ t tp h A B a m H K wr pl tr) (hx : 0 ≤ x ∧ x ≤ tp) (hp : pText t x.toNat = .inr s) : X g mX10_family 0 [.ref o, .int (iI x), jk] [] (T, iV V, R, J, z) k n (fun v M => ∃ pl' : Int, CQ T R J z V o (some (.int (iI (s.1 0 3)))) t 0 true s.1 (sfW s.1 B) 0 0 H K 0 pl' 0 v M) := by
  obtain ⟨hVP, hY4, hP1⟩ := pText_VP hp
  have hA' := hVP.1
  have hI0 := hI
  obtain ⟨hC, ⟨p6, p7⟩, ⟨r1, r2, r4, r9⟩, ⟨x1, x2, x3⟩, hP, ⟨f1, f2, f3, f4⟩, ⟨n1, n2⟩, ⟨w1, w2⟩, g1, g2⟩ := hI
  have hsep := hC.2.2.2.2.2.2.2
  have hC2 := CS_sw hC
  have hC0 := hC
  obtain ⟨⟨c0, c1, c2, c3, -⟩, hB, ⟨⟨wd0, wd1, wd2, wd3⟩, -, hNS, -⟩, hPS, -⟩ := hC
  have b0 := hB.1.1
  have br := hB.2.2.2.1
  have rt := q_readText (g := g) (J := J) (z := z) (k := 0) (n := 0) (V := V) (x := x) hB r4 hx x3 r9 x1 x2
  rw [hp] at rt
  refine x_iload_n dX10_family_0 rfl ?_
  refine (show X _ _ 1 _ _ _ _ _ _ from ?_)
  refine y_if_lt 15 dX10_family_1 (by decide) ⟨by omega, by omega⟩ (fun e => ?_) (fun e => ?_)
  · omega
  refine x_iload_n dX10_family_4 rfl ?_
  refine x_aload_n dX10_family_5 rfl ?_
  refine x_gr dX10_family_6 fX10_12 (by first | assumption) (fun _ _ _ => rfl) (by first | assumption) ?_
  refine y_gi dX10_family_9 fX10_61 (by first | assumption) (fun _ _ _ => rfl) ?_
  refine (show X _ _ 12 _ _ _ _ _ _ from ?_)
  refine X.val r4 ?_
  refine y_icmp_le 21 dX10_family_12 (by decide) ⟨by omega, by omega⟩ ⟨by omega, by omega⟩ (fun e1 => ?_) (fun e1 => ?_)
  rotate_left
  · omega
  refine x_aload_n dX10_family_21 rfl ?_
  refine x_gr dX10_family_22 fX10_12 (by first | assumption) (fun _ _ _ => rfl) (by first | assumption) ?_
  refine x_iload_n dX10_family_25 rfl ?_
  refine (show X _ _ 26 _ _ _ _ _ _ from ?_)
  refine x_callV (As := [_]) (mc := 0) (ms := 0) (z := mX6_readText) (ci := 6) dX10_family_26 lX10_72 oX6_readText (by decide) (by first | assumption) rfl rfl (Nat.le_of_ble_eq_true rfl) (Nat.le_of_ble_eq_true rfl) rfl (rt) (fun v M1 hq => ?_)
  obtain ⟨V1, rfl, ⟨q1, q2, q3⟩, rfl, ⟨hCU, hFC, hNR, hz⟩⟩ := hq
  refine (show X _ _ 29 _ [.int (iI 1)] _ _ _ _ from ?_)
  have hv : ∀ b, b ≠ o + 1 → (b < o + 48 ∨ o + 53 ≤ b) → (b < fr ∨ fr + 45 ≤ b) → V1 b = V b := by
    intro b h1 h2 h3
    rw [q1 b h1 (by omega) h3, u2_n h1]
  generalize hA2 : s.1 = A2 at *
  refine y_if_ne 38 dX10_family_29 (by decide) ⟨by omega, by omega⟩ (fun e2 => ?_) (fun e2 => ?_)
  rotate_left
  · exact absurd e2 (by decide)
  have ro : (u2 R (o + 53) 0 (some fr)) o 0 = some (o + 1) := by rw [u2_n (by omega)]; exact c1
  refine x_aload_n dX10_family_38 rfl ?_
  refine x_gr dX10_family_39 fX10_19 (by first | assumption) (fun _ _ _ => rfl) (by first | assumption) ?_
  refine x_gr dX10_family_42 fX10_76 (by first | assumption) (fun _ _ _ => rfl) (by first | assumption) ?_
  refine x_astore_n dX10_family_45 (by decide) rfl rfl ?_
  refine x_aload_n dX10_family_46 rfl ?_
  refine x_gr dX10_family_47 fX10_19 (by first | assumption) (fun _ _ _ => rfl) (by first | assumption) ?_
  refine x_aload_n dX10_family_50 rfl ?_
  refine x_gr dX10_family_51 fX10_12 (by first | assumption) (fun _ _ _ => rfl) (by first | assumption) ?_
  refine (show X _ _ 54 _ _ _ _ _ _ from ?_)
  refine x_gr dX10_family_54 fX10_80 (by first | assumption) (fun _ _ _ => rfl) (by first | assumption) ?_
  refine x_pr dX10_family_57 (pX10_76 _) (by first | assumption) (fun _ _ _ => rfl) rfl rfl ?_
  refine x_aload_n dX10_family_60 rfl ?_
  refine x_gr dX10_family_61 fX10_12 (by first | assumption) (fun _ _ _ => rfl) (by first | assumption) ?_
  refine x_aload_n dX10_family_64 rfl ?_
  refine x_pr dX10_family_65 (pX10_80 _) (by first | assumption) (fun _ _ _ => rfl) rfl rfl ?_
  refine (show X _ _ 68 _ _ _ _ _ _ from ?_)
  generalize hR2 : u2 (u2 R (o + 53) 0 (some fr)) (o + 1) 0 (some fw) = R2 at *
  have hC3 := hC2
  obtain ⟨⟨d0, d1, d2, d3, -⟩, dB, ⟨⟨wd0', wd1', wd2', wd3'⟩, dFS, dNS, -⟩, dPS, -⟩ := hC2
  have nw1 : NC V1 (o + 99) B := NC_eq f2 (fun b u1 u2 => hv b (by omega) (by omega) (by omega))
  have sf := c_startFrom (g := g) (J := J) (z := z) (k := 0) (n := 0) (V := V1) (R := R2) (W := fun j => V1 (o + 99 + j)) dNS dFS hFC hA' (by omega)
  rw [pB_self (fun _ _ => rfl)] at sf
  obtain ⟨⟨s0, s1, s2⟩, s3, s4, s5⟩ := sfW_0 (A := A2) (W := fun j => V1 (o + 99 + j))
  obtain ⟨⟨s0', s1', s2'⟩, s3', s4', s5'⟩ := sfW_0 (A := A2) (W := B)
  have hN2 : NC (pB V1 (o + 99) 3 (sfW A2 (fun j => V1 (o + 99 + j)))) (o + 99) (sfW A2 B) := by
    refine ⟨fun j hj => ?_, fun p hp => ?_, fun j hj => ?_⟩
    · rw [pB_0 (by decide)]
      rcases (by omega : j = 0 ∨ j = 1 ∨ j = 2) with rfl | rfl | rfl
      · rw [s0, s0']
      · rw [s1, s1']
      · rw [s2, s2']
    · rw [pB_at (by decide)]
      by_cases ep : p < fP A2
      · rw [s3 p ep, s3' p ep]
      · rw [s4 p (by omega), s4' p (by omega)]; exact nw1.2.1 p hp
    · rw [pB_at (by decide), s5, s5']; exact nw1.2.2 j hj
  generalize hV2 : pB V1 (o + 99) 3 (sfW A2 (fun j => V1 (o + 99 + j))) = V2 at *
  have hv2 : ∀ b, (b < o + 99 ∨ o + 102 ≤ b) → V2 b = V1 b := fun b hb => by rw [← hV2, pB_out (by omega)]
  have n0' := dNS.1
  refine x_aload_n dX10_family_68 rfl ?_
  refine x_gr dX10_family_69 fX10_19 (by first | assumption) (fun _ _ _ => rfl) (by first | assumption) ?_
  refine x_gr dX10_family_72 fX10_81 (by first | assumption) (fun _ _ _ => rfl) (by first | assumption) ?_
  refine x_aload_n dX10_family_75 rfl ?_
  refine x_gr dX10_family_76 fX10_19 (by first | assumption) (fun _ _ _ => rfl) (by first | assumption) ?_
  refine x_gr dX10_family_79 fX10_76 (by first | assumption) (fun _ _ _ => rfl) (by first | assumption) ?_
  refine (show X _ _ 82 _ _ _ _ _ _ from ?_)
  refine x_callV (As := [_]) (mc := 0) (ms := 0) (z := mX4_startFrom) (ci := 4) dX10_family_82 lX10_85 oX4_startFrom (by decide) (by first | assumption) rfl rfl (Nat.le_of_ble_eq_true rfl) (Nat.le_of_ble_eq_true rfl) rfl (sf) (k_V ?_)
  refine (show X _ _ 85 _ _ _ _ _ _ from ?_)
  have pf := c_pForget (g := g) (J := J) (z := z) (k := 0) (n := 0) (V := V2) (R := R2) dPS
  have p0' := dPS.1.1
  refine x_aload_n dX10_family_85 rfl ?_
  refine x_gr dX10_family_86 fX10_26 (by first | assumption) (fun _ _ _ => rfl) (by first | assumption) ?_
  refine (show X _ _ 89 _ _ _ _ _ _ from ?_)
  refine x_callV (As := []) (mc := 0) (ms := 0) (z := mX5_forget) (ci := 5) dX10_family_89 lX10_91 oX5_forget (by decide) (by first | assumption) rfl rfl (Nat.le_of_ble_eq_true rfl) (Nat.le_of_ble_eq_true rfl) rfl (pf) (k_V ?_)
  refine (show X _ _ 92 _ _ _ _ _ _ from ?_)
  refine x_aload_n dX10_family_92 rfl ?_
  refine y_iconst dX10_family_93 ?_
  refine y_pi dX10_family_94 (pX10_53 _) (by first | assumption) (fun _ _ _ => rfl) (by first | rfl | exact bI_nar _) (by first | rfl | exact bI_fit _) ?_
  refine (show X _ _ 97 _ _ _ _ _ _ from ?_)
  generalize hV3 : u2 (u2 (u2 V2 (o + 107) 0 0) (o + 107) 1 0) o 6 1 = V3 at *
  have hv3 : ∀ b, b ≠ o → b ≠ o + 107 → V3 b = V2 b := fun b h1 h2 => by rw [← hV3, u2_n h1, u2_n h2, u2_n h2]
  have hF3 : FC V3 fr A2 := FC_eq hFC hA' (fun b u1 u2 => by rw [hv3 b (by omega) (by omega), hv2 b (by omega)])
  have hN3 : NC V3 (o + 99) (sfW A2 B) := NC_eq hN2 (fun b u1 u2 => hv3 b (by omega) (by omega))
  have hv4 : ∀ b, b ≠ o + 1 → b ≠ o → b ≠ o + 107 → (b < o + 48 ∨ o + 53 ≤ b) → (b < fr ∨ fr + 45 ≤ b) → (b < o + 99 ∨ o + 102 ≤ b) → V3 b = V b := by
    intro b h1 h2 h3 h4 h5 h6
    rw [hv3 b h2 h3, hv2 b h6, hv b h1 h4 h5]
  have ac := c_acted (g := g) (J := J) (z := z) (k := 0) (n := 0) (V := V3) (R := R2) hC3 hF3 hN3 hA' (sfW_VB hA') (NOk_eq n1 (fun b u1 u2 => hv4 b (by omega) (by omega) (by omega) (by omega) (by omega) (by omega)))
  refine x_aload_n dX10_family_97 rfl ?_
  refine (show X _ _ 98 _ _ _ _ _ _ from ?_)
  refine x_callV (As := []) (mc := 0) (ms := 0) (z := mX10_acted) (ci := 10) dX10_family_98 lX10_94 oX10_acted (by decide) (by first | assumption) rfl rfl (Nat.le_of_ble_eq_true rfl) (Nat.le_of_ble_eq_true rfl) rfl (ac) (fun v M1 hq => ?_)
  obtain ⟨rfl, V4, rfl, hq⟩ := hq
  refine (show X _ _ 101 _ [.int (iI 1)] _ _ _ _ from ?_)
  have hfin : CI T R2 V4 o fr fw σ t 0 true A2 (sfW A2 B) 0 0 H K 0 (V3 (o + 1) 2) 0 := by
    refine CI_act hC3 (by rw [← hV3, u2_s, u1_s]; rfl) ⟨?_, rfl, ?_, ?_⟩ ⟨?_, x2, by omega⟩ ⟨⟨?_, by omega⟩, ⟨?_, by omega⟩, fun i hi => absurd hi (by omega), fun i hi => absurd hi (by omega)⟩ hF3 hN3 hA' (sfW_VB hA') (NOk_eq n2 (fun b u1 u2 => hv4 b (by omega) (by omega) (by omega) (by omega) (by omega) (by omega))) ⟨hY4, hP1⟩ ⟨fun i hi => absurd hi (by omega), fun i hi => absurd hi (by omega)⟩ hq
    · rw [hv3 _ (by omega) (by omega), hv2 _ (by omega)]; exact hz
    · rw [hv3 _ (by omega) (by omega), hv2 _ (by omega), q2, u2_s, u1_s]; rfl
    · rw [hv3 _ (by omega) (by omega), hv2 _ (by omega)]; exact q3
    · rw [hv4 _ (by omega) (by omega) (by omega) (by omega) (by omega) (by omega)]; exact x1
    · rw [← hV3, u2_n (by omega), u2_s, u1_n (by decide), u2_s, u1_s]; rfl
    · rw [← hV3, u2_n (by omega), u2_s, u1_s]; rfl
  have hf0 := dFS.1
  have hpe : V4 fr 3 = A2 0 3 := hfin.2.2.2.2.2.1.1.1 3 (by decide)
  refine x_pop dX10_family_101 rfl ?_
  refine x_aload_n dX10_family_102 rfl ?_
  refine x_gr dX10_family_103 fX10_19 (by first | assumption) (fun _ _ _ => rfl) (by first | assumption) ?_
  refine x_gr dX10_family_106 fX10_76 (by first | assumption) (fun _ _ _ => rfl) (by first | assumption) ?_
  refine y_gi dX10_family_109 fX10_98 (by first | assumption) (fun _ _ _ => rfl) ?_
  refine (show X _ _ 112 _ _ _ _ _ _ from ?_)
  refine X.val hpe ?_
  refine x_ireturn dX10_family_112 rfl ⟨V3 (o + 1) 2, rfl, V4, R2, fr, fw, σ, rfl, fun b hb => ⟨?_, ?_⟩, hfin⟩
  · rw [hq.1 b (by omega) (by omega), hv4 b (by omega) (by omega) (by omega) (by omega) (by omega) (by omega)]
  · rw [← hR2, u2_n (by omega), u2_n (by omega)]
end C83
