/-! ===== the class's face: acted ===== -/
theorem AnI_eq {A B W0 N0 E E' : Nat → Nat → Int} {m : Nat} (h : AnI A B W0 N0 m E') (he : ∀ j, j < 16 → E j = E' j) : AnI A B W0 N0 m E := by
  obtain ⟨h1, h2, h3⟩ := h
  refine ⟨fun j hj => ?_, fun j hj => ?_, fun y hy => ?_⟩
  · rw [he _ (by omega)]; exact h1 j hj
  · rw [he _ (by omega)]; exact h2 j hj
  · rw [he 1 (by decide), he 2 (by decide), he 3 (by decide), he 4 (by decide), he 5 (by decide), he 6 (by decide), he 7 (by decide)]; exact h3 y hy
theorem lp_2 {W : Nat → Nat → Int} : ∀ n b, b ≠ 2 → lp n (fun j W => u2 W 2 j 0) W b = W b
  | 0, b, _ => rfl
  | n + 1, b, h => by rw [lp_s, u2_n h]; exact lp_2 n b h
theorem lp_2z {W : Nat → Nat → Int} : ∀ n j, j < n → lp n (fun j W => u2 W 2 j 0) W 2 j = 0
  | 0, j, h => absurd h (by omega)
  | n + 1, j, h => by
    rw [lp_s, u2_s]
    by_cases e : j = n
    · subst e; rw [u1_s]
    · rw [u1_n e]; exact lp_2z n j (by omega)
/-- all years are run anew -/
def AcQ (V V' : Nat → Nat → Int) (o : Nat) (A B : Nat → Nat → Int) : Prop := (∀ b, b ≠ o → (b < o + 102 ∨ (o + 107 ≤ b ∧ b < o + 155) ∨ (o + 171 ≤ b ∧ b < o + 176) ∨ o + 190 ≤ b) → V' b = V b) ∧ (∀ c, c ≠ 7 → V' o c = V o c) ∧ V' o 7 = 0 ∧ AC V' (o + 102) A B ∧ (∃ Ni Wi, NOk Ni ∧ AnI A B (rBeg A Wi (B 0 0) (B 0 1)) (nBeg A Ni) (fY A) (fun j => V' (o + 155 + j))) ∧ (∀ m, m < 5 → V' (o + 178) m = 0) ∧ V' (o + 176) 7 = 0 ∧ (∀ b, o + 176 < b → b < o + 190 → b ≠ o + 178 → V' b = V b)
section C63
variable {g : GG} {T : Nat → Nat × Nat} {V A B : Nat → Nat → Int} {R : Nat → Nat → Option Nat} {J : Nat → Nat → Int64} {z k n : Nat} {o fw fr : Nat} {σ : Nat → Nat} {h : Bool}
theorem c_acted (hC : CS T R o fw fr σ) (hF : FC V fw A) (hNC : NC V (o + 99) B) (hA : VA A) (hB : VB A B) (hN : NOk (fun j => V (o + 168 + j))) : X g mX10_acted 0 [.ref o] [] (T, iV V, R, J, z) k n (fun v M => v = some (.int (iI 1)) ∧ ∃ V' : Nat → Nat → Int, M = (T, iV V', R, J, z) ∧ AcQ V V' o A B) := by
  obtain ⟨⟨c0, c1, c2, c3, c4, c5, c6⟩, -, hW, -, hU, -, hQ, hsep⟩ := hC
  have hW0 := hW
  obtain ⟨⟨w0, w1, w2, w3⟩, hFS, hNS, hAS⟩ := hW
  have hfw : fw + 45 ≤ o + 102 ∧ o < fw := by omega
  have d := c_drawUp (g := g) (J := J) (z := z) (k := 0) (n := 0) (V := V) (D := fun j => V (o + 102 + j)) hAS hFS hNS hF hNC hA hB ⟨by omega, by omega⟩
  rw [pB_self (fun _ _ => rfl)] at d
  have a0 := hAS.1
  refine x_aload_n dX10_acted_0 rfl ?_
  refine x_gr dX10_acted_1 fX10_19 (by first | assumption) (fun _ _ _ => rfl) (by first | assumption) ?_
  refine x_gr dX10_acted_4 fX10_246 (by first | assumption) (fun _ _ _ => rfl) (by first | assumption) ?_
  refine x_aload_n dX10_acted_7 rfl ?_
  refine x_gr dX10_acted_8 fX10_19 (by first | assumption) (fun _ _ _ => rfl) (by first | assumption) ?_
  refine x_gr dX10_acted_11 fX10_76 (by first | assumption) (fun _ _ _ => rfl) (by first | assumption) ?_
  refine x_aload_n dX10_acted_14 rfl ?_
  refine x_gr dX10_acted_15 fX10_19 (by first | assumption) (fun _ _ _ => rfl) (by first | assumption) ?_
  refine (show X _ _ 18 _ _ _ _ _ _ from ?_)
  refine x_gr dX10_acted_18 fX10_81 (by first | assumption) (fun _ _ _ => rfl) (by first | assumption) ?_
  refine (show X _ _ 21 _ _ _ _ _ _ from ?_)
  refine x_callV (As := [_, _]) (mc := 0) (ms := 0) (z := mX0_drawUp) (ci := 0) dX10_acted_21 lX10_335 oX0_drawUp (by decide) (by first | assumption) rfl rfl (Nat.le_of_ble_eq_true rfl) (Nat.le_of_ble_eq_true rfl) rfl (d) (k_V ?_)
  refine (show X _ _ 24 _ _ _ _ _ _ from ?_)
  have hAC : AC (pB V (o + 102) 5 (yrsD A B (fY A) (fun j => V (o + 102 + j)))) (o + 102) A B := drawn_AC hA
  have o1 : ∀ b, b < o + 102 ∨ o + 107 ≤ b → pB V (o + 102) 5 (yrsD A B (fY A) (fun j => V (o + 102 + j))) b = V b := fun b hb => pB_out (by omega)
  clear d
  generalize pB V (o + 102) 5 (yrsD A B (fY A) (fun j => V (o + 102 + j))) = V1 at *
  have hF1 : FC V1 fw A := FC_eq hF hA (fun b h1 h2 => o1 b (by omega))
  have hNC1 : NC V1 (o + 99) B := by unfold NC; rw [o1 (o + 99) (by omega), o1 (o + 99 + 1) (by omega), o1 (o + 99 + 2) (by omega)]; exact hNC
  have hN1 : NOk (fun j => V1 (o + 155 + (13 + j))) := by
    have e : (fun j => V1 (o + 155 + (13 + j))) = fun j => V (o + 168 + j) := funext fun j => by rw [o1 _ (by omega), show o + 155 + (13 + j) = o + 168 + j by omega]
    rw [e]; exact hN
  have wr := c_write (g := g) (J := J) (z := z) (k := 0) (n := 0) (V := V1) (E := fun j => V1 (o + 155 + j)) hU hW0 ⟨hF1, hNC1, hAC, hA, hB⟩ ⟨by omega, by omega, by omega, by omega⟩ hN1
  rw [pB_self (fun _ _ => rfl)] at wr
  have u0 := hU.1.1
  refine x_aload_n dX10_acted_24 rfl ?_
  refine x_gr dX10_acted_25 fX10_35 (by first | assumption) (fun _ _ _ => rfl) (by first | assumption) ?_
  refine (show X _ _ 28 _ _ _ _ _ _ from ?_)
  refine x_callV (As := []) (mc := 0) (ms := 0) (z := mX1_write) (ci := 1) dX10_acted_28 lX10_339 oX1_write (by decide) (by first | assumption) rfl rfl (Nat.le_of_ble_eq_true rfl) (Nat.le_of_ble_eq_true rfl) rfl (wr) (fun v M1 hq => ?_)
  obtain ⟨rfl, E', Ni, Wi, hNi, rfl, hAn⟩ := hq
  refine (show X _ _ 31 _ [] _ _ _ _ from ?_)
  have o2 : ∀ b, b < o + 155 ∨ o + 171 ≤ b → pB V1 (o + 155) 16 E' b = V1 b := fun b hb => pB_out (by omega)
  have hAn2 : AnI A B (rBeg A Wi (B 0 0) (B 0 1)) (nBeg A Ni) (fY A) (fun j => pB V1 (o + 155) 16 E' (o + 155 + j)) := AnI_eq hAn (fun j hj => pB_at hj)
  clear wr hAn
  generalize pB V1 (o + 155) 16 E' = V2 at *
  have fg := c_forget (g := g) (J := J) (z := z) (k := 0) (n := 0) (V := V2) (E := fun j => V2 (o + 176 + j)) hQ
  rw [pB_self (fun _ _ => rfl)] at fg
  have q0 := hQ.1.1
  refine x_aload_n dX10_acted_31 rfl ?_
  refine x_gr dX10_acted_32 fX10_49 (by first | assumption) (fun _ _ _ => rfl) (by first | assumption) ?_
  refine (show X _ _ 35 _ _ _ _ _ _ from ?_)
  refine x_callV (As := []) (mc := 0) (ms := 0) (z := mX7_forget) (ci := 7) dX10_acted_35 lX10_342 oX7_forget (by decide) (by first | assumption) rfl rfl (Nat.le_of_ble_eq_true rfl) (Nat.le_of_ble_eq_true rfl) rfl (fg) (k_V ?_)
  refine (show X _ _ 38 _ _ _ _ _ _ from ?_)
  have o3 : ∀ b, b < o + 176 ∨ o + 190 ≤ b → pB V2 (o + 176) 14 (fgE (fun j => V2 (o + 176 + j))) b = V2 b := fun b hb => pB_out (by omega)
  have p2 : ∀ m, m < 5 → pB V2 (o + 176) 14 (fgE (fun j => V2 (o + 176 + j))) (o + 178) m = 0 := fun m hm => by
    rw [show o + 178 = o + 176 + 2 by omega, pB_at (by decide)]
    unfold fgE
    rw [u2_n (by decide)]
    exact lp_2z 5 m hm
  have p0 : pB V2 (o + 176) 14 (fgE (fun j => V2 (o + 176 + j))) (o + 176) 7 = 0 := by
    rw [pB_0 (by decide)]
    unfold fgE
    rw [u2_s, u1_s]
  have pr : ∀ b, o + 176 < b → b < o + 190 → b ≠ o + 178 → pB V2 (o + 176) 14 (fgE (fun j => V2 (o + 176 + j))) b = V2 b := fun b h1 h2 h3 => by
    obtain ⟨j, rfl⟩ : ∃ j, b = o + 176 + j := ⟨b - (o + 176), by omega⟩
    rw [pB_at (by omega)]
    unfold fgE
    rw [u2_n (by omega), lp_2 5 j (by omega)]
  clear fg
  generalize pB V2 (o + 176) 14 (fgE (fun j => V2 (o + 176 + j))) = V3 at *
  refine x_aload_n dX10_acted_38 rfl ?_
  refine y_iconst dX10_acted_39 ?_
  refine y_pi dX10_acted_40 (pX10_57 _) (by first | assumption) (fun _ _ _ => rfl) rfl rfl ?_
  refine y_iconst dX10_acted_43 ?_
  refine (show X _ _ 44 _ _ _ _ _ _ from ?_)
  have ou : ∀ b, b ≠ o → u2 V3 o 7 0 b = V3 b := fun b hb => u2_n hb
  refine x_zreturn dX10_acted_44 rfl rfl ⟨rfl, _, rfl, fun b h1 h2 => ?_, fun c hc => ?_, ?_, ?_, ⟨Ni, Wi, hNi, AnI_eq hAn2 (fun j hj => ?_)⟩, fun m hm => ?_, ?_, fun b h1 h2 h3 => ?_⟩
  · rw [ou b h1, o3 b (by omega), o2 b (by omega), o1 b (by omega)]
  · rw [u2_s, u1_n hc, o3 o (by omega), o2 o (by omega), o1 o (by omega)]
  · rw [u2_s, u1_s]
  · have e : ∀ j, j < 5 → u2 V3 o 7 0 (o + 102 + j) = V1 (o + 102 + j) := fun j hj => by rw [ou _ (by omega), o3 _ (by omega), o2 _ (by omega)]
    unfold AC
    rw [e 1 (by decide), e 2 (by decide), e 3 (by decide), e 4 (by decide)]
    exact hAC
  · show u2 V3 o 7 0 (o + 155 + j) = V2 (o + 155 + j)
    rw [ou _ (by omega), o3 _ (by omega)]
  · rw [ou _ (by omega)]; exact p2 m hm
  · rw [ou _ (by omega)]; exact p0
  · rw [ou _ (by omega), pr b h1 h2 h3, o2 b (by omega), o1 b (by omega)]
end C63
