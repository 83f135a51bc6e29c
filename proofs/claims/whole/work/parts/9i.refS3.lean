/-! ===== the reference: the search's loop ===== -/
section C9i
variable {g : GG} {T : Nat → Nat × Nat} {V E E0 A B : Nat → Nat → Int} {R : Nat → Nat → Option Nat} {J : Nat → Nat → Int64} {z k n : Nat} {r f : Nat} {t : Nat → Int} {tp : Nat} {a m : Nat} {H K : Nat → Nat → Nat → Int} {wr pl tr : Int}
/-- once found, a row of choices leaves all as it is -/
theorem lp_fd {P : Nat} {F : Nat → SS → SS} (hF : ∀ q σ, σ.2.2 = true → F q σ = σ) {σ0 : SS} : ∀ (d q : Nat), (lp q F σ0).2.2 = true → lp (q + d) F σ0 = lp q F σ0
  | 0, _, _ => rfl
  | d + 1, q, h => by
    have ih := lp_fd (P := P) hF d q h
    show F (q + d) (lp (q + d) F σ0) = _
    rw [ih]
    exact hF _ _ h
theorem k_node {N s p : Nat} {bh : Bool} {Q : Option Value → Mem → Prop} (hI : DI T R V r f E0 t tp true A B a m H K wr pl tr) (hN4 : 1 ≤ N ∧ N ≤ 4) (hsp : bh = false → (E0 0 49 = (s : Int) ∧ s < 8) ∧ (E0 0 50 = (p : Int) ∧ p < 10)) :
    ∀ (d y : Nat), y + d = N → ∀ (ch : Nat → Int) (σ : SS) (E : Nat → Nat → Int), ScV N E0 E → (∀ j, j < 4 → E 22 j = ch j) → (∀ j, y ≤ j → j < 4 → ch j = -1) → Pv A B ch (wB A B) y → EnS N E σ → σ.2.2 = false →
    (∀ (E' : Nat → Nat → Int), (trS A B N s p bh d y ch σ).2.2 = false → ScV N E0 E' → (∀ j, j < 4 → E' 22 j = ch j) → EnS N E' (trS A B N s p bh d y ch σ) → X g mX12_tries 43 [.ref r, .int (iI (N : Int)), .int (iI (bI bh)), .int (iI ((y : Int) - 1)), jk, jk] [] (T, iV (pB V r 24 E'), R, J, z) k n Q) →
    (∀ (E' : Nat → Nat → Int), (trS A B N s p bh d y ch σ).2.2 = true → ScV N E0 E' → EnS N E' (trS A B N s p bh d y ch σ) → Q none (T, iV (pB V r 24 E'), R, J, z)) →
    X g mX12_tries 43 [.ref r, .int (iI (N : Int)), .int (iI (bI bh)), .int (iI (y : Int)), jk, jk] [] (T, iV (pB V r 24 E), R, J, z) k n Q := by
  have hM := hI.1
  obtain ⟨⟨hf, hG, hF, hap⟩, ⟨hA, hB, hY4, hP1⟩, -⟩ := hI.2.2.2.2.2.2 rfl
  have eP := fP10 hA
  have hA3 := hA.2.2.2.1
  have e3 := hF.1 3 (by decide)
  obtain ⟨m0, ⟨-, -, -, -, -, -, -, -, -, -, -, -, -, -, -, -, -, -, -, -, -, m37, -⟩, ⟨-, -, -, -, -, -, -, -, -, -, -, -, -, -, -, -, -, -, -, -, -, mk22, -⟩⟩ := id hM
  obtain ⟨g0, -, -⟩ := id hG
  unfold apF at hap
  -- into the loop's body
  have head : ∀ (y : Nat) (σ : SS) (E : Nat → Nat → Int) (x1 x2 : Value), EnS N E σ → σ.2.2 = false → y ≤ 4 → X g mX12_tries 54 [.ref r, .int (iI (N : Int)), .int (iI (bI bh)), .int (iI (y : Int)), x1, x2] [] (T, iV (pB V r 24 E), R, J, z) k n Q → X g mX12_tries 43 [.ref r, .int (iI (N : Int)), .int (iI (bI bh)), .int (iI (y : Int)), x1, x2] [] (T, iV (pB V r 24 E), R, J, z) k n Q := by
    intro y σ E x1 x2 hS hfd hy4 kk
    refine x_iload_n dX12_tries_43 rfl ?_
    refine (show X _ _ 44 _ _ _ _ _ _ from ?_)
    refine y_if_lt 212 dX12_tries_44 (by decide) ⟨by omega, by omega⟩ (fun h1 => ?_) (fun h1 => ?_)
    · omega
    refine x_aload_n dX12_tries_47 rfl ?_
    refine b_gi0 (r := r) (m := 24) dX12_tries_48 fX12_542 (by first | assumption) (fun _ _ _ => rfl) (by decide) ?_
    refine (show X _ _ 51 _ _ _ _ _ _ from ?_)
    refine X.val hS.2.2.2 ?_
    rw [hfd]
    refine y_ifb_ne 212 dX12_tries_51 (by decide) (fun h2 => ?_) (fun h2 => ?_)
    · cases h2
    exact kk
  intro d
  induction d with
  | zero =>
    intro y hyd ch σ E hsv hc hz hP hS hfd K1 K2
    have hyN : y = N := by omega
    subst hyN
    have hI1 := DI_sc hI hsv.1
    have hen := k_ends (g := g) (J := J) (z := z) (k := 0) (n := 0) (N := y) (s := s) (p := p) (bh := bh) (ch := ch) (σ := σ) hI1 hN4 hc hP hsv.2.2.2 hsv.2.2.1 hS (fun c => ⟨⟨by rw [hsv.2.1 49 (by omega)]; exact (hsp c).1.1, (hsp c).1.2⟩, ⟨by rw [hsv.2.1 50 (by omega)]; exact (hsp c).2.1, (hsp c).2.2⟩⟩)
    refine head y σ E jk jk hS hfd (by omega) ?_
    refine x_iload_n dX12_tries_54 rfl ?_
    refine x_iload_n dX12_tries_55 rfl ?_
    refine (show X _ _ 56 _ _ _ _ _ _ from ?_)
    refine y_icmp_ne 71 dX12_tries_56 (by decide) ⟨by omega, by omega⟩ ⟨by omega, by omega⟩ (fun h1 => ?_) (fun h1 => ?_)
    · exact absurd rfl h1
    refine x_aload_n dX12_tries_59 rfl ?_
    refine x_iload_n dX12_tries_60 rfl ?_
    refine x_iload_n dX12_tries_61 rfl ?_
    refine (show X _ _ 62 _ _ _ _ _ _ from ?_)
    refine x_callV (As := [_, _]) (mc := 0) (ms := 0) (z := mX12_ends) (ci := 12) dX12_tries_62 lX12_546 oX12_ends (by decide) (by first | assumption) rfl rfl (Nat.le_of_ble_eq_true rfl) (Nat.le_of_ble_eq_true rfl) rfl (hen) (fun v M1 hq => ?_)
    obtain ⟨rfl, E1, rfl, q1, q2, q3, q4⟩ := hq
    refine (show X _ _ 65 _ [] _ _ _ _ from ?_)
    have hsv1 : ScV y E0 E1 := ⟨Sc_t hsv.1 q1, fun c hc => by rw [q3 c (by omega)]; exact hsv.2.1 c hc, by rw [q3 41 (by omega)]; exact hsv.2.2.1, by rw [q3 42 (by omega)]; exact hsv.2.2.2⟩
    have et : trS A B y s p bh 0 y ch σ = lfS A B y s p bh ch σ := rfl
    rw [et] at K1 K2
    generalize lfS A B y s p bh ch σ = σ1 at *
    refine y_iinc dX12_tries_65 rfl (by decide) rfl rfl ?_
    refine x_goto 43 dX12_tries_68 (by decide) ?_
    refine (show X _ _ 43 _ _ _ _ _ _ from ?_)
    rw [show (y : Int) + -1 = (y : Int) - 1 by omega]
    cases hf1 : σ1.2.2
    · exact K1 E1 hf1 hsv1 (by rw [q2]; exact hc) q4
    · refine x_iload_n dX12_tries_43 rfl ?_
      refine (show X _ _ 44 _ _ _ _ _ _ from ?_)
      refine y_if_lt 212 dX12_tries_44 (by decide) ⟨by omega, by omega⟩ (fun h2 => ?_) (fun h2 => ?_)
      · omega
      refine x_aload_n dX12_tries_47 rfl ?_
      refine b_gi0 (r := r) (m := 24) dX12_tries_48 fX12_542 (by first | assumption) (fun _ _ _ => rfl) (by decide) ?_
      refine (show X _ _ 51 _ _ _ _ _ _ from ?_)
      refine X.val q4.2.2.2 ?_
      rw [hf1]
      refine y_ifb_ne 212 dX12_tries_51 (by decide) (fun h3 => ?_) (fun h3 => ?_)
      rotate_left
      · cases h3
      exact x_return dX12_tries_212 rfl (K2 E1 hf1 hsv1 q4)
  | succ d ih =>
    intro y hyd ch σ E hsv hc hz hP hS hfd K1 K2
    have hy3 : y ≤ 3 := by omega
    have hcy : ch y = -1 := hz y (Nat.le_refl _) (by omega)
    -- choices, whatever the row holds in year y
    have hcho : ∀ (E1 : Nat → Nat → Int), ScV N E0 E1 → (∀ j, j < y → E1 22 j = ch j) → X g mX12_choices 0 [.ref r, .int (iI (y : Int)), jk, jk, jk] [] (T, iV (pB V r 24 E1), R, J, z) 0 0 (fun v M => v = some (.int (iI (frS A B (wt A B ch (wB A B) y) y : Nat))) ∧ ∃ E', M = (T, iV (pB V r 24 E'), R, J, z) ∧ ScT E1 E') := by
      intro E1 hsv1 hc1
      have := k_choices (g := g) (J := J) (z := z) (k := 0) (n := 0) (E := E1) (y := y) (rw := N) (DI_sc hI hsv1.1) hy3 (Pv_c hP (fun j hj => (hc1 j hj).symm)) hsv1.2.2.2 hsv1.2.2.1
      rw [wt_c (ch := E1 22) (ch' := ch) y hc1] at this
      exact this
    -- one step down
    have down : ∀ (v : Int) (σ1 : SS) (E1 : Nat → Nat → Int), ScV N E0 E1 → (∀ j, j < 4 → E1 22 j = u1 ch y v j) → (rComes A B (wt A B ch (wB A B) y) y = -3 → 0 ≤ v ∧ (rCn A B (wt A B ch (wB A B) y) y).testBit v.toNat = true) → EnS N E1 σ1 → σ1.2.2 = false →
        (∀ (E' : Nat → Nat → Int), (trS A B N s p bh d (y + 1) (u1 ch y v) σ1).2.2 = false → ScV N E0 E' → (∀ j, j < 4 → E' 22 j = u1 ch y v j) → EnS N E' (trS A B N s p bh d (y + 1) (u1 ch y v) σ1) → X g mX12_tries 43 [.ref r, .int (iI (N : Int)), .int (iI (bI bh)), .int (iI (y : Int)), jk, jk] [] (T, iV (pB V r 24 E'), R, J, z) k n Q) →
        (∀ (E' : Nat → Nat → Int), (trS A B N s p bh d (y + 1) (u1 ch y v) σ1).2.2 = true → ScV N E0 E' → EnS N E' (trS A B N s p bh d (y + 1) (u1 ch y v) σ1) → Q none (T, iV (pB V r 24 E'), R, J, z)) →
        X g mX12_tries 43 [.ref r, .int (iI (N : Int)), .int (iI (bI bh)), .int (iI ((y : Int) + 1)), jk, jk] [] (T, iV (pB V r 24 E1), R, J, z) k n Q := by
      intro v σ1 E1 hsv1 hc1 hv1 hS1 hf1 k1 k2
      have hpv : Pv A B (u1 ch y v) (wB A B) (y + 1) := by
        intro i hi
        by_cases e : i = y
        · subst e
          rw [wt_c (ch := u1 ch i v) (ch' := ch) i (fun j hj => u1_n (by omega)), u1_s]
          exact hv1
        · rw [wt_c (ch := u1 ch y v) (ch' := ch) i (fun j hj => u1_n (by omega)), u1_n e]
          exact hP i (by omega)
      refine ih (y + 1) (by omega) (u1 ch y v) σ1 E1 hsv1 hc1 (fun j h1 h2 => by rw [u1_n (by omega)]; exact hz j (by omega) h2) hpv hS1 hf1 (fun E' g1 g2 g3 g4 => ?_) k2
      rw [show (((y + 1 : Nat) : Int) - 1) = (y : Int) by omega]
      exact k1 E' g1 g2 g3 g4
    by_cases hop : rComes A B (wt A B ch (wB A B) y) y = -3
    · -- somebody is chosen
      have et : trS A B N s p bh (d + 1) y ch σ = lp (fP A) (fun q σ => if σ.2.2 then σ else if (rCn A B (wt A B ch (wB A B) y) y).testBit q then trS A B N s p bh d (y + 1) (u1 ch y (q : Int)) σ else σ) σ := by
        rw [trS, if_pos hop]
      rw [et] at K1 K2
      have hfr : frS A B (wt A B ch (wB A B) y) y = rCn A B (wt A B ch (wB A B) y) y := by unfold frS; rw [if_pos hop]
      rw [hfr] at hcho
      have hcl : rCn A B (wt A B ch (wB A B) y) y < 1024 := andn_lt (cnS_lt hA y)
      have hne : rCn A B (wt A B ch (wB A B) y) y ≠ 0 := fun c => by rw [comes_n (Or.inr c)] at hop; cases hop
      have bt := fun (E1 : Nat → Nat → Int) q hq => c_bit g (rCn A B (wt A B ch (wB A B) y) y) q (T, iV (pB V r 24 E1), R, J, z) 0 0 (by omega) hq
      generalize hfree : rCn A B (wt A B ch (wB A B) y) y = free at *
      generalize hFF : (fun (q : Nat) (σ : SS) => if σ.2.2 then σ else if free.testBit q then trS A B N s p bh d (y + 1) (u1 ch y (q : Int)) σ else σ) = FF at *
      have hFn : ∀ q σ, σ.2.2 = true → FF q σ = σ := fun q σ h => by rw [← hFF]; show (if σ.2.2 then σ else _) = σ; rw [h]; rfl
      -- all choices from c on
      have chl : ∀ (e c : Nat), c + e = fP A → ∀ (E1 : Nat → Nat → Int), ScV N E0 E1 → (∀ j, j < 4 → E1 22 j = u1 ch y ((c : Int) - 1) j) → EnS N E1 (lp c FF σ) → (lp c FF σ).2.2 = false → X g mX12_tries 43 [.ref r, .int (iI (N : Int)), .int (iI (bI bh)), .int (iI (y : Int)), jk, jk] [] (T, iV (pB V r 24 E1), R, J, z) k n Q := by
        intro e
        induction e using Nat.strongRecOn with
        | ind e ihe =>
        intro c hce E1 hsv1 hc1 hS1 hf1
        refine head y _ E1 jk jk hS1 hf1 (by omega) ?_
        refine x_iload_n dX12_tries_54 rfl ?_
        refine x_iload_n dX12_tries_55 rfl ?_
        refine (show X _ _ 56 _ _ _ _ _ _ from ?_)
        refine y_icmp_ne 71 dX12_tries_56 (by decide) ⟨by omega, by omega⟩ ⟨by omega, by omega⟩ (fun h1 => ?_) (fun h1 => ?_)
        rotate_left
        · omega
        refine x_aload_n dX12_tries_71 rfl ?_
        refine x_iload_n dX12_tries_72 rfl ?_
        refine (show X _ _ 73 _ _ _ _ _ _ from ?_)
        refine x_callV (As := [_]) (mc := 0) (ms := 0) (z := mX12_choices) (ci := 12) dX12_tries_73 lX12_550 oX12_choices (by decide) (by first | assumption) rfl rfl (Nat.le_of_ble_eq_true rfl) (Nat.le_of_ble_eq_true rfl) rfl (hcho E1 hsv1 (fun j hj => by rw [hc1 j (by omega), u1_n (by omega)])) (fun v M1 hq => ?_)
        obtain ⟨rfl, E2, rfl, hsT⟩ := hq
        refine (show X _ _ 76 _ [.int (iI (free : Int))] _ _ _ _ from ?_)
        have hsv2 := ScV_T hsv1 hsT
        have hS2 := EnS_T hS1 hsT
        have hc2 : ∀ j, j < 4 → E2 22 j = u1 ch y ((c : Int) - 1) j := by rw [hsT.2.1]; exact hc1
        refine x_istore dX12_tries_76 (by decide) rfl rfl ?_
        refine x_iload dX12_tries_78 rfl ?_
        refine (show X _ _ 80 _ _ _ _ _ _ from ?_)
        refine y_if_ne 127 dX12_tries_80 (by decide) ⟨by omega, by omega⟩ (fun h2 => ?_) (fun h2 => ?_)
        rotate_left
        · exact absurd (by omega) hne
        refine x_aload_n dX12_tries_127 rfl ?_
        refine x_gr dX12_tries_128 fX12_79 (by first | assumption) (fun _ _ _ => rfl) (by first | assumption) ?_
        refine x_iload_n dX12_tries_131 rfl ?_
        refine b_iald (r := r) (m := 24) (j := 22) (y) dX12_tries_132 (by first | assumption) (by first | rfl | omega) (by omega) (by decide) (by decide) ?_
        refine (show X _ _ 133 _ _ _ _ _ _ from ?_)
        refine X.val (b := (c : Int) - 1) (by rw [hc2 y (by omega), u1_s]) ?_
        refine y_iconst dX12_tries_133 ?_
        refine y_iadd dX12_tries_134 ?_
        refine x_istore dX12_tries_135 (by decide) rfl rfl ?_
        refine (show X _ _ 137 _ _ _ _ _ _ from ?_)
        rw [show (c : Int) - 1 + 1 = (c : Int) by omega]
        have inner : ∀ (e2 q : Nat), q + e2 = fP A → c ≤ q → EnS N E2 (lp q FF σ) → (lp q FF σ).2.2 = false → X g mX12_tries 137 [.ref r, .int (iI (N : Int)), .int (iI (bI bh)), .int (iI (y : Int)), .int (iI (free : Int)), .int (iI (q : Int))] [] (T, iV (pB V r 24 E2), R, J, z) k n Q := by
          intro e2
          induction e2 with
          | zero =>
            intro q hq hcq hSq hfq
            have hqP : q = fP A := by omega
            refine x_iload dX12_tries_137 rfl ?_
            refine x_aload_n dX12_tries_139 rfl ?_
            refine x_gr dX12_tries_140 fX12_409 (by first | assumption) (fun _ _ _ => rfl) (by first | assumption) ?_
            refine b_gio (r := r) (m := 24) dX12_tries_143 fX12_230 (by first | assumption) (fun _ _ _ => rfl) (by omega) ?_
            refine (show X _ _ 146 _ _ _ _ _ _ from ?_)
            refine X.val e3 ?_
            refine y_icmp_ge 165 dX12_tries_146 (by decide) ⟨by omega, by omega⟩ ⟨by omega, by omega⟩ (fun g1 => ?_) (fun g1 => ?_)
            rotate_left
            · omega
            refine x_aload_n dX12_tries_165 rfl ?_
            refine x_gr dX12_tries_166 fX12_79 (by first | assumption) (fun _ _ _ => rfl) (by first | assumption) ?_
            refine x_iload_n dX12_tries_169 rfl ?_
            refine x_iload dX12_tries_170 rfl ?_
            refine x_aload_n dX12_tries_172 rfl ?_
            refine x_gr dX12_tries_173 fX12_409 (by first | assumption) (fun _ _ _ => rfl) (by first | assumption) ?_
            refine b_gio (r := r) (m := 24) dX12_tries_176 fX12_230 (by first | assumption) (fun _ _ _ => rfl) (by omega) ?_
            refine (show X _ _ 179 _ _ _ _ _ _ from ?_)
            refine X.val e3 ?_
            refine y_icmp_ge 187 dX12_tries_179 (by decide) ⟨by omega, by omega⟩ ⟨by omega, by omega⟩ (fun g2 => ?_) (fun g2 => ?_)
            rotate_left
            · omega
            refine y_iconst dX12_tries_187 ?_
            refine b_iast (r := r) (m := 24) (j := 22) (y) dX12_tries_188 (by first | assumption) (by first | rfl | omega) (by omega) (by decide) (by decide) ?_
            refine x_iload_n dX12_tries_189 rfl ?_
            refine x_iload dX12_tries_190 rfl ?_
            refine x_aload_n dX12_tries_192 rfl ?_
            refine x_gr dX12_tries_193 fX12_409 (by first | assumption) (fun _ _ _ => rfl) (by first | assumption) ?_
            refine b_gio (r := r) (m := 24) dX12_tries_196 fX12_230 (by first | assumption) (fun _ _ _ => rfl) (by omega) ?_
            refine (show X _ _ 199 _ _ _ _ _ _ from ?_)
            refine X.val e3 ?_
            refine y_icmp_ge 206 dX12_tries_199 (by decide) ⟨by omega, by omega⟩ ⟨by omega, by omega⟩ (fun g3 => ?_) (fun g3 => ?_)
            rotate_left
            · omega
            refine y_iconst dX12_tries_206 ?_
            refine y_iadd dX12_tries_207 ?_
            refine x_istore_n dX12_tries_208 (by decide) rfl rfl ?_
            refine x_goto 43 dX12_tries_209 (by decide) ?_
            refine (show X _ _ 43 _ _ _ _ _ _ from ?_)
            rw [show (y : Int) + -1 = (y : Int) - 1 by omega]
            rw [hqP] at hSq hfq
            refine X.drop 4 rfl (X.drop 5 rfl (K1 _ hfq ⟨Sc_t hsv2.1 ⟨fun b hb => u2_n (by omega), fun c hc => by rw [u2_n (by decide)], by rw [u2_n (by decide)]; exact hsv2.1.2.2⟩, fun c hc => by rw [u2_n (by decide)]; exact hsv2.2.1 c hc, by rw [u2_n (by decide)]; exact hsv2.2.2.1, by rw [u2_n (by decide)]; exact hsv2.2.2.2⟩ (fun j hj => ?_) ⟨by rw [u2_n (by decide)]; exact hSq.1, hSq.2.1, by rw [u2_n (by decide)]; exact hSq.2.2.1, by rw [u2_n (by decide)]; exact hSq.2.2.2⟩))
            rw [u2_s]
            by_cases ej : j = y
            · rw [ej, u1_s, hcy]
            · rw [u1_n ej, hc2 j hj, u1_n ej]
          | succ e2 ih2 =>
            intro q hq hcq hSq hfq
            have es : lp (q + 1) FF σ = if free.testBit q then trS A B N s p bh d (y + 1) (u1 ch y (q : Int)) (lp q FF σ) else lp q FF σ := by
              rw [lp_s, ← congrFun (congrFun hFF q) (lp q FF σ)]
              show (if (lp q FF σ).2.2 = true then lp q FF σ else if free.testBit q = true then trS A B N s p bh d (y + 1) (u1 ch y (q : Int)) (lp q FF σ) else lp q FF σ) = _
              rw [if_neg (by rw [hfq]; decide)]
            refine x_iload dX12_tries_137 rfl ?_
            refine x_aload_n dX12_tries_139 rfl ?_
            refine x_gr dX12_tries_140 fX12_409 (by first | assumption) (fun _ _ _ => rfl) (by first | assumption) ?_
            refine b_gio (r := r) (m := 24) dX12_tries_143 fX12_230 (by first | assumption) (fun _ _ _ => rfl) (by omega) ?_
            refine (show X _ _ 146 _ _ _ _ _ _ from ?_)
            refine X.val e3 ?_
            refine y_icmp_ge 165 dX12_tries_146 (by decide) ⟨by omega, by omega⟩ ⟨by omega, by omega⟩ (fun g1 => ?_) (fun g1 => ?_)
            · omega
            refine x_iload dX12_tries_149 rfl ?_
            refine x_iload dX12_tries_151 rfl ?_
            refine (show X _ _ 153 _ _ _ _ _ _ from ?_)
            refine x_callS (As := [_, _]) (mc := 0) (ms := 0) (z := mX12_bit) dX12_tries_153 lX12_386 oX12_bit (by decide) rfl (Nat.le_of_ble_eq_true rfl) (Nat.le_of_ble_eq_true rfl) rfl (bt E2 q (by omega)) (k_I ?_)
            refine (show X _ _ 156 _ _ _ _ _ _ from ?_)
            refine y_ifb_ne 165 dX12_tries_156 (by decide) (fun g2 => ?_) (fun g2 => ?_)
            rotate_left
            · rw [g2, if_neg (by decide)] at es
              rw [← es] at hSq hfq
              refine y_iinc dX12_tries_159 rfl (by decide) rfl rfl ?_
              refine x_goto 137 dX12_tries_162 (by decide) ?_
              refine (show X _ _ 137 _ _ _ _ _ _ from ?_)
              exact ih2 (q + 1) (by omega) (by omega) hSq hfq
            rw [g2, if_pos rfl] at es
            refine x_aload_n dX12_tries_165 rfl ?_
            refine x_gr dX12_tries_166 fX12_79 (by first | assumption) (fun _ _ _ => rfl) (by first | assumption) ?_
            refine x_iload_n dX12_tries_169 rfl ?_
            refine x_iload dX12_tries_170 rfl ?_
            refine x_aload_n dX12_tries_172 rfl ?_
            refine x_gr dX12_tries_173 fX12_409 (by first | assumption) (fun _ _ _ => rfl) (by first | assumption) ?_
            refine b_gio (r := r) (m := 24) dX12_tries_176 fX12_230 (by first | assumption) (fun _ _ _ => rfl) (by omega) ?_
            refine (show X _ _ 179 _ _ _ _ _ _ from ?_)
            refine X.val e3 ?_
            refine y_icmp_ge 187 dX12_tries_179 (by decide) ⟨by omega, by omega⟩ ⟨by omega, by omega⟩ (fun g3 => ?_) (fun g3 => ?_)
            · omega
            refine x_iload dX12_tries_182 rfl ?_
            refine x_goto 188 dX12_tries_184 (by decide) ?_
            refine b_iast (r := r) (m := 24) (j := 22) (y) dX12_tries_188 (by first | assumption) (by first | rfl | omega) (by omega) (by decide) (by decide) ?_
            refine x_iload_n dX12_tries_189 rfl ?_
            refine x_iload dX12_tries_190 rfl ?_
            refine x_aload_n dX12_tries_192 rfl ?_
            refine x_gr dX12_tries_193 fX12_409 (by first | assumption) (fun _ _ _ => rfl) (by first | assumption) ?_
            refine b_gio (r := r) (m := 24) dX12_tries_196 fX12_230 (by first | assumption) (fun _ _ _ => rfl) (by omega) ?_
            refine (show X _ _ 199 _ _ _ _ _ _ from ?_)
            refine X.val e3 ?_
            refine y_icmp_ge 206 dX12_tries_199 (by decide) ⟨by omega, by omega⟩ ⟨by omega, by omega⟩ (fun g4 => ?_) (fun g4 => ?_)
            · omega
            refine y_iconst dX12_tries_202 ?_
            refine x_goto 207 dX12_tries_203 (by decide) ?_
            refine y_iadd dX12_tries_207 ?_
            refine x_istore_n dX12_tries_208 (by decide) rfl rfl ?_
            refine x_goto 43 dX12_tries_209 (by decide) ?_
            refine (show X _ _ 43 _ _ _ _ _ _ from ?_)
            refine X.drop 4 rfl (X.drop 5 rfl (down (q : Int) (lp q FF σ) _ ⟨Sc_t hsv2.1 ⟨fun b hb => u2_n (by omega), fun c hc => by rw [u2_n (by decide)], by rw [u2_n (by decide)]; exact hsv2.1.2.2⟩, fun c hc => by rw [u2_n (by decide)]; exact hsv2.2.1 c hc, by rw [u2_n (by decide)]; exact hsv2.2.2.1, by rw [u2_n (by decide)]; exact hsv2.2.2.2⟩ (fun j hj => ?_) (fun _ => ⟨by omega, by rw [Int.toNat_natCast]; exact g2⟩) ⟨by rw [u2_n (by decide)]; exact hSq.1, hSq.2.1, by rw [u2_n (by decide)]; exact hSq.2.2.1, by rw [u2_n (by decide)]; exact hSq.2.2.2⟩ hfq (fun E' k1 k2 k3 k4 => ?_) (fun E' k1 k2 k3 => ?_)))
            · rw [u2_s]
              by_cases ej : j = y
              · rw [ej, u1_s, u1_s]
              · rw [u1_n ej, u1_n ej, hc2 j hj, u1_n ej]
            · rw [← es] at k1 k4
              refine ihe e2 (by omega) (q + 1) (by omega) E' k2 (fun j hj => ?_) k4 k1
              rw [k3 j hj, show (((q + 1 : Nat) : Int) - 1) = (q : Int) by omega]
            · rw [← es] at k1 k3
              have := lp_fd (P := 0) hFn (σ0 := σ) e2 (q + 1) k1
              rw [show q + 1 + e2 = fP A by omega] at this
              rw [← this] at k1 k3
              exact K2 E' k1 k2 k3
        exact inner e c hce (Nat.le_refl _) hS2 hf1
      refine chl (fP A) 0 (by omega) E hsv (fun j hj => ?_) hS hfd
      rw [hc j hj]
      by_cases ej : j = y
      · rw [ej, u1_s, hcy]; rfl
      · rw [u1_n ej]
    · -- nobody is chosen
      have et : trS A B N s p bh (d + 1) y ch σ = trS A B N s p bh d (y + 1) (u1 ch y 10) σ := by rw [trS, if_neg hop]
      rw [et] at K1 K2
      have hfr : frS A B (wt A B ch (wB A B) y) y = 0 := by unfold frS; rw [if_neg hop]
      rw [hfr] at hcho
      refine head y σ E jk jk hS hfd (by omega) ?_
      refine x_iload_n dX12_tries_54 rfl ?_
      refine x_iload_n dX12_tries_55 rfl ?_
      refine (show X _ _ 56 _ _ _ _ _ _ from ?_)
      refine y_icmp_ne 71 dX12_tries_56 (by decide) ⟨by omega, by omega⟩ ⟨by omega, by omega⟩ (fun h1 => ?_) (fun h1 => ?_)
      rotate_left
      · omega
      refine x_aload_n dX12_tries_71 rfl ?_
      refine x_iload_n dX12_tries_72 rfl ?_
      refine (show X _ _ 73 _ _ _ _ _ _ from ?_)
      refine x_callV (As := [_]) (mc := 0) (ms := 0) (z := mX12_choices) (ci := 12) dX12_tries_73 lX12_550 oX12_choices (by decide) (by first | assumption) rfl rfl (Nat.le_of_ble_eq_true rfl) (Nat.le_of_ble_eq_true rfl) rfl (hcho E hsv (fun j hj => hc j (by omega))) (fun v M1 hq => ?_)
      obtain ⟨rfl, E2, rfl, hsT⟩ := hq
      refine (show X _ _ 76 _ [.int (iI ((0 : Nat) : Int))] _ _ _ _ from ?_)
      have hsv2 := ScV_T hsv hsT
      have hS2 := EnS_T hS hsT
      have hc2 : ∀ j, j < 4 → E2 22 j = ch j := by rw [hsT.2.1]; exact hc
      refine x_istore dX12_tries_76 (by decide) rfl rfl ?_
      refine x_iload dX12_tries_78 rfl ?_
      refine (show X _ _ 80 _ _ _ _ _ _ from ?_)
      refine y_if_ne 127 dX12_tries_80 (by decide) ⟨by omega, by omega⟩ (fun h2 => ?_) (fun h2 => ?_)
      · exact absurd rfl h2
      refine x_aload_n dX12_tries_83 rfl ?_
      refine x_gr dX12_tries_84 fX12_79 (by first | assumption) (fun _ _ _ => rfl) (by first | assumption) ?_
      refine x_iload_n dX12_tries_87 rfl ?_
      refine x_aload_n dX12_tries_88 rfl ?_
      refine x_gr dX12_tries_89 fX12_79 (by first | assumption) (fun _ _ _ => rfl) (by first | assumption) ?_
      refine x_iload_n dX12_tries_92 rfl ?_
      refine b_iald (r := r) (m := 24) (j := 22) (y) dX12_tries_93 (by first | assumption) (by first | rfl | omega) (by omega) (by decide) (by decide) ?_
      refine (show X _ _ 94 _ _ _ _ _ _ from ?_)
      refine X.val (b := -1) (by rw [hc2 y (by omega), hcy]) ?_
      refine y_iconst dX12_tries_94 ?_
      refine (show X _ _ 95 _ _ _ _ _ _ from ?_)
      refine y_icmp_ne 103 dX12_tries_95 (by decide) ⟨by omega, by omega⟩ ⟨by omega, by omega⟩ (fun h3 => ?_) (fun h3 => ?_)
      · exact absurd rfl h3
      refine y_bipush dX12_tries_98 rfl ?_
      refine x_goto 104 dX12_tries_100 (by decide) ?_
      refine b_iast (r := r) (m := 24) (j := 22) (y) dX12_tries_104 (by first | assumption) (by first | rfl | omega) (by omega) (by decide) (by decide) ?_
      refine x_iload_n dX12_tries_105 rfl ?_
      refine x_aload_n dX12_tries_106 rfl ?_
      refine x_gr dX12_tries_107 fX12_79 (by first | assumption) (fun _ _ _ => rfl) (by first | assumption) ?_
      refine x_iload_n dX12_tries_110 rfl ?_
      refine b_iald (r := r) (m := 24) (j := 22) (y) dX12_tries_111 (by first | assumption) (by first | rfl | omega) (by omega) (by decide) (by decide) ?_
      refine (show X _ _ 112 _ _ _ _ _ _ from ?_)
      refine X.val (b := 10) (by rw [u2_s, u1_s]) ?_
      refine y_bipush dX12_tries_112 rfl ?_
      refine (show X _ _ 114 _ _ _ _ _ _ from ?_)
      refine y_icmp_ne 121 dX12_tries_114 (by decide) ⟨by omega, by omega⟩ ⟨by omega, by omega⟩ (fun h4 => ?_) (fun h4 => ?_)
      · exact absurd rfl h4
      refine y_iconst dX12_tries_117 ?_
      refine x_goto 122 dX12_tries_118 (by decide) ?_
      refine y_iadd dX12_tries_122 ?_
      refine x_istore_n dX12_tries_123 (by decide) rfl rfl ?_
      refine x_goto 43 dX12_tries_124 (by decide) ?_
      refine (show X _ _ 43 _ _ _ _ _ _ from ?_)
      refine X.drop 4 rfl (down 10 σ _ ⟨Sc_t hsv2.1 ⟨fun b hb => u2_n (by omega), fun c hc => by rw [u2_n (by decide)], by rw [u2_n (by decide)]; exact hsv2.1.2.2⟩, fun c hc => by rw [u2_n (by decide)]; exact hsv2.2.1 c hc, by rw [u2_n (by decide)]; exact hsv2.2.2.1, by rw [u2_n (by decide)]; exact hsv2.2.2.2⟩ (fun j hj => ?_) (fun c => absurd c hop) ⟨by rw [u2_n (by decide)]; exact hS2.1, hS2.2.1, by rw [u2_n (by decide)]; exact hS2.2.2.1, by rw [u2_n (by decide)]; exact hS2.2.2.2⟩ hfd (fun E3 k1 k2 k3 k4 => ?_) K2)
      · rw [u2_s]
        by_cases ej : j = y
        · rw [ej, u1_s, u1_s]
        · rw [u1_n ej, u1_n ej, hc2 j hj]
      · refine head y _ E3 jk jk k4 k1 (by omega) ?_
        refine x_iload_n dX12_tries_54 rfl ?_
        refine x_iload_n dX12_tries_55 rfl ?_
        refine (show X _ _ 56 _ _ _ _ _ _ from ?_)
        refine y_icmp_ne 71 dX12_tries_56 (by decide) ⟨by omega, by omega⟩ ⟨by omega, by omega⟩ (fun g1 => ?_) (fun g1 => ?_)
        rotate_left
        · omega
        refine x_aload_n dX12_tries_71 rfl ?_
        refine x_iload_n dX12_tries_72 rfl ?_
        refine (show X _ _ 73 _ _ _ _ _ _ from ?_)
        refine x_callV (As := [_]) (mc := 0) (ms := 0) (z := mX12_choices) (ci := 12) dX12_tries_73 lX12_550 oX12_choices (by decide) (by first | assumption) rfl rfl (Nat.le_of_ble_eq_true rfl) (Nat.le_of_ble_eq_true rfl) rfl (hcho E3 k2 (fun j hj => by rw [k3 j (by omega), u1_n (by omega)])) (fun v M1 hq => ?_)
        obtain ⟨rfl, E4, rfl, hsT4⟩ := hq
        refine (show X _ _ 76 _ [.int (iI ((0 : Nat) : Int))] _ _ _ _ from ?_)
        have hsv4 := ScV_T k2 hsT4
        have hS4 := EnS_T k4 hsT4
        refine x_istore dX12_tries_76 (by decide) rfl rfl ?_
        refine x_iload dX12_tries_78 rfl ?_
        refine (show X _ _ 80 _ _ _ _ _ _ from ?_)
        refine y_if_ne 127 dX12_tries_80 (by decide) ⟨by omega, by omega⟩ (fun g2 => ?_) (fun g2 => ?_)
        · exact absurd rfl g2
        refine x_aload_n dX12_tries_83 rfl ?_
        refine x_gr dX12_tries_84 fX12_79 (by first | assumption) (fun _ _ _ => rfl) (by first | assumption) ?_
        refine x_iload_n dX12_tries_87 rfl ?_
        refine x_aload_n dX12_tries_88 rfl ?_
        refine x_gr dX12_tries_89 fX12_79 (by first | assumption) (fun _ _ _ => rfl) (by first | assumption) ?_
        refine x_iload_n dX12_tries_92 rfl ?_
        refine b_iald (r := r) (m := 24) (j := 22) (y) dX12_tries_93 (by first | assumption) (by first | rfl | omega) (by omega) (by decide) (by decide) ?_
        refine (show X _ _ 94 _ _ _ _ _ _ from ?_)
        refine X.val (b := 10) (by rw [hsT4.2.1, k3 y (by omega), u1_s]) ?_
        refine y_iconst dX12_tries_94 ?_
        refine (show X _ _ 95 _ _ _ _ _ _ from ?_)
        refine y_icmp_ne 103 dX12_tries_95 (by decide) ⟨by omega, by omega⟩ ⟨by omega, by omega⟩ (fun g3 => ?_) (fun g3 => ?_)
        rotate_left
        · exact absurd g3 (by decide)
        refine y_iconst dX12_tries_103 ?_
        refine b_iast (r := r) (m := 24) (j := 22) (y) dX12_tries_104 (by first | assumption) (by first | rfl | omega) (by omega) (by decide) (by decide) ?_
        refine x_iload_n dX12_tries_105 rfl ?_
        refine x_aload_n dX12_tries_106 rfl ?_
        refine x_gr dX12_tries_107 fX12_79 (by first | assumption) (fun _ _ _ => rfl) (by first | assumption) ?_
        refine x_iload_n dX12_tries_110 rfl ?_
        refine b_iald (r := r) (m := 24) (j := 22) (y) dX12_tries_111 (by first | assumption) (by first | rfl | omega) (by omega) (by decide) (by decide) ?_
        refine (show X _ _ 112 _ _ _ _ _ _ from ?_)
        refine X.val (b := -1) (by rw [u2_s, u1_s]) ?_
        refine y_bipush dX12_tries_112 rfl ?_
        refine (show X _ _ 114 _ _ _ _ _ _ from ?_)
        refine y_icmp_ne 121 dX12_tries_114 (by decide) ⟨by omega, by omega⟩ ⟨by omega, by omega⟩ (fun g4 => ?_) (fun g4 => ?_)
        rotate_left
        · exact absurd g4 (by decide)
        refine y_iconst dX12_tries_121 ?_
        refine y_iadd dX12_tries_122 ?_
        refine x_istore_n dX12_tries_123 (by decide) rfl rfl ?_
        refine x_goto 43 dX12_tries_124 (by decide) ?_
        refine (show X _ _ 43 _ _ _ _ _ _ from ?_)
        rw [show (y : Int) + -1 = (y : Int) - 1 by omega]
        refine X.drop 4 rfl (K1 _ k1 ⟨Sc_t hsv4.1 ⟨fun b hb => u2_n (by omega), fun c hc => by rw [u2_n (by decide)], by rw [u2_n (by decide)]; exact hsv4.1.2.2⟩, fun c hc => by rw [u2_n (by decide)]; exact hsv4.2.1 c hc, by rw [u2_n (by decide)]; exact hsv4.2.2.1, by rw [u2_n (by decide)]; exact hsv4.2.2.2⟩ (fun j hj => ?_) ⟨by rw [u2_n (by decide)]; exact hS4.1, hS4.2.1, by rw [u2_n (by decide)]; exact hS4.2.2.1, by rw [u2_n (by decide)]; exact hS4.2.2.2⟩)
        rw [u2_s]
        by_cases ej : j = y
        · rw [ej, u1_s, hcy]
        · rw [u1_n ej, hsT4.2.1, k3 j hj, u1_n ej]
/-- the whole search from nothing -/
theorem k_tries {N s p : Nat} {bh : Bool} (hI : DI T R V r f E t tp true A B a m H K wr pl tr) (hN4 : 1 ≤ N ∧ N ≤ 4) (hsp : bh = false → (E 0 49 = (s : Int) ∧ s < 8) ∧ (E 0 50 = (p : Int) ∧ p < 10)) : X g mX12_tries 0 [.ref r, .int (iI (N : Int)), .int (iI (bI bh)), jk, jk, jk] [] (T, iV (pB V r 24 E), R, J, z) k n (fun v M => v = none ∧ ∃ E', M = (T, iV (pB V r 24 E'), R, J, z) ∧ Sc E E' ∧ (E' 0 49 = E 0 49 ∧ E' 0 50 = E 0 50) ∧ EnS N E' (trS A B N s p bh N 0 (fun _ => -1) (-1, (fun _ => 0), false))) := by
  have hM := hI.1
  have h43 := hI.2.2.2.2.1
  have hnode := k_node (g := g) (V := V) (E0 := E) (J := J) (z := z) (k := k) (n := n) (N := N) (s := s) (p := p) (bh := bh) (Q := fun v M => v = none ∧ ∃ E', M = (T, iV (pB V r 24 E'), R, J, z) ∧ Sc E E' ∧ (E' 0 49 = E 0 49 ∧ E' 0 50 = E 0 50) ∧ EnS N E' (trS A B N s p bh N 0 (fun _ => -1) (-1, (fun _ => 0), false))) hI hN4 hsp N 0 (by omega) (fun _ => -1) (-1, (fun _ => 0), false)
  obtain ⟨m0, ⟨-, -, -, -, -, -, -, -, -, -, -, -, -, -, -, -, -, -, -, -, -, m37, -⟩, ⟨-, -, -, -, -, -, -, -, -, -, -, -, -, -, -, -, -, -, -, -, -, mk22, -⟩⟩ := id hM
  refine x_aload_n dX12_tries_0 rfl ?_
  refine y_bipush dX12_tries_1 rfl ?_
  refine b_pi0 (r := r) (m := 24) dX12_tries_3 (pX12_423 _) (by first | assumption) (fun _ _ _ => rfl) rfl rfl (by decide) ?_
  refine x_aload_n dX12_tries_6 rfl ?_
  refine x_iload_n dX12_tries_7 rfl ?_
  refine b_pi0 (r := r) (m := 24) dX12_tries_8 (pX12_420 _) (by first | assumption) (fun _ _ _ => rfl) rfl rfl (by decide) ?_
  refine x_aload_n dX12_tries_11 rfl ?_
  refine y_iconst dX12_tries_12 ?_
  refine (show X _ _ 13 _ _ _ _ _ _ from ?_)
  refine b_pi0 (r := r) (m := 24) dX12_tries_13 (pX12_539 _) (by first | assumption) (fun _ _ _ => rfl) rfl rfl (by decide) ?_
  refine x_aload_n dX12_tries_16 rfl ?_
  refine y_iconst dX12_tries_17 ?_
  refine b_pi0 (r := r) (m := 24) dX12_tries_18 (pX12_542 _) (by first | assumption) (fun _ _ _ => rfl) (by first | rfl | exact bI_nar _) (by first | rfl | exact bI_fit _) (by decide) ?_
  refine y_iconst dX12_tries_21 ?_
  refine x_istore_n dX12_tries_22 (by decide) rfl rfl ?_
  refine (show X _ _ 23 _ _ _ _ _ _ from ?_)
  generalize hE1 : u2 (u2 (u2 (u2 E 0 42 (-2)) 0 41 (N : Int)) 0 48 (-1)) 0 51 0 = E1
  have e1 : ∀ b, b ≠ 0 → E1 b = E b := fun b hb => by rw [← hE1, u2_n hb, u2_n hb, u2_n hb, u2_n hb]
  have e10 : ∀ c, c ≠ 41 → c ≠ 42 → c ≠ 48 → c ≠ 51 → E1 0 c = E 0 c := fun c c1 c2 c3 c4 => by rw [← hE1, u2_s, u1_n c4, u2_s, u1_n c3, u2_s, u1_n c1, u2_s, u1_n c2]
  have e11 : E1 0 41 = (N : Int) ∧ E1 0 42 = -2 ∧ E1 0 48 = -1 ∧ E1 0 51 = 0 := by
    rw [← hE1]
    simp (discharger := decide) only [u2_s, u1_s, u1_n, and_self]
  refine loopN (P := fun i => ∀ E2 : Nat → Nat → Int, (∀ b, b ≠ 22 → E2 b = E1 b) → (∀ j, j < i → E2 22 j = -1) → X g mX12_tries 23 [.ref r, .int (iI (N : Int)), .int (iI (bI bh)), .int (iI (i : Int)), jk, jk] [] (T, iV (pB V r 24 E2), R, J, z) k n (fun v M => v = none ∧ ∃ E', M = (T, iV (pB V r 24 E'), R, J, z) ∧ Sc E E' ∧ (E' 0 49 = E 0 49 ∧ E' 0 50 = E 0 50) ∧ EnS N E' (trS A B N s p bh N 0 (fun _ => -1) (-1, (fun _ => 0), false)))) 4 ?_ (fun i hi ih => ?_) E1 (fun _ _ => rfl) (fun j hj => absurd hj (by omega))
  · intro E2 w1 w2
    have r0 : E2 0 = E1 0 := w1 0 (by decide)
    have hsv : ScV N E E2 := ⟨⟨fun b hb => by rw [w1 b (by omega), e1 b (by omega)], fun c hc => by rw [r0, e10 c (by omega) (by omega) (by omega) (by omega)], by rw [r0, e10 43 (by decide) (by decide) (by decide) (by decide)]; exact h43⟩, fun c hc => by rw [r0, e10 c (by omega) (by omega) (by omega) (by omega)], by rw [r0]; exact e11.1, by rw [r0]; exact e11.2.1⟩
    refine x_iload_n dX12_tries_23 rfl ?_
    refine y_iconst dX12_tries_24 ?_
    refine (show X _ _ 25 _ _ _ _ _ _ from ?_)
    refine y_icmp_ge 41 dX12_tries_25 (by decide) ⟨by omega, by omega⟩ ⟨by omega, by omega⟩ (fun h1 => ?_) (fun h1 => ?_)
    rotate_left
    · omega
    refine y_iconst dX12_tries_41 ?_
    refine x_istore_n dX12_tries_42 (by decide) rfl rfl ?_
    refine (show X _ _ 43 _ _ _ _ _ _ from ?_)
    refine hnode E2 hsv (fun j hj => w2 j hj) (fun _ _ _ => rfl) (fun i hi => absurd hi (by omega)) ⟨by rw [r0]; exact e11.2.2.1, ⟨by decide, by decide⟩, (fun c => absurd rfl c), by rw [r0]; exact e11.2.2.2⟩ rfl (fun E' k1 k2 k3 k4 => ?_) (fun E' k1 k2 k3 => ⟨rfl, E', rfl, k2.1, ⟨k2.2.1 49 (by omega), k2.2.1 50 (by omega)⟩, k3⟩)
    refine x_iload_n dX12_tries_43 rfl ?_
    refine (show X _ _ 44 _ _ _ _ _ _ from ?_)
    refine y_if_lt 212 dX12_tries_44 (by decide) ⟨by omega, by omega⟩ (fun h2 => ?_) (fun h2 => ?_)
    rotate_left
    · exact absurd h2 (by decide)
    exact x_return dX12_tries_212 rfl ⟨rfl, E', rfl, k2.1, ⟨k2.2.1 49 (by omega), k2.2.1 50 (by omega)⟩, k4⟩
  · intro E2 w1 w2
    refine x_iload_n dX12_tries_23 rfl ?_
    refine y_iconst dX12_tries_24 ?_
    refine (show X _ _ 25 _ _ _ _ _ _ from ?_)
    refine y_icmp_ge 41 dX12_tries_25 (by decide) ⟨by omega, by omega⟩ ⟨by omega, by omega⟩ (fun h1 => ?_) (fun h1 => ?_)
    · omega
    refine x_aload_n dX12_tries_28 rfl ?_
    refine x_gr dX12_tries_29 fX12_79 (by first | assumption) (fun _ _ _ => rfl) (by first | assumption) ?_
    refine x_iload_n dX12_tries_32 rfl ?_
    refine y_iconst dX12_tries_33 ?_
    refine b_iast (r := r) (m := 24) (j := 22) (i) dX12_tries_34 (by first | assumption) (by first | rfl | omega) (by omega) (by decide) (by decide) ?_
    refine y_iinc dX12_tries_35 rfl (by decide) rfl rfl ?_
    refine x_goto 23 dX12_tries_38 (by decide) ?_
    refine (show X _ _ 23 _ _ _ _ _ _ from ?_)
    refine ih _ (fun b hb => by rw [u2_n hb, w1 b hb]) (fun j hj => ?_)
    rw [u2_s]
    by_cases e : j = i
    · rw [e, u1_s]
    · rw [u1_n e]; exact w2 j (by omega)
end C9i
