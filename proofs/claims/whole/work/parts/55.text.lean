/-! ===== Reader: a text ===== -/
def A0 : Nat → Nat → Int := fun _ _ => 0
/-- lines and semicolons, at most d of them more -/
def pMore (t : Nat → Int) (e : Nat) : Nat → PR → PR
  | 0, r => r
  | _ + 1, .inl c => .inl c
  | d + 1, .inr s => if tkK t e s.2 = 3 then pMore t e d (pLine t e s.1 (tkN t e s.2)) else .inr s
/-- what must hold at the end -/
def pFin (t : Nat → Int) (e : Nat) : PR → PR
  | .inl c => .inl c
  | .inr s => if tkK t e s.2 = 0 then (if 0 < s.1 0 3 then .inr s else .inl (6, tkS t e s.2)) else .inl (1, tkS t e s.2)
def pText (t : Nat → Int) (e : Nat) : PR := pFin t e (pMore t e 1100 (pLine t e A0 0))
theorem VP_0 : VP A0 := by
  refine ⟨⟨⟨by decide, by decide⟩, ⟨by decide, by decide⟩, ⟨by decide, by decide⟩, ⟨by decide, by decide⟩, ⟨by decide, by decide⟩, ⟨by decide, by decide⟩, ⟨by decide, by decide⟩, ⟨by decide, by decide⟩, ⟨by decide, by decide⟩, fun p hp => absurd hp (by show ¬ p < 0; omega), fun p hp => absurd hp (by show ¬ p < 0; omega), fun p hp => absurd hp (by show ¬ p < 0; omega), fun p hp => absurd hp (by show ¬ p < 0; omega), fun j _ => ⟨Int.le_refl 0, (by decide : (0 : Int) < 1024)⟩, fun p hp => absurd hp (by show ¬ p < 0; omega)⟩, Or.inl rfl, rfl, fun k hk => absurd hk (by show ¬ k < 0; omega), fun _ => ⟨rfl, rfl, rfl, rfl, rfl, rfl⟩⟩
theorem FC_0 {V : Nat → Nat → Int} {f : Nat} (h0 : ∀ c, c < 9 → V f c = 0) (h44 : ∀ j, j < 80 → V (f + 44) j = 0) : FC V f A0 := ⟨h0, fun p hp => absurd hp (by show ¬ p < 0; omega), fun p hp => absurd hp (by show ¬ p < 0; omega), fun p hp => absurd hp (by show ¬ p < 0; omega), fun p hp => absurd hp (by show ¬ p < 0; omega), fun p hp => absurd hp (by show ¬ p < 0; omega), h44⟩
/-- the reader behind a line, or behind all of them -/
def RP (t : Nat → Int) (V V' : Nat → Nat → Int) (rd tx q f e : Nat) (r : PR) : Prop := FRM V V' rd q f ∧ match r with
  | .inl c => V' rd 1 = c.1 ∧ V' rd 2 = (c.2 : Int)
  | .inr s => RI t V' s.1 rd tx q f e s.2
def pv : PR → Int
  | .inl _ => 0
  | .inr _ => 1
theorem RQ_iff {T : Nat → Nat × Nat} {R : Nat → Nat → Option Nat} {J : Nat → Nat → Int64} {z : Nat} {t : Nat → Int} {V : Nat → Nat → Int} {rd tx q f e : Nat} {r : PR} {v : Option Value} {M : Mem} : RQ T R J z t V rd tx q f e r v M ↔ ∃ V' : Nat → Nat → Int, M = (T, iV V', R, J, z) ∧ v = some (.int (iI (pv r))) ∧ RP t V V' rd tx q f e r := by
  cases r with
  | inl c => exact ⟨fun ⟨V', h1, h2, h3, h4⟩ => ⟨V', h1, h3, h2, h4⟩, fun ⟨V', h1, h3, h2, h4⟩ => ⟨V', h1, h2, h3, h4⟩⟩
  | inr c => exact ⟨fun ⟨V', h1, h2, h3, h4⟩ => ⟨V', h1, h3, h2, h4⟩, fun ⟨V', h1, h3, h2, h4⟩ => ⟨V', h1, h2, h3, h4⟩⟩
theorem FRM_tr {V V1 V2 : Nat → Nat → Int} {rd q f : Nat} (h : FRM V V1 rd q f) (h2 : FRM V1 V2 rd q f) : FRM V V2 rd q f := ⟨fun b a1 a2 a3 => (h2.1 b a1 a2 a3).trans (h.1 b a1 a2 a3), h2.2.1.trans h.2.1, h2.2.2⟩
theorem RP_tr {t : Nat → Int} {V V1 V2 : Nat → Nat → Int} {rd tx q f e : Nat} {r : PR} (h : FRM V V1 rd q f) (h2 : RP t V1 V2 rd tx q f e r) : RP t V V2 rd tx q f e r := ⟨FRM_tr h h2.1, h2.2⟩
theorem lp_44 {W : Nat → Nat → Int} : ∀ n b, b ≠ 44 → lp n (fun j W => u2 W 44 j 0) W b = W b
  | 0, b, _ => rfl
  | n + 1, b, h => by rw [lp_s, u2_n h]; exact lp_44 n b h
theorem lp_44z {W : Nat → Nat → Int} : ∀ n j, j < n → lp n (fun j W => u2 W 44 j 0) W 44 j = 0
  | 0, j, h => absurd h (by omega)
  | n + 1, j, h => by
    rw [lp_s, u2_s]
    by_cases e : j = n
    · subst e; rw [u1_s]
    · rw [u1_n e]; exact lp_44z n j (by omega)
section C55
variable {g : GG} {T : Nat → Nat × Nat} {V A : Nat → Nat → Int} {R : Nat → Nat → Option Nat} {J : Nat → Nat → Int64} {z k n : Nat} {rd tx q f e i : Nat} {t : Nat → Int}
theorem q_clear (hf : FS T R f) : X g mX2_clear 0 [.ref f, jk] [] (T, iV V, R, J, z) k n (fun v M => v = none ∧ ∃ V' : Nat → Nat → Int, M = (T, iV V', R, J, z) ∧ (∀ b, b ≠ f → b ≠ f + 44 → V' b = V b) ∧ (∀ c, c < 9 → V' f c = 0) ∧ ∀ j, j < 80 → V' (f + 44) j = 0) := by
  have h := c_clear (g := g) (J := J) (z := z) (k := k) (n := n) (V := V) (W := fun j => V (f + j)) hf
  rw [pB_self (fun _ _ => rfl)] at h
  refine X.mono h ?_
  rintro v M ⟨rfl, rfl⟩
  refine ⟨rfl, _, rfl, fun b h1 h2 => ?_, fun c hc => ?_, fun j hj => ?_⟩
  · by_cases e1 : f ≤ b ∧ b < f + 45
    · obtain ⟨j, rfl⟩ : ∃ j, b = f + j := ⟨b - f, by omega⟩
      rw [pB_at (by omega)]
      unfold clW clA
      rw [lp_44 80 j (by omega)]
      have hj : j ≠ 0 := by omega
      rw [u2_n hj, u2_n hj, u2_n hj, u2_n hj, u2_n hj, u2_n hj, u2_n hj, u2_n hj, u2_n hj]
    · rw [pB_out (by omega)]
  · rw [pB_0 (by decide)]
    unfold clW clA
    rw [lp_44 80 0 (by decide)]
    rcases (by omega : c = 0 ∨ c = 1 ∨ c = 2 ∨ c = 3 ∨ c = 4 ∨ c = 5 ∨ c = 6 ∨ c = 7 ∨ c = 8) with rfl | rfl | rfl | rfl | rfl | rfl | rfl | rfl | rfl <;> simp [u2_ap]
  · rw [pB_at (by decide)]
    unfold clW
    exact lp_44z 80 j hj
theorem q_readText {x : Int} {tp : Nat} (hB : BX T R rd tx q f) (h4 : V rd 4 = (tp : Int)) (hx : 0 ≤ x ∧ x ≤ tp) (htp : tp ≤ 1100) (h9 : 0 ≤ V rd 9 ∧ V rd 9 ≤ 1100) (hV : V tx = t) (ht : ∀ j, j < 1100 → -128 ≤ t j ∧ t j ≤ 127) : X g mX6_readText 0 [.ref rd, .int (iI x), jk, jk] [] (T, iV V, R, J, z) k n (RQ T R J z t (u2 V rd 4 0) rd tx q f x.toNat (pText t x.toNat)) := by
  have hB0 := hB
  obtain ⟨hS, hD, hFS, rd0, hsep⟩ := hB
  have hs0 := hS.1
  have hf0 := hFS.1
  have hne := DS_ne hS
  obtain ⟨e, rfl⟩ : ∃ e : Nat, x = (e : Int) := ⟨x.toNat, (Int.toNat_of_nonneg hx.1).symm⟩
  have he : e ≤ 1100 := by omega
  rw [Int.toNat_natCast]
  have hfl := fun (U : Nat → Nat → Int) y => c_fail (g := g) (J := J) (z := z) (k := 0) (n := 0) (V := U) (x := y) hS
  have hadv := fun (U : Nat → Nat → Int) i h6 h5 hi ht => c_advance (g := g) (J := J) (z := z) (k := 0) (n := 0) (V := U) (i := i) (e := e) hS h6 h5 hi he ht hne
  have hline := fun (U B : Nat → Nat → Int) (i : Nat) hP hR => q_readLine (g := g) (J := J) (z := z) (k := 0) (n := 0) (V := U) (A := B) (i := i) (e := e) hB0 hP hR he ht
  unfold pText
  generalize hW : u2 V rd 4 0 = W
  have h11 := hsep
  have tl : ∀ (c : Value) (r : PR) (V' : Nat → Nat → Int), RP t W V' rd tx q f e r → (∀ s, r = .inr s → VP s.1) → X g mX6_readText 89 [.ref rd, .int (iI (e : Int)), .int (iI (pv r)), c] [] (T, iV V', R, J, z) k n (RQ T R J z t W rd tx q f e (pFin t e r)) := by
    intro c r V' hr hvp
    cases r with
    | inl c =>
      refine x_iload_n dX6_readText_89 rfl ?_
      refine (show X _ _ 90 _ _ _ _ _ _ from ?_)
      refine (show X _ _ 90 _ [.int (iI 0)] _ _ _ _ from ?_)
      refine y_if_ne 95 dX6_readText_90 (by decide) ⟨by omega, by omega⟩ (fun h => ?_) (fun h => ?_)
      · omega
      refine y_iconst dX6_readText_93 ?_
      refine (show X _ _ 94 _ _ _ _ _ _ from ?_)
      exact x_zreturn dX6_readText_94 rfl rfl (RQ_iff.mpr ⟨V', rfl, rfl, hr⟩)
    | inr s =>
      obtain ⟨hfr, hri⟩ := hr
      have hP := hvp s rfl
      obtain ⟨hc, hF, hN, h01⟩ := hri
      have hkb := tkK_b t e s.2
      have hA3 := hP.1.2.2.2.1
      refine x_iload_n dX6_readText_89 rfl ?_
      refine (show X _ _ 90 _ _ _ _ _ _ from ?_)
      refine (show X _ _ 90 _ [.int (iI 1)] _ _ _ _ from ?_)
      refine y_if_ne 95 dX6_readText_90 (by decide) ⟨by omega, by omega⟩ (fun h => ?_) (fun h => ?_)
      rotate_left
      · omega
      refine x_aload_n dX6_readText_95 rfl ?_
      refine y_gi dX6_readText_96 fX6_38 (by first | assumption) (fun _ _ _ => rfl) ?_
      refine (show X _ _ 99 _ _ _ _ _ _ from ?_)
      refine X.val hc.2.2.2.2.1 ?_
      show X _ _ _ _ _ _ _ _ (RQ T R J z t W rd tx q f e (if tkK t e s.2 = 0 then (if 0 < s.1 0 3 then .inr s else .inl (6, tkS t e s.2)) else .inl (1, tkS t e s.2)))
      refine y_if_eq 108 dX6_readText_99 (by decide) ⟨by omega, by omega⟩ (fun h2 => ?_) (fun h2 => ?_)
      rotate_left
      · rw [if_neg h2]
        refine x_aload_n dX6_readText_102 rfl ?_
        refine y_iconst dX6_readText_103 ?_
        refine (show X _ _ 104 _ _ _ _ _ _ from ?_)
        refine x_callV (As := [_]) (mc := 0) (ms := 0) (z := mX6_fail) (ci := 6) dX6_readText_104 lX6_89 oX6_fail (by decide) (by first | assumption) rfl rfl (Nat.le_of_ble_eq_true rfl) (Nat.le_of_ble_eq_true rfl) rfl (hfl _ _) (k_I ?_)
        refine (show X _ _ 107 _ _ _ _ _ _ from ?_)
        exact x_zreturn dX6_readText_107 rfl rfl (rq_fl hfr hc)
      rw [if_pos h2]
      refine x_aload_n dX6_readText_108 rfl ?_
      refine x_gr dX6_readText_109 fX6_12 (by first | assumption) (fun _ _ _ => rfl) (by first | assumption) ?_
      refine y_gi dX6_readText_112 fX6_93 (by first | assumption) (fun _ _ _ => rfl) ?_
      refine (show X _ _ 115 _ _ _ _ _ _ from ?_)
      refine X.val (hF.1 3 (by decide)) ?_
      refine y_if_gt 127 dX6_readText_115 (by decide) ⟨by omega, by omega⟩ (fun h3 => ?_) (fun h3 => ?_)
      · rw [if_pos h3]
        refine y_iconst dX6_readText_127 ?_
        refine x_goto 132 dX6_readText_128 (by decide) ?_
        refine (show X _ _ 132 _ _ _ _ _ _ from ?_)
        exact x_zreturn dX6_readText_132 rfl rfl (RQ_iff.mpr ⟨V', rfl, rfl, hfr, hc, hF, hN, h01⟩)
      · rw [if_neg (by omega)]
        refine x_aload_n dX6_readText_118 rfl ?_
        refine y_bipush dX6_readText_119 rfl ?_
        refine (show X _ _ 121 _ _ _ _ _ _ from ?_)
        refine x_callV (As := [_]) (mc := 0) (ms := 0) (z := mX6_fail) (ci := 6) dX6_readText_121 lX6_89 oX6_fail (by decide) (by first | assumption) rfl rfl (Nat.le_of_ble_eq_true rfl) (Nat.le_of_ble_eq_true rfl) rfl (hfl _ _) (k_I ?_)
        refine (show X _ _ 124 _ _ _ _ _ _ from ?_)
        refine y_if_eq 131 dX6_readText_124 (by decide) ⟨by omega, by omega⟩ (fun h4 => ?_) (fun h4 => ?_)
        · refine y_iconst dX6_readText_131 ?_
          refine (show X _ _ 132 _ _ _ _ _ _ from ?_)
          exact x_zreturn dX6_readText_132 rfl rfl (rq_fl hfr hc)
        · omega
  have lo : ∀ (d c : Nat) (r : PR) (V' : Nat → Nat → Int), c + d = 1100 → RP t W V' rd tx q f e r → (∀ s, r = .inr s → VP s.1) → X g mX6_readText 55 [.ref rd, .int (iI (e : Int)), .int (iI (pv r)), .int (iI (c : Int))] [] (T, iV V', R, J, z) k n (RQ T R J z t W rd tx q f e (pFin t e (pMore t e d r))) := by
    intro d
    induction d with
    | zero =>
      intro c r V' hc hr hvp
      refine x_iload_n dX6_readText_55 rfl ?_
      refine y_sipush dX6_readText_56 rfl ?_
      refine (show X _ _ 59 _ _ _ _ _ _ from ?_)
      refine y_icmp_ge 89 dX6_readText_59 (by decide) ⟨by omega, by omega⟩ ⟨by omega, by omega⟩ (fun h => ?_) (fun h => ?_)
      · exact tl _ r V' hr hvp
      · omega
    | succ d ih =>
      intro c r V' hc hr hvp
      have ec : (c : Int) + 1 = ((c + 1 : Nat) : Int) := by omega
      refine x_iload_n dX6_readText_55 rfl ?_
      refine y_sipush dX6_readText_56 rfl ?_
      refine (show X _ _ 59 _ _ _ _ _ _ from ?_)
      refine y_icmp_ge 89 dX6_readText_59 (by decide) ⟨by omega, by omega⟩ ⟨by omega, by omega⟩ (fun h => ?_) (fun h => ?_)
      · omega
      cases r with
      | inl s =>
        refine x_iload_n dX6_readText_62 rfl ?_
        refine (show X _ _ 63 _ _ _ _ _ _ from ?_)
        refine (show X _ _ 63 _ [.int (iI 0)] _ _ _ _ from ?_)
        refine y_if_eq 89 dX6_readText_63 (by decide) ⟨by omega, by omega⟩ (fun h2 => ?_) (fun h2 => ?_)
        · exact tl _ (.inl s) V' hr hvp
        · omega
      | inr s =>
        have hr0 := hr
        obtain ⟨hfr, hri⟩ := hr
        have hP := hvp s rfl
        obtain ⟨hcu, hF, hN, h01⟩ := hri
        have hkb := tkK_b t e s.2
        have hb := tk_b t hcu.2.1
        rw [pMore]
        refine x_iload_n dX6_readText_62 rfl ?_
        refine (show X _ _ 63 _ _ _ _ _ _ from ?_)
        refine (show X _ _ 63 _ [.int (iI 1)] _ _ _ _ from ?_)
        refine y_if_eq 89 dX6_readText_63 (by decide) ⟨by omega, by omega⟩ (fun h2 => ?_) (fun h2 => ?_)
        · omega
        refine x_aload_n dX6_readText_66 rfl ?_
        refine y_gi dX6_readText_67 fX6_38 (by first | assumption) (fun _ _ _ => rfl) ?_
        refine (show X _ _ 70 _ _ _ _ _ _ from ?_)
        refine X.val hcu.2.2.2.2.1 ?_
        refine y_iconst dX6_readText_70 ?_
        refine (show X _ _ 71 _ _ _ _ _ _ from ?_)
        refine y_icmp_ne 89 dX6_readText_71 (by decide) ⟨by omega, by omega⟩ ⟨by omega, by omega⟩ (fun h3 => ?_) (fun h3 => ?_)
        · rw [if_neg h3]
          exact tl _ (.inr s) V' hr0 hvp
        rw [if_pos h3]
        have ha := hadv V' (tkN t e s.2) hcu.2.2.2.1 hcu.2.2.1 (by omega) (by rw [hcu.1]; exact fun j hj => ht j (by omega))
        have hv := av_CU (V := V') (t := t) (i := tkN t e s.2) hcu.1 hcu.2.2.1 hcu.2.2.2.2.2.2.2.2 (by omega) he hne
        refine x_aload_n dX6_readText_74 rfl ?_
        refine (show X _ _ 75 _ _ _ _ _ _ from ?_)
        refine x_callV (As := []) (mc := 0) (ms := 0) (z := mX6_advance) (ci := 6) dX6_readText_75 lX6_82 oX6_advance (by decide) (by first | assumption) rfl rfl (Nat.le_of_ble_eq_true rfl) (Nat.le_of_ble_eq_true rfl) rfl (ha) (k_V ?_)
        refine (show X _ _ 78 _ _ _ _ _ _ from ?_)
        generalize avE V' rd tx e (tkN t e s.2) = U at *
        have hRI : RI t U s.1 rd tx q f e (tkN t e s.2) := ⟨hv.1, FC_eq hF hP.1 (fun b h1 h2 => hv.2.1 b (by omega)), NR_SF (a := q + 4) hN (SF_w SF_refl hv.2) (by omega) (by omega), (hv.2.2 1 (by omega)).trans h01⟩
        have hfU : FRM V' U rd q f := ⟨fun b h1 h2 h3 => hv.2.1 b h1, hv.2.2 4 (by omega), hv.1.2.2.2.2.2.2.2.2⟩
        refine x_aload_n dX6_readText_78 rfl ?_
        refine (show X _ _ 79 _ _ _ _ _ _ from ?_)
        refine x_callV (As := []) (mc := 0) (ms := 0) (z := mX6_readLine) (ci := 6) dX6_readText_79 lX6_85 oX6_readLine (by decide) (by first | assumption) rfl rfl (Nat.le_of_ble_eq_true rfl) (Nat.le_of_ble_eq_true rfl) rfl (hline U s.1 (tkN t e s.2) hP hRI) (fun v M1 hq => ?_)
        obtain ⟨V2, rfl, rfl, hrp⟩ := RQ_iff.mp hq
        refine (show X _ _ 82 _ [.int (iI (pv (pLine t e s.1 (tkN t e s.2))))] _ _ _ _ from ?_)
        refine x_istore_n dX6_readText_82 (by decide) rfl rfl ?_
        refine y_iinc dX6_readText_83 rfl (by decide) rfl rfl ?_
        refine x_goto 55 dX6_readText_86 (by decide) ?_
        refine (show X _ _ 55 _ _ _ _ _ _ from ?_)
        rw [ec]
        exact ih (c + 1) _ V2 (by omega) (RP_tr (FRM_tr hfr hfU) hrp) (fun s' hs' => (pLine_VP hP hs').1)
  refine x_aload_n dX6_readText_0 rfl ?_
  refine x_iload_n dX6_readText_1 rfl ?_
  refine x_aload_n dX6_readText_2 rfl ?_
  refine y_gi dX6_readText_3 fX6_29 (by first | assumption) (fun _ _ _ => rfl) ?_
  refine (show X _ _ 6 _ _ _ _ _ _ from ?_)
  refine X.val h4 ?_
  refine x_mmin dX6_readText_6 lX6_73 mminS mathI mminC (by decide) (Nat.le_of_ble_eq_true rfl) ?_
  refine (show X _ _ 9 _ _ _ _ _ _ from ?_)
  rw [if_neg (by rw [iI_lt ⟨by omega, by omega⟩ ⟨by omega, by omega⟩]; omega)]
  refine y_pi dX6_readText_9 (pX6_32 _) (by first | assumption) (fun _ _ _ => rfl) rfl rfl ?_
  refine x_aload_n dX6_readText_12 rfl ?_
  refine y_iconst dX6_readText_13 ?_
  refine y_pi dX6_readText_14 (pX6_29 _) (by first | assumption) (fun _ _ _ => rfl) rfl rfl ?_
  refine x_aload_n dX6_readText_17 rfl ?_
  refine y_iconst dX6_readText_18 ?_
  refine y_pi dX6_readText_19 (pX6_35 _) (by first | assumption) (fun _ _ _ => rfl) rfl rfl ?_
  refine x_aload_n dX6_readText_22 rfl ?_
  refine (show X _ _ 23 _ _ _ _ _ _ from ?_)
  refine y_iconst dX6_readText_23 ?_
  refine y_pi dX6_readText_24 (pX6_18 _) (by first | assumption) (fun _ _ _ => rfl) rfl rfl ?_
  refine x_aload_n dX6_readText_27 rfl ?_
  refine y_iconst dX6_readText_28 ?_
  refine y_pi dX6_readText_29 (pX6_22 _) (by first | assumption) (fun _ _ _ => rfl) rfl rfl ?_
  refine x_aload_n dX6_readText_32 rfl ?_
  refine y_iconst dX6_readText_33 ?_
  refine y_pi dX6_readText_34 (pX6_53 _) (by first | assumption) (fun _ _ _ => rfl) rfl rfl ?_
  refine (show X _ _ 37 _ _ _ _ _ _ from ?_)
  have eU : ∀ c, c ≠ 1 → c ≠ 2 → c ≠ 4 → c ≠ 5 → c ≠ 6 → c ≠ 12 → u2 (u2 (u2 (u2 (u2 (u2 V rd 5 (e : Int)) rd 4 0) rd 6 0) rd 1 0) rd 2 (-1)) rd 12 0 rd c = V rd c := fun c h1 h2 h3 h4 h5 h6 => by simp only [u2_ap]; (repeat' split) <;> first | rfl | omega
  have e5 : u2 (u2 (u2 (u2 (u2 (u2 V rd 5 (e : Int)) rd 4 0) rd 6 0) rd 1 0) rd 2 (-1)) rd 12 0 rd 5 = (e : Int) := by simp [u2_ap]
  have e4 : u2 (u2 (u2 (u2 (u2 (u2 V rd 5 (e : Int)) rd 4 0) rd 6 0) rd 1 0) rd 2 (-1)) rd 12 0 rd 4 = 0 := by simp [u2_ap]
  have e6 : u2 (u2 (u2 (u2 (u2 (u2 V rd 5 (e : Int)) rd 4 0) rd 6 0) rd 1 0) rd 2 (-1)) rd 12 0 rd 6 = 0 := by simp [u2_ap]
  have e1 : u2 (u2 (u2 (u2 (u2 (u2 V rd 5 (e : Int)) rd 4 0) rd 6 0) rd 1 0) rd 2 (-1)) rd 12 0 rd 1 = 0 := by simp [u2_ap]
  have e12 : u2 (u2 (u2 (u2 (u2 (u2 V rd 5 (e : Int)) rd 4 0) rd 6 0) rd 1 0) rd 2 (-1)) rd 12 0 rd 12 = 0 := by simp [u2_ap]
  have eo : ∀ b, b ≠ rd → u2 (u2 (u2 (u2 (u2 (u2 V rd 5 (e : Int)) rd 4 0) rd 6 0) rd 1 0) rd 2 (-1)) rd 12 0 b = V b := fun b h => by rw [u2_n h, u2_n h, u2_n h, u2_n h, u2_n h, u2_n h]
  generalize u2 (u2 (u2 (u2 (u2 (u2 V rd 5 (e : Int)) rd 4 0) rd 6 0) rd 1 0) rd 2 (-1)) rd 12 0 = U at *
  have e9 := eU 9 (by decide) (by decide) (by decide) (by decide) (by decide) (by decide)
  clear eU
  refine x_aload_n dX6_readText_37 rfl ?_
  refine x_gr dX6_readText_38 fX6_12 (by first | assumption) (fun _ _ _ => rfl) (by first | assumption) ?_
  refine (show X _ _ 41 _ _ _ _ _ _ from ?_)
  refine x_callV (As := []) (mc := 0) (ms := 0) (z := mX2_clear) (ci := 2) dX6_readText_41 lX6_79 oX2_clear (by decide) (by first | assumption) rfl rfl (Nat.le_of_ble_eq_true rfl) (Nat.le_of_ble_eq_true rfl) rfl (q_clear (g := g) (J := J) (z := z) (k := 0) (n := 0) (V := U) hFS) (fun v M1 hq => ?_)
  obtain ⟨rfl, V1, rfl, o1, o2, o3⟩ := hq
  refine (show X _ _ 44 _ [] _ _ _ _ from ?_)
  have er : V1 rd = U rd := o1 rd (by omega) (by omega)
  have et : V1 tx = t := by rw [o1 tx (by omega) (by omega), eo tx hne]; exact hV
  have ha := hadv V1 0 (by rw [er, e6]; rfl) (by rw [er]; exact e5) (by omega) (by rw [et]; exact fun j hj => ht j (by omega))
  have hv := av_CU (V := V1) (t := t) (i := 0) (e := e) et (by rw [er]; exact e5) (by rw [er, e9]; exact h9) (by omega) he hne
  refine x_aload_n dX6_readText_44 rfl ?_
  refine (show X _ _ 45 _ _ _ _ _ _ from ?_)
  refine x_callV (As := []) (mc := 0) (ms := 0) (z := mX6_advance) (ci := 6) dX6_readText_45 lX6_82 oX6_advance (by decide) (by first | assumption) rfl rfl (Nat.le_of_ble_eq_true rfl) (Nat.le_of_ble_eq_true rfl) rfl (ha) (k_V ?_)
  refine (show X _ _ 48 _ _ _ _ _ _ from ?_)
  generalize avE V1 rd tx e 0 = V2 at *
  have hF0 : FC V2 f A0 := FC_0 (fun c hc => by rw [hv.2.1 f (by omega)]; exact o2 c hc) (fun j hj => by rw [hv.2.1 (f + 44) (by omega)]; exact o3 j hj)
  have hRI : RI t V2 A0 rd tx q f e 0 := ⟨hv.1, hF0, ⟨(hv.2.2 12 (by omega)).trans (by rw [er]; exact e12), ⟨by decide, by decide⟩, fun k hk => absurd hk (by show ¬ k < 0; omega)⟩, (hv.2.2 1 (by omega)).trans (by rw [er]; exact e1)⟩
  have hfW : FRM W V2 rd q f := by
    subst hW
    refine ⟨fun b h1 h2 h3 => ?_, ?_, hv.1.2.2.2.2.2.2.2.2⟩
    · rw [hv.2.1 b h1, o1 b (by omega) (by omega), eo b h1, u2_n h1]
    · rw [hv.2.2 4 (by omega), er, e4, u2_s, u1_s]
  refine x_aload_n dX6_readText_48 rfl ?_
  refine (show X _ _ 49 _ _ _ _ _ _ from ?_)
  refine x_callV (As := []) (mc := 0) (ms := 0) (z := mX6_readLine) (ci := 6) dX6_readText_49 lX6_85 oX6_readLine (by decide) (by first | assumption) rfl rfl (Nat.le_of_ble_eq_true rfl) (Nat.le_of_ble_eq_true rfl) rfl (hline V2 A0 0 VP_0 hRI) (fun v M1 hq => ?_)
  obtain ⟨V3, rfl, rfl, hrp⟩ := RQ_iff.mp hq
  refine (show X _ _ 52 _ [.int (iI (pv (pLine t e A0 0)))] _ _ _ _ from ?_)
  refine x_istore_n dX6_readText_52 (by decide) rfl rfl ?_
  refine y_iconst dX6_readText_53 ?_
  refine x_istore_n dX6_readText_54 (by decide) rfl rfl ?_
  refine (show X _ _ 55 _ _ _ _ _ _ from ?_)
  exact lo 1100 0 _ V3 (by omega) (RP_tr hfW hrp) (fun s' hs' => (pLine_VP VP_0 hs').1)
end C55
