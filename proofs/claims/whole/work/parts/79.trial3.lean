/-! ===== the class's face: fits, seeds, firstSeed, mean ===== -/
def sdC (A B : Nat → Nat → Int) (m : Nat) : Int := lp m (fun v c => if dFit A (rn A B 3 (v : Int)) then c + 1 else c) 0
def sdF (A B : Nat → Nat → Int) : Nat → Bool := fun v => dFit A (rn A B 3 (v : Int))
def fitS (A B : Nat → Nat → Int) : Nat := sOf 5 (fun l => dFit A (rn A B (l : Int) (B 0 1)))
def meanS (A B : Nat → Nat → Int) (p : Nat) (sd : Int) (m : Nat) : Int := lp m (fun i s => s + rn A B 3 ((sd + (i : Int)) % 65537) 1 p) 0
section C79
variable {g : GG} {T : Nat → Nat × Nat} {V V' A B : Nat → Nat → Int} {R : Nat → Nat → Option Nat} {J : Nat → Nat → Int64} {z k n : Nat} {o fw fr : Nat} {σ : Nat → Nat} {t : Nat → Int} {tp : Nat} {h : Bool} {a m : Nat} {H K : Nat → Nat → Nat → Int} {wr pl tr : Int}
theorem f_fits (hI : CI T R V o fw fr σ t tp h A B a m H K wr pl tr) : X g mX10_fits 0 [.ref o, jk, jk] [] (T, iV V, R, J, z) k n (CQ T R J z V o (some (.int (iI (if h = true then (fitS A B : Int) else -1)))) t tp h A B a m H K wr pl (if h = true then 0 else 1)) := by
  have hI0 := hI
  obtain ⟨hC, ⟨p6, p7⟩, -, -, -, ⟨f1, f2, f3, f4⟩, -⟩ := hI
  have hrf := fun y => c_refuse (g := g) (J := J) (z := z) (k := 0) (n := 0) (V := V) (x := y) hC
  have hC0 := hC
  obtain ⟨⟨c0, c1, c2, -⟩, -, ⟨⟨w0, w1, w2, w3⟩, -, hNS, -⟩, -⟩ := hC
  have nn := hNS.1
  have h1 := f2.1 1 (by decide)
  refine x_aload_n dX10_fits_0 rfl ?_
  refine y_gi dX10_fits_1 fX10_53 (by first | assumption) (fun _ _ _ => rfl) ?_
  refine (show X _ _ 4 _ _ _ _ _ _ from ?_)
  refine X.val p6 ?_
  refine y_ifb_ne 13 dX10_fits_4 (by decide) (fun e => ?_) (fun e => ?_)
  rotate_left
  · rw [if_neg (by rw [e]; decide), if_neg (by rw [e]; decide)]
    refine x_aload_n dX10_fits_7 rfl ?_
    refine y_iconst dX10_fits_8 ?_
    refine (show X _ _ 9 _ _ _ _ _ _ from ?_)
    refine x_callV (As := [_]) (mc := 0) (ms := 0) (z := mX10_refuse) (ci := 10) dX10_fits_9 lX10_68 oX10_refuse (by decide) (by first | assumption) rfl rfl (Nat.le_of_ble_eq_true rfl) (Nat.le_of_ble_eq_true rfl) rfl (hrf _) (k_I ?_)
    refine (show X _ _ 12 _ _ _ _ _ _ from ?_)
    exact x_ireturn dX10_fits_12 rfl (CQ_tr hI0 _ _)
  rw [if_pos e, if_pos e]
  subst e
  have cm := fun (V' : Nat → Nat → Int) (hq : TQ V V' o) (lw : Int) (hl : 0 ≤ lw ∧ lw ≤ 4) => c_diariesFit (g := g) (J := J) (z := z) (k := 0) (n := 0) (lw := lw) (sd := B 0 1) (CI_tq hI0 hq) hl f4.2.1
  refine y_iconst dX10_fits_13 ?_
  refine x_istore_n dX10_fits_14 (by decide) rfl rfl ?_
  refine y_iconst dX10_fits_15 ?_
  refine x_istore_n dX10_fits_16 (by decide) rfl rfl ?_
  refine (show X _ _ 17 _ _ _ _ _ _ from ?_)
  refine loopN (P := fun i => ∀ V1, TQ V V1 o → X g mX10_fits 17 [.ref o, .int (iI ((sOf i (fun l => dFit A (rn A B (l : Int) (B 0 1))) : Nat) : Int)), .int (iI (i : Int))] [] (T, iV V1, R, J, z) k n (CQ T R J z V o (some (.int (iI (fitS A B : Int)))) t tp true A B a m H K wr pl 0)) 5 ?_ (fun i hi ih => ?_) V TQ_r
  · intro V1 hq
    have hgr := c_grant (g := g) (J := J) (z := z) (k := 0) (n := 0) (V := V1) (x := (fitS A B : Int)) hC0
    refine x_iload_n dX10_fits_17 rfl ?_
    refine y_iconst dX10_fits_18 ?_
    refine (show X _ _ 19 _ _ _ _ _ _ from ?_)
    refine y_icmp_ge 52 dX10_fits_19 (by decide) ⟨by omega, by omega⟩ ⟨by omega, by omega⟩ (fun h2 => ?_) (fun h2 => ?_)
    rotate_left
    · omega
    refine x_aload_n dX10_fits_52 rfl ?_
    refine x_iload_n dX10_fits_53 rfl ?_
    refine (show X _ _ 54 _ _ _ _ _ _ from ?_)
    refine x_callV (As := [_]) (mc := 0) (ms := 0) (z := mX10_grant) (ci := 10) dX10_fits_54 lX10_116 oX10_grant (by decide) (by first | assumption) rfl rfl (Nat.le_of_ble_eq_true rfl) (Nat.le_of_ble_eq_true rfl) rfl (hgr) (k_I ?_)
    refine (show X _ _ 57 _ _ _ _ _ _ from ?_)
    exact x_ireturn dX10_fits_57 rfl (CQ_tq hq (CQ_tr (CI_tq hI0 hq) _ _))
  · intro V1 hq0
    refine x_iload_n dX10_fits_17 rfl ?_
    refine y_iconst dX10_fits_18 ?_
    refine (show X _ _ 19 _ _ _ _ _ _ from ?_)
    refine y_icmp_ge 52 dX10_fits_19 (by decide) ⟨by omega, by omega⟩ ⟨by omega, by omega⟩ (fun h2 => ?_) (fun h2 => ?_)
    · omega
    refine x_aload_n dX10_fits_22 rfl ?_
    refine x_iload_n dX10_fits_23 rfl ?_
    refine x_aload_n dX10_fits_24 rfl ?_
    refine x_gr dX10_fits_25 fX10_19 (by first | assumption) (fun _ _ _ => rfl) (by first | assumption) ?_
    refine x_gr dX10_fits_28 fX10_81 (by first | assumption) (fun _ _ _ => rfl) (by first | assumption) ?_
    refine y_gi dX10_fits_31 fX10_237 (by first | assumption) (fun _ _ _ => rfl) ?_
    refine (show X _ _ 34 _ _ _ _ _ _ from ?_)
    refine X.val (b := B 0 1) (by rw [hq0 _ (by omega)]; exact h1) ?_
    refine x_callV (As := [_, _]) (mc := 0) (ms := 0) (z := mX10_diariesFit) (ci := 10) dX10_fits_34 lX10_240 oX10_diariesFit (by decide) (by first | assumption) rfl rfl (Nat.le_of_ble_eq_true rfl) (Nat.le_of_ble_eq_true rfl) rfl (cm V1 hq0 (i : Int) (by omega)) (fun v M1 hq => ?_)
    obtain ⟨rfl, V2, rfl, hq2⟩ := hq
    refine (show X _ _ 37 _ [.int (iI (bI (dFit A (rn A B (i : Int) (B 0 1)))))] _ _ _ _ from ?_)
    have ih := ih V2 (TQ_t hq0 hq2)
    have es : sOf (i + 1) (fun l => dFit A (rn A B (l : Int) (B 0 1))) = if dFit A (rn A B (i : Int) (B 0 1)) then sOf i (fun l => dFit A (rn A B (l : Int) (B 0 1))) ||| 2 ^ i else sOf i (fun l => dFit A (rn A B (l : Int) (B 0 1))) := rfl
    rw [es] at ih
    refine y_ifb_eq 46 dX10_fits_37 (by decide) (fun e => ?_) (fun e => ?_)
    · rw [if_neg (by rw [e]; decide)] at ih
      refine y_iinc dX10_fits_46 rfl (by decide) rfl rfl ?_
      refine x_goto 17 dX10_fits_49 (by decide) ?_
      refine (show X _ _ 17 _ _ _ _ _ _ from ?_)
      exact ih
    · rw [if_pos e] at ih
      refine x_iload_n dX10_fits_40 rfl ?_
      refine y_iconst dX10_fits_41 ?_
      refine x_iload_n dX10_fits_42 rfl ?_
      refine y_ishl (i) dX10_fits_43 (by first | rfl | omega) (by omega) ?_
      refine y_ior dX10_fits_44 ?_
      refine x_istore_n dX10_fits_45 (by decide) rfl rfl ?_
      refine y_iinc dX10_fits_46 rfl (by decide) rfl rfl ?_
      refine x_goto 17 dX10_fits_49 (by decide) ?_
      refine (show X _ _ 17 _ _ _ _ _ _ from ?_)
      exact ih
theorem f_seeds {x : Int} (hI : CI T R V o fw fr σ t tp h A B a m H K wr pl tr) (hx : R32 x) : X g mX10_seeds 0 [.ref o, .int (iI x), jk, jk, jk] [] (T, iV V, R, J, z) k n (CQ T R J z V o (some (.int (iI (if sTr h x = 0 then sdC A B x.toNat else -1)))) t tp h A B a m H K wr pl (sTr h x)) := by
  have hI0 := hI
  obtain ⟨hC, ⟨p6, p7⟩, -, -, -, ⟨f1, f2, f3, f4⟩, -⟩ := hI
  have hrf := fun y => c_refuse (g := g) (J := J) (z := z) (k := 0) (n := 0) (V := V) (x := y) hC
  have hst := c_seedsTrouble (g := g) (J := J) (z := z) (k := 0) (n := 0) (V := V) (y := x) hC p6 hx
  have hC0 := hC
  obtain ⟨⟨c0, c1, c2, -⟩, -⟩ := hC
  have hs3 : 0 ≤ sTr h x ∧ sTr h x ≤ 2 := by unfold sTr; split <;> (try split) <;> omega
  refine x_aload_n dX10_seeds_0 rfl ?_
  refine x_iload_n dX10_seeds_1 rfl ?_
  refine (show X _ _ 2 _ _ _ _ _ _ from ?_)
  refine x_callV (As := [_]) (mc := 0) (ms := 0) (z := mX10_seedsTrouble) (ci := 10) dX10_seeds_2 lX10_243 oX10_seedsTrouble (by decide) (by first | assumption) rfl rfl (Nat.le_of_ble_eq_true rfl) (Nat.le_of_ble_eq_true rfl) rfl (hst) (k_I ?_)
  refine (show X _ _ 5 _ _ _ _ _ _ from ?_)
  refine x_istore_n dX10_seeds_5 (by decide) rfl rfl ?_
  refine x_iload_n dX10_seeds_6 rfl ?_
  refine (show X _ _ 7 _ _ _ _ _ _ from ?_)
  refine y_if_eq 16 dX10_seeds_7 (by decide) ⟨by omega, by omega⟩ (fun e => ?_) (fun e => ?_)
  rotate_left
  · rw [if_neg e]
    refine x_aload_n dX10_seeds_10 rfl ?_
    refine x_iload_n dX10_seeds_11 rfl ?_
    refine (show X _ _ 12 _ _ _ _ _ _ from ?_)
    refine x_callV (As := [_]) (mc := 0) (ms := 0) (z := mX10_refuse) (ci := 10) dX10_seeds_12 lX10_68 oX10_refuse (by decide) (by first | assumption) rfl rfl (Nat.le_of_ble_eq_true rfl) (Nat.le_of_ble_eq_true rfl) rfl (hrf _) (k_I ?_)
    refine (show X _ _ 15 _ _ _ _ _ _ from ?_)
    exact x_ireturn dX10_seeds_15 rfl (CQ_tr hI0 _ _)
  rw [if_pos e, e]
  have e1 : h = true ∧ 1 ≤ x ∧ x ≤ 200 := by
    unfold sTr at e
    split at e
    · split at e
      · cases e
      · rename_i h1 h2; exact ⟨h1, by omega, by omega⟩
    · cases e
  obtain ⟨rfl, e2, e3⟩ := e1
  have cm := fun (V' : Nat → Nat → Int) (hq : TQ V V' o) (sd : Int) (hl : 0 ≤ sd ∧ sd ≤ 65536) => c_diariesFit (g := g) (J := J) (z := z) (k := 0) (n := 0) (lw := 3) (sd := sd) (CI_tq hI0 hq) (by omega) hl
  refine y_iconst dX10_seeds_16 ?_
  refine x_istore_n dX10_seeds_17 (by decide) rfl rfl ?_
  refine y_iconst dX10_seeds_18 ?_
  refine x_istore dX10_seeds_19 (by decide) rfl rfl ?_
  refine (show X _ _ 21 _ _ _ _ _ _ from ?_)
  refine loopN (P := fun i => ∀ V1, TQ V V1 o → X g mX10_seeds 21 [.ref o, .int (iI x), .int (iI 0), .int (iI (sdC A B i)), .int (iI (i : Int))] [] (T, iV V1, R, J, z) k n (CQ T R J z V o (some (.int (iI (sdC A B x.toNat)))) t tp true A B a m H K wr pl 0)) x.toNat ?_ (fun i hi ih => ?_) V TQ_r
  · intro V1 hq
    have hgr := c_grant (g := g) (J := J) (z := z) (k := 0) (n := 0) (V := V1) (x := sdC A B x.toNat) hC0
    refine x_iload dX10_seeds_21 rfl ?_
    refine x_iload_n dX10_seeds_23 rfl ?_
    refine (show X _ _ 24 _ _ _ _ _ _ from ?_)
    refine y_icmp_ge 46 dX10_seeds_24 (by decide) ⟨by omega, by omega⟩ ⟨by omega, by omega⟩ (fun h2 => ?_) (fun h2 => ?_)
    rotate_left
    · omega
    refine x_aload_n dX10_seeds_46 rfl ?_
    refine x_iload_n dX10_seeds_47 rfl ?_
    refine (show X _ _ 48 _ _ _ _ _ _ from ?_)
    refine x_callV (As := [_]) (mc := 0) (ms := 0) (z := mX10_grant) (ci := 10) dX10_seeds_48 lX10_116 oX10_grant (by decide) (by first | assumption) rfl rfl (Nat.le_of_ble_eq_true rfl) (Nat.le_of_ble_eq_true rfl) rfl (hgr) (k_I ?_)
    refine (show X _ _ 51 _ _ _ _ _ _ from ?_)
    exact x_ireturn dX10_seeds_51 rfl (CQ_tq hq (CQ_tr (CI_tq hI0 hq) _ _))
  · intro V1 hq0
    refine x_iload dX10_seeds_21 rfl ?_
    refine x_iload_n dX10_seeds_23 rfl ?_
    refine (show X _ _ 24 _ _ _ _ _ _ from ?_)
    refine y_icmp_ge 46 dX10_seeds_24 (by decide) ⟨by omega, by omega⟩ ⟨by omega, by omega⟩ (fun h2 => ?_) (fun h2 => ?_)
    · omega
    refine x_aload_n dX10_seeds_27 rfl ?_
    refine y_iconst dX10_seeds_28 ?_
    refine x_iload dX10_seeds_29 rfl ?_
    refine (show X _ _ 31 _ _ _ _ _ _ from ?_)
    refine x_callV (As := [_, _]) (mc := 0) (ms := 0) (z := mX10_diariesFit) (ci := 10) dX10_seeds_31 lX10_240 oX10_diariesFit (by decide) (by first | assumption) rfl rfl (Nat.le_of_ble_eq_true rfl) (Nat.le_of_ble_eq_true rfl) rfl (cm V1 hq0 (i : Int) (by omega)) (fun v M1 hq => ?_)
    obtain ⟨rfl, V2, rfl, hq2⟩ := hq
    refine (show X _ _ 34 _ [.int (iI (bI (dFit A (rn A B 3 (i : Int)))))] _ _ _ _ from ?_)
    have ih := ih V2 (TQ_t hq0 hq2)
    have es : sdC A B (i + 1) = if dFit A (rn A B 3 (i : Int)) then sdC A B i + 1 else sdC A B i := rfl
    rw [es] at ih
    refine y_ifb_eq 40 dX10_seeds_34 (by decide) (fun e => ?_) (fun e => ?_)
    · rw [if_neg (by rw [e]; decide)] at ih
      refine y_iinc dX10_seeds_40 rfl (by decide) rfl rfl ?_
      refine x_goto 21 dX10_seeds_43 (by decide) ?_
      refine (show X _ _ 21 _ _ _ _ _ _ from ?_)
      exact ih
    · rw [if_pos e] at ih
      refine y_iinc dX10_seeds_37 rfl (by decide) rfl rfl ?_
      refine y_iinc dX10_seeds_40 rfl (by decide) rfl rfl ?_
      refine x_goto 21 dX10_seeds_43 (by decide) ?_
      refine (show X _ _ 21 _ _ _ _ _ _ from ?_)
      exact ih
theorem f_firstSeed {x : Int} (hI : CI T R V o fw fr σ t tp h A B a m H K wr pl tr) (hx : R32 x) : X g mX10_firstSeed 0 [.ref o, .int (iI x), jk, jk] [] (T, iV V, R, J, z) k n (CQ T R J z V o (some (.int (iI (if sTr h x = 0 then fiC (sdF A B) x.toNat 0 else -1)))) t tp h A B a m H K wr pl (sTr h x)) := by
  have hI0 := hI
  obtain ⟨hC, ⟨p6, p7⟩, -, -, -, ⟨f1, f2, f3, f4⟩, -⟩ := hI
  have hrf := fun y => c_refuse (g := g) (J := J) (z := z) (k := 0) (n := 0) (V := V) (x := y) hC
  have hst := c_seedsTrouble (g := g) (J := J) (z := z) (k := 0) (n := 0) (V := V) (y := x) hC p6 hx
  have hC0 := hC
  obtain ⟨⟨c0, c1, c2, -⟩, -⟩ := hC
  have hs3 : 0 ≤ sTr h x ∧ sTr h x ≤ 2 := by unfold sTr; split <;> (try split) <;> omega
  refine x_aload_n dX10_firstSeed_0 rfl ?_
  refine x_iload_n dX10_firstSeed_1 rfl ?_
  refine (show X _ _ 2 _ _ _ _ _ _ from ?_)
  refine x_callV (As := [_]) (mc := 0) (ms := 0) (z := mX10_seedsTrouble) (ci := 10) dX10_firstSeed_2 lX10_243 oX10_seedsTrouble (by decide) (by first | assumption) rfl rfl (Nat.le_of_ble_eq_true rfl) (Nat.le_of_ble_eq_true rfl) rfl (hst) (k_I ?_)
  refine (show X _ _ 5 _ _ _ _ _ _ from ?_)
  refine x_istore_n dX10_firstSeed_5 (by decide) rfl rfl ?_
  refine x_iload_n dX10_firstSeed_6 rfl ?_
  refine (show X _ _ 7 _ _ _ _ _ _ from ?_)
  refine y_if_eq 16 dX10_firstSeed_7 (by decide) ⟨by omega, by omega⟩ (fun e => ?_) (fun e => ?_)
  rotate_left
  · rw [if_neg e]
    refine x_aload_n dX10_firstSeed_10 rfl ?_
    refine x_iload_n dX10_firstSeed_11 rfl ?_
    refine (show X _ _ 12 _ _ _ _ _ _ from ?_)
    refine x_callV (As := [_]) (mc := 0) (ms := 0) (z := mX10_refuse) (ci := 10) dX10_firstSeed_12 lX10_68 oX10_refuse (by decide) (by first | assumption) rfl rfl (Nat.le_of_ble_eq_true rfl) (Nat.le_of_ble_eq_true rfl) rfl (hrf _) (k_I ?_)
    refine (show X _ _ 15 _ _ _ _ _ _ from ?_)
    exact x_ireturn dX10_firstSeed_15 rfl (CQ_tr hI0 _ _)
  rw [if_pos e, e]
  have e1 : h = true ∧ 1 ≤ x ∧ x ≤ 200 := by
    unfold sTr at e
    split at e
    · split at e
      · cases e
      · rename_i h1 h2; exact ⟨h1, by omega, by omega⟩
    · cases e
  obtain ⟨rfl, e2, e3⟩ := e1
  have cm := fun (V' : Nat → Nat → Int) (hq : TQ V V' o) (sd : Int) (hl : 0 ≤ sd ∧ sd ≤ 65536) => c_diariesFit (g := g) (J := J) (z := z) (k := 0) (n := 0) (lw := 3) (sd := sd) (CI_tq hI0 hq) (by omega) hl
  refine y_iconst dX10_firstSeed_16 ?_
  refine x_istore_n dX10_firstSeed_17 (by decide) rfl rfl ?_
  refine (show X _ _ 18 _ _ _ _ _ _ from ?_)
  refine loopN (P := fun i => fiC (sdF A B) x.toNat 0 = fiC (sdF A B) (x.toNat - i) i → ∀ V1, TQ V V1 o → X g mX10_firstSeed 18 [.ref o, .int (iI x), .int (iI 0), .int (iI (i : Int))] [] (T, iV V1, R, J, z) k n (CQ T R J z V o (some (.int (iI (fiC (sdF A B) x.toNat 0)))) t tp true A B a m H K wr pl 0)) x.toNat ?_ (fun i hi ih => ?_) rfl V TQ_r
  · intro he V1 hq
    rw [he, Nat.sub_self]
    have hgr := c_grant (g := g) (J := J) (z := z) (k := 0) (n := 0) (V := V1) (x := -2) hC0
    refine x_iload_n dX10_firstSeed_18 rfl ?_
    refine x_iload_n dX10_firstSeed_19 rfl ?_
    refine (show X _ _ 20 _ _ _ _ _ _ from ?_)
    refine y_icmp_ge 44 dX10_firstSeed_20 (by decide) ⟨by omega, by omega⟩ ⟨by omega, by omega⟩ (fun h2 => ?_) (fun h2 => ?_)
    rotate_left
    · omega
    refine x_aload_n dX10_firstSeed_44 rfl ?_
    refine y_bipush dX10_firstSeed_45 rfl ?_
    refine (show X _ _ 47 _ _ _ _ _ _ from ?_)
    refine x_callV (As := [_]) (mc := 0) (ms := 0) (z := mX10_grant) (ci := 10) dX10_firstSeed_47 lX10_116 oX10_grant (by decide) (by first | assumption) rfl rfl (Nat.le_of_ble_eq_true rfl) (Nat.le_of_ble_eq_true rfl) rfl (hgr) (k_I ?_)
    refine (show X _ _ 50 _ _ _ _ _ _ from ?_)
    exact x_ireturn dX10_firstSeed_50 rfl (CQ_tq hq (CQ_tr (CI_tq hI0 hq) _ _))
  · intro he V1 hq0
    have es : fiC (sdF A B) (x.toNat - i) i = if sdF A B i then (i : Int) else fiC (sdF A B) (x.toNat - (i + 1)) (i + 1) := by
      rw [show x.toNat - i = (x.toNat - (i + 1)) + 1 by omega]; rfl
    refine x_iload_n dX10_firstSeed_18 rfl ?_
    refine x_iload_n dX10_firstSeed_19 rfl ?_
    refine (show X _ _ 20 _ _ _ _ _ _ from ?_)
    refine y_icmp_ge 44 dX10_firstSeed_20 (by decide) ⟨by omega, by omega⟩ ⟨by omega, by omega⟩ (fun h2 => ?_) (fun h2 => ?_)
    · omega
    refine x_aload_n dX10_firstSeed_23 rfl ?_
    refine y_iconst dX10_firstSeed_24 ?_
    refine x_iload_n dX10_firstSeed_25 rfl ?_
    refine (show X _ _ 26 _ _ _ _ _ _ from ?_)
    refine x_callV (As := [_, _]) (mc := 0) (ms := 0) (z := mX10_diariesFit) (ci := 10) dX10_firstSeed_26 lX10_240 oX10_diariesFit (by decide) (by first | assumption) rfl rfl (Nat.le_of_ble_eq_true rfl) (Nat.le_of_ble_eq_true rfl) rfl (cm V1 hq0 (i : Int) (by omega)) (fun v M1 hq => ?_)
    obtain ⟨rfl, V2, rfl, hq2⟩ := hq
    refine (show X _ _ 29 _ [.int (iI (bI (sdF A B i)))] _ _ _ _ from ?_)
    have hq3 := TQ_t hq0 hq2
    refine y_ifb_eq 38 dX10_firstSeed_29 (by decide) (fun e => ?_) (fun e => ?_)
    · rw [es, if_neg (by rw [e]; decide)] at he
      have ih := ih he V2 hq3
      refine y_iinc dX10_firstSeed_38 rfl (by decide) rfl rfl ?_
      refine x_goto 18 dX10_firstSeed_41 (by decide) ?_
      refine (show X _ _ 18 _ _ _ _ _ _ from ?_)
      exact ih
    · rw [es, if_pos e] at he
      rw [he]
      have hgr := c_grant (g := g) (J := J) (z := z) (k := 0) (n := 0) (V := V2) (x := (i : Int)) hC0
      refine x_aload_n dX10_firstSeed_32 rfl ?_
      refine x_iload_n dX10_firstSeed_33 rfl ?_
      refine (show X _ _ 34 _ _ _ _ _ _ from ?_)
      refine x_callV (As := [_]) (mc := 0) (ms := 0) (z := mX10_grant) (ci := 10) dX10_firstSeed_34 lX10_116 oX10_grant (by decide) (by first | assumption) rfl rfl (Nat.le_of_ble_eq_true rfl) (Nat.le_of_ble_eq_true rfl) rfl (hgr) (k_I ?_)
      refine (show X _ _ 37 _ _ _ _ _ _ from ?_)
      exact x_ireturn dX10_firstSeed_37 rfl (CQ_tq hq3 (CQ_tr (CI_tq hI0 hq3) _ _))
def meanOk (sd x : Int) : Prop := (0 ≤ sd ∧ sd < 65537) ∧ 1 ≤ x ∧ x ≤ 50
theorem f_mean0 {p sd x : Int} (hI : CI T R V o fw fr σ t tp h A B a m H K wr pl tr) (hp : R32 p) (hs : R32 sd) (hx : R32 x) (hb : ¬ (noP h A p = false ∧ meanOk sd x)) : X g mX10_mean 0 [.ref o, .int (iI p), .int (iI sd), .int (iI x), jk, jk] [] (T, iV V, R, J, z) k n (CQ T R J z V o (some (.int (iI (-1)))) t tp h A B a m H K wr pl (if noP h A p = true then 1 else 2)) := by
  have hI0 := hI
  obtain ⟨hC, ⟨p6, p7⟩, -, -, -, ⟨f1, f2, f3, f4⟩, -⟩ := hI
  have hrf := fun y => c_refuse (g := g) (J := J) (z := z) (k := 0) (n := 0) (V := V) (x := y) hC
  have hnp := c_isNoPerson (g := g) (J := J) (z := z) (k := 0) (n := 0) (p := p) hC p6 f1 f3 hp
  have hns := c_isNoSeed (g := g) (k := 0) (n := 0) (p := sd) (M := (T, iV V, R, J, z)) hs
  obtain ⟨⟨c0, c1, c2, -⟩, -⟩ := hC
  obtain ⟨hx1, hx2⟩ := hx
  refine x_aload_n dX10_mean_0 rfl ?_
  refine x_iload_n dX10_mean_1 rfl ?_
  refine (show X _ _ 2 _ _ _ _ _ _ from ?_)
  refine x_callV (As := [_]) (mc := 0) (ms := 0) (z := mX10_isNoPerson) (ci := 10) dX10_mean_2 lX10_109 oX10_isNoPerson (by decide) (by first | assumption) rfl rfl (Nat.le_of_ble_eq_true rfl) (Nat.le_of_ble_eq_true rfl) rfl (hnp) (k_I ?_)
  refine (show X _ _ 5 _ _ _ _ _ _ from ?_)
  refine y_ifb_eq 14 dX10_mean_5 (by decide) (fun e => ?_) (fun e => ?_)
  rotate_left
  · rw [if_pos e]
    refine x_aload_n dX10_mean_8 rfl ?_
    refine y_iconst dX10_mean_9 ?_
    refine (show X _ _ 10 _ _ _ _ _ _ from ?_)
    refine x_callV (As := [_]) (mc := 0) (ms := 0) (z := mX10_refuse) (ci := 10) dX10_mean_10 lX10_68 oX10_refuse (by decide) (by first | assumption) rfl rfl (Nat.le_of_ble_eq_true rfl) (Nat.le_of_ble_eq_true rfl) rfl (hrf _) (k_I ?_)
    refine (show X _ _ 13 _ _ _ _ _ _ from ?_)
    exact x_ireturn dX10_mean_13 rfl (CQ_tr hI0 _ _)
  rw [if_neg (by rw [e]; decide)]
  have t2 : X g mX10_mean 32 [.ref o, .int (iI p), .int (iI sd), .int (iI x), jk, jk] [] (T, iV V, R, J, z) k n (CQ T R J z V o (some (.int (iI (-1)))) t tp h A B a m H K wr pl 2) := by
    refine x_aload_n dX10_mean_32 rfl ?_
    refine y_iconst dX10_mean_33 ?_
    refine (show X _ _ 34 _ _ _ _ _ _ from ?_)
    refine x_callV (As := [_]) (mc := 0) (ms := 0) (z := mX10_refuse) (ci := 10) dX10_mean_34 lX10_68 oX10_refuse (by decide) (by first | assumption) rfl rfl (Nat.le_of_ble_eq_true rfl) (Nat.le_of_ble_eq_true rfl) rfl (hrf _) (k_I ?_)
    refine (show X _ _ 37 _ _ _ _ _ _ from ?_)
    exact x_ireturn dX10_mean_37 rfl (CQ_tr hI0 _ _)
  refine x_iload_n dX10_mean_14 rfl ?_
  refine (show X _ _ 15 _ _ _ _ _ _ from ?_)
  refine x_callS (As := [_]) (mc := 0) (ms := 0) (z := mX10_isNoSeed) dX10_mean_15 lX10_265 oX10_isNoSeed (by decide) rfl (Nat.le_of_ble_eq_true rfl) (Nat.le_of_ble_eq_true rfl) rfl (hns) (k_I ?_)
  refine (show X _ _ 18 _ _ _ _ _ _ from ?_)
  refine y_ifb_ne 32 dX10_mean_18 (by decide) (fun e1 => ?_) (fun e1 => ?_)
  · exact t2
  refine x_iload_n dX10_mean_21 rfl ?_
  refine y_iconst dX10_mean_22 ?_
  refine (show X _ _ 23 _ _ _ _ _ _ from ?_)
  refine y_icmp_lt 32 dX10_mean_23 (by decide) ⟨by omega, by omega⟩ ⟨by omega, by omega⟩ (fun e2 => ?_) (fun e2 => ?_)
  · exact t2
  refine x_iload_n dX10_mean_26 rfl ?_
  refine y_bipush dX10_mean_27 rfl ?_
  refine (show X _ _ 29 _ _ _ _ _ _ from ?_)
  refine y_icmp_le 38 dX10_mean_29 (by decide) ⟨by omega, by omega⟩ ⟨by omega, by omega⟩ (fun e3 => ?_) (fun e3 => ?_)
  · exact absurd ⟨e, Classical.byContradiction fun c => (of_decide_eq_false e1) c, e2, e3⟩ hb
  · exact t2
theorem f_mean {p sd x : Int} (hI : CI T R V o fw fr σ t tp h A B a m H K wr pl tr) (hp : R32 p) (b1 : noP h A p = false) (b2 : meanOk sd x) : X g mX10_mean 0 [.ref o, .int (iI p), .int (iI sd), .int (iI x), jk, jk] [] (T, iV V, R, J, z) k n (CQ T R J z V o (some (.int (iI (meanS A B p.toNat sd x.toNat)))) t tp h A B a m H K wr pl 0) := by
  obtain ⟨b3, b4, b5⟩ := b2
  have b6 := noP_f b1
  obtain ⟨rfl, b7, b8⟩ := b6
  have hI0 := hI
  obtain ⟨hC, ⟨p6, p7⟩, -, -, -, ⟨f1, f2, f3, f4⟩, -⟩ := hI
  have hnp := c_isNoPerson (g := g) (J := J) (z := z) (k := 0) (n := 0) (p := p) hC p6 f1 f3 hp
  have hns := c_isNoSeed (g := g) (k := 0) (n := 0) (p := sd) (M := (T, iV V, R, J, z)) ⟨by omega, by omega⟩
  have hC0 := hC
  obtain ⟨⟨c0, c1, c2, c3, c4, c5, c6⟩, -, hW, -, -, hRS, -⟩ := hC
  have hsep := hC0.2.2.2.2.2.2.2
  have hap : AP (o + 171) (o + 53) fw (o + 99) (o + 102) := ⟨by omega, by omega, by omega, by omega⟩
  have hA3 := f3.2.2.2.1
  have hpp : p.toNat < fP A := by show p.toNat < (A 0 3).toNat; omega
  have step : ∀ (V1 : Nat → Nat → Int) (hq : TQ V V1 o) (x0 : Int) (hx0 : 0 ≤ x0 ∧ x0 ≤ 65536), (X g mX8_begin 0 [.ref (o + 171), .int (iI 3), .int (iI x0), jk] [] (T, iV V1, R, J, z) 0 0 (rV (T, iV (pB V1 (o + 171) 5 (rBeg A (fun j => V1 (o + 171 + j)) 3 x0)), R, J, z))) ∧ (X g mX8_passYears 0 [.ref (o + 171), jk] [] (T, iV (pB V1 (o + 171) 5 (rBeg A (fun j => V1 (o + 171 + j)) 3 x0)), R, J, z) 0 0 (rV (T, iV (pB V1 (o + 171) 5 (runTo A B (rBeg A (fun j => V1 (o + 171 + j)) 3 x0) (fY A))), R, J, z))) := by
    intro V1 hq x0 hx0
    obtain ⟨-, -, -, -, -, ⟨q1, q2, q3, q4⟩, -, -, g1, -⟩ := CI_tq hI0 hq
    have hWC : WC V1 fw (o + 99) (o + 102) A B := ⟨q1, q2, (g1 rfl).2.1, q3, q4⟩
    have bg := c_begin (g := g) (J := J) (z := z) (k := 0) (n := 0) (V := V1) (W := fun j => V1 (o + 171 + j)) (lw := 3) (sd := x0) hRS hW hWC hap
    rw [pB_self (fun _ _ => rfl)] at bg
    exact ⟨bg, c_passYears hRS hW hWC hap (rBeg_ok f3 (by omega) hx0)⟩
  obtain ⟨⟨r0, r1⟩, ⟨r2, r3, r4, r5⟩, ⟨s1, s2, s3, s4⟩⟩ := hRS
  refine x_aload_n dX10_mean_0 rfl ?_
  refine x_iload_n dX10_mean_1 rfl ?_
  refine (show X _ _ 2 _ _ _ _ _ _ from ?_)
  refine x_callV (As := [_]) (mc := 0) (ms := 0) (z := mX10_isNoPerson) (ci := 10) dX10_mean_2 lX10_109 oX10_isNoPerson (by decide) (by first | assumption) rfl rfl (Nat.le_of_ble_eq_true rfl) (Nat.le_of_ble_eq_true rfl) rfl (hnp) (k_I ?_)
  refine (show X _ _ 5 _ _ _ _ _ _ from ?_)
  refine y_ifb_eq 14 dX10_mean_5 (by decide) (fun e => ?_) (fun e => ?_)
  rotate_left
  · rw [b1] at e; cases e
  refine x_iload_n dX10_mean_14 rfl ?_
  refine (show X _ _ 15 _ _ _ _ _ _ from ?_)
  refine x_callS (As := [_]) (mc := 0) (ms := 0) (z := mX10_isNoSeed) dX10_mean_15 lX10_265 oX10_isNoSeed (by decide) rfl (Nat.le_of_ble_eq_true rfl) (Nat.le_of_ble_eq_true rfl) rfl (hns) (k_I ?_)
  refine (show X _ _ 18 _ _ _ _ _ _ from ?_)
  refine y_ifb_ne 32 dX10_mean_18 (by decide) (fun e1 => ?_) (fun e1 => ?_)
  · exact absurd b3 (of_decide_eq_true e1)
  refine x_iload_n dX10_mean_21 rfl ?_
  refine y_iconst dX10_mean_22 ?_
  refine (show X _ _ 23 _ _ _ _ _ _ from ?_)
  refine y_icmp_lt 32 dX10_mean_23 (by decide) ⟨by omega, by omega⟩ ⟨by omega, by omega⟩ (fun e2 => ?_) (fun e2 => ?_)
  · omega
  refine x_iload_n dX10_mean_26 rfl ?_
  refine y_bipush dX10_mean_27 rfl ?_
  refine (show X _ _ 29 _ _ _ _ _ _ from ?_)
  refine y_icmp_le 38 dX10_mean_29 (by decide) ⟨by omega, by omega⟩ ⟨by omega, by omega⟩ (fun e3 => ?_) (fun e3 => ?_)
  rotate_left
  · omega
  refine y_iconst dX10_mean_38 ?_
  refine x_istore dX10_mean_39 (by decide) rfl rfl ?_
  refine y_iconst dX10_mean_41 ?_
  refine x_istore dX10_mean_42 (by decide) rfl rfl ?_
  refine (show X _ _ 44 _ _ _ _ _ _ from ?_)
  refine loopN (P := fun i => ∀ V1, TQ V V1 o → X g mX10_mean 44 [.ref o, .int (iI p), .int (iI sd), .int (iI x), .int (iI (meanS A B p.toNat sd i)), .int (iI (i : Int))] [] (T, iV V1, R, J, z) k n (CQ T R J z V o (some (.int (iI (meanS A B p.toNat sd x.toNat)))) t tp true A B a m H K wr pl 0)) x.toNat ?_ (fun i hi ih => ?_) V TQ_r
  · intro V1 hq
    have hgr := c_grant (g := g) (J := J) (z := z) (k := 0) (n := 0) (V := V1) (x := meanS A B p.toNat sd x.toNat) hC0
    refine x_iload dX10_mean_44 rfl ?_
    refine x_iload_n dX10_mean_46 rfl ?_
    refine (show X _ _ 47 _ _ _ _ _ _ from ?_)
    refine y_icmp_ge 93 dX10_mean_47 (by decide) ⟨by omega, by omega⟩ ⟨by omega, by omega⟩ (fun h2 => ?_) (fun h2 => ?_)
    rotate_left
    · omega
    refine x_aload_n dX10_mean_93 rfl ?_
    refine x_iload dX10_mean_94 rfl ?_
    refine (show X _ _ 96 _ _ _ _ _ _ from ?_)
    refine x_callV (As := [_]) (mc := 0) (ms := 0) (z := mX10_grant) (ci := 10) dX10_mean_96 lX10_116 oX10_grant (by decide) (by first | assumption) rfl rfl (Nat.le_of_ble_eq_true rfl) (Nat.le_of_ble_eq_true rfl) rfl (hgr) (k_I ?_)
    refine (show X _ _ 99 _ _ _ _ _ _ from ?_)
    exact x_ireturn dX10_mean_99 rfl (CQ_tq hq (CQ_tr (CI_tq hI0 hq) _ _))
  · intro V1 hq0
    obtain ⟨st1, st2⟩ := step V1 hq0 ((sd + (i : Int)) % 65537) (by omega)
    have hre := rn_eq (A := A) (B := B) (W := fun j => V1 (o + 171 + j)) (lw := 3) (sd := (sd + (i : Int)) % 65537) f3 f4 (by omega) (by omega)
    have ih := ih (pB V1 (o + 171) 5 (runTo A B (rBeg A (fun j => V1 (o + 171 + j)) 3 ((sd + (i : Int)) % 65537)) (fY A))) (TQ_t hq0 TQ_p)
    have es : meanS A B p.toNat sd (i + 1) = meanS A B p.toNat sd i + rn A B 3 ((sd + (i : Int)) % 65537) 1 p.toNat := rfl
    rw [es] at ih
    refine x_iload dX10_mean_44 rfl ?_
    refine x_iload_n dX10_mean_46 rfl ?_
    refine (show X _ _ 47 _ _ _ _ _ _ from ?_)
    refine y_icmp_ge 93 dX10_mean_47 (by decide) ⟨by omega, by omega⟩ ⟨by omega, by omega⟩ (fun h2 => ?_) (fun h2 => ?_)
    · omega
    refine x_aload_n dX10_mean_50 rfl ?_
    refine x_gr dX10_mean_51 fX10_42 (by first | assumption) (fun _ _ _ => rfl) (by first | assumption) ?_
    refine y_iconst dX10_mean_54 ?_
    refine x_iload_n dX10_mean_55 rfl ?_
    refine x_iload dX10_mean_56 rfl ?_
    refine y_iadd dX10_mean_58 ?_
    refine y_ldcw (65537) dX10_mean_59 kX10_268 rfl ?_
    refine y_irem dX10_mean_62 ⟨by omega, by omega⟩ ⟨by omega, by omega⟩ (by omega) (by omega) ?_
    refine (show X _ _ 63 _ _ _ _ _ _ from ?_)
    refine x_callV (As := [_, _]) (mc := 0) (ms := 0) (z := mX8_begin) (ci := 8) dX10_mean_63 lX10_269 oX8_begin (by decide) (by first | assumption) rfl rfl (Nat.le_of_ble_eq_true rfl) (Nat.le_of_ble_eq_true rfl) rfl (st1) (k_V ?_)
    refine (show X _ _ 66 _ _ _ _ _ _ from ?_)
    refine x_aload_n dX10_mean_66 rfl ?_
    refine x_gr dX10_mean_67 fX10_42 (by first | assumption) (fun _ _ _ => rfl) (by first | assumption) ?_
    refine (show X _ _ 70 _ _ _ _ _ _ from ?_)
    refine x_callV (As := []) (mc := 0) (ms := 0) (z := mX8_passYears) (ci := 8) dX10_mean_70 lX10_273 oX8_passYears (by decide) (by first | assumption) rfl rfl (Nat.le_of_ble_eq_true rfl) (Nat.le_of_ble_eq_true rfl) rfl (st2) (k_V ?_)
    refine (show X _ _ 73 _ _ _ _ _ _ from ?_)
    refine x_iload dX10_mean_73 rfl ?_
    refine x_aload_n dX10_mean_75 rfl ?_
    refine x_gr dX10_mean_76 fX10_42 (by first | assumption) (fun _ _ _ => rfl) (by first | assumption) ?_
    refine x_gr dX10_mean_79 fX10_276 (by first | assumption) (fun _ _ _ => rfl) (by first | assumption) ?_
    refine x_iload_n dX10_mean_82 rfl ?_
    refine y_iald (p.toNat) dX10_mean_83 (by first | assumption) (by first | rfl | omega) (by omega) (by decide) ?_
    refine (show X _ _ 84 _ _ _ _ _ _ from ?_)
    refine X.val (b := rn A B 3 ((sd + (i : Int)) % 65537) 1 p.toNat) (by rw [pB_at (by decide)]; exact RE_p hre (Or.inl rfl) hpp) ?_
    refine y_iadd dX10_mean_84 ?_
    refine x_istore dX10_mean_85 (by decide) rfl rfl ?_
    refine y_iinc dX10_mean_87 rfl (by decide) rfl rfl ?_
    refine x_goto 44 dX10_mean_90 (by decide) ?_
    refine (show X _ _ 44 _ _ _ _ _ _ from ?_)
    exact ih
end C79
