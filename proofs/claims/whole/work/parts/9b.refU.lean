/-! ===== the reference: the best trade, diaries, means ===== -/
def btR (A B : Nat → Nat → Int) (m : Nat) : Int × Int := lp m (fun p s => lp (fP A - (p + 1)) (btS A B p) s) (1, trd A B 0 1)
theorem btR_eq {A B : Nat → Nat → Int} (hA : VA A) (hB : VB A B) (hP : 2 ≤ fP A) : ∀ m, btR A B (m + 1) = bt A B (m + 1)
  | 0 => by
    show lp (fP A - 1) (btS A B 0) (1, trd A B 0 1) = lp (fP A - 1) (btS A B 0) (-1, 1000000000)
    have key : ∀ c, lp (c + 1) (btS A B 0) (1, trd A B 0 1) = lp (c + 1) (btS A B 0) (-1, 1000000000) := by
      intro c
      induction c with
      | zero =>
        show btS A B 0 0 (1, trd A B 0 1) = btS A B 0 0 (-1, 1000000000)
        have ht := trd_b (A := A) (B := B) (p := 0) (q := 1) hA hB
        unfold btS
        have e : ((0 : Nat) : Int) + 1 + ((0 : Nat) : Int) = 1 := rfl
        rw [e]
        show (if trd A B 0 1 < trd A B 0 1 then _ else _) = (if trd A B 0 1 < 1000000000 then _ else _)
        rw [if_neg (by omega), if_pos (by omega)]
        rfl
      | succ c ih => rw [lp_s, ih]; rfl
    rw [show fP A - 1 = (fP A - 2) + 1 by omega]
    exact key _
  | m + 1 => by
    show lp (fP A - (m + 1 + 1)) (btS A B (m + 1)) (btR A B (m + 1)) = lp (fP A - (m + 1 + 1)) (btS A B (m + 1)) (bt A B (m + 1))
    rw [btR_eq hA hB hP m]
theorem btR_b {A B : Nat → Nat → Int} (hA : VA A) (hB : VB A B) : ∀ i, -1000000 ≤ (btR A B i).2 ∧ (btR A B i).2 ≤ 1000000000
  | 0 => by have := trd_b (A := A) (B := B) (p := 0) (q := 1) hA hB; show -1000000 ≤ trd A B 0 1 ∧ trd A B 0 1 ≤ 1000000000; omega
  | i + 1 => bt_in hA hB (btR_b hA hB i) _
section C9b
variable {g : GG} {T : Nat → Nat × Nat} {V E A B Wi Ni : Nat → Nat → Int} {R : Nat → Nat → Option Nat} {J : Nat → Nat → Int64} {z k n : Nat} {r f : Nat} {t : Nat → Int} {tp : Nat} {h : Bool} {a m : Nat} {H K : Nat → Nat → Nat → Int} {wr pl tr : Int}
theorem k_bestTrade (hI : DI T R V r f E t tp h A B a m H K wr pl tr) : X g mX12_bestTrade 0 [.ref r, jk, jk, jk, jk, jk] [] (T, iV (pB V r 24 E), R, J, z) k n (DQ T R J z V r f (some (.int (iI (if h = true ∧ 2 ≤ A 0 3 then (bt A B (fP A)).1 else -1)))) t tp h A B a m H K wr pl (if h = true then (if 2 ≤ A 0 3 then 0 else 6) else 1)) := by
  have hM := hI.1
  have hI1 := DI_sc hI (Sc_th hI 0)
  have hrf := fun x => k_refused (g := g) (V := V) (E := u2 E 0 0 0) (J := J) (z := z) (k := 0) (n := 0) (x := x) hM
  obtain ⟨-, -, -, -, -, d1, d2⟩ := id hI
  cases h
  · have hn := (d1 rfl).1
    rw [if_neg (fun c => by cases c.1), if_neg (by decide)]
    obtain ⟨m0, -, -⟩ := id hM
    refine x_aload_n dX12_bestTrade_0 rfl ?_
    refine y_iconst dX12_bestTrade_1 ?_
    refine b_pi0 (r := r) (m := 24) dX12_bestTrade_2 (pX12_85 _) (by first | assumption) (fun _ _ _ => rfl) rfl rfl (by decide) ?_
    refine x_aload_n dX12_bestTrade_5 rfl ?_
    refine (show X _ _ 6 _ _ _ _ _ _ from ?_)
    refine x_gn dX12_bestTrade_6 fX12_409 (by first | assumption) (fun _ _ _ => rfl) (by first | assumption) ?_
    refine (show X _ _ 9 _ _ _ _ _ _ from ?_)
    refine x_ifnonnull_n dX12_bestTrade_9 ?_
    refine (show X _ _ 12 _ _ _ _ _ _ from ?_)
    refine x_aload_n dX12_bestTrade_12 rfl ?_
    refine y_iconst dX12_bestTrade_13 ?_
    refine (show X _ _ 14 _ _ _ _ _ _ from ?_)
    refine x_callV (As := [_]) (mc := 0) (ms := 0) (z := mX12_refused) (ci := 12) dX12_bestTrade_14 lX12_91 oX12_refused (by decide) (by first | assumption) rfl rfl (Nat.le_of_ble_eq_true rfl) (Nat.le_of_ble_eq_true rfl) rfl (hrf _) (k_I ?_)
    refine (show X _ _ 17 _ _ _ _ _ _ from ?_)
    exact x_ireturn dX12_bestTrade_17 rfl (DQ_tr hI1 1 (by decide) _)
  obtain ⟨⟨hf, hG, hF, hap⟩, ⟨hA, hB, -⟩, -⟩ := d2 rfl
  have eP := fP10 hA
  have hA3 := hA.2.2.2.1
  rw [if_pos rfl]
  have e3 := hF.1 3 (by decide)
  have hto := fun (E1 : Nat → Nat → Int) (hs : Sc (u2 E 0 0 0) E1) (p q : Int) hp hq hpq => k_tradeOf (g := g) (J := J) (z := z) (k := 0) (n := 0) (p := p) (q := q) (DI_sc hI1 hs) hp hq hpq
  obtain ⟨m0, -, -⟩ := id hM
  obtain ⟨g0, -, -⟩ := id hG
  unfold apF at hap
  refine x_aload_n dX12_bestTrade_0 rfl ?_
  refine y_iconst dX12_bestTrade_1 ?_
  refine b_pi0 (r := r) (m := 24) dX12_bestTrade_2 (pX12_85 _) (by first | assumption) (fun _ _ _ => rfl) rfl rfl (by decide) ?_
  refine x_aload_n dX12_bestTrade_5 rfl ?_
  refine x_gr dX12_bestTrade_6 fX12_409 (by first | assumption) (fun _ _ _ => rfl) (by first | assumption) ?_
  refine (show X _ _ 9 _ _ _ _ _ _ from ?_)
  refine x_ifnonnull_r 18 dX12_bestTrade_9 (by decide) ?_
  refine (show X _ _ 18 _ _ _ _ _ _ from ?_)
  refine x_aload_n dX12_bestTrade_18 rfl ?_
  refine x_gr dX12_bestTrade_19 fX12_409 (by first | assumption) (fun _ _ _ => rfl) (by first | assumption) ?_
  refine b_gio (r := r) (m := 24) dX12_bestTrade_22 fX12_230 (by first | assumption) (fun _ _ _ => rfl) (by omega) ?_
  refine (show X _ _ 25 _ _ _ _ _ _ from ?_)
  refine X.val e3 ?_
  refine y_iconst dX12_bestTrade_25 ?_
  refine (show X _ _ 26 _ _ _ _ _ _ from ?_)
  refine y_icmp_ge 36 dX12_bestTrade_26 (by decide) ⟨by omega, by omega⟩ ⟨by omega, by omega⟩ (fun c1 => ?_) (fun c1 => ?_)
  rotate_left
  · rw [if_neg (by omega), if_neg (by omega)]
    refine x_aload_n dX12_bestTrade_29 rfl ?_
    refine y_bipush dX12_bestTrade_30 rfl ?_
    refine (show X _ _ 32 _ _ _ _ _ _ from ?_)
    refine x_callV (As := [_]) (mc := 0) (ms := 0) (z := mX12_refused) (ci := 12) dX12_bestTrade_32 lX12_91 oX12_refused (by decide) (by first | assumption) rfl rfl (Nat.le_of_ble_eq_true rfl) (Nat.le_of_ble_eq_true rfl) rfl (hrf _) (k_I ?_)
    refine (show X _ _ 35 _ _ _ _ _ _ from ?_)
    exact x_ireturn dX12_bestTrade_35 rfl (DQ_tr hI1 6 (by decide) _)
  rw [if_pos ⟨rfl, c1⟩, if_pos c1]
  have ebt : btR A B (fP A) = bt A B (fP A) := by
    have := btR_eq (A := A) (B := B) hA hB (by omega) (fP A - 1)
    rw [show fP A - 1 + 1 = fP A by omega] at this
    exact this
  rw [← ebt]
  refine y_iconst dX12_bestTrade_36 ?_
  refine x_istore_n dX12_bestTrade_37 (by decide) rfl rfl ?_
  refine x_aload_n dX12_bestTrade_38 rfl ?_
  refine y_iconst dX12_bestTrade_39 ?_
  refine y_iconst dX12_bestTrade_40 ?_
  refine (show X _ _ 41 _ _ _ _ _ _ from ?_)
  refine x_callV (As := [_, _]) (mc := 0) (ms := 0) (z := mX12_tradeOf) (ci := 12) dX12_bestTrade_41 lX12_565 oX12_tradeOf (by decide) (by first | assumption) rfl rfl (Nat.le_of_ble_eq_true rfl) (Nat.le_of_ble_eq_true rfl) rfl (hto _ (Sc_r hI1) 0 1 (by omega) (by omega) (by decide)) (fun v M1 hq => ?_)
  obtain ⟨rfl, E1, rfl, hs1⟩ := hq
  refine (show X _ _ 44 _ [.int (iI (trd A B 0 1))] _ _ _ _ from ?_)
  refine x_istore_n dX12_bestTrade_44 (by decide) rfl rfl ?_
  refine y_iconst dX12_bestTrade_45 ?_
  refine x_istore_n dX12_bestTrade_46 (by decide) rfl rfl ?_
  refine (show X _ _ 47 _ _ _ _ _ _ from ?_)
  refine loopN (P := fun p => ∀ E1, Sc (u2 E 0 0 0) E1 → X g mX12_bestTrade 47 [.ref r, .int (iI (btR A B p).1), .int (iI (btR A B p).2), .int (iI (p : Int)), jk, jk] [] (T, iV (pB V r 24 E1), R, J, z) k n (DQ T R J z V r f (some (.int (iI (btR A B (fP A)).1))) t tp true A B a m H K wr pl 0)) (fP A) ?_ (fun p hp ih => ?_) E1 hs1
  · intro E1 hs1
    have hgo := k_good (g := g) (V := V) (E := E1) (J := J) (z := z) (k := 0) (n := 0) (x := (btR A B (fP A)).1) hM
    refine x_iload_n dX12_bestTrade_47 rfl ?_
    refine x_aload_n dX12_bestTrade_48 rfl ?_
    refine x_gr dX12_bestTrade_49 fX12_409 (by first | assumption) (fun _ _ _ => rfl) (by first | assumption) ?_
    refine b_gio (r := r) (m := 24) dX12_bestTrade_52 fX12_230 (by first | assumption) (fun _ _ _ => rfl) (by omega) ?_
    refine (show X _ _ 55 _ _ _ _ _ _ from ?_)
    refine X.val e3 ?_
    refine y_icmp_ge 116 dX12_bestTrade_55 (by decide) ⟨by omega, by omega⟩ ⟨by omega, by omega⟩ (fun h1 => ?_) (fun h1 => ?_)
    rotate_left
    · omega
    refine x_aload_n dX12_bestTrade_116 rfl ?_
    refine x_iload_n dX12_bestTrade_117 rfl ?_
    refine (show X _ _ 118 _ _ _ _ _ _ from ?_)
    refine x_callV (As := [_]) (mc := 0) (ms := 0) (z := mX12_good) (ci := 12) dX12_bestTrade_118 lX12_95 oX12_good (by decide) (by first | assumption) rfl rfl (Nat.le_of_ble_eq_true rfl) (Nat.le_of_ble_eq_true rfl) rfl (hgo) (k_I ?_)
    refine (show X _ _ 121 _ _ _ _ _ _ from ?_)
    exact x_ireturn dX12_bestTrade_121 rfl (DQ_tr (DI_sc hI1 hs1) 0 (by decide) _)
  · intro E1 hs1
    refine x_iload_n dX12_bestTrade_47 rfl ?_
    refine x_aload_n dX12_bestTrade_48 rfl ?_
    refine x_gr dX12_bestTrade_49 fX12_409 (by first | assumption) (fun _ _ _ => rfl) (by first | assumption) ?_
    refine b_gio (r := r) (m := 24) dX12_bestTrade_52 fX12_230 (by first | assumption) (fun _ _ _ => rfl) (by omega) ?_
    refine (show X _ _ 55 _ _ _ _ _ _ from ?_)
    refine X.val e3 ?_
    refine y_icmp_ge 116 dX12_bestTrade_55 (by decide) ⟨by omega, by omega⟩ ⟨by omega, by omega⟩ (fun h1 => ?_) (fun h1 => ?_)
    · omega
    refine x_iload_n dX12_bestTrade_58 rfl ?_
    refine y_iconst dX12_bestTrade_59 ?_
    refine y_iadd dX12_bestTrade_60 ?_
    refine x_istore dX12_bestTrade_61 (by decide) rfl rfl ?_
    refine (show X _ _ 63 _ _ _ _ _ _ from ?_)
    have hb0 := btR_b (A := A) (B := B) hA hB p
    have es : btR A B (p + 1) = lp (fP A - (p + 1)) (btS A B p) (btR A B p) := rfl
    rw [es] at ih
    generalize btR A B p = s0 at hb0 ih ⊢
    refine loopN (P := fun i => ∀ E1, Sc (u2 E 0 0 0) E1 → X g mX12_bestTrade 63 [.ref r, .int (iI (lp i (btS A B p) s0).1), .int (iI (lp i (btS A B p) s0).2), .int (iI (p : Int)), .int (iI ((p : Int) + 1 + i)), jk] [] (T, iV (pB V r 24 E1), R, J, z) k n (DQ T R J z V r f (some (.int (iI (btR A B (fP A)).1))) t tp true A B a m H K wr pl 0)) (fP A - (p + 1)) ?_ (fun i hi ih2 => ?_) E1 hs1
    · intro E1 hs1
      refine x_iload dX12_bestTrade_63 rfl ?_
      refine x_aload_n dX12_bestTrade_65 rfl ?_
      refine x_gr dX12_bestTrade_66 fX12_409 (by first | assumption) (fun _ _ _ => rfl) (by first | assumption) ?_
      refine b_gio (r := r) (m := 24) dX12_bestTrade_69 fX12_230 (by first | assumption) (fun _ _ _ => rfl) (by omega) ?_
      refine (show X _ _ 72 _ _ _ _ _ _ from ?_)
      refine X.val e3 ?_
      refine y_icmp_ge 110 dX12_bestTrade_72 (by decide) ⟨by omega, by omega⟩ ⟨by omega, by omega⟩ (fun h2 => ?_) (fun h2 => ?_)
      rotate_left
      · omega
      refine y_iinc dX12_bestTrade_110 rfl (by decide) rfl rfl ?_
      refine x_goto 47 dX12_bestTrade_113 (by decide) ?_
      refine (show X _ _ 47 _ _ _ _ _ _ from ?_)
      exact X.drop 4 rfl (ih E1 hs1)
    · intro E1 hs1
      have hb := bt_in (p := p) (B := B) hA hB hb0 i
      have hm := trd_b (A := A) (B := B) (p := (p : Int)) (q := (p : Int) + 1 + i) hA hB
      refine x_iload dX12_bestTrade_63 rfl ?_
      refine x_aload_n dX12_bestTrade_65 rfl ?_
      refine x_gr dX12_bestTrade_66 fX12_409 (by first | assumption) (fun _ _ _ => rfl) (by first | assumption) ?_
      refine b_gio (r := r) (m := 24) dX12_bestTrade_69 fX12_230 (by first | assumption) (fun _ _ _ => rfl) (by omega) ?_
      refine (show X _ _ 72 _ _ _ _ _ _ from ?_)
      refine X.val e3 ?_
      refine y_icmp_ge 110 dX12_bestTrade_72 (by decide) ⟨by omega, by omega⟩ ⟨by omega, by omega⟩ (fun h2 => ?_) (fun h2 => ?_)
      · omega
      refine x_aload_n dX12_bestTrade_75 rfl ?_
      refine x_iload_n dX12_bestTrade_76 rfl ?_
      refine x_iload dX12_bestTrade_77 rfl ?_
      refine (show X _ _ 79 _ _ _ _ _ _ from ?_)
      refine x_callV (As := [_, _]) (mc := 0) (ms := 0) (z := mX12_tradeOf) (ci := 12) dX12_bestTrade_79 lX12_565 oX12_tradeOf (by decide) (by first | assumption) rfl rfl (Nat.le_of_ble_eq_true rfl) (Nat.le_of_ble_eq_true rfl) rfl (hto E1 hs1 (p : Int) ((p : Int) + 1 + i) (by omega) (by omega) (by omega)) (fun v M1 hq => ?_)
      obtain ⟨rfl, E2, rfl, hs2⟩ := hq
      refine (show X _ _ 82 _ [.int (iI (trd A B (p : Int) ((p : Int) + 1 + i)))] _ _ _ _ from ?_)
      have ih2 := ih2 E2 (Sc_t hs1 hs2)
      rw [lp_s] at ih2
      generalize lp i (btS A B p) s0 = s at ih2 hb ⊢
      unfold btS at ih2
      refine x_istore dX12_bestTrade_82 (by decide) rfl rfl ?_
      refine x_iload dX12_bestTrade_84 rfl ?_
      refine x_iload_n dX12_bestTrade_86 rfl ?_
      refine (show X _ _ 87 _ _ _ _ _ _ from ?_)
      refine y_icmp_lt 93 dX12_bestTrade_87 (by decide) ⟨by omega, by omega⟩ ⟨by omega, by omega⟩ (fun h3 => ?_) (fun h3 => ?_)
      · rw [if_pos h3] at ih2
        refine y_bipush dX12_bestTrade_93 rfl ?_
        refine x_iload_n dX12_bestTrade_95 rfl ?_
        refine y_imul dX12_bestTrade_96 ?_
        refine x_iload dX12_bestTrade_97 rfl ?_
        refine y_iadd dX12_bestTrade_99 ?_
        refine x_istore_n dX12_bestTrade_100 (by decide) rfl rfl ?_
        refine x_iload dX12_bestTrade_101 rfl ?_
        refine x_istore_n dX12_bestTrade_103 (by decide) rfl rfl ?_
        refine (show X _ _ 104 _ _ _ _ _ _ from ?_)
        refine y_iinc dX12_bestTrade_104 rfl (by decide) rfl rfl ?_
        refine x_goto 63 dX12_bestTrade_107 (by decide) ?_
        refine (show X _ _ 63 _ _ _ _ _ _ from ?_)
        exact X.drop 5 rfl ih2
      · rw [if_neg (by omega)] at ih2
        refine x_goto 104 dX12_bestTrade_90 (by decide) ?_
        refine y_iinc dX12_bestTrade_104 rfl (by decide) rfl rfl ?_
        refine x_goto 63 dX12_bestTrade_107 (by decide) ?_
        refine (show X _ _ 63 _ _ _ _ _ _ from ?_)
        exact X.drop 5 rfl ih2
theorem k_fitsNow {W : Nat → Nat → Int} (hM : MSh T R r) (hf : R r 3 = some f) (hG : FMS T R f) (hF : FMC V f A) (hA : VA A) (hap : apF f r) (hE : ElM A E W (fY A)) : X g mX12_fitsNow 0 [.ref r, jk] [] (T, iV (pB V r 24 E), R, J, z) k n (rI (iI (bI (dFit A W))) (T, iV (pB V r 24 E), R, J, z)) := by
  have eY := fY24 hA
  have hA8 := hA.2.2.2.2.2.2.2.2.1
  have hA3 := hA.2.2.2.1
  have eD : ((fDi A : Nat) : Int) = A 0 8 := Int.toNat_of_nonneg hA8.1
  have hAd := hA.2.2.2.2.2.2.2.2.2.2.2.2.2.2
  have hFd := hF.2.2.2.2.2.2
  have e8 := hF.1 8 (by decide)
  obtain ⟨m0, ⟨-, -, -, -, m20, -, -, -, -, -, -, -, -, -, -, -, -, -, -, -, -, -, -⟩, ⟨-, -, -, -, mk5, -, -, -, -, -, -, -, -, -, -, -, -, -, -, -, -, -, -⟩⟩ := id hM
  obtain ⟨g0, ⟨-, -, -, -, -, -, -, -, -, -, -, -, -, -, -, -, -, g27, g28, g29, -, -, -⟩, ⟨-, -, -, -, -, -, -, -, -, -, -, -, -, -, -, -, -, gk18, gk19, gk20, -, -, -⟩⟩ := id hG
  unfold apF at hap
  refine y_iconst dX12_fitsNow_0 ?_
  refine x_istore_n dX12_fitsNow_1 (by decide) rfl rfl ?_
  refine (show X _ _ 2 _ _ _ _ _ _ from ?_)
  refine loopN (P := fun i => (∀ j, j < i → ((W 4 (A 18 j).toNat = A 19 j) ↔ A 20 j = 0)) → X g mX12_fitsNow 2 [.ref r, .int (iI (i : Int))] [] (T, iV (pB V r 24 E), R, J, z) k n (rI (iI (bI (dFit A W))) (T, iV (pB V r 24 E), R, J, z))) (fDi A) ?_ (fun i hi ih => ?_) (fun j hj => absurd hj (by omega))
  · intro hall
    rw [show dFit A W = true from decide_eq_true hall]
    refine x_iload_n dX12_fitsNow_2 rfl ?_
    refine x_aload_n dX12_fitsNow_3 rfl ?_
    refine x_gr dX12_fitsNow_4 fX12_409 (by first | assumption) (fun _ _ _ => rfl) (by first | assumption) ?_
    refine b_gio (r := r) (m := 24) dX12_fitsNow_7 fX12_390 (by first | assumption) (fun _ _ _ => rfl) (by omega) ?_
    refine (show X _ _ 10 _ _ _ _ _ _ from ?_)
    refine X.val e8 ?_
    refine y_icmp_ge 64 dX12_fitsNow_10 (by decide) ⟨by omega, by omega⟩ ⟨by omega, by omega⟩ (fun h1 => ?_) (fun h1 => ?_)
    rotate_left
    · omega
    refine y_iconst dX12_fitsNow_64 ?_
    refine (show X _ _ 65 _ _ _ _ _ _ from ?_)
    exact x_zreturn dX12_fitsNow_65 rfl rfl ⟨rfl, rfl⟩
  · intro hall
    have hd := hAd i hi
    obtain ⟨v18, v19, v20⟩ := hFd i hi
    have hwd : (A 18 i).toNat < fY A := by omega
    obtain ⟨d1, d2, d3⟩ := hE (A 18 i).toNat hwd
    have mid : ∀ w : Int, (w = 0 ∨ w = 1) → ((w = 1) ↔ W 4 (A 18 i).toNat = A 19 i) → X g mX12_fitsNow 44 [.ref r, .int (iI (i : Int))] [.int (iI w)] (T, iV (pB V r 24 E), R, J, z) k n (rI (iI (bI (dFit A W))) (T, iV (pB V r 24 E), R, J, z)) := by
      intro w hw01 hwi
      refine x_aload_n dX12_fitsNow_44 rfl ?_
      refine x_gr dX12_fitsNow_45 fX12_409 (by first | assumption) (fun _ _ _ => rfl) (by first | assumption) ?_
      refine x_gr dX12_fitsNow_48 fX12_399 (by first | assumption) (fun _ _ _ => rfl) (by first | assumption) ?_
      refine x_iload_n dX12_fitsNow_51 rfl ?_
      refine y_zald (i) dX12_fitsNow_52 (by first | assumption) (by first | rfl | omega) (by omega) (by decide) ?_
      refine (show X _ _ 53 _ _ _ _ _ _ from ?_)
      refine X.val (b := 1 - A 20 i) (by rw [pB_out (by omega)]; exact v20) ?_
      refine y_icmp_eq 58 dX12_fitsNow_53 (by decide) ⟨by omega, by omega⟩ ⟨by omega, by omega⟩ (fun h3 => ?_) (fun h3 => ?_)
      · refine y_iinc dX12_fitsNow_58 rfl (by decide) rfl rfl ?_
        refine x_goto 2 dX12_fitsNow_61 (by decide) ?_
        refine (show X _ _ 2 _ _ _ _ _ _ from ?_)
        refine ih (fun j hj => ?_)
        by_cases ej : j = i
        · subst ej
          constructor
          · intro c; have := hwi.mpr c; omega
          · intro c; exact hwi.mp (by omega)
        · exact hall j (by omega)
      · rw [show dFit A W = false from decide_eq_false (fun c => h3 (by
          have := c i hi
          rcases hw01 with e | e
          · have n1 : ¬ W 4 (A 18 i).toNat = A 19 i := fun d => by have := hwi.mpr d; omega
            have n2 : ¬ A 20 i = 0 := fun d => n1 (this.mpr d)
            omega
          · have n1 := hwi.mp e
            have n2 := this.mp n1
            omega))]
        refine y_iconst dX12_fitsNow_56 ?_
        refine (show X _ _ 57 _ _ _ _ _ _ from ?_)
        exact x_zreturn dX12_fitsNow_57 rfl rfl ⟨rfl, rfl⟩
    refine x_iload_n dX12_fitsNow_2 rfl ?_
    refine x_aload_n dX12_fitsNow_3 rfl ?_
    refine x_gr dX12_fitsNow_4 fX12_409 (by first | assumption) (fun _ _ _ => rfl) (by first | assumption) ?_
    refine b_gio (r := r) (m := 24) dX12_fitsNow_7 fX12_390 (by first | assumption) (fun _ _ _ => rfl) (by omega) ?_
    refine (show X _ _ 10 _ _ _ _ _ _ from ?_)
    refine X.val e8 ?_
    refine y_icmp_ge 64 dX12_fitsNow_10 (by decide) ⟨by omega, by omega⟩ ⟨by omega, by omega⟩ (fun h1 => ?_) (fun h1 => ?_)
    · omega
    refine x_aload_n dX12_fitsNow_13 rfl ?_
    refine x_gr dX12_fitsNow_14 fX12_27 (by first | assumption) (fun _ _ _ => rfl) (by first | assumption) ?_
    refine x_aload_n dX12_fitsNow_17 rfl ?_
    refine x_gr dX12_fitsNow_18 fX12_409 (by first | assumption) (fun _ _ _ => rfl) (by first | assumption) ?_
    refine x_gr dX12_fitsNow_21 fX12_393 (by first | assumption) (fun _ _ _ => rfl) (by first | assumption) ?_
    refine x_iload_n dX12_fitsNow_24 rfl ?_
    refine b_ialo (r := r) (m := 24) (i) dX12_fitsNow_25 (by first | assumption) (by first | rfl | omega) (by omega) (by decide) (by omega) ?_
    refine (show X _ _ 26 _ _ _ _ _ _ from ?_)
    refine X.val v18 ?_
    refine b_iald (r := r) (m := 24) (j := 5) ((A 18 i).toNat) dX12_fitsNow_26 (by first | assumption) (by first | rfl | omega) (by omega) (by decide) (by decide) ?_
    refine (show X _ _ 27 _ _ _ _ _ _ from ?_)
    refine X.val d1 ?_
    refine x_aload_n dX12_fitsNow_27 rfl ?_
    refine x_gr dX12_fitsNow_28 fX12_409 (by first | assumption) (fun _ _ _ => rfl) (by first | assumption) ?_
    refine x_gr dX12_fitsNow_31 fX12_396 (by first | assumption) (fun _ _ _ => rfl) (by first | assumption) ?_
    refine x_iload_n dX12_fitsNow_34 rfl ?_
    refine b_ialo (r := r) (m := 24) (i) dX12_fitsNow_35 (by first | assumption) (by first | rfl | omega) (by omega) (by decide) (by omega) ?_
    refine (show X _ _ 36 _ _ _ _ _ _ from ?_)
    refine X.val v19 ?_
    refine y_icmp_ne 43 dX12_fitsNow_36 (by decide) ⟨by omega, by omega⟩ ⟨by omega, by omega⟩ (fun h2 => ?_) (fun h2 => ?_)
    · refine y_iconst dX12_fitsNow_43 ?_
      refine (show X _ _ 44 _ _ _ _ _ _ from ?_)
      exact mid 0 (Or.inl rfl) ⟨fun c => absurd c (by decide), fun c => absurd c h2⟩
    · refine y_iconst dX12_fitsNow_39 ?_
      refine x_goto 44 dX12_fitsNow_40 (by decide) ?_
      refine (show X _ _ 44 _ _ _ _ _ _ from ?_)
      exact mid 1 (Or.inr rfl) ⟨fun _ => h2, fun _ => rfl⟩
theorem k_fits (hI : DI T R V r f E t tp h A B a m H K wr pl tr) : X g mX12_fits 0 [.ref r, jk, jk] [] (T, iV (pB V r 24 E), R, J, z) k n (DQ T R J z V r f (some (.int (iI (if h = true then (fitS A B : Int) else -1)))) t tp h A B a m H K wr pl (if h = true then 0 else 1)) := by
  have hM := hI.1
  have hI1 := DI_sc hI (Sc_th hI 0)
  have hrf := fun x => k_refused (g := g) (V := V) (E := u2 E 0 0 0) (J := J) (z := z) (k := 0) (n := 0) (x := x) hM
  obtain ⟨-, -, -, -, -, d1, d2⟩ := id hI
  cases h
  · have hn := (d1 rfl).1
    rw [if_neg (by decide), if_neg (by decide)]
    obtain ⟨m0, ⟨-, m15, -, -, -, -, -, -, -, -, -, -, -, -, -, -, -, -, -, -, -, -, -⟩, ⟨-, mk2, -, -, -, -, -, -, -, -, -, -, -, -, -, -, -, -, -, -, -, -, -⟩⟩ := id hM
    refine x_aload_n dX12_fits_0 rfl ?_
    refine y_iconst dX12_fits_1 ?_
    refine b_pi0 (r := r) (m := 24) dX12_fits_2 (pX12_85 _) (by first | assumption) (fun _ _ _ => rfl) rfl rfl (by decide) ?_
    refine x_aload_n dX12_fits_5 rfl ?_
    refine (show X _ _ 6 _ _ _ _ _ _ from ?_)
    refine x_gn dX12_fits_6 fX12_409 (by first | assumption) (fun _ _ _ => rfl) (by first | assumption) ?_
    refine (show X _ _ 9 _ _ _ _ _ _ from ?_)
    refine x_ifnonnull_n dX12_fits_9 ?_
    refine (show X _ _ 12 _ _ _ _ _ _ from ?_)
    refine x_aload_n dX12_fits_12 rfl ?_
    refine y_iconst dX12_fits_13 ?_
    refine (show X _ _ 14 _ _ _ _ _ _ from ?_)
    refine x_callV (As := [_]) (mc := 0) (ms := 0) (z := mX12_refused) (ci := 12) dX12_fits_14 lX12_91 oX12_refused (by decide) (by first | assumption) rfl rfl (Nat.le_of_ble_eq_true rfl) (Nat.le_of_ble_eq_true rfl) rfl (hrf _) (k_I ?_)
    refine (show X _ _ 17 _ _ _ _ _ _ from ?_)
    exact x_ireturn dX12_fits_17 rfl (DQ_tr hI1 1 (by decide) _)
  obtain ⟨⟨hf, hG, hF, hap⟩, ⟨hA, hB, -⟩, -⟩ := d2 rfl
  rw [if_pos rfl, if_pos rfl]
  have hrb := fun (E1 : Nat → Nat → Int) (hs : Sc (u2 E 0 0 0) E1) (lw : Int) hl => k_runsBy (g := g) (J := J) (z := z) (k := 0) (n := 0) (Wi := A0) (Ni := A0) (lw := lw) (sd := B 0 1) (DI_sc hI1 hs) hl hB.2.1 NOk_0
  obtain ⟨m0, ⟨-, m15, -, -, -, -, -, -, -, -, -, -, -, -, -, -, -, -, -, -, -, -, -⟩, ⟨-, mk2, -, -, -, -, -, -, -, -, -, -, -, -, -, -, -, -, -, -, -, -, -⟩⟩ := id hM
  refine x_aload_n dX12_fits_0 rfl ?_
  refine y_iconst dX12_fits_1 ?_
  refine b_pi0 (r := r) (m := 24) dX12_fits_2 (pX12_85 _) (by first | assumption) (fun _ _ _ => rfl) rfl rfl (by decide) ?_
  refine x_aload_n dX12_fits_5 rfl ?_
  refine x_gr dX12_fits_6 fX12_409 (by first | assumption) (fun _ _ _ => rfl) (by first | assumption) ?_
  refine (show X _ _ 9 _ _ _ _ _ _ from ?_)
  refine x_ifnonnull_r 18 dX12_fits_9 (by decide) ?_
  refine (show X _ _ 18 _ _ _ _ _ _ from ?_)
  refine y_iconst dX12_fits_18 ?_
  refine x_istore_n dX12_fits_19 (by decide) rfl rfl ?_
  refine y_iconst dX12_fits_20 ?_
  refine x_istore_n dX12_fits_21 (by decide) rfl rfl ?_
  refine (show X _ _ 22 _ _ _ _ _ _ from ?_)
  refine loopN (P := fun i => ∀ E1, Sc (u2 E 0 0 0) E1 → X g mX12_fits 22 [.ref r, .int (iI ((sOf i (fun l => dFit A (rn A B (l : Int) (B 0 1))) : Nat) : Int)), .int (iI (i : Int))] [] (T, iV (pB V r 24 E1), R, J, z) k n (DQ T R J z V r f (some (.int (iI (fitS A B : Int)))) t tp true A B a m H K wr pl 0)) 5 ?_ (fun i hi ih => ?_) _ (Sc_r hI1)
  · intro E1 hs1
    have hgo := k_good (g := g) (V := V) (E := E1) (J := J) (z := z) (k := 0) (n := 0) (x := (fitS A B : Int)) hM
    refine x_iload_n dX12_fits_22 rfl ?_
    refine y_iconst dX12_fits_23 ?_
    refine (show X _ _ 24 _ _ _ _ _ _ from ?_)
    refine y_icmp_ge 61 dX12_fits_24 (by decide) ⟨by omega, by omega⟩ ⟨by omega, by omega⟩ (fun h2 => ?_) (fun h2 => ?_)
    rotate_left
    · omega
    refine x_aload_n dX12_fits_61 rfl ?_
    refine x_iload_n dX12_fits_62 rfl ?_
    refine (show X _ _ 63 _ _ _ _ _ _ from ?_)
    refine x_callV (As := [_]) (mc := 0) (ms := 0) (z := mX12_good) (ci := 12) dX12_fits_63 lX12_95 oX12_good (by decide) (by first | assumption) rfl rfl (Nat.le_of_ble_eq_true rfl) (Nat.le_of_ble_eq_true rfl) rfl (hgo) (k_I ?_)
    refine (show X _ _ 66 _ _ _ _ _ _ from ?_)
    exact x_ireturn dX12_fits_66 rfl (DQ_tr (DI_sc hI1 hs1) 0 (by decide) _)
  · intro E1 hs1
    have hI2 := DI_sc hI1 hs1
    have hv1 := (hI2.2.2.2.2.2.2 rfl).2.2.1
    refine x_iload_n dX12_fits_22 rfl ?_
    refine y_iconst dX12_fits_23 ?_
    refine (show X _ _ 24 _ _ _ _ _ _ from ?_)
    refine y_icmp_ge 61 dX12_fits_24 (by decide) ⟨by omega, by omega⟩ ⟨by omega, by omega⟩ (fun h2 => ?_) (fun h2 => ?_)
    · omega
    refine x_aload_n dX12_fits_27 rfl ?_
    refine x_iload_n dX12_fits_28 rfl ?_
    refine x_aload_n dX12_fits_29 rfl ?_
    refine x_gr dX12_fits_30 fX12_17 (by first | assumption) (fun _ _ _ => rfl) (by first | assumption) ?_
    refine y_iconst dX12_fits_33 ?_
    refine b_iald (r := r) (m := 24) (j := 2) (1) dX12_fits_34 (by first | assumption) (by first | rfl | omega) (by omega) (by decide) (by decide) ?_
    refine (show X _ _ 35 _ _ _ _ _ _ from ?_)
    refine X.val hv1.2.1 ?_
    refine x_callV (As := [_, _]) (mc := 0) (ms := 0) (z := mX12_runsBy) (ci := 12) dX12_fits_35 lX12_417 oX12_runsBy (by decide) (by first | assumption) rfl rfl (Nat.le_of_ble_eq_true rfl) (Nat.le_of_ble_eq_true rfl) rfl (hrb E1 hs1 (i : Int) (by omega)) (fun v M1 hq => ?_)
    obtain ⟨rfl, E2, rfl, hq⟩ := hq
    refine (show X _ _ 38 _ [] _ _ _ _ from ?_)
    have hs2 := Sc_t hs1 (RnQ_sc hI2 hq)
    obtain ⟨⟨hRM, -⟩, -⟩ := hq
    have hfn := k_fitsNow (g := g) (J := J) (z := z) (k := 0) (n := 0) hM hf hG hF hA hap hRM.2.2.2.2.1
    have ih := ih E2 hs2
    have es : sOf (i + 1) (fun l => dFit A (rn A B (l : Int) (B 0 1))) = if dFit A (rn A B (i : Int) (B 0 1)) then sOf i (fun l => dFit A (rn A B (l : Int) (B 0 1))) ||| 2 ^ i else sOf i (fun l => dFit A (rn A B (l : Int) (B 0 1))) := rfl
    rw [es] at ih
    have hfn : X g mX12_fitsNow 0 [.ref r, jk] [] (T, iV (pB V r 24 E2), R, J, z) 0 0 (rI (iI (bI (dFit A (rn A B (i : Int) (B 0 1))))) (T, iV (pB V r 24 E2), R, J, z)) := hfn
    refine x_iload_n dX12_fits_38 rfl ?_
    refine x_aload_n dX12_fits_39 rfl ?_
    refine (show X _ _ 40 _ _ _ _ _ _ from ?_)
    refine x_callV (As := []) (mc := 0) (ms := 0) (z := mX12_fitsNow) (ci := 12) dX12_fits_40 lX12_568 oX12_fitsNow (by decide) (by first | assumption) rfl rfl (Nat.le_of_ble_eq_true rfl) (Nat.le_of_ble_eq_true rfl) rfl (hfn) (k_I ?_)
    refine (show X _ _ 43 _ _ _ _ _ _ from ?_)
    refine y_ifb_eq 52 dX12_fits_43 (by decide) (fun e => ?_) (fun e => ?_)
    · rw [if_neg (by rw [e]; decide)] at ih
      refine y_iconst dX12_fits_52 ?_
      refine (show X _ _ 53 _ _ _ _ _ _ from ?_)
      refine y_ior (b := 0) dX12_fits_53 ?_
      rw [Nat.or_zero]
      refine x_istore_n dX12_fits_54 (by decide) rfl rfl ?_
      refine y_iinc dX12_fits_55 rfl (by decide) rfl rfl ?_
      refine x_goto 22 dX12_fits_58 (by decide) ?_
      refine (show X _ _ 22 _ _ _ _ _ _ from ?_)
      exact ih
    · rw [if_pos e] at ih
      refine y_iconst dX12_fits_46 ?_
      refine x_iload_n dX12_fits_47 rfl ?_
      refine y_ishl (i) dX12_fits_48 (by first | rfl | omega) (by omega) ?_
      refine x_goto 53 dX12_fits_49 (by decide) ?_
      refine y_ior dX12_fits_53 ?_
      refine x_istore_n dX12_fits_54 (by decide) rfl rfl ?_
      refine y_iinc dX12_fits_55 rfl (by decide) rfl rfl ?_
      refine x_goto 22 dX12_fits_58 (by decide) ?_
      refine (show X _ _ 22 _ _ _ _ _ _ from ?_)
      exact ih
theorem k_fitting {x : Nat} (hI : DI T R V r f E t tp true A B a m H K wr pl tr) (hx : x ≤ 200) : X g mX12_fitting 0 [.ref r, .int (iI (x : Int)), jk, jk] [] (T, iV (pB V r 24 E), R, J, z) k n (fun v M => v = some (.int (iI (sdC A B x))) ∧ ∃ E', M = (T, iV (pB V r 24 E'), R, J, z) ∧ Sc E E' ∧ E' 0 52 = fiC (sdF A B) x 0) := by
  have hM := hI.1
  obtain ⟨⟨hf, hG, hF, hap⟩, ⟨hA, hB, -⟩, -⟩ := hI.2.2.2.2.2.2 rfl
  have hrb := fun (E1 : Nat → Nat → Int) (hs : Sc E E1) (sd : Int) hl => k_runsBy (g := g) (J := J) (z := z) (k := 0) (n := 0) (Wi := A0) (Ni := A0) (lw := 3) (sd := sd) (DI_sc hI hs) (by omega) hl NOk_0
  obtain ⟨m0, -, -⟩ := id hM
  have s0 : Sc E (u2 E 0 52 (-2)) := ⟨fun b hb => u2_n (by omega), fun c hc => by rw [u2_s, u1_n (by omega)], by rw [u2_s, u1_n (by decide)]; exact hI.2.2.2.2.1⟩
  refine y_iconst dX12_fitting_0 ?_
  refine x_istore_n dX12_fitting_1 (by decide) rfl rfl ?_
  refine x_aload_n dX12_fitting_2 rfl ?_
  refine y_bipush dX12_fitting_3 rfl ?_
  refine b_pi0 (r := r) (m := 24) dX12_fitting_5 (pX12_571 _) (by first | assumption) (fun _ _ _ => rfl) rfl rfl (by decide) ?_
  refine y_iconst dX12_fitting_8 ?_
  refine x_istore_n dX12_fitting_9 (by decide) rfl rfl ?_
  refine (show X _ _ 10 _ _ _ _ _ _ from ?_)
  refine loopN (P := fun i => ∀ E1, Sc E E1 → (-2 ≤ E1 0 52 ∧ E1 0 52 ≤ 200) → (if E1 0 52 = -2 then fiC (sdF A B) x 0 = fiC (sdF A B) (x - i) i else E1 0 52 = fiC (sdF A B) x 0) → X g mX12_fitting 10 [.ref r, .int (iI (x : Int)), .int (iI (sdC A B i)), .int (iI (i : Int))] [] (T, iV (pB V r 24 E1), R, J, z) k n (fun v M => v = some (.int (iI (sdC A B x))) ∧ ∃ E', M = (T, iV (pB V r 24 E'), R, J, z) ∧ Sc E E' ∧ E' 0 52 = fiC (sdF A B) x 0)) x ?_ (fun i hi ih => ?_) _ s0 (by rw [u2_s, u1_s]; omega) (by rw [u2_s, u1_s, if_pos rfl]; rfl)
  · intro E1 hs1 hb hc
    refine x_iload_n dX12_fitting_10 rfl ?_
    refine x_iload_n dX12_fitting_11 rfl ?_
    refine (show X _ _ 12 _ _ _ _ _ _ from ?_)
    refine y_icmp_ge 54 dX12_fitting_12 (by decide) ⟨by omega, by omega⟩ ⟨by omega, by omega⟩ (fun h1 => ?_) (fun h1 => ?_)
    rotate_left
    · omega
    refine x_iload_n dX12_fitting_54 rfl ?_
    refine (show X _ _ 55 _ _ _ _ _ _ from ?_)
    refine x_ireturn dX12_fitting_55 rfl ⟨rfl, E1, rfl, hs1, ?_⟩
    by_cases c : E1 0 52 = -2
    · rw [if_pos c, Nat.sub_self] at hc
      rw [c, hc]; rfl
    · rw [if_neg c] at hc; exact hc
  · intro E1 hs1 hb hc
    have hI2 := DI_sc hI hs1
    have es : sdC A B (i + 1) = if dFit A (rn A B 3 (i : Int)) then sdC A B i + 1 else sdC A B i := rfl
    have ef : fiC (sdF A B) (x - i) i = if sdF A B i then (i : Int) else fiC (sdF A B) (x - (i + 1)) (i + 1) := by
      rw [show x - i = (x - (i + 1)) + 1 by omega]; rfl
    rw [es] at ih
    refine x_iload_n dX12_fitting_10 rfl ?_
    refine x_iload_n dX12_fitting_11 rfl ?_
    refine (show X _ _ 12 _ _ _ _ _ _ from ?_)
    refine y_icmp_ge 54 dX12_fitting_12 (by decide) ⟨by omega, by omega⟩ ⟨by omega, by omega⟩ (fun h1 => ?_) (fun h1 => ?_)
    · omega
    refine x_aload_n dX12_fitting_15 rfl ?_
    refine y_iconst dX12_fitting_16 ?_
    refine x_iload_n dX12_fitting_17 rfl ?_
    refine (show X _ _ 18 _ _ _ _ _ _ from ?_)
    refine x_callV (As := [_, _]) (mc := 0) (ms := 0) (z := mX12_runsBy) (ci := 12) dX12_fitting_18 lX12_417 oX12_runsBy (by decide) (by first | assumption) rfl rfl (Nat.le_of_ble_eq_true rfl) (Nat.le_of_ble_eq_true rfl) rfl (hrb E1 hs1 (i : Int) (by omega)) (fun v M1 hq => ?_)
    obtain ⟨rfl, E2, rfl, hq⟩ := hq
    refine (show X _ _ 21 _ [] _ _ _ _ from ?_)
    have hs2 := Sc_t hs1 (RnQ_sc hI2 hq)
    obtain ⟨⟨hRM, -, -, -, -, hr0⟩, -⟩ := hq
    have e52 : E2 0 52 = E1 0 52 := by rw [hr0 52 (by decide) (by decide) (by decide) (by decide) (by decide) (by decide), u2_s, u1_n (by decide), u2_s, u1_n (by decide)]
    have hfn : X g mX12_fitsNow 0 [.ref r, jk] [] (T, iV (pB V r 24 E2), R, J, z) 0 0 (rI (iI (bI (sdF A B i))) (T, iV (pB V r 24 E2), R, J, z)) := k_fitsNow (g := g) (J := J) (z := z) (k := 0) (n := 0) hM hf hG hF hA hap hRM.2.2.2.2.1
    have esd : dFit A (rn A B 3 (i : Int)) = sdF A B i := rfl
    rw [esd] at ih
    refine x_aload_n dX12_fitting_21 rfl ?_
    refine (show X _ _ 22 _ _ _ _ _ _ from ?_)
    refine x_callV (As := []) (mc := 0) (ms := 0) (z := mX12_fitsNow) (ci := 12) dX12_fitting_22 lX12_568 oX12_fitsNow (by decide) (by first | assumption) rfl rfl (Nat.le_of_ble_eq_true rfl) (Nat.le_of_ble_eq_true rfl) rfl (hfn) (k_I ?_)
    refine (show X _ _ 25 _ _ _ _ _ _ from ?_)
    refine y_ifb_ne 31 dX12_fitting_25 (by decide) (fun e => ?_) (fun e => ?_)
    rotate_left
    · rw [if_neg (by rw [e]; decide)] at ih
      have ih := ih E2 hs2 (by rw [e52]; exact hb) (by
        rw [e52]
        by_cases c : E1 0 52 = -2
        · rw [if_pos c] at hc ⊢; rw [hc, ef, if_neg (by rw [e]; decide)]
        · rw [if_neg c] at hc ⊢; exact hc)
      refine x_goto 48 dX12_fitting_28 (by decide) ?_
      refine y_iinc dX12_fitting_48 rfl (by decide) rfl rfl ?_
      refine x_goto 10 dX12_fitting_51 (by decide) ?_
      refine (show X _ _ 10 _ _ _ _ _ _ from ?_)
      exact ih
    rw [if_pos e] at ih
    refine x_aload_n dX12_fitting_31 rfl ?_
    refine b_gi0 (r := r) (m := 24) dX12_fitting_32 fX12_571 (by first | assumption) (fun _ _ _ => rfl) (by decide) ?_
    refine (show X _ _ 35 _ _ _ _ _ _ from ?_)
    refine X.val e52 ?_
    refine y_bipush dX12_fitting_35 rfl ?_
    refine (show X _ _ 37 _ _ _ _ _ _ from ?_)
    refine y_icmp_ne 45 dX12_fitting_37 (by decide) ⟨by omega, by omega⟩ ⟨by omega, by omega⟩ (fun c => ?_) (fun c => ?_)
    · have ih := ih E2 hs2 (by rw [e52]; exact hb) (by rw [e52, if_neg c]; rw [if_neg c] at hc; exact hc)
      refine y_iinc dX12_fitting_45 rfl (by decide) rfl rfl ?_
      refine y_iinc dX12_fitting_48 rfl (by decide) rfl rfl ?_
      refine x_goto 10 dX12_fitting_51 (by decide) ?_
      refine (show X _ _ 10 _ _ _ _ _ _ from ?_)
      exact ih
    · rw [if_pos c] at hc
      have s2 : Sc E (u2 E2 0 52 (i : Int)) := Sc_t hs2 ⟨fun b hb => u2_n (by omega), fun c hc => by rw [u2_s, u1_n (by omega)], by rw [u2_s, u1_n (by decide)]; exact hs2.2.2⟩
      have ih := ih (u2 E2 0 52 (i : Int)) s2 (by rw [u2_s, u1_s]; omega) (by rw [u2_s, u1_s, if_neg (by omega), hc, ef, if_pos e])
      refine x_aload_n dX12_fitting_40 rfl ?_
      refine x_iload_n dX12_fitting_41 rfl ?_
      refine b_pi0 (r := r) (m := 24) dX12_fitting_42 (pX12_571 _) (by first | assumption) (fun _ _ _ => rfl) rfl rfl (by decide) ?_
      refine y_iinc dX12_fitting_45 rfl (by decide) rfl rfl ?_
      refine y_iinc dX12_fitting_48 rfl (by decide) rfl rfl ?_
      refine x_goto 10 dX12_fitting_51 (by decide) ?_
      refine (show X _ _ 10 _ _ _ _ _ _ from ?_)
      exact ih
theorem k_refusesMany {x : Int} (hI : DI T R V r f E t tp h A B a m H K wr pl tr) (hx : R32 x) : X g mX12_refusesMany 0 [.ref r, .int (iI x)] [] (T, iV (pB V r 24 E), R, J, z) k n (rI (iI (sTr h x)) (T, iV (pB V r 24 E), R, J, z)) := by
  obtain ⟨hM, -, -, -, -, d1, d2⟩ := hI
  have hin := c_in (g := g) (k := 0) (n := 0) (x := x) (lo := 1) (hi := 200) (M := (T, iV (pB V r 24 E), R, J, z)) hx ⟨by decide, by decide⟩ ⟨by decide, by decide⟩
  unfold sTr
  cases h
  · have hn := (d1 rfl).1
    rw [if_neg (by decide)]
    obtain ⟨m0, -, -⟩ := id hM
    refine x_aload_n dX12_refusesMany_0 rfl ?_
    refine (show X _ _ 1 _ _ _ _ _ _ from ?_)
    refine x_gn dX12_refusesMany_1 fX12_409 (by first | assumption) (fun _ _ _ => rfl) (by first | assumption) ?_
    refine (show X _ _ 4 _ _ _ _ _ _ from ?_)
    refine x_ifnonnull_n dX12_refusesMany_4 ?_
    refine (show X _ _ 7 _ _ _ _ _ _ from ?_)
    refine y_iconst dX12_refusesMany_7 ?_
    refine x_goto 27 dX12_refusesMany_8 (by decide) ?_
    refine (show X _ _ 27 _ _ _ _ _ _ from ?_)
    exact x_ireturn dX12_refusesMany_27 rfl ⟨rfl, rfl⟩
  · obtain ⟨⟨hf, -⟩, -⟩ := d2 rfl
    rw [if_pos rfl]
    obtain ⟨m0, -, -⟩ := id hM
    refine x_aload_n dX12_refusesMany_0 rfl ?_
    refine x_gr dX12_refusesMany_1 fX12_409 (by first | assumption) (fun _ _ _ => rfl) (by first | assumption) ?_
    refine (show X _ _ 4 _ _ _ _ _ _ from ?_)
    refine x_ifnonnull_r 11 dX12_refusesMany_4 (by decide) ?_
    refine (show X _ _ 11 _ _ _ _ _ _ from ?_)
    refine x_iload_n dX12_refusesMany_11 rfl ?_
    refine y_iconst dX12_refusesMany_12 ?_
    refine y_sipush dX12_refusesMany_13 rfl ?_
    refine (show X _ _ 16 _ _ _ _ _ _ from ?_)
    refine x_callS (As := [_, _, _]) (mc := 0) (ms := 0) (z := mX12_in) dX12_refusesMany_16 lX12_160 oX12_in (by decide) rfl (Nat.le_of_ble_eq_true rfl) (Nat.le_of_ble_eq_true rfl) rfl (hin) (k_I ?_)
    refine (show X _ _ 19 _ _ _ _ _ _ from ?_)
    refine y_ifb_eq 26 dX12_refusesMany_19 (by decide) (fun c => ?_) (fun c => ?_)
    · have := of_decide_eq_false c
      rw [if_pos (by omega)]
      refine y_iconst dX12_refusesMany_26 ?_
      refine (show X _ _ 27 _ _ _ _ _ _ from ?_)
      exact x_ireturn dX12_refusesMany_27 rfl ⟨rfl, rfl⟩
    · have := of_decide_eq_true c
      rw [if_neg (by omega)]
      refine y_iconst dX12_refusesMany_22 ?_
      refine x_goto 27 dX12_refusesMany_23 (by decide) ?_
      refine (show X _ _ 27 _ _ _ _ _ _ from ?_)
      exact x_ireturn dX12_refusesMany_27 rfl ⟨rfl, rfl⟩
theorem sTr_0 {x : Int} (e : sTr h x = 0) : h = true ∧ 1 ≤ x ∧ x ≤ 200 := by
  unfold sTr at e
  split at e
  · split at e
    · cases e
    · rename_i h1 h2; exact ⟨h1, by omega, by omega⟩
  · cases e
theorem k_seeds {x : Int} (hI : DI T R V r f E t tp h A B a m H K wr pl tr) (hx : R32 x) : X g mX12_seeds 0 [.ref r, .int (iI x), jk] [] (T, iV (pB V r 24 E), R, J, z) k n (DQ T R J z V r f (some (.int (iI (if sTr h x = 0 then sdC A B x.toNat else -1)))) t tp h A B a m H K wr pl (sTr h x)) := by
  have hM := hI.1
  have hI1 := DI_sc hI (Sc_th hI 0)
  have hrm := k_refusesMany (g := g) (J := J) (z := z) (k := 0) (n := 0) (x := x) hI1 hx
  have hs3 : 0 ≤ sTr h x ∧ sTr h x ≤ 2 := by unfold sTr; split <;> (try split) <;> omega
  obtain ⟨m0, -, -⟩ := id hM
  refine x_aload_n dX12_seeds_0 rfl ?_
  refine y_iconst dX12_seeds_1 ?_
  refine b_pi0 (r := r) (m := 24) dX12_seeds_2 (pX12_85 _) (by first | assumption) (fun _ _ _ => rfl) rfl rfl (by decide) ?_
  refine x_aload_n dX12_seeds_5 rfl ?_
  refine x_iload_n dX12_seeds_6 rfl ?_
  refine (show X _ _ 7 _ _ _ _ _ _ from ?_)
  refine x_callV (As := [_]) (mc := 0) (ms := 0) (z := mX12_refusesMany) (ci := 12) dX12_seeds_7 lX12_574 oX12_refusesMany (by decide) (by first | assumption) rfl rfl (Nat.le_of_ble_eq_true rfl) (Nat.le_of_ble_eq_true rfl) rfl (hrm) (k_I ?_)
  refine (show X _ _ 10 _ _ _ _ _ _ from ?_)
  refine x_istore_n dX12_seeds_10 (by decide) rfl rfl ?_
  refine x_iload_n dX12_seeds_11 rfl ?_
  refine (show X _ _ 12 _ _ _ _ _ _ from ?_)
  refine y_if_le 23 dX12_seeds_12 (by decide) ⟨by omega, by omega⟩ (fun c => ?_) (fun c => ?_)
  rotate_left
  · have hrf := k_refused (g := g) (V := V) (E := u2 E 0 0 0) (J := J) (z := z) (k := 0) (n := 0) (x := sTr h x) hM
    rw [if_neg (by omega)]
    refine x_aload_n dX12_seeds_15 rfl ?_
    refine x_iload_n dX12_seeds_16 rfl ?_
    refine (show X _ _ 17 _ _ _ _ _ _ from ?_)
    refine x_callV (As := [_]) (mc := 0) (ms := 0) (z := mX12_refused) (ci := 12) dX12_seeds_17 lX12_91 oX12_refused (by decide) (by first | assumption) rfl rfl (Nat.le_of_ble_eq_true rfl) (Nat.le_of_ble_eq_true rfl) rfl (hrf) (k_I ?_)
    refine (show X _ _ 20 _ _ _ _ _ _ from ?_)
    refine x_goto 32 dX12_seeds_20 (by decide) ?_
    refine (show X _ _ 32 _ _ _ _ _ _ from ?_)
    exact x_ireturn dX12_seeds_32 rfl (DQ_tr hI1 _ (by omega) _)
  have e : sTr h x = 0 := by omega
  rw [if_pos e, e]
  obtain ⟨rfl, e2, e3⟩ := sTr_0 e
  have hfi := k_fitting (g := g) (J := J) (z := z) (k := 0) (n := 0) (x := x.toNat) hI1 (by omega)
  rw [show ((x.toNat : Nat) : Int) = x by omega] at hfi
  refine x_aload_n dX12_seeds_23 rfl ?_
  refine x_aload_n dX12_seeds_24 rfl ?_
  refine x_iload_n dX12_seeds_25 rfl ?_
  refine (show X _ _ 26 _ _ _ _ _ _ from ?_)
  refine x_callV (As := [_]) (mc := 0) (ms := 0) (z := mX12_fitting) (ci := 12) dX12_seeds_26 lX12_577 oX12_fitting (by decide) (by first | assumption) rfl rfl (Nat.le_of_ble_eq_true rfl) (Nat.le_of_ble_eq_true rfl) rfl (hfi) (fun v M1 hq => ?_)
  obtain ⟨rfl, E', rfl, hq, -⟩ := hq
  refine (show X _ _ 29 _ [.int (iI (sdC A B x.toNat)), .ref r] _ _ _ _ from ?_)
  have hgo := k_good (g := g) (V := V) (E := E') (J := J) (z := z) (k := 0) (n := 0) (x := sdC A B x.toNat) hM
  refine x_callV (As := [_]) (mc := 0) (ms := 0) (z := mX12_good) (ci := 12) dX12_seeds_29 lX12_95 oX12_good (by decide) (by first | assumption) rfl rfl (Nat.le_of_ble_eq_true rfl) (Nat.le_of_ble_eq_true rfl) rfl (hgo) (k_I ?_)
  refine (show X _ _ 32 _ _ _ _ _ _ from ?_)
  exact x_ireturn dX12_seeds_32 rfl (DQ_tr (DI_sc hI1 hq) 0 (by decide) _)
theorem k_firstSeed {x : Int} (hI : DI T R V r f E t tp h A B a m H K wr pl tr) (hx : R32 x) : X g mX12_firstSeed 0 [.ref r, .int (iI x), jk] [] (T, iV (pB V r 24 E), R, J, z) k n (DQ T R J z V r f (some (.int (iI (if sTr h x = 0 then fiC (sdF A B) x.toNat 0 else -1)))) t tp h A B a m H K wr pl (sTr h x)) := by
  have hM := hI.1
  have hI1 := DI_sc hI (Sc_th hI 0)
  have hrm := k_refusesMany (g := g) (J := J) (z := z) (k := 0) (n := 0) (x := x) hI1 hx
  have hs3 : 0 ≤ sTr h x ∧ sTr h x ≤ 2 := by unfold sTr; split <;> (try split) <;> omega
  obtain ⟨m0, -, -⟩ := id hM
  refine x_aload_n dX12_firstSeed_0 rfl ?_
  refine y_iconst dX12_firstSeed_1 ?_
  refine b_pi0 (r := r) (m := 24) dX12_firstSeed_2 (pX12_85 _) (by first | assumption) (fun _ _ _ => rfl) rfl rfl (by decide) ?_
  refine x_aload_n dX12_firstSeed_5 rfl ?_
  refine x_iload_n dX12_firstSeed_6 rfl ?_
  refine (show X _ _ 7 _ _ _ _ _ _ from ?_)
  refine x_callV (As := [_]) (mc := 0) (ms := 0) (z := mX12_refusesMany) (ci := 12) dX12_firstSeed_7 lX12_574 oX12_refusesMany (by decide) (by first | assumption) rfl rfl (Nat.le_of_ble_eq_true rfl) (Nat.le_of_ble_eq_true rfl) rfl (hrm) (k_I ?_)
  refine (show X _ _ 10 _ _ _ _ _ _ from ?_)
  refine x_istore_n dX12_firstSeed_10 (by decide) rfl rfl ?_
  refine x_iload_n dX12_firstSeed_11 rfl ?_
  refine (show X _ _ 12 _ _ _ _ _ _ from ?_)
  refine y_if_le 21 dX12_firstSeed_12 (by decide) ⟨by omega, by omega⟩ (fun c => ?_) (fun c => ?_)
  rotate_left
  · have hrf := k_refused (g := g) (V := V) (E := u2 E 0 0 0) (J := J) (z := z) (k := 0) (n := 0) (x := sTr h x) hM
    rw [if_neg (by omega)]
    refine x_aload_n dX12_firstSeed_15 rfl ?_
    refine x_iload_n dX12_firstSeed_16 rfl ?_
    refine (show X _ _ 17 _ _ _ _ _ _ from ?_)
    refine x_callV (As := [_]) (mc := 0) (ms := 0) (z := mX12_refused) (ci := 12) dX12_firstSeed_17 lX12_91 oX12_refused (by decide) (by first | assumption) rfl rfl (Nat.le_of_ble_eq_true rfl) (Nat.le_of_ble_eq_true rfl) rfl (hrf) (k_I ?_)
    refine (show X _ _ 20 _ _ _ _ _ _ from ?_)
    exact x_ireturn dX12_firstSeed_20 rfl (DQ_tr hI1 _ (by omega) _)
  have e : sTr h x = 0 := by omega
  rw [if_pos e, e]
  obtain ⟨rfl, e2, e3⟩ := sTr_0 e
  have hfi := k_fitting (g := g) (J := J) (z := z) (k := 0) (n := 0) (x := x.toNat) hI1 (by omega)
  rw [show ((x.toNat : Nat) : Int) = x by omega] at hfi
  refine x_aload_n dX12_firstSeed_21 rfl ?_
  refine x_iload_n dX12_firstSeed_22 rfl ?_
  refine (show X _ _ 23 _ _ _ _ _ _ from ?_)
  refine x_callV (As := [_]) (mc := 0) (ms := 0) (z := mX12_fitting) (ci := 12) dX12_firstSeed_23 lX12_577 oX12_fitting (by decide) (by first | assumption) rfl rfl (Nat.le_of_ble_eq_true rfl) (Nat.le_of_ble_eq_true rfl) rfl (hfi) (fun v M1 hq => ?_)
  obtain ⟨rfl, E', rfl, hq, h52⟩ := hq
  refine (show X _ _ 26 _ [.int (iI (sdC A B x.toNat))] _ _ _ _ from ?_)
  have hgo := k_good (g := g) (V := V) (E := E') (J := J) (z := z) (k := 0) (n := 0) (x := fiC (sdF A B) x.toNat 0) hM
  refine x_pop dX12_firstSeed_26 rfl ?_
  refine x_aload_n dX12_firstSeed_27 rfl ?_
  refine x_aload_n dX12_firstSeed_28 rfl ?_
  refine b_gi0 (r := r) (m := 24) dX12_firstSeed_29 fX12_571 (by first | assumption) (fun _ _ _ => rfl) (by decide) ?_
  refine (show X _ _ 32 _ _ _ _ _ _ from ?_)
  refine X.val h52 ?_
  refine x_callV (As := [_]) (mc := 0) (ms := 0) (z := mX12_good) (ci := 12) dX12_firstSeed_32 lX12_95 oX12_good (by decide) (by first | assumption) rfl rfl (Nat.le_of_ble_eq_true rfl) (Nat.le_of_ble_eq_true rfl) rfl (hgo) (k_I ?_)
  refine (show X _ _ 35 _ _ _ _ _ _ from ?_)
  exact x_ireturn dX12_firstSeed_35 rfl (DQ_tr (DI_sc hI1 hq) 0 (by decide) _)
end C9b
