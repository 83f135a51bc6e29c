/-! ===== Now; a family is cleared ===== -/
theorem pB_of {V V' : Nat → Nat → Int} {r m : Nat} (h : ∀ a, (a < r ∨ r + m ≤ a) → V' a = V a) : V' = pB V r m (fun j => V' (r + j)) := by
  funext a
  by_cases e : r ≤ a ∧ a < r + m
  · rw [pB, if_pos e]
    show V' a = V' (r + (a - r))
    rw [show r + (a - r) = a by omega]
  · rw [pB, if_neg e]
    exact h a (by omega)
theorem y_copy {g : GG} {y : MD} {pc : Nat} {L S : List Value} {k n : Nat} {Q : Option Value → Mem → Prop} {T : Nat → Nat × Nat} {V : Nat → Nat → Int} {R : Nat → Nat → Option Nat} {J : Nat → Nat → Int64} {sz i a0 a n0 n1 p0 p1 q : Nat} {sp dp mm : Int} (hd : decode y.2.1 pc = .ok (.invokestatic i, 3)) (hw : Cond.methodLink y.1.cls i arraycopyName ∈ tb) (hdp : 1 ≤ y.2.2.2.2) (hT0 : T a0 = (1, n0)) (hT1 : T a = (1, n1)) (e0 : sp = (p0 : Int)) (e1 : dp = (p1 : Int)) (e2 : mm = (q : Int)) (hs0 : p0 + q ≤ n0) (hs1 : p1 + q ≤ n1) (hn0 : n0 < 2 ^ 31) (hn1 : n1 < 2 ^ 31) (hr : (S.map fun v => v.category).sum ≤ 8)
    (kk : X g y (pc + 3) L S (T, iV (u1 V a (cpR (V a0) (V a) p0 p1 q)), R, J, sz) k n Q) : X g y pc L (.int (iI mm) :: .int (iI dp) :: .ref a :: .int (iI sp) :: .ref a0 :: S) (T, iV V, R, J, sz) k n Q := by
  refine x_copy hd hw cpN cpS cpI hdp hT0 hT1 (ix_nat e0) (ix_nat e1) (ix_nat e2) hs0 hs1 hn0 hn1 hr ?_
  rw [iV_cpy]
  exact kk
def sfW (A W : Nat → Nat → Int) : Nat → Nat → Int := lp (fP A) (fun p W => u2 W 1 p (A 7 p)) (u2 (u2 (u2 W 0 0 (A 0 1)) 0 1 0) 0 2 0)
def abW (W : Nat → Nat → Int) (y p q pr : Int) : Nat → Nat → Int := u2 (u2 (u2 (u2 (u2 W 2 (4 * (W 0 2).toNat) y) 2 (4 * (W 0 2).toNat + 1) p) 2 (4 * (W 0 2).toNat + 2) q) 2 (4 * (W 0 2).toNat + 3) pr) 0 2 (W 0 2 + 1)
def clA (A : Nat → Nat → Int) : Nat → Nat → Int := u2 (u2 (u2 (u2 (u2 (u2 (u2 (u2 (u2 A 0 0 0) 0 1 0) 0 2 0) 0 3 0) 0 4 0) 0 5 0) 0 6 0) 0 7 0) 0 8 0
def clW (W : Nat → Nat → Int) : Nat → Nat → Int := lp 80 (fun j W => u2 W 44 j 0) (clA W)
section C15
variable {g : GG} {T : Nat → Nat × Nat} {V W : Nat → Nat → Int} {R : Nat → Nat → Option Nat} {J : Nat → Nat → Int64} {z k n : Nat} {A B : Nat → Nat → Int} {nw f o : Nat}
theorem c_startFrom (hn : NS T R nw) (hf : FS T R f) (hF : FC V f A) (hA : VA A) (hap : f + 45 ≤ nw ∨ nw + 3 ≤ f) : X g mX4_startFrom 0 [.ref nw, .ref f, jk] [] (T, iV (pB V nw 3 W), R, J, z) k n (rV (T, iV (pB V nw 3 (sfW A W)), R, J, z)) := by
  obtain ⟨n0, n1, n2, n3, n4⟩ := hn
  obtain ⟨f0, ⟨f9, -⟩, ⟨ft1, -⟩, hPR, -⟩ := hf
  obtain ⟨hV0, hVp, -⟩ := hF
  have eP := fP10 hA
  refine x_aload_n dX4_startFrom_0 rfl ?_
  refine x_aload_n dX4_startFrom_1 rfl ?_
  refine b_gio (r := nw) (m := 3) dX4_startFrom_2 fX4_28 (by first | assumption | exact (hPR _ (by omega)).2) (fun _ _ _ => rfl) (by omega) ?_
  refine (show X _ _ 5 _ _ _ _ _ _ from ?_)
  refine X.val (b := A 0 1) (hV0 1 (by omega)) ?_
  refine b_pi0 (r := nw) (m := 3) dX4_startFrom_5 (pX4_9 _) (by first | assumption | exact (hPR _ (by omega)).2) (fun _ _ _ => rfl) rfl rfl (by decide) ?_
  refine x_aload_n dX4_startFrom_8 rfl ?_
  refine y_iconst dX4_startFrom_9 ?_
  refine b_pi0 (r := nw) (m := 3) dX4_startFrom_10 (pX4_15 _) (by first | assumption | exact (hPR _ (by omega)).2) (fun _ _ _ => rfl) rfl rfl (by decide) ?_
  refine x_aload_n dX4_startFrom_13 rfl ?_
  refine y_iconst dX4_startFrom_14 ?_
  refine b_pi0 (r := nw) (m := 3) dX4_startFrom_15 (pX4_18 _) (by first | assumption | exact (hPR _ (by omega)).2) (fun _ _ _ => rfl) rfl rfl (by decide) ?_
  refine y_iconst dX4_startFrom_18 ?_
  refine (show X _ _ 19 _ _ _ _ _ _ from ?_)
  refine x_istore_n dX4_startFrom_19 (by decide) rfl rfl ?_
  refine (show X _ _ 20 _ _ _ _ _ _ from ?_)
  refine loopN (P := fun p => X g mX4_startFrom 20 [.ref nw, .ref f, .int (iI (p : Int))] [] (T, iV (pB V nw 3 (lp p (fun p W => u2 W 1 p (A 7 p)) (u2 (u2 (u2 W 0 0 (A 0 1)) 0 1 0) 0 2 0))), R, J, z) k n (rV (T, iV (pB V nw 3 (sfW A W)), R, J, z))) (fP A) ?_ (fun p hp ih => ?_)
  · refine x_iload_n dX4_startFrom_20 rfl ?_
    refine x_aload_n dX4_startFrom_21 rfl ?_
    refine b_gio (r := nw) (m := 3) dX4_startFrom_22 fX4_31 (by first | assumption | exact (hPR _ (by omega)).2) (fun _ _ _ => rfl) (by omega) ?_
    refine (show X _ _ 25 _ _ _ _ _ _ from ?_)
    refine X.val (b := A 0 3) (hV0 3 (by omega)) ?_
    refine y_icmp_ge 49 dX4_startFrom_25 (by decide) ⟨by omega, by omega⟩ ⟨by omega, by omega⟩ (fun h => ?_) (fun h => ?_)
    · exact x_return dX4_startFrom_49 rfl ⟨rfl, rfl⟩
    · omega
  refine x_iload_n dX4_startFrom_20 rfl ?_
  refine x_aload_n dX4_startFrom_21 rfl ?_
  refine b_gio (r := nw) (m := 3) dX4_startFrom_22 fX4_31 (by first | assumption | exact (hPR _ (by omega)).2) (fun _ _ _ => rfl) (by omega) ?_
  refine (show X _ _ 25 _ _ _ _ _ _ from ?_)
  refine X.val (b := A 0 3) (hV0 3 (by omega)) ?_
  refine y_icmp_ge 49 dX4_startFrom_25 (by decide) ⟨by omega, by omega⟩ ⟨by omega, by omega⟩ (fun h => ?_) (fun h => ?_)
  · omega
  refine x_aload_n dX4_startFrom_28 rfl ?_
  refine x_gr dX4_startFrom_29 fX4_21 (by first | assumption | exact (hPR _ (by omega)).2) (fun _ _ _ => rfl) (by first | assumption | exact (hPR _ (by omega)).2) ?_
  refine x_iload_n dX4_startFrom_32 rfl ?_
  refine x_aload_n dX4_startFrom_33 rfl ?_
  refine x_gr dX4_startFrom_34 fX4_34 (by first | assumption | exact (hPR _ (by omega)).2) (fun _ _ _ => rfl) (by first | assumption | exact (hPR _ (by omega)).2) ?_
  refine x_iload_n dX4_startFrom_37 rfl ?_
  refine y_aald (p) dX4_startFrom_38 (by first | assumption | exact (hPR _ (by omega)).2) (by decide) (by first | rfl | omega) (by omega) (by decide) (by first | assumption | exact (hPR _ (by omega)).1) ?_
  refine y_bipush dX4_startFrom_39 rfl ?_
  refine (show X _ _ 41 _ _ _ _ _ _ from ?_)
  refine b_ialo (r := nw) (m := 3) (6) dX4_startFrom_41 (by first | assumption | exact (hPR _ (by omega)).2) (by first | rfl | omega) (by omega) (by decide) (by omega) ?_
  refine (show X _ _ 42 _ _ _ _ _ _ from ?_)
  refine X.val (b := A 7 p) (hVp p hp 6 (by omega)) ?_
  refine b_iast (r := nw) (m := 3) (j := 1) (p) dX4_startFrom_42 (by first | assumption | exact (hPR _ (by omega)).2) (by first | rfl | omega) (by omega) (by decide) (by decide) ?_
  refine y_iinc dX4_startFrom_43 rfl (by decide) rfl rfl ?_
  refine x_goto 20 dX4_startFrom_46 (by decide) ?_
  refine (show X _ _ 20 _ _ _ _ _ _ from ?_)
  exact ih
theorem c_addBuy {y p q pr : Int} (hn : NS T R nw) (hb : 0 ≤ W 0 2 ∧ W 0 2 < 8) : X g mX4_addBuy 0 [.ref nw, .int (iI y), .int (iI p), .int (iI q), .int (iI pr), jk] [] (T, iV (pB V nw 3 W), R, J, z) k n (rV (T, iV (pB V nw 3 (abW W y p q pr)), R, J, z)) := by
  obtain ⟨n0, n1, n2, n3, n4⟩ := hn
  have hPR : True := trivial
  refine x_aload_n dX4_addBuy_0 rfl ?_
  refine b_gi0 (r := nw) (m := 3) dX4_addBuy_1 fX4_18 (by first | assumption | exact (hPR _ (by omega)).2) (fun _ _ _ => rfl) (by decide) ?_
  refine y_bipush dX4_addBuy_4 rfl ?_
  refine (show X _ _ 6 _ _ _ _ _ _ from ?_)
  refine y_icmp_ge 68 dX4_addBuy_6 (by decide) ⟨by omega, by omega⟩ ⟨by omega, by omega⟩ (fun h => ?_) (fun h => ?_)
  · omega
  unfold abW
  generalize hb0 : (W 0 2).toNat = b at *
  have eb : W 0 2 = (b : Int) := by omega
  refine x_aload_n dX4_addBuy_9 rfl ?_
  refine b_gi0 (r := nw) (m := 3) dX4_addBuy_10 fX4_18 (by first | assumption | exact (hPR _ (by omega)).2) (fun _ _ _ => rfl) (by decide) ?_
  refine y_iconst dX4_addBuy_13 ?_
  refine y_imul dX4_addBuy_14 ?_
  refine x_istore dX4_addBuy_15 (by decide) rfl rfl ?_
  refine x_aload_n dX4_addBuy_17 rfl ?_
  refine x_gr dX4_addBuy_18 fX4_25 (by first | assumption | exact (hPR _ (by omega)).2) (fun _ _ _ => rfl) (by first | assumption | exact (hPR _ (by omega)).2) ?_
  refine x_iload dX4_addBuy_21 rfl ?_
  refine (show X _ _ 23 _ _ _ _ _ _ from ?_)
  refine y_iconst dX4_addBuy_23 ?_
  refine y_iadd dX4_addBuy_24 ?_
  refine x_iload_n dX4_addBuy_25 rfl ?_
  refine b_iast (r := nw) (m := 3) (j := 2) (4 * b) dX4_addBuy_26 (by first | assumption | exact (hPR _ (by omega)).2) (by first | rfl | omega) (by omega) (by decide) (by decide) ?_
  refine (show X _ _ 27 _ _ _ _ _ _ from ?_)
  refine x_aload_n dX4_addBuy_27 rfl ?_
  refine x_gr dX4_addBuy_28 fX4_25 (by first | assumption | exact (hPR _ (by omega)).2) (fun _ _ _ => rfl) (by first | assumption | exact (hPR _ (by omega)).2) ?_
  refine x_iload dX4_addBuy_31 rfl ?_
  refine y_iconst dX4_addBuy_33 ?_
  refine y_iadd dX4_addBuy_34 ?_
  refine x_iload_n dX4_addBuy_35 rfl ?_
  refine b_iast (r := nw) (m := 3) (j := 2) (4 * b + 1) dX4_addBuy_36 (by first | assumption | exact (hPR _ (by omega)).2) (by first | rfl | omega) (by omega) (by decide) (by decide) ?_
  refine (show X _ _ 37 _ _ _ _ _ _ from ?_)
  refine x_aload_n dX4_addBuy_37 rfl ?_
  refine x_gr dX4_addBuy_38 fX4_25 (by first | assumption | exact (hPR _ (by omega)).2) (fun _ _ _ => rfl) (by first | assumption | exact (hPR _ (by omega)).2) ?_
  refine x_iload dX4_addBuy_41 rfl ?_
  refine y_iconst dX4_addBuy_43 ?_
  refine y_iadd dX4_addBuy_44 ?_
  refine x_iload_n dX4_addBuy_45 rfl ?_
  refine b_iast (r := nw) (m := 3) (j := 2) (4 * b + 2) dX4_addBuy_46 (by first | assumption | exact (hPR _ (by omega)).2) (by first | rfl | omega) (by omega) (by decide) (by decide) ?_
  refine (show X _ _ 47 _ _ _ _ _ _ from ?_)
  refine x_aload_n dX4_addBuy_47 rfl ?_
  refine x_gr dX4_addBuy_48 fX4_25 (by first | assumption | exact (hPR _ (by omega)).2) (fun _ _ _ => rfl) (by first | assumption | exact (hPR _ (by omega)).2) ?_
  refine x_iload dX4_addBuy_51 rfl ?_
  refine y_iconst dX4_addBuy_53 ?_
  refine y_iadd dX4_addBuy_54 ?_
  refine x_iload dX4_addBuy_55 rfl ?_
  refine b_iast (r := nw) (m := 3) (j := 2) (4 * b + 3) dX4_addBuy_57 (by first | assumption | exact (hPR _ (by omega)).2) (by first | rfl | omega) (by omega) (by decide) (by decide) ?_
  refine x_aload_n dX4_addBuy_58 rfl ?_
  refine (show X _ _ 59 _ _ _ _ _ _ from ?_)
  refine x_dup dX4_addBuy_59 rfl ?_
  refine b_gi0 (r := nw) (m := 3) dX4_addBuy_60 fX4_18 (by first | assumption | exact (hPR _ (by omega)).2) (fun _ _ _ => rfl) (by decide) ?_
  refine y_iconst dX4_addBuy_63 ?_
  refine y_iadd dX4_addBuy_64 ?_
  refine b_pi0 (r := nw) (m := 3) dX4_addBuy_65 (pX4_18 _) (by first | assumption | exact (hPR _ (by omega)).2) (fun _ _ _ => rfl) rfl rfl (by decide) ?_
  refine (show X _ _ 68 _ _ _ _ _ _ from ?_)
  exact x_return dX4_addBuy_68 rfl ⟨rfl, rfl⟩
theorem c_copyFrom (hn : NS T R nw) (ho : NS T R o) (hd : o + 3 ≤ nw ∨ nw + 3 ≤ o) (hN : NC V o B) : X g mX4_copyFrom 0 [.ref nw, .ref o] [] (T, iV V, R, J, z) k n (fun v M1 => v = none ∧ ∃ W, M1 = (T, iV (pB V nw 3 W), R, J, z) ∧ NC (pB V nw 3 W) nw B) := by
  obtain ⟨n0, n1, n2, n3, n4⟩ := hn
  obtain ⟨o0, o1, o2, o3, o4⟩ := ho
  obtain ⟨h0, h1, h2⟩ := hN
  have hPR : True := trivial
  refine x_aload_n dX4_copyFrom_0 rfl ?_
  refine x_aload_n dX4_copyFrom_1 rfl ?_
  refine y_gi dX4_copyFrom_2 fX4_9 (by first | assumption | exact (hPR _ (by omega)).2) (fun _ _ _ => rfl) ?_
  refine (show X _ _ 5 _ _ _ _ _ _ from ?_)
  refine X.val (b := B 0 0) (h0 0 (by omega)) ?_
  refine y_pi dX4_copyFrom_5 (pX4_9 _) (by first | assumption | exact (hPR _ (by omega)).2) (fun _ _ _ => rfl) rfl rfl ?_
  refine x_aload_n dX4_copyFrom_8 rfl ?_
  refine x_aload_n dX4_copyFrom_9 rfl ?_
  refine y_gi dX4_copyFrom_10 fX4_15 (by first | assumption | exact (hPR _ (by omega)).2) (fun _ _ _ => rfl) ?_
  refine (show X _ _ 13 _ _ _ _ _ _ from ?_)
  refine X.val (b := B 0 1) (by rw [u2_n (by omega)]; exact h0 1 (by omega)) ?_
  refine y_pi dX4_copyFrom_13 (pX4_15 _) (by first | assumption | exact (hPR _ (by omega)).2) (fun _ _ _ => rfl) rfl rfl ?_
  refine x_aload_n dX4_copyFrom_16 rfl ?_
  refine x_aload_n dX4_copyFrom_17 rfl ?_
  refine y_gi dX4_copyFrom_18 fX4_18 (by first | assumption | exact (hPR _ (by omega)).2) (fun _ _ _ => rfl) ?_
  refine (show X _ _ 21 _ _ _ _ _ _ from ?_)
  refine X.val (b := B 0 2) (by rw [u2_n (by omega), u2_n (by omega)]; exact h0 2 (by omega)) ?_
  refine y_pi dX4_copyFrom_21 (pX4_18 _) (by first | assumption | exact (hPR _ (by omega)).2) (fun _ _ _ => rfl) rfl rfl ?_
  refine x_aload_n dX4_copyFrom_24 rfl ?_
  refine x_gr dX4_copyFrom_25 fX4_21 (by first | assumption | exact (hPR _ (by omega)).2) (fun _ _ _ => rfl) (by first | assumption | exact (hPR _ (by omega)).2) ?_
  refine y_iconst dX4_copyFrom_28 ?_
  refine x_aload_n dX4_copyFrom_29 rfl ?_
  refine x_gr dX4_copyFrom_30 fX4_21 (by first | assumption | exact (hPR _ (by omega)).2) (fun _ _ _ => rfl) (by first | assumption | exact (hPR _ (by omega)).2) ?_
  refine y_iconst dX4_copyFrom_33 ?_
  refine y_bipush dX4_copyFrom_34 rfl ?_
  refine (show X _ _ 36 _ _ _ _ _ _ from ?_)
  refine y_copy (p0 := 0) (p1 := 0) (q := 10) dX4_copyFrom_36 lX4_38 (by decide) o3 n3 rfl rfl rfl (by decide) (by decide) (by decide) (by decide) (Nat.le_of_ble_eq_true rfl) ?_
  refine (show X _ _ 39 _ _ _ _ _ _ from ?_)
  refine x_aload_n dX4_copyFrom_39 rfl ?_
  refine x_gr dX4_copyFrom_40 fX4_25 (by first | assumption | exact (hPR _ (by omega)).2) (fun _ _ _ => rfl) (by first | assumption | exact (hPR _ (by omega)).2) ?_
  refine y_iconst dX4_copyFrom_43 ?_
  refine x_aload_n dX4_copyFrom_44 rfl ?_
  refine x_gr dX4_copyFrom_45 fX4_25 (by first | assumption | exact (hPR _ (by omega)).2) (fun _ _ _ => rfl) (by first | assumption | exact (hPR _ (by omega)).2) ?_
  refine y_iconst dX4_copyFrom_48 ?_
  refine y_bipush dX4_copyFrom_49 rfl ?_
  refine (show X _ _ 51 _ _ _ _ _ _ from ?_)
  refine y_copy (p0 := 0) (p1 := 0) (q := 32) dX4_copyFrom_51 lX4_38 (by decide) o4 n4 rfl rfl rfl (by decide) (by decide) (by decide) (by decide) (Nat.le_of_ble_eq_true rfl) ?_
  generalize hV' : (u2 (u2 (u2 V nw 0 (B 0 0)) nw 1 (B 0 1)) nw 2 (B 0 2)) = V1
  have v1 : ∀ a, a ≠ nw → V1 a = V a := fun a ha => by rw [← hV', u2_n ha, u2_n ha, u2_n ha]
  have v10 : V1 nw 0 = B 0 0 := by rw [← hV', u2_s, u2_s, u2_s]; rfl
  have v11 : V1 nw 1 = B 0 1 := by rw [← hV', u2_s, u2_s, u2_s]; rfl
  have v12 : V1 nw 2 = B 0 2 := by rw [← hV', u2_s]; rfl
  rw [v1 (o + 1) (by omega)]
  generalize hV2 : u1 V1 (nw + 1) (cpR (V (o + 1)) (V1 (nw + 1)) 0 0 10) = V2
  have v2 : ∀ a, a ≠ nw + 1 → V2 a = V1 a := fun a ha => by rw [← hV2, u1_n ha]
  have v21 : ∀ p, p < 10 → V2 (nw + 1) p = B 1 p := fun p hp => by
    rw [← hV2, u1_s, cpR_in (by omega)]
    have := h1 p hp
    rw [show 0 + (p - 0) = p by omega]
    exact this
  rw [v2 (o + 2) (by omega), v1 (o + 2) (by omega)]
  generalize hV3 : u1 V2 (nw + 2) (cpR (V (o + 2)) (V2 (nw + 2)) 0 0 32) = V3
  have v3 : ∀ a, a ≠ nw + 2 → V3 a = V2 a := fun a ha => by rw [← hV3, u1_n ha]
  have v32 : ∀ p, p < 32 → V3 (nw + 2) p = B 2 p := fun p hp => by
    rw [← hV3, u1_s, cpR_in (by omega)]
    have := h2 p hp
    rw [show 0 + (p - 0) = p by omega]
    exact this
  have hout : V3 = pB V nw 3 (fun j => V3 (nw + j)) := pB_of (fun a ha => by rw [v3 a (by omega), v2 a (by omega), v1 a (by omega)])
  refine x_return dX4_copyFrom_54 rfl ⟨rfl, fun j => V3 (nw + j), by rw [← hout], ?_⟩
  rw [← hout]
  refine ⟨fun j hj => ?_, fun p hp => ?_, v32⟩
  · rw [v3 nw (by omega), v2 nw (by omega)]
    rcases (show j = 0 ∨ j = 1 ∨ j = 2 by omega) with rfl | rfl | rfl
    · exact v10
    · exact v11
    · exact v12
  · rw [v3 (nw + 1) (by omega)]
    exact v21 p hp
theorem c_clear (hf : FS T R f) : X g mX2_clear 0 [.ref f, jk] [] (T, iV (pB V f 45 W), R, J, z) k n (rV (T, iV (pB V f 45 (clW W)), R, J, z)) := by
  obtain ⟨f0, ⟨f9, f10, f11, f12, f13, f14⟩, ⟨ft1, ft12, ft25, ft34, ft43, ft44⟩, -⟩ := hf
  have hPR : True := trivial
  refine x_aload_n dX2_clear_0 rfl ?_
  refine y_iconst dX2_clear_1 ?_
  refine b_pi0 (r := f) (m := 45) dX2_clear_2 (pX2_9 _) (by first | assumption | exact (hPR _ (by omega)).2) (fun _ _ _ => rfl) rfl rfl (by decide) ?_
  refine x_aload_n dX2_clear_5 rfl ?_
  refine y_iconst dX2_clear_6 ?_
  refine b_pi0 (r := f) (m := 45) dX2_clear_7 (pX2_15 _) (by first | assumption | exact (hPR _ (by omega)).2) (fun _ _ _ => rfl) rfl rfl (by decide) ?_
  refine x_aload_n dX2_clear_10 rfl ?_
  refine y_iconst dX2_clear_11 ?_
  refine (show X _ _ 12 _ _ _ _ _ _ from ?_)
  refine b_pi0 (r := f) (m := 45) dX2_clear_12 (pX2_18 _) (by first | assumption | exact (hPR _ (by omega)).2) (fun _ _ _ => rfl) rfl rfl (by decide) ?_
  refine x_aload_n dX2_clear_15 rfl ?_
  refine y_iconst dX2_clear_16 ?_
  refine b_pi0 (r := f) (m := 45) dX2_clear_17 (pX2_21 _) (by first | assumption | exact (hPR _ (by omega)).2) (fun _ _ _ => rfl) rfl rfl (by decide) ?_
  refine x_aload_n dX2_clear_20 rfl ?_
  refine y_iconst dX2_clear_21 ?_
  refine b_pi0 (r := f) (m := 45) dX2_clear_22 (pX2_24 _) (by first | assumption | exact (hPR _ (by omega)).2) (fun _ _ _ => rfl) rfl rfl (by decide) ?_
  refine x_aload_n dX2_clear_25 rfl ?_
  refine (show X _ _ 26 _ _ _ _ _ _ from ?_)
  refine y_iconst dX2_clear_26 ?_
  refine b_pi0 (r := f) (m := 45) dX2_clear_27 (pX2_27 _) (by first | assumption | exact (hPR _ (by omega)).2) (fun _ _ _ => rfl) rfl rfl (by decide) ?_
  refine x_aload_n dX2_clear_30 rfl ?_
  refine y_iconst dX2_clear_31 ?_
  refine b_pi0 (r := f) (m := 45) dX2_clear_32 (pX2_30 _) (by first | assumption | exact (hPR _ (by omega)).2) (fun _ _ _ => rfl) rfl rfl (by decide) ?_
  refine x_aload_n dX2_clear_35 rfl ?_
  refine y_iconst dX2_clear_36 ?_
  refine b_pi0 (r := f) (m := 45) dX2_clear_37 (pX2_33 _) (by first | assumption | exact (hPR _ (by omega)).2) (fun _ _ _ => rfl) rfl rfl (by decide) ?_
  refine (show X _ _ 40 _ _ _ _ _ _ from ?_)
  refine x_aload_n dX2_clear_40 rfl ?_
  refine y_iconst dX2_clear_41 ?_
  refine b_pi0 (r := f) (m := 45) dX2_clear_42 (pX2_36 _) (by first | assumption | exact (hPR _ (by omega)).2) (fun _ _ _ => rfl) rfl rfl (by decide) ?_
  refine y_iconst dX2_clear_45 ?_
  refine x_istore_n dX2_clear_46 (by decide) rfl rfl ?_
  refine (show X _ _ 47 _ _ _ _ _ _ from ?_)
  refine X.pic (V' := pB V f 45 (clA W)) rfl ?_
  refine loopN (P := fun j => X g mX2_clear 47 [.ref f, .int (iI (j : Int))] [] (T, iV (pB V f 45 (lp j (fun j W => u2 W 44 j 0) (clA W))), R, J, z) k n (rV (T, iV (pB V f 45 (clW W)), R, J, z))) 80 ?_ (fun j hj ih => ?_)
  · refine x_iload_n dX2_clear_47 rfl ?_
    refine x_aload_n dX2_clear_48 rfl ?_
    refine x_gr dX2_clear_49 fX2_57 (by first | assumption | exact (hPR _ (by omega)).2) (fun _ _ _ => rfl) (by first | assumption | exact (hPR _ (by omega)).2) ?_
    refine x_alen dX2_clear_52 (by first | assumption | exact (hPR _ (by omega)).2) (by decide) (by decide) rfl ?_
    refine (show X _ _ 53 _ _ _ _ _ _ from ?_)
    refine (show X _ _ 53 _ [.int (iI 80), _] _ _ _ _ from ?_)
    refine y_icmp_ge 69 dX2_clear_53 (by decide) ⟨by omega, by omega⟩ ⟨by omega, by omega⟩ (fun h => ?_) (fun h => ?_)
    · exact x_return dX2_clear_69 rfl ⟨rfl, rfl⟩
    · omega
  refine x_iload_n dX2_clear_47 rfl ?_
  refine x_aload_n dX2_clear_48 rfl ?_
  refine x_gr dX2_clear_49 fX2_57 (by first | assumption | exact (hPR _ (by omega)).2) (fun _ _ _ => rfl) (by first | assumption | exact (hPR _ (by omega)).2) ?_
  refine x_alen dX2_clear_52 (by first | assumption | exact (hPR _ (by omega)).2) (by decide) (by decide) rfl ?_
  refine (show X _ _ 53 _ _ _ _ _ _ from ?_)
  refine (show X _ _ 53 _ [.int (iI 80), _] _ _ _ _ from ?_)
  refine y_icmp_ge 69 dX2_clear_53 (by decide) ⟨by omega, by omega⟩ ⟨by omega, by omega⟩ (fun h => ?_) (fun h => ?_)
  · omega
  refine x_aload_n dX2_clear_56 rfl ?_
  refine x_gr dX2_clear_57 fX2_57 (by first | assumption | exact (hPR _ (by omega)).2) (fun _ _ _ => rfl) (by first | assumption | exact (hPR _ (by omega)).2) ?_
  refine x_iload_n dX2_clear_60 rfl ?_
  refine y_iconst dX2_clear_61 ?_
  refine b_iast (r := f) (m := 45) (j := 44) (j) dX2_clear_62 (by first | assumption | exact (hPR _ (by omega)).2) (by first | rfl | omega) (by omega) (by decide) (by decide) ?_
  refine y_iinc dX2_clear_63 rfl (by decide) rfl rfl ?_
  refine x_goto 47 dX2_clear_66 (by decide) ?_
  refine (show X _ _ 47 _ _ _ _ _ _ from ?_)
  exact ih
end C15
