/-! ===== the reference's run: a turn ===== -/
section Wr
variable {A N : Nat → Nat → Int} {who : Nat}
theorem nWr_o : ∀ s (a : Nat), a ≠ 2 → lp s (nWr A who) N a = N a
  | 0, _, _ => rfl
  | s + 1, a, ha => by
    rw [lp_s]
    unfold nWr
    split
    · rw [u2_n ha]; exact nWr_o s a ha
    · exact nWr_o s a ha
theorem nRd_o : ∀ s (a : Nat), a ≠ 1 → lp s (nRd who) N a = N a
  | 0, _, _ => rfl
  | s + 1, a, ha => by
    rw [lp_s]
    unfold nRd
    split
    · rw [u2_n ha]; exact nRd_o s a ha
    · exact nRd_o s a ha
end Wr
/-- what a turn of p in year y leaves -/
def SitQ (A E E' N : Nat → Nat → Int) (p y : Nat) : Prop :=
  (∀ a, a ≠ 0 → a ≠ 9 → a ≠ 15 → a ≠ 16 → a ≠ 17 → a ≠ 18 → a ≠ 19 → a ≠ 20 → a ≠ 21 → E' a = E a) ∧ (∀ c, c ≠ 38 → c ≠ 44 → c ≠ 45 → c ≠ 46 → E' 0 c = E 0 c) ∧
  E' 0 45 = (p : Int) ∧ E' 0 46 = E 0 46 + (E 9 y + hmS A y p) ∧ (E' 9 y = E 9 y + hmS A y p ∧ ∀ j, j ≠ y → E' 9 j = E 9 j) ∧
  E' 15 = u1 (E 15) p (E 15 p + 1) ∧ E' 16 = u1 (E 16) p (E 16 p - 1) ∧ E' 18 = (if A 1 p = 2 then u1 (E 18) p (E 18 p - A 0 2) else E 18) ∧ (E' 19 p = E 19 p + hmS A y p ∧ ∀ j, j ≠ p → E' 19 j = E 19 j) ∧
  (if E 16 p - 1 = 0 then E' 20 = u1 (E 20) p ((y : Int) + 1) ∧ E' 0 44 = E 0 44 + 1 else E' 20 = E 20 ∧ E' 0 44 = E 0 44) ∧
  NM A E' (nTurn A p (decide (E 16 p - 1 = 0)) N)
section C90
variable {g : GG} {T : Nat → Nat × Nat} {V E A B W N : Nat → Nat → Int} {R : Nat → Nat → Option Nat} {J : Nat → Nat → Int64} {z k n : Nat} {r f : Nat}
theorem c_sitsW {p y : Nat} {Q : Option Value → Mem → Prop} (hM : MSh T R r) (hf : R r 3 = some f) (hG : FMS T R f) (hF : FMC V f A) (hA : VA A) (hap : apF f r) (hp : p < fP A) (hN : NM A E N)
    (kk : ∀ E' : Nat → Nat → Int, (∀ a, a ≠ 0 → a ≠ 21 → E' a = E a) → (∀ c, c ≠ 38 → E' 0 c = E 0 c) → NM A E' (nWrite A p N) → Q none (T, iV (pB V r 24 E'), R, J, z)) : X g mX12_sits 249 [.ref r, .int (iI (p : Int)), .int (iI (y : Int)), jk, jk] [] (T, iV (pB V r 24 E), R, J, z) k n Q := by
  have bt := fun (E1 : Nat → Nat → Int) b p hb hp => c_bit g b p (T, iV (pB V r 24 E1), R, J, z) 0 0 hb hp
  obtain ⟨m0, ⟨-, -, -, -, -, -, -, -, m24, -, -, -, -, -, m30, m31, m32, m33, m34, m35, m36, -, -⟩, ⟨-, -, -, -, -, -, -, -, mk9, -, -, -, -, -, mk15, mk16, mk17, mk18, mk19, mk20, mk21, -, -⟩⟩ := id hM
  obtain ⟨g0, ⟨g10, -, -, -, -, -, -, g17, g18, g19, g20, -, -, -, -, -, g26, -, -, -, -, -, -⟩, ⟨gk1, -, -, -, -, -, -, gk8, gk9, gk10, gk11, -, -, -, -, -, gk17, -, -, -, -, -, -⟩⟩ := id hG
  have eP := fP10 hA
  have eS := fS8 hA
  have e6 := hF.1 6 (by decide)
  unfold apF at hap
  obtain ⟨n1, n2, n3, n4, n5⟩ := id hN
  have hkn := n4.2.1 p (by omega)
  have hly := n4.1
  have hk5 := n5 p (by omega)
  have ekn := n2 p (by omega)
  have okW := nWrite_ok (A := A) (N := N) (who := p) hA n4 (by omega)
  refine y_iconst dX12_sits_249 ?_
  refine x_istore_n dX12_sits_250 (by decide) rfl rfl ?_
  refine (show X _ _ 251 _ _ _ _ _ _ from ?_)
  refine loopN (P := fun s => ∀ (E1 : Nat → Nat → Int) (l : Nat), (∀ a, a ≠ 0 → a ≠ 21 → E1 a = E a) → (∀ c, c ≠ 38 → E1 0 c = E 0 c) → E1 0 38 = (l : Int) → l < 256 → (∀ i, l.testBit i = ((N 0 1).toNat.testBit i || (decide (i < s) && (N 1 p).toNat.testBit i))) → (∀ i, i < 8 → l.testBit i = true → E1 21 i = lp s (nWr A p) N 2 i) → X g mX12_sits 251 [.ref r, .int (iI (p : Int)), .int (iI (y : Int)), .int (iI (s : Int)), jk] [] (T, iV (pB V r 24 E1), R, J, z) k n Q) (fSe A) ?_ (fun s hs ih => ?_) E (N 0 1).toNat (fun _ _ _ => rfl) (fun _ _ => rfl) (by rw [n1]; omega) (by omega) (fun i => by rw [decide_eq_false (by omega), Bool.false_and, Bool.or_false]) (fun i hi ht => n3 i hi ht)
  · intro E1 l q1 q2 q3 q4 q5 q6
    refine x_iload_n dX12_sits_251 rfl ?_
    refine x_aload_n dX12_sits_252 rfl ?_
    refine x_gr dX12_sits_253 fX12_409 (by first | assumption) (fun _ _ _ => rfl) (by first | assumption) ?_
    refine b_gio (r := r) (m := 24) dX12_sits_256 fX12_375 (by first | assumption) (fun _ _ _ => rfl) (by omega) ?_
    refine (show X _ _ 259 _ _ _ _ _ _ from ?_)
    refine X.val e6 ?_
    refine y_icmp_ge 343 dX12_sits_259 (by decide) ⟨by omega, by omega⟩ ⟨by omega, by omega⟩ (fun h1 => ?_) (fun h1 => ?_)
    rotate_left
    · omega
    refine x_return dX12_sits_343 rfl (kk E1 q1 q2 ?_)
    have el : l = (N 0 1).toNat ||| (N 1 p).toNat := by
      apply Nat.eq_of_testBit_eq
      intro i
      rw [q5 i, Nat.testBit_or]
      by_cases hi : i < fSe A
      · rw [decide_eq_true hi]; rfl
      · rw [decide_eq_false hi, Nat.testBit_lt_two_pow (Nat.lt_of_lt_of_le hk5 (Nat.pow_le_pow_right (by decide) (by omega)))]; rfl
    have o0 : nWrite1 A p N 0 = N 0 := nWr_o _ 0 (by decide)
    have o1 : nWrite1 A p N 1 = N 1 := nWr_o _ 1 (by decide)
    have ok := okW (fSe A) eS.2
    unfold nWrite
    rw [o0, o1]
    refine ⟨?_, fun q hq => ?_, fun s hs ht => ?_, NOk.u0 ok ⟨by omega, ?_⟩, fun q hq => ?_⟩
    · rw [u2_s, u1_s, q3, el]
    · rw [u2_n (by decide), q1 17 (by decide) (by decide), o1]; exact n2 q hq
    · rw [u2_s, u1_s] at ht
      rw [u2_n (by decide)]
      exact q6 s hs (by rw [el]; exact ht)
    · rw [← el]; omega
    · rw [u2_n (by decide), o1]; exact n5 q hq
  · intro E1 l q1 q2 q3 q4 q5 q6
    have hs8 : s < 8 := by omega
    have hkE : E1 17 p = ((N 1 p).toNat : Int) := by rw [q1 17 (by decide) (by decide), ekn]; omega
    have btk := bt E1 (N 1 p).toNat s (by omega) (by omega)
    have btl := bt E1 l s (by omega) (by omega)
    have ihw : ∀ (hk : (N 1 p).toNat.testBit s = true), lp (s + 1) (nWr A p) N = u2 (lp s (nWr A p) N) 2 s (if (N 0 1).toNat.testBit s = true then ((((lp s (nWr A p) N) 2 s).toNat &&& (A 17 (8 * p + s)).toNat : Nat) : Int) else A 17 (8 * p + s)) := by
      intro hk
      rw [lp_s]
      unfold nWr
      have a0 : lp s (nWr A p) N 0 = N 0 := nWr_o s 0 (by decide)
      have a1 : lp s (nWr A p) N 1 = N 1 := nWr_o s 1 (by decide)
      unfold nWr at a0 a1
      rw [a1, a0, if_pos hk]
    have ihn : (N 1 p).toNat.testBit s = false → lp (s + 1) (nWr A p) N = lp s (nWr A p) N := by
      intro hk
      rw [lp_s]
      unfold nWr
      have a1 : lp s (nWr A p) N 1 = N 1 := nWr_o s 1 (by decide)
      unfold nWr at a1
      rw [a1, if_neg (by rw [hk]; decide)]
    have okS := okW s (by omega)
    have hh := hA.2.2.2.2.2.2.2.2.2.2.2.2.2.1 (8 * p + s) (by omega)
    have eh : V (f + 17) (8 * p + s) = A 17 (8 * p + s) := hF.2.2.2.2.2.1 _ (by omega)
    refine x_iload_n dX12_sits_251 rfl ?_
    refine x_aload_n dX12_sits_252 rfl ?_
    refine x_gr dX12_sits_253 fX12_409 (by first | assumption) (fun _ _ _ => rfl) (by first | assumption) ?_
    refine b_gio (r := r) (m := 24) dX12_sits_256 fX12_375 (by first | assumption) (fun _ _ _ => rfl) (by omega) ?_
    refine (show X _ _ 259 _ _ _ _ _ _ from ?_)
    refine X.val e6 ?_
    refine y_icmp_ge 343 dX12_sits_259 (by decide) ⟨by omega, by omega⟩ ⟨by omega, by omega⟩ (fun h1 => ?_) (fun h1 => ?_)
    · omega
    refine x_aload_n dX12_sits_262 rfl ?_
    refine x_gr dX12_sits_263 fX12_64 (by first | assumption) (fun _ _ _ => rfl) (by first | assumption) ?_
    refine x_iload_n dX12_sits_266 rfl ?_
    refine b_iald (r := r) (m := 24) (j := 17) (p) dX12_sits_267 (by first | assumption) (by first | rfl | omega) (by omega) (by decide) (by decide) ?_
    refine (show X _ _ 268 _ _ _ _ _ _ from ?_)
    refine X.val hkE ?_
    refine x_iload_n dX12_sits_268 rfl ?_
    refine (show X _ _ 269 _ _ _ _ _ _ from ?_)
    refine x_callS (As := [_, _]) (mc := 0) (ms := 0) (z := mX12_bit) dX12_sits_269 lX12_386 oX12_bit (by decide) rfl (Nat.le_of_ble_eq_true rfl) (Nat.le_of_ble_eq_true rfl) rfl (btk) (k_I ?_)
    refine (show X _ _ 272 _ _ _ _ _ _ from ?_)
    refine y_ifb_ne 278 dX12_sits_272 (by decide) (fun h2 => ?_) (fun h2 => ?_)
    rotate_left
    · refine x_goto 337 dX12_sits_275 (by decide) ?_
      refine y_iinc dX12_sits_337 rfl (by decide) rfl rfl ?_
      refine x_goto 251 dX12_sits_340 (by decide) ?_
      refine (show X _ _ 251 _ _ _ _ _ _ from ?_)
      refine ih E1 l q1 q2 q3 q4 (fun i => ?_) (fun i hi ht => by rw [ihn h2]; exact q6 i hi ht)
      rw [q5 i]
      by_cases e : i = s
      · rw [e, h2, Bool.and_false, Bool.and_false]
      · rw [show decide (i < s + 1) = decide (i < s) by simp; omega]
    have ihw := ihw h2
    have fin : ∀ v : Int, v = (if (N 0 1).toNat.testBit s = true then ((((lp s (nWr A p) N) 2 s).toNat &&& (A 17 (8 * p + s)).toNat : Nat) : Int) else A 17 (8 * p + s)) → X g mX12_sits 324 [.ref r, .int (iI (p : Int)), .int (iI (y : Int)), .int (iI (s : Int)), .int (iI (A 17 (8 * p + s)))] [.int (iI v), .int (iI (s : Int)), .ref (r + 21)] (T, iV (pB V r 24 E1), R, J, z) k n Q := by
      intro v ev
      refine b_iast (r := r) (m := 24) (j := 21) (s) dX12_sits_324 (by first | assumption) (by first | rfl | omega) (by omega) (by decide) (by decide) ?_
      refine x_aload_n dX12_sits_325 rfl ?_
      refine x_dup dX12_sits_326 rfl ?_
      refine b_gi0 (r := r) (m := 24) dX12_sits_327 fX12_440 (by first | assumption) (fun _ _ _ => rfl) (by decide) ?_
      refine (show X _ _ 330 _ _ _ _ _ _ from ?_)
      refine X.val (b := (l : Int)) (by rw [u2_n (by decide)]; exact q3) ?_
      refine y_iconst dX12_sits_330 ?_
      refine x_iload_n dX12_sits_331 rfl ?_
      refine y_ishl (s) dX12_sits_332 (by first | rfl | omega) (by omega) ?_
      refine y_ior dX12_sits_333 ?_
      refine b_pi0 (r := r) (m := 24) dX12_sits_334 (pX12_440 _) (by first | assumption) (fun _ _ _ => rfl) rfl rfl (by decide) ?_
      refine y_iinc dX12_sits_337 rfl (by decide) rfl rfl ?_
      refine x_goto 251 dX12_sits_340 (by decide) ?_
      refine (show X _ _ 251 _ _ _ _ _ _ from ?_)
      refine X.drop 4 rfl (ih _ (l ||| 2 ^ s) (fun a h0 h21 => by rw [u2_n h0, u2_n h21, q1 a h0 h21]) (fun c hc => by rw [u2_s, u1_n hc, u2_n (by decide), q2 c hc]) (by rw [u2_s, u1_s]) (or_lt2 (m := 8) q4 hs8) (fun i => ?_) (fun i hi ht => ?_))
      · rw [Nat.testBit_or, q5 i]
        by_cases e : i = s
        · rw [e, Nat.testBit_two_pow_self, h2, decide_eq_true (show s < s + 1 by omega)]; simp
        · rw [Nat.testBit_two_pow_of_ne (fun c => e c.symm), Bool.or_false, show decide (i < s + 1) = decide (i < s) by simp; omega]
      · rw [u2_n (by decide), ihw]
        by_cases e : i = s
        · rw [e, u2_s, u1_s, u2_s, u1_s]; exact ev
        · rw [u2_s, u1_n e, u2_s, u1_n e]
          rw [Nat.testBit_or, Nat.testBit_two_pow_of_ne (fun c => e c.symm), Bool.or_false] at ht
          exact q6 i hi ht
    refine x_aload_n dX12_sits_278 rfl ?_
    refine x_gr dX12_sits_279 fX12_409 (by first | assumption) (fun _ _ _ => rfl) (by first | assumption) ?_
    refine x_gr dX12_sits_282 fX12_383 (by first | assumption) (fun _ _ _ => rfl) (by first | assumption) ?_
    refine y_bipush dX12_sits_285 rfl ?_
    refine x_iload_n dX12_sits_287 rfl ?_
    refine y_imul dX12_sits_288 ?_
    refine x_iload_n dX12_sits_289 rfl ?_
    refine y_iadd dX12_sits_290 ?_
    refine (show X _ _ 291 _ _ _ _ _ _ from ?_)
    refine b_ialo (r := r) (m := 24) (8 * p + s) dX12_sits_291 (by first | assumption) (by first | rfl | omega) (by omega) (by decide) (by omega) ?_
    refine (show X _ _ 292 _ _ _ _ _ _ from ?_)
    refine X.val eh ?_
    refine x_istore dX12_sits_292 (by decide) rfl rfl ?_
    refine x_aload_n dX12_sits_294 rfl ?_
    refine x_gr dX12_sits_295 fX12_76 (by first | assumption) (fun _ _ _ => rfl) (by first | assumption) ?_
    refine x_iload_n dX12_sits_298 rfl ?_
    refine x_aload_n dX12_sits_299 rfl ?_
    refine b_gi0 (r := r) (m := 24) dX12_sits_300 fX12_440 (by first | assumption) (fun _ _ _ => rfl) (by decide) ?_
    refine (show X _ _ 303 _ _ _ _ _ _ from ?_)
    refine X.val q3 ?_
    refine x_iload_n dX12_sits_303 rfl ?_
    refine (show X _ _ 304 _ _ _ _ _ _ from ?_)
    refine x_callS (As := [_, _]) (mc := 0) (ms := 0) (z := mX12_bit) dX12_sits_304 lX12_386 oX12_bit (by decide) rfl (Nat.le_of_ble_eq_true rfl) (Nat.le_of_ble_eq_true rfl) rfl (btl) (k_I ?_)
    refine (show X _ _ 307 _ _ _ _ _ _ from ?_)
    have hls : l.testBit s = (N 0 1).toNat.testBit s := by rw [q5 s, decide_eq_false (by omega), Bool.false_and, Bool.or_false]
    refine y_ifb_eq 322 dX12_sits_307 (by decide) (fun h3 => ?_) (fun h3 => ?_)
    · refine x_iload dX12_sits_322 rfl ?_
      refine (show X _ _ 324 _ _ _ _ _ _ from ?_)
      refine fin _ ?_
      rw [if_neg (by rw [← hls, h3]; decide)]
    · have e21 : E1 21 s = (((lp s (nWr A p) N) 2 s).toNat : Int) := by
        rw [q6 s hs8 h3]
        have := okS.2.2 s hs8
        omega
      refine x_aload_n dX12_sits_310 rfl ?_
      refine x_gr dX12_sits_311 fX12_76 (by first | assumption) (fun _ _ _ => rfl) (by first | assumption) ?_
      refine x_iload_n dX12_sits_314 rfl ?_
      refine b_iald (r := r) (m := 24) (j := 21) (s) dX12_sits_315 (by first | assumption) (by first | rfl | omega) (by omega) (by decide) (by decide) ?_
      refine (show X _ _ 316 _ _ _ _ _ _ from ?_)
      refine X.val e21 ?_
      refine x_iload dX12_sits_316 rfl ?_
      refine (show X _ _ 318 _ _ _ _ _ _ from ?_)
      refine X.val (b := ((A 17 (8 * p + s)).toNat : Int)) (Int.toNat_of_nonneg hh.1).symm ?_
      refine y_iand dX12_sits_318 ?_
      refine x_goto 324 dX12_sits_319 (by decide) ?_
      refine (show X _ _ 324 _ _ _ _ _ _ from ?_)
      refine fin _ ?_
      rw [if_pos (by rw [← hls, h3])]
theorem c_sits {p y : Nat} (hM : MSh T R r) (hf : R r 3 = some f) (hG : FMS T R f) (hF : FMC V f A) (hA : VA A) (hap : apF f r) (hp : p < fP A) (hy : y < 24) (hN : NM A E N) (h16 : -100 ≤ E 16 p ∧ E 16 p ≤ 100) : X g mX12_sits 0 [.ref r, .int (iI (p : Int)), .int (iI (y : Int)), jk, jk] [] (T, iV (pB V r 24 E), R, J, z) k n (fun v M => v = none ∧ ∃ E' : Nat → Nat → Int, M = (T, iV (pB V r 24 E'), R, J, z) ∧ SitQ A E E' N p y) := by
  have bt := fun (E1 : Nat → Nat → Int) b p hb hp => c_bit g b p (T, iV (pB V r 24 E1), R, J, z) 0 0 hb hp
  have hin := fun (E1 : Nat → Nat → Int) (x lo hi : Int) h1 h2 h3 => c_in (g := g) (k := 0) (n := 0) (x := x) (lo := lo) (hi := hi) (M := (T, iV (pB V r 24 E1), R, J, z)) h1 h2 h3
  have hwr := fun (E1 N1 : Nat → Nat → Int) (hN1 : NM A E1 N1) kk => c_sitsW (g := g) (J := J) (z := z) (k := k) (n := n) (y := y) (E := E1) (N := N1) (Q := fun v M => v = none ∧ ∃ E' : Nat → Nat → Int, M = (T, iV (pB V r 24 E'), R, J, z) ∧ SitQ A E E' N p y) hM hf hG hF hA hap hp hN1 kk
  obtain ⟨m0, ⟨-, -, -, -, -, -, -, -, m24, -, -, -, -, -, m30, m31, m32, m33, m34, m35, m36, -, -⟩, ⟨-, -, -, -, -, -, -, -, mk9, -, -, -, -, -, mk15, mk16, mk17, mk18, mk19, mk20, mk21, -, -⟩⟩ := id hM
  obtain ⟨g0, ⟨g10, -, -, -, -, -, -, g17, g18, g19, g20, -, -, -, -, -, g26, -, -, -, -, -, -⟩, ⟨gk1, -, -, -, -, -, -, gk8, gk9, gk10, gk11, -, -, -, -, -, gk17, -, -, -, -, -, -⟩⟩ := id hG
  have eP := fP10 hA
  have eS := fS8 hA
  have e6 := hF.1 6 (by decide)
  have e4 := hF.1 4 (by decide)
  have e2 := hF.1 2 (by decide)
  have hA4 := hA.2.2.2.2.1
  have eL : ((fPl A : Nat) : Int) = A 0 4 := Int.toNat_of_nonneg hA4.1
  have hA0 := hA.1
  have hFp := hF.2.2.1
  have hAp := hA.2.2.2.2.2.2.2.2.2.2.1
  have ek : V (f + 1) p = A 1 p := hF.2.1 0 (by decide) p hp
  have hkb := (hA.2.2.2.2.2.2.2.2.2.1 p hp).1
  unfold apF at hap
  -- behind the plans
  have part3 : ∀ E1 : Nat → Nat → Int, (∀ a, a ≠ 0 → a ≠ 9 → a ≠ 15 → a ≠ 16 → a ≠ 17 → a ≠ 19 → E1 a = E a) → (∀ c, c ≠ 45 → E1 0 c = E 0 c) → E1 0 45 = (p : Int) → (E1 9 y = E 9 y + hmS A y p ∧ ∀ j, j ≠ y → E1 9 j = E 9 j) → E1 15 = u1 (E 15) p (E 15 p + 1) → E1 16 = u1 (E 16) p (E 16 p - 1) → (E1 19 p = E 19 p + hmS A y p ∧ ∀ j, j ≠ p → E1 19 j = E 19 j) → NM A E1 (nRead A p N) → X g mX12_sits 176 [.ref r, .int (iI (p : Int)), .int (iI (y : Int)), jk, jk] [] (T, iV (pB V r 24 E1), R, J, z) k n (fun v M => v = none ∧ ∃ E' : Nat → Nat → Int, M = (T, iV (pB V r 24 E'), R, J, z) ∧ SitQ A E E' N p y) := by
    intro E1 q1 q2 q3 q4 q5 q6 q7 q8
    have part4 : ∀ E2 : Nat → Nat → Int, (∀ a, a ≠ 0 → a ≠ 18 → E2 a = E1 a) → (∀ c, c ≠ 46 → E2 0 c = E1 0 c) → E2 0 46 = E 0 46 + (E 9 y + hmS A y p) → E2 18 = (if A 1 p = 2 then u1 (E 18) p (E 18 p - A 0 2) else E 18) → X g mX12_sits 220 [.ref r, .int (iI (p : Int)), .int (iI (y : Int)), jk, jk] [] (T, iV (pB V r 24 E2), R, J, z) k n (fun v M => v = none ∧ ∃ E' : Nat → Nat → Int, M = (T, iV (pB V r 24 E'), R, J, z) ∧ SitQ A E E' N p y) := by
      intro E2 w1 w2 w3 w4
      have hN2 : NM A E2 (nRead A p N) := NM_eq q8 (w2 38 (by decide)) (w1 17 (by decide) (by decide)) (w1 21 (by decide) (by decide))
      have h16' : E2 16 p = E 16 p - 1 := by rw [w1 16 (by decide) (by decide), q6, u1_s]
      refine x_aload_n dX12_sits_220 rfl ?_
      refine x_gr dX12_sits_221 fX12_61 (by first | assumption) (fun _ _ _ => rfl) (by first | assumption) ?_
      refine x_iload_n dX12_sits_224 rfl ?_
      refine b_iald (r := r) (m := 24) (j := 16) (p) dX12_sits_225 (by first | assumption) (by first | rfl | omega) (by omega) (by decide) (by decide) ?_
      refine (show X _ _ 226 _ _ _ _ _ _ from ?_)
      refine X.val h16' ?_
      refine y_if_ne 249 dX12_sits_226 (by decide) ⟨by omega, by omega⟩ (fun h1 => ?_) (fun h1 => ?_)
      · refine hwr E2 _ hN2 ?_
        intro E' y1 y2 y3
        refine ⟨rfl, E', rfl, fun a a0 a9 a15 a16 a17 a18 a19 a20 a21 => by rw [y1 a a0 a21, w1 a a0 a18, q1 a a0 a9 a15 a16 a17 a19], fun c c1 c2 c3 c4 => by rw [y2 c c1, w2 c c4, q2 c c3], by rw [y2 45 (by decide), w2 45 (by decide), q3], by rw [y2 46 (by decide), w3], ⟨by rw [y1 9 (by decide) (by decide), w1 9 (by decide) (by decide)]; exact q4.1, fun j hj => by rw [y1 9 (by decide) (by decide), w1 9 (by decide) (by decide)]; exact q4.2 j hj⟩, by rw [y1 15 (by decide) (by decide), w1 15 (by decide) (by decide), q5], by rw [y1 16 (by decide) (by decide), w1 16 (by decide) (by decide), q6], by rw [y1 18 (by decide) (by decide), w4], ⟨by rw [y1 19 (by decide) (by decide), w1 19 (by decide) (by decide)]; exact q7.1, fun j hj => by rw [y1 19 (by decide) (by decide), w1 19 (by decide) (by decide)]; exact q7.2 j hj⟩, ?_, ?_⟩
        · rw [if_neg h1]
          exact ⟨by rw [y1 20 (by decide) (by decide), w1 20 (by decide) (by decide), q1 20 (by decide) (by decide) (by decide) (by decide) (by decide) (by decide)], by rw [y2 44 (by decide), w2 44 (by decide), q2 44 (by decide)]⟩
        · unfold nTurn
          rw [decide_eq_false h1, if_neg (by decide)]
          exact y3
      · refine x_aload_n dX12_sits_229 rfl ?_
        refine x_gr dX12_sits_230 fX12_73 (by first | assumption) (fun _ _ _ => rfl) (by first | assumption) ?_
        refine x_iload_n dX12_sits_233 rfl ?_
        refine x_iload_n dX12_sits_234 rfl ?_
        refine y_iconst dX12_sits_235 ?_
        refine y_iadd dX12_sits_236 ?_
        refine b_iast (r := r) (m := 24) (j := 20) (p) dX12_sits_237 (by first | assumption) (by first | rfl | omega) (by omega) (by decide) (by decide) ?_
        refine x_aload_n dX12_sits_238 rfl ?_
        refine (show X _ _ 239 _ _ _ _ _ _ from ?_)
        refine x_dup dX12_sits_239 rfl ?_
        refine b_gi0 (r := r) (m := 24) dX12_sits_240 fX12_434 (by first | assumption) (fun _ _ _ => rfl) (by decide) ?_
        refine y_iconst dX12_sits_243 ?_
        refine y_iadd dX12_sits_244 ?_
        refine b_pi0 (r := r) (m := 24) dX12_sits_245 (pX12_434 _) (by first | assumption) (fun _ _ _ => rfl) rfl rfl (by decide) ?_
        refine (show X _ _ 248 _ _ _ _ _ _ from ?_)
        refine x_return dX12_sits_248 rfl ⟨rfl, _, rfl, fun a a0 a9 a15 a16 a17 a18 a19 a20 a21 => by rw [u2_n a0, u2_n a20, w1 a a0 a18, q1 a a0 a9 a15 a16 a17 a19], fun c c1 c2 c3 c4 => by rw [u2_s, u1_n c2, u2_n (by decide), w2 c c4, q2 c c3], by rw [u2_s, u1_n (by decide), u2_n (by decide), w2 45 (by decide), q3], by rw [u2_s, u1_n (by decide), u2_n (by decide), w3], ⟨by rw [u2_n (by decide), u2_n (by decide), w1 9 (by decide) (by decide)]; exact q4.1, fun j hj => by rw [u2_n (by decide), u2_n (by decide), w1 9 (by decide) (by decide)]; exact q4.2 j hj⟩, by rw [u2_n (by decide), u2_n (by decide), w1 15 (by decide) (by decide), q5], by rw [u2_n (by decide), u2_n (by decide), w1 16 (by decide) (by decide), q6], by rw [u2_n (by decide), u2_n (by decide), w4], ⟨by rw [u2_n (by decide), u2_n (by decide), w1 19 (by decide) (by decide)]; exact q7.1, fun j hj => by rw [u2_n (by decide), u2_n (by decide), w1 19 (by decide) (by decide)]; exact q7.2 j hj⟩, ?_, ?_⟩
        · rw [if_pos h1]
          refine ⟨?_, by rw [u2_s, u1_s, u2_n (by decide), w2 44 (by decide), q2 44 (by decide)]⟩
          rw [u2_n (by decide), u2_s, w1 20 (by decide) (by decide), q1 20 (by decide) (by decide) (by decide) (by decide) (by decide) (by decide)]
        · unfold nTurn
          rw [decide_eq_true h1, if_pos rfl]
          exact NM_eq hN2 (by rw [u2_s, u1_n (by decide), u2_n (by decide)]) (by rw [u2_n (by decide), u2_n (by decide)]) (by rw [u2_n (by decide), u2_n (by decide)])
    refine x_aload_n dX12_sits_176 rfl ?_
    refine x_dup dX12_sits_177 rfl ?_
    refine b_gi0 (r := r) (m := 24) dX12_sits_178 fX12_437 (by first | assumption) (fun _ _ _ => rfl) (by decide) ?_
    refine (show X _ _ 181 _ _ _ _ _ _ from ?_)
    refine X.val (q2 46 (by decide)) ?_
    refine x_aload_n dX12_sits_181 rfl ?_
    refine x_gr dX12_sits_182 fX12_39 (by first | assumption) (fun _ _ _ => rfl) (by first | assumption) ?_
    refine x_iload_n dX12_sits_185 rfl ?_
    refine b_iald (r := r) (m := 24) (j := 9) (y) dX12_sits_186 (by first | assumption) (by first | rfl | omega) (by omega) (by decide) (by decide) ?_
    refine (show X _ _ 187 _ _ _ _ _ _ from ?_)
    refine X.val q4.1 ?_
    refine y_iadd dX12_sits_187 ?_
    refine b_pi0 (r := r) (m := 24) dX12_sits_188 (pX12_437 _) (by first | assumption) (fun _ _ _ => rfl) rfl rfl (by decide) ?_
    refine x_aload_n dX12_sits_191 rfl ?_
    refine x_gr dX12_sits_192 fX12_409 (by first | assumption) (fun _ _ _ => rfl) (by first | assumption) ?_
    refine x_gr dX12_sits_195 fX12_323 (by first | assumption) (fun _ _ _ => rfl) (by first | assumption) ?_
    refine x_iload_n dX12_sits_198 rfl ?_
    refine b_ialo (r := r) (m := 24) (p) dX12_sits_199 (by first | assumption) (by first | rfl | omega) (by omega) (by decide) (by omega) ?_
    refine (show X _ _ 200 _ _ _ _ _ _ from ?_)
    refine X.val ek ?_
    refine y_iconst dX12_sits_200 ?_
    refine (show X _ _ 201 _ _ _ _ _ _ from ?_)
    refine y_icmp_ne 220 dX12_sits_201 (by decide) ⟨by omega, by omega⟩ ⟨by omega, by omega⟩ (fun h1 => ?_) (fun h1 => ?_)
    · refine part4 _ (fun a h0 _ => u2_n h0) (fun c hc => by rw [u2_s, u1_n hc]) (by rw [u2_s, u1_s]) ?_
      rw [if_neg h1, u2_n (by decide), q1 18 (by decide) (by decide) (by decide) (by decide) (by decide) (by decide)]
    · refine x_aload_n dX12_sits_204 rfl ?_
      refine x_gr dX12_sits_205 fX12_67 (by first | assumption) (fun _ _ _ => rfl) (by first | assumption) ?_
      refine x_iload_n dX12_sits_208 rfl ?_
      refine x_dup2 dX12_sits_209 rfl rfl ?_
      refine b_iald (r := r) (m := 24) (j := 18) (p) dX12_sits_210 (by first | assumption) (by first | rfl | omega) (by omega) (by decide) (by decide) ?_
      refine x_aload_n dX12_sits_211 rfl ?_
      refine x_gr dX12_sits_212 fX12_409 (by first | assumption) (fun _ _ _ => rfl) (by first | assumption) ?_
      refine b_gio (r := r) (m := 24) dX12_sits_215 fX12_279 (by first | assumption) (fun _ _ _ => rfl) (by omega) ?_
      refine (show X _ _ 218 _ _ _ _ _ _ from ?_)
      refine X.val e2 ?_
      refine y_isub dX12_sits_218 ?_
      refine b_iast (r := r) (m := 24) (j := 18) (p) dX12_sits_219 (by first | assumption) (by first | rfl | omega) (by omega) (by decide) (by decide) ?_
      refine (show X _ _ 220 _ _ _ _ _ _ from ?_)
      refine part4 _ (fun a h0 h18 => by rw [u2_n h18, u2_n h0]) (fun c hc => by rw [u2_n (by decide), u2_s, u1_n hc]) (by rw [u2_n (by decide), u2_s, u1_s]) ?_
      rw [if_pos h1, u2_s, u2_n (by decide), q1 18 (by decide) (by decide) (by decide) (by decide) (by decide) (by decide)]
  -- behind the notes
  have part2 : ∀ E1 : Nat → Nat → Int, (∀ a, a ≠ 0 → a ≠ 15 → a ≠ 17 → E1 a = E a) → (∀ c, c ≠ 45 → E1 0 c = E 0 c) → E1 0 45 = (p : Int) → E1 15 = u1 (E 15) p (E 15 p + 1) → NM A E1 (nRead A p N) → X g mX12_sits 70 [.ref r, .int (iI (p : Int)), .int (iI (y : Int)), jk, jk] [] (T, iV (pB V r 24 E1), R, J, z) k n (fun v M => v = none ∧ ∃ E' : Nat → Nat → Int, M = (T, iV (pB V r 24 E'), R, J, z) ∧ SitQ A E E' N p y) := by
    intro E1 q1 q2 q3 q4 q5
    refine x_aload_n dX12_sits_70 rfl ?_
    refine x_gr dX12_sits_71 fX12_61 (by first | assumption) (fun _ _ _ => rfl) (by first | assumption) ?_
    refine x_iload_n dX12_sits_74 rfl ?_
    refine x_dup2 dX12_sits_75 rfl rfl ?_
    refine b_iald (r := r) (m := 24) (j := 16) (p) dX12_sits_76 (by first | assumption) (by first | rfl | omega) (by omega) (by decide) (by decide) ?_
    refine y_iconst dX12_sits_77 ?_
    refine y_isub dX12_sits_78 ?_
    refine b_iast (r := r) (m := 24) (j := 16) (p) dX12_sits_79 (by first | assumption) (by first | rfl | omega) (by omega) (by decide) (by decide) ?_
    refine (show X _ _ 80 _ _ _ _ _ _ from ?_)
    refine y_iconst dX12_sits_80 ?_
    refine x_istore_n dX12_sits_81 (by decide) rfl rfl ?_
    refine (show X _ _ 82 _ _ _ _ _ _ from ?_)
    refine loopN (P := fun i => ∀ E2 : Nat → Nat → Int, (∀ a, a ≠ 9 → a ≠ 16 → a ≠ 19 → E2 a = E1 a) → E2 16 = u1 (E 16) p (E 16 p - 1) → (E2 9 y = E 9 y + hmP A y i p ∧ ∀ j, j ≠ y → E2 9 j = E 9 j) → (E2 19 p = E 19 p + hmP A y i p ∧ ∀ j, j ≠ p → E2 19 j = E 19 j) → X g mX12_sits 82 [.ref r, .int (iI (p : Int)), .int (iI (y : Int)), .int (iI (i : Int)), jk] [] (T, iV (pB V r 24 E2), R, J, z) k n (fun v M => v = none ∧ ∃ E' : Nat → Nat → Int, M = (T, iV (pB V r 24 E'), R, J, z) ∧ SitQ A E E' N p y)) (fPl A) ?_ (fun i hi ih => ?_) _ (fun a h9 h16 h19 => u2_n h16) ?_ ?_ ?_
    · intro E2 w1 w2 w3 w4
      refine x_iload_n dX12_sits_82 rfl ?_
      refine x_aload_n dX12_sits_83 rfl ?_
      refine x_gr dX12_sits_84 fX12_409 (by first | assumption) (fun _ _ _ => rfl) (by first | assumption) ?_
      refine b_gio (r := r) (m := 24) dX12_sits_87 fX12_337 (by first | assumption) (fun _ _ _ => rfl) (by omega) ?_
      refine (show X _ _ 90 _ _ _ _ _ _ from ?_)
      refine X.val e4 ?_
      refine y_icmp_ge 176 dX12_sits_90 (by decide) ⟨by omega, by omega⟩ ⟨by omega, by omega⟩ (fun h1 => ?_) (fun h1 => ?_)
      rotate_left
      · omega
      refine X.drop 3 rfl (part3 E2 (fun a h0 h9 h15 h16 h17 h19 => by rw [w1 a h9 h16 h19, q1 a h0 h15 h17]) (fun c hc => by rw [w1 0 (by decide) (by decide) (by decide), q2 c hc]) (by rw [w1 0 (by decide) (by decide) (by decide), q3]) w3 (by rw [w1 15 (by decide) (by decide) (by decide), q4]) w2 w4 (NM_eq q5 (by rw [w1 0 (by decide) (by decide) (by decide)]) (w1 17 (by decide) (by decide) (by decide)) (w1 21 (by decide) (by decide) (by decide))))
    · intro E2 w1 w2 w3 w4
      have v8 : V (f + 8) i = A 8 i := hFp 0 (by decide) i hi
      have v9 : V (f + 9) i = A 9 i := hFp 1 (by decide) i hi
      have v10 : V (f + 10) i = A 10 i := hFp 2 (by decide) i hi
      have v11 : V (f + 11) i = A 11 i := hFp 3 (by decide) i hi
      have hpb := hAp i hi
      have hA3 := hA.2.2.2.1
      have es : hmP A y (i + 1) p = if A 8 i = p ∧ A 9 i ≤ y ∧ (y : Int) ≤ A 10 i then hmP A y i p + A 11 i else hmP A y i p := rfl
      rw [es] at ih
      refine x_iload_n dX12_sits_82 rfl ?_
      refine x_aload_n dX12_sits_83 rfl ?_
      refine x_gr dX12_sits_84 fX12_409 (by first | assumption) (fun _ _ _ => rfl) (by first | assumption) ?_
      refine b_gio (r := r) (m := 24) dX12_sits_87 fX12_337 (by first | assumption) (fun _ _ _ => rfl) (by omega) ?_
      refine (show X _ _ 90 _ _ _ _ _ _ from ?_)
      refine X.val e4 ?_
      refine y_icmp_ge 176 dX12_sits_90 (by decide) ⟨by omega, by omega⟩ ⟨by omega, by omega⟩ (fun h1 => ?_) (fun h1 => ?_)
      · omega
      refine x_aload_n dX12_sits_93 rfl ?_
      refine x_gr dX12_sits_94 fX12_409 (by first | assumption) (fun _ _ _ => rfl) (by first | assumption) ?_
      refine x_gr dX12_sits_97 fX12_347 (by first | assumption) (fun _ _ _ => rfl) (by first | assumption) ?_
      refine x_iload_n dX12_sits_100 rfl ?_
      refine b_ialo (r := r) (m := 24) (i) dX12_sits_101 (by first | assumption) (by first | rfl | omega) (by omega) (by decide) (by omega) ?_
      refine (show X _ _ 102 _ _ _ _ _ _ from ?_)
      refine X.val v8 ?_
      refine x_iload_n dX12_sits_102 rfl ?_
      refine (show X _ _ 103 _ _ _ _ _ _ from ?_)
      refine y_icmp_ne 170 dX12_sits_103 (by decide) ⟨by omega, by omega⟩ ⟨by omega, by omega⟩ (fun h2 => ?_) (fun h2 => ?_)
      · rw [if_neg (fun c => h2 c.1)] at ih
        refine y_iinc dX12_sits_170 rfl (by decide) rfl rfl ?_
        refine x_goto 82 dX12_sits_173 (by decide) ?_
        refine (show X _ _ 82 _ _ _ _ _ _ from ?_)
        exact ih E2 w1 w2 w3 w4
      refine x_iload_n dX12_sits_106 rfl ?_
      refine x_aload_n dX12_sits_107 rfl ?_
      refine x_gr dX12_sits_108 fX12_409 (by first | assumption) (fun _ _ _ => rfl) (by first | assumption) ?_
      refine x_gr dX12_sits_111 fX12_350 (by first | assumption) (fun _ _ _ => rfl) (by first | assumption) ?_
      refine x_iload_n dX12_sits_114 rfl ?_
      refine b_ialo (r := r) (m := 24) (i) dX12_sits_115 (by first | assumption) (by first | rfl | omega) (by omega) (by decide) (by omega) ?_
      refine (show X _ _ 116 _ _ _ _ _ _ from ?_)
      refine X.val v9 ?_
      refine x_aload_n dX12_sits_116 rfl ?_
      refine x_gr dX12_sits_117 fX12_409 (by first | assumption) (fun _ _ _ => rfl) (by first | assumption) ?_
      refine x_gr dX12_sits_120 fX12_353 (by first | assumption) (fun _ _ _ => rfl) (by first | assumption) ?_
      refine x_iload_n dX12_sits_123 rfl ?_
      refine b_ialo (r := r) (m := 24) (i) dX12_sits_124 (by first | assumption) (by first | rfl | omega) (by omega) (by decide) (by omega) ?_
      refine (show X _ _ 125 _ _ _ _ _ _ from ?_)
      refine X.val v10 ?_
      refine x_callS (As := [_, _, _]) (mc := 0) (ms := 0) (z := mX12_in) dX12_sits_125 lX12_160 oX12_in (by decide) rfl (Nat.le_of_ble_eq_true rfl) (Nat.le_of_ble_eq_true rfl) rfl (hin E2 (y : Int) (A 9 i) (A 10 i) ⟨by omega, by omega⟩ ⟨by omega, by omega⟩ ⟨by omega, by omega⟩) (k_I ?_)
      refine (show X _ _ 128 _ _ _ _ _ _ from ?_)
      refine y_ifb_ne 134 dX12_sits_128 (by decide) (fun h3 => ?_) (fun h3 => ?_)
      rotate_left
      · rw [if_neg (fun c => (of_decide_eq_false h3) c.2)] at ih
        refine x_goto 170 dX12_sits_131 (by decide) ?_
        refine y_iinc dX12_sits_170 rfl (by decide) rfl rfl ?_
        refine x_goto 82 dX12_sits_173 (by decide) ?_
        refine (show X _ _ 82 _ _ _ _ _ _ from ?_)
        exact ih E2 w1 w2 w3 w4
      rw [if_pos ⟨h2, of_decide_eq_true h3⟩] at ih
      refine x_aload_n dX12_sits_134 rfl ?_
      refine x_gr dX12_sits_135 fX12_39 (by first | assumption) (fun _ _ _ => rfl) (by first | assumption) ?_
      refine x_iload_n dX12_sits_138 rfl ?_
      refine x_dup2 dX12_sits_139 rfl rfl ?_
      refine b_iald (r := r) (m := 24) (j := 9) (y) dX12_sits_140 (by first | assumption) (by first | rfl | omega) (by omega) (by decide) (by decide) ?_
      refine x_aload_n dX12_sits_141 rfl ?_
      refine x_gr dX12_sits_142 fX12_409 (by first | assumption) (fun _ _ _ => rfl) (by first | assumption) ?_
      refine x_gr dX12_sits_145 fX12_356 (by first | assumption) (fun _ _ _ => rfl) (by first | assumption) ?_
      refine (show X _ _ 148 _ _ _ _ _ _ from ?_)
      refine x_iload_n dX12_sits_148 rfl ?_
      refine b_ialo (r := r) (m := 24) (i) dX12_sits_149 (by first | assumption) (by first | rfl | omega) (by omega) (by decide) (by omega) ?_
      refine (show X _ _ 150 _ _ _ _ _ _ from ?_)
      refine X.val v11 ?_
      refine y_iadd dX12_sits_150 ?_
      refine b_iast (r := r) (m := 24) (j := 9) (y) dX12_sits_151 (by first | assumption) (by first | rfl | omega) (by omega) (by decide) (by decide) ?_
      refine x_aload_n dX12_sits_152 rfl ?_
      refine x_gr dX12_sits_153 fX12_70 (by first | assumption) (fun _ _ _ => rfl) (by first | assumption) ?_
      refine x_iload_n dX12_sits_156 rfl ?_
      refine x_dup2 dX12_sits_157 rfl rfl ?_
      refine b_iald (r := r) (m := 24) (j := 19) (p) dX12_sits_158 (by first | assumption) (by first | rfl | omega) (by omega) (by decide) (by decide) ?_
      refine x_aload_n dX12_sits_159 rfl ?_
      refine (show X _ _ 160 _ _ _ _ _ _ from ?_)
      refine x_gr dX12_sits_160 fX12_409 (by first | assumption) (fun _ _ _ => rfl) (by first | assumption) ?_
      refine x_gr dX12_sits_163 fX12_356 (by first | assumption) (fun _ _ _ => rfl) (by first | assumption) ?_
      refine x_iload_n dX12_sits_166 rfl ?_
      refine b_ialo (r := r) (m := 24) (i) dX12_sits_167 (by first | assumption) (by first | rfl | omega) (by omega) (by decide) (by omega) ?_
      refine (show X _ _ 168 _ _ _ _ _ _ from ?_)
      refine X.val v11 ?_
      refine y_iadd dX12_sits_168 ?_
      refine b_iast (r := r) (m := 24) (j := 19) (p) dX12_sits_169 (by first | assumption) (by first | rfl | omega) (by omega) (by decide) (by decide) ?_
      refine y_iinc dX12_sits_170 rfl (by decide) rfl rfl ?_
      refine x_goto 82 dX12_sits_173 (by decide) ?_
      refine (show X _ _ 82 _ _ _ _ _ _ from ?_)
      refine ih _ (fun a h9 h16 h19 => by rw [u2_n h19, u2_n h9, w1 a h9 h16 h19]) (by rw [u2_n (by decide), u2_n (by decide), w2]) ⟨by rw [u2_n (by decide), u2_s, u1_s, w3.1]; omega, fun j hj => by rw [u2_n (by decide), u2_s, u1_n hj, w3.2 j hj]⟩ ⟨by rw [u2_s, u1_s, u2_n (by decide), w4.1]; omega, fun j hj => by rw [u2_s, u1_n hj, u2_n (by decide), w4.2 j hj]⟩
    · rw [u2_s, q1 16 (by decide) (by decide) (by decide)]
    · rw [u2_n (by decide), q1 9 (by decide) (by decide) (by decide)]
      exact ⟨by show _ = E 9 y + 0; omega, fun _ _ => rfl⟩
    · rw [u2_n (by decide), q1 19 (by decide) (by decide) (by decide)]
      exact ⟨by show _ = E 19 p + 0; omega, fun _ _ => rfl⟩
  refine x_aload_n dX12_sits_0 rfl ?_
  refine x_iload_n dX12_sits_1 rfl ?_
  refine b_pi0 (r := r) (m := 24) dX12_sits_2 (pX12_443 _) (by first | assumption) (fun _ _ _ => rfl) rfl rfl (by decide) ?_
  refine x_aload_n dX12_sits_5 rfl ?_
  refine x_gr dX12_sits_6 fX12_58 (by first | assumption) (fun _ _ _ => rfl) (by first | assumption) ?_
  refine x_iload_n dX12_sits_9 rfl ?_
  refine x_dup2 dX12_sits_10 rfl rfl ?_
  refine b_iald (r := r) (m := 24) (j := 15) (p) dX12_sits_11 (by first | assumption) (by first | rfl | omega) (by omega) (by decide) (by decide) ?_
  refine (show X _ _ 12 _ _ _ _ _ _ from ?_)
  refine y_iconst dX12_sits_12 ?_
  refine y_iadd dX12_sits_13 ?_
  refine b_iast (r := r) (m := 24) (j := 15) (p) dX12_sits_14 (by first | assumption) (by first | rfl | omega) (by omega) (by decide) (by decide) ?_
  refine y_iconst dX12_sits_15 ?_
  refine x_istore_n dX12_sits_16 (by decide) rfl rfl ?_
  refine (show X _ _ 17 _ _ _ _ _ _ from ?_)
  refine loopN (P := fun s => ∀ E1 : Nat → Nat → Int, (∀ a, a ≠ 0 → a ≠ 15 → a ≠ 17 → E1 a = E a) → (∀ c, c ≠ 45 → E1 0 c = E 0 c) → E1 0 45 = (p : Int) → E1 15 = u1 (E 15) p (E 15 p + 1) → NM A E1 (lp s (nRd p) N) → X g mX12_sits 17 [.ref r, .int (iI (p : Int)), .int (iI (y : Int)), .int (iI (s : Int)), jk] [] (T, iV (pB V r 24 E1), R, J, z) k n (fun v M => v = none ∧ ∃ E' : Nat → Nat → Int, M = (T, iV (pB V r 24 E'), R, J, z) ∧ SitQ A E E' N p y)) (fSe A) ?_ (fun s hs ih => ?_) _ (fun a h0 h15 h17 => by rw [u2_n h15, u2_n h0]) (fun c hc => by rw [u2_n (by decide), u2_s, u1_n hc]) (by rw [u2_n (by decide), u2_s, u1_s]) (by rw [u2_s, u2_n (by decide)]) (NM_eq hN (by rw [u2_n (by decide), u2_s, u1_n (by decide)]) (by rw [u2_n (by decide), u2_n (by decide)]) (by rw [u2_n (by decide), u2_n (by decide)]))
  · intro E1 q1 q2 q3 q4 q5
    refine x_iload_n dX12_sits_17 rfl ?_
    refine x_aload_n dX12_sits_18 rfl ?_
    refine x_gr dX12_sits_19 fX12_409 (by first | assumption) (fun _ _ _ => rfl) (by first | assumption) ?_
    refine b_gio (r := r) (m := 24) dX12_sits_22 fX12_375 (by first | assumption) (fun _ _ _ => rfl) (by omega) ?_
    refine (show X _ _ 25 _ _ _ _ _ _ from ?_)
    refine X.val e6 ?_
    refine y_icmp_ge 70 dX12_sits_25 (by decide) ⟨by omega, by omega⟩ ⟨by omega, by omega⟩ (fun h1 => ?_) (fun h1 => ?_)
    rotate_left
    · omega
    exact X.drop 3 rfl (part2 E1 q1 q2 q3 q4 q5)
  · intro E1 q1 q2 q3 q4 q5
    have hs8 : s < 8 := by omega
    obtain ⟨m1, m2, m3, m4, m5⟩ := id q5
    rw [lp_s] at ih
    generalize lp s (nRd p) N = N1 at *
    unfold nRd at ih
    have hly : E1 0 38 = ((N1 0 1).toNat : Int) := by rw [m1]; have := m4.1; omega
    have hkn := m4.2.1 p (by omega)
    have btl := bt E1 (N1 0 1).toNat s (by have := m4.1; omega) (by omega)
    refine x_iload_n dX12_sits_17 rfl ?_
    refine x_aload_n dX12_sits_18 rfl ?_
    refine x_gr dX12_sits_19 fX12_409 (by first | assumption) (fun _ _ _ => rfl) (by first | assumption) ?_
    refine b_gio (r := r) (m := 24) dX12_sits_22 fX12_375 (by first | assumption) (fun _ _ _ => rfl) (by omega) ?_
    refine (show X _ _ 25 _ _ _ _ _ _ from ?_)
    refine X.val e6 ?_
    refine y_icmp_ge 70 dX12_sits_25 (by decide) ⟨by omega, by omega⟩ ⟨by omega, by omega⟩ (fun h1 => ?_) (fun h1 => ?_)
    · omega
    refine x_aload_n dX12_sits_28 rfl ?_
    refine b_gi0 (r := r) (m := 24) dX12_sits_29 fX12_440 (by first | assumption) (fun _ _ _ => rfl) (by decide) ?_
    refine (show X _ _ 32 _ _ _ _ _ _ from ?_)
    refine X.val hly ?_
    refine x_iload_n dX12_sits_32 rfl ?_
    refine (show X _ _ 33 _ _ _ _ _ _ from ?_)
    refine x_callS (As := [_, _]) (mc := 0) (ms := 0) (z := mX12_bit) dX12_sits_33 lX12_386 oX12_bit (by decide) rfl (Nat.le_of_ble_eq_true rfl) (Nat.le_of_ble_eq_true rfl) rfl (btl) (k_I ?_)
    refine (show X _ _ 36 _ _ _ _ _ _ from ?_)
    refine y_ifb_eq 64 dX12_sits_36 (by decide) (fun h2 => ?_) (fun h2 => ?_)
    · rw [if_neg (fun c => by rw [h2] at c; cases c.1)] at ih
      refine y_iinc dX12_sits_64 rfl (by decide) rfl rfl ?_
      refine x_goto 17 dX12_sits_67 (by decide) ?_
      refine (show X _ _ 17 _ _ _ _ _ _ from ?_)
      exact ih E1 q1 q2 q3 q4 q5
    have hfr := m4.2.2 s hs8
    have e21 : E1 21 s = ((N1 2 s).toNat : Int) := by rw [m3 s hs8 h2]; omega
    have btf := bt E1 (N1 2 s).toNat p (by omega) (by omega)
    refine x_aload_n dX12_sits_39 rfl ?_
    refine x_gr dX12_sits_40 fX12_76 (by first | assumption) (fun _ _ _ => rfl) (by first | assumption) ?_
    refine x_iload_n dX12_sits_43 rfl ?_
    refine b_iald (r := r) (m := 24) (j := 21) (s) dX12_sits_44 (by first | assumption) (by first | rfl | omega) (by omega) (by decide) (by decide) ?_
    refine (show X _ _ 45 _ _ _ _ _ _ from ?_)
    refine X.val e21 ?_
    refine x_iload_n dX12_sits_45 rfl ?_
    refine (show X _ _ 46 _ _ _ _ _ _ from ?_)
    refine x_callS (As := [_, _]) (mc := 0) (ms := 0) (z := mX12_bit) dX12_sits_46 lX12_386 oX12_bit (by decide) rfl (Nat.le_of_ble_eq_true rfl) (Nat.le_of_ble_eq_true rfl) rfl (btf) (k_I ?_)
    refine (show X _ _ 49 _ _ _ _ _ _ from ?_)
    refine y_ifb_ne 64 dX12_sits_49 (by decide) (fun h3 => ?_) (fun h3 => ?_)
    · rw [if_neg (fun c => by rw [h3] at c; cases c.2)] at ih
      refine y_iinc dX12_sits_64 rfl (by decide) rfl rfl ?_
      refine x_goto 17 dX12_sits_67 (by decide) ?_
      refine (show X _ _ 17 _ _ _ _ _ _ from ?_)
      exact ih E1 q1 q2 q3 q4 q5
    rw [if_pos ⟨h2, h3⟩] at ih
    have e17 : E1 17 p = ((N1 1 p).toNat : Int) := by rw [m2 p (by omega)]; omega
    refine x_aload_n dX12_sits_52 rfl ?_
    refine x_gr dX12_sits_53 fX12_64 (by first | assumption) (fun _ _ _ => rfl) (by first | assumption) ?_
    refine x_iload_n dX12_sits_56 rfl ?_
    refine x_dup2 dX12_sits_57 rfl rfl ?_
    refine b_iald (r := r) (m := 24) (j := 17) (p) dX12_sits_58 (by first | assumption) (by first | rfl | omega) (by omega) (by decide) (by decide) ?_
    refine (show X _ _ 59 _ _ _ _ _ _ from ?_)
    refine X.val e17 ?_
    refine y_iconst dX12_sits_59 ?_
    refine x_iload_n dX12_sits_60 rfl ?_
    refine y_ishl (s) dX12_sits_61 (by first | rfl | omega) (by omega) ?_
    refine y_ior dX12_sits_62 ?_
    refine b_iast (r := r) (m := 24) (j := 17) (p) dX12_sits_63 (by first | assumption) (by first | rfl | omega) (by omega) (by decide) (by decide) ?_
    refine y_iinc dX12_sits_64 rfl (by decide) rfl rfl ?_
    refine x_goto 17 dX12_sits_67 (by decide) ?_
    refine (show X _ _ 17 _ _ _ _ _ _ from ?_)
    refine ih _ (fun a h0 h15 h17 => by rw [u2_n h17, q1 a h0 h15 h17]) (fun c hc => by rw [u2_n (by decide), q2 c hc]) (by rw [u2_n (by decide), q3]) (by rw [u2_n (by decide), q4]) ⟨by rw [u2_n (by decide), u2_n (by decide), m1], fun q hq => ?_, fun i hi ht => ?_, NOk.u1p m4 (orI m4 (by omega) hs8), fun q hq => ?_⟩
    · rw [u2_s, u2_s]
      by_cases e : q = p
      · rw [e, u1_s, u1_s]
      · rw [u1_n e, u1_n e, m2 q hq]
    · rw [u2_n (by decide)] at ht
      rw [u2_n (by decide), u2_n (by decide)]; exact m3 i hi ht
    · rw [u2_s]
      by_cases e : q = p
      · rw [e, u1_s, Int.toNat_natCast]; exact or_lt2 (m5 p (by omega)) hs
      · rw [u1_n e]; exact m5 q hq
end C90
