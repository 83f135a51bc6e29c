/-! ===== the reference's object as a state ===== -/
def DI (T : Nat → Nat × Nat) (R : Nat → Nat → Option Nat) (V : Nat → Nat → Int) (r f : Nat) (E : Nat → Nat → Int) (t : Nat → Int) (tp : Nat) (h : Bool) (A B : Nat → Nat → Int) (a m : Nat) (H K : Nat → Nat → Nat → Int) (wr pl tr : Int) : Prop :=
  MSh T R r ∧ (E 0 1 = tr ∧ E 0 2 = (if tr = 4 then pl else -1) ∧ E 0 12 = wr) ∧ (E 1 = t ∧ E 0 6 = (tp : Int) ∧ tp ≤ 1100) ∧ ((E 0 18 = (a : Int) ∧ a ≤ 12) ∧ E 0 19 = (m : Int) ∧ m ≤ 3) ∧ (-2 ≤ E 0 43 ∧ E 0 43 ≤ 9) ∧ (h = false → R r 3 = none ∧ a = 0 ∧ m = 0) ∧
  (h = true → (R r 3 = some f ∧ FMS T R f ∧ FMC V f A ∧ apF f r) ∧ (VA A ∧ VB A B ∧ 4 ≤ A 0 0 ∧ 1 ≤ A 0 3) ∧ NV (E 2) A B ∧ (∀ i, i < a → NV (fun j => E 3 (45 * i + j)) A (H i)) ∧ ∀ i, i < m → NV (fun j => E 4 (45 * i + j)) A (K i))
def DQ (T : Nat → Nat × Nat) (R : Nat → Nat → Option Nat) (J : Nat → Nat → Int64) (z : Nat) (V : Nat → Nat → Int) (r f : Nat) (v0 : Option Value) (t : Nat → Int) (tp : Nat) (h : Bool) (A B : Nat → Nat → Int) (a m : Nat) (H K : Nat → Nat → Nat → Int) (wr pl tr : Int) : Option Value → Mem → Prop := fun v M => v = v0 ∧ ∃ E' : Nat → Nat → Int, M = (T, iV (pB V r 24 E'), R, J, z) ∧ DI T R V r f E' t tp h A B a m H K wr pl tr
section DIs
variable {T : Nat → Nat × Nat} {R : Nat → Nat → Option Nat} {J : Nat → Nat → Int64} {z : Nat} {V E E' : Nat → Nat → Int} {r f : Nat} {t : Nat → Int} {tp : Nat} {h : Bool} {A B : Nat → Nat → Int} {a m : Nat} {H K : Nat → Nat → Nat → Int} {wr pl tr tr' : Int}
/-- nothing that is kept has changed -/
def Sc (E E' : Nat → Nat → Int) : Prop := (∀ b, b = 1 ∨ b = 2 ∨ b = 3 ∨ b = 4 → E' b = E b) ∧ (∀ c, c = 1 ∨ c = 2 ∨ c = 6 ∨ c = 12 ∨ c = 18 ∨ c = 19 → E' 0 c = E 0 c) ∧ (-2 ≤ E' 0 43 ∧ E' 0 43 ≤ 9)
theorem Sc_t {E2 : Nat → Nat → Int} (h1 : Sc E E') (h2 : Sc E' E2) : Sc E E2 := ⟨fun b hb => (h2.1 b hb).trans (h1.1 b hb), fun c hc => (h2.2.1 c hc).trans (h1.2.1 c hc), h2.2.2⟩
theorem DI_sc (hI : DI T R V r f E t tp h A B a m H K wr pl tr) (hs : Sc E E') : DI T R V r f E' t tp h A B a m H K wr pl tr := by
  obtain ⟨d1, ⟨d2, d3, d4⟩, ⟨d5, d6, d7⟩, ⟨⟨d8, d9⟩, d10, d11⟩, d12, d13, d14⟩ := hI
  obtain ⟨s1, s2, s3⟩ := hs
  refine ⟨d1, ⟨by rw [s2 1 (by omega)]; exact d2, by rw [s2 2 (by omega)]; exact d3, by rw [s2 12 (by omega)]; exact d4⟩, ⟨by rw [s1 1 (by omega)]; exact d5, by rw [s2 6 (by omega)]; exact d6, d7⟩, ⟨⟨by rw [s2 18 (by omega)]; exact d8, d9⟩, by rw [s2 19 (by omega)]; exact d10, d11⟩, s3, d13, fun hh => ?_⟩
  obtain ⟨g1, g2, g3, g4, g5⟩ := d14 hh
  exact ⟨g1, g2, by rw [s1 2 (by omega)]; exact g3, by rw [s1 3 (by omega)]; exact g4, by rw [s1 4 (by omega)]; exact g5⟩
theorem DI_tr (hI : DI T R V r f E t tp h A B a m H K wr pl tr) (x : Int) (hx : x ≠ 4) : DI T R V r f (u2 (u2 E 0 1 x) 0 2 (-1)) t tp h A B a m H K wr pl x := by
  obtain ⟨d1, ⟨d2, d3, d4⟩, ⟨d5, d6, d7⟩, ⟨⟨d8, d9⟩, d10, d11⟩, d12, d13, d14⟩ := hI
  have h0 : ∀ c, c ≠ 1 → c ≠ 2 → u2 (u2 E 0 1 x) 0 2 (-1) 0 c = E 0 c := fun c c1 c2 => by rw [u2_s, u1_n c2, u2_s, u1_n c1]
  have ha : ∀ b, b ≠ 0 → u2 (u2 E 0 1 x) 0 2 (-1) b = E b := fun b hb => by rw [u2_n hb, u2_n hb]
  refine ⟨d1, ⟨by rw [u2_s, u1_n (by decide), u2_s, u1_s], by rw [u2_s, u1_s, if_neg hx], by rw [h0 12 (by decide) (by decide)]; exact d4⟩, ⟨by rw [ha 1 (by decide)]; exact d5, by rw [h0 6 (by decide) (by decide)]; exact d6, d7⟩, ⟨⟨by rw [h0 18 (by decide) (by decide)]; exact d8, d9⟩, by rw [h0 19 (by decide) (by decide)]; exact d10, d11⟩, by rw [h0 43 (by decide) (by decide)]; exact d12, d13, fun hh => ?_⟩
  obtain ⟨g1, g2, g3, g4, g5⟩ := d14 hh
  exact ⟨g1, g2, by rw [ha 2 (by decide)]; exact g3, by rw [ha 3 (by decide)]; exact g4, by rw [ha 4 (by decide)]; exact g5⟩
theorem Sc_th (hI : DI T R V r f E t tp h A B a m H K wr pl tr) (x : Int) : Sc E (u2 E 0 0 x) := ⟨fun b hb => u2_n (by omega), fun c hc => by rw [u2_s, u1_n (by omega)], by rw [u2_s, u1_n (by decide)]; exact hI.2.2.2.2.1⟩
theorem Sc_r (hI : DI T R V r f E t tp h A B a m H K wr pl tr) : Sc E E := ⟨fun _ _ => rfl, fun _ _ => rfl, hI.2.2.2.2.1⟩
theorem DQ_id (hI : DI T R V r f E t tp h A B a m H K wr pl tr) (v : Option Value) : DQ T R J z V r f v t tp h A B a m H K wr pl tr v (T, iV (pB V r 24 E), R, J, z) := ⟨rfl, E, rfl, hI⟩
theorem DQ_tr (hI : DI T R V r f E t tp h A B a m H K wr pl tr) (x : Int) (hx : x ≠ 4) (v : Option Value) : DQ T R J z V r f v t tp h A B a m H K wr pl x v (T, iV (pB V r 24 (u2 (u2 E 0 1 x) 0 2 (-1))), R, J, z) := ⟨rfl, _, rfl, DI_tr hI x hx⟩
end DIs
section C95
variable {g : GG} {T : Nat → Nat × Nat} {V E A B Wi Ni : Nat → Nat → Int} {R : Nat → Nat → Option Nat} {J : Nat → Nat → Int64} {z k n : Nat} {r f : Nat} {t : Nat → Int} {tp : Nat} {h : Bool} {a m : Nat} {H K : Nat → Nat → Nat → Int} {wr pl tr : Int}
theorem k_refused {x : Int} (hM : MSh T R r) : X g mX12_refused 0 [.ref r, .int (iI x)] [] (T, iV (pB V r 24 E), R, J, z) k n (rI (iI (-1)) (T, iV (pB V r 24 (u2 (u2 E 0 1 x) 0 2 (-1))), R, J, z)) := by
  obtain ⟨m0, -, -⟩ := id hM
  refine x_aload_n dX12_refused_0 rfl ?_
  refine x_iload_n dX12_refused_1 rfl ?_
  refine b_pi0 (r := r) (m := 24) dX12_refused_2 (pX12_88 _) (by first | assumption) (fun _ _ _ => rfl) rfl rfl (by decide) ?_
  refine x_aload_n dX12_refused_5 rfl ?_
  refine y_iconst dX12_refused_6 ?_
  refine b_pi0 (r := r) (m := 24) dX12_refused_7 (pX12_9 _) (by first | assumption) (fun _ _ _ => rfl) rfl rfl (by decide) ?_
  refine y_iconst dX12_refused_10 ?_
  refine (show X _ _ 11 _ _ _ _ _ _ from ?_)
  exact x_ireturn dX12_refused_11 rfl ⟨rfl, rfl⟩
theorem k_good {x : Int} (hM : MSh T R r) : X g mX12_good 0 [.ref r, .int (iI x)] [] (T, iV (pB V r 24 E), R, J, z) k n (rI (iI x) (T, iV (pB V r 24 (u2 (u2 E 0 1 0) 0 2 (-1))), R, J, z)) := by
  obtain ⟨m0, -, -⟩ := id hM
  refine x_aload_n dX12_good_0 rfl ?_
  refine y_iconst dX12_good_1 ?_
  refine b_pi0 (r := r) (m := 24) dX12_good_2 (pX12_88 _) (by first | assumption) (fun _ _ _ => rfl) rfl rfl (by decide) ?_
  refine x_aload_n dX12_good_5 rfl ?_
  refine y_iconst dX12_good_6 ?_
  refine b_pi0 (r := r) (m := 24) dX12_good_7 (pX12_9 _) (by first | assumption) (fun _ _ _ => rfl) rfl rfl (by decide) ?_
  refine x_iload_n dX12_good_10 rfl ?_
  refine (show X _ _ 11 _ _ _ _ _ _ from ?_)
  exact x_ireturn dX12_good_11 rfl ⟨rfl, rfl⟩
theorem k_denied {x : Int} (hM : MSh T R r) : X g mX12_denied 0 [.ref r, .int (iI x)] [] (T, iV (pB V r 24 E), R, J, z) k n (rI (iI 0) (T, iV (pB V r 24 (u2 (u2 E 0 1 x) 0 2 (-1))), R, J, z)) := by
  have hr := k_refused (g := g) (V := V) (E := E) (J := J) (z := z) (k := 0) (n := 0) (x := x) hM
  obtain ⟨m0, -, -⟩ := id hM
  refine x_aload_n dX12_denied_0 rfl ?_
  refine x_iload_n dX12_denied_1 rfl ?_
  refine (show X _ _ 2 _ _ _ _ _ _ from ?_)
  refine x_callV (As := [_]) (mc := 0) (ms := 0) (z := mX12_refused) (ci := 12) dX12_denied_2 lX12_91 oX12_refused (by decide) (by first | assumption) rfl rfl (Nat.le_of_ble_eq_true rfl) (Nat.le_of_ble_eq_true rfl) rfl (hr) (k_I ?_)
  refine (show X _ _ 5 _ _ _ _ _ _ from ?_)
  refine x_pop dX12_denied_5 rfl ?_
  refine y_iconst dX12_denied_6 ?_
  refine (show X _ _ 7 _ _ _ _ _ _ from ?_)
  exact x_zreturn dX12_denied_7 rfl rfl ⟨rfl, rfl⟩
theorem k_refusedFar {x : Int} (hM : MSh T R r) : X g mX12_refusedFar 0 [.ref r, .int (iI x)] [] (T, iV (pB V r 24 E), R, J, z) k n (rI (iI (-10000)) (T, iV (pB V r 24 (u2 (u2 E 0 1 x) 0 2 (-1))), R, J, z)) := by
  have hr := k_refused (g := g) (V := V) (E := E) (J := J) (z := z) (k := 0) (n := 0) (x := x) hM
  obtain ⟨m0, -, -⟩ := id hM
  refine x_aload_n dX12_refusedFar_0 rfl ?_
  refine x_iload_n dX12_refusedFar_1 rfl ?_
  refine (show X _ _ 2 _ _ _ _ _ _ from ?_)
  refine x_callV (As := [_]) (mc := 0) (ms := 0) (z := mX12_refused) (ci := 12) dX12_refusedFar_2 lX12_91 oX12_refused (by decide) (by first | assumption) rfl rfl (Nat.le_of_ble_eq_true rfl) (Nat.le_of_ble_eq_true rfl) rfl (hr) (k_I ?_)
  refine (show X _ _ 5 _ _ _ _ _ _ from ?_)
  refine x_pop dX12_refusedFar_5 rfl ?_
  refine y_sipush dX12_refusedFar_6 rfl ?_
  refine (show X _ _ 9 _ _ _ _ _ _ from ?_)
  exact x_ireturn dX12_refusedFar_9 rfl ⟨rfl, rfl⟩
theorem k_granted (hM : MSh T R r) : X g mX12_granted 0 [.ref r] [] (T, iV (pB V r 24 E), R, J, z) k n (rI (iI 1) (T, iV (pB V r 24 (u2 (u2 E 0 1 0) 0 2 (-1))), R, J, z)) := by
  have hr := k_good (g := g) (V := V) (E := E) (J := J) (z := z) (k := 0) (n := 0) (x := 0) hM
  obtain ⟨m0, -, -⟩ := id hM
  refine x_aload_n dX12_granted_0 rfl ?_
  refine y_iconst dX12_granted_1 ?_
  refine (show X _ _ 2 _ _ _ _ _ _ from ?_)
  refine x_callV (As := [_]) (mc := 0) (ms := 0) (z := mX12_good) (ci := 12) dX12_granted_2 lX12_95 oX12_good (by decide) (by first | assumption) rfl rfl (Nat.le_of_ble_eq_true rfl) (Nat.le_of_ble_eq_true rfl) rfl (hr) (k_I ?_)
  refine (show X _ _ 5 _ _ _ _ _ _ from ?_)
  refine x_pop dX12_granted_5 rfl ?_
  refine y_iconst dX12_granted_6 ?_
  refine (show X _ _ 7 _ _ _ _ _ _ from ?_)
  exact x_zreturn dX12_granted_7 rfl rfl ⟨rfl, rfl⟩
theorem k_isPerson {p : Int} (hI : DI T R V r f E t tp h A B a m H K wr pl tr) (hp : R32 p) : X g mX12_isPerson 0 [.ref r, .int (iI p)] [] (T, iV (pB V r 24 E), R, J, z) k n (rI (iI (bI (!noP h A p))) (T, iV (pB V r 24 E), R, J, z)) := by
  obtain ⟨hM, -, -, -, -, d1, d2⟩ := hI
  have m0 := hM.1
  obtain ⟨p1, p2⟩ := hp
  have no : noP h A p = true → X g mX12_isPerson 26 [.ref r, .int (iI p)] [] (T, iV (pB V r 24 E), R, J, z) k n (rI (iI (bI (!noP h A p))) (T, iV (pB V r 24 E), R, J, z)) := by
    intro e
    rw [e]
    refine y_iconst dX12_isPerson_26 ?_
    refine (show X _ _ 27 _ _ _ _ _ _ from ?_)
    exact x_zreturn dX12_isPerson_27 rfl rfl ⟨rfl, rfl⟩
  cases h
  · have hn := (d1 rfl).1
    refine x_aload_n dX12_isPerson_0 rfl ?_
    refine (show X _ _ 1 _ _ _ _ _ _ from ?_)
    refine x_gn dX12_isPerson_1 fX12_409 (by first | assumption) (fun _ _ _ => rfl) (by first | assumption) ?_
    refine (show X _ _ 4 _ _ _ _ _ _ from ?_)
    refine x_ifnull_n 26 dX12_isPerson_4 (by decide) ?_
    refine (show X _ _ 26 _ _ _ _ _ _ from ?_)
    exact no (decide_eq_true (fun c => by cases c.1))
  · obtain ⟨⟨hf, hG, hF, hap⟩, ⟨hA, -⟩, -⟩ := d2 rfl
    have g0 := hG.1
    have hA3 := hA.2.2.2.1
    unfold apF at hap
    refine x_aload_n dX12_isPerson_0 rfl ?_
    refine x_gr dX12_isPerson_1 fX12_409 (by first | assumption) (fun _ _ _ => rfl) (by first | assumption) ?_
    refine (show X _ _ 4 _ _ _ _ _ _ from ?_)
    refine x_ifnull_r dX12_isPerson_4 ?_
    refine (show X _ _ 7 _ _ _ _ _ _ from ?_)
    refine x_iload_n dX12_isPerson_7 rfl ?_
    refine (show X _ _ 8 _ _ _ _ _ _ from ?_)
    refine y_if_lt 26 dX12_isPerson_8 (by decide) ⟨by omega, by omega⟩ (fun h1 => ?_) (fun h1 => ?_)
    · exact no (decide_eq_true (fun c => by omega))
    refine x_iload_n dX12_isPerson_11 rfl ?_
    refine x_aload_n dX12_isPerson_12 rfl ?_
    refine x_gr dX12_isPerson_13 fX12_409 (by first | assumption) (fun _ _ _ => rfl) (by first | assumption) ?_
    refine b_gio (r := r) (m := 24) dX12_isPerson_16 fX12_230 (by first | assumption) (fun _ _ _ => rfl) (by omega) ?_
    refine (show X _ _ 19 _ _ _ _ _ _ from ?_)
    refine X.val (hF.1 3 (by decide)) ?_
    refine y_icmp_ge 26 dX12_isPerson_19 (by decide) ⟨by omega, by omega⟩ ⟨by omega, by omega⟩ (fun h2 => ?_) (fun h2 => ?_)
    · exact no (decide_eq_true (fun c => by omega))
    · rw [show noP true A p = false from decide_eq_false (fun c => c ⟨rfl, h1, h2⟩)]
      refine y_iconst dX12_isPerson_22 ?_
      refine x_goto 27 dX12_isPerson_23 (by decide) ?_
      refine (show X _ _ 27 _ _ _ _ _ _ from ?_)
      exact x_zreturn dX12_isPerson_27 rfl rfl ⟨rfl, rfl⟩
theorem k_isSecret {p : Int} (hI : DI T R V r f E t tp h A B a m H K wr pl tr) (hp : R32 p) : X g mX12_isSecretNumber 0 [.ref r, .int (iI p)] [] (T, iV (pB V r 24 E), R, J, z) k n (rI (iI (bI (!noS h A p))) (T, iV (pB V r 24 E), R, J, z)) := by
  obtain ⟨hM, -, -, -, -, d1, d2⟩ := hI
  have m0 := hM.1
  obtain ⟨p1, p2⟩ := hp
  have no : noS h A p = true → X g mX12_isSecretNumber 26 [.ref r, .int (iI p)] [] (T, iV (pB V r 24 E), R, J, z) k n (rI (iI (bI (!noS h A p))) (T, iV (pB V r 24 E), R, J, z)) := by
    intro e
    rw [e]
    refine y_iconst dX12_isSecretNumber_26 ?_
    refine (show X _ _ 27 _ _ _ _ _ _ from ?_)
    exact x_zreturn dX12_isSecretNumber_27 rfl rfl ⟨rfl, rfl⟩
  cases h
  · have hn := (d1 rfl).1
    refine x_aload_n dX12_isSecretNumber_0 rfl ?_
    refine (show X _ _ 1 _ _ _ _ _ _ from ?_)
    refine x_gn dX12_isSecretNumber_1 fX12_409 (by first | assumption) (fun _ _ _ => rfl) (by first | assumption) ?_
    refine (show X _ _ 4 _ _ _ _ _ _ from ?_)
    refine x_ifnull_n 26 dX12_isSecretNumber_4 (by decide) ?_
    refine (show X _ _ 26 _ _ _ _ _ _ from ?_)
    exact no (decide_eq_true (fun c => by cases c.1))
  · obtain ⟨⟨hf, hG, hF, hap⟩, ⟨hA, -⟩, -⟩ := d2 rfl
    have g0 := hG.1
    have hA6 := hA.2.2.2.2.2.2.1
    unfold apF at hap
    refine x_aload_n dX12_isSecretNumber_0 rfl ?_
    refine x_gr dX12_isSecretNumber_1 fX12_409 (by first | assumption) (fun _ _ _ => rfl) (by first | assumption) ?_
    refine (show X _ _ 4 _ _ _ _ _ _ from ?_)
    refine x_ifnull_r dX12_isSecretNumber_4 ?_
    refine (show X _ _ 7 _ _ _ _ _ _ from ?_)
    refine x_iload_n dX12_isSecretNumber_7 rfl ?_
    refine (show X _ _ 8 _ _ _ _ _ _ from ?_)
    refine y_if_lt 26 dX12_isSecretNumber_8 (by decide) ⟨by omega, by omega⟩ (fun h1 => ?_) (fun h1 => ?_)
    · exact no (decide_eq_true (fun c => by omega))
    refine x_iload_n dX12_isSecretNumber_11 rfl ?_
    refine x_aload_n dX12_isSecretNumber_12 rfl ?_
    refine x_gr dX12_isSecretNumber_13 fX12_409 (by first | assumption) (fun _ _ _ => rfl) (by first | assumption) ?_
    refine b_gio (r := r) (m := 24) dX12_isSecretNumber_16 fX12_375 (by first | assumption) (fun _ _ _ => rfl) (by omega) ?_
    refine (show X _ _ 19 _ _ _ _ _ _ from ?_)
    refine X.val (hF.1 6 (by decide)) ?_
    refine y_icmp_ge 26 dX12_isSecretNumber_19 (by decide) ⟨by omega, by omega⟩ ⟨by omega, by omega⟩ (fun h2 => ?_) (fun h2 => ?_)
    · exact no (decide_eq_true (fun c => by omega))
    · rw [show noS true A p = false from decide_eq_false (fun c => c ⟨rfl, h1, h2⟩)]
      refine y_iconst dX12_isSecretNumber_22 ?_
      refine x_goto 27 dX12_isSecretNumber_23 (by decide) ?_
      refine (show X _ _ 27 _ _ _ _ _ _ from ?_)
      exact x_zreturn dX12_isSecretNumber_27 rfl rfl ⟨rfl, rfl⟩
theorem k_isYear {p : Int} (hI : DI T R V r f E t tp true A B a m H K wr pl tr) (hp : R32 p) : X g mX12_isYear 0 [.ref r, .int (iI p)] [] (T, iV (pB V r 24 E), R, J, z) k n (rI (iI (bI (!noY A p))) (T, iV (pB V r 24 E), R, J, z)) := by
  obtain ⟨hM, -, -, -, -, d1, d2⟩ := hI
  have m0 := hM.1
  obtain ⟨p1, p2⟩ := hp
  obtain ⟨⟨hf, hG, hF, hap⟩, ⟨hA, -⟩, -⟩ := d2 rfl
  have g0 := hG.1
  have hA0 := hA.1
  unfold apF at hap
  have no : noY A p = true → X g mX12_isYear 19 [.ref r, .int (iI p)] [] (T, iV (pB V r 24 E), R, J, z) k n (rI (iI (bI (!noY A p))) (T, iV (pB V r 24 E), R, J, z)) := by
    intro e
    rw [e]
    refine y_iconst dX12_isYear_19 ?_
    refine (show X _ _ 20 _ _ _ _ _ _ from ?_)
    exact x_zreturn dX12_isYear_20 rfl rfl ⟨rfl, rfl⟩
  refine x_iload_n dX12_isYear_0 rfl ?_
  refine (show X _ _ 1 _ _ _ _ _ _ from ?_)
  refine y_if_lt 19 dX12_isYear_1 (by decide) ⟨by omega, by omega⟩ (fun h1 => ?_) (fun h1 => ?_)
  · exact no (decide_eq_true (fun c => by omega))
  refine x_iload_n dX12_isYear_4 rfl ?_
  refine x_aload_n dX12_isYear_5 rfl ?_
  refine x_gr dX12_isYear_6 fX12_409 (by first | assumption) (fun _ _ _ => rfl) (by first | assumption) ?_
  refine b_gio (r := r) (m := 24) dX12_isYear_9 fX12_176 (by first | assumption) (fun _ _ _ => rfl) (by omega) ?_
  refine (show X _ _ 12 _ _ _ _ _ _ from ?_)
  refine X.val (hF.1 0 (by decide)) ?_
  refine y_icmp_ge 19 dX12_isYear_12 (by decide) ⟨by omega, by omega⟩ ⟨by omega, by omega⟩ (fun h2 => ?_) (fun h2 => ?_)
  · exact no (decide_eq_true (fun c => by omega))
  · rw [show noY A p = false from decide_eq_false (fun c => c ⟨h1, h2⟩)]
    refine y_iconst dX12_isYear_15 ?_
    refine x_goto 20 dX12_isYear_16 (by decide) ?_
    refine (show X _ _ 20 _ _ _ _ _ _ from ?_)
    exact x_zreturn dX12_isYear_20 rfl rfl ⟨rfl, rfl⟩
theorem rTo_0 {ch : Nat → Int} {W0 : Nat → Nat → Int} : ∀ i, rTo A B 0 ch W0 i = runTo A B W0 i
  | 0 => rfl
  | i + 1 => by
    have ih := rTo_0 (ch := ch) (W0 := W0) i
    show stp A B 0 ch (rTo A B 0 ch W0 i) i = passY A B (runTo A B W0 i) i
    rw [ih]
    unfold stp
    rw [if_neg (by omega)]
theorem mTo_0 {ch : Nat → Int} {W0 N0 : Nat → Nat → Int} : ∀ i, mTo A B 0 ch W0 N0 i = nTo A B W0 N0 i
  | 0 => rfl
  | i + 1 => by
    have ih := mTo_0 (ch := ch) (W0 := W0) (N0 := N0) i
    show nst A (rTo A B 0 ch W0 (i + 1)) (mTo A B 0 ch W0 N0 i) i = _
    rw [ih, rTo_0, nTo_s]
    rfl
theorem Bg_beg {lw sd : Int} (hA : VA A) (hl : 0 ≤ lw ∧ lw ≤ 4) (hs : 0 ≤ sd ∧ sd ≤ 65536) : Bg A (rBeg A Wi lw sd) lw sd ∧ rBeg A Wi lw sd 0 3 = -1 ∧ rBeg A Wi lw sd 0 4 = -1 := by
  obtain ⟨a1, a2, a3⟩ := rBeg_row (A := A) (W := Wi) (lw := lw) (sd := sd) (fP A)
  have hk := rBeg_ok (W := Wi) hA hl hs
  refine ⟨⟨?_, a3, hk⟩, ?_, ?_⟩
  · unfold rBeg
    rw [a1, a1, a1, a1, a1, a1, a1]
    unfold beg0
    simp (discharger := decide) only [u2_s, u1_s, u1_n, and_self]
  · unfold rBeg
    rw [a1]
    unfold beg0
    simp (discharger := decide) only [u2_s, u1_s, u1_n]
  · unfold rBeg
    rw [a1]
    unfold beg0
    simp (discharger := decide) only [u2_s, u1_s, u1_n]
/-- a run by a law from a seed: what it leaves -/
def RnQ (A B Wi Ni : Nat → Nat → Int) (lw sd : Int) (E E' : Nat → Nat → Int) : Prop := GI A B (runTo A B (rBeg A Wi lw sd)) (nTo A B (rBeg A Wi lw sd) (nBeg A Ni)) (u2 (u2 E 0 41 0) 0 42 (-2)) E' (fY A) ∧ E' 6 (fY A) = (sOf (fP A) (thE A B E' (fY A)) : Nat)
theorem RnQ_sc {lw sd : Int} {E' : Nat → Nat → Int} (hI : DI T R V r f E t tp h A B a m H K wr pl tr) (hq : RnQ A B Wi Ni lw sd E E') : Sc E E' := by
  obtain ⟨⟨-, -, -, -, h1, h2⟩, -⟩ := hq
  refine ⟨fun b hb => by rw [h1 b (by omega), u2_n (by omega), u2_n (by omega)], fun c hc => by rw [h2 c (by omega) (by omega) (by omega) (by omega) (by omega) (by omega), u2_s, u1_n (by omega), u2_s, u1_n (by omega)], ?_⟩
  rw [h2 43 (by decide) (by decide) (by decide) (by decide) (by decide) (by decide), u2_s, u1_n (by decide), u2_s, u1_n (by decide)]
  exact hI.2.2.2.2.1
theorem k_runsBy {lw sd : Int} (hI : DI T R V r f E t tp true A B a m H K wr pl tr) (hl : 0 ≤ lw ∧ lw ≤ 4) (hs : 0 ≤ sd ∧ sd ≤ 65536) (hNi : NOk Ni) : X g mX12_runsBy 0 [.ref r, .int (iI lw), .int (iI sd)] [] (T, iV (pB V r 24 E), R, J, z) k n (fun v M => v = none ∧ ∃ E', M = (T, iV (pB V r 24 E'), R, J, z) ∧ RnQ A B Wi Ni lw sd E E') := by
  have h43 := hI.2.2.2.2.1
  obtain ⟨hM, -, -, -, -, d1, d2⟩ := hI
  obtain ⟨⟨hf, hG, hF, hap⟩, ⟨hA, hB, -⟩, hv, -⟩ := d2 rfl
  obtain ⟨hBg, b3, b4⟩ := Bg_beg (Wi := Wi) hA hl hs
  have eY := fY24 hA
  have hgo := c_goes (g := g) (J := J) (z := z) (k := 0) (n := 0) (E := u2 (u2 E 0 41 0) 0 42 (-2)) (W0 := rBeg A Wi lw sd) (Ni := Ni) (m := fY A) (rw := 0) (lw := lw) (sd := sd) hM hf hG hF hA hB hap (by rw [u2_n (by decide), u2_n (by decide)]; exact hv) (Nat.le_refl _) (by rw [u2_s, u1_n (by decide), u2_s, u1_s]; rfl) (by omega) hBg (by unfold TrM; rw [u2_s, u1_s, u1_n (by decide), u2_s, u1_n (by decide)]; exact ⟨by omega, h43, Or.inl ⟨b3, b4, rfl⟩⟩) hNi (fun y _ hy => absurd hy (by omega))
  rw [show rTo A B 0 (u2 (u2 E 0 41 0) 0 42 (-2) 22) (rBeg A Wi lw sd) = runTo A B (rBeg A Wi lw sd) from funext fun i => rTo_0 i, show mTo A B 0 (u2 (u2 E 0 41 0) 0 42 (-2) 22) (rBeg A Wi lw sd) (nBeg A Ni) = nTo A B (rBeg A Wi lw sd) (nBeg A Ni) from funext fun i => mTo_0 i, eY.1] at hgo
  obtain ⟨m0, -, -⟩ := id hM
  obtain ⟨g0, -, -⟩ := id hG
  unfold apF at hap
  refine x_aload_n dX12_runsBy_0 rfl ?_
  refine y_iconst dX12_runsBy_1 ?_
  refine b_pi0 (r := r) (m := 24) dX12_runsBy_2 (pX12_420 _) (by first | assumption) (fun _ _ _ => rfl) rfl rfl (by decide) ?_
  refine x_aload_n dX12_runsBy_5 rfl ?_
  refine y_bipush dX12_runsBy_6 rfl ?_
  refine b_pi0 (r := r) (m := 24) dX12_runsBy_8 (pX12_423 _) (by first | assumption) (fun _ _ _ => rfl) rfl rfl (by decide) ?_
  refine x_aload_n dX12_runsBy_11 rfl ?_
  refine x_iload_n dX12_runsBy_12 rfl ?_
  refine (show X _ _ 13 _ _ _ _ _ _ from ?_)
  refine x_iload_n dX12_runsBy_13 rfl ?_
  refine x_aload_n dX12_runsBy_14 rfl ?_
  refine x_gr dX12_runsBy_15 fX12_409 (by first | assumption) (fun _ _ _ => rfl) (by first | assumption) ?_
  refine b_gio (r := r) (m := 24) dX12_runsBy_18 fX12_176 (by first | assumption) (fun _ _ _ => rfl) (by omega) ?_
  refine (show X _ _ 21 _ _ _ _ _ _ from ?_)
  refine X.val (hF.1 0 (by decide)) ?_
  refine x_callV (As := [_, _, _]) (mc := 0) (ms := 0) (z := mX12_goes) (ci := 12) dX12_runsBy_21 lX12_426 oX12_goes (by decide) (by first | assumption) rfl rfl (Nat.le_of_ble_eq_true rfl) (Nat.le_of_ble_eq_true rfl) rfl (hgo) (fun v M1 hq => ?_)
  obtain ⟨rfl, E', rfl, hq⟩ := hq
  refine (show X _ _ 24 _ [] _ _ _ _ from ?_)
  exact x_return dX12_runsBy_24 rfl ⟨rfl, E', rfl, hq⟩
theorem k_runs (hI : DI T R V r f E t tp true A B a m H K wr pl tr) (hNi : NOk Ni) : X g mX12_runs 0 [.ref r] [] (T, iV (pB V r 24 E), R, J, z) k n (fun v M => v = none ∧ ∃ E', M = (T, iV (pB V r 24 E'), R, J, z) ∧ RnQ A B Wi Ni (B 0 0) (B 0 1) E E') := by
  obtain ⟨-, ⟨-, hB, -⟩, hv, -⟩ := hI.2.2.2.2.2.2 rfl
  have hrb := k_runsBy (g := g) (J := J) (z := z) (k := 0) (n := 0) (Wi := Wi) (Ni := Ni) (lw := B 0 0) (sd := B 0 1) hI hB.1 hB.2.1 hNi
  have hM := hI.1
  obtain ⟨m0, ⟨-, m15, -, -, -, -, -, -, -, -, -, -, -, -, -, -, -, -, -, -, -, -, -⟩, ⟨-, mk2, -, -, -, -, -, -, -, -, -, -, -, -, -, -, -, -, -, -, -, -, -⟩⟩ := id hM
  refine x_aload_n dX12_runs_0 rfl ?_
  refine x_aload_n dX12_runs_1 rfl ?_
  refine x_gr dX12_runs_2 fX12_17 (by first | assumption) (fun _ _ _ => rfl) (by first | assumption) ?_
  refine y_iconst dX12_runs_5 ?_
  refine b_iald (r := r) (m := 24) (j := 2) (0) dX12_runs_6 (by first | assumption) (by first | rfl | omega) (by omega) (by decide) (by decide) ?_
  refine (show X _ _ 7 _ _ _ _ _ _ from ?_)
  refine X.val hv.1 ?_
  refine x_aload_n dX12_runs_7 rfl ?_
  refine x_gr dX12_runs_8 fX12_17 (by first | assumption) (fun _ _ _ => rfl) (by first | assumption) ?_
  refine y_iconst dX12_runs_11 ?_
  refine b_iald (r := r) (m := 24) (j := 2) (1) dX12_runs_12 (by first | assumption) (by first | rfl | omega) (by omega) (by decide) (by decide) ?_
  refine (show X _ _ 13 _ _ _ _ _ _ from ?_)
  refine X.val hv.2.1 ?_
  refine x_callV (As := [_, _]) (mc := 0) (ms := 0) (z := mX12_runsBy) (ci := 12) dX12_runs_13 lX12_417 oX12_runsBy (by decide) (by first | assumption) rfl rfl (Nat.le_of_ble_eq_true rfl) (Nat.le_of_ble_eq_true rfl) rfl (hrb) (fun v M1 hq => ?_)
  obtain ⟨rfl, E', rfl, hq⟩ := hq
  refine (show X _ _ 16 _ [] _ _ _ _ from ?_)
  exact x_return dX12_runs_16 rfl ⟨rfl, E', rfl, hq⟩
end C95
