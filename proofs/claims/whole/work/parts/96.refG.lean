/-! ===== the reference's getters ===== -/
section C96
variable {g : GG} {T : Nat → Nat × Nat} {V E A B Wi Ni : Nat → Nat → Int} {R : Nat → Nat → Option Nat} {J : Nat → Nat → Int64} {z k n : Nat} {r f : Nat} {t : Nat → Int} {tp : Nat} {h : Bool} {a m : Nat} {H K : Nat → Nat → Nat → Int} {wr pl tr : Int}
theorem k_asksY0 {b : Bool} {y : Int} (hI : DI T R V r f E t tp h A B a m H K wr pl tr) (hy : R32 y) (hb : ¬ (h = true ∧ b = true ∧ noY A y = false)) : X g mX12_asksYear 0 [.ref r, .int (iI (bI b)), .int (iI y)] [] (T, iV (pB V r 24 E), R, J, z) k n (rI (iI (if h = true ∧ b = true then 2 else 1)) (T, iV (pB V r 24 E), R, J, z)) := by
  have hI0 := hI
  obtain ⟨hM, -, -, -, -, d1, d2⟩ := hI
  have m0 := hM.1
  cases h
  · have hn := (d1 rfl).1
    rw [if_neg (fun c => by cases c.1)]
    refine x_aload_n dX12_asksYear_0 rfl ?_
    refine (show X _ _ 1 _ _ _ _ _ _ from ?_)
    refine x_gn dX12_asksYear_1 fX12_409 (by first | assumption) (fun _ _ _ => rfl) (by first | assumption) ?_
    refine (show X _ _ 4 _ _ _ _ _ _ from ?_)
    refine x_ifnull_n 11 dX12_asksYear_4 (by decide) ?_
    refine (show X _ _ 11 _ _ _ _ _ _ from ?_)
    refine y_iconst dX12_asksYear_11 ?_
    refine (show X _ _ 12 _ _ _ _ _ _ from ?_)
    exact x_ireturn dX12_asksYear_12 rfl ⟨rfl, rfl⟩
  · obtain ⟨⟨hf, -⟩, -⟩ := d2 rfl
    have hiy := k_isYear (g := g) (J := J) (z := z) (k := 0) (n := 0) (p := y) hI0 hy
    refine x_aload_n dX12_asksYear_0 rfl ?_
    refine x_gr dX12_asksYear_1 fX12_409 (by first | assumption) (fun _ _ _ => rfl) (by first | assumption) ?_
    refine (show X _ _ 4 _ _ _ _ _ _ from ?_)
    refine x_ifnull_r dX12_asksYear_4 ?_
    refine (show X _ _ 7 _ _ _ _ _ _ from ?_)
    refine x_iload_n dX12_asksYear_7 rfl ?_
    refine (show X _ _ 8 _ _ _ _ _ _ from ?_)
    refine y_ifb_ne 13 dX12_asksYear_8 (by decide) (fun h1 => ?_) (fun h1 => ?_)
    rotate_left
    · rw [if_neg (fun c => by rw [h1] at c; cases c.2)]
      refine y_iconst dX12_asksYear_11 ?_
      refine (show X _ _ 12 _ _ _ _ _ _ from ?_)
      exact x_ireturn dX12_asksYear_12 rfl ⟨rfl, rfl⟩
    rw [if_pos ⟨rfl, h1⟩]
    refine x_aload_n dX12_asksYear_13 rfl ?_
    refine x_iload_n dX12_asksYear_14 rfl ?_
    refine (show X _ _ 15 _ _ _ _ _ _ from ?_)
    refine x_callV (As := [_]) (mc := 0) (ms := 0) (z := mX12_isYear) (ci := 12) dX12_asksYear_15 lX12_507 oX12_isYear (by decide) (by first | assumption) rfl rfl (Nat.le_of_ble_eq_true rfl) (Nat.le_of_ble_eq_true rfl) rfl (hiy) (k_I ?_)
    refine (show X _ _ 18 _ _ _ _ _ _ from ?_)
    refine y_ifb_ne 23 dX12_asksYear_18 (by decide) (fun h2 => ?_) (fun h2 => ?_)
    · exact absurd ⟨rfl, h1, by cases hc : noY A y; rfl; rw [hc] at h2; cases h2⟩ hb
    refine y_iconst dX12_asksYear_21 ?_
    refine (show X _ _ 22 _ _ _ _ _ _ from ?_)
    exact x_ireturn dX12_asksYear_22 rfl ⟨rfl, rfl⟩
theorem k_asksY {y : Int} (hI : DI T R V r f E t tp true A B a m H K wr pl tr) (hy : R32 y) (hb : noY A y = false) (hNi : NOk Ni) : X g mX12_asksYear 0 [.ref r, .int (iI (bI true)), .int (iI y)] [] (T, iV (pB V r 24 E), R, J, z) k n (fun v M => v = some (.int (iI 0)) ∧ ∃ E', M = (T, iV (pB V r 24 E'), R, J, z) ∧ RnQ A B Wi Ni (B 0 0) (B 0 1) E E') := by
  have hI0 := hI
  have hru := k_runs (g := g) (J := J) (z := z) (k := 0) (n := 0) (Wi := Wi) (Ni := Ni) hI hNi
  have hiy := k_isYear (g := g) (J := J) (z := z) (k := 0) (n := 0) (p := y) hI0 hy
  obtain ⟨hM, -, -, -, -, d1, d2⟩ := hI
  have m0 := hM.1
  obtain ⟨⟨hf, -⟩, -⟩ := d2 rfl
  refine x_aload_n dX12_asksYear_0 rfl ?_
  refine x_gr dX12_asksYear_1 fX12_409 (by first | assumption) (fun _ _ _ => rfl) (by first | assumption) ?_
  refine (show X _ _ 4 _ _ _ _ _ _ from ?_)
  refine x_ifnull_r dX12_asksYear_4 ?_
  refine (show X _ _ 7 _ _ _ _ _ _ from ?_)
  refine x_iload_n dX12_asksYear_7 rfl ?_
  refine (show X _ _ 8 _ _ _ _ _ _ from ?_)
  refine y_ifb_ne 13 dX12_asksYear_8 (by decide) (fun h1 => ?_) (fun h1 => ?_)
  rotate_left
  · cases h1
  refine x_aload_n dX12_asksYear_13 rfl ?_
  refine x_iload_n dX12_asksYear_14 rfl ?_
  refine (show X _ _ 15 _ _ _ _ _ _ from ?_)
  refine x_callV (As := [_]) (mc := 0) (ms := 0) (z := mX12_isYear) (ci := 12) dX12_asksYear_15 lX12_507 oX12_isYear (by decide) (by first | assumption) rfl rfl (Nat.le_of_ble_eq_true rfl) (Nat.le_of_ble_eq_true rfl) rfl (hiy) (k_I ?_)
  refine (show X _ _ 18 _ _ _ _ _ _ from ?_)
  refine y_ifb_ne 23 dX12_asksYear_18 (by decide) (fun h2 => ?_) (fun h2 => ?_)
  rotate_left
  · rw [hb] at h2; cases h2
  refine x_aload_n dX12_asksYear_23 rfl ?_
  refine (show X _ _ 24 _ _ _ _ _ _ from ?_)
  refine x_callV (As := []) (mc := 0) (ms := 0) (z := mX12_runs) (ci := 12) dX12_asksYear_24 lX12_510 oX12_runs (by decide) (by first | assumption) rfl rfl (Nat.le_of_ble_eq_true rfl) (Nat.le_of_ble_eq_true rfl) rfl (hru) (fun v M1 hq => ?_)
  obtain ⟨rfl, E', rfl, hq⟩ := hq
  refine (show X _ _ 27 _ [] _ _ _ _ from ?_)
  refine y_iconst dX12_asksYear_27 ?_
  refine (show X _ _ 28 _ _ _ _ _ _ from ?_)
  exact x_ireturn dX12_asksYear_28 rfl ⟨rfl, E', rfl, hq⟩
theorem k_asks0 {b : Bool} (hI : DI T R V r f E t tp h A B a m H K wr pl tr) (hb : ¬ (h = true ∧ b = true)) : X g mX12_asks 0 [.ref r, .int (iI (bI b))] [] (T, iV (pB V r 24 E), R, J, z) k n (rI (iI (bI false)) (T, iV (pB V r 24 E), R, J, z)) := by
  obtain ⟨hM, -, -, -, -, d1, d2⟩ := hI
  have m0 := hM.1
  cases h
  · have hn := (d1 rfl).1
    refine x_aload_n dX12_asks_0 rfl ?_
    refine (show X _ _ 1 _ _ _ _ _ _ from ?_)
    refine x_gn dX12_asks_1 fX12_409 (by first | assumption) (fun _ _ _ => rfl) (by first | assumption) ?_
    refine (show X _ _ 4 _ _ _ _ _ _ from ?_)
    refine x_ifnull_n 11 dX12_asks_4 (by decide) ?_
    refine (show X _ _ 11 _ _ _ _ _ _ from ?_)
    refine y_iconst dX12_asks_11 ?_
    refine (show X _ _ 12 _ _ _ _ _ _ from ?_)
    exact x_zreturn dX12_asks_12 rfl rfl ⟨rfl, rfl⟩
  · obtain ⟨⟨hf, -⟩, -⟩ := d2 rfl
    refine x_aload_n dX12_asks_0 rfl ?_
    refine x_gr dX12_asks_1 fX12_409 (by first | assumption) (fun _ _ _ => rfl) (by first | assumption) ?_
    refine (show X _ _ 4 _ _ _ _ _ _ from ?_)
    refine x_ifnull_r dX12_asks_4 ?_
    refine (show X _ _ 7 _ _ _ _ _ _ from ?_)
    refine x_iload_n dX12_asks_7 rfl ?_
    refine (show X _ _ 8 _ _ _ _ _ _ from ?_)
    refine y_ifb_ne 13 dX12_asks_8 (by decide) (fun h1 => ?_) (fun h1 => ?_)
    · exact absurd ⟨rfl, h1⟩ hb
    refine y_iconst dX12_asks_11 ?_
    refine (show X _ _ 12 _ _ _ _ _ _ from ?_)
    exact x_zreturn dX12_asks_12 rfl rfl ⟨rfl, rfl⟩
theorem k_asks (hI : DI T R V r f E t tp true A B a m H K wr pl tr) (hNi : NOk Ni) : X g mX12_asks 0 [.ref r, .int (iI (bI true))] [] (T, iV (pB V r 24 E), R, J, z) k n (fun v M => v = some (.int (iI (bI true))) ∧ ∃ E', M = (T, iV (pB V r 24 E'), R, J, z) ∧ RnQ A B Wi Ni (B 0 0) (B 0 1) E E') := by
  have hru := k_runs (g := g) (J := J) (z := z) (k := 0) (n := 0) (Wi := Wi) (Ni := Ni) hI hNi
  obtain ⟨hM, -, -, -, -, d1, d2⟩ := hI
  have m0 := hM.1
  obtain ⟨⟨hf, -⟩, -⟩ := d2 rfl
  refine x_aload_n dX12_asks_0 rfl ?_
  refine x_gr dX12_asks_1 fX12_409 (by first | assumption) (fun _ _ _ => rfl) (by first | assumption) ?_
  refine (show X _ _ 4 _ _ _ _ _ _ from ?_)
  refine x_ifnull_r dX12_asks_4 ?_
  refine (show X _ _ 7 _ _ _ _ _ _ from ?_)
  refine x_iload_n dX12_asks_7 rfl ?_
  refine (show X _ _ 8 _ _ _ _ _ _ from ?_)
  refine y_ifb_ne 13 dX12_asks_8 (by decide) (fun h1 => ?_) (fun h1 => ?_)
  rotate_left
  · cases h1
  refine x_aload_n dX12_asks_13 rfl ?_
  refine (show X _ _ 14 _ _ _ _ _ _ from ?_)
  refine x_callV (As := []) (mc := 0) (ms := 0) (z := mX12_runs) (ci := 12) dX12_asks_14 lX12_510 oX12_runs (by decide) (by first | assumption) rfl rfl (Nat.le_of_ble_eq_true rfl) (Nat.le_of_ble_eq_true rfl) rfl (hru) (fun v M1 hq => ?_)
  obtain ⟨rfl, E', rfl, hq⟩ := hq
  refine (show X _ _ 17 _ [] _ _ _ _ from ?_)
  refine y_iconst dX12_asks_17 ?_
  refine (show X _ _ 18 _ _ _ _ _ _ from ?_)
  exact x_zreturn dX12_asks_18 rfl rfl ⟨rfl, E', rfl, hq⟩
theorem yTr_0 {y : Int} (e : yTr h A y = 0) : h = true ∧ noY A y = false := by
  unfold yTr at e
  split at e
  · rename_i h1
    split at e
    · cases e
    · rename_i h2; exact ⟨h1, by cases hc : noY A y; rfl; exact absurd hc h2⟩
  · cases e
theorem yTr_n {y : Int} (e : yTr h A y ≠ 0) : ¬ (h = true ∧ true = true ∧ noY A y = false) ∧ (if h = true ∧ true = true then (2 : Int) else 1) = yTr h A y := by
  unfold yTr at e ⊢
  by_cases h1 : h = true
  · rw [if_pos h1] at e
    rw [if_pos h1, if_pos ⟨h1, rfl⟩]
    split at e
    · rename_i h2; rw [if_pos h2]; exact ⟨(fun c => by rw [c.2.2] at h2; cases h2), rfl⟩
    · exact absurd rfl e
  · rw [if_neg h1, if_neg (fun c => h1 c.1)]
    exact ⟨fun c => h1 c.1, rfl⟩
theorem yTr_b {y : Int} : 0 ≤ yTr h A y ∧ yTr h A y ≤ 2 := by
  unfold yTr
  repeat' split
  all_goals omega
theorem pyz0 {p y : Int} (e : pyTr h A p y = 0) : noP h A p = false ∧ noY A y = false := by
  unfold pyTr at e
  split at e
  · cases e
  · rename_i h1
    split at e
    · cases e
    · rename_i h2
      exact ⟨by cases hc : noP h A p; rfl; exact absurd hc h1, by cases hc : noY A y; rfl; exact absurd hc h2⟩
theorem pyzb {p y : Int} : 0 ≤ pyTr h A p y ∧ pyTr h A p y ≤ 2 := by
  unfold pyTr
  repeat' split
  all_goals omega
theorem pyTr_n {p y : Int} (e : pyTr h A p y ≠ 0) : ¬ (h = true ∧ (!noP h A p) = true ∧ noY A y = false) ∧ (if h = true ∧ (!noP h A p) = true then (2 : Int) else 1) = pyTr h A p y := by
  cases h1 : noP h A p
  · have hh := (noP_f h1).1
    cases h2 : noY A y
    · exfalso
      apply e
      unfold pyTr
      rw [h1, h2]
      rfl
    · refine ⟨(fun c => by cases c.2.2), ?_⟩
      rw [if_pos ⟨hh, rfl⟩]
      unfold pyTr
      rw [h1, h2]
      rfl
  · refine ⟨(fun c => by cases c.2.1), ?_⟩
    rw [if_neg (fun c => by cases c.2)]
    unfold pyTr
    rw [h1]
    rfl
theorem k_elder {y : Int} (hI : DI T R V r f E t tp h A B a m H K wr pl tr) (hy : R32 y) (hNi : NOk Ni) : X g mX12_elder 0 [.ref r, .int (iI y), jk] [] (T, iV (pB V r 24 E), R, J, z) k n (DQ T R J z V r f (some (.int (iI (if yTr h A y = 0 then runTo A B (rBeg A Wi (B 0 0) (B 0 1)) (fY A) 4 y.toNat else -1)))) t tp h A B a m H K wr pl (yTr h A y)) := by
  have hM := hI.1
  have hI1 := DI_sc hI (Sc_th hI 0)
  have hyb := yTr_b (h := h) (A := A) (y := y)
  by_cases e : yTr h A y = 0
  · obtain ⟨rfl, e1⟩ := yTr_0 e
    have hak := k_asksY (g := g) (J := J) (z := z) (k := 0) (n := 0) (Wi := Wi) (Ni := Ni) hI1 hy e1 hNi
    have hgo := fun (E' : Nat → Nat → Int) x => k_good (g := g) (V := V) (E := E') (J := J) (z := z) (k := 0) (n := 0) (x := x) hM
    obtain ⟨-, ⟨hA, hB, -⟩, -⟩ := hI.2.2.2.2.2.2 rfl
    have hY := fY24 hA
    have hyy := noY_f e1
    have hyn : y.toNat < fY A := by omega
    rw [if_pos e, e]
    obtain ⟨m0, ⟨-, -, -, -, m20, -, -, -, -, -, -, -, -, -, -, -, -, -, -, -, -, -, -⟩, ⟨-, -, -, -, mk5, -, -, -, -, -, -, -, -, -, -, -, -, -, -, -, -, -, -⟩⟩ := id hM
    refine x_aload_n dX12_elder_0 rfl ?_
    refine y_iconst dX12_elder_1 ?_
    refine b_pi0 (r := r) (m := 24) dX12_elder_2 (pX12_85 _) (by first | assumption) (fun _ _ _ => rfl) rfl rfl (by decide) ?_
    refine x_aload_n dX12_elder_5 rfl ?_
    refine (show X _ _ 6 _ _ _ _ _ _ from ?_)
    refine y_iconst dX12_elder_6 ?_
    refine X.val (b := bI true) rfl ?_
    refine (show X _ _ 7 _ _ _ _ _ _ from ?_)
    refine x_iload_n dX12_elder_7 rfl ?_
    refine (show X _ _ 8 _ _ _ _ _ _ from ?_)
    refine x_callV (As := [_, _]) (mc := 0) (ms := 0) (z := mX12_asksYear) (ci := 12) dX12_elder_8 lX12_519 oX12_asksYear (by decide) (by first | assumption) rfl rfl (Nat.le_of_ble_eq_true rfl) (Nat.le_of_ble_eq_true rfl) rfl (hak) (fun v M1 hq => ?_)
    obtain ⟨rfl, E', rfl, hq⟩ := hq
    refine (show X _ _ 11 _ [.int (iI 0)] _ _ _ _ from ?_)
    have hI2 := DI_sc hI1 (RnQ_sc hI1 hq)
    obtain ⟨⟨hRM, hNM, hrc, hhd, -⟩, -⟩ := hq
    have hRc := hrc y.toNat hyn

    refine x_istore_n dX12_elder_11 (by decide) rfl rfl ?_
    refine x_iload_n dX12_elder_12 rfl ?_
    refine (show X _ _ 13 _ _ _ _ _ _ from ?_)
    refine y_if_le 24 dX12_elder_13 (by decide) ⟨by omega, by omega⟩ (fun c => ?_) (fun c => ?_)
    rotate_left
    · exact absurd c (by decide)
    refine x_aload_n dX12_elder_24 rfl ?_
    refine x_aload_n dX12_elder_25 rfl ?_
    refine x_gr dX12_elder_26 fX12_27 (by first | assumption) (fun _ _ _ => rfl) (by first | assumption) ?_
    refine x_iload_n dX12_elder_29 rfl ?_
    refine b_iald (r := r) (m := 24) (j := 5) (y.toNat) dX12_elder_30 (by first | assumption) (by first | rfl | omega) (by omega) (by decide) (by decide) ?_
    refine (show X _ _ 31 _ _ _ _ _ _ from ?_)
    refine X.val (hRM.2.2.2.2.1 y.toNat hyn).1 ?_
    refine x_callV (As := [_]) (mc := 0) (ms := 0) (z := mX12_good) (ci := 12) dX12_elder_31 lX12_95 oX12_good (by decide) (by first | assumption) rfl rfl (Nat.le_of_ble_eq_true rfl) (Nat.le_of_ble_eq_true rfl) rfl (hgo _ _) (k_I ?_)
    refine (show X _ _ 34 _ _ _ _ _ _ from ?_)
    exact x_ireturn dX12_elder_34 rfl (DQ_tr hI2 0 (by decide) _)
  · obtain ⟨e1, e2⟩ := yTr_n e
    have hak := k_asksY0 (g := g) (J := J) (z := z) (k := 0) (n := 0) (b := true) hI1 hy e1
    rw [e2] at hak
    have hrf := k_refused (g := g) (V := V) (E := u2 E 0 0 0) (J := J) (z := z) (k := 0) (n := 0) (x := yTr h A y) hM
    rw [if_neg e]
    obtain ⟨m0, ⟨-, -, -, -, m20, -, -, -, -, -, -, -, -, -, -, -, -, -, -, -, -, -, -⟩, ⟨-, -, -, -, mk5, -, -, -, -, -, -, -, -, -, -, -, -, -, -, -, -, -, -⟩⟩ := id hM
    refine x_aload_n dX12_elder_0 rfl ?_
    refine y_iconst dX12_elder_1 ?_
    refine b_pi0 (r := r) (m := 24) dX12_elder_2 (pX12_85 _) (by first | assumption) (fun _ _ _ => rfl) rfl rfl (by decide) ?_
    refine x_aload_n dX12_elder_5 rfl ?_
    refine (show X _ _ 6 _ _ _ _ _ _ from ?_)
    refine y_iconst dX12_elder_6 ?_
    refine X.val (b := bI true) rfl ?_
    refine (show X _ _ 7 _ _ _ _ _ _ from ?_)
    refine x_iload_n dX12_elder_7 rfl ?_
    refine (show X _ _ 8 _ _ _ _ _ _ from ?_)
    refine x_callV (As := [_, _]) (mc := 0) (ms := 0) (z := mX12_asksYear) (ci := 12) dX12_elder_8 lX12_519 oX12_asksYear (by decide) (by first | assumption) rfl rfl (Nat.le_of_ble_eq_true rfl) (Nat.le_of_ble_eq_true rfl) rfl (hak) (k_I ?_)
    refine (show X _ _ 11 _ _ _ _ _ _ from ?_)
    refine x_istore_n dX12_elder_11 (by decide) rfl rfl ?_
    refine x_iload_n dX12_elder_12 rfl ?_
    refine (show X _ _ 13 _ _ _ _ _ _ from ?_)
    refine y_if_le 24 dX12_elder_13 (by decide) ⟨by omega, by omega⟩ (fun c => ?_) (fun c => ?_)
    · omega
    refine x_aload_n dX12_elder_16 rfl ?_
    refine x_iload_n dX12_elder_17 rfl ?_
    refine (show X _ _ 18 _ _ _ _ _ _ from ?_)
    refine x_callV (As := [_]) (mc := 0) (ms := 0) (z := mX12_refused) (ci := 12) dX12_elder_18 lX12_91 oX12_refused (by decide) (by first | assumption) rfl rfl (Nat.le_of_ble_eq_true rfl) (Nat.le_of_ble_eq_true rfl) rfl (hrf) (k_I ?_)
    refine (show X _ _ 21 _ _ _ _ _ _ from ?_)
    refine x_goto 34 dX12_elder_21 (by decide) ?_
    refine (show X _ _ 34 _ _ _ _ _ _ from ?_)
    exact x_ireturn dX12_elder_34 rfl (DQ_tr hI1 _ (by omega) _)
theorem k_there {y : Int} (hI : DI T R V r f E t tp h A B a m H K wr pl tr) (hy : R32 y) (hNi : NOk Ni) : X g mX12_there 0 [.ref r, .int (iI y), jk] [] (T, iV (pB V r 24 E), R, J, z) k n (DQ T R J z V r f (some (.int (iI (if yTr h A y = 0 then (rTh A B (runTo A B (rBeg A Wi (B 0 0) (B 0 1)) y.toNat) y.toNat : Nat) else -1)))) t tp h A B a m H K wr pl (yTr h A y)) := by
  have hM := hI.1
  have hI1 := DI_sc hI (Sc_th hI 0)
  have hyb := yTr_b (h := h) (A := A) (y := y)
  by_cases e : yTr h A y = 0
  · obtain ⟨rfl, e1⟩ := yTr_0 e
    have hak := k_asksY (g := g) (J := J) (z := z) (k := 0) (n := 0) (Wi := Wi) (Ni := Ni) hI1 hy e1 hNi
    have hgo := fun (E' : Nat → Nat → Int) x => k_good (g := g) (V := V) (E := E') (J := J) (z := z) (k := 0) (n := 0) (x := x) hM
    obtain ⟨-, ⟨hA, hB, -⟩, -⟩ := hI.2.2.2.2.2.2 rfl
    have hY := fY24 hA
    have hyy := noY_f e1
    have hyn : y.toNat < fY A := by omega
    rw [if_pos e, e]
    obtain ⟨m0, ⟨-, -, -, -, -, m21, -, -, -, -, -, -, -, -, -, -, -, -, -, -, -, -, -⟩, ⟨-, -, -, -, -, mk6, -, -, -, -, -, -, -, -, -, -, -, -, -, -, -, -, -⟩⟩ := id hM
    refine x_aload_n dX12_there_0 rfl ?_
    refine y_iconst dX12_there_1 ?_
    refine b_pi0 (r := r) (m := 24) dX12_there_2 (pX12_85 _) (by first | assumption) (fun _ _ _ => rfl) rfl rfl (by decide) ?_
    refine x_aload_n dX12_there_5 rfl ?_
    refine (show X _ _ 6 _ _ _ _ _ _ from ?_)
    refine y_iconst dX12_there_6 ?_
    refine X.val (b := bI true) rfl ?_
    refine (show X _ _ 7 _ _ _ _ _ _ from ?_)
    refine x_iload_n dX12_there_7 rfl ?_
    refine (show X _ _ 8 _ _ _ _ _ _ from ?_)
    refine x_callV (As := [_, _]) (mc := 0) (ms := 0) (z := mX12_asksYear) (ci := 12) dX12_there_8 lX12_519 oX12_asksYear (by decide) (by first | assumption) rfl rfl (Nat.le_of_ble_eq_true rfl) (Nat.le_of_ble_eq_true rfl) rfl (hak) (fun v M1 hq => ?_)
    obtain ⟨rfl, E', rfl, hq⟩ := hq
    refine (show X _ _ 11 _ [.int (iI 0)] _ _ _ _ from ?_)
    have hI2 := DI_sc hI1 (RnQ_sc hI1 hq)
    obtain ⟨⟨hRM, hNM, hrc, hhd, -⟩, -⟩ := hq
    have hRc := hrc y.toNat hyn

    refine x_istore_n dX12_there_11 (by decide) rfl rfl ?_
    refine x_iload_n dX12_there_12 rfl ?_
    refine (show X _ _ 13 _ _ _ _ _ _ from ?_)
    refine y_if_le 24 dX12_there_13 (by decide) ⟨by omega, by omega⟩ (fun c => ?_) (fun c => ?_)
    rotate_left
    · exact absurd c (by decide)
    refine x_aload_n dX12_there_24 rfl ?_
    refine x_aload_n dX12_there_25 rfl ?_
    refine x_gr dX12_there_26 fX12_30 (by first | assumption) (fun _ _ _ => rfl) (by first | assumption) ?_
    refine x_iload_n dX12_there_29 rfl ?_
    refine b_iald (r := r) (m := 24) (j := 6) (y.toNat) dX12_there_30 (by first | assumption) (by first | rfl | omega) (by omega) (by decide) (by decide) ?_
    refine (show X _ _ 31 _ _ _ _ _ _ from ?_)
    refine X.val hRc.1.1 ?_
    refine x_callV (As := [_]) (mc := 0) (ms := 0) (z := mX12_good) (ci := 12) dX12_there_31 lX12_95 oX12_good (by decide) (by first | assumption) rfl rfl (Nat.le_of_ble_eq_true rfl) (Nat.le_of_ble_eq_true rfl) rfl (hgo _ _) (k_I ?_)
    refine (show X _ _ 34 _ _ _ _ _ _ from ?_)
    exact x_ireturn dX12_there_34 rfl (DQ_tr hI2 0 (by decide) _)
  · obtain ⟨e1, e2⟩ := yTr_n e
    have hak := k_asksY0 (g := g) (J := J) (z := z) (k := 0) (n := 0) (b := true) hI1 hy e1
    rw [e2] at hak
    have hrf := k_refused (g := g) (V := V) (E := u2 E 0 0 0) (J := J) (z := z) (k := 0) (n := 0) (x := yTr h A y) hM
    rw [if_neg e]
    obtain ⟨m0, ⟨-, -, -, -, -, m21, -, -, -, -, -, -, -, -, -, -, -, -, -, -, -, -, -⟩, ⟨-, -, -, -, -, mk6, -, -, -, -, -, -, -, -, -, -, -, -, -, -, -, -, -⟩⟩ := id hM
    refine x_aload_n dX12_there_0 rfl ?_
    refine y_iconst dX12_there_1 ?_
    refine b_pi0 (r := r) (m := 24) dX12_there_2 (pX12_85 _) (by first | assumption) (fun _ _ _ => rfl) rfl rfl (by decide) ?_
    refine x_aload_n dX12_there_5 rfl ?_
    refine (show X _ _ 6 _ _ _ _ _ _ from ?_)
    refine y_iconst dX12_there_6 ?_
    refine X.val (b := bI true) rfl ?_
    refine (show X _ _ 7 _ _ _ _ _ _ from ?_)
    refine x_iload_n dX12_there_7 rfl ?_
    refine (show X _ _ 8 _ _ _ _ _ _ from ?_)
    refine x_callV (As := [_, _]) (mc := 0) (ms := 0) (z := mX12_asksYear) (ci := 12) dX12_there_8 lX12_519 oX12_asksYear (by decide) (by first | assumption) rfl rfl (Nat.le_of_ble_eq_true rfl) (Nat.le_of_ble_eq_true rfl) rfl (hak) (k_I ?_)
    refine (show X _ _ 11 _ _ _ _ _ _ from ?_)
    refine x_istore_n dX12_there_11 (by decide) rfl rfl ?_
    refine x_iload_n dX12_there_12 rfl ?_
    refine (show X _ _ 13 _ _ _ _ _ _ from ?_)
    refine y_if_le 24 dX12_there_13 (by decide) ⟨by omega, by omega⟩ (fun c => ?_) (fun c => ?_)
    · omega
    refine x_aload_n dX12_there_16 rfl ?_
    refine x_iload_n dX12_there_17 rfl ?_
    refine (show X _ _ 18 _ _ _ _ _ _ from ?_)
    refine x_callV (As := [_]) (mc := 0) (ms := 0) (z := mX12_refused) (ci := 12) dX12_there_18 lX12_91 oX12_refused (by decide) (by first | assumption) rfl rfl (Nat.le_of_ble_eq_true rfl) (Nat.le_of_ble_eq_true rfl) rfl (hrf) (k_I ?_)
    refine (show X _ _ 21 _ _ _ _ _ _ from ?_)
    refine x_goto 34 dX12_there_21 (by decide) ?_
    refine (show X _ _ 34 _ _ _ _ _ _ from ?_)
    exact x_ireturn dX12_there_34 rfl (DQ_tr hI1 _ (by omega) _)
theorem k_can {y : Int} (hI : DI T R V r f E t tp h A B a m H K wr pl tr) (hy : R32 y) (hNi : NOk Ni) : X g mX12_can 0 [.ref r, .int (iI y), jk] [] (T, iV (pB V r 24 E), R, J, z) k n (DQ T R J z V r f (some (.int (iI (if yTr h A y = 0 then (rCn A B (runTo A B (rBeg A Wi (B 0 0) (B 0 1)) y.toNat) y.toNat : Nat) else -1)))) t tp h A B a m H K wr pl (yTr h A y)) := by
  have hM := hI.1
  have hI1 := DI_sc hI (Sc_th hI 0)
  have hyb := yTr_b (h := h) (A := A) (y := y)
  by_cases e : yTr h A y = 0
  · obtain ⟨rfl, e1⟩ := yTr_0 e
    have hak := k_asksY (g := g) (J := J) (z := z) (k := 0) (n := 0) (Wi := Wi) (Ni := Ni) hI1 hy e1 hNi
    have hgo := fun (E' : Nat → Nat → Int) x => k_good (g := g) (V := V) (E := E') (J := J) (z := z) (k := 0) (n := 0) (x := x) hM
    obtain ⟨-, ⟨hA, hB, -⟩, -⟩ := hI.2.2.2.2.2.2 rfl
    have hY := fY24 hA
    have hyy := noY_f e1
    have hyn : y.toNat < fY A := by omega
    rw [if_pos e, e]
    obtain ⟨m0, ⟨-, -, -, -, -, -, m22, -, -, -, -, -, -, -, -, -, -, -, -, -, -, -, -⟩, ⟨-, -, -, -, -, -, mk7, -, -, -, -, -, -, -, -, -, -, -, -, -, -, -, -⟩⟩ := id hM
    refine x_aload_n dX12_can_0 rfl ?_
    refine y_iconst dX12_can_1 ?_
    refine b_pi0 (r := r) (m := 24) dX12_can_2 (pX12_85 _) (by first | assumption) (fun _ _ _ => rfl) rfl rfl (by decide) ?_
    refine x_aload_n dX12_can_5 rfl ?_
    refine (show X _ _ 6 _ _ _ _ _ _ from ?_)
    refine y_iconst dX12_can_6 ?_
    refine X.val (b := bI true) rfl ?_
    refine (show X _ _ 7 _ _ _ _ _ _ from ?_)
    refine x_iload_n dX12_can_7 rfl ?_
    refine (show X _ _ 8 _ _ _ _ _ _ from ?_)
    refine x_callV (As := [_, _]) (mc := 0) (ms := 0) (z := mX12_asksYear) (ci := 12) dX12_can_8 lX12_519 oX12_asksYear (by decide) (by first | assumption) rfl rfl (Nat.le_of_ble_eq_true rfl) (Nat.le_of_ble_eq_true rfl) rfl (hak) (fun v M1 hq => ?_)
    obtain ⟨rfl, E', rfl, hq⟩ := hq
    refine (show X _ _ 11 _ [.int (iI 0)] _ _ _ _ from ?_)
    have hI2 := DI_sc hI1 (RnQ_sc hI1 hq)
    obtain ⟨⟨hRM, hNM, hrc, hhd, -⟩, -⟩ := hq
    have hRc := hrc y.toNat hyn

    refine x_istore_n dX12_can_11 (by decide) rfl rfl ?_
    refine x_iload_n dX12_can_12 rfl ?_
    refine (show X _ _ 13 _ _ _ _ _ _ from ?_)
    refine y_if_le 24 dX12_can_13 (by decide) ⟨by omega, by omega⟩ (fun c => ?_) (fun c => ?_)
    rotate_left
    · exact absurd c (by decide)
    refine x_aload_n dX12_can_24 rfl ?_
    refine x_aload_n dX12_can_25 rfl ?_
    refine x_gr dX12_can_26 fX12_33 (by first | assumption) (fun _ _ _ => rfl) (by first | assumption) ?_
    refine x_iload_n dX12_can_29 rfl ?_
    refine b_iald (r := r) (m := 24) (j := 7) (y.toNat) dX12_can_30 (by first | assumption) (by first | rfl | omega) (by omega) (by decide) (by decide) ?_
    refine (show X _ _ 31 _ _ _ _ _ _ from ?_)
    refine X.val hRc.1.2.1 ?_
    refine x_callV (As := [_]) (mc := 0) (ms := 0) (z := mX12_good) (ci := 12) dX12_can_31 lX12_95 oX12_good (by decide) (by first | assumption) rfl rfl (Nat.le_of_ble_eq_true rfl) (Nat.le_of_ble_eq_true rfl) rfl (hgo _ _) (k_I ?_)
    refine (show X _ _ 34 _ _ _ _ _ _ from ?_)
    exact x_ireturn dX12_can_34 rfl (DQ_tr hI2 0 (by decide) _)
  · obtain ⟨e1, e2⟩ := yTr_n e
    have hak := k_asksY0 (g := g) (J := J) (z := z) (k := 0) (n := 0) (b := true) hI1 hy e1
    rw [e2] at hak
    have hrf := k_refused (g := g) (V := V) (E := u2 E 0 0 0) (J := J) (z := z) (k := 0) (n := 0) (x := yTr h A y) hM
    rw [if_neg e]
    obtain ⟨m0, ⟨-, -, -, -, -, -, m22, -, -, -, -, -, -, -, -, -, -, -, -, -, -, -, -⟩, ⟨-, -, -, -, -, -, mk7, -, -, -, -, -, -, -, -, -, -, -, -, -, -, -, -⟩⟩ := id hM
    refine x_aload_n dX12_can_0 rfl ?_
    refine y_iconst dX12_can_1 ?_
    refine b_pi0 (r := r) (m := 24) dX12_can_2 (pX12_85 _) (by first | assumption) (fun _ _ _ => rfl) rfl rfl (by decide) ?_
    refine x_aload_n dX12_can_5 rfl ?_
    refine (show X _ _ 6 _ _ _ _ _ _ from ?_)
    refine y_iconst dX12_can_6 ?_
    refine X.val (b := bI true) rfl ?_
    refine (show X _ _ 7 _ _ _ _ _ _ from ?_)
    refine x_iload_n dX12_can_7 rfl ?_
    refine (show X _ _ 8 _ _ _ _ _ _ from ?_)
    refine x_callV (As := [_, _]) (mc := 0) (ms := 0) (z := mX12_asksYear) (ci := 12) dX12_can_8 lX12_519 oX12_asksYear (by decide) (by first | assumption) rfl rfl (Nat.le_of_ble_eq_true rfl) (Nat.le_of_ble_eq_true rfl) rfl (hak) (k_I ?_)
    refine (show X _ _ 11 _ _ _ _ _ _ from ?_)
    refine x_istore_n dX12_can_11 (by decide) rfl rfl ?_
    refine x_iload_n dX12_can_12 rfl ?_
    refine (show X _ _ 13 _ _ _ _ _ _ from ?_)
    refine y_if_le 24 dX12_can_13 (by decide) ⟨by omega, by omega⟩ (fun c => ?_) (fun c => ?_)
    · omega
    refine x_aload_n dX12_can_16 rfl ?_
    refine x_iload_n dX12_can_17 rfl ?_
    refine (show X _ _ 18 _ _ _ _ _ _ from ?_)
    refine x_callV (As := [_]) (mc := 0) (ms := 0) (z := mX12_refused) (ci := 12) dX12_can_18 lX12_91 oX12_refused (by decide) (by first | assumption) rfl rfl (Nat.le_of_ble_eq_true rfl) (Nat.le_of_ble_eq_true rfl) rfl (hrf) (k_I ?_)
    refine (show X _ _ 21 _ _ _ _ _ _ from ?_)
    refine x_goto 34 dX12_can_21 (by decide) ?_
    refine (show X _ _ 34 _ _ _ _ _ _ from ?_)
    exact x_ireturn dX12_can_34 rfl (DQ_tr hI1 _ (by omega) _)
theorem k_box {y : Int} (hI : DI T R V r f E t tp h A B a m H K wr pl tr) (hy : R32 y) (hNi : NOk Ni) : X g mX12_box 0 [.ref r, .int (iI y), jk] [] (T, iV (pB V r 24 E), R, J, z) k n (DQ T R J z V r f (some (.int (iI (if yTr h A y = 0 then nTo A B (rBeg A Wi (B 0 0) (B 0 1)) (nBeg A Ni) (y.toNat + 1) 0 1 else -1)))) t tp h A B a m H K wr pl (yTr h A y)) := by
  have hM := hI.1
  have hI1 := DI_sc hI (Sc_th hI 0)
  have hyb := yTr_b (h := h) (A := A) (y := y)
  by_cases e : yTr h A y = 0
  · obtain ⟨rfl, e1⟩ := yTr_0 e
    have hak := k_asksY (g := g) (J := J) (z := z) (k := 0) (n := 0) (Wi := Wi) (Ni := Ni) hI1 hy e1 hNi
    have hgo := fun (E' : Nat → Nat → Int) x => k_good (g := g) (V := V) (E := E') (J := J) (z := z) (k := 0) (n := 0) (x := x) hM
    obtain ⟨-, ⟨hA, hB, -⟩, -⟩ := hI.2.2.2.2.2.2 rfl
    have hY := fY24 hA
    have hyy := noY_f e1
    have hyn : y.toNat < fY A := by omega
    rw [if_pos e, e]
    obtain ⟨m0, ⟨-, -, -, -, -, -, -, m23, -, -, -, -, -, -, -, -, -, -, -, -, -, -, -⟩, ⟨-, -, -, -, -, -, -, mk8, -, -, -, -, -, -, -, -, -, -, -, -, -, -, -⟩⟩ := id hM
    refine x_aload_n dX12_box_0 rfl ?_
    refine y_iconst dX12_box_1 ?_
    refine b_pi0 (r := r) (m := 24) dX12_box_2 (pX12_85 _) (by first | assumption) (fun _ _ _ => rfl) rfl rfl (by decide) ?_
    refine x_aload_n dX12_box_5 rfl ?_
    refine (show X _ _ 6 _ _ _ _ _ _ from ?_)
    refine y_iconst dX12_box_6 ?_
    refine X.val (b := bI true) rfl ?_
    refine (show X _ _ 7 _ _ _ _ _ _ from ?_)
    refine x_iload_n dX12_box_7 rfl ?_
    refine (show X _ _ 8 _ _ _ _ _ _ from ?_)
    refine x_callV (As := [_, _]) (mc := 0) (ms := 0) (z := mX12_asksYear) (ci := 12) dX12_box_8 lX12_519 oX12_asksYear (by decide) (by first | assumption) rfl rfl (Nat.le_of_ble_eq_true rfl) (Nat.le_of_ble_eq_true rfl) rfl (hak) (fun v M1 hq => ?_)
    obtain ⟨rfl, E', rfl, hq⟩ := hq
    refine (show X _ _ 11 _ [.int (iI 0)] _ _ _ _ from ?_)
    have hI2 := DI_sc hI1 (RnQ_sc hI1 hq)
    obtain ⟨⟨hRM, hNM, hrc, hhd, -⟩, -⟩ := hq
    have hRc := hrc y.toNat hyn

    refine x_istore_n dX12_box_11 (by decide) rfl rfl ?_
    refine x_iload_n dX12_box_12 rfl ?_
    refine (show X _ _ 13 _ _ _ _ _ _ from ?_)
    refine y_if_le 24 dX12_box_13 (by decide) ⟨by omega, by omega⟩ (fun c => ?_) (fun c => ?_)
    rotate_left
    · exact absurd c (by decide)
    refine x_aload_n dX12_box_24 rfl ?_
    refine x_aload_n dX12_box_25 rfl ?_
    refine x_gr dX12_box_26 fX12_36 (by first | assumption) (fun _ _ _ => rfl) (by first | assumption) ?_
    refine x_iload_n dX12_box_29 rfl ?_
    refine b_iald (r := r) (m := 24) (j := 8) (y.toNat) dX12_box_30 (by first | assumption) (by first | rfl | omega) (by omega) (by decide) (by decide) ?_
    refine (show X _ _ 31 _ _ _ _ _ _ from ?_)
    refine X.val hRc.1.2.2.1 ?_
    refine x_callV (As := [_]) (mc := 0) (ms := 0) (z := mX12_good) (ci := 12) dX12_box_31 lX12_95 oX12_good (by decide) (by first | assumption) rfl rfl (Nat.le_of_ble_eq_true rfl) (Nat.le_of_ble_eq_true rfl) rfl (hgo _ _) (k_I ?_)
    refine (show X _ _ 34 _ _ _ _ _ _ from ?_)
    exact x_ireturn dX12_box_34 rfl (DQ_tr hI2 0 (by decide) _)
  · obtain ⟨e1, e2⟩ := yTr_n e
    have hak := k_asksY0 (g := g) (J := J) (z := z) (k := 0) (n := 0) (b := true) hI1 hy e1
    rw [e2] at hak
    have hrf := k_refused (g := g) (V := V) (E := u2 E 0 0 0) (J := J) (z := z) (k := 0) (n := 0) (x := yTr h A y) hM
    rw [if_neg e]
    obtain ⟨m0, ⟨-, -, -, -, -, -, -, m23, -, -, -, -, -, -, -, -, -, -, -, -, -, -, -⟩, ⟨-, -, -, -, -, -, -, mk8, -, -, -, -, -, -, -, -, -, -, -, -, -, -, -⟩⟩ := id hM
    refine x_aload_n dX12_box_0 rfl ?_
    refine y_iconst dX12_box_1 ?_
    refine b_pi0 (r := r) (m := 24) dX12_box_2 (pX12_85 _) (by first | assumption) (fun _ _ _ => rfl) rfl rfl (by decide) ?_
    refine x_aload_n dX12_box_5 rfl ?_
    refine (show X _ _ 6 _ _ _ _ _ _ from ?_)
    refine y_iconst dX12_box_6 ?_
    refine X.val (b := bI true) rfl ?_
    refine (show X _ _ 7 _ _ _ _ _ _ from ?_)
    refine x_iload_n dX12_box_7 rfl ?_
    refine (show X _ _ 8 _ _ _ _ _ _ from ?_)
    refine x_callV (As := [_, _]) (mc := 0) (ms := 0) (z := mX12_asksYear) (ci := 12) dX12_box_8 lX12_519 oX12_asksYear (by decide) (by first | assumption) rfl rfl (Nat.le_of_ble_eq_true rfl) (Nat.le_of_ble_eq_true rfl) rfl (hak) (k_I ?_)
    refine (show X _ _ 11 _ _ _ _ _ _ from ?_)
    refine x_istore_n dX12_box_11 (by decide) rfl rfl ?_
    refine x_iload_n dX12_box_12 rfl ?_
    refine (show X _ _ 13 _ _ _ _ _ _ from ?_)
    refine y_if_le 24 dX12_box_13 (by decide) ⟨by omega, by omega⟩ (fun c => ?_) (fun c => ?_)
    · omega
    refine x_aload_n dX12_box_16 rfl ?_
    refine x_iload_n dX12_box_17 rfl ?_
    refine (show X _ _ 18 _ _ _ _ _ _ from ?_)
    refine x_callV (As := [_]) (mc := 0) (ms := 0) (z := mX12_refused) (ci := 12) dX12_box_18 lX12_91 oX12_refused (by decide) (by first | assumption) rfl rfl (Nat.le_of_ble_eq_true rfl) (Nat.le_of_ble_eq_true rfl) rfl (hrf) (k_I ?_)
    refine (show X _ _ 21 _ _ _ _ _ _ from ?_)
    refine x_goto 34 dX12_box_21 (by decide) ?_
    refine (show X _ _ 34 _ _ _ _ _ _ from ?_)
    exact x_ireturn dX12_box_34 rfl (DQ_tr hI1 _ (by omega) _)
theorem k_harm {y : Int} (hI : DI T R V r f E t tp h A B a m H K wr pl tr) (hy : R32 y) (hNi : NOk Ni) : X g mX12_harm 0 [.ref r, .int (iI y), jk] [] (T, iV (pB V r 24 E), R, J, z) k n (DQ T R J z V r f (some (.int (iI (if yTr h A y = 0 then runTo A B (rBeg A Wi (B 0 0) (B 0 1)) (y.toNat + 1) 0 8 - runTo A B (rBeg A Wi (B 0 0) (B 0 1)) y.toNat 0 8 else -1)))) t tp h A B a m H K wr pl (yTr h A y)) := by
  have hM := hI.1
  have hI1 := DI_sc hI (Sc_th hI 0)
  have hyb := yTr_b (h := h) (A := A) (y := y)
  by_cases e : yTr h A y = 0
  · obtain ⟨rfl, e1⟩ := yTr_0 e
    have hak := k_asksY (g := g) (J := J) (z := z) (k := 0) (n := 0) (Wi := Wi) (Ni := Ni) hI1 hy e1 hNi
    have hgo := fun (E' : Nat → Nat → Int) x => k_good (g := g) (V := V) (E := E') (J := J) (z := z) (k := 0) (n := 0) (x := x) hM
    obtain ⟨-, ⟨hA, hB, -⟩, -⟩ := hI.2.2.2.2.2.2 rfl
    have hY := fY24 hA
    have hyy := noY_f e1
    have hyn : y.toNat < fY A := by omega
    rw [if_pos e, e]
    obtain ⟨m0, ⟨-, -, -, -, -, -, -, -, m24, -, -, -, -, -, -, -, -, -, -, -, -, -, -⟩, ⟨-, -, -, -, -, -, -, -, mk9, -, -, -, -, -, -, -, -, -, -, -, -, -, -⟩⟩ := id hM
    refine x_aload_n dX12_harm_0 rfl ?_
    refine y_iconst dX12_harm_1 ?_
    refine b_pi0 (r := r) (m := 24) dX12_harm_2 (pX12_85 _) (by first | assumption) (fun _ _ _ => rfl) rfl rfl (by decide) ?_
    refine x_aload_n dX12_harm_5 rfl ?_
    refine (show X _ _ 6 _ _ _ _ _ _ from ?_)
    refine y_iconst dX12_harm_6 ?_
    refine X.val (b := bI true) rfl ?_
    refine (show X _ _ 7 _ _ _ _ _ _ from ?_)
    refine x_iload_n dX12_harm_7 rfl ?_
    refine (show X _ _ 8 _ _ _ _ _ _ from ?_)
    refine x_callV (As := [_, _]) (mc := 0) (ms := 0) (z := mX12_asksYear) (ci := 12) dX12_harm_8 lX12_519 oX12_asksYear (by decide) (by first | assumption) rfl rfl (Nat.le_of_ble_eq_true rfl) (Nat.le_of_ble_eq_true rfl) rfl (hak) (fun v M1 hq => ?_)
    obtain ⟨rfl, E', rfl, hq⟩ := hq
    refine (show X _ _ 11 _ [.int (iI 0)] _ _ _ _ from ?_)
    have hI2 := DI_sc hI1 (RnQ_sc hI1 hq)
    obtain ⟨⟨hRM, hNM, hrc, hhd, -⟩, -⟩ := hq
    have hRc := hrc y.toNat hyn

    refine x_istore_n dX12_harm_11 (by decide) rfl rfl ?_
    refine x_iload_n dX12_harm_12 rfl ?_
    refine (show X _ _ 13 _ _ _ _ _ _ from ?_)
    refine y_if_le 24 dX12_harm_13 (by decide) ⟨by omega, by omega⟩ (fun c => ?_) (fun c => ?_)
    rotate_left
    · exact absurd c (by decide)
    refine x_aload_n dX12_harm_24 rfl ?_
    refine x_aload_n dX12_harm_25 rfl ?_
    refine x_gr dX12_harm_26 fX12_39 (by first | assumption) (fun _ _ _ => rfl) (by first | assumption) ?_
    refine x_iload_n dX12_harm_29 rfl ?_
    refine b_iald (r := r) (m := 24) (j := 9) (y.toNat) dX12_harm_30 (by first | assumption) (by first | rfl | omega) (by omega) (by decide) (by decide) ?_
    refine (show X _ _ 31 _ _ _ _ _ _ from ?_)
    refine X.val hRc.1.2.2.2.1 ?_
    refine x_callV (As := [_]) (mc := 0) (ms := 0) (z := mX12_good) (ci := 12) dX12_harm_31 lX12_95 oX12_good (by decide) (by first | assumption) rfl rfl (Nat.le_of_ble_eq_true rfl) (Nat.le_of_ble_eq_true rfl) rfl (hgo _ _) (k_I ?_)
    refine (show X _ _ 34 _ _ _ _ _ _ from ?_)
    exact x_ireturn dX12_harm_34 rfl (DQ_tr hI2 0 (by decide) _)
  · obtain ⟨e1, e2⟩ := yTr_n e
    have hak := k_asksY0 (g := g) (J := J) (z := z) (k := 0) (n := 0) (b := true) hI1 hy e1
    rw [e2] at hak
    have hrf := k_refused (g := g) (V := V) (E := u2 E 0 0 0) (J := J) (z := z) (k := 0) (n := 0) (x := yTr h A y) hM
    rw [if_neg e]
    obtain ⟨m0, ⟨-, -, -, -, -, -, -, -, m24, -, -, -, -, -, -, -, -, -, -, -, -, -, -⟩, ⟨-, -, -, -, -, -, -, -, mk9, -, -, -, -, -, -, -, -, -, -, -, -, -, -⟩⟩ := id hM
    refine x_aload_n dX12_harm_0 rfl ?_
    refine y_iconst dX12_harm_1 ?_
    refine b_pi0 (r := r) (m := 24) dX12_harm_2 (pX12_85 _) (by first | assumption) (fun _ _ _ => rfl) rfl rfl (by decide) ?_
    refine x_aload_n dX12_harm_5 rfl ?_
    refine (show X _ _ 6 _ _ _ _ _ _ from ?_)
    refine y_iconst dX12_harm_6 ?_
    refine X.val (b := bI true) rfl ?_
    refine (show X _ _ 7 _ _ _ _ _ _ from ?_)
    refine x_iload_n dX12_harm_7 rfl ?_
    refine (show X _ _ 8 _ _ _ _ _ _ from ?_)
    refine x_callV (As := [_, _]) (mc := 0) (ms := 0) (z := mX12_asksYear) (ci := 12) dX12_harm_8 lX12_519 oX12_asksYear (by decide) (by first | assumption) rfl rfl (Nat.le_of_ble_eq_true rfl) (Nat.le_of_ble_eq_true rfl) rfl (hak) (k_I ?_)
    refine (show X _ _ 11 _ _ _ _ _ _ from ?_)
    refine x_istore_n dX12_harm_11 (by decide) rfl rfl ?_
    refine x_iload_n dX12_harm_12 rfl ?_
    refine (show X _ _ 13 _ _ _ _ _ _ from ?_)
    refine y_if_le 24 dX12_harm_13 (by decide) ⟨by omega, by omega⟩ (fun c => ?_) (fun c => ?_)
    · omega
    refine x_aload_n dX12_harm_16 rfl ?_
    refine x_iload_n dX12_harm_17 rfl ?_
    refine (show X _ _ 18 _ _ _ _ _ _ from ?_)
    refine x_callV (As := [_]) (mc := 0) (ms := 0) (z := mX12_refused) (ci := 12) dX12_harm_18 lX12_91 oX12_refused (by decide) (by first | assumption) rfl rfl (Nat.le_of_ble_eq_true rfl) (Nat.le_of_ble_eq_true rfl) rfl (hrf) (k_I ?_)
    refine (show X _ _ 21 _ _ _ _ _ _ from ?_)
    refine x_goto 34 dX12_harm_21 (by decide) ?_
    refine (show X _ _ 34 _ _ _ _ _ _ from ?_)
    exact x_ireturn dX12_harm_34 rfl (DQ_tr hI1 _ (by omega) _)
theorem k_empty {y : Int} (hI : DI T R V r f E t tp h A B a m H K wr pl tr) (hy : R32 y) (hNi : NOk Ni) : X g mX12_empty 0 [.ref r, .int (iI y), jk] [] (T, iV (pB V r 24 E), R, J, z) k n (DQ T R J z V r f (some (.int (iI (if yTr h A y = 0 then if runTo A B (rBeg A Wi (B 0 0) (B 0 1)) y.toNat 0 6 = 0 then 0 else 1 else -1)))) t tp h A B a m H K wr pl (yTr h A y)) := by
  have hM := hI.1
  have hI1 := DI_sc hI (Sc_th hI 0)
  have hyb := yTr_b (h := h) (A := A) (y := y)
  by_cases e : yTr h A y = 0
  · obtain ⟨rfl, e1⟩ := yTr_0 e
    have hak := k_asksY (g := g) (J := J) (z := z) (k := 0) (n := 0) (Wi := Wi) (Ni := Ni) hI1 hy e1 hNi
    have hgo := fun (E' : Nat → Nat → Int) x => k_good (g := g) (V := V) (E := E') (J := J) (z := z) (k := 0) (n := 0) (x := x) hM
    obtain ⟨-, ⟨hA, hB, -⟩, -⟩ := hI.2.2.2.2.2.2 rfl
    have hY := fY24 hA
    have hyy := noY_f e1
    have hyn : y.toNat < fY A := by omega
    rw [if_pos e, e]
    obtain ⟨m0, ⟨-, -, -, -, -, -, -, -, -, m25, -, -, -, -, -, -, -, -, -, -, -, -, -⟩, ⟨-, -, -, -, -, -, -, -, -, mk10, -, -, -, -, -, -, -, -, -, -, -, -, -⟩⟩ := id hM
    refine x_aload_n dX12_empty_0 rfl ?_
    refine y_iconst dX12_empty_1 ?_
    refine b_pi0 (r := r) (m := 24) dX12_empty_2 (pX12_85 _) (by first | assumption) (fun _ _ _ => rfl) rfl rfl (by decide) ?_
    refine x_aload_n dX12_empty_5 rfl ?_
    refine (show X _ _ 6 _ _ _ _ _ _ from ?_)
    refine y_iconst dX12_empty_6 ?_
    refine X.val (b := bI true) rfl ?_
    refine (show X _ _ 7 _ _ _ _ _ _ from ?_)
    refine x_iload_n dX12_empty_7 rfl ?_
    refine (show X _ _ 8 _ _ _ _ _ _ from ?_)
    refine x_callV (As := [_, _]) (mc := 0) (ms := 0) (z := mX12_asksYear) (ci := 12) dX12_empty_8 lX12_519 oX12_asksYear (by decide) (by first | assumption) rfl rfl (Nat.le_of_ble_eq_true rfl) (Nat.le_of_ble_eq_true rfl) rfl (hak) (fun v M1 hq => ?_)
    obtain ⟨rfl, E', rfl, hq⟩ := hq
    refine (show X _ _ 11 _ [.int (iI 0)] _ _ _ _ from ?_)
    have hI2 := DI_sc hI1 (RnQ_sc hI1 hq)
    obtain ⟨⟨hRM, hNM, hrc, hhd, -⟩, -⟩ := hq
    have hRc := hrc y.toNat hyn

    refine x_istore_n dX12_empty_11 (by decide) rfl rfl ?_
    refine x_iload_n dX12_empty_12 rfl ?_
    refine (show X _ _ 13 _ _ _ _ _ _ from ?_)
    refine y_if_le 24 dX12_empty_13 (by decide) ⟨by omega, by omega⟩ (fun c => ?_) (fun c => ?_)
    rotate_left
    · exact absurd c (by decide)
    refine x_aload_n dX12_empty_24 rfl ?_
    refine x_aload_n dX12_empty_25 rfl ?_
    refine x_gr dX12_empty_26 fX12_42 (by first | assumption) (fun _ _ _ => rfl) (by first | assumption) ?_
    refine x_iload_n dX12_empty_29 rfl ?_
    refine b_zald (r := r) (m := 24) (j := 10) (y.toNat) dX12_empty_30 (by first | assumption) (by first | rfl | omega) (by omega) (by decide) (by decide) ?_
    refine (show X _ _ 31 _ _ _ _ _ _ from ?_)
    refine X.val hRc.1.2.2.2.2 ?_
    have hst : X g mX12_empty 39 [.ref r, .int (iI y), .int (iI 0)] [.int (iI (if runTo A B (rBeg A Wi (B 0 0) (B 0 1)) y.toNat 0 6 = 0 then 0 else 1)), .ref r] (T, iV (pB V r 24 E'), R, J, z) k n (DQ T R J z V r f (some (.int (iI (if runTo A B (rBeg A Wi (B 0 0) (B 0 1)) y.toNat 0 6 = 0 then 0 else 1)))) t tp true A B a m H K wr pl (0)) := by
      refine x_callV (As := [_]) (mc := 0) (ms := 0) (z := mX12_good) (ci := 12) dX12_empty_39 lX12_95 oX12_good (by decide) (by first | assumption) rfl rfl (Nat.le_of_ble_eq_true rfl) (Nat.le_of_ble_eq_true rfl) rfl (hgo _ _) (k_I ?_)
      refine (show X _ _ 42 _ _ _ _ _ _ from ?_)
      exact x_ireturn dX12_empty_42 rfl (DQ_tr hI2 0 (by decide) _)
    refine y_ifb_eq 38 dX12_empty_31 (by decide) (fun c2 => ?_) (fun c2 => ?_)
    · have c3 : runTo A B (rBeg A Wi (B 0 0) (B 0 1)) y.toNat 0 6 = 0 := Classical.byContradiction fun d => (of_decide_eq_false c2) d
      rw [if_pos c3] at hst ⊢
      refine y_iconst dX12_empty_38 ?_
      refine (show X _ _ 39 _ _ _ _ _ _ from ?_)
      exact hst
    · have c3 := of_decide_eq_true c2
      rw [if_neg c3] at hst ⊢
      refine y_iconst dX12_empty_34 ?_
      refine x_goto 39 dX12_empty_35 (by decide) ?_
      refine (show X _ _ 39 _ _ _ _ _ _ from ?_)
      exact hst
  · obtain ⟨e1, e2⟩ := yTr_n e
    have hak := k_asksY0 (g := g) (J := J) (z := z) (k := 0) (n := 0) (b := true) hI1 hy e1
    rw [e2] at hak
    have hrf := k_refused (g := g) (V := V) (E := u2 E 0 0 0) (J := J) (z := z) (k := 0) (n := 0) (x := yTr h A y) hM
    rw [if_neg e]
    obtain ⟨m0, ⟨-, -, -, -, -, -, -, -, -, m25, -, -, -, -, -, -, -, -, -, -, -, -, -⟩, ⟨-, -, -, -, -, -, -, -, -, mk10, -, -, -, -, -, -, -, -, -, -, -, -, -⟩⟩ := id hM
    refine x_aload_n dX12_empty_0 rfl ?_
    refine y_iconst dX12_empty_1 ?_
    refine b_pi0 (r := r) (m := 24) dX12_empty_2 (pX12_85 _) (by first | assumption) (fun _ _ _ => rfl) rfl rfl (by decide) ?_
    refine x_aload_n dX12_empty_5 rfl ?_
    refine (show X _ _ 6 _ _ _ _ _ _ from ?_)
    refine y_iconst dX12_empty_6 ?_
    refine X.val (b := bI true) rfl ?_
    refine (show X _ _ 7 _ _ _ _ _ _ from ?_)
    refine x_iload_n dX12_empty_7 rfl ?_
    refine (show X _ _ 8 _ _ _ _ _ _ from ?_)
    refine x_callV (As := [_, _]) (mc := 0) (ms := 0) (z := mX12_asksYear) (ci := 12) dX12_empty_8 lX12_519 oX12_asksYear (by decide) (by first | assumption) rfl rfl (Nat.le_of_ble_eq_true rfl) (Nat.le_of_ble_eq_true rfl) rfl (hak) (k_I ?_)
    refine (show X _ _ 11 _ _ _ _ _ _ from ?_)
    refine x_istore_n dX12_empty_11 (by decide) rfl rfl ?_
    refine x_iload_n dX12_empty_12 rfl ?_
    refine (show X _ _ 13 _ _ _ _ _ _ from ?_)
    refine y_if_le 24 dX12_empty_13 (by decide) ⟨by omega, by omega⟩ (fun c => ?_) (fun c => ?_)
    · omega
    refine x_aload_n dX12_empty_16 rfl ?_
    refine x_iload_n dX12_empty_17 rfl ?_
    refine (show X _ _ 18 _ _ _ _ _ _ from ?_)
    refine x_callV (As := [_]) (mc := 0) (ms := 0) (z := mX12_refused) (ci := 12) dX12_empty_18 lX12_91 oX12_refused (by decide) (by first | assumption) rfl rfl (Nat.le_of_ble_eq_true rfl) (Nat.le_of_ble_eq_true rfl) rfl (hrf) (k_I ?_)
    refine (show X _ _ 21 _ _ _ _ _ _ from ?_)
    refine x_goto 42 dX12_empty_21 (by decide) ?_
    refine (show X _ _ 42 _ _ _ _ _ _ from ?_)
    exact x_ireturn dX12_empty_42 rfl (DQ_tr hI1 _ (by omega) _)
theorem k_turnsOf {p y : Int} (hI : DI T R V r f E t tp h A B a m H K wr pl tr) (hp : R32 p) (hy : R32 y) (hNi : NOk Ni) : X g mX12_turnsOf 0 [.ref r, .int (iI p), .int (iI y), jk] [] (T, iV (pB V r 24 E), R, J, z) k n (DQ T R J z V r f (some (.int (iI (if pyTr h A p y = 0 then runTo A B (rBeg A Wi (B 0 0) (B 0 1)) (y.toNat + 1) 1 p.toNat else -1)))) t tp h A B a m H K wr pl (pyTr h A p y)) := by
  have hM := hI.1
  have hI1 := DI_sc hI (Sc_th hI 0)
  have hyb := pyzb (h := h) (A := A) (p := p) (y := y)
  have hip := k_isPerson (g := g) (J := J) (z := z) (k := 0) (n := 0) (p := p) hI1 hp
  by_cases e : pyTr h A p y = 0
  · obtain ⟨e0, e1⟩ := pyz0 e
    have e2 := noP_f e0
    obtain ⟨rfl, e3, e4⟩ := e2
    rw [e0] at hip
    have hak := k_asksY (g := g) (J := J) (z := z) (k := 0) (n := 0) (Wi := Wi) (Ni := Ni) hI1 hy e1 hNi
    have hgo := fun (E' : Nat → Nat → Int) x => k_good (g := g) (V := V) (E := E') (J := J) (z := z) (k := 0) (n := 0) (x := x) hM
    obtain ⟨⟨hf, hG, hF, hap⟩, ⟨hA, hB, -⟩, -⟩ := hI.2.2.2.2.2.2 rfl
    have hY := fY24 hA
    have eP := fP10 hA
    have hyy := noY_f e1
    have hyn : y.toNat < fY A := by omega
    have hpn : p.toNat < fP A := by omega
    rw [if_pos e, e]
    obtain ⟨m0, ⟨-, -, -, -, -, -, -, -, -, -, m26, -, -, -, -, -, -, -, -, -, -, -, -⟩, ⟨-, -, -, -, -, -, -, -, -, -, mk11, -, -, -, -, -, -, -, -, -, -, -, -⟩⟩ := id hM
    refine x_aload_n dX12_turnsOf_0 rfl ?_
    refine y_iconst dX12_turnsOf_1 ?_
    refine b_pi0 (r := r) (m := 24) dX12_turnsOf_2 (pX12_85 _) (by first | assumption) (fun _ _ _ => rfl) rfl rfl (by decide) ?_
    refine x_aload_n dX12_turnsOf_5 rfl ?_
    refine x_aload_n dX12_turnsOf_6 rfl ?_
    refine x_iload_n dX12_turnsOf_7 rfl ?_
    refine (show X _ _ 8 _ _ _ _ _ _ from ?_)
    refine x_callV (As := [_]) (mc := 0) (ms := 0) (z := mX12_isPerson) (ci := 12) dX12_turnsOf_8 lX12_513 oX12_isPerson (by decide) (by first | assumption) rfl rfl (Nat.le_of_ble_eq_true rfl) (Nat.le_of_ble_eq_true rfl) rfl (hip) (k_I ?_)
    refine (show X _ _ 11 _ _ _ _ _ _ from ?_)
    refine x_iload_n dX12_turnsOf_11 rfl ?_
    refine (show X _ _ 12 _ _ _ _ _ _ from ?_)
    refine x_callV (As := [_, _]) (mc := 0) (ms := 0) (z := mX12_asksYear) (ci := 12) dX12_turnsOf_12 lX12_519 oX12_asksYear (by decide) (by first | assumption) rfl rfl (Nat.le_of_ble_eq_true rfl) (Nat.le_of_ble_eq_true rfl) rfl (hak) (fun v M1 hq => ?_)
    obtain ⟨rfl, E', rfl, hq⟩ := hq
    refine (show X _ _ 15 _ [.int (iI 0)] _ _ _ _ from ?_)
    have hI2 := DI_sc hI1 (RnQ_sc hI1 hq)
    obtain ⟨⟨hRM, hNM, hrc, hhd, -⟩, -⟩ := hq
    have hRc := hrc y.toNat hyn
    refine x_istore_n dX12_turnsOf_15 (by decide) rfl rfl ?_
    refine x_iload_n dX12_turnsOf_16 rfl ?_
    refine (show X _ _ 17 _ _ _ _ _ _ from ?_)
    refine y_if_le 28 dX12_turnsOf_17 (by decide) ⟨by omega, by omega⟩ (fun c => ?_) (fun c => ?_)
    rotate_left
    · exact absurd c (by decide)
    refine x_aload_n dX12_turnsOf_28 rfl ?_
    refine x_aload_n dX12_turnsOf_29 rfl ?_
    refine x_gr dX12_turnsOf_30 fX12_46 (by first | assumption) (fun _ _ _ => rfl) (by first | assumption) ?_
    refine y_bipush dX12_turnsOf_33 rfl ?_
    refine x_iload_n dX12_turnsOf_35 rfl ?_
    refine y_imul dX12_turnsOf_36 ?_
    refine x_iload_n dX12_turnsOf_37 rfl ?_
    refine y_iadd dX12_turnsOf_38 ?_
    refine (show X _ _ 39 _ _ _ _ _ _ from ?_)
    refine b_iald (r := r) (m := 24) (j := 11) (10 * y.toNat + p.toNat) dX12_turnsOf_39 (by first | assumption) (by first | rfl | omega) (by omega) (by decide) (by decide) ?_
    refine (show X _ _ 40 _ _ _ _ _ _ from ?_)
    refine X.val (hRc.2.1 p.toNat hpn).1 ?_
    refine x_callV (As := [_]) (mc := 0) (ms := 0) (z := mX12_good) (ci := 12) dX12_turnsOf_40 lX12_95 oX12_good (by decide) (by first | assumption) rfl rfl (Nat.le_of_ble_eq_true rfl) (Nat.le_of_ble_eq_true rfl) rfl (hgo _ _) (k_I ?_)
    refine (show X _ _ 43 _ _ _ _ _ _ from ?_)
    exact x_ireturn dX12_turnsOf_43 rfl (DQ_tr hI2 0 (by decide) _)
  · obtain ⟨e1, e2⟩ := pyTr_n e
    have hak := k_asksY0 (g := g) (J := J) (z := z) (k := 0) (n := 0) (b := !noP h A p) hI1 hy e1
    rw [e2] at hak
    have hrf := k_refused (g := g) (V := V) (E := u2 E 0 0 0) (J := J) (z := z) (k := 0) (n := 0) (x := pyTr h A p y) hM
    rw [if_neg e]
    obtain ⟨m0, ⟨-, -, -, -, -, -, -, -, -, -, m26, -, -, -, -, -, -, -, -, -, -, -, -⟩, ⟨-, -, -, -, -, -, -, -, -, -, mk11, -, -, -, -, -, -, -, -, -, -, -, -⟩⟩ := id hM
    refine x_aload_n dX12_turnsOf_0 rfl ?_
    refine y_iconst dX12_turnsOf_1 ?_
    refine b_pi0 (r := r) (m := 24) dX12_turnsOf_2 (pX12_85 _) (by first | assumption) (fun _ _ _ => rfl) rfl rfl (by decide) ?_
    refine x_aload_n dX12_turnsOf_5 rfl ?_
    refine x_aload_n dX12_turnsOf_6 rfl ?_
    refine x_iload_n dX12_turnsOf_7 rfl ?_
    refine (show X _ _ 8 _ _ _ _ _ _ from ?_)
    refine x_callV (As := [_]) (mc := 0) (ms := 0) (z := mX12_isPerson) (ci := 12) dX12_turnsOf_8 lX12_513 oX12_isPerson (by decide) (by first | assumption) rfl rfl (Nat.le_of_ble_eq_true rfl) (Nat.le_of_ble_eq_true rfl) rfl (hip) (k_I ?_)
    refine (show X _ _ 11 _ _ _ _ _ _ from ?_)
    refine x_iload_n dX12_turnsOf_11 rfl ?_
    refine (show X _ _ 12 _ _ _ _ _ _ from ?_)
    refine x_callV (As := [_, _]) (mc := 0) (ms := 0) (z := mX12_asksYear) (ci := 12) dX12_turnsOf_12 lX12_519 oX12_asksYear (by decide) (by first | assumption) rfl rfl (Nat.le_of_ble_eq_true rfl) (Nat.le_of_ble_eq_true rfl) rfl (hak) (k_I ?_)
    refine (show X _ _ 15 _ _ _ _ _ _ from ?_)
    refine x_istore_n dX12_turnsOf_15 (by decide) rfl rfl ?_
    refine x_iload_n dX12_turnsOf_16 rfl ?_
    refine (show X _ _ 17 _ _ _ _ _ _ from ?_)
    refine y_if_le 28 dX12_turnsOf_17 (by decide) ⟨by omega, by omega⟩ (fun c => ?_) (fun c => ?_)
    · omega
    refine x_aload_n dX12_turnsOf_20 rfl ?_
    refine x_iload_n dX12_turnsOf_21 rfl ?_
    refine (show X _ _ 22 _ _ _ _ _ _ from ?_)
    refine x_callV (As := [_]) (mc := 0) (ms := 0) (z := mX12_refused) (ci := 12) dX12_turnsOf_22 lX12_91 oX12_refused (by decide) (by first | assumption) rfl rfl (Nat.le_of_ble_eq_true rfl) (Nat.le_of_ble_eq_true rfl) rfl (hrf) (k_I ?_)
    refine (show X _ _ 25 _ _ _ _ _ _ from ?_)
    refine x_goto 43 dX12_turnsOf_25 (by decide) ?_
    refine (show X _ _ 43 _ _ _ _ _ _ from ?_)
    exact x_ireturn dX12_turnsOf_43 rfl (DQ_tr hI1 _ (by omega) _)
theorem k_strength {p y : Int} (hI : DI T R V r f E t tp h A B a m H K wr pl tr) (hp : R32 p) (hy : R32 y) (hNi : NOk Ni) : X g mX12_strength 0 [.ref r, .int (iI p), .int (iI y), jk] [] (T, iV (pB V r 24 E), R, J, z) k n (DQ T R J z V r f (some (.int (iI (if pyTr h A p y = 0 then runTo A B (rBeg A Wi (B 0 0) (B 0 1)) (y.toNat + 1) 2 p.toNat else -1)))) t tp h A B a m H K wr pl (pyTr h A p y)) := by
  have hM := hI.1
  have hI1 := DI_sc hI (Sc_th hI 0)
  have hyb := pyzb (h := h) (A := A) (p := p) (y := y)
  have hip := k_isPerson (g := g) (J := J) (z := z) (k := 0) (n := 0) (p := p) hI1 hp
  by_cases e : pyTr h A p y = 0
  · obtain ⟨e0, e1⟩ := pyz0 e
    have e2 := noP_f e0
    obtain ⟨rfl, e3, e4⟩ := e2
    rw [e0] at hip
    have hak := k_asksY (g := g) (J := J) (z := z) (k := 0) (n := 0) (Wi := Wi) (Ni := Ni) hI1 hy e1 hNi
    have hgo := fun (E' : Nat → Nat → Int) x => k_good (g := g) (V := V) (E := E') (J := J) (z := z) (k := 0) (n := 0) (x := x) hM
    obtain ⟨⟨hf, hG, hF, hap⟩, ⟨hA, hB, -⟩, -⟩ := hI.2.2.2.2.2.2 rfl
    have hY := fY24 hA
    have eP := fP10 hA
    have hyy := noY_f e1
    have hyn : y.toNat < fY A := by omega
    have hpn : p.toNat < fP A := by omega
    rw [if_pos e, e]
    obtain ⟨m0, ⟨-, -, -, -, -, -, -, -, -, -, -, m27, -, -, -, -, -, -, -, -, -, -, -⟩, ⟨-, -, -, -, -, -, -, -, -, -, -, mk12, -, -, -, -, -, -, -, -, -, -, -⟩⟩ := id hM
    refine x_aload_n dX12_strength_0 rfl ?_
    refine y_iconst dX12_strength_1 ?_
    refine b_pi0 (r := r) (m := 24) dX12_strength_2 (pX12_85 _) (by first | assumption) (fun _ _ _ => rfl) rfl rfl (by decide) ?_
    refine x_aload_n dX12_strength_5 rfl ?_
    refine x_aload_n dX12_strength_6 rfl ?_
    refine x_iload_n dX12_strength_7 rfl ?_
    refine (show X _ _ 8 _ _ _ _ _ _ from ?_)
    refine x_callV (As := [_]) (mc := 0) (ms := 0) (z := mX12_isPerson) (ci := 12) dX12_strength_8 lX12_513 oX12_isPerson (by decide) (by first | assumption) rfl rfl (Nat.le_of_ble_eq_true rfl) (Nat.le_of_ble_eq_true rfl) rfl (hip) (k_I ?_)
    refine (show X _ _ 11 _ _ _ _ _ _ from ?_)
    refine x_iload_n dX12_strength_11 rfl ?_
    refine (show X _ _ 12 _ _ _ _ _ _ from ?_)
    refine x_callV (As := [_, _]) (mc := 0) (ms := 0) (z := mX12_asksYear) (ci := 12) dX12_strength_12 lX12_519 oX12_asksYear (by decide) (by first | assumption) rfl rfl (Nat.le_of_ble_eq_true rfl) (Nat.le_of_ble_eq_true rfl) rfl (hak) (fun v M1 hq => ?_)
    obtain ⟨rfl, E', rfl, hq⟩ := hq
    refine (show X _ _ 15 _ [.int (iI 0)] _ _ _ _ from ?_)
    have hI2 := DI_sc hI1 (RnQ_sc hI1 hq)
    obtain ⟨⟨hRM, hNM, hrc, hhd, -⟩, -⟩ := hq
    have hRc := hrc y.toNat hyn
    refine x_istore_n dX12_strength_15 (by decide) rfl rfl ?_
    refine x_iload_n dX12_strength_16 rfl ?_
    refine (show X _ _ 17 _ _ _ _ _ _ from ?_)
    refine y_if_le 28 dX12_strength_17 (by decide) ⟨by omega, by omega⟩ (fun c => ?_) (fun c => ?_)
    rotate_left
    · exact absurd c (by decide)
    refine x_aload_n dX12_strength_28 rfl ?_
    refine x_aload_n dX12_strength_29 rfl ?_
    refine x_gr dX12_strength_30 fX12_49 (by first | assumption) (fun _ _ _ => rfl) (by first | assumption) ?_
    refine y_bipush dX12_strength_33 rfl ?_
    refine x_iload_n dX12_strength_35 rfl ?_
    refine y_imul dX12_strength_36 ?_
    refine x_iload_n dX12_strength_37 rfl ?_
    refine y_iadd dX12_strength_38 ?_
    refine (show X _ _ 39 _ _ _ _ _ _ from ?_)
    refine b_iald (r := r) (m := 24) (j := 12) (10 * y.toNat + p.toNat) dX12_strength_39 (by first | assumption) (by first | rfl | omega) (by omega) (by decide) (by decide) ?_
    refine (show X _ _ 40 _ _ _ _ _ _ from ?_)
    refine X.val (hRc.2.1 p.toNat hpn).2 ?_
    refine x_callV (As := [_]) (mc := 0) (ms := 0) (z := mX12_good) (ci := 12) dX12_strength_40 lX12_95 oX12_good (by decide) (by first | assumption) rfl rfl (Nat.le_of_ble_eq_true rfl) (Nat.le_of_ble_eq_true rfl) rfl (hgo _ _) (k_I ?_)
    refine (show X _ _ 43 _ _ _ _ _ _ from ?_)
    exact x_ireturn dX12_strength_43 rfl (DQ_tr hI2 0 (by decide) _)
  · obtain ⟨e1, e2⟩ := pyTr_n e
    have hak := k_asksY0 (g := g) (J := J) (z := z) (k := 0) (n := 0) (b := !noP h A p) hI1 hy e1
    rw [e2] at hak
    have hrf := k_refused (g := g) (V := V) (E := u2 E 0 0 0) (J := J) (z := z) (k := 0) (n := 0) (x := pyTr h A p y) hM
    rw [if_neg e]
    obtain ⟨m0, ⟨-, -, -, -, -, -, -, -, -, -, -, m27, -, -, -, -, -, -, -, -, -, -, -⟩, ⟨-, -, -, -, -, -, -, -, -, -, -, mk12, -, -, -, -, -, -, -, -, -, -, -⟩⟩ := id hM
    refine x_aload_n dX12_strength_0 rfl ?_
    refine y_iconst dX12_strength_1 ?_
    refine b_pi0 (r := r) (m := 24) dX12_strength_2 (pX12_85 _) (by first | assumption) (fun _ _ _ => rfl) rfl rfl (by decide) ?_
    refine x_aload_n dX12_strength_5 rfl ?_
    refine x_aload_n dX12_strength_6 rfl ?_
    refine x_iload_n dX12_strength_7 rfl ?_
    refine (show X _ _ 8 _ _ _ _ _ _ from ?_)
    refine x_callV (As := [_]) (mc := 0) (ms := 0) (z := mX12_isPerson) (ci := 12) dX12_strength_8 lX12_513 oX12_isPerson (by decide) (by first | assumption) rfl rfl (Nat.le_of_ble_eq_true rfl) (Nat.le_of_ble_eq_true rfl) rfl (hip) (k_I ?_)
    refine (show X _ _ 11 _ _ _ _ _ _ from ?_)
    refine x_iload_n dX12_strength_11 rfl ?_
    refine (show X _ _ 12 _ _ _ _ _ _ from ?_)
    refine x_callV (As := [_, _]) (mc := 0) (ms := 0) (z := mX12_asksYear) (ci := 12) dX12_strength_12 lX12_519 oX12_asksYear (by decide) (by first | assumption) rfl rfl (Nat.le_of_ble_eq_true rfl) (Nat.le_of_ble_eq_true rfl) rfl (hak) (k_I ?_)
    refine (show X _ _ 15 _ _ _ _ _ _ from ?_)
    refine x_istore_n dX12_strength_15 (by decide) rfl rfl ?_
    refine x_iload_n dX12_strength_16 rfl ?_
    refine (show X _ _ 17 _ _ _ _ _ _ from ?_)
    refine y_if_le 28 dX12_strength_17 (by decide) ⟨by omega, by omega⟩ (fun c => ?_) (fun c => ?_)
    · omega
    refine x_aload_n dX12_strength_20 rfl ?_
    refine x_iload_n dX12_strength_21 rfl ?_
    refine (show X _ _ 22 _ _ _ _ _ _ from ?_)
    refine x_callV (As := [_]) (mc := 0) (ms := 0) (z := mX12_refused) (ci := 12) dX12_strength_22 lX12_91 oX12_refused (by decide) (by first | assumption) rfl rfl (Nat.le_of_ble_eq_true rfl) (Nat.le_of_ble_eq_true rfl) rfl (hrf) (k_I ?_)
    refine (show X _ _ 25 _ _ _ _ _ _ from ?_)
    refine x_goto 43 dX12_strength_25 (by decide) ?_
    refine (show X _ _ 43 _ _ _ _ _ _ from ?_)
    exact x_ireturn dX12_strength_43 rfl (DQ_tr hI1 _ (by omega) _)
theorem k_knows {p y : Int} (hI : DI T R V r f E t tp h A B a m H K wr pl tr) (hp : R32 p) (hy : R32 y) (hNi : NOk Ni) : X g mX12_knows 0 [.ref r, .int (iI p), .int (iI y), jk] [] (T, iV (pB V r 24 E), R, J, z) k n (DQ T R J z V r f (some (.int (iI (if pyTr h A p y = 0 then nTo A B (rBeg A Wi (B 0 0) (B 0 1)) (nBeg A Ni) (y.toNat + 1) 1 p.toNat else -1)))) t tp h A B a m H K wr pl (pyTr h A p y)) := by
  have hM := hI.1
  have hI1 := DI_sc hI (Sc_th hI 0)
  have hyb := pyzb (h := h) (A := A) (p := p) (y := y)
  have hip := k_isPerson (g := g) (J := J) (z := z) (k := 0) (n := 0) (p := p) hI1 hp
  by_cases e : pyTr h A p y = 0
  · obtain ⟨e0, e1⟩ := pyz0 e
    have e2 := noP_f e0
    obtain ⟨rfl, e3, e4⟩ := e2
    rw [e0] at hip
    have hak := k_asksY (g := g) (J := J) (z := z) (k := 0) (n := 0) (Wi := Wi) (Ni := Ni) hI1 hy e1 hNi
    have hgo := fun (E' : Nat → Nat → Int) x => k_good (g := g) (V := V) (E := E') (J := J) (z := z) (k := 0) (n := 0) (x := x) hM
    obtain ⟨⟨hf, hG, hF, hap⟩, ⟨hA, hB, -⟩, -⟩ := hI.2.2.2.2.2.2 rfl
    have hY := fY24 hA
    have eP := fP10 hA
    have hyy := noY_f e1
    have hyn : y.toNat < fY A := by omega
    have hpn : p.toNat < fP A := by omega
    rw [if_pos e, e]
    obtain ⟨m0, ⟨-, -, -, -, -, -, -, -, -, -, -, -, m28, -, -, -, -, -, -, -, -, -, -⟩, ⟨-, -, -, -, -, -, -, -, -, -, -, -, mk13, -, -, -, -, -, -, -, -, -, -⟩⟩ := id hM
    refine x_aload_n dX12_knows_0 rfl ?_
    refine y_iconst dX12_knows_1 ?_
    refine b_pi0 (r := r) (m := 24) dX12_knows_2 (pX12_85 _) (by first | assumption) (fun _ _ _ => rfl) rfl rfl (by decide) ?_
    refine x_aload_n dX12_knows_5 rfl ?_
    refine x_aload_n dX12_knows_6 rfl ?_
    refine x_iload_n dX12_knows_7 rfl ?_
    refine (show X _ _ 8 _ _ _ _ _ _ from ?_)
    refine x_callV (As := [_]) (mc := 0) (ms := 0) (z := mX12_isPerson) (ci := 12) dX12_knows_8 lX12_513 oX12_isPerson (by decide) (by first | assumption) rfl rfl (Nat.le_of_ble_eq_true rfl) (Nat.le_of_ble_eq_true rfl) rfl (hip) (k_I ?_)
    refine (show X _ _ 11 _ _ _ _ _ _ from ?_)
    refine x_iload_n dX12_knows_11 rfl ?_
    refine (show X _ _ 12 _ _ _ _ _ _ from ?_)
    refine x_callV (As := [_, _]) (mc := 0) (ms := 0) (z := mX12_asksYear) (ci := 12) dX12_knows_12 lX12_519 oX12_asksYear (by decide) (by first | assumption) rfl rfl (Nat.le_of_ble_eq_true rfl) (Nat.le_of_ble_eq_true rfl) rfl (hak) (fun v M1 hq => ?_)
    obtain ⟨rfl, E', rfl, hq⟩ := hq
    refine (show X _ _ 15 _ [.int (iI 0)] _ _ _ _ from ?_)
    have hI2 := DI_sc hI1 (RnQ_sc hI1 hq)
    obtain ⟨⟨hRM, hNM, hrc, hhd, -⟩, -⟩ := hq
    have hRc := hrc y.toNat hyn
    refine x_istore_n dX12_knows_15 (by decide) rfl rfl ?_
    refine x_iload_n dX12_knows_16 rfl ?_
    refine (show X _ _ 17 _ _ _ _ _ _ from ?_)
    refine y_if_le 28 dX12_knows_17 (by decide) ⟨by omega, by omega⟩ (fun c => ?_) (fun c => ?_)
    rotate_left
    · exact absurd c (by decide)
    refine x_aload_n dX12_knows_28 rfl ?_
    refine x_aload_n dX12_knows_29 rfl ?_
    refine x_gr dX12_knows_30 fX12_52 (by first | assumption) (fun _ _ _ => rfl) (by first | assumption) ?_
    refine y_bipush dX12_knows_33 rfl ?_
    refine x_iload_n dX12_knows_35 rfl ?_
    refine y_imul dX12_knows_36 ?_
    refine x_iload_n dX12_knows_37 rfl ?_
    refine y_iadd dX12_knows_38 ?_
    refine (show X _ _ 39 _ _ _ _ _ _ from ?_)
    refine b_iald (r := r) (m := 24) (j := 13) (10 * y.toNat + p.toNat) dX12_knows_39 (by first | assumption) (by first | rfl | omega) (by omega) (by decide) (by decide) ?_
    refine (show X _ _ 40 _ _ _ _ _ _ from ?_)
    refine X.val (hRc.2.2.1 p.toNat (by omega)) ?_
    refine x_callV (As := [_]) (mc := 0) (ms := 0) (z := mX12_good) (ci := 12) dX12_knows_40 lX12_95 oX12_good (by decide) (by first | assumption) rfl rfl (Nat.le_of_ble_eq_true rfl) (Nat.le_of_ble_eq_true rfl) rfl (hgo _ _) (k_I ?_)
    refine (show X _ _ 43 _ _ _ _ _ _ from ?_)
    exact x_ireturn dX12_knows_43 rfl (DQ_tr hI2 0 (by decide) _)
  · obtain ⟨e1, e2⟩ := pyTr_n e
    have hak := k_asksY0 (g := g) (J := J) (z := z) (k := 0) (n := 0) (b := !noP h A p) hI1 hy e1
    rw [e2] at hak
    have hrf := k_refused (g := g) (V := V) (E := u2 E 0 0 0) (J := J) (z := z) (k := 0) (n := 0) (x := pyTr h A p y) hM
    rw [if_neg e]
    obtain ⟨m0, ⟨-, -, -, -, -, -, -, -, -, -, -, -, m28, -, -, -, -, -, -, -, -, -, -⟩, ⟨-, -, -, -, -, -, -, -, -, -, -, -, mk13, -, -, -, -, -, -, -, -, -, -⟩⟩ := id hM
    refine x_aload_n dX12_knows_0 rfl ?_
    refine y_iconst dX12_knows_1 ?_
    refine b_pi0 (r := r) (m := 24) dX12_knows_2 (pX12_85 _) (by first | assumption) (fun _ _ _ => rfl) rfl rfl (by decide) ?_
    refine x_aload_n dX12_knows_5 rfl ?_
    refine x_aload_n dX12_knows_6 rfl ?_
    refine x_iload_n dX12_knows_7 rfl ?_
    refine (show X _ _ 8 _ _ _ _ _ _ from ?_)
    refine x_callV (As := [_]) (mc := 0) (ms := 0) (z := mX12_isPerson) (ci := 12) dX12_knows_8 lX12_513 oX12_isPerson (by decide) (by first | assumption) rfl rfl (Nat.le_of_ble_eq_true rfl) (Nat.le_of_ble_eq_true rfl) rfl (hip) (k_I ?_)
    refine (show X _ _ 11 _ _ _ _ _ _ from ?_)
    refine x_iload_n dX12_knows_11 rfl ?_
    refine (show X _ _ 12 _ _ _ _ _ _ from ?_)
    refine x_callV (As := [_, _]) (mc := 0) (ms := 0) (z := mX12_asksYear) (ci := 12) dX12_knows_12 lX12_519 oX12_asksYear (by decide) (by first | assumption) rfl rfl (Nat.le_of_ble_eq_true rfl) (Nat.le_of_ble_eq_true rfl) rfl (hak) (k_I ?_)
    refine (show X _ _ 15 _ _ _ _ _ _ from ?_)
    refine x_istore_n dX12_knows_15 (by decide) rfl rfl ?_
    refine x_iload_n dX12_knows_16 rfl ?_
    refine (show X _ _ 17 _ _ _ _ _ _ from ?_)
    refine y_if_le 28 dX12_knows_17 (by decide) ⟨by omega, by omega⟩ (fun c => ?_) (fun c => ?_)
    · omega
    refine x_aload_n dX12_knows_20 rfl ?_
    refine x_iload_n dX12_knows_21 rfl ?_
    refine (show X _ _ 22 _ _ _ _ _ _ from ?_)
    refine x_callV (As := [_]) (mc := 0) (ms := 0) (z := mX12_refused) (ci := 12) dX12_knows_22 lX12_91 oX12_refused (by decide) (by first | assumption) rfl rfl (Nat.le_of_ble_eq_true rfl) (Nat.le_of_ble_eq_true rfl) rfl (hrf) (k_I ?_)
    refine (show X _ _ 25 _ _ _ _ _ _ from ?_)
    refine x_goto 43 dX12_knows_25 (by decide) ?_
    refine (show X _ _ 43 _ _ _ _ _ _ from ?_)
    exact x_ireturn dX12_knows_43 rfl (DQ_tr hI1 _ (by omega) _)
theorem k_age {p y : Int} (hI : DI T R V r f E t tp h A B a m H K wr pl tr) (hp : R32 p) (hy : R32 y) (hNi : NOk Ni) : X g mX12_age 0 [.ref r, .int (iI p), .int (iI y), jk] [] (T, iV (pB V r 24 E), R, J, z) k n (DQ T R J z V r f (some (.int (iI (if pyTr h A p y = 0 then if y - A 3 p.toNat < 0 then -2 else y - A 3 p.toNat else -1)))) t tp h A B a m H K wr pl (pyTr h A p y)) := by
  have hM := hI.1
  have hI1 := DI_sc hI (Sc_th hI 0)
  have hyb := pyzb (h := h) (A := A) (p := p) (y := y)
  have hip := k_isPerson (g := g) (J := J) (z := z) (k := 0) (n := 0) (p := p) hI1 hp
  by_cases e : pyTr h A p y = 0
  · obtain ⟨e0, e1⟩ := pyz0 e
    have e2 := noP_f e0
    obtain ⟨rfl, e3, e4⟩ := e2
    rw [e0] at hip
    have hak := k_asksY (g := g) (J := J) (z := z) (k := 0) (n := 0) (Wi := A0) (Ni := Ni) hI1 hy e1 hNi
    have hgo := fun (E' : Nat → Nat → Int) x => k_good (g := g) (V := V) (E := E') (J := J) (z := z) (k := 0) (n := 0) (x := x) hM
    obtain ⟨⟨hf, hG, hF, hap⟩, ⟨hA, hB, -⟩, -⟩ := hI.2.2.2.2.2.2 rfl
    have hY := fY24 hA
    have eP := fP10 hA
    have hyy := noY_f e1
    have hyn : y.toNat < fY A := by omega
    have hpn : p.toNat < fP A := by omega
    rw [if_pos e, e]
    obtain ⟨m0, -, -⟩ := id hM
    refine x_aload_n dX12_age_0 rfl ?_
    refine y_iconst dX12_age_1 ?_
    refine b_pi0 (r := r) (m := 24) dX12_age_2 (pX12_85 _) (by first | assumption) (fun _ _ _ => rfl) rfl rfl (by decide) ?_
    refine x_aload_n dX12_age_5 rfl ?_
    refine x_aload_n dX12_age_6 rfl ?_
    refine x_iload_n dX12_age_7 rfl ?_
    refine (show X _ _ 8 _ _ _ _ _ _ from ?_)
    refine x_callV (As := [_]) (mc := 0) (ms := 0) (z := mX12_isPerson) (ci := 12) dX12_age_8 lX12_513 oX12_isPerson (by decide) (by first | assumption) rfl rfl (Nat.le_of_ble_eq_true rfl) (Nat.le_of_ble_eq_true rfl) rfl (hip) (k_I ?_)
    refine (show X _ _ 11 _ _ _ _ _ _ from ?_)
    refine x_iload_n dX12_age_11 rfl ?_
    refine (show X _ _ 12 _ _ _ _ _ _ from ?_)
    refine x_callV (As := [_, _]) (mc := 0) (ms := 0) (z := mX12_asksYear) (ci := 12) dX12_age_12 lX12_519 oX12_asksYear (by decide) (by first | assumption) rfl rfl (Nat.le_of_ble_eq_true rfl) (Nat.le_of_ble_eq_true rfl) rfl (hak) (fun v M1 hq => ?_)
    obtain ⟨rfl, E', rfl, hq⟩ := hq
    refine (show X _ _ 15 _ [.int (iI 0)] _ _ _ _ from ?_)
    have hI2 := DI_sc hI1 (RnQ_sc hI1 hq)
    obtain ⟨⟨hRM, hNM, hrc, hhd, -⟩, -⟩ := hq
    have hRc := hrc y.toNat hyn
    refine x_istore_n dX12_age_15 (by decide) rfl rfl ?_
    refine x_iload_n dX12_age_16 rfl ?_
    refine (show X _ _ 17 _ _ _ _ _ _ from ?_)
    refine y_if_le 28 dX12_age_17 (by decide) ⟨by omega, by omega⟩ (fun c => ?_) (fun c => ?_)
    rotate_left
    · exact absurd c (by decide)
    have hib := c_isBorn (g := g) (J := J) (z := z) (k := 0) (n := 0) (E := E') (p := p.toNat) (y := y) hG hF hA hap hpn hy
    have hag := c_ageM (g := g) (J := J) (z := z) (k := 0) (n := 0) (E := E') (p := p.toNat) (y := y) hG hF hA hap hpn
    rw [Int.toNat_of_nonneg e3] at hib hag
    have g0 := hG.1
    have hst : ∀ x : Int, x = (if y - A 3 p.toNat < 0 then -2 else y - A 3 p.toNat) → X g mX12_age 55 [.ref r, .int (iI p), .int (iI y), .int (iI 0)] [.int (iI x), .ref r] (T, iV (pB V r 24 E'), R, J, z) k n (DQ T R J z V r f (some (.int (iI (if y - A 3 p.toNat < 0 then -2 else y - A 3 p.toNat)))) t tp true A B a m H K wr pl (0)) := by
      intro x hx
      rw [hx]
      refine x_callV (As := [_]) (mc := 0) (ms := 0) (z := mX12_good) (ci := 12) dX12_age_55 lX12_95 oX12_good (by decide) (by first | assumption) rfl rfl (Nat.le_of_ble_eq_true rfl) (Nat.le_of_ble_eq_true rfl) rfl (hgo _ _) (k_I ?_)
      refine (show X _ _ 58 _ _ _ _ _ _ from ?_)
      exact x_ireturn dX12_age_58 rfl (DQ_tr hI2 0 (by decide) _)
    refine x_aload_n dX12_age_28 rfl ?_
    refine x_aload_n dX12_age_29 rfl ?_
    refine x_gr dX12_age_30 fX12_409 (by first | assumption) (fun _ _ _ => rfl) (by first | assumption) ?_
    refine x_iload_n dX12_age_33 rfl ?_
    refine x_iload_n dX12_age_34 rfl ?_
    refine (show X _ _ 35 _ _ _ _ _ _ from ?_)
    refine x_callV (As := [_, _]) (mc := 0) (ms := 0) (z := mX11_isBorn) (ci := 11) dX12_age_35 lX12_452 oX11_isBorn (by decide) (by first | assumption) rfl rfl (Nat.le_of_ble_eq_true rfl) (Nat.le_of_ble_eq_true rfl) rfl (hib) (k_I ?_)
    refine (show X _ _ 38 _ _ _ _ _ _ from ?_)
    refine y_ifb_eq 53 dX12_age_38 (by decide) (fun c2 => ?_) (fun c2 => ?_)
    · have c3 := of_decide_eq_false c2
      refine y_bipush dX12_age_53 rfl ?_
      refine (show X _ _ 55 _ _ _ _ _ _ from ?_)
      exact hst _ (by rw [if_pos (by omega)])
    · have c3 := of_decide_eq_true c2
      refine x_aload_n dX12_age_41 rfl ?_
      refine x_gr dX12_age_42 fX12_409 (by first | assumption) (fun _ _ _ => rfl) (by first | assumption) ?_
      refine x_iload_n dX12_age_45 rfl ?_
      refine x_iload_n dX12_age_46 rfl ?_
      refine (show X _ _ 47 _ _ _ _ _ _ from ?_)
      refine x_callV (As := [_, _]) (mc := 0) (ms := 0) (z := mX11_age) (ci := 11) dX12_age_47 lX12_458 oX11_age (by decide) (by first | assumption) rfl rfl (Nat.le_of_ble_eq_true rfl) (Nat.le_of_ble_eq_true rfl) rfl (hag) (k_I ?_)
      refine (show X _ _ 50 _ _ _ _ _ _ from ?_)
      refine x_goto 55 dX12_age_50 (by decide) ?_
      refine (show X _ _ 55 _ _ _ _ _ _ from ?_)
      exact hst _ (by rw [if_neg (by omega)])
  · obtain ⟨e1, e2⟩ := pyTr_n e
    have hak := k_asksY0 (g := g) (J := J) (z := z) (k := 0) (n := 0) (b := !noP h A p) hI1 hy e1
    rw [e2] at hak
    have hrf := k_refused (g := g) (V := V) (E := u2 E 0 0 0) (J := J) (z := z) (k := 0) (n := 0) (x := pyTr h A p y) hM
    rw [if_neg e]
    obtain ⟨m0, -, -⟩ := id hM
    refine x_aload_n dX12_age_0 rfl ?_
    refine y_iconst dX12_age_1 ?_
    refine b_pi0 (r := r) (m := 24) dX12_age_2 (pX12_85 _) (by first | assumption) (fun _ _ _ => rfl) rfl rfl (by decide) ?_
    refine x_aload_n dX12_age_5 rfl ?_
    refine x_aload_n dX12_age_6 rfl ?_
    refine x_iload_n dX12_age_7 rfl ?_
    refine (show X _ _ 8 _ _ _ _ _ _ from ?_)
    refine x_callV (As := [_]) (mc := 0) (ms := 0) (z := mX12_isPerson) (ci := 12) dX12_age_8 lX12_513 oX12_isPerson (by decide) (by first | assumption) rfl rfl (Nat.le_of_ble_eq_true rfl) (Nat.le_of_ble_eq_true rfl) rfl (hip) (k_I ?_)
    refine (show X _ _ 11 _ _ _ _ _ _ from ?_)
    refine x_iload_n dX12_age_11 rfl ?_
    refine (show X _ _ 12 _ _ _ _ _ _ from ?_)
    refine x_callV (As := [_, _]) (mc := 0) (ms := 0) (z := mX12_asksYear) (ci := 12) dX12_age_12 lX12_519 oX12_asksYear (by decide) (by first | assumption) rfl rfl (Nat.le_of_ble_eq_true rfl) (Nat.le_of_ble_eq_true rfl) rfl (hak) (k_I ?_)
    refine (show X _ _ 15 _ _ _ _ _ _ from ?_)
    refine x_istore_n dX12_age_15 (by decide) rfl rfl ?_
    refine x_iload_n dX12_age_16 rfl ?_
    refine (show X _ _ 17 _ _ _ _ _ _ from ?_)
    refine y_if_le 28 dX12_age_17 (by decide) ⟨by omega, by omega⟩ (fun c => ?_) (fun c => ?_)
    · omega
    refine x_aload_n dX12_age_20 rfl ?_
    refine x_iload_n dX12_age_21 rfl ?_
    refine (show X _ _ 22 _ _ _ _ _ _ from ?_)
    refine x_callV (As := [_]) (mc := 0) (ms := 0) (z := mX12_refused) (ci := 12) dX12_age_22 lX12_91 oX12_refused (by decide) (by first | assumption) rfl rfl (Nat.le_of_ble_eq_true rfl) (Nat.le_of_ble_eq_true rfl) rfl (hrf) (k_I ?_)
    refine (show X _ _ 25 _ _ _ _ _ _ from ?_)
    refine x_goto 58 dX12_age_25 (by decide) ?_
    refine (show X _ _ 58 _ _ _ _ _ _ from ?_)
    exact x_ireturn dX12_age_58 rfl (DQ_tr hI1 _ (by omega) _)
end C96
