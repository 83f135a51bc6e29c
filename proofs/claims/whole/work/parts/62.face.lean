/-! ===== the class's face: helpers ===== -/
def noP (h : Bool) (A : Nat → Nat → Int) (p : Int) : Bool := decide (¬ (h = true ∧ 0 ≤ p ∧ p < A 0 3))
def noS (h : Bool) (A : Nat → Nat → Int) (p : Int) : Bool := decide (¬ (h = true ∧ 0 ≤ p ∧ p < A 0 6))
def noY (A : Nat → Nat → Int) (y : Int) : Bool := decide (¬ (0 ≤ y ∧ y < A 0 0))
def noPr (h : Bool) (A : Nat → Nat → Int) (p q : Int) : Bool := noP h A p || noP h A q || decide (p = q)
def yTr (h : Bool) (A : Nat → Nat → Int) (y : Int) : Int := if h = true then (if noY A y = true then 2 else 0) else 1
def pyTr (h : Bool) (A : Nat → Nat → Int) (p y : Int) : Int := if noP h A p = true then 1 else if noY A y = true then 2 else 0
def rTr (h : Bool) (n : Int) : Int := if h = true then (if n < 1 ∨ 4 < n then 2 else 0) else 1
def sTr (h : Bool) (n : Int) : Int := if h = true then (if n < 1 ∨ 200 < n then 2 else 0) else 1
section C62
variable {g : GG} {T : Nat → Nat × Nat} {V A : Nat → Nat → Int} {R : Nat → Nat → Option Nat} {J : Nat → Nat → Int64} {z k n : Nat} {o fw fr : Nat} {σ : Nat → Nat} {h : Bool}
theorem c_refuse {x : Int} (hC : CS T R o fw fr σ) : X g mX10_refuse 0 [.ref o, .int (iI x)] [] (T, iV V, R, J, z) k n (rI (iI (-1)) (T, iV (u2 V o 7 x), R, J, z)) := by
  obtain ⟨⟨c0, -⟩, -⟩ := hC
  refine x_aload_n dX10_refuse_0 rfl ?_
  refine x_iload_n dX10_refuse_1 rfl ?_
  refine y_pi dX10_refuse_2 (pX10_57 _) (by first | assumption) (fun _ _ _ => rfl) rfl rfl ?_
  refine y_iconst dX10_refuse_5 ?_
  refine (show X _ _ 6 _ _ _ _ _ _ from ?_)
  exact x_ireturn dX10_refuse_6 rfl ⟨rfl, rfl⟩
theorem c_grant {x : Int} (hC : CS T R o fw fr σ) : X g mX10_grant 0 [.ref o, .int (iI x)] [] (T, iV V, R, J, z) k n (rI (iI x) (T, iV (u2 V o 7 0), R, J, z)) := by
  obtain ⟨⟨c0, -⟩, -⟩ := hC
  refine x_aload_n dX10_grant_0 rfl ?_
  refine y_iconst dX10_grant_1 ?_
  refine y_pi dX10_grant_2 (pX10_57 _) (by first | assumption) (fun _ _ _ => rfl) rfl rfl ?_
  refine x_iload_n dX10_grant_5 rfl ?_
  refine (show X _ _ 6 _ _ _ _ _ _ from ?_)
  exact x_ireturn dX10_grant_6 rfl ⟨rfl, rfl⟩
theorem c_deny {x : Int} (hC : CS T R o fw fr σ) : X g mX10_deny 0 [.ref o, .int (iI x)] [] (T, iV V, R, J, z) k n (rI (iI 0) (T, iV (u2 V o 7 x), R, J, z)) := by
  obtain ⟨⟨c0, -⟩, -⟩ := hC
  refine x_aload_n dX10_deny_0 rfl ?_
  refine x_iload_n dX10_deny_1 rfl ?_
  refine y_pi dX10_deny_2 (pX10_57 _) (by first | assumption) (fun _ _ _ => rfl) rfl rfl ?_
  refine y_iconst dX10_deny_5 ?_
  refine (show X _ _ 6 _ _ _ _ _ _ from ?_)
  exact x_zreturn dX10_deny_6 rfl rfl ⟨rfl, rfl⟩
theorem c_isNoPerson {p : Int} (hC : CS T R o fw fr σ) (h6 : V o 6 = bI h) (hF : FC V fw A) (hA : VA A) (hp : R32 p) : X g mX10_isNoPerson 0 [.ref o, .int (iI p)] [] (T, iV V, R, J, z) k n (rI (iI (bI (noP h A p))) (T, iV V, R, J, z)) := by
  obtain ⟨⟨c0, c1, c2, -⟩, -, ⟨⟨w0, w1, -⟩, hFS, -⟩, -⟩ := hC
  have hf0 := hFS.1
  have hA3 := hA.2.2.2.1
  obtain ⟨hp1, hp2⟩ := hp
  have yes : noP h A p = true → X g mX10_isNoPerson 25 [.ref o, .int (iI p)] [] (T, iV V, R, J, z) k n (rI (iI (bI (noP h A p))) (T, iV V, R, J, z)) := by
    intro e
    rw [e]
    refine y_iconst dX10_isNoPerson_25 ?_
    refine x_goto 30 dX10_isNoPerson_26 (by decide) ?_
    refine (show X _ _ 30 _ _ _ _ _ _ from ?_)
    exact x_zreturn dX10_isNoPerson_30 rfl rfl ⟨rfl, rfl⟩
  refine x_aload_n dX10_isNoPerson_0 rfl ?_
  refine y_gi dX10_isNoPerson_1 fX10_53 (by first | assumption) (fun _ _ _ => rfl) ?_
  refine (show X _ _ 4 _ _ _ _ _ _ from ?_)
  refine X.val h6 ?_
  refine y_ifb_eq 25 dX10_isNoPerson_4 (by decide) (fun h1 => ?_) (fun h1 => ?_)
  · exact yes (decide_eq_true (fun c => by rw [h1] at c; cases c.1))
  refine x_iload_n dX10_isNoPerson_7 rfl ?_
  refine (show X _ _ 8 _ _ _ _ _ _ from ?_)
  refine y_if_lt 25 dX10_isNoPerson_8 (by decide) ⟨by omega, by omega⟩ (fun h2 => ?_) (fun h2 => ?_)
  · exact yes (decide_eq_true (fun c => by omega))
  refine x_iload_n dX10_isNoPerson_11 rfl ?_
  refine x_aload_n dX10_isNoPerson_12 rfl ?_
  refine x_gr dX10_isNoPerson_13 fX10_19 (by first | assumption) (fun _ _ _ => rfl) (by first | assumption) ?_
  refine x_gr dX10_isNoPerson_16 fX10_76 (by first | assumption) (fun _ _ _ => rfl) (by first | assumption) ?_
  refine y_gi dX10_isNoPerson_19 fX10_98 (by first | assumption) (fun _ _ _ => rfl) ?_
  refine (show X _ _ 22 _ _ _ _ _ _ from ?_)
  refine X.val (hF.1 3 (by decide)) ?_
  refine y_icmp_lt 29 dX10_isNoPerson_22 (by decide) ⟨by omega, by omega⟩ ⟨by omega, by omega⟩ (fun h3 => ?_) (fun h3 => ?_)
  · rw [show noP h A p = false from decide_eq_false (fun c => c ⟨h1, h2, h3⟩)]
    refine y_iconst dX10_isNoPerson_29 ?_
    refine (show X _ _ 30 _ _ _ _ _ _ from ?_)
    exact x_zreturn dX10_isNoPerson_30 rfl rfl ⟨rfl, rfl⟩
  · exact yes (decide_eq_true (fun c => by omega))
theorem c_isNoSecret {p : Int} (hC : CS T R o fw fr σ) (h6 : V o 6 = bI h) (hF : FC V fw A) (hA : VA A) (hp : R32 p) : X g mX10_isNoSecret 0 [.ref o, .int (iI p)] [] (T, iV V, R, J, z) k n (rI (iI (bI (noS h A p))) (T, iV V, R, J, z)) := by
  obtain ⟨⟨c0, c1, c2, -⟩, -, ⟨⟨w0, w1, -⟩, hFS, -⟩, -⟩ := hC
  have hf0 := hFS.1
  have hA6 := hA.2.2.2.2.2.2.1
  obtain ⟨hp1, hp2⟩ := hp
  have yes : noS h A p = true → X g mX10_isNoSecret 25 [.ref o, .int (iI p)] [] (T, iV V, R, J, z) k n (rI (iI (bI (noS h A p))) (T, iV V, R, J, z)) := by
    intro e
    rw [e]
    refine y_iconst dX10_isNoSecret_25 ?_
    refine x_goto 30 dX10_isNoSecret_26 (by decide) ?_
    refine (show X _ _ 30 _ _ _ _ _ _ from ?_)
    exact x_zreturn dX10_isNoSecret_30 rfl rfl ⟨rfl, rfl⟩
  refine x_aload_n dX10_isNoSecret_0 rfl ?_
  refine y_gi dX10_isNoSecret_1 fX10_53 (by first | assumption) (fun _ _ _ => rfl) ?_
  refine (show X _ _ 4 _ _ _ _ _ _ from ?_)
  refine X.val h6 ?_
  refine y_ifb_eq 25 dX10_isNoSecret_4 (by decide) (fun h1 => ?_) (fun h1 => ?_)
  · exact yes (decide_eq_true (fun c => by rw [h1] at c; cases c.1))
  refine x_iload_n dX10_isNoSecret_7 rfl ?_
  refine (show X _ _ 8 _ _ _ _ _ _ from ?_)
  refine y_if_lt 25 dX10_isNoSecret_8 (by decide) ⟨by omega, by omega⟩ (fun h2 => ?_) (fun h2 => ?_)
  · exact yes (decide_eq_true (fun c => by omega))
  refine x_iload_n dX10_isNoSecret_11 rfl ?_
  refine x_aload_n dX10_isNoSecret_12 rfl ?_
  refine x_gr dX10_isNoSecret_13 fX10_19 (by first | assumption) (fun _ _ _ => rfl) (by first | assumption) ?_
  refine x_gr dX10_isNoSecret_16 fX10_76 (by first | assumption) (fun _ _ _ => rfl) (by first | assumption) ?_
  refine y_gi dX10_isNoSecret_19 fX10_320 (by first | assumption) (fun _ _ _ => rfl) ?_
  refine (show X _ _ 22 _ _ _ _ _ _ from ?_)
  refine X.val (hF.1 6 (by decide)) ?_
  refine y_icmp_lt 29 dX10_isNoSecret_22 (by decide) ⟨by omega, by omega⟩ ⟨by omega, by omega⟩ (fun h3 => ?_) (fun h3 => ?_)
  · rw [show noS h A p = false from decide_eq_false (fun c => c ⟨h1, h2, h3⟩)]
    refine y_iconst dX10_isNoSecret_29 ?_
    refine (show X _ _ 30 _ _ _ _ _ _ from ?_)
    exact x_zreturn dX10_isNoSecret_30 rfl rfl ⟨rfl, rfl⟩
  · exact yes (decide_eq_true (fun c => by omega))
theorem c_isNoYear {p : Int} (hC : CS T R o fw fr σ) (hF : FC V fw A) (hA : VA A) (hp : R32 p) : X g mX10_isNoYear 0 [.ref o, .int (iI p)] [] (T, iV V, R, J, z) k n (rI (iI (bI (noY A p))) (T, iV V, R, J, z)) := by
  obtain ⟨⟨c0, c1, c2, -⟩, -, ⟨⟨w0, w1, -⟩, hFS, -⟩, -⟩ := hC
  have hf0 := hFS.1
  have hA0 := hA.1
  obtain ⟨hp1, hp2⟩ := hp
  have yes : noY A p = true → X g mX10_isNoYear 18 [.ref o, .int (iI p)] [] (T, iV V, R, J, z) k n (rI (iI (bI (noY A p))) (T, iV V, R, J, z)) := by
    intro e
    rw [e]
    refine y_iconst dX10_isNoYear_18 ?_
    refine x_goto 23 dX10_isNoYear_19 (by decide) ?_
    refine (show X _ _ 23 _ _ _ _ _ _ from ?_)
    exact x_zreturn dX10_isNoYear_23 rfl rfl ⟨rfl, rfl⟩
  refine x_iload_n dX10_isNoYear_0 rfl ?_
  refine (show X _ _ 1 _ _ _ _ _ _ from ?_)
  refine y_if_lt 18 dX10_isNoYear_1 (by decide) ⟨by omega, by omega⟩ (fun h2 => ?_) (fun h2 => ?_)
  · exact yes (decide_eq_true (fun c => by omega))
  refine x_iload_n dX10_isNoYear_4 rfl ?_
  refine x_aload_n dX10_isNoYear_5 rfl ?_
  refine x_gr dX10_isNoYear_6 fX10_19 (by first | assumption) (fun _ _ _ => rfl) (by first | assumption) ?_
  refine x_gr dX10_isNoYear_9 fX10_76 (by first | assumption) (fun _ _ _ => rfl) (by first | assumption) ?_
  refine y_gi dX10_isNoYear_12 fX10_256 (by first | assumption) (fun _ _ _ => rfl) ?_
  refine (show X _ _ 15 _ _ _ _ _ _ from ?_)
  refine X.val (hF.1 0 (by decide)) ?_
  refine y_icmp_lt 22 dX10_isNoYear_15 (by decide) ⟨by omega, by omega⟩ ⟨by omega, by omega⟩ (fun h3 => ?_) (fun h3 => ?_)
  · rw [show noY A p = false from decide_eq_false (fun c => c ⟨h2, h3⟩)]
    refine y_iconst dX10_isNoYear_22 ?_
    refine (show X _ _ 23 _ _ _ _ _ _ from ?_)
    exact x_zreturn dX10_isNoYear_23 rfl rfl ⟨rfl, rfl⟩
  · exact yes (decide_eq_true (fun c => by omega))
theorem c_isNoLaw {p : Int} {M : Mem} (hp : R32 p) : X g mX10_isNoLaw 0 [.int (iI p)] [] M k n (rI (iI (bI (decide (¬ (0 ≤ p ∧ p < 5))))) M) := by
  obtain ⟨hp1, hp2⟩ := hp
  have yes : ¬ (0 ≤ p ∧ p < 5) → X g mX10_isNoLaw 9 [.int (iI p)] [] M k n (rI (iI (bI (decide (¬ (0 ≤ p ∧ p < 5))))) M) := by
    intro e
    rw [decide_eq_true e]
    refine y_iconst dX10_isNoLaw_9 ?_
    refine x_goto 14 dX10_isNoLaw_10 (by decide) ?_
    refine (show X _ _ 14 _ _ _ _ _ _ from ?_)
    exact x_zreturn dX10_isNoLaw_14 rfl rfl ⟨rfl, rfl⟩
  refine x_iload_n dX10_isNoLaw_0 rfl ?_
  refine (show X _ _ 1 _ _ _ _ _ _ from ?_)
  refine y_if_lt 9 dX10_isNoLaw_1 (by decide) ⟨by omega, by omega⟩ (fun h2 => ?_) (fun h2 => ?_)
  · exact yes (by omega)
  refine x_iload_n dX10_isNoLaw_4 rfl ?_
  refine y_iconst dX10_isNoLaw_5 ?_
  refine (show X _ _ 6 _ _ _ _ _ _ from ?_)
  refine y_icmp_lt 13 dX10_isNoLaw_6 (by decide) ⟨by omega, by omega⟩ ⟨by omega, by omega⟩ (fun h3 => ?_) (fun h3 => ?_)
  · rw [decide_eq_false (fun c => c ⟨h2, h3⟩)]
    refine y_iconst dX10_isNoLaw_13 ?_
    refine (show X _ _ 14 _ _ _ _ _ _ from ?_)
    exact x_zreturn dX10_isNoLaw_14 rfl rfl ⟨rfl, rfl⟩
  · exact yes (by omega)
theorem c_isNoMeasure {p : Int} {M : Mem} (hp : R32 p) : X g mX10_isNoMeasure 0 [.int (iI p)] [] M k n (rI (iI (bI (decide (¬ (0 ≤ p ∧ p < 4))))) M) := by
  obtain ⟨hp1, hp2⟩ := hp
  have yes : ¬ (0 ≤ p ∧ p < 4) → X g mX10_isNoMeasure 9 [.int (iI p)] [] M k n (rI (iI (bI (decide (¬ (0 ≤ p ∧ p < 4))))) M) := by
    intro e
    rw [decide_eq_true e]
    refine y_iconst dX10_isNoMeasure_9 ?_
    refine x_goto 14 dX10_isNoMeasure_10 (by decide) ?_
    refine (show X _ _ 14 _ _ _ _ _ _ from ?_)
    exact x_zreturn dX10_isNoMeasure_14 rfl rfl ⟨rfl, rfl⟩
  refine x_iload_n dX10_isNoMeasure_0 rfl ?_
  refine (show X _ _ 1 _ _ _ _ _ _ from ?_)
  refine y_if_lt 9 dX10_isNoMeasure_1 (by decide) ⟨by omega, by omega⟩ (fun h2 => ?_) (fun h2 => ?_)
  · exact yes (by omega)
  refine x_iload_n dX10_isNoMeasure_4 rfl ?_
  refine y_iconst dX10_isNoMeasure_5 ?_
  refine (show X _ _ 6 _ _ _ _ _ _ from ?_)
  refine y_icmp_lt 13 dX10_isNoMeasure_6 (by decide) ⟨by omega, by omega⟩ ⟨by omega, by omega⟩ (fun h3 => ?_) (fun h3 => ?_)
  · rw [decide_eq_false (fun c => c ⟨h2, h3⟩)]
    refine y_iconst dX10_isNoMeasure_13 ?_
    refine (show X _ _ 14 _ _ _ _ _ _ from ?_)
    exact x_zreturn dX10_isNoMeasure_14 rfl rfl ⟨rfl, rfl⟩
  · exact yes (by omega)
theorem c_isNoSeed {p : Int} {M : Mem} (hp : R32 p) : X g mX10_isNoSeed 0 [.int (iI p)] [] M k n (rI (iI (bI (decide (¬ (0 ≤ p ∧ p < 65537))))) M) := by
  obtain ⟨hp1, hp2⟩ := hp
  have yes : ¬ (0 ≤ p ∧ p < 65537) → X g mX10_isNoSeed 11 [.int (iI p)] [] M k n (rI (iI (bI (decide (¬ (0 ≤ p ∧ p < 65537))))) M) := by
    intro e
    rw [decide_eq_true e]
    refine y_iconst dX10_isNoSeed_11 ?_
    refine x_goto 16 dX10_isNoSeed_12 (by decide) ?_
    refine (show X _ _ 16 _ _ _ _ _ _ from ?_)
    exact x_zreturn dX10_isNoSeed_16 rfl rfl ⟨rfl, rfl⟩
  refine x_iload_n dX10_isNoSeed_0 rfl ?_
  refine (show X _ _ 1 _ _ _ _ _ _ from ?_)
  refine y_if_lt 11 dX10_isNoSeed_1 (by decide) ⟨by omega, by omega⟩ (fun h2 => ?_) (fun h2 => ?_)
  · exact yes (by omega)
  refine x_iload_n dX10_isNoSeed_4 rfl ?_
  refine y_ldcw (65537) dX10_isNoSeed_5 kX10_268 rfl ?_
  refine (show X _ _ 8 _ _ _ _ _ _ from ?_)
  refine y_icmp_lt 15 dX10_isNoSeed_8 (by decide) ⟨by omega, by omega⟩ ⟨by omega, by omega⟩ (fun h3 => ?_) (fun h3 => ?_)
  · rw [decide_eq_false (fun c => c ⟨h2, h3⟩)]
    refine y_iconst dX10_isNoSeed_15 ?_
    refine (show X _ _ 16 _ _ _ _ _ _ from ?_)
    exact x_zreturn dX10_isNoSeed_16 rfl rfl ⟨rfl, rfl⟩
  · exact yes (by omega)
theorem c_isNoPair {p q : Int} (hC : CS T R o fw fr σ) (h6 : V o 6 = bI h) (hF : FC V fw A) (hA : VA A) (hp : R32 p) (hq : R32 q) : X g mX10_isNoPair 0 [.ref o, .int (iI p), .int (iI q)] [] (T, iV V, R, J, z) k n (rI (iI (bI (noPr h A p q))) (T, iV V, R, J, z)) := by
  have h1 := c_isNoPerson (g := g) (J := J) (z := z) (k := 0) (n := 0) (p := p) hC h6 hF hA hp
  have h2 := c_isNoPerson (g := g) (J := J) (z := z) (k := 0) (n := 0) (p := q) hC h6 hF hA hq
  obtain ⟨⟨c0, -⟩, -⟩ := hC
  obtain ⟨hp1, hp2⟩ := hp
  obtain ⟨hq1, hq2⟩ := hq
  have yes : noPr h A p q = true → X g mX10_isNoPair 21 [.ref o, .int (iI p), .int (iI q)] [] (T, iV V, R, J, z) k n (rI (iI (bI (noPr h A p q))) (T, iV V, R, J, z)) := by
    intro e
    rw [e]
    refine y_iconst dX10_isNoPair_21 ?_
    refine x_goto 26 dX10_isNoPair_22 (by decide) ?_
    refine (show X _ _ 26 _ _ _ _ _ _ from ?_)
    exact x_zreturn dX10_isNoPair_26 rfl rfl ⟨rfl, rfl⟩
  refine x_aload_n dX10_isNoPair_0 rfl ?_
  refine x_iload_n dX10_isNoPair_1 rfl ?_
  refine (show X _ _ 2 _ _ _ _ _ _ from ?_)
  refine x_callV (As := [_]) (mc := 0) (ms := 0) (z := mX10_isNoPerson) (ci := 10) dX10_isNoPair_2 lX10_109 oX10_isNoPerson (by decide) (by first | assumption) rfl rfl (Nat.le_of_ble_eq_true rfl) (Nat.le_of_ble_eq_true rfl) rfl (h1) (k_I ?_)
  refine (show X _ _ 5 _ _ _ _ _ _ from ?_)
  refine y_ifb_ne 21 dX10_isNoPair_5 (by decide) (fun b1 => ?_) (fun b1 => ?_)
  · exact yes (by unfold noPr; rw [b1]; rfl)
  refine x_aload_n dX10_isNoPair_8 rfl ?_
  refine x_iload_n dX10_isNoPair_9 rfl ?_
  refine (show X _ _ 10 _ _ _ _ _ _ from ?_)
  refine x_callV (As := [_]) (mc := 0) (ms := 0) (z := mX10_isNoPerson) (ci := 10) dX10_isNoPair_10 lX10_109 oX10_isNoPerson (by decide) (by first | assumption) rfl rfl (Nat.le_of_ble_eq_true rfl) (Nat.le_of_ble_eq_true rfl) rfl (h2) (k_I ?_)
  refine (show X _ _ 13 _ _ _ _ _ _ from ?_)
  refine y_ifb_ne 21 dX10_isNoPair_13 (by decide) (fun b2 => ?_) (fun b2 => ?_)
  · exact yes (by unfold noPr; rw [b1, b2]; rfl)
  refine x_iload_n dX10_isNoPair_16 rfl ?_
  refine x_iload_n dX10_isNoPair_17 rfl ?_
  refine (show X _ _ 18 _ _ _ _ _ _ from ?_)
  refine y_icmp_ne 25 dX10_isNoPair_18 (by decide) ⟨by omega, by omega⟩ ⟨by omega, by omega⟩ (fun b3 => ?_) (fun b3 => ?_)
  · rw [show noPr h A p q = false by unfold noPr; rw [b1, b2, decide_eq_false b3]; rfl]
    refine y_iconst dX10_isNoPair_25 ?_
    refine (show X _ _ 26 _ _ _ _ _ _ from ?_)
    exact x_zreturn dX10_isNoPair_26 rfl rfl ⟨rfl, rfl⟩
  · exact yes (by unfold noPr; rw [b1, b2, decide_eq_true b3]; rfl)
theorem c_yearTrouble {y : Int} (hC : CS T R o fw fr σ) (h6 : V o 6 = bI h) (hF : FC V fw A) (hA : VA A) (hy : R32 y) : X g mX10_yearTrouble 0 [.ref o, .int (iI y)] [] (T, iV V, R, J, z) k n (rI (iI (yTr h A y)) (T, iV V, R, J, z)) := by
  have h1 := c_isNoYear (g := g) (J := J) (z := z) (k := 0) (n := 0) (p := y) hC hF hA hy
  obtain ⟨⟨c0, -⟩, -⟩ := hC
  unfold yTr
  refine x_aload_n dX10_yearTrouble_0 rfl ?_
  refine y_gi dX10_yearTrouble_1 fX10_53 (by first | assumption) (fun _ _ _ => rfl) ?_
  refine (show X _ _ 4 _ _ _ _ _ _ from ?_)
  refine X.val h6 ?_
  refine y_ifb_ne 9 dX10_yearTrouble_4 (by decide) (fun b1 => ?_) (fun b1 => ?_)
  rotate_left
  · rw [if_neg (by rw [b1]; decide)]
    refine y_iconst dX10_yearTrouble_7 ?_
    refine (show X _ _ 8 _ _ _ _ _ _ from ?_)
    exact x_ireturn dX10_yearTrouble_8 rfl ⟨rfl, rfl⟩
  rw [if_pos b1]
  refine x_aload_n dX10_yearTrouble_9 rfl ?_
  refine x_iload_n dX10_yearTrouble_10 rfl ?_
  refine (show X _ _ 11 _ _ _ _ _ _ from ?_)
  refine x_callV (As := [_]) (mc := 0) (ms := 0) (z := mX10_isNoYear) (ci := 10) dX10_yearTrouble_11 lX10_166 oX10_isNoYear (by decide) (by first | assumption) rfl rfl (Nat.le_of_ble_eq_true rfl) (Nat.le_of_ble_eq_true rfl) rfl (h1) (k_I ?_)
  refine (show X _ _ 14 _ _ _ _ _ _ from ?_)
  refine y_ifb_eq 21 dX10_yearTrouble_14 (by decide) (fun b2 => ?_) (fun b2 => ?_)
  · rw [if_neg (by rw [b2]; decide)]
    refine y_iconst dX10_yearTrouble_21 ?_
    refine (show X _ _ 22 _ _ _ _ _ _ from ?_)
    exact x_ireturn dX10_yearTrouble_22 rfl ⟨rfl, rfl⟩
  · rw [if_pos b2]
    refine y_iconst dX10_yearTrouble_17 ?_
    refine x_goto 22 dX10_yearTrouble_18 (by decide) ?_
    refine (show X _ _ 22 _ _ _ _ _ _ from ?_)
    exact x_ireturn dX10_yearTrouble_22 rfl ⟨rfl, rfl⟩
theorem c_personYearTrouble {p y : Int} (hC : CS T R o fw fr σ) (h6 : V o 6 = bI h) (hF : FC V fw A) (hA : VA A) (hp : R32 p) (hy : R32 y) : X g mX10_personYearTrouble 0 [.ref o, .int (iI p), .int (iI y)] [] (T, iV V, R, J, z) k n (rI (iI (pyTr h A p y)) (T, iV V, R, J, z)) := by
  have h0 := c_isNoPerson (g := g) (J := J) (z := z) (k := 0) (n := 0) (p := p) hC h6 hF hA hp
  have h1 := c_isNoYear (g := g) (J := J) (z := z) (k := 0) (n := 0) (p := y) hC hF hA hy
  obtain ⟨⟨c0, -⟩, -⟩ := hC
  unfold pyTr
  refine x_aload_n dX10_personYearTrouble_0 rfl ?_
  refine x_iload_n dX10_personYearTrouble_1 rfl ?_
  refine (show X _ _ 2 _ _ _ _ _ _ from ?_)
  refine x_callV (As := [_]) (mc := 0) (ms := 0) (z := mX10_isNoPerson) (ci := 10) dX10_personYearTrouble_2 lX10_109 oX10_isNoPerson (by decide) (by first | assumption) rfl rfl (Nat.le_of_ble_eq_true rfl) (Nat.le_of_ble_eq_true rfl) rfl (h0) (k_I ?_)
  refine (show X _ _ 5 _ _ _ _ _ _ from ?_)
  refine y_ifb_eq 10 dX10_personYearTrouble_5 (by decide) (fun b1 => ?_) (fun b1 => ?_)
  rotate_left
  · rw [if_pos b1]
    refine y_iconst dX10_personYearTrouble_8 ?_
    refine (show X _ _ 9 _ _ _ _ _ _ from ?_)
    exact x_ireturn dX10_personYearTrouble_9 rfl ⟨rfl, rfl⟩
  rw [if_neg (by rw [b1]; decide)]
  refine x_aload_n dX10_personYearTrouble_10 rfl ?_
  refine x_iload_n dX10_personYearTrouble_11 rfl ?_
  refine (show X _ _ 12 _ _ _ _ _ _ from ?_)
  refine x_callV (As := [_]) (mc := 0) (ms := 0) (z := mX10_isNoYear) (ci := 10) dX10_personYearTrouble_12 lX10_166 oX10_isNoYear (by decide) (by first | assumption) rfl rfl (Nat.le_of_ble_eq_true rfl) (Nat.le_of_ble_eq_true rfl) rfl (h1) (k_I ?_)
  refine (show X _ _ 15 _ _ _ _ _ _ from ?_)
  refine y_ifb_eq 22 dX10_personYearTrouble_15 (by decide) (fun b2 => ?_) (fun b2 => ?_)
  · rw [if_neg (by rw [b2]; decide)]
    refine y_iconst dX10_personYearTrouble_22 ?_
    refine (show X _ _ 23 _ _ _ _ _ _ from ?_)
    exact x_ireturn dX10_personYearTrouble_23 rfl ⟨rfl, rfl⟩
  · rw [if_pos b2]
    refine y_iconst dX10_personYearTrouble_18 ?_
    refine x_goto 23 dX10_personYearTrouble_19 (by decide) ?_
    refine (show X _ _ 23 _ _ _ _ _ _ from ?_)
    exact x_ireturn dX10_personYearTrouble_23 rfl ⟨rfl, rfl⟩
theorem c_rowTrouble {y : Int} (hC : CS T R o fw fr σ) (h6 : V o 6 = bI h) (hy : R32 y) : X g mX10_rowTrouble 0 [.ref o, .int (iI y)] [] (T, iV V, R, J, z) k n (rI (iI (rTr h y)) (T, iV V, R, J, z)) := by
  obtain ⟨⟨c0, -⟩, -⟩ := hC
  obtain ⟨hy1, hy2⟩ := hy
  unfold rTr
  refine x_aload_n dX10_rowTrouble_0 rfl ?_
  refine y_gi dX10_rowTrouble_1 fX10_53 (by first | assumption) (fun _ _ _ => rfl) ?_
  refine (show X _ _ 4 _ _ _ _ _ _ from ?_)
  refine X.val h6 ?_
  refine y_ifb_ne 9 dX10_rowTrouble_4 (by decide) (fun b1 => ?_) (fun b1 => ?_)
  rotate_left
  · rw [if_neg (by rw [b1]; decide)]
    refine y_iconst dX10_rowTrouble_7 ?_
    refine (show X _ _ 8 _ _ _ _ _ _ from ?_)
    exact x_ireturn dX10_rowTrouble_8 rfl ⟨rfl, rfl⟩
  rw [if_pos b1]
  refine x_iload_n dX10_rowTrouble_9 rfl ?_
  refine y_iconst dX10_rowTrouble_10 ?_
  refine (show X _ _ 11 _ _ _ _ _ _ from ?_)
  refine y_icmp_lt 19 dX10_rowTrouble_11 (by decide) ⟨by omega, by omega⟩ ⟨by omega, by omega⟩ (fun b2 => ?_) (fun b2 => ?_)
  · rw [if_pos (by omega)]
    refine y_iconst dX10_rowTrouble_19 ?_
    refine x_goto 24 dX10_rowTrouble_20 (by decide) ?_
    refine (show X _ _ 24 _ _ _ _ _ _ from ?_)
    exact x_ireturn dX10_rowTrouble_24 rfl ⟨rfl, rfl⟩
  refine x_iload_n dX10_rowTrouble_14 rfl ?_
  refine y_iconst dX10_rowTrouble_15 ?_
  refine (show X _ _ 16 _ _ _ _ _ _ from ?_)
  refine y_icmp_le 23 dX10_rowTrouble_16 (by decide) ⟨by omega, by omega⟩ ⟨by omega, by omega⟩ (fun b3 => ?_) (fun b3 => ?_)
  · rw [if_neg (by omega)]
    refine y_iconst dX10_rowTrouble_23 ?_
    refine (show X _ _ 24 _ _ _ _ _ _ from ?_)
    exact x_ireturn dX10_rowTrouble_24 rfl ⟨rfl, rfl⟩
  · rw [if_pos (by omega)]
    refine y_iconst dX10_rowTrouble_19 ?_
    refine x_goto 24 dX10_rowTrouble_20 (by decide) ?_
    refine (show X _ _ 24 _ _ _ _ _ _ from ?_)
    exact x_ireturn dX10_rowTrouble_24 rfl ⟨rfl, rfl⟩
theorem c_seedsTrouble {y : Int} (hC : CS T R o fw fr σ) (h6 : V o 6 = bI h) (hy : R32 y) : X g mX10_seedsTrouble 0 [.ref o, .int (iI y)] [] (T, iV V, R, J, z) k n (rI (iI (sTr h y)) (T, iV V, R, J, z)) := by
  obtain ⟨⟨c0, -⟩, -⟩ := hC
  obtain ⟨hy1, hy2⟩ := hy
  unfold sTr
  refine x_aload_n dX10_seedsTrouble_0 rfl ?_
  refine y_gi dX10_seedsTrouble_1 fX10_53 (by first | assumption) (fun _ _ _ => rfl) ?_
  refine (show X _ _ 4 _ _ _ _ _ _ from ?_)
  refine X.val h6 ?_
  refine y_ifb_ne 9 dX10_seedsTrouble_4 (by decide) (fun b1 => ?_) (fun b1 => ?_)
  rotate_left
  · rw [if_neg (by rw [b1]; decide)]
    refine y_iconst dX10_seedsTrouble_7 ?_
    refine (show X _ _ 8 _ _ _ _ _ _ from ?_)
    exact x_ireturn dX10_seedsTrouble_8 rfl ⟨rfl, rfl⟩
  rw [if_pos b1]
  refine x_iload_n dX10_seedsTrouble_9 rfl ?_
  refine y_iconst dX10_seedsTrouble_10 ?_
  refine (show X _ _ 11 _ _ _ _ _ _ from ?_)
  refine y_icmp_lt 21 dX10_seedsTrouble_11 (by decide) ⟨by omega, by omega⟩ ⟨by omega, by omega⟩ (fun b2 => ?_) (fun b2 => ?_)
  · rw [if_pos (by omega)]
    refine y_iconst dX10_seedsTrouble_21 ?_
    refine x_goto 26 dX10_seedsTrouble_22 (by decide) ?_
    refine (show X _ _ 26 _ _ _ _ _ _ from ?_)
    exact x_ireturn dX10_seedsTrouble_26 rfl ⟨rfl, rfl⟩
  refine x_iload_n dX10_seedsTrouble_14 rfl ?_
  refine y_sipush dX10_seedsTrouble_15 rfl ?_
  refine (show X _ _ 18 _ _ _ _ _ _ from ?_)
  refine y_icmp_le 25 dX10_seedsTrouble_18 (by decide) ⟨by omega, by omega⟩ ⟨by omega, by omega⟩ (fun b3 => ?_) (fun b3 => ?_)
  · rw [if_neg (by omega)]
    refine y_iconst dX10_seedsTrouble_25 ?_
    refine (show X _ _ 26 _ _ _ _ _ _ from ?_)
    exact x_ireturn dX10_seedsTrouble_26 rfl ⟨rfl, rfl⟩
  · rw [if_pos (by omega)]
    refine y_iconst dX10_seedsTrouble_21 ?_
    refine x_goto 26 dX10_seedsTrouble_22 (by decide) ?_
    refine (show X _ _ 26 _ _ _ _ _ _ from ?_)
    exact x_ireturn dX10_seedsTrouble_26 rfl ⟨rfl, rfl⟩
end C62
