/-! ===== Reader: names; what is read so far ===== -/
/-- the family's table has also: 0 9 how many names, 21 their numbers as words, 22 whether a secret's, 23 whose -/
def fdF (A : Nat → Nat → Int) (x : Int) : Nat → Nat → Int
  | 0, _ => -1
  | d + 1, i => if A 21 i = x then (i : Int) else fdF A x d (i + 1)
def fnd (A : Nat → Nat → Int) (x : Int) : Int := fdF A x (A 0 9).toNat 0
theorem fdF_b (A : Nat → Nat → Int) (x : Int) : ∀ d i, fdF A x d i = -1 ∨ ((i : Int) ≤ fdF A x d i ∧ fdF A x d i < ((i + d : Nat) : Int))
  | 0, i => Or.inl rfl
  | d + 1, i => by
    rw [fdF]
    split
    · exact Or.inr ⟨Int.le_refl _, by omega⟩
    · rcases fdF_b A x d (i + 1) with h | h
      · exact Or.inl h
      · exact Or.inr ⟨by omega, by omega⟩
/-- a name that is none yet; a name that stands for a person (0) or a secret (1) -/
def nwB (t : Nat → Int) (e : Nat) (A : Nat → Nat → Int) (i : Nat) : Bool := decide ((tkK t e i = 1 ∧ lnOf t e i < 0) ∧ fnd A (tkX t e i) < 0)
def nmB (t : Nat → Int) (e : Nat) (A : Nat → Nat → Int) (c : Int) (i : Nat) : Bool := decide ((tkK t e i = 1 ∧ lnOf t e i < 0) ∧ 0 ≤ fnd A (tkX t e i) ∧ A 22 (fnd A (tkX t e i)).toNat = c)
def nxC (t : Nat → Int) (e i : Nat) (c : Int) : Int := if tkK t e i = 1 ∧ lnOf t e i < 0 then c else 1
def nmX (t : Nat → Int) (e : Nat) (A : Nat → Nat → Int) (i : Nat) : Int := A 23 (fnd A (tkX t e i)).toNat
/-- the reader's rows of names hold those of the table -/
def NR (t : Nat → Int) (V A : Nat → Nat → Int) (rd q e : Nat) : Prop := V rd 12 = A 0 9 ∧ (0 ≤ A 0 9 ∧ A 0 9 ≤ 18) ∧ ∀ k, k < (A 0 9).toNat → ((0 ≤ V q k ∧ 1 ≤ V (q + 1) k ∧ V (q + 1) k ≤ 8 ∧ V q k + V (q + 1) k ≤ (e : Int)) ∧ (∀ j, (V q k).toNat ≤ j → j < (V q k).toNat + (V (q + 1) k).toNat → 97 ≤ t j ∧ t j ≤ 122) ∧ wk t (V (q + 1) k).toNat (V q k).toNat 0 = A 21 k) ∧ V (q + 2) k = A 23 k ∧ V (q + 3) k = A 22 k
theorem snF_fnd {t : Nat → Int} {V A : Nat → Nat → Int} {rd q e i : Nat} (hN : NR t V A rd q e) (hk : tkK t e i = 1) : ∀ d c, c + d = (A 0 9).toNat → snF t (V q) (V (q + 1)) (tkS t e i) (tkL t e i - tkS t e i) d c = fdF A (tkX t e i) d c
  | 0, c, _ => rfl
  | d + 1, c, h => by
    have hw := tk_word hk
    have ex : tkX t e i = wk t (tkL t e i - tkS t e i) (tkS t e i) 0 := by unfold tkX; rw [if_pos hk]
    obtain ⟨⟨⟨h1, h2, h3, h4⟩, h5, h6⟩, -⟩ := hN.2.2 c (by omega)
    have key := wk_same t t (d := (V (q + 1) c).toNat) (c := tkL t e i - tkS t e i) (j := (V q c).toNat) (i := tkS t e i) (fun j a b => h5 j a (by omega)) (fun j a b => hw.2.2.2.2 j a (by omega))
    rw [snF, fdF, snF_fnd hN hk d (c + 1) (by omega), ← h6, ex]
    by_cases hh : wk t (V (q + 1) c).toNat (V q c).toNat 0 = wk t (tkL t e i - tkS t e i) (tkS t e i) 0
    · have := key.mp hh
      rw [if_pos hh, if_pos ⟨by omega, (stA_iff t _ _ _).mpr (fun j hj => this.2 j (by omega))⟩]
    · rw [if_neg hh, if_neg (fun c' => hh (key.mpr ⟨by omega, fun j hj => (stA_iff t _ _ _).mp c'.2 j (by omega)⟩))]
section C47
variable {g : GG} {T : Nat → Nat × Nat} {V A : Nat → Nat → Int} {R : Nat → Nat → Option Nat} {J : Nat → Nat → Int64} {z k n : Nat} {rd tx q e i : Nat} {t : Nat → Int}
theorem q_seenName (hD : DN T R rd q) (hN : NR t V A rd q e) (hk : tkK t e i = 1) (hS : DS T R rd tx) (hc : CU t V rd tx e i) (he : e ≤ 1100) (ht : ∀ j, j < 1100 → -128 ≤ t j ∧ t j ≤ 127) : X g mX6_seenName 0 [.ref rd, jk] [] (T, iV V, R, J, z) k n (rI (iI (fnd A (tkX t e i))) (T, iV V, R, J, z)) := by
  have hb := tk_b t hc.2.1
  have ef := snF_fnd hN hk (A 0 9).toNat 0 (by omega)
  obtain ⟨h0, hi, h5, h6, h7, h8, h9, h10, h11⟩ := hc
  have c := c_seenName (g := g) (J := J) (z := z) (k := k) (n := n) (V := V) (nm := (A 0 9).toNat) (len := tkL t e i - tkS t e i) (st := tkS t e i) hS hD (by rw [hN.1, Int.toNat_of_nonneg hN.2.1.1]) (by have := hN.2.1; omega) (h9 hk) h8 (by omega) (fun c hc => by obtain ⟨⟨⟨a1, a2, a3, a4⟩, -⟩, -⟩ := hN.2.2 c hc; exact ⟨a1, by omega, by omega⟩) (by rw [h0]; exact ht)
  rw [h0, ef] at c
  exact c
/-- behind a new name -/
def nwV (V A : Nat → Nat → Int) (rd q s len : Nat) (sec num : Int) : Nat → Nat → Int := u2 (u2 (u2 (u2 (u2 V q (A 0 9).toNat (s : Int)) (q + 1) (A 0 9).toNat (len : Int)) (q + 3) (A 0 9).toNat sec) (q + 2) (A 0 9).toNat num) rd 12 (A 0 9 + 1)
theorem q_takeNewName {sec : Bool} {num : Int} (hq : rd < q) (hD : DN T R rd q) (hN : NR t V A rd q e) (h18 : A 0 9 < 18) (hS : DS T R rd tx) (hc : CU t V rd tx e i) (he : e ≤ 1100) (ht : ∀ j, j < 1100 → -128 ≤ t j ∧ t j ≤ 127) : X g mX6_takeNewName 0 [.ref rd, .int (iI (bI sec)), .int (iI num)] [] (T, iV V, R, J, z) k n (QT T R J z t (nwV V A rd q (tkS t e i) (tkL t e i - tkS t e i) (bI sec) num) V rd tx e i (nwB t e A i) (nxC t e i 3)) := by
  have hb := tk_b t hc.2.1
  have hk := tkK_b t e i
  have hlb := lnOf_b t e i
  have hne := DS_ne hS
  have hsl := q_seenLine (g := g) (J := J) (z := z) (k := 0) (n := 0) hS hc he ht
  have hsn := fun hk => q_seenName (g := g) (J := J) (z := z) (k := 0) (n := 0) hD hN hk hS hc he ht
  have hf := fun x => c_fail (g := g) (J := J) (z := z) (k := 0) (n := 0) (V := V) (x := x) hS
  have hfb := fdF_b A (tkX t e i) (A 0 9).toNat 0
  have hadv := fun (U : Nat → Nat → Int) h6 h5 ht => c_advance (g := g) (J := J) (z := z) (k := 0) (n := 0) (V := U) (i := tkN t e i) (e := e) hS h6 h5 (by omega) he ht hne
  have dsk := hS
  obtain ⟨s0, s1, s2⟩ := hS
  obtain ⟨⟨d3, d4, d5, d6, d7⟩, ⟨u3, u4, u5, u6, u7⟩⟩ := hD
  obtain ⟨h0, hi, h5, h6, h7, h8, h9, h10, h11⟩ := hc
  have hnn := hN.2.1
  have eN : ((A 0 9).toNat : Int) = A 0 9 := Int.toNat_of_nonneg hnn.1
  have n1 : ∀ j, j < 5 → tx ≠ q + j := by
    intro j hj h
    rcases (by omega : j = 0 ∨ j = 1 ∨ j = 2 ∨ j = 3 ∨ j = 4) with rfl | rfl | rfl | rfl | rfl
    · rw [Nat.add_zero] at h; rw [← h, s2] at u3; exact absurd (congrArg Prod.fst u3) (by decide : ¬ (2 : Nat) = 1)
    · rw [← h, s2] at u4; exact absurd (congrArg Prod.fst u4) (by decide : ¬ (2 : Nat) = 1)
    · rw [← h, s2] at u5; exact absurd (congrArg Prod.fst u5) (by decide : ¬ (2 : Nat) = 1)
    · rw [← h, s2] at u6; exact absurd (congrArg Prod.fst u6) (by decide : ¬ (2 : Nat) = 3)
    · rw [← h, s2] at u7; exact absurd (congrArg Prod.fst u7) (by decide : ¬ (2 : Nat) = 1)
  have f1 : ¬ (tkK t e i = 1 ∧ lnOf t e i < 0) → X g mX6_takeNewName 15 [.ref rd, .int (iI (bI sec)), .int (iI num)] [] (T, iV V, R, J, z) k n (QT T R J z t (nwV V A rd q (tkS t e i) (tkL t e i - tkS t e i) (bI sec) num) V rd tx e i (nwB t e A i) (nxC t e i 3)) := by
    intro hb
    have e1 : nxC t e i 3 = 1 := by unfold nxC; rw [if_neg hb]
    rw [e1, show nwB t e A i = false from decide_eq_false (fun c => hb c.1)]
    refine x_aload_n dX6_takeNewName_15 rfl ?_
    refine y_iconst dX6_takeNewName_16 ?_
    refine (show X _ _ 17 _ _ _ _ _ _ from ?_)
    refine x_callV (As := [_]) (mc := 0) (ms := 0) (z := mX6_fail) (ci := 6) dX6_takeNewName_17 lX6_89 oX6_fail (by decide) (by first | assumption) rfl rfl (Nat.le_of_ble_eq_true rfl) (Nat.le_of_ble_eq_true rfl) rfl (hf _) (k_I ?_)
    refine (show X _ _ 20 _ _ _ _ _ _ from ?_)
    exact x_zreturn dX6_takeNewName_20 rfl rfl (QT_f rfl)
  refine x_aload_n dX6_takeNewName_0 rfl ?_
  refine y_gi dX6_takeNewName_1 fX6_38 (by first | assumption) (fun _ _ _ => rfl) ?_
  refine (show X _ _ 4 _ _ _ _ _ _ from ?_)
  refine X.val h7 ?_
  refine y_iconst dX6_takeNewName_4 ?_
  refine (show X _ _ 5 _ _ _ _ _ _ from ?_)
  refine y_icmp_ne 15 dX6_takeNewName_5 (by decide) ⟨by omega, by omega⟩ ⟨by omega, by omega⟩ (fun c1 => ?_) (fun c1 => ?_)
  · exact f1 (fun c => c1 c.1)
  refine x_aload_n dX6_takeNewName_8 rfl ?_
  refine (show X _ _ 9 _ _ _ _ _ _ from ?_)
  refine x_callV (As := []) (mc := 0) (ms := 0) (z := mX6_seenLine) (ci := 6) dX6_takeNewName_9 lX6_119 oX6_seenLine (by decide) (by first | assumption) rfl rfl (Nat.le_of_ble_eq_true rfl) (Nat.le_of_ble_eq_true rfl) rfl (hsl) (k_I ?_)
  refine (show X _ _ 12 _ _ _ _ _ _ from ?_)
  refine y_if_lt 21 dX6_takeNewName_12 (by decide) ⟨by omega, by omega⟩ (fun c2 => ?_) (fun c2 => ?_)
  rotate_left
  · exact f1 (fun c => by omega)
  have hsn := hsn c1
  have hfb : fnd A (tkX t e i) = -1 ∨ (0 ≤ fnd A (tkX t e i) ∧ fnd A (tkX t e i) < A 0 9) := by
    rcases hfb with h | h
    · exact Or.inl h
    · exact Or.inr (by unfold fnd; omega)
  refine x_aload_n dX6_takeNewName_21 rfl ?_
  refine (show X _ _ 22 _ _ _ _ _ _ from ?_)
  refine x_callV (As := []) (mc := 0) (ms := 0) (z := mX6_seenName) (ci := 6) dX6_takeNewName_22 lX6_122 oX6_seenName (by decide) (by first | assumption) rfl rfl (Nat.le_of_ble_eq_true rfl) (Nat.le_of_ble_eq_true rfl) rfl (hsn) (k_I ?_)
  refine (show X _ _ 25 _ _ _ _ _ _ from ?_)
  refine y_if_lt 34 dX6_takeNewName_25 (by decide) ⟨by omega, by omega⟩ (fun c3 => ?_) (fun c3 => ?_)
  rotate_left
  · rw [show nxC t e i 3 = 3 by unfold nxC; rw [if_pos ⟨c1, c2⟩], show nwB t e A i = false from decide_eq_false (fun c => by omega)]
    refine x_aload_n dX6_takeNewName_28 rfl ?_
    refine y_iconst dX6_takeNewName_29 ?_
    refine (show X _ _ 30 _ _ _ _ _ _ from ?_)
    refine x_callV (As := [_]) (mc := 0) (ms := 0) (z := mX6_fail) (ci := 6) dX6_takeNewName_30 lX6_89 oX6_fail (by decide) (by first | assumption) rfl rfl (Nat.le_of_ble_eq_true rfl) (Nat.le_of_ble_eq_true rfl) rfl (hf _) (k_I ?_)
    refine (show X _ _ 33 _ _ _ _ _ _ from ?_)
    exact x_zreturn dX6_takeNewName_33 rfl rfl (QT_f rfl)
  refine x_aload_n dX6_takeNewName_34 rfl ?_
  refine y_gi dX6_takeNewName_35 fX6_53 (by first | assumption) (fun _ _ _ => rfl) ?_
  refine (show X _ _ 38 _ _ _ _ _ _ from ?_)
  refine X.val hN.1 ?_
  refine y_bipush dX6_takeNewName_38 rfl ?_
  refine (show X _ _ 40 _ _ _ _ _ _ from ?_)
  refine y_icmp_lt 49 dX6_takeNewName_40 (by decide) ⟨by omega, by omega⟩ ⟨by omega, by omega⟩ (fun c4 => ?_) (fun c4 => ?_)
  rotate_left
  · omega
  refine x_aload_n dX6_takeNewName_49 rfl ?_
  refine x_gr dX6_takeNewName_50 fX6_56 (by first | assumption) (fun _ _ _ => rfl) (by first | assumption) ?_
  refine x_aload_n dX6_takeNewName_53 rfl ?_
  refine y_gi dX6_takeNewName_54 fX6_53 (by first | assumption) (fun _ _ _ => rfl) ?_
  refine (show X _ _ 57 _ _ _ _ _ _ from ?_)
  refine X.val (b := ((A 0 9).toNat : Int)) (by rw [hN.1, eN]) ?_
  refine x_aload_n dX6_takeNewName_57 rfl ?_
  refine y_gi dX6_takeNewName_58 fX6_41 (by first | assumption) (fun _ _ _ => rfl) ?_
  refine (show X _ _ 61 _ _ _ _ _ _ from ?_)
  refine X.val h8 ?_
  refine y_iast ((A 0 9).toNat) dX6_takeNewName_61 (by first | assumption) (by first | rfl | omega) (by omega) (by decide) ?_
  refine x_aload_n dX6_takeNewName_62 rfl ?_
  refine x_gr dX6_takeNewName_63 fX6_60 (by first | assumption) (fun _ _ _ => rfl) (by first | assumption) ?_
  refine x_aload_n dX6_takeNewName_66 rfl ?_
  refine y_gi dX6_takeNewName_67 fX6_53 (by first | assumption) (fun _ _ _ => rfl) ?_
  refine (show X _ _ 70 _ _ _ _ _ _ from ?_)
  refine X.val (b := ((A 0 9).toNat : Int)) (by rw [u2_n (by omega), hN.1, eN]) ?_
  refine x_aload_n dX6_takeNewName_70 rfl ?_
  refine y_gi dX6_takeNewName_71 fX6_44 (by first | assumption) (fun _ _ _ => rfl) ?_
  refine (show X _ _ 74 _ _ _ _ _ _ from ?_)
  refine X.val (b := ((tkL t e i - tkS t e i : Nat) : Int)) (by rw [u2_n (by omega)]; exact h9 c1) ?_
  refine y_iast ((A 0 9).toNat) dX6_takeNewName_74 (by first | assumption) (by first | rfl | omega) (by omega) (by decide) ?_
  refine x_aload_n dX6_takeNewName_75 rfl ?_
  refine x_gr dX6_takeNewName_76 fX6_66 (by first | assumption) (fun _ _ _ => rfl) (by first | assumption) ?_
  refine x_aload_n dX6_takeNewName_79 rfl ?_
  refine y_gi dX6_takeNewName_80 fX6_53 (by first | assumption) (fun _ _ _ => rfl) ?_
  refine (show X _ _ 83 _ _ _ _ _ _ from ?_)
  refine X.val (b := ((A 0 9).toNat : Int)) (by rw [u2_n (by omega), u2_n (by omega), hN.1, eN]) ?_
  refine x_iload_n dX6_takeNewName_83 rfl ?_
  refine y_zast ((A 0 9).toNat) dX6_takeNewName_84 (by first | assumption) (by first | rfl | omega) (by omega) (by decide) (by first | rfl | exact bI_nar _) ?_
  refine x_aload_n dX6_takeNewName_85 rfl ?_
  refine x_gr dX6_takeNewName_86 fX6_63 (by first | assumption) (fun _ _ _ => rfl) (by first | assumption) ?_
  refine x_aload_n dX6_takeNewName_89 rfl ?_
  refine y_gi dX6_takeNewName_90 fX6_53 (by first | assumption) (fun _ _ _ => rfl) ?_
  refine (show X _ _ 93 _ _ _ _ _ _ from ?_)
  refine X.val (b := ((A 0 9).toNat : Int)) (by rw [u2_n (by omega), u2_n (by omega), u2_n (by omega), hN.1, eN]) ?_
  refine x_iload_n dX6_takeNewName_93 rfl ?_
  refine y_iast ((A 0 9).toNat) dX6_takeNewName_94 (by first | assumption) (by first | rfl | omega) (by omega) (by decide) ?_
  refine x_aload_n dX6_takeNewName_95 rfl ?_
  refine x_dup dX6_takeNewName_96 rfl ?_
  refine y_gi dX6_takeNewName_97 fX6_53 (by first | assumption) (fun _ _ _ => rfl) ?_
  refine (show X _ _ 100 _ _ _ _ _ _ from ?_)
  refine X.val (b := A 0 9) (by rw [u2_n (by omega), u2_n (by omega), u2_n (by omega), u2_n (by omega), hN.1]) ?_
  refine y_iconst dX6_takeNewName_100 ?_
  refine y_iadd dX6_takeNewName_101 ?_
  refine y_pi dX6_takeNewName_102 (pX6_53 _) (by first | assumption) (fun _ _ _ => rfl) rfl rfl ?_
  refine (show X _ _ 105 _ _ _ _ _ _ from ?_)
  refine X.pic (V' := nwV V A rd q (tkS t e i) (tkL t e i - tkS t e i) (bI sec) num) rfl ?_
  have eR : ∀ c, c ≠ 12 → nwV V A rd q (tkS t e i) (tkL t e i - tkS t e i) (bI sec) num rd c = V rd c := fun c hc => by
    unfold nwV
    rw [u2_s, u1_n hc, u2_n (by omega), u2_n (by omega), u2_n (by omega), u2_n (by omega)]
  have eX : nwV V A rd q (tkS t e i) (tkL t e i - tkS t e i) (bI sec) num tx = t := by
    unfold nwV
    rw [u2_n hne, u2_n (n1 2 (by decide)), u2_n (n1 3 (by decide)), u2_n (n1 1 (by decide)), u2_n (show tx ≠ q from n1 0 (by decide))]
    exact h0
  generalize nwV V A rd q (tkS t e i) (tkL t e i - tkS t e i) (bI sec) num = U at *
  have ha := hadv U (by rw [eR 6 (by decide)]; exact h6) (by rw [eR 5 (by decide)]; exact h5) (by rw [eX]; exact fun j hj => ht j (by omega))
  have hv := av_CU (V := U) (t := t) (i := tkN t e i) eX (by rw [eR 5 (by decide)]; exact h5) (by rw [eR 9 (by decide)]; exact h11) (by omega) he hne
  refine x_aload_n dX6_takeNewName_105 rfl ?_
  refine (show X _ _ 106 _ _ _ _ _ _ from ?_)
  refine x_callV (As := []) (mc := 0) (ms := 0) (z := mX6_advance) (ci := 6) dX6_takeNewName_106 lX6_82 oX6_advance (by decide) (by first | assumption) rfl rfl (Nat.le_of_ble_eq_true rfl) (Nat.le_of_ble_eq_true rfl) rfl (ha) (k_V ?_)
  refine (show X _ _ 109 _ _ _ _ _ _ from ?_)
  refine y_iconst dX6_takeNewName_109 ?_
  refine (show X _ _ 110 _ _ _ _ _ _ from ?_)
  have eb : nwB t e A i = true := decide_eq_true ⟨⟨c1, c2⟩, c3⟩
  exact x_zreturn dX6_takeNewName_110 rfl rfl (Or.inl ⟨eb, rfl, _, rfl, hv⟩)
theorem q_takeName {a p N : Nat} {c : Bool} (hT : T a = (1, N)) (hp : p < N) (hN1 : N ≤ 1000) (hA : ∀ k, k < (A 0 9).toNat → (0 ≤ A 22 k ∧ A 22 k ≤ 1)) (hD : DN T R rd q) (hN : NR t V A rd q e) (hS : DS T R rd tx) (hc : CU t V rd tx e i) (he : e ≤ 1100) (ht : ∀ j, j < 1100 → -128 ≤ t j ∧ t j ≤ 127) : X g mX6_takeName 0 [.ref rd, .ref a, .int (iI (p : Int)), .int (iI (bI c)), jk] [] (T, iV V, R, J, z) k n (QT T R J z t (u2 (u2 V a p (nmX t e A i)) rd 11 ((tkS t e i : Nat) : Int)) V rd tx e i (nmB t e A (bI c) i) (nxC t e i 2)) := by
  have hb := tk_b t hc.2.1
  have hk := tkK_b t e i
  have hlb := lnOf_b t e i
  have hne := DS_ne hS
  have hcb := bI_r c
  have hsl := q_seenLine (g := g) (J := J) (z := z) (k := 0) (n := 0) hS hc he ht
  have hsn := fun hk => q_seenName (g := g) (J := J) (z := z) (k := 0) (n := 0) hD hN hk hS hc he ht
  have hf := fun x => c_fail (g := g) (J := J) (z := z) (k := 0) (n := 0) (V := V) (x := x) hS
  have hfb := fdF_b A (tkX t e i) (A 0 9).toNat 0
  have hadv := fun (U : Nat → Nat → Int) h6 h5 ht => c_advance (g := g) (J := J) (z := z) (k := 0) (n := 0) (V := U) (i := tkN t e i) (e := e) hS h6 h5 (by omega) he ht hne
  have m1 : a ≠ rd := fun h => by rw [h, hS.1] at hT; exact absurd (congrArg Prod.fst hT) (by decide : ¬ (16 : Nat) = 1)
  have m2 : tx ≠ a := fun h => by rw [← h, hS.2.2] at hT; exact absurd (congrArg Prod.fst hT) (by decide : ¬ (2 : Nat) = 1)
  obtain ⟨s0, s1, s2⟩ := hS
  obtain ⟨⟨d3, d4, d5, d6, d7⟩, ⟨u3, u4, u5, u6, u7⟩⟩ := hD
  obtain ⟨h0, hi, h5, h6, h7, h8, h9, h10, h11⟩ := hc
  have hnn := hN.2.1
  have f1 : ¬ (tkK t e i = 1 ∧ lnOf t e i < 0) → X g mX6_takeName 15 [.ref rd, .ref a, .int (iI (p : Int)), .int (iI (bI c)), jk] [] (T, iV V, R, J, z) k n (QT T R J z t (u2 (u2 V a p (nmX t e A i)) rd 11 ((tkS t e i : Nat) : Int)) V rd tx e i (nmB t e A (bI c) i) (nxC t e i 2)) := by
    intro hb
    have e1 : nxC t e i 2 = 1 := by unfold nxC; rw [if_neg hb]
    rw [e1, show nmB t e A (bI c) i = false from decide_eq_false (fun c => hb c.1)]
    refine x_aload_n dX6_takeName_15 rfl ?_
    refine y_iconst dX6_takeName_16 ?_
    refine (show X _ _ 17 _ _ _ _ _ _ from ?_)
    refine x_callV (As := [_]) (mc := 0) (ms := 0) (z := mX6_fail) (ci := 6) dX6_takeName_17 lX6_89 oX6_fail (by decide) (by first | assumption) rfl rfl (Nat.le_of_ble_eq_true rfl) (Nat.le_of_ble_eq_true rfl) rfl (hf _) (k_I ?_)
    refine (show X _ _ 20 _ _ _ _ _ _ from ?_)
    exact x_zreturn dX6_takeName_20 rfl rfl (QT_f rfl)
  refine x_aload_n dX6_takeName_0 rfl ?_
  refine y_gi dX6_takeName_1 fX6_38 (by first | assumption) (fun _ _ _ => rfl) ?_
  refine (show X _ _ 4 _ _ _ _ _ _ from ?_)
  refine X.val h7 ?_
  refine y_iconst dX6_takeName_4 ?_
  refine (show X _ _ 5 _ _ _ _ _ _ from ?_)
  refine y_icmp_ne 15 dX6_takeName_5 (by decide) ⟨by omega, by omega⟩ ⟨by omega, by omega⟩ (fun c1 => ?_) (fun c1 => ?_)
  · exact f1 (fun c => c1 c.1)
  refine x_aload_n dX6_takeName_8 rfl ?_
  refine (show X _ _ 9 _ _ _ _ _ _ from ?_)
  refine x_callV (As := []) (mc := 0) (ms := 0) (z := mX6_seenLine) (ci := 6) dX6_takeName_9 lX6_119 oX6_seenLine (by decide) (by first | assumption) rfl rfl (Nat.le_of_ble_eq_true rfl) (Nat.le_of_ble_eq_true rfl) rfl (hsl) (k_I ?_)
  refine (show X _ _ 12 _ _ _ _ _ _ from ?_)
  refine y_if_lt 21 dX6_takeName_12 (by decide) ⟨by omega, by omega⟩ (fun c2 => ?_) (fun c2 => ?_)
  rotate_left
  · exact f1 (fun c => by omega)
  have hsn := hsn c1
  have hfb : fnd A (tkX t e i) = -1 ∨ (0 ≤ fnd A (tkX t e i) ∧ fnd A (tkX t e i) < A 0 9) := by
    rcases hfb with h | h
    · exact Or.inl h
    · exact Or.inr (by unfold fnd; omega)
  have f2 : ¬ (0 ≤ fnd A (tkX t e i) ∧ A 22 (fnd A (tkX t e i)).toNat = bI c) → X g mX6_takeName 43 [.ref rd, .ref a, .int (iI (p : Int)), .int (iI (bI c)), .int (iI (fnd A (tkX t e i)))] [] (T, iV V, R, J, z) k n (QT T R J z t (u2 (u2 V a p (nmX t e A i)) rd 11 ((tkS t e i : Nat) : Int)) V rd tx e i (nmB t e A (bI c) i) (nxC t e i 2)) := by
    intro hb
    rw [show nxC t e i 2 = 2 by unfold nxC; rw [if_pos ⟨c1, c2⟩], show nmB t e A (bI c) i = false from decide_eq_false (fun c => hb c.2)]
    refine x_aload_n dX6_takeName_43 rfl ?_
    refine y_iconst dX6_takeName_44 ?_
    refine (show X _ _ 45 _ _ _ _ _ _ from ?_)
    refine x_callV (As := [_]) (mc := 0) (ms := 0) (z := mX6_fail) (ci := 6) dX6_takeName_45 lX6_89 oX6_fail (by decide) (by first | assumption) rfl rfl (Nat.le_of_ble_eq_true rfl) (Nat.le_of_ble_eq_true rfl) rfl (hf _) (k_I ?_)
    refine (show X _ _ 48 _ _ _ _ _ _ from ?_)
    exact x_zreturn dX6_takeName_48 rfl rfl (QT_f rfl)
  refine x_aload_n dX6_takeName_21 rfl ?_
  refine (show X _ _ 22 _ _ _ _ _ _ from ?_)
  refine x_callV (As := []) (mc := 0) (ms := 0) (z := mX6_seenName) (ci := 6) dX6_takeName_22 lX6_122 oX6_seenName (by decide) (by first | assumption) rfl rfl (Nat.le_of_ble_eq_true rfl) (Nat.le_of_ble_eq_true rfl) rfl (hsn) (k_I ?_)
  refine (show X _ _ 25 _ _ _ _ _ _ from ?_)
  refine x_istore dX6_takeName_25 (by decide) rfl rfl ?_
  refine x_iload dX6_takeName_27 rfl ?_
  refine (show X _ _ 29 _ _ _ _ _ _ from ?_)
  refine y_if_lt 43 dX6_takeName_29 (by decide) ⟨by omega, by omega⟩ (fun c3 => ?_) (fun c3 => ?_)
  · exact f2 (by omega)
  have hx := hN.2.2 (fnd A (tkX t e i)).toNat (by omega)
  have hx2 := hA (fnd A (tkX t e i)).toNat (by omega)
  have hx3 := hx.2.2
  have hx4 := hx.2.1
  refine x_aload_n dX6_takeName_32 rfl ?_
  refine x_gr dX6_takeName_33 fX6_66 (by first | assumption) (fun _ _ _ => rfl) (by first | assumption) ?_
  refine x_iload dX6_takeName_36 rfl ?_
  refine (show X _ _ 38 _ _ _ _ _ _ from ?_)
  refine y_zald (fnd A (tkX t e i)).toNat dX6_takeName_38 (by assumption) (by omega) (by omega) (by decide) ?_
  refine X.val hx3 ?_
  refine x_iload_n dX6_takeName_39 rfl ?_
  refine (show X _ _ 40 _ _ _ _ _ _ from ?_)
  have hcb1 := hcb.1
  have hcb2 := hcb.2
  refine y_icmp_eq 49 dX6_takeName_40 (by decide) ⟨by omega, by omega⟩ ⟨by omega, by omega⟩ (fun c4 => ?_) (fun c4 => ?_)
  rotate_left
  · exact f2 (fun h => c4 h.2)
  refine x_aload_n dX6_takeName_49 rfl ?_
  refine x_iload_n dX6_takeName_50 rfl ?_
  refine x_aload_n dX6_takeName_51 rfl ?_
  refine x_gr dX6_takeName_52 fX6_63 (by first | assumption) (fun _ _ _ => rfl) (by first | assumption) ?_
  refine x_iload dX6_takeName_55 rfl ?_
  refine (show X _ _ 57 _ _ _ _ _ _ from ?_)
  refine y_iald (fnd A (tkX t e i)).toNat dX6_takeName_57 (by assumption) (by omega) (by omega) (by decide) ?_
  refine X.val (b := nmX t e A i) hx4 ?_
  refine y_iast p dX6_takeName_58 hT rfl hp (by omega) ?_
  refine x_aload_n dX6_takeName_59 rfl ?_
  refine x_aload_n dX6_takeName_60 rfl ?_
  refine y_gi dX6_takeName_61 fX6_41 (by first | assumption) (fun _ _ _ => rfl) ?_
  refine (show X _ _ 64 _ _ _ _ _ _ from ?_)
  refine X.val (b := ((tkS t e i : Nat) : Int)) (by rw [u2_n m1.symm]; exact h8) ?_
  refine y_pi dX6_takeName_64 (pX6_50 _) (by first | assumption) (fun _ _ _ => rfl) rfl rfl ?_
  refine (show X _ _ 67 _ _ _ _ _ _ from ?_)
  have eR : ∀ c, c ≠ 11 → u2 (u2 V a p (nmX t e A i)) rd 11 ((tkS t e i : Nat) : Int) rd c = V rd c := fun c hc => by
    rw [u2_s, u1_n hc, u2_n m1.symm]
  have eX : u2 (u2 V a p (nmX t e A i)) rd 11 ((tkS t e i : Nat) : Int) tx = t := by
    rw [u2_n hne, u2_n m2]
    exact h0
  generalize u2 (u2 V a p (nmX t e A i)) rd 11 ((tkS t e i : Nat) : Int) = U at *
  have ha := hadv U (by rw [eR 6 (by decide)]; exact h6) (by rw [eR 5 (by decide)]; exact h5) (by rw [eX]; exact fun j hj => ht j (by omega))
  have hv := av_CU (V := U) (t := t) (i := tkN t e i) eX (by rw [eR 5 (by decide)]; exact h5) (by rw [eR 9 (by decide)]; exact h11) (by omega) he hne
  refine x_aload_n dX6_takeName_67 rfl ?_
  refine (show X _ _ 68 _ _ _ _ _ _ from ?_)
  refine x_callV (As := []) (mc := 0) (ms := 0) (z := mX6_advance) (ci := 6) dX6_takeName_68 lX6_82 oX6_advance (by decide) (by first | assumption) rfl rfl (Nat.le_of_ble_eq_true rfl) (Nat.le_of_ble_eq_true rfl) rfl (ha) (k_V ?_)
  refine (show X _ _ 71 _ _ _ _ _ _ from ?_)
  refine y_iconst dX6_takeName_71 ?_
  refine (show X _ _ 72 _ _ _ _ _ _ from ?_)
  have eb : nmB t e A (bI c) i = true := decide_eq_true ⟨⟨c1, c2⟩, c3, c4⟩
  exact x_zreturn dX6_takeName_72 rfl rfl (Or.inl ⟨eb, rfl, _, rfl, hv⟩)
end C47
