/-! ===== Reader: the steps, told by what they leave ===== -/
theorem DS_ne {T : Nat → Nat × Nat} {R : Nat → Nat → Option Nat} {rd tx : Nat} (h : DS T R rd tx) : tx ≠ rd := fun c => by
  have h1 := h.1
  rw [← c, h.2.2] at h1
  exact absurd (congrArg Prod.fst h1) (by decide : ¬ (2 : Nat) = 16)
/-- a step goes through (b), or there is the fault c and nothing else -/
def QT (T : Nat → Nat × Nat) (R : Nat → Nat → Option Nat) (J : Nat → Nat → Int64) (z : Nat) (t : Nat → Int) (V0 V : Nat → Nat → Int) (rd tx e i : Nat) (b : Bool) (c : Int) : Option Value → Mem → Prop := fun v M => (b = true ∧ v = some (.int (iI 1)) ∧ ∃ V' : Nat → Nat → Int, M = (T, iV V', R, J, z) ∧ CU t V' rd tx e (tkN t e i) ∧ S0 V0 V' rd) ∨ (b = false ∧ v = some (.int (iI 0)) ∧ M = (T, iV (flE V rd c), R, J, z))
/-- a whole number between lo and hi; what is wrong if there is none -/
def whB (t : Nat → Int) (e i : Nat) (lo hi : Int) : Bool := decide (tkK t e i = 2 ∧ lo ≤ tkX t e i ∧ tkX t e i ≤ hi)
def whC (t : Nat → Int) (e i : Nat) : Int := if tkK t e i = 2 then 4 else 1
theorem QT_t {T : Nat → Nat × Nat} {R : Nat → Nat → Option Nat} {J : Nat → Nat → Int64} {z : Nat} {t : Nat → Int} {V0 V : Nat → Nat → Int} {rd tx e i : Nat} {b : Bool} {c : Int} (h : b = true) {V' : Nat → Nat → Int} (h1 : CU t V' rd tx e (tkN t e i)) (h2 : S0 V0 V' rd) : QT T R J z t V0 V rd tx e i b c (some (.int (iI (bI b)))) (T, iV V', R, J, z) := Or.inl ⟨h, by rw [h]; rfl, V', rfl, h1, h2⟩
theorem QT_f {T : Nat → Nat × Nat} {R : Nat → Nat → Option Nat} {J : Nat → Nat → Int64} {z : Nat} {t : Nat → Int} {V0 V : Nat → Nat → Int} {rd tx e i : Nat} {b : Bool} {c : Int} (h : b = false) : QT T R J z t V0 V rd tx e i b c (some (.int (iI (bI b)))) (T, iV (flE V rd c), R, J, z) := Or.inr ⟨h, by rw [h]; rfl, rfl⟩
/-- which line begins here, -1 none -/
def lnOf (t : Nat → Int) (e i : Nat) : Int := if sw t e i 8 = true then 0 else if sw t e i 18 = true then 1 else if sw t e i 20 = true then 2 else if sw t e i 6 = true then 3 else if sw t e i 3 = true then 4 else if sw t e i 24 = true then 5 else if sw t e i 12 = true then 6 else if sw t e i 5 = true then 7 else if sw t e i 17 = true then 8 else -1
theorem lnOf_b (t : Nat → Int) (e i : Nat) : -1 ≤ lnOf t e i ∧ lnOf t e i ≤ 8 := by
  unfold lnOf
  constructor <;> (repeat' split) <;> omega
/-- which law -/
def lwOf (t : Nat → Int) (e i : Nat) : Int := if sw t e i 23 = true then 0 else if sw t e i 7 = true then 1 else if sw t e i 32 = true then 2 else if sw t e i 16 = true then 3 else if sw t e i 29 = true then 4 else -1
theorem lwOf_b (t : Nat → Int) (e i : Nat) : -1 ≤ lwOf t e i ∧ lwOf t e i ≤ 4 := by
  unfold lwOf
  constructor <;> (repeat' split) <;> omega
/-- which kind -/
def kdOf (t : Nat → Int) (e i : Nat) : Int := if sw t e i 19 = true then 0 else if sw t e i 25 = true then 1 else if sw t e i 4 = true then 2 else if sw t e i 28 = true then 3 else if sw t e i 13 = true then 4 else -1
theorem kdOf_b (t : Nat → Int) (e i : Nat) : -1 ≤ kdOf t e i ∧ kdOf t e i ≤ 4 := by
  unfold kdOf
  constructor <;> (repeat' split) <;> omega
/-- which branch -/
def sdOf (t : Nat → Int) (e i : Nat) : Int := if sw t e i 15 = true then 0 else if sw t e i 22 = true then 1 else -1
theorem sdOf_b (t : Nat → Int) (e i : Nat) : -1 ≤ sdOf t e i ∧ sdOf t e i ≤ 1 := by
  unfold sdOf
  constructor <;> (repeat' split) <;> omega
/-- an age, or a year of birth -/
def agOf (t : Nat → Int) (e i : Nat) : Int := if sw t e i 0 = true then 0 else if sw t e i 1 = true then 1 else -1
theorem agOf_b (t : Nat → Int) (e i : Nat) : -1 ≤ agOf t e i ∧ agOf t e i ≤ 1 := by
  unfold agOf
  constructor <;> (repeat' split) <;> omega
section C46
variable {g : GG} {T : Nat → Nat × Nat} {V : Nat → Nat → Int} {R : Nat → Nat → Option Nat} {J : Nat → Nat → Int64} {z k n : Nat} {rd tx e i : Nat} {t : Nat → Int}
theorem q_sees {j : Nat} (hj : j < 33) (hS : DS T R rd tx) (hc : CU t V rd tx e i) (he : e ≤ 1100) (ht : ∀ j, j < 1100 → -128 ≤ t j ∧ t j ≤ 127) : X g mX6_sees 0 [.ref rd, .ref (g.2.2.1 j), jk] [] (T, iV V, R, J, z) k n (rI (iI (bI (sw t e i j))) (T, iV V, R, J, z)) := by
  rw [← seB_sw hc hj]
  obtain ⟨h0, hi, h5, h6, h7, h8, h9, h10, h11⟩ := hc
  have hb := tk_b t hi
  have hk := tkK_b t e i
  exact c_sees hS (lit j hj) (by rw [h7]; exact hk) h11 h8 (fun h => by rw [h7] at h; rw [h9 h]; omega) (by rw [h0]; exact ht)
theorem q_word {j : Nat} (hj : j < 33) (hS : DS T R rd tx) (hc : CU t V rd tx e i) (he : e ≤ 1100) (ht : ∀ j, j < 1100 → -128 ≤ t j ∧ t j ≤ 127) : X g mX6_takeWord 0 [.ref rd, .ref (g.2.2.1 j)] [] (T, iV V, R, J, z) k n (QT T R J z t V V rd tx e i (sw t e i j) 1) := by
  have hb := tk_b t hc.2.1
  have hk := tkK_b t e i
  have es := seB_sw hc hj
  have hne := DS_ne hS
  obtain ⟨h0, hi, h5, h6, h7, h8, h9, h10, h11⟩ := hc
  refine X.mono (c_takeWord hS (lit j hj) (by rw [h7]; exact hk) h11 h8 (fun h => by rw [h7] at h; rw [h9 h]; omega) (by rw [h0]; exact ht) h6 h5 (by omega) he hne) ?_
  rintro v M1 ⟨rfl, rfl⟩
  have hv := av_CU h0 h5 h11 (i := tkN t e i) (by omega) he hne
  unfold twoE
  rw [es]
  cases hs : sw t e i j with
  | true => rw [if_pos rfl]; exact QT_t rfl hv.1 hv.2
  | false => rw [if_neg (by decide)]; exact QT_f rfl
theorem q_choice {a p N : Nat} {x : Int} (hT : T a = (1, N)) (hp : p < N) (hN : N ≤ 1000) (hx : -1 ≤ x ∧ x ≤ 99) (hS : DS T R rd tx) (hc : CU t V rd tx e i) (he : e ≤ 1100) (ht : ∀ j, j < 1100 → -128 ≤ t j ∧ t j ≤ 127) : X g mX6_takeChoice 0 [.ref rd, .ref a, .int (iI (p : Int)), .int (iI x)] [] (T, iV V, R, J, z) k n (QT T R J z t (u2 V a p x) V rd tx e i (decide (0 ≤ x)) 1) := by
  have hb := tk_b t hc.2.1
  have hne := DS_ne hS
  obtain ⟨h0, hi, h5, h6, h7, h8, h9, h10, h11⟩ := hc
  have n1 : a ≠ rd := fun h => by rw [h, hS.1] at hT; exact absurd (congrArg Prod.fst hT) (by decide : ¬ (16 : Nat) = 1)
  have n2 : tx ≠ a := fun h => by rw [← h, hS.2.2] at hT; exact absurd (congrArg Prod.fst hT) (by decide : ¬ (2 : Nat) = 1)
  refine X.mono (c_takeChoice hS h6 h5 (by omega) he (by rw [h0]; exact fun j hj => ht j (by omega)) hne hT hp hN hx) ?_
  rintro v M1 ⟨rfl, rfl⟩
  have hv := av_CU (t := t) (V := u2 V a p x) (by rw [u2_n n2]; exact h0) (by rw [u2_n n1.symm]; exact h5) (by rw [u2_n n1.symm]; exact h11) (i := tkN t e i) (by omega) he hne
  unfold tcE
  by_cases hx0 : 0 ≤ x
  · rw [if_neg (by omega)]; exact QT_t (decide_eq_true hx0) hv.1 hv.2
  · rw [if_pos (by omega)]; exact QT_f (decide_eq_false hx0)
theorem q_whole {a p N : Nat} {lo hi : Int} (hT : T a = (1, N)) (hp : p < N) (hN : N ≤ 1000) (hl : -1000 ≤ lo ∧ lo ≤ 1000) (hh : -1000 ≤ hi ∧ hi ≤ 1000) (hS : DS T R rd tx) (hc : CU t V rd tx e i) (he : e ≤ 1100) (ht : ∀ j, j < 1100 → -128 ≤ t j ∧ t j ≤ 127) : X g mX6_takeWhole 0 [.ref rd, .ref a, .int (iI (p : Int)), .int (iI lo), .int (iI hi)] [] (T, iV V, R, J, z) k n (QT T R J z t (u2 V a p (tkX t e i)) V rd tx e i (whB t e i lo hi) (whC t e i)) := by
  have hb := tk_b t hc.2.1
  have hk := tkK_b t e i
  have hne := DS_ne hS
  obtain ⟨h0, hi', h5, h6, h7, h8, h9, h10, h11⟩ := hc
  have n1 : a ≠ rd := fun h => by rw [h, hS.1] at hT; exact absurd (congrArg Prod.fst hT) (by decide : ¬ (16 : Nat) = 1)
  have n2 : tx ≠ a := fun h => by rw [← h, hS.2.2] at hT; exact absurd (congrArg Prod.fst hT) (by decide : ¬ (2 : Nat) = 1)
  refine X.mono (c_takeWhole (lo := lo) (hi := hi) hS h6 h5 (by omega) he (by rw [h0]; exact fun j hj => ht j (by omega)) hne hT hp hN hl hh (by rw [h7]; exact hk) (fun h => by rw [h7] at h; rw [h10 h]; exact (tkX_whole h).2)) ?_
  rintro v M1 ⟨rfl, rfl⟩
  have eB : twB V rd lo hi = whB t e i lo hi := by
    unfold twB whB
    rw [h7]
    by_cases h : tkK t e i = 2
    · rw [h10 h]
    · rw [decide_eq_false (fun c => h c.1), decide_eq_false (fun c => h c.1)]
  rw [eB]
  unfold twE
  rw [h7]
  by_cases h : tkK t e i = 2
  · have hv := av_CU (t := t) (V := u2 V a p (tkX t e i)) (by rw [u2_n n2]; exact h0) (by rw [u2_n n1.symm]; exact h5) (by rw [u2_n n1.symm]; exact h11) (i := tkN t e i) (by omega) he hne
    rw [if_pos h, h10 h]
    by_cases h1 : lo ≤ tkX t e i ∧ tkX t e i ≤ hi
    · rw [if_pos h1]; exact QT_t (decide_eq_true ⟨h, h1⟩) hv.1 hv.2
    · rw [if_neg h1, show (4 : Int) = whC t e i by unfold whC; rw [if_pos h]]; exact QT_f (decide_eq_false (fun c => h1 c.2))
  · rw [if_neg h, show (1 : Int) = whC t e i by unfold whC; rw [if_neg h]]; exact QT_f (decide_eq_false (fun c => h c.1))
theorem q_seenLine (hS : DS T R rd tx) (hc : CU t V rd tx e i) (he : e ≤ 1100) (ht : ∀ j, j < 1100 → -128 ≤ t j ∧ t j ≤ 127) : X g mX6_seenLine 0 [.ref rd] [] (T, iV V, R, J, z) k n (rI (iI (lnOf t e i)) (T, iV V, R, J, z)) := by
  have hs := fun (j : Nat) (hj : j < 33) => q_sees (g := g) (J := J) (z := z) (k := 0) (n := 0) (j := j) hj hS hc he ht
  have s0 := hS.1
  unfold lnOf
  refine x_aload_n dX6_seenLine_0 rfl ?_
  refine x_ldcs dX6_seenLine_1 sX6_125 ?_
  refine (show X _ _ 3 _ _ _ _ _ _ from ?_)
  refine x_callV (As := [_]) (mc := 0) (ms := 0) (z := mX6_sees) (ci := 6) dX6_seenLine_3 lX6_112 oX6_sees (by decide) (by first | assumption) rfl rfl (Nat.le_of_ble_eq_true rfl) (Nat.le_of_ble_eq_true rfl) rfl (hs 8 (by decide)) (k_I ?_)
  refine (show X _ _ 6 _ _ _ _ _ _ from ?_)
  refine y_ifb_eq 11 dX6_seenLine_6 (by decide) (fun h0 => ?_) (fun h0 => ?_)
  rotate_left
  · rw [if_pos h0]
    refine y_iconst dX6_seenLine_9 ?_
    refine (show X _ _ 10 _ _ _ _ _ _ from ?_)
    exact x_ireturn dX6_seenLine_10 rfl ⟨rfl, rfl⟩
  rw [if_neg (by rw [h0]; decide)]
  refine x_aload_n dX6_seenLine_11 rfl ?_
  refine x_ldcs dX6_seenLine_12 sX6_127 ?_
  refine (show X _ _ 14 _ _ _ _ _ _ from ?_)
  refine x_callV (As := [_]) (mc := 0) (ms := 0) (z := mX6_sees) (ci := 6) dX6_seenLine_14 lX6_112 oX6_sees (by decide) (by first | assumption) rfl rfl (Nat.le_of_ble_eq_true rfl) (Nat.le_of_ble_eq_true rfl) rfl (hs 18 (by decide)) (k_I ?_)
  refine (show X _ _ 17 _ _ _ _ _ _ from ?_)
  refine y_ifb_eq 22 dX6_seenLine_17 (by decide) (fun h1 => ?_) (fun h1 => ?_)
  rotate_left
  · rw [if_pos h1]
    refine y_iconst dX6_seenLine_20 ?_
    refine (show X _ _ 21 _ _ _ _ _ _ from ?_)
    exact x_ireturn dX6_seenLine_21 rfl ⟨rfl, rfl⟩
  rw [if_neg (by rw [h1]; decide)]
  refine x_aload_n dX6_seenLine_22 rfl ?_
  refine x_ldcs dX6_seenLine_23 sX6_129 ?_
  refine (show X _ _ 25 _ _ _ _ _ _ from ?_)
  refine x_callV (As := [_]) (mc := 0) (ms := 0) (z := mX6_sees) (ci := 6) dX6_seenLine_25 lX6_112 oX6_sees (by decide) (by first | assumption) rfl rfl (Nat.le_of_ble_eq_true rfl) (Nat.le_of_ble_eq_true rfl) rfl (hs 20 (by decide)) (k_I ?_)
  refine (show X _ _ 28 _ _ _ _ _ _ from ?_)
  refine y_ifb_eq 33 dX6_seenLine_28 (by decide) (fun h2 => ?_) (fun h2 => ?_)
  rotate_left
  · rw [if_pos h2]
    refine y_iconst dX6_seenLine_31 ?_
    refine (show X _ _ 32 _ _ _ _ _ _ from ?_)
    exact x_ireturn dX6_seenLine_32 rfl ⟨rfl, rfl⟩
  rw [if_neg (by rw [h2]; decide)]
  refine x_aload_n dX6_seenLine_33 rfl ?_
  refine x_ldcs dX6_seenLine_34 sX6_131 ?_
  refine (show X _ _ 36 _ _ _ _ _ _ from ?_)
  refine x_callV (As := [_]) (mc := 0) (ms := 0) (z := mX6_sees) (ci := 6) dX6_seenLine_36 lX6_112 oX6_sees (by decide) (by first | assumption) rfl rfl (Nat.le_of_ble_eq_true rfl) (Nat.le_of_ble_eq_true rfl) rfl (hs 6 (by decide)) (k_I ?_)
  refine (show X _ _ 39 _ _ _ _ _ _ from ?_)
  refine y_ifb_eq 44 dX6_seenLine_39 (by decide) (fun h3 => ?_) (fun h3 => ?_)
  rotate_left
  · rw [if_pos h3]
    refine y_iconst dX6_seenLine_42 ?_
    refine (show X _ _ 43 _ _ _ _ _ _ from ?_)
    exact x_ireturn dX6_seenLine_43 rfl ⟨rfl, rfl⟩
  rw [if_neg (by rw [h3]; decide)]
  refine x_aload_n dX6_seenLine_44 rfl ?_
  refine x_ldcs dX6_seenLine_45 sX6_133 ?_
  refine (show X _ _ 47 _ _ _ _ _ _ from ?_)
  refine x_callV (As := [_]) (mc := 0) (ms := 0) (z := mX6_sees) (ci := 6) dX6_seenLine_47 lX6_112 oX6_sees (by decide) (by first | assumption) rfl rfl (Nat.le_of_ble_eq_true rfl) (Nat.le_of_ble_eq_true rfl) rfl (hs 3 (by decide)) (k_I ?_)
  refine (show X _ _ 50 _ _ _ _ _ _ from ?_)
  refine y_ifb_eq 55 dX6_seenLine_50 (by decide) (fun h4 => ?_) (fun h4 => ?_)
  rotate_left
  · rw [if_pos h4]
    refine y_iconst dX6_seenLine_53 ?_
    refine (show X _ _ 54 _ _ _ _ _ _ from ?_)
    exact x_ireturn dX6_seenLine_54 rfl ⟨rfl, rfl⟩
  rw [if_neg (by rw [h4]; decide)]
  refine x_aload_n dX6_seenLine_55 rfl ?_
  refine x_ldcs dX6_seenLine_56 sX6_135 ?_
  refine (show X _ _ 58 _ _ _ _ _ _ from ?_)
  refine x_callV (As := [_]) (mc := 0) (ms := 0) (z := mX6_sees) (ci := 6) dX6_seenLine_58 lX6_112 oX6_sees (by decide) (by first | assumption) rfl rfl (Nat.le_of_ble_eq_true rfl) (Nat.le_of_ble_eq_true rfl) rfl (hs 24 (by decide)) (k_I ?_)
  refine (show X _ _ 61 _ _ _ _ _ _ from ?_)
  refine y_ifb_eq 66 dX6_seenLine_61 (by decide) (fun h5 => ?_) (fun h5 => ?_)
  rotate_left
  · rw [if_pos h5]
    refine y_iconst dX6_seenLine_64 ?_
    refine (show X _ _ 65 _ _ _ _ _ _ from ?_)
    exact x_ireturn dX6_seenLine_65 rfl ⟨rfl, rfl⟩
  rw [if_neg (by rw [h5]; decide)]
  refine x_aload_n dX6_seenLine_66 rfl ?_
  refine x_ldcs dX6_seenLine_67 sX6_137 ?_
  refine (show X _ _ 69 _ _ _ _ _ _ from ?_)
  refine x_callV (As := [_]) (mc := 0) (ms := 0) (z := mX6_sees) (ci := 6) dX6_seenLine_69 lX6_112 oX6_sees (by decide) (by first | assumption) rfl rfl (Nat.le_of_ble_eq_true rfl) (Nat.le_of_ble_eq_true rfl) rfl (hs 12 (by decide)) (k_I ?_)
  refine (show X _ _ 72 _ _ _ _ _ _ from ?_)
  refine y_ifb_eq 78 dX6_seenLine_72 (by decide) (fun h6 => ?_) (fun h6 => ?_)
  rotate_left
  · rw [if_pos h6]
    refine y_bipush dX6_seenLine_75 rfl ?_
    refine (show X _ _ 77 _ _ _ _ _ _ from ?_)
    exact x_ireturn dX6_seenLine_77 rfl ⟨rfl, rfl⟩
  rw [if_neg (by rw [h6]; decide)]
  refine x_aload_n dX6_seenLine_78 rfl ?_
  refine x_ldcs dX6_seenLine_79 sX6_139 ?_
  refine (show X _ _ 81 _ _ _ _ _ _ from ?_)
  refine x_callV (As := [_]) (mc := 0) (ms := 0) (z := mX6_sees) (ci := 6) dX6_seenLine_81 lX6_112 oX6_sees (by decide) (by first | assumption) rfl rfl (Nat.le_of_ble_eq_true rfl) (Nat.le_of_ble_eq_true rfl) rfl (hs 5 (by decide)) (k_I ?_)
  refine (show X _ _ 84 _ _ _ _ _ _ from ?_)
  refine y_ifb_eq 90 dX6_seenLine_84 (by decide) (fun h7 => ?_) (fun h7 => ?_)
  rotate_left
  · rw [if_pos h7]
    refine y_bipush dX6_seenLine_87 rfl ?_
    refine (show X _ _ 89 _ _ _ _ _ _ from ?_)
    exact x_ireturn dX6_seenLine_89 rfl ⟨rfl, rfl⟩
  rw [if_neg (by rw [h7]; decide)]
  refine x_aload_n dX6_seenLine_90 rfl ?_
  refine x_ldcs dX6_seenLine_91 sX6_141 ?_
  refine (show X _ _ 93 _ _ _ _ _ _ from ?_)
  refine x_callV (As := [_]) (mc := 0) (ms := 0) (z := mX6_sees) (ci := 6) dX6_seenLine_93 lX6_112 oX6_sees (by decide) (by first | assumption) rfl rfl (Nat.le_of_ble_eq_true rfl) (Nat.le_of_ble_eq_true rfl) rfl (hs 17 (by decide)) (k_I ?_)
  refine (show X _ _ 96 _ _ _ _ _ _ from ?_)
  refine y_ifb_eq 104 dX6_seenLine_96 (by decide) (fun h8 => ?_) (fun h8 => ?_)
  · rw [if_neg (by rw [h8]; decide)]
    refine y_iconst dX6_seenLine_104 ?_
    refine (show X _ _ 105 _ _ _ _ _ _ from ?_)
    exact x_ireturn dX6_seenLine_105 rfl ⟨rfl, rfl⟩
  · rw [if_pos h8]
    refine y_bipush dX6_seenLine_99 rfl ?_
    refine x_goto 105 dX6_seenLine_101 (by decide) ?_
    refine (show X _ _ 105 _ _ _ _ _ _ from ?_)
    exact x_ireturn dX6_seenLine_105 rfl ⟨rfl, rfl⟩
theorem q_seenLaw (hS : DS T R rd tx) (hc : CU t V rd tx e i) (he : e ≤ 1100) (ht : ∀ j, j < 1100 → -128 ≤ t j ∧ t j ≤ 127) : X g mX6_seenLaw 0 [.ref rd] [] (T, iV V, R, J, z) k n (rI (iI (lwOf t e i)) (T, iV V, R, J, z)) := by
  have hs := fun (j : Nat) (hj : j < 33) => q_sees (g := g) (J := J) (z := z) (k := 0) (n := 0) (j := j) hj hS hc he ht
  have s0 := hS.1
  unfold lwOf
  refine x_aload_n dX6_seenLaw_0 rfl ?_
  refine x_ldcs dX6_seenLaw_1 sX6_221 ?_
  refine (show X _ _ 3 _ _ _ _ _ _ from ?_)
  refine x_callV (As := [_]) (mc := 0) (ms := 0) (z := mX6_sees) (ci := 6) dX6_seenLaw_3 lX6_112 oX6_sees (by decide) (by first | assumption) rfl rfl (Nat.le_of_ble_eq_true rfl) (Nat.le_of_ble_eq_true rfl) rfl (hs 23 (by decide)) (k_I ?_)
  refine (show X _ _ 6 _ _ _ _ _ _ from ?_)
  refine y_ifb_eq 11 dX6_seenLaw_6 (by decide) (fun h0 => ?_) (fun h0 => ?_)
  rotate_left
  · rw [if_pos h0]
    refine y_iconst dX6_seenLaw_9 ?_
    refine (show X _ _ 10 _ _ _ _ _ _ from ?_)
    exact x_ireturn dX6_seenLaw_10 rfl ⟨rfl, rfl⟩
  rw [if_neg (by rw [h0]; decide)]
  refine x_aload_n dX6_seenLaw_11 rfl ?_
  refine x_ldcs dX6_seenLaw_12 sX6_223 ?_
  refine (show X _ _ 14 _ _ _ _ _ _ from ?_)
  refine x_callV (As := [_]) (mc := 0) (ms := 0) (z := mX6_sees) (ci := 6) dX6_seenLaw_14 lX6_112 oX6_sees (by decide) (by first | assumption) rfl rfl (Nat.le_of_ble_eq_true rfl) (Nat.le_of_ble_eq_true rfl) rfl (hs 7 (by decide)) (k_I ?_)
  refine (show X _ _ 17 _ _ _ _ _ _ from ?_)
  refine y_ifb_eq 22 dX6_seenLaw_17 (by decide) (fun h1 => ?_) (fun h1 => ?_)
  rotate_left
  · rw [if_pos h1]
    refine y_iconst dX6_seenLaw_20 ?_
    refine (show X _ _ 21 _ _ _ _ _ _ from ?_)
    exact x_ireturn dX6_seenLaw_21 rfl ⟨rfl, rfl⟩
  rw [if_neg (by rw [h1]; decide)]
  refine x_aload_n dX6_seenLaw_22 rfl ?_
  refine x_ldcs dX6_seenLaw_23 sX6_225 ?_
  refine (show X _ _ 25 _ _ _ _ _ _ from ?_)
  refine x_callV (As := [_]) (mc := 0) (ms := 0) (z := mX6_sees) (ci := 6) dX6_seenLaw_25 lX6_112 oX6_sees (by decide) (by first | assumption) rfl rfl (Nat.le_of_ble_eq_true rfl) (Nat.le_of_ble_eq_true rfl) rfl (hs 32 (by decide)) (k_I ?_)
  refine (show X _ _ 28 _ _ _ _ _ _ from ?_)
  refine y_ifb_eq 33 dX6_seenLaw_28 (by decide) (fun h2 => ?_) (fun h2 => ?_)
  rotate_left
  · rw [if_pos h2]
    refine y_iconst dX6_seenLaw_31 ?_
    refine (show X _ _ 32 _ _ _ _ _ _ from ?_)
    exact x_ireturn dX6_seenLaw_32 rfl ⟨rfl, rfl⟩
  rw [if_neg (by rw [h2]; decide)]
  refine x_aload_n dX6_seenLaw_33 rfl ?_
  refine x_ldcs dX6_seenLaw_34 sX6_227 ?_
  refine (show X _ _ 36 _ _ _ _ _ _ from ?_)
  refine x_callV (As := [_]) (mc := 0) (ms := 0) (z := mX6_sees) (ci := 6) dX6_seenLaw_36 lX6_112 oX6_sees (by decide) (by first | assumption) rfl rfl (Nat.le_of_ble_eq_true rfl) (Nat.le_of_ble_eq_true rfl) rfl (hs 16 (by decide)) (k_I ?_)
  refine (show X _ _ 39 _ _ _ _ _ _ from ?_)
  refine y_ifb_eq 44 dX6_seenLaw_39 (by decide) (fun h3 => ?_) (fun h3 => ?_)
  rotate_left
  · rw [if_pos h3]
    refine y_iconst dX6_seenLaw_42 ?_
    refine (show X _ _ 43 _ _ _ _ _ _ from ?_)
    exact x_ireturn dX6_seenLaw_43 rfl ⟨rfl, rfl⟩
  rw [if_neg (by rw [h3]; decide)]
  refine x_aload_n dX6_seenLaw_44 rfl ?_
  refine x_ldcs dX6_seenLaw_45 sX6_229 ?_
  refine (show X _ _ 47 _ _ _ _ _ _ from ?_)
  refine x_callV (As := [_]) (mc := 0) (ms := 0) (z := mX6_sees) (ci := 6) dX6_seenLaw_47 lX6_112 oX6_sees (by decide) (by first | assumption) rfl rfl (Nat.le_of_ble_eq_true rfl) (Nat.le_of_ble_eq_true rfl) rfl (hs 29 (by decide)) (k_I ?_)
  refine (show X _ _ 50 _ _ _ _ _ _ from ?_)
  refine y_ifb_eq 57 dX6_seenLaw_50 (by decide) (fun h4 => ?_) (fun h4 => ?_)
  · rw [if_neg (by rw [h4]; decide)]
    refine y_iconst dX6_seenLaw_57 ?_
    refine (show X _ _ 58 _ _ _ _ _ _ from ?_)
    exact x_ireturn dX6_seenLaw_58 rfl ⟨rfl, rfl⟩
  · rw [if_pos h4]
    refine y_iconst dX6_seenLaw_53 ?_
    refine x_goto 58 dX6_seenLaw_54 (by decide) ?_
    refine (show X _ _ 58 _ _ _ _ _ _ from ?_)
    exact x_ireturn dX6_seenLaw_58 rfl ⟨rfl, rfl⟩
theorem q_seenKind (hS : DS T R rd tx) (hc : CU t V rd tx e i) (he : e ≤ 1100) (ht : ∀ j, j < 1100 → -128 ≤ t j ∧ t j ≤ 127) : X g mX6_seenKind 0 [.ref rd] [] (T, iV V, R, J, z) k n (rI (iI (kdOf t e i)) (T, iV V, R, J, z)) := by
  have hs := fun (j : Nat) (hj : j < 33) => q_sees (g := g) (J := J) (z := z) (k := 0) (n := 0) (j := j) hj hS hc he ht
  have s0 := hS.1
  unfold kdOf
  refine x_aload_n dX6_seenKind_0 rfl ?_
  refine x_ldcs dX6_seenKind_1 sX6_252 ?_
  refine (show X _ _ 3 _ _ _ _ _ _ from ?_)
  refine x_callV (As := [_]) (mc := 0) (ms := 0) (z := mX6_sees) (ci := 6) dX6_seenKind_3 lX6_112 oX6_sees (by decide) (by first | assumption) rfl rfl (Nat.le_of_ble_eq_true rfl) (Nat.le_of_ble_eq_true rfl) rfl (hs 19 (by decide)) (k_I ?_)
  refine (show X _ _ 6 _ _ _ _ _ _ from ?_)
  refine y_ifb_eq 11 dX6_seenKind_6 (by decide) (fun h0 => ?_) (fun h0 => ?_)
  rotate_left
  · rw [if_pos h0]
    refine y_iconst dX6_seenKind_9 ?_
    refine (show X _ _ 10 _ _ _ _ _ _ from ?_)
    exact x_ireturn dX6_seenKind_10 rfl ⟨rfl, rfl⟩
  rw [if_neg (by rw [h0]; decide)]
  refine x_aload_n dX6_seenKind_11 rfl ?_
  refine x_ldcs dX6_seenKind_12 sX6_254 ?_
  refine (show X _ _ 14 _ _ _ _ _ _ from ?_)
  refine x_callV (As := [_]) (mc := 0) (ms := 0) (z := mX6_sees) (ci := 6) dX6_seenKind_14 lX6_112 oX6_sees (by decide) (by first | assumption) rfl rfl (Nat.le_of_ble_eq_true rfl) (Nat.le_of_ble_eq_true rfl) rfl (hs 25 (by decide)) (k_I ?_)
  refine (show X _ _ 17 _ _ _ _ _ _ from ?_)
  refine y_ifb_eq 22 dX6_seenKind_17 (by decide) (fun h1 => ?_) (fun h1 => ?_)
  rotate_left
  · rw [if_pos h1]
    refine y_iconst dX6_seenKind_20 ?_
    refine (show X _ _ 21 _ _ _ _ _ _ from ?_)
    exact x_ireturn dX6_seenKind_21 rfl ⟨rfl, rfl⟩
  rw [if_neg (by rw [h1]; decide)]
  refine x_aload_n dX6_seenKind_22 rfl ?_
  refine x_ldcsw dX6_seenKind_23 sX6_256 ?_
  refine (show X _ _ 26 _ _ _ _ _ _ from ?_)
  refine x_callV (As := [_]) (mc := 0) (ms := 0) (z := mX6_sees) (ci := 6) dX6_seenKind_26 lX6_112 oX6_sees (by decide) (by first | assumption) rfl rfl (Nat.le_of_ble_eq_true rfl) (Nat.le_of_ble_eq_true rfl) rfl (hs 4 (by decide)) (k_I ?_)
  refine (show X _ _ 29 _ _ _ _ _ _ from ?_)
  refine y_ifb_eq 34 dX6_seenKind_29 (by decide) (fun h2 => ?_) (fun h2 => ?_)
  rotate_left
  · rw [if_pos h2]
    refine y_iconst dX6_seenKind_32 ?_
    refine (show X _ _ 33 _ _ _ _ _ _ from ?_)
    exact x_ireturn dX6_seenKind_33 rfl ⟨rfl, rfl⟩
  rw [if_neg (by rw [h2]; decide)]
  refine x_aload_n dX6_seenKind_34 rfl ?_
  refine x_ldcsw dX6_seenKind_35 sX6_258 ?_
  refine (show X _ _ 38 _ _ _ _ _ _ from ?_)
  refine x_callV (As := [_]) (mc := 0) (ms := 0) (z := mX6_sees) (ci := 6) dX6_seenKind_38 lX6_112 oX6_sees (by decide) (by first | assumption) rfl rfl (Nat.le_of_ble_eq_true rfl) (Nat.le_of_ble_eq_true rfl) rfl (hs 28 (by decide)) (k_I ?_)
  refine (show X _ _ 41 _ _ _ _ _ _ from ?_)
  refine y_ifb_eq 46 dX6_seenKind_41 (by decide) (fun h3 => ?_) (fun h3 => ?_)
  rotate_left
  · rw [if_pos h3]
    refine y_iconst dX6_seenKind_44 ?_
    refine (show X _ _ 45 _ _ _ _ _ _ from ?_)
    exact x_ireturn dX6_seenKind_45 rfl ⟨rfl, rfl⟩
  rw [if_neg (by rw [h3]; decide)]
  refine x_aload_n dX6_seenKind_46 rfl ?_
  refine x_ldcsw dX6_seenKind_47 sX6_260 ?_
  refine (show X _ _ 50 _ _ _ _ _ _ from ?_)
  refine x_callV (As := [_]) (mc := 0) (ms := 0) (z := mX6_sees) (ci := 6) dX6_seenKind_50 lX6_112 oX6_sees (by decide) (by first | assumption) rfl rfl (Nat.le_of_ble_eq_true rfl) (Nat.le_of_ble_eq_true rfl) rfl (hs 13 (by decide)) (k_I ?_)
  refine (show X _ _ 53 _ _ _ _ _ _ from ?_)
  refine y_ifb_eq 60 dX6_seenKind_53 (by decide) (fun h4 => ?_) (fun h4 => ?_)
  · rw [if_neg (by rw [h4]; decide)]
    refine y_iconst dX6_seenKind_60 ?_
    refine (show X _ _ 61 _ _ _ _ _ _ from ?_)
    exact x_ireturn dX6_seenKind_61 rfl ⟨rfl, rfl⟩
  · rw [if_pos h4]
    refine y_iconst dX6_seenKind_56 ?_
    refine x_goto 61 dX6_seenKind_57 (by decide) ?_
    refine (show X _ _ 61 _ _ _ _ _ _ from ?_)
    exact x_ireturn dX6_seenKind_61 rfl ⟨rfl, rfl⟩
theorem q_seenSide (hS : DS T R rd tx) (hc : CU t V rd tx e i) (he : e ≤ 1100) (ht : ∀ j, j < 1100 → -128 ≤ t j ∧ t j ≤ 127) : X g mX6_seenSide 0 [.ref rd] [] (T, iV V, R, J, z) k n (rI (iI (sdOf t e i)) (T, iV V, R, J, z)) := by
  have hs := fun (j : Nat) (hj : j < 33) => q_sees (g := g) (J := J) (z := z) (k := 0) (n := 0) (j := j) hj hS hc he ht
  have s0 := hS.1
  unfold sdOf
  refine x_aload_n dX6_seenSide_0 rfl ?_
  refine x_ldcsw dX6_seenSide_1 sX6_262 ?_
  refine (show X _ _ 4 _ _ _ _ _ _ from ?_)
  refine x_callV (As := [_]) (mc := 0) (ms := 0) (z := mX6_sees) (ci := 6) dX6_seenSide_4 lX6_112 oX6_sees (by decide) (by first | assumption) rfl rfl (Nat.le_of_ble_eq_true rfl) (Nat.le_of_ble_eq_true rfl) rfl (hs 15 (by decide)) (k_I ?_)
  refine (show X _ _ 7 _ _ _ _ _ _ from ?_)
  refine y_ifb_eq 12 dX6_seenSide_7 (by decide) (fun h0 => ?_) (fun h0 => ?_)
  rotate_left
  · rw [if_pos h0]
    refine y_iconst dX6_seenSide_10 ?_
    refine (show X _ _ 11 _ _ _ _ _ _ from ?_)
    exact x_ireturn dX6_seenSide_11 rfl ⟨rfl, rfl⟩
  rw [if_neg (by rw [h0]; decide)]
  refine x_aload_n dX6_seenSide_12 rfl ?_
  refine x_ldcsw dX6_seenSide_13 sX6_264 ?_
  refine (show X _ _ 16 _ _ _ _ _ _ from ?_)
  refine x_callV (As := [_]) (mc := 0) (ms := 0) (z := mX6_sees) (ci := 6) dX6_seenSide_16 lX6_112 oX6_sees (by decide) (by first | assumption) rfl rfl (Nat.le_of_ble_eq_true rfl) (Nat.le_of_ble_eq_true rfl) rfl (hs 22 (by decide)) (k_I ?_)
  refine (show X _ _ 19 _ _ _ _ _ _ from ?_)
  refine y_ifb_eq 26 dX6_seenSide_19 (by decide) (fun h1 => ?_) (fun h1 => ?_)
  · rw [if_neg (by rw [h1]; decide)]
    refine y_iconst dX6_seenSide_26 ?_
    refine (show X _ _ 27 _ _ _ _ _ _ from ?_)
    exact x_ireturn dX6_seenSide_27 rfl ⟨rfl, rfl⟩
  · rw [if_pos h1]
    refine y_iconst dX6_seenSide_22 ?_
    refine x_goto 27 dX6_seenSide_23 (by decide) ?_
    refine (show X _ _ 27 _ _ _ _ _ _ from ?_)
    exact x_ireturn dX6_seenSide_27 rfl ⟨rfl, rfl⟩
theorem q_seenAge (hS : DS T R rd tx) (hc : CU t V rd tx e i) (he : e ≤ 1100) (ht : ∀ j, j < 1100 → -128 ≤ t j ∧ t j ≤ 127) : X g mX6_seenAge 0 [.ref rd] [] (T, iV V, R, J, z) k n (rI (iI (agOf t e i)) (T, iV V, R, J, z)) := by
  have hs := fun (j : Nat) (hj : j < 33) => q_sees (g := g) (J := J) (z := z) (k := 0) (n := 0) (j := j) hj hS hc he ht
  have s0 := hS.1
  unfold agOf
  refine x_aload_n dX6_seenAge_0 rfl ?_
  refine x_ldcsw dX6_seenAge_1 sX6_266 ?_
  refine (show X _ _ 4 _ _ _ _ _ _ from ?_)
  refine x_callV (As := [_]) (mc := 0) (ms := 0) (z := mX6_sees) (ci := 6) dX6_seenAge_4 lX6_112 oX6_sees (by decide) (by first | assumption) rfl rfl (Nat.le_of_ble_eq_true rfl) (Nat.le_of_ble_eq_true rfl) rfl (hs 0 (by decide)) (k_I ?_)
  refine (show X _ _ 7 _ _ _ _ _ _ from ?_)
  refine y_ifb_eq 12 dX6_seenAge_7 (by decide) (fun h0 => ?_) (fun h0 => ?_)
  rotate_left
  · rw [if_pos h0]
    refine y_iconst dX6_seenAge_10 ?_
    refine (show X _ _ 11 _ _ _ _ _ _ from ?_)
    exact x_ireturn dX6_seenAge_11 rfl ⟨rfl, rfl⟩
  rw [if_neg (by rw [h0]; decide)]
  refine x_aload_n dX6_seenAge_12 rfl ?_
  refine x_ldcsw dX6_seenAge_13 sX6_268 ?_
  refine (show X _ _ 16 _ _ _ _ _ _ from ?_)
  refine x_callV (As := [_]) (mc := 0) (ms := 0) (z := mX6_sees) (ci := 6) dX6_seenAge_16 lX6_112 oX6_sees (by decide) (by first | assumption) rfl rfl (Nat.le_of_ble_eq_true rfl) (Nat.le_of_ble_eq_true rfl) rfl (hs 1 (by decide)) (k_I ?_)
  refine (show X _ _ 19 _ _ _ _ _ _ from ?_)
  refine y_ifb_eq 26 dX6_seenAge_19 (by decide) (fun h1 => ?_) (fun h1 => ?_)
  · rw [if_neg (by rw [h1]; decide)]
    refine y_iconst dX6_seenAge_26 ?_
    refine (show X _ _ 27 _ _ _ _ _ _ from ?_)
    exact x_ireturn dX6_seenAge_27 rfl ⟨rfl, rfl⟩
  · rw [if_pos h1]
    refine y_iconst dX6_seenAge_22 ?_
    refine x_goto 27 dX6_seenAge_23 (by decide) ?_
    refine (show X _ _ 27 _ _ _ _ _ _ from ?_)
    exact x_ireturn dX6_seenAge_27 rfl ⟨rfl, rfl⟩
end C46
