/-! ===== blocks of cells; loops ===== -/
/-- the cells r .. r+m-1 hold W, all others V -/
def pB (V : Nat → Nat → Int) (r m : Nat) (W : Nat → Nat → Int) : Nat → Nat → Int := fun a => if r ≤ a ∧ a < r + m then W (a - r) else V a
section PB
variable {V W W' : Nat → Nat → Int} {r m a j i : Nat} {v : Int}
theorem pB_at (h : j < m) : pB V r m W (r + j) = W j := by
  rw [pB, if_pos (by omega), Nat.add_sub_cancel_left]
theorem pB_0 (h : 0 < m) : pB V r m W r = W 0 := pB_at (j := 0) h
theorem pB_out (h : a < r ∨ r + m ≤ a) : pB V r m W a = V a := if_neg (by omega)
theorem pB_u2 (h : j < m) : u2 (pB V r m W) (r + j) i v = pB V r m (u2 W j i v) := by
  funext b
  by_cases e : b = r + j
  · subst e
    rw [u2_s, pB_at h, pB_at h, u2_s]
  · rw [u2_n e]
    by_cases e2 : r ≤ b ∧ b < r + m
    · rw [pB, if_pos e2, pB, if_pos e2, u2_n (by omega)]
    · rw [pB, if_neg e2, pB, if_neg e2]
theorem pB_u20 (h : 0 < m) : u2 (pB V r m W) r i v = pB V r m (u2 W 0 i v) := pB_u2 (j := 0) h
theorem pB_uo (h : a < r ∨ r + m ≤ a) : u2 (pB V r m W) a i v = pB (u2 V a i v) r m W := by
  funext b
  by_cases e : b = a
  · subst e
    rw [u2_s, pB_out h, pB_out h, u2_s]
  · rw [u2_n e]
    by_cases e2 : r ≤ b ∧ b < r + m
    · rw [pB, if_pos e2, pB, if_pos e2]
    · rw [pB, if_neg e2, pB, if_neg e2, u2_n e]
theorem pB_self (h : ∀ j, j < m → V (r + j) = W j) : pB V r m W = V := by
  funext b
  by_cases e : r ≤ b ∧ b < r + m
  · rw [pB, if_pos e, ← h (b - r) (by omega), show r + (b - r) = b by omega]
  · rw [pB, if_neg e]
theorem pB_pB : pB (pB V r m W) r m W' = pB V r m W' := by
  funext b
  by_cases e : r ≤ b ∧ b < r + m
  · rw [pB, if_pos e, pB, if_pos e]
  · rw [pB, if_neg e, pB, if_neg e, pB, if_neg e]
theorem pB_sub {o m' : Nat} (h : o + m' ≤ m) : pB (pB V r m W) (r + o) m' W' = pB V r m (pB W o m' W') := by
  funext b
  by_cases e : r ≤ b ∧ b < r + m
  · by_cases e2 : r + o ≤ b ∧ b < r + o + m'
    · rw [pB, if_pos e2, pB, if_pos e, pB, if_pos (by omega)]
      congr 1
      omega
    · rw [pB, if_neg e2, pB, if_pos e, pB, if_pos e, pB, if_neg (by omega)]
  · rw [pB, if_neg (by omega), pB, if_neg e, pB, if_neg e]
theorem pB_ext (h : ∀ j, j < m → W j = W' j) : pB V r m W = pB V r m W' := by
  funext b
  by_cases e : r ≤ b ∧ b < r + m
  · rw [pB, if_pos e, pB, if_pos e, h _ (by omega)]
  · rw [pB, if_neg e, pB, if_neg e]
end PB
section YBl
variable {g : GG} {y : MD} {pc : Nat} {L L' S : List Value} {k n : Nat} {Q : Option Value → Mem → Prop} {T : Nat → Nat × Nat} {V W : Nat → Nat → Int} {R : Nat → Nat → Option Nat} {J : Nat → Nat → Int64} {sz r m : Nat}
theorem b_gi0 {i ci kf z : Nat} (hd : decode y.2.1 pc = .ok (.getfield i, 3)) (hF : GF y.1.cls i ci kf) (hT : T r = (10 + ci, z)) (hv : ∀ x q j, fvl (tyC ci kf) x q j = .int x) (hm : 0 < m) (kk : X g y (pc + 3) L (.int (iI (W 0 kf)) :: S) (T, iV (pB V r m W), R, J, sz) k n Q) : X g y pc L (.ref r :: S) (T, iV (pB V r m W), R, J, sz) k n Q := y_gi hd hF hT hv (by rw [pB_0 hm]; exact kk)
theorem b_gi {i ci kf z j : Nat} (hd : decode y.2.1 pc = .ok (.getfield i, 3)) (hF : GF y.1.cls i ci kf) (hT : T (r + j) = (10 + ci, z)) (hv : ∀ x q j, fvl (tyC ci kf) x q j = .int x) (hm : j < m) (kk : X g y (pc + 3) L (.int (iI (W j kf)) :: S) (T, iV (pB V r m W), R, J, sz) k n Q) : X g y pc L (.ref (r + j) :: S) (T, iV (pB V r m W), R, J, sz) k n Q := y_gi hd hF hT hv (by rw [pB_at hm]; exact kk)
theorem b_gio {i ci kf z a : Nat} (hd : decode y.2.1 pc = .ok (.getfield i, 3)) (hF : GF y.1.cls i ci kf) (hT : T a = (10 + ci, z)) (hv : ∀ x q j, fvl (tyC ci kf) x q j = .int x) (hm : a < r ∨ r + m ≤ a) (kk : X g y (pc + 3) L (.int (iI (V a kf)) :: S) (T, iV (pB V r m W), R, J, sz) k n Q) : X g y pc L (.ref a :: S) (T, iV (pB V r m W), R, J, sz) k n Q := y_gi hd hF hT hv (by rw [pB_out hm]; exact kk)
theorem b_pi0 {i ci kf z : Nat} {v : Int} (hd : decode y.2.1 pc = .ok (.putfield i, 3)) (hF : PF y i ci kf) (hT : T r = (10 + ci, z)) (hv : ∀ x q j, fvl (tyC ci kf) x q j = .int x) (hn : narrow (tyC ci kf) (.int (iI v)) = .int (iI v)) (hfit : fits (tyC ci kf) (.int (iI v)) = true) (hm : 0 < m) (kk : X g y (pc + 3) L S (T, iV (pB V r m (u2 W 0 kf v)), R, J, sz) k n Q) : X g y pc L (.int (iI v) :: .ref r :: S) (T, iV (pB V r m W), R, J, sz) k n Q := y_pi hd hF hT hv hn hfit (by rw [pB_u20 hm]; exact kk)
theorem b_pi {i ci kf z j : Nat} {v : Int} (hd : decode y.2.1 pc = .ok (.putfield i, 3)) (hF : PF y i ci kf) (hT : T (r + j) = (10 + ci, z)) (hv : ∀ x q j, fvl (tyC ci kf) x q j = .int x) (hn : narrow (tyC ci kf) (.int (iI v)) = .int (iI v)) (hfit : fits (tyC ci kf) (.int (iI v)) = true) (hm : j < m) (kk : X g y (pc + 3) L S (T, iV (pB V r m (u2 W j kf v)), R, J, sz) k n Q) : X g y pc L (.int (iI v) :: .ref (r + j) :: S) (T, iV (pB V r m W), R, J, sz) k n Q := y_pi hd hF hT hv hn hfit (by rw [pB_u2 hm]; exact kk)
theorem b_iald {N j : Nat} {x : Int} (p : Nat) (hd : decode y.2.1 pc = .ok (.iaload, 1)) (hT : T (r + j) = (1, N)) (hx : x = (p : Int)) (hp : p < N) (hN : N < 2 ^ 31) (hm : j < m) (kk : X g y (pc + 1) L (.int (iI (W j p)) :: S) (T, iV (pB V r m W), R, J, sz) k n Q) : X g y pc L (.int (iI x) :: .ref (r + j) :: S) (T, iV (pB V r m W), R, J, sz) k n Q := y_iald p hd hT hx hp hN (by rw [pB_at hm]; exact kk)
theorem b_ialo {N a : Nat} {x : Int} (p : Nat) (hd : decode y.2.1 pc = .ok (.iaload, 1)) (hT : T a = (1, N)) (hx : x = (p : Int)) (hp : p < N) (hN : N < 2 ^ 31) (hm : a < r ∨ r + m ≤ a) (kk : X g y (pc + 1) L (.int (iI (V a p)) :: S) (T, iV (pB V r m W), R, J, sz) k n Q) : X g y pc L (.int (iI x) :: .ref a :: S) (T, iV (pB V r m W), R, J, sz) k n Q := y_iald p hd hT hx hp hN (by rw [pB_out hm]; exact kk)
theorem b_iast {N j : Nat} {x v : Int} (p : Nat) (hd : decode y.2.1 pc = .ok (.iastore, 1)) (hT : T (r + j) = (1, N)) (hx : x = (p : Int)) (hp : p < N) (hN : N < 2 ^ 31) (hm : j < m) (kk : X g y (pc + 1) L S (T, iV (pB V r m (u2 W j p v)), R, J, sz) k n Q) : X g y pc L (.int (iI v) :: .int (iI x) :: .ref (r + j) :: S) (T, iV (pB V r m W), R, J, sz) k n Q := y_iast p hd hT hx hp hN (by rw [pB_u2 hm]; exact kk)
/-- a value under another name -/
theorem X.val {a b : Int} (h : a = b) (kk : X g y pc L (.int (iI b) :: S) (T, iV V, R, J, sz) k n Q) : X g y pc L (.int (iI a) :: S) (T, iV V, R, J, sz) k n Q := by rw [h]; exact kk
theorem X.pic {V' : Nat → Nat → Int} (h : V = V') (kk : X g y pc L S (T, iV V', R, J, sz) k n Q) : X g y pc L S (T, iV V, R, J, sz) k n Q := by rw [h]; exact kk
end YBl
/-- from the last turn of a loop back to its first -/
theorem loopN {P : Nat → Prop} (N : Nat) (hx : P N) (hs : ∀ p, p < N → P (p + 1) → P p) : P 0 := by
  have h : ∀ d, d ≤ N → P (N - d) := by
    intro d
    induction d with
    | zero => exact fun _ => hx
    | succ d ih =>
      intro hd
      have := ih (by omega)
      have e : N - d = N - (d + 1) + 1 := by omega
      rw [e] at this
      exact hs _ (by omega) this
  have := h N (Nat.le_refl _)
  rwa [Nat.sub_self] at this
theorem loopF {P : Nat → Prop} (a N : Nat) (ha : a ≤ N) (hx : P N) (hs : ∀ p, a ≤ p → p < N → P (p + 1) → P p) : P a := by
  have h := loopN (P := fun i => P (a + i)) (N - a) (by show P (a + (N - a)); rw [show a + (N - a) = N by omega]; exact hx) (fun i hi h => hs (a + i) (by omega) (by omega) h)
  exact h
/-- f for 0, 1, .. n-1, one behind the other -/
def lp {σ : Type} (n : Nat) (f : Nat → σ → σ) (s : σ) : σ := match n with
  | 0 => s
  | i + 1 => f i (lp i f s)
theorem lp_0 {σ : Type} (f : Nat → σ → σ) (s : σ) : lp 0 f s = s := rfl
theorem lp_s {σ : Type} (n : Nat) (f : Nat → σ → σ) (s : σ) : lp (n + 1) f s = f n (lp n f s) := rfl
/-- the set of those below n of which f holds -/
def sOf (n : Nat) (f : Nat → Bool) : Nat := lp n (fun p s => if f p then s ||| 2 ^ p else s) 0
theorem sOf_lt (f : Nat → Bool) : ∀ n, sOf n f < 2 ^ n
  | 0 => by show 0 < 1; decide
  | n + 1 => by
    have h := sOf_lt f n
    show (if f n then sOf n f ||| 2 ^ n else sOf n f) < _
    split
    · exact Nat.or_lt_two_pow (Nat.lt_trans h (Nat.pow_lt_pow_right (by decide) (by omega))) (Nat.pow_lt_pow_right (by decide) (by omega))
    · exact Nat.lt_trans h (Nat.pow_lt_pow_right (by decide) (by omega))
theorem sOf_bit (f : Nat → Bool) (i : Nat) : ∀ n, (sOf n f).testBit i = (decide (i < n) && f i)
  | 0 => by simp [sOf, lp]
  | n + 1 => by
    have h := sOf_bit f i n
    show (if f n then sOf n f ||| 2 ^ n else sOf n f).testBit i = _
    by_cases e : i = n
    · subst e
      by_cases hf : f i = true
      · rw [if_pos hf, Nat.testBit_or, Nat.testBit_two_pow_self, hf]
        simp
      · rw [if_neg hf, h]
        simp [hf]
    · have e2 : (decide (i < n + 1)) = decide (i < n) := by
        by_cases q : i < n
        · simp [q, Nat.lt_succ_of_lt q]
        · simp [q, show ¬ i < n + 1 by omega]
      rw [e2]
      split
      · rw [Nat.testBit_or, h, Nat.testBit_two_pow_of_ne (by omega)]
        simp
      · exact h
