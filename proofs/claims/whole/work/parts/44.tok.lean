/-! ===== tokens as whole numbers: what stands at a place of the text ===== -/
section Tok
variable (t : Nat → Int) (e i : Nat)
/-- where the token begins that is read from i on; behind its letters; behind its digits -/
def tkS : Nat := eor t 32 32 (e - i) i
def tkL : Nat := eor t 97 122 (e - tkS t e i) (tkS t e i)
def tkD : Nat := eor t 48 57 (e - tkS t e i) (tkS t e i)
/-- its kind: 0 the end, 1 a word, 2 a whole number, 3 a semicolon, 4 none -/
def tkK : Int := if e ≤ tkS t e i then 0 else if tkS t e i < tkL t e i then (if tkL t e i - tkS t e i ≤ 8 then 1 else 4) else if tkS t e i < tkD t e i then (if tkD t e i - tkS t e i ≤ 3 then 2 else 4) else if t (tkS t e i) = 59 then 3 else 4
/-- what is read next from there -/
def tkN : Nat := if e ≤ tkS t e i then tkS t e i else if tkS t e i < tkL t e i then tkL t e i else if tkS t e i < tkD t e i then tkD t e i else tkS t e i + 1
end Tok
/-- d letters from j on as a number -/
def wk (t : Nat → Int) : Nat → Nat → Int → Int
  | 0, _, v => v
  | d + 1, j, v => wk t d (j + 1) (32 * v + (t j - 96))
/-- a word's number, a whole's value -/
def tkX (t : Nat → Int) (e i : Nat) : Int := if tkK t e i = 1 then wk t (tkL t e i - tkS t e i) (tkS t e i) 0 else whS t (tkD t e i - tkS t e i) (tkS t e i) 0
/-- the number of the j-th literal -/
def ky (j : Nat) : Int := wk (wdOf j) (lenStr.getD j 0) 0 0
/-- whether the j-th literal stands there -/
def sw (t : Nat → Int) (e i j : Nat) : Bool := decide (tkK t e i = 1 ∧ tkX t e i = ky j)
theorem eor_run (t : Nat → Int) (lo hi : Int) : ∀ d i j, i ≤ j → j < eor t lo hi d i → lo ≤ t j ∧ t j ≤ hi
  | 0, i, j, h1, h2 => by rw [eor] at h2; omega
  | d + 1, i, j, h1, h2 => by
    rw [eor] at h2
    split at h2
    · rename_i h
      by_cases e : j = i
      · rw [e]; exact h
      · exact eor_run t lo hi d (i + 1) j (by omega) h2
    · omega
theorem tk_b (t : Nat → Int) {e i : Nat} (hi : i ≤ e) : i ≤ tkS t e i ∧ tkS t e i ≤ e ∧ tkS t e i ≤ tkL t e i ∧ tkL t e i ≤ e ∧ tkS t e i ≤ tkD t e i ∧ tkD t e i ≤ e ∧ tkS t e i ≤ tkN t e i ∧ tkN t e i ≤ e := by
  have h0 := eor_b t 32 32 (e - i) i
  have h1 := eor_b t 97 122 (e - tkS t e i) (tkS t e i)
  have h2 := eor_b t 48 57 (e - tkS t e i) (tkS t e i)
  rw [show eor t 32 32 (e - i) i = tkS t e i from rfl] at h0
  rw [show eor t 97 122 (e - tkS t e i) (tkS t e i) = tkL t e i from rfl] at h1
  rw [show eor t 48 57 (e - tkS t e i) (tkS t e i) = tkD t e i from rfl] at h2
  unfold tkN
  refine ⟨by omega, by omega, by omega, by omega, by omega, by omega, ?_, ?_⟩ <;> (repeat' split) <;> omega
theorem tkK_b (t : Nat → Int) (e i : Nat) : 0 ≤ tkK t e i ∧ tkK t e i ≤ 4 := by
  unfold tkK
  constructor <;> (repeat' split) <;> omega
/-- a word: its letters, its length, what is behind it -/
theorem tk_word {t : Nat → Int} {e i : Nat} (hk : tkK t e i = 1) : tkS t e i < tkL t e i ∧ tkL t e i - tkS t e i ≤ 8 ∧ tkN t e i = tkL t e i ∧ tkS t e i < e ∧ ∀ j, tkS t e i ≤ j → j < tkL t e i → 97 ≤ t j ∧ t j ≤ 122 := by
  have hr : ∀ j, tkS t e i ≤ j → j < tkL t e i → 97 ≤ t j ∧ t j ≤ 122 := fun j a b => eor_run t 97 122 _ _ j a b
  unfold tkK at hk
  unfold tkN
  split at hk
  · omega
  · rename_i h1
    split at hk
    · rename_i h2
      split at hk
      · rename_i h3
        exact ⟨h2, h3, by rw [if_neg h1, if_pos h2], by omega, hr⟩
      · omega
    · (repeat' split at hk) <;> omega
theorem tk_whole {t : Nat → Int} {e i : Nat} (hk : tkK t e i = 2) : tkS t e i < tkD t e i ∧ tkD t e i - tkS t e i ≤ 3 ∧ ∀ j, tkS t e i ≤ j → j < tkD t e i → 48 ≤ t j ∧ t j ≤ 57 := by
  have hr : ∀ j, tkS t e i ≤ j → j < tkD t e i → 48 ≤ t j ∧ t j ≤ 57 := fun j a b => eor_run t 48 57 _ _ j a b
  unfold tkK at hk
  split at hk
  · omega
  · split at hk
    · split at hk <;> omega
    · split at hk
      · rename_i h2
        split at hk
        · rename_i h3
          exact ⟨h2, h3, hr⟩
        · omega
      · split at hk <;> omega
theorem whS_3 {t : Nat → Int} {d s : Nat} (h1 : 1 ≤ d) (h3 : d ≤ 3) (hr : ∀ j, s ≤ j → j < s + d → 48 ≤ t j ∧ t j ≤ 57) : 0 ≤ whS t d s 0 ∧ whS t d s 0 ≤ 999 := by
  have a0 := hr s (by omega) (by omega)
  rcases (by omega : d = 1 ∨ d = 2 ∨ d = 3) with rfl | rfl | rfl
  · simp only [whS]; omega
  · have a1 := hr (s + 1) (by omega) (by omega)
    simp only [whS]; omega
  · have a1 := hr (s + 1) (by omega) (by omega)
    have a2 := hr (s + 1 + 1) (by omega) (by omega)
    simp only [whS]; omega
theorem tkX_whole {t : Nat → Int} {e i : Nat} (hk : tkK t e i = 2) : tkX t e i = whS t (tkD t e i - tkS t e i) (tkS t e i) 0 ∧ 0 ≤ tkX t e i ∧ tkX t e i ≤ 999 := by
  have h := tk_whole hk
  have e1 : tkX t e i = whS t (tkD t e i - tkS t e i) (tkS t e i) 0 := by unfold tkX; rw [if_neg (by omega)]
  rw [e1]
  exact ⟨rfl, whS_3 (by omega) h.2.1 (fun j a b => h.2.2 j a (by omega))⟩
/-- letters are told apart by their number -/
theorem wk_v (t : Nat → Int) : ∀ d j v, wk t d j v = v * 32 ^ d + wk t d j 0
  | 0, j, v => by simp [wk]
  | d + 1, j, v => by
    rw [wk, wk, wk_v t d, wk_v t d (j + 1) (32 * 0 + (t j - 96)), Int.pow_succ, Int.mul_comm (32 ^ d) 32, ← Int.mul_assoc, Int.add_mul, Int.mul_comm 32 v, show (32 * 0 + (t j - 96) : Int) = t j - 96 by omega]
    omega
theorem wk_b (t : Nat → Int) : ∀ d j, (∀ q, j ≤ q → q < j + d → 97 ≤ t q ∧ t q ≤ 122) → 0 ≤ wk t d j 0 ∧ wk t d j 0 < 32 ^ d
  | 0, j, _ => by simp [wk]
  | d + 1, j, h => by
    have h0 := h j (by omega) (by omega)
    have h1 := wk_b t d (j + 1) (fun q a b => h q (by omega) (by omega))
    rw [wk, wk_v, Int.pow_succ]
    have hp : (0 : Int) < 32 ^ d := Int.pow_pos (by decide)
    generalize (32 : Int) ^ d = P at *
    have e1 : (32 * 0 + (t j - 96)) * P ≤ 26 * P := Int.mul_le_mul_of_nonneg_right (by omega) (by omega)
    have e2 : 0 ≤ (32 * 0 + (t j - 96)) * P := Int.mul_nonneg (by omega) (by omega)
    constructor <;> omega
theorem wk_lo (t : Nat → Int) {d j : Nat} (h : ∀ q, j ≤ q → q < j + (d + 1) → 97 ≤ t q ∧ t q ≤ 122) : 32 ^ d ≤ wk t (d + 1) j 0 := by
  have h0 := h j (by omega) (by omega)
  have h1 := wk_b t d (j + 1) (fun q a b => h q (by omega) (by omega))
  rw [wk, wk_v]
  have hp : (0 : Int) < 32 ^ d := Int.pow_pos (by decide)
  generalize (32 : Int) ^ d = P at *
  have e1 : 1 * P ≤ (32 * 0 + (t j - 96)) * P := Int.mul_le_mul_of_nonneg_right (by omega) (by omega)
  omega
theorem wk_lt (t s : Nat → Int) {d c j i : Nat} (hdc : d < c) (h : ∀ q, j ≤ q → q < j + d → 97 ≤ t q ∧ t q ≤ 122) (h' : ∀ q, i ≤ q → q < i + c → 97 ≤ s q ∧ s q ≤ 122) : wk t d j 0 < wk s c i 0 := by
  obtain ⟨c, rfl⟩ : ∃ c', c = c' + 1 := ⟨c - 1, by omega⟩
  have h1 := (wk_b t d j h).2
  have h2 := wk_lo s h'
  have h3 : (32 : Int) ^ d ≤ 32 ^ c := by
    obtain ⟨x, rfl⟩ : ∃ x, c = d + x := ⟨c - d, by omega⟩
    rw [Int.pow_add]
    have : (1 : Int) * 32 ^ d ≤ 32 ^ x * 32 ^ d := Int.mul_le_mul_of_nonneg_right (by have := Int.pow_pos (n := 32) (m := x) (by decide); omega) (by have := Int.pow_pos (n := 32) (m := d) (by decide); omega)
    rw [Int.mul_comm (32 ^ d)]
    omega
  omega
theorem wk_eq (t s : Nat → Int) : ∀ d j i v w, (∀ q, q < d → 97 ≤ t (j + q) ∧ t (j + q) ≤ 122) → (∀ q, q < d → 97 ≤ s (i + q) ∧ s (i + q) ≤ 122) → (wk t d j v = wk s d i w ↔ v = w ∧ ∀ q, q < d → t (j + q) = s (i + q))
  | 0, j, i, v, w, _, _ => by simp [wk]
  | d + 1, j, i, v, w, h, h' => by
    have a := h 0 (by omega)
    have b := h' 0 (by omega)
    rw [Nat.add_zero] at a b
    rw [wk, wk, wk_eq t s d (j + 1) (i + 1) _ _ (fun q hq => by have := h (q + 1) (by omega); rwa [show j + (q + 1) = j + 1 + q by omega] at this) (fun q hq => by have := h' (q + 1) (by omega); rwa [show i + (q + 1) = i + 1 + q by omega] at this)]
    constructor
    · rintro ⟨h1, h2⟩
      refine ⟨by omega, fun q hq => ?_⟩
      rcases Nat.eq_zero_or_pos q with rfl | hp
      · rw [Nat.add_zero, Nat.add_zero]; omega
      · have := h2 (q - 1) (by omega)
        rwa [show j + 1 + (q - 1) = j + q by omega, show i + 1 + (q - 1) = i + q by omega] at this
    · rintro ⟨h1, h2⟩
      have h0 := h2 0 (by omega)
      rw [Nat.add_zero, Nat.add_zero] at h0
      refine ⟨by omega, fun q hq => ?_⟩
      have := h2 (q + 1) (by omega)
      rwa [show j + (q + 1) = j + 1 + q by omega, show i + (q + 1) = i + 1 + q by omega] at this
theorem stA_iff (t : Nat → Int) : ∀ d a b, stA t d a b = true ↔ ∀ q, q < d → t (a + q) = t (b + q)
  | 0, a, b => by simp [stA]
  | d + 1, a, b => by
    rw [stA]
    split
    · rename_i h
      rw [stA_iff t d (a + 1) (b + 1)]
      constructor
      · intro k q hq
        rcases Nat.eq_zero_or_pos q with rfl | hp
        · exact h
        · have := k (q - 1) (by omega)
          rwa [show a + 1 + (q - 1) = a + q by omega, show b + 1 + (q - 1) = b + q by omega] at this
      · intro k q hq
        have := k (q + 1) (by omega)
        rwa [show a + (q + 1) = a + 1 + q by omega, show b + (q + 1) = b + 1 + q by omega] at this
    · rename_i h
      constructor
      · intro k; cases k
      · intro k; exact absurd (k 0 (by omega)) h
theorem swF_iff (t wd : Nat → Int) : ∀ d a p, swF t wd d a p = true ↔ ∀ q, q < d → t (a + q) = wd (p + q)
  | 0, a, b => by simp [swF]
  | d + 1, a, b => by
    rw [swF]
    split
    · rename_i h
      rw [swF_iff t wd d (a + 1) (b + 1)]
      constructor
      · intro k q hq
        rcases Nat.eq_zero_or_pos q with rfl | hp
        · exact h
        · have := k (q - 1) (by omega)
          rwa [show a + 1 + (q - 1) = a + q by omega, show b + 1 + (q - 1) = b + q by omega] at this
      · intro k q hq
        have := k (q + 1) (by omega)
        rwa [show a + (q + 1) = a + 1 + q by omega, show b + (q + 1) = b + 1 + q by omega] at this
    · rename_i h
      constructor
      · intro k; cases k
      · intro k; exact absurd (k 0 (by omega)) h
theorem lit_az : ∀ j, j < 33 → ∀ p, p < lenStr.getD j 0 → 97 ≤ wdOf j p ∧ wdOf j p ≤ 122 := by decide +kernel
/-- words of the same number -/
theorem wk_same (t s : Nat → Int) {d c j i : Nat} (h : ∀ q, j ≤ q → q < j + d → 97 ≤ t q ∧ t q ≤ 122) (h' : ∀ q, i ≤ q → q < i + c → 97 ≤ s q ∧ s q ≤ 122) : wk t d j 0 = wk s c i 0 ↔ d = c ∧ ∀ q, q < d → t (j + q) = s (i + q) := by
  constructor
  · intro k
    rcases Nat.lt_trichotomy d c with a | a | a
    · have := wk_lt t s a h h'; omega
    · subst a
      exact ⟨rfl, ((wk_eq t s d j i 0 0 (fun q hq => h _ (by omega) (by omega)) (fun q hq => h' _ (by omega) (by omega))).mp k).2⟩
    · have := wk_lt s t a h' h; omega
  · rintro ⟨rfl, k⟩
    exact (wk_eq t s d j i 0 0 (fun q hq => h _ (by omega) (by omega)) (fun q hq => h' _ (by omega) (by omega))).mpr ⟨rfl, k⟩
