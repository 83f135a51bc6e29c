/-! ===== a search by wishes, as such ===== -/
def fr {σ : Type} : Nat → Nat → (Nat → σ → σ) → σ → σ
  | 0, _, _, s => s
  | n + 1, a, f, s => fr n (a + 1) f (f a s)
theorem fr_id {σ : Type} {f : Nat → σ → σ} {s : σ} (h : ∀ q, f q s = s) : ∀ n a, fr n a f s = s
  | 0, _ => rfl
  | n + 1, a => by rw [fr, h, fr_id h n]
theorem fr_lp {σ : Type} {f : Nat → σ → σ} : ∀ n a s, fr (n + 1) a f s = f (a + n) (fr n a f s)
  | 0, _, _ => rfl
  | n + 1, a, s => by
    rw [fr, fr_lp n (a + 1) (f a s), show a + 1 + n = a + (n + 1) by omega]
    rfl
theorem fr_lp0 {σ : Type} {f : Nat → σ → σ} (s : σ) : ∀ n, fr n 0 f s = lp n f s
  | 0 => rfl
  | n + 1 => by rw [fr_lp, fr_lp0 s n, lp_s, Nat.zero_add]
theorem fr_c {σ : Type} {f h : Nat → σ → σ} (e : ∀ q s, f q s = h q s) : ∀ n a s, fr n a f s = fr n a h s
  | 0, _, _ => rfl
  | n + 1, a, s => by rw [fr, fr, e, fr_c e n]
abbrev Sr (S D : Type) : Type := Nat × (S → Nat → Int → Bool) × (S → Nat → Int → S) × (S → Nat → D → D) × (S → D → D) × (S → D → Bool)
section Sr
variable {S D : Type} (G : Sr S D)
abbrev sP : Nat := G.1
abbrev sO : S → Nat → Int → Bool := G.2.1
abbrev sX : S → Nat → Int → S := G.2.2.1
abbrev sE : S → Nat → D → D := G.2.2.2.1
abbrev sL : S → D → D := G.2.2.2.2.1
abbrev sCt : S → D → Bool := G.2.2.2.2.2
def fuS : Nat → Nat → S → D → D
  | 0, _, s, x => sL G s x
  | d + 1, y, s, x => fr (sP G) 0 (fun q x => if sO G s y (q : Int) = true then fuS d (y + 1) (sX G s y (q : Int)) (sE G (sX G s y (q : Int)) y x) else x) x
def fcS (d y : Nat) (s : S) (q : Nat) (x : D) : D := if sO G s y (q : Int) = true then fuS G d (y + 1) (sX G s y (q : Int)) (sE G (sX G s y (q : Int)) y x) else x
def reS : Nat → Nat → S → (Nat → Int) → D → D
  | 0, _, s, _, x => sL G s x
  | d + 1, y, s, w, x => fr (sP G - ((w y).toNat + 1)) ((w y).toNat + 1) (fcS G d y s) (if sO G s y (w y) = true then reS d (y + 1) (sX G s y (w y)) w (sE G (sX G s y (w y)) y x) else x)
def rsS : Nat → Nat → S → Nat → (Nat → Int) → D → D
  | 0, _, _, _, _, x => x
  | d + 1, y, s, i, w, x => fr (sP G - ((w y).toNat + 1)) ((w y).toNat + 1) (fcS G d y s) (if i = y then x else if sO G s y (w y) = true then rsS d (y + 1) (sX G s y (w y)) i w x else x)
def tyS (m : Nat) : Nat → Nat → S → (Nat → Int) → D → Nat × D
  | 0, _, s, _, x => (m - 1, sL G s x)
  | d + 1, y, s, w, x => if sO G s y (w y) = true then (if sCt G (sX G s y (w y)) (sE G (sX G s y (w y)) y x) = true then (y, sE G (sX G s y (w y)) y x) else tyS m d (y + 1) (sX G s y (w y)) w (sE G (sX G s y (w y)) y x)) else (y, x)
def snS : Nat → Nat → S → Nat → (Nat → Int) → D → Prop
  | 0, _, _, _, _, _ => True
  | d + 1, y, s, k, w, x => k = y ∨ (sE G (sX G s y (w y)) y x = x ∧ snS d (y + 1) (sX G s y (w y)) k w x)
/-- what a search must keep -/
def SrOk : Prop := 1 ≤ sP G ∧ (∀ d y s w x, sCt G s x = true → reS G d y s w x = x) ∧ (∀ t y s y' x, sE G t y (sE G s y' x) = sE G s y' (sE G t y x)) ∧ (∀ t y x, sE G t y (sE G t y x) = sE G t y x) ∧ (∀ t y s x, sE G t y (sL G s x) = sL G s (sE G t y x)) ∧ (∀ t y s x, sCt G s (sE G t y x) = sCt G s x)
end Sr
section Sr2
variable {S D : Type} {G : Sr S D}
theorem fuS_s (d y : Nat) (s : S) (x : D) : fuS G (d + 1) y s x = fr (sP G) 0 (fcS G d y s) x := rfl
theorem tyS_ge {m : Nat} {w : Nat → Int} : ∀ (d y : Nat) (s : S) (x : D), y + d = m → 1 ≤ d → y ≤ (tyS G m d y s w x).1 ∧ (tyS G m d y s w x).1 < m
  | 0, _, _, _, _, h => absurd h (by decide)
  | d + 1, y, s, x, hm, _ => by
    rw [tyS]
    split
    · split
      · exact ⟨Nat.le_refl _, by show y < m; omega⟩
      · by_cases hd : d = 0
        · subst hd
          exact ⟨by show y ≤ m - 1; omega, by show m - 1 < m; omega⟩
        · have := tyS_ge (m := m) (w := w) d (y + 1) (sX G s y (w y)) (sE G (sX G s y (w y)) y x) (by omega) (by omega)
          omega
    · exact ⟨Nat.le_refl _, by show y < m; omega⟩
/-- one try, and what remains behind it -/
theorem reS_try (hG : SrOk G) {m : Nat} {w : Nat → Int} : ∀ (d y : Nat) (s : S) (x : D), y + d = m → reS G d y s w x = rsS G d y s (tyS G m d y s w x).1 w (tyS G m d y s w x).2
  | 0, _, _, _, _ => rfl
  | d + 1, y, s, x, hm => by
    rw [reS, tyS]
    by_cases h1 : sO G s y (w y) = true
    · rw [if_pos h1, if_pos h1]
      by_cases h2 : sCt G (sX G s y (w y)) (sE G (sX G s y (w y)) y x) = true
      · rw [if_pos h2, hG.2.1 _ _ _ _ _ h2]
        show _ = rsS G (d + 1) y s y w _
        rw [rsS, if_pos rfl]
      · rw [if_neg h2, reS_try hG (m := m) (w := w) d (y + 1) (sX G s y (w y)) _ (by omega)]
        by_cases hd : d = 0
        · subst hd
          rw [show (tyS G m 0 (y + 1) (sX G s y (w y)) w (sE G (sX G s y (w y)) y x)).1 = y by show m - 1 = y; omega]
          rw [rsS, rsS, if_pos rfl]
        · have hge := tyS_ge (G := G) (m := m) (w := w) d (y + 1) (sX G s y (w y)) (sE G (sX G s y (w y)) y x) (show y + 1 + d = m by omega) (by omega)
          rw [rsS, if_neg (by omega), if_pos h1]
    · rw [if_neg h1, if_neg h1]
      show _ = rsS G (d + 1) y s y w _
      rw [rsS, if_pos rfl]
theorem tyS_en (hG : SrOk G) {m : Nat} {w : Nat → Int} {t : S} {y1 : Nat} : ∀ (d y : Nat) (s : S) (x : D), (tyS G m d y s w (sE G t y1 x)).2 = sE G t y1 (tyS G m d y s w x).2
  | 0, y, s, x => (hG.2.2.2.2.1 t y1 s x).symm
  | d + 1, y, s, x => by
    rw [tyS, tyS, ← hG.2.2.1 t y1, hG.2.2.2.2.2]
    split
    · split
      · rfl
      · exact tyS_en hG d (y + 1) _ _
    · rfl
theorem snS_try (hG : SrOk G) {m : Nat} {w : Nat → Int} : ∀ (d y : Nat) (s : S) (x : D), snS G d y s (tyS G m d y s w x).1 w (tyS G m d y s w x).2
  | 0, _, _, _ => trivial
  | d + 1, y, s, x => by
    rw [tyS]
    split
    · split
      · exact Or.inl rfl
      · refine Or.inr ⟨?_, snS_try hG d (y + 1) _ _⟩
        rw [tyS_en hG, hG.2.2.2.1]
    · exact Or.inl rfl
theorem snS_le {w : Nat → Int} {i k : Nat} (hk : k ≤ i) : ∀ (d y : Nat) (s : S) (x : D), y ≤ k → snS G d y s i w x → snS G d y s k w x
  | 0, _, _, _, _, _ => trivial
  | d + 1, y, s, x, hy, h => by
    by_cases e : k = y
    · exact Or.inl e
    · rcases h with h | ⟨h1, h2⟩
      · omega
      · exact Or.inr ⟨h1, snS_le hk d (y + 1) _ x (by omega) h2⟩
theorem reS_0 (hG : SrOk G) {w : Nat → Int} : ∀ (d y : Nat) (s : S) (x : D), (∀ j, y ≤ j → j < y + d → w j = 0) → reS G d y s w x = fuS G d y s x
  | 0, _, _, _, _ => rfl
  | d + 1, y, s, x, h => by
    have e : sP G = (sP G - 1) + 1 := by have := hG.1; omega
    rw [fuS_s, e, fr, reS, h y (by omega) (by omega), reS_0 hG d (y + 1) _ _ (fun j h1 h2 => h j (by omega) (by omega))]
    rfl
/-- no carry: what remains is what the next wishes go on with -/
theorem rsS_next (hG : SrOk G) {w w' : Nat → Int} {k m : Nat} (h0 : 0 ≤ w k) (h1 : w k + 1 < (sP G : Int)) (e1 : ∀ j, j < k → w' j = w j) (e2 : w' k = w k + 1) (e3 : ∀ j, k < j → j < m → w' j = 0) : ∀ (d y : Nat) (s : S) (x : D), y + d = m → y ≤ k → k < m → snS G d y s k w x → rsS G d y s k w x = reS G d y s w' x
  | 0, y, s, x, hm, hy, hk, _ => by omega
  | d + 1, y, s, x, hm, hy, hk, hs => by
    rw [rsS, reS]
    by_cases e : k = y
    · subst e
      rw [if_pos rfl, e2]
      have en : ((w k).toNat + 1 : Nat) = (w k + 1).toNat := by omega
      have ei : (((w k + 1).toNat : Nat) : Int) = w k + 1 := by omega
      rw [en, show sP G - (w k + 1).toNat = (sP G - ((w k + 1).toNat + 1)) + 1 by omega, fr]
      congr 1
      unfold fcS
      rw [ei, reS_0 hG d (k + 1) _ _ (fun j h1 h2 => e3 j (by omega) (by omega))]
    · rw [if_neg e, e1 y (by omega)]
      rcases hs with h | ⟨s1, s2⟩
      · exact absurd h e
      · rw [s1, rsS_next hG h0 h1 e1 e2 e3 d (y + 1) _ x (by omega) (by omega) hk s2]
theorem rsS_carry {w : Nat → Int} {i : Nat} (h1 : (sP G : Int) ≤ w (i + 1) + 1) : ∀ (d y : Nat) (s : S) (x : D), y ≤ i → i + 1 < y + d → rsS G d y s (i + 1) w x = rsS G d y s i w x
  | 0, y, s, x, hy, hd => by omega
  | d + 1, y, s, x, hy, hd => by
    rw [rsS, rsS, if_neg (by omega)]
    by_cases e : i = y
    · subst e
      rw [if_pos rfl]
      congr 1
      have : rsS G d (i + 1) (sX G s i (w i)) (i + 1) w x = x := by
        cases d with
        | zero => rfl
        | succ d =>
          rw [rsS, if_pos rfl, show sP G - ((w (i + 1)).toNat + 1) = 0 by omega]
          rfl
      rw [this]
      split <;> rfl
    · rw [if_neg e, rsS_carry h1 d (y + 1) _ x (by omega) (by omega)]
theorem rsS_down {w : Nat → Int} {k : Nat} {m : Nat} {s : S} {x : D} : ∀ c, k + c < m → (∀ j, k < j → j ≤ k + c → (sP G : Int) ≤ w j + 1) → rsS G m 0 s (k + c) w x = rsS G m 0 s k w x
  | 0, _, _ => rfl
  | c + 1, hc, h => by
    rw [show k + (c + 1) = (k + c) + 1 by omega, rsS_carry (h _ (by omega) (by omega)) m 0 s x (by omega) (by omega)]
    exact rsS_down c (by omega) (fun j h1 h2 => h j h1 (by omega))
theorem reS_T (hG : SrOk G) {m : Nat} {w w' : Nat → Int} {k : Nat} {s : S} {x : D} (hm : 1 ≤ m) (hk : k ≤ (tyS G m m 0 s w x).1) (h0 : 0 ≤ w k) (h1 : w k + 1 < (sP G : Int)) (hc : ∀ j, k < j → j ≤ (tyS G m m 0 s w x).1 → (sP G : Int) ≤ w j + 1) (e1 : ∀ j, j < k → w' j = w j) (e2 : w' k = w k + 1) (e3 : ∀ j, k < j → j < m → w' j = 0) : reS G m 0 s w x = reS G m 0 s w' (tyS G m m 0 s w x).2 := by
  have hge := tyS_ge (G := G) (m := m) (w := w) m 0 s x (by omega) hm
  rw [reS_try hG (m := m) (w := w) m 0 s x (by omega)]
  have hs := snS_le hk m 0 s _ (by omega) (snS_try hG (m := m) (w := w) m 0 s x)
  generalize tyS G m m 0 s w x = t at *
  rw [show t.1 = k + (t.1 - k) by omega, rsS_down (t.1 - k) (by omega) (fun j q1 q2 => hc j q1 (by omega))]
  exact rsS_next hG h0 h1 e1 e2 e3 m 0 s _ (by omega) (by omega) (by omega) hs
theorem reS_F (hG : SrOk G) {m : Nat} {w : Nat → Int} {s : S} {x : D} (hm : 1 ≤ m) (hc : ∀ j, j ≤ (tyS G m m 0 s w x).1 → (sP G : Int) ≤ w j + 1) : reS G m 0 s w x = (tyS G m m 0 s w x).2 := by
  have hge := tyS_ge (G := G) (m := m) (w := w) m 0 s x (by omega) hm
  rw [reS_try hG (m := m) (w := w) m 0 s x (by omega)]
  generalize tyS G m m 0 s w x = t at *
  have e := rsS_down (G := G) (w := w) (k := 0) (m := m) (s := s) (x := t.2) t.1 (by omega) (fun j q1 q2 => hc j (by omega))
  rw [Nat.zero_add] at e
  rw [e]
  obtain ⟨d, rfl⟩ : ∃ d, m = d + 1 := ⟨m - 1, by omega⟩
  have := hc 0 (by omega)
  rw [rsS, if_pos rfl, show sP G - ((w 0).toNat + 1) = 0 by omega]
  rfl
end Sr2
/-! the class's wishes go on by an odometer -/
section Odo
variable {A : Nat → Nat → Int}
theorem wnC_t {P : Int} : ∀ (c : Nat) (E : Nat → Nat → Int), (wnC P c E).1 = true → ∃ k, k < c ∧ E 1 k + 1 < P ∧ (∀ j, k < j → j < c → P ≤ E 1 j + 1) ∧ (wnC P c E).2 1 k = E 1 k + 1 ∧ (∀ j, j < k → (wnC P c E).2 1 j = E 1 j) ∧ (∀ j, k < j → j < c → (wnC P c E).2 1 j = 0) ∧ (∀ j, c ≤ j → (wnC P c E).2 1 j = E 1 j)
  | 0, E, h => by cases h
  | c + 1, E, h => by
    rw [wnC] at h ⊢
    by_cases e : E 1 c + 1 < P
    · rw [if_pos e] at h ⊢
      refine ⟨c, by omega, e, fun j h1 h2 => by omega, by show u2 E 1 c _ 1 c = _; rw [u2_s, u1_s], fun j hj => by show u2 E 1 c _ 1 j = _; rw [u2_s, u1_n (by omega)], fun j h1 h2 => by omega, fun j hj => by show u2 E 1 c _ 1 j = _; rw [u2_s, u1_n (by omega)]⟩
    · rw [if_neg e] at h ⊢
      obtain ⟨k, k1, k2, k3, k4, k5, k6, k7⟩ := wnC_t c _ h
      have q : ∀ j, j ≠ c → u2 E 1 c 0 1 j = E 1 j := fun j hj => by rw [u2_s, u1_n hj]
      refine ⟨k, by omega, by rw [← q k (by omega)]; exact k2, fun j h1 h2 => ?_, by rw [k4, q k (by omega)], fun j hj => by rw [k5 j hj, q j (by omega)], fun j h1 h2 => ?_, fun j hj => by rw [k7 j (by omega), q j (by omega)]⟩
      · by_cases e2 : j = c
        · rw [e2]; omega
        · rw [← q j e2]; exact k3 j h1 (by omega)
      · by_cases e2 : j = c
        · rw [e2, k7 c (Nat.le_refl _), u2_s, u1_s]
        · exact k6 j h1 (by omega)
theorem wnC_f {P : Int} : ∀ (c : Nat) (E : Nat → Nat → Int), (wnC P c E).1 = false → ∀ j, j < c → P ≤ E 1 j + 1
  | 0, E, _ => fun j hj => absurd hj (by omega)
  | c + 1, E, h => by
    rw [wnC] at h
    by_cases e : E 1 c + 1 < P
    · rw [if_pos e] at h; cases h
    · rw [if_neg e] at h
      intro j hj
      by_cases e2 : j = c
      · rw [e2]; omega
      · have := wnC_f c _ h j (by omega)
        rw [u2_s, u1_n e2] at this
        exact this
def vlW (w : Nat → Int) : Int := 1000 * w 0 + 100 * w 1 + 10 * w 2 + w 3
theorem wAn_t {i : Nat} {E : Nat → Nat → Int} (hi : i ≤ 3) (hE : ∀ j, j < 4 → 0 ≤ E 1 j ∧ E 1 j ≤ 9) (h : (wAnew A i E).1 = true) : (∃ k, k ≤ i ∧ E 1 k + 1 < A 0 3 ∧ (∀ j, k < j → j ≤ i → A 0 3 ≤ E 1 j + 1) ∧ (wAnew A i E).2 1 k = E 1 k + 1 ∧ (∀ j, j < k → (wAnew A i E).2 1 j = E 1 j) ∧ (∀ j, k < j → j < 4 → (wAnew A i E).2 1 j = 0)) ∧ vlW (E 1) + 1 ≤ vlW ((wAnew A i E).2 1) := by
  have q1 : ∀ j, j ≤ i → wz i E 1 j = E 1 j := fun j hj => by rw [wz, u1_s, if_neg (by omega)]
  have q2 : ∀ j, i < j → j < 4 → wz i E 1 j = 0 := fun j h1 h2 => by rw [wz, u1_s, if_pos (by omega)]
  obtain ⟨k, k1, k2, k3, k4, k5, k6, k7⟩ := wnC_t (i + 1) (wz i E) h
  have a0 := hE 0 (by decide)
  have a1 := hE 1 (by decide)
  have a2 := hE 2 (by decide)
  have a3 := hE 3 (by decide)
  have b5 : ∀ j, j < k → (wAnew A i E).2 1 j = E 1 j := fun j hj => (k5 j hj).trans (q1 j (by omega))
  have b6 : ∀ j, k < j → j < 4 → (wAnew A i E).2 1 j = 0 := fun j h1 h2 => by
    by_cases e : j < i + 1
    · exact k6 j h1 e
    · exact (k7 j (by omega)).trans (q2 j (by omega) h2)
  have b4 : (wAnew A i E).2 1 k = E 1 k + 1 := by
    have := q1 k (by omega)
    rw [← this]; exact k4
  refine ⟨⟨k, by omega, by rw [← q1 k (by omega)]; exact k2, fun j h1 h2 => by rw [← q1 j (by omega)]; exact k3 j h1 (by omega), b4, b5, b6⟩, ?_⟩
  unfold vlW
  generalize (wAnew A i E).2 1 = w' at b4 b5 b6 ⊢
  have hk : k = 0 ∨ k = 1 ∨ k = 2 ∨ k = 3 := by omega
  rcases hk with rfl | rfl | rfl | rfl
  · rw [b4, b6 1 (by decide) (by decide), b6 2 (by decide) (by decide), b6 3 (by decide) (by decide)]; omega
  · rw [b4, b5 0 (by decide), b6 2 (by decide) (by decide), b6 3 (by decide) (by decide)]; omega
  · rw [b4, b5 0 (by decide), b5 1 (by decide), b6 3 (by decide) (by decide)]; omega
  · rw [b4, b5 0 (by decide), b5 1 (by decide), b5 2 (by decide)]; omega
theorem wAn_f {i : Nat} {E : Nat → Nat → Int} (h : (wAnew A i E).1 = false) : ∀ j, j ≤ i → A 0 3 ≤ E 1 j + 1 := fun j hj => by
  have := wnC_f (i + 1) (wz i E) h j (by omega)
  rw [wz, u1_s, if_neg (by omega)] at this
  exact this
/-- the class's loop over wishes -/
def wlL (A : Nat → Nat → Int) (tr : (Nat → Nat → Int) → Int × (Nat → Nat → Int)) : Nat → (Nat → Nat → Int) → Nat → Nat → Int
  | 0, E => E
  | c + 1, E => if (wAnew A (tr E).1.toNat (tr E).2).1 = true then wlL A tr c (wAnew A (tr E).1.toNat (tr E).2).2 else (wAnew A (tr E).1.toNat (tr E).2).2
theorem wlL_eq {S D : Type} {G : Sr S D} {tr : (Nat → Nat → Int) → Int × (Nat → Nat → Int)} {I : (Nat → Nat → Int) → D → Prop} {m : Nat} {s0 : S} (hA : VA A) (hG : SrOk G) (hP : sP G = fP A) (hm : 1 ≤ m ∧ m ≤ 4) (hI : ∀ E x, (∀ j, j < 4 → 0 ≤ E 1 j ∧ E 1 j ≤ 9) → I E x → (tr E).1.toNat = (tyS G m m 0 s0 (E 1) x).1 ∧ I (tr E).2 (tyS G m m 0 s0 (E 1) x).2 ∧ (tr E).2 1 = E 1) (hr : ∀ (E E' : Nat → Nat → Int) x, (∀ a, a ≠ 1 → E' a = E a) → I E x → I E' x) : ∀ (c : Nat) (E : Nat → Nat → Int) (x : D), (∀ j, j < 4 → 0 ≤ E 1 j ∧ E 1 j ≤ 9) → I E x → 10000 ≤ vlW (E 1) + (c : Int) → I (wlL A tr c E) (reS G m 0 s0 (E 1) x)
  | 0, E, x, hE, hx, hv => by
    have a0 := hE 0 (by decide)
    have a1 := hE 1 (by decide)
    have a2 := hE 2 (by decide)
    have a3 := hE 3 (by decide)
    unfold vlW at hv
    omega
  | c + 1, E, x, hE, hx, hv => by
    have eP := fP10 hA
    obtain ⟨t1, t2, t3⟩ := hI E x hE hx
    have hge := tyS_ge (G := G) (m := m) (w := E 1) m 0 s0 x (by omega) hm.1
    have hE2 : ∀ j, j < 4 → 0 ≤ (tr E).2 1 j ∧ (tr E).2 1 j ≤ 9 := by rw [t3]; exact hE
    rw [wlL]
    by_cases h : (wAnew A (tr E).1.toNat (tr E).2).1 = true
    · rw [if_pos h]
      obtain ⟨⟨k, k1, k2, k3, k4, k5, k6⟩, k7⟩ := wAn_t (by omega) hE2 h
      rw [t3] at k2 k3 k4 k5 k7
      rw [reS_T hG (m := m) (w := E 1) (w' := (wAnew A (tr E).1.toNat (tr E).2).2 1) (k := k) (s := s0) (x := x) hm.1 (by omega) (hE k (by omega)).1 (by rw [hP]; omega) (fun j q1 q2 => by rw [hP, eP.1]; exact k3 j q1 (by omega)) k5 k4 (fun j q1 q2 => k6 j q1 (by omega))]
      refine wlL_eq hA hG hP hm hI hr c _ _ (wAnew_w hA hE2) (hr _ _ _ (fun a ha => wAnew_o ha) t2) ?_
      omega
    · rw [if_neg h]
      have hf := wAn_f (A := A) (i := (tr E).1.toNat) (E := (tr E).2) (by cases q : (wAnew A (tr E).1.toNat (tr E).2).1; rfl; exact absurd q h)
      rw [t3] at hf
      rw [reS_F hG (m := m) (w := E 1) (s := s0) (x := x) hm.1 (fun j hj => by rw [hP, eP.1]; exact hf j (by omega))]
      exact hr _ _ _ (fun a ha => wAnew_o ha) t2
end Odo
