/-! ===== Reader: what a line leaves ===== -/
/-- the bounds of what is read so far -/
def VP (A : Nat → Nat → Int) : Prop := VA A ∧ (A 0 0 = 0 ∨ 4 ≤ A 0 0) ∧ A 0 9 = A 0 3 + A 0 6 ∧ (∀ k, k < (A 0 9).toNat → (0 ≤ A 22 k ∧ A 22 k ≤ 1) ∧ (A 22 k = 0 → 0 ≤ A 23 k ∧ A 23 k < A 0 3) ∧ (A 22 k = 1 → 0 ≤ A 23 k ∧ A 23 k < A 0 6)) ∧ (A 0 0 = 0 → A 0 3 = 0 ∧ A 0 4 = 0 ∧ A 0 5 = 0 ∧ A 0 6 = 0 ∧ A 0 7 = 0 ∧ A 0 8 = 0)
theorem fnd_b {A : Nat → Nat → Int} {x : Int} (h : 0 ≤ fnd A x) : (fnd A x).toNat < (A 0 9).toNat := by
  rcases fdF_b A x (A 0 9).toNat 0 with h1 | h1
  · unfold fnd at h; omega
  · unfold fnd; omega
theorem nm_b0 {t : Nat → Int} {e i : Nat} {A : Nat → Nat → Int} (hV : VP A) (h : nmB t e A 0 i = true) : 0 ≤ nmX t e A i ∧ nmX t e A i < A 0 3 := by
  obtain ⟨-, h1, h2⟩ := of_decide_eq_true h
  exact (hV.2.2.2.1 _ (fnd_b h1)).2.1 h2
theorem nm_b1 {t : Nat → Int} {e i : Nat} {A : Nat → Nat → Int} (hV : VP A) (h : nmB t e A 1 i = true) : 0 ≤ nmX t e A i ∧ nmX t e A i < A 0 6 := by
  obtain ⟨-, h1, h2⟩ := of_decide_eq_true h
  exact (hV.2.2.2.1 _ (fnd_b h1)).2.2 h2
theorem adN_0 {A : Nat → Nat → Int} {w sec num : Int} {c : Nat} (hc : c ≠ 9) : adN A w sec num 0 c = A 0 c := by unfold adN; simp only [u2_ap]; (repeat' split) <;> first | rfl | omega
theorem adN_09 {A : Nat → Nat → Int} {w sec num : Int} : adN A w sec num 0 9 = A 0 9 + 1 := by unfold adN; rw [u2_s, u1_s]
theorem adN_r {A : Nat → Nat → Int} {w sec num : Int} {r c : Nat} (h0 : r ≠ 0) (h : r < 21 ∨ 24 ≤ r ∨ c ≠ (A 0 9).toNat) : adN A w sec num r c = A r c := by unfold adN; simp only [u2_ap]; (repeat' split) <;> first | rfl | omega
theorem adN_n {A : Nat → Nat → Int} {w sec num : Int} : adN A w sec num 21 (A 0 9).toNat = w ∧ adN A w sec num 22 (A 0 9).toNat = sec ∧ adN A w sec num 23 (A 0 9).toNat = num := by unfold adN; simp [u2_ap]
theorem fdF_ad {A : Nat → Nat → Int} {w sec num x : Int} : ∀ d i, i + d = (A 0 9).toNat → fdF (adN A w sec num) x (d + 1) i = if fdF A x d i = -1 then (if w = x then ((A 0 9).toNat : Int) else -1) else fdF A x d i
  | 0, i, h => by
    have e : i = (A 0 9).toNat := by omega
    subst e
    show (if adN A w sec num 21 (A 0 9).toNat = x then ((A 0 9).toNat : Int) else -1) = if (-1 : Int) = -1 then _ else _
    rw [if_pos rfl, adN_n.1]
  | d + 1, i, h => by
    rw [fdF, fdF_ad d (i + 1) (by omega), adN_r (by decide) (by omega)]
    conv => rhs; rw [fdF]
    by_cases hx : A 21 i = x
    · rw [if_pos hx, if_pos hx, if_neg (by omega)]
    · rw [if_neg hx, if_neg hx]
theorem fnd_ad {A : Nat → Nat → Int} {w sec num x : Int} (h0 : 0 ≤ A 0 9) : fnd (adN A w sec num) x = if fnd A x = -1 then (if w = x then ((A 0 9).toNat : Int) else -1) else fnd A x := by
  unfold fnd
  rw [adN_09, show (A 0 9 + 1).toNat = (A 0 9).toNat + 1 by omega]
  exact fdF_ad _ 0 (by omega)
/-- a new secret's name is no person's -/
theorem nmB_ad {t : Nat → Int} {e i : Nat} {A : Nat → Nat → Int} {w num : Int} (h0 : 0 ≤ A 0 9) : nmB t e (adN A w 1 num) 0 i = nmB t e A 0 i ∧ (nmB t e A 0 i = true → nmX t e (adN A w 1 num) i = nmX t e A i) := by
  unfold nmB nmX
  rw [fnd_ad h0]
  by_cases hx : fnd A (tkX t e i) = -1
  · rw [if_pos hx]
    have e2 : decide ((tkK t e i = 1 ∧ lnOf t e i < 0) ∧ 0 ≤ fnd A (tkX t e i) ∧ A 22 (fnd A (tkX t e i)).toNat = 0) = false := decide_eq_false (fun h => by omega)
    rw [e2]
    refine ⟨decide_eq_false (fun h => ?_), fun h => by cases h⟩
    split at h
    · rw [Int.toNat_natCast, adN_n.2.1] at h
      omega
    · omega
  · rw [if_neg hx]
    have hb : 0 ≤ fnd A (tkX t e i) → (fnd A (tkX t e i)).toNat ≠ (A 0 9).toNat := fun h => by have := fnd_b h; omega
    constructor
    · by_cases h : 0 ≤ fnd A (tkX t e i)
      · rw [adN_r (by decide) (Or.inr (Or.inr (hb h)))]
      · rw [decide_eq_false (fun c => h c.2.1), decide_eq_false (fun c => h c.2.1)]
    · intro h
      exact adN_r (by decide) (Or.inr (Or.inr (hb (of_decide_eq_true h).2.1)))
theorem NR_eq {t : Nat → Int} {V A A' : Nat → Nat → Int} {rd q e : Nat} (hN : NR t V A rd q e) (h9 : A' 0 9 = A 0 9) (hr : ∀ r c, 21 ≤ r → r < 24 → A' r c = A r c) : NR t V A' rd q e := by
  unfold NR
  rw [h9]
  refine ⟨hN.1, hN.2.1, fun k hk => ?_⟩
  rw [hr 21 k (by decide) (by decide), hr 22 k (by decide) (by decide), hr 23 k (by decide) (by decide)]
  exact hN.2.2 k hk
theorem NR_new {t : Nat → Int} {V V1 A : Nat → Nat → Int} {rd tx q e i : Nat} {sec num : Int} (hq : rd < q) (hN : NR t V A rd q e) (hi : i ≤ e) (hk : tkK t e i = 1) (h18 : A 0 9 < 18) (s : S0 (nwV V A rd q (tkS t e i) (tkL t e i - tkS t e i) sec num) V1 rd) : NR t V1 (adN A (tkX t e i) sec num) rd q e := by
  have hw := tk_word hk
  have hb := tk_b t hi
  have ex : tkX t e i = wk t (tkL t e i - tkS t e i) (tkS t e i) 0 := by unfold tkX; rw [if_pos hk]
  have hn := hN.2.1
  have q0 : ∀ c, V1 q c = u1 (V q) (A 0 9).toNat ((tkS t e i : Nat) : Int) c := fun c => by
    rw [s.1 q (by omega)]; unfold nwV
    rw [u2_n (by omega), u2_n (by omega), u2_n (by omega), u2_n (by omega), u2_s]
  have q1 : ∀ c, V1 (q + 1) c = u1 (V (q + 1)) (A 0 9).toNat ((tkL t e i - tkS t e i : Nat) : Int) c := fun c => by
    rw [s.1 _ (by omega)]; unfold nwV
    rw [u2_n (by omega), u2_n (by omega), u2_n (by omega), u2_s, u2_n (by omega)]
  have q3 : ∀ c, V1 (q + 3) c = u1 (V (q + 3)) (A 0 9).toNat sec c := fun c => by
    rw [s.1 _ (by omega)]; unfold nwV
    rw [u2_n (by omega), u2_n (by omega), u2_s, u2_n (by omega), u2_n (by omega)]
  have q2 : ∀ c, V1 (q + 2) c = u1 (V (q + 2)) (A 0 9).toNat num c := fun c => by
    rw [s.1 _ (by omega)]; unfold nwV
    rw [u2_n (by omega), u2_s, u2_n (by omega), u2_n (by omega), u2_n (by omega)]
  unfold NR
  rw [adN_09]
  refine ⟨?_, ⟨by omega, by omega⟩, fun k hk2 => ?_⟩
  · rw [s.2 12 (by omega)]; unfold nwV; rw [u2_s, u1_s]
  rw [q0, q1, q2, q3]
  by_cases e1 : k = (A 0 9).toNat
  · subst e1
    rw [u1_s, u1_s, u1_s, u1_s, adN_n.1, adN_n.2.1, adN_n.2.2, Int.toNat_natCast, Int.toNat_natCast]
    exact ⟨⟨⟨by omega, by omega, by omega, by omega⟩, fun j a b => hw.2.2.2.2 j a (by omega), ex.symm⟩, rfl, rfl⟩
  · rw [u1_n e1, u1_n e1, u1_n e1, u1_n e1, adN_r (by decide) (by omega), adN_r (by decide) (by omega), adN_r (by decide) (by omega)]
    exact hN.2.2 k (by omega)
theorem CU_u2 {t : Nat → Int} {U : Nat → Nat → Int} {rd tx e i f c : Nat} {v : Int} (h : CU t U rd tx e i) (h1 : f ≠ rd) (h2 : f ≠ tx) : CU t (u2 U f c v) rd tx e i := by
  unfold CU
  rw [u2_n h1.symm, u2_n h2.symm]
  exact h
theorem NR_u2 {t : Nat → Int} {U A : Nat → Nat → Int} {rd q e f c : Nat} {v : Int} (h : NR t U A rd q e) (h1 : f ≠ rd) (h2 : f < q ∨ q + 4 ≤ f) : NR t (u2 U f c v) A rd q e := by
  unfold NR
  rw [u2_n h1.symm, u2_n (show q ≠ f by omega), u2_n (show q + 1 ≠ f by omega), u2_n (show q + 2 ≠ f by omega), u2_n (show q + 3 ≠ f by omega)]
  exact h
theorem FRM_u2 {V U : Nat → Nat → Int} {rd q f b c : Nat} {v : Int} (h : FRM V U rd q f) (hn : b ≠ rd) (hb : f ≤ b ∧ b < f + 45) : FRM V (u2 U b c v) rd q f := by
  unfold FRM
  rw [u2_n hn.symm]
  refine ⟨fun a h1 h2 h3 => ?_, h.2⟩
  rw [u2_n (by omega)]
  exact h.1 a h1 h2 h3
/-- a line that ends well -/
theorem rq_ok {T : Nat → Nat × Nat} {R : Nat → Nat → Option Nat} {J : Nat → Nat → Int64} {z : Nat} {t : Nat → Int} {V U A A' : Nat → Nat → Int} {rd tx q f e i c : Nat} {v : Int} (hs : tx = rd + 46 ∧ q = rd + 47 ∧ (f = rd + 1 ∨ rd + 52 ≤ f ∨ f + 45 ≤ rd)) (h : FRM V U rd q f) (hc : CU t U rd tx e i) (hN : NR t U A rd q e) (h1 : U rd 1 = 0) (h9 : A' 0 9 = A 0 9) (hr : ∀ r c, 21 ≤ r → r < 24 → A' r c = A r c) (hF : FC (u2 U f c v) f A') : RQ T R J z t V rd tx q f e (.inr (A', i)) (some (.int (iI 1))) (T, iV (u2 U f c v), R, J, z) :=
  ⟨_, rfl, FRM_u2 h (by omega) (by omega), rfl, CU_u2 hc (by omega) (by omega), hF, NR_eq (NR_u2 hN (by omega) (by omega)) h9 hr, by rw [u2_n (by omega)]; exact h1⟩
theorem FC_dies {V V' A : Nat → Nat → Int} {f p : Nat} {y : Int} (hF : FC V f A) (hp : p < (A 0 3).toNat) (hfr : ∀ b, f ≤ b → b < f + 45 → b ≠ f + 2 + p → V' b = V b) (hr : ∀ c, c ≠ 6 → V' (f + 2 + p) c = V (f + 2 + p) c) (h6 : V' (f + 2 + p) 6 = y) (hA : VA A) : FC V' f (u2 A 7 p y) := by
  obtain ⟨hA0, hA1, hA2, hA3, hA4, hA5, hA6, hA7, hA8, -⟩ := hA
  obtain ⟨g0, g1, g2, g3, g4, g5, g6⟩ := hF
  have er : ∀ r c, r ≠ 7 → u2 A 7 p y r c = A r c := fun r c h => by rw [u2_n h]
  have e0 : ∀ c, u2 A 7 p y 0 c = A 0 c := fun c => er 0 c (by decide)
  refine ⟨fun j hj => ?_, fun i hi j hj => ?_, fun i hi j hj => ?_, fun i hi j hj => ?_, fun i hi j hj => ?_, fun s hs => ?_, fun j hj => ?_⟩
  · rw [e0, hfr f (by omega) (by omega) (by omega)]; exact g0 j hj
  · rw [show fP (u2 A 7 p y) = (A 0 3).toNat from congrArg Int.toNat (e0 3)] at hi
    by_cases e1 : i = p
    · subst e1
      by_cases e2 : j = 6
      · subst e2; rw [h6, u2_s, u1_s]
      · rw [hr j e2, er _ _ (by omega)]; exact g1 i hi j hj
    · rw [hfr _ (by omega) (by omega) (by omega), u2_ap, if_neg (by omega)]; exact g1 i hi j hj
  · rw [show fPl (u2 A 7 p y) = (A 0 4).toNat from congrArg Int.toNat (e0 4)] at hi
    rw [hfr _ (by omega) (by omega) (by omega), er _ _ (by omega)]; exact g2 i hi j hj
  · rw [show fBu (u2 A 7 p y) = (A 0 5).toNat from congrArg Int.toNat (e0 5)] at hi
    rw [hfr _ (by omega) (by omega) (by omega), er _ _ (by omega)]; exact g3 i hi j hj
  · rw [show fDi (u2 A 7 p y) = (A 0 8).toNat from congrArg Int.toNat (e0 8)] at hi
    rw [hfr _ (by omega) (by omega) (by omega), er _ _ (by omega)]; exact g4 i hi j hj
  · rw [show fSe (u2 A 7 p y) = (A 0 6).toNat from congrArg Int.toNat (e0 6)] at hs
    rw [hfr _ (by omega) (by omega) (by omega), er _ _ (by omega)]; exact g5 s hs
  · rw [hfr _ (by omega) (by omega) (by omega), er _ _ (by omega)]; exact g6 j hj
theorem FC_Secr {V V' A : Nat → Nat → Int} {f : Nat} {p : Int} (hF : FC V f A) (hA : VA A) (hfr : ∀ b, f < b → b < f + 45 → b ≠ f + 43 → V' b = V b) (hf : ∀ c, c ≠ 6 → c < 9 → V' f c = V f c) (h6 : V' f 6 = A 0 6 + 1) (hr : ∀ c, c ≠ (A 0 6).toNat → V' (f + 43) c = V (f + 43) c) (hp : V' (f + 43) (A 0 6).toNat = p) : FC V' f (aSecr A p) := by
  obtain ⟨hA0, hA1, hA2, hA3, hA4, hA5, hA6, hA7, hA8, -⟩ := hA
  obtain ⟨g0, g1, g2, g3, g4, g5, g6⟩ := hF
  have ec : ∀ c, c ≠ 6 → aSecr A p 0 c = A 0 c := fun c hc => by unfold aSecr; simp only [u2_ap]; (repeat' split) <;> first | rfl | omega
  have ec1 : aSecr A p 0 6 = A 0 6 + 1 := by unfold aSecr; rw [u2_s, u1_s]
  have er : ∀ r c, r ≠ 0 → (r ≠ 16 ∨ c ≠ (A 0 6).toNat) → aSecr A p r c = A r c := fun r c h0 hr => by unfold aSecr; simp only [u2_ap]; (repeat' split) <;> first | rfl | omega
  have e16 : aSecr A p 16 (A 0 6).toNat = p := by unfold aSecr; simp [u2_ap]
  refine ⟨fun j hj => ?_, fun i hi j hj => ?_, fun i hi j hj => ?_, fun i hi j hj => ?_, fun i hi j hj => ?_, fun s hs => ?_, fun j hj => ?_⟩
  · by_cases hj2 : j = 6
    · rw [hj2, ec1]; exact h6
    · rw [ec j hj2, hf j hj2 hj]; exact g0 j hj
  · rw [show fP (aSecr A p) = (A 0 3).toNat from congrArg Int.toNat (ec 3 (by decide))] at hi
    rw [hfr _ (by omega) (by omega) (by omega), er _ _ (by omega) (by omega)]; exact g1 i hi j hj
  · rw [show fPl (aSecr A p) = (A 0 4).toNat from congrArg Int.toNat (ec 4 (by decide))] at hi
    rw [hfr _ (by omega) (by omega) (by omega), er _ _ (by omega) (by omega)]; exact g2 i hi j hj
  · rw [show fBu (aSecr A p) = (A 0 5).toNat from congrArg Int.toNat (ec 5 (by decide))] at hi
    rw [hfr _ (by omega) (by omega) (by omega), er _ _ (by omega) (by omega)]; exact g3 i hi j hj
  · rw [show fDi (aSecr A p) = (A 0 8).toNat from congrArg Int.toNat (ec 8 (by decide))] at hi
    rw [hfr _ (by omega) (by omega) (by omega), er _ _ (by omega) (by omega)]; exact g4 i hi j hj
  · rw [show fSe (aSecr A p) = (A 0 6 + 1).toNat from congrArg Int.toNat ec1] at hs
    by_cases e1 : s = (A 0 6).toNat
    · subst e1; exact hp.trans e16.symm
    · rw [hr s e1, er _ _ (by decide) (Or.inr e1)]; exact g5 s (show s < (A 0 6).toNat by omega)
  · rw [hfr _ (by omega) (by omega) (by omega), er _ _ (by omega) (by omega)]; exact g6 j hj
theorem FC_Hide {V V' A : Nat → Nat → Int} {f : Nat} {p s q : Int} (hF : FC V f A) (hA : VA A) (hfr : ∀ b, f < b → b < f + 45 → b ≠ f + 44 → V' b = V b) (hf : ∀ c, c ≠ 7 → c < 9 → V' f c = V f c) (h7 : V' f 7 = A 0 7 + 1) (hr : ∀ c, c ≠ (p * 8 + s).toNat → V' (f + 44) c = V (f + 44) c) (hp : V' (f + 44) (p * 8 + s).toNat = ((((A 17 (p * 8 + s).toNat).toNat ||| 2 ^ q.toNat : Nat)) : Int)) : FC V' f (aHide A p s q) := by
  obtain ⟨hA0, hA1, hA2, hA3, hA4, hA5, hA6, hA7, hA8, -⟩ := hA
  obtain ⟨g0, g1, g2, g3, g4, g5, g6⟩ := hF
  unfold aHide
  generalize ((((A 17 (p * 8 + s).toNat).toNat ||| 2 ^ q.toNat : Nat)) : Int) = x at *
  generalize (p * 8 + s).toNat = m at *
  have ec : ∀ c, c ≠ 7 → u2 (u2 A 17 m x) 0 7 (A 0 7 + 1) 0 c = A 0 c := fun c hc => by rw [u2_s, u1_n hc, u2_n (by decide)]
  have ec1 : u2 (u2 A 17 m x) 0 7 (A 0 7 + 1) 0 7 = A 0 7 + 1 := by rw [u2_s, u1_s]
  have er : ∀ r c, r ≠ 0 → (r ≠ 17 ∨ c ≠ m) → u2 (u2 A 17 m x) 0 7 (A 0 7 + 1) r c = A r c := fun r c h0 hr => by simp only [u2_ap]; (repeat' split) <;> first | rfl | omega
  refine ⟨fun j hj => ?_, fun i hi j hj => ?_, fun i hi j hj => ?_, fun i hi j hj => ?_, fun i hi j hj => ?_, fun s hs => ?_, fun j hj => ?_⟩
  · by_cases hj2 : j = 7
    · rw [hj2, ec1]; exact h7
    · rw [ec j hj2, hf j hj2 hj]; exact g0 j hj
  · rw [show fP (u2 (u2 A 17 m x) 0 7 (A 0 7 + 1)) = (A 0 3).toNat from congrArg Int.toNat (ec 3 (by decide))] at hi
    rw [hfr _ (by omega) (by omega) (by omega), er _ _ (by omega) (by omega)]; exact g1 i hi j hj
  · rw [show fPl (u2 (u2 A 17 m x) 0 7 (A 0 7 + 1)) = (A 0 4).toNat from congrArg Int.toNat (ec 4 (by decide))] at hi
    rw [hfr _ (by omega) (by omega) (by omega), er _ _ (by omega) (by omega)]; exact g2 i hi j hj
  · rw [show fBu (u2 (u2 A 17 m x) 0 7 (A 0 7 + 1)) = (A 0 5).toNat from congrArg Int.toNat (ec 5 (by decide))] at hi
    rw [hfr _ (by omega) (by omega) (by omega), er _ _ (by omega) (by omega)]; exact g3 i hi j hj
  · rw [show fDi (u2 (u2 A 17 m x) 0 7 (A 0 7 + 1)) = (A 0 8).toNat from congrArg Int.toNat (ec 8 (by decide))] at hi
    rw [hfr _ (by omega) (by omega) (by omega), er _ _ (by omega) (by omega)]; exact g4 i hi j hj
  · rw [show fSe (u2 (u2 A 17 m x) 0 7 (A 0 7 + 1)) = (A 0 6).toNat from congrArg Int.toNat (ec 6 (by decide))] at hs
    rw [hfr _ (by omega) (by omega) (by omega), er _ _ (by omega) (by omega)]; exact g5 s hs
  · by_cases e1 : j = m
    · subst e1; rw [hp, u2_n (by decide), u2_s, u1_s]
    · rw [hr j e1, er _ _ (by decide) (Or.inr e1)]; exact g6 j hj
theorem FC_Fam {V V' A : Nat → Nat → Int} {f : Nat} {y l c : Int} (hF : FC V f A) (hfr : ∀ b, f < b → b < f + 45 → V' b = V b) (hA : VA A) (hf : ∀ c, 3 ≤ c → c < 9 → V' f c = V f c) (h0 : V' f 0 = y) (h1 : V' f 1 = l) (h2 : V' f 2 = c) : FC V' f (aFam A y l c) := by
  obtain ⟨hA0, hA1, hA2, hA3, hA4, hA5, hA6, hA7, hA8, -⟩ := hA
  obtain ⟨g0, g1, g2, g3, g4, g5, g6⟩ := hF
  have ec : ∀ j, 3 ≤ j → aFam A y l c 0 j = A 0 j := fun j hj => by unfold aFam; simp only [u2_ap]; (repeat' split) <;> first | rfl | omega
  have er : ∀ r j, r ≠ 0 → aFam A y l c r j = A r j := fun r j h0 => by unfold aFam; rw [u2_n h0, u2_n h0, u2_n h0]
  refine ⟨fun j hj => ?_, fun i hi j hj => ?_, fun i hi j hj => ?_, fun i hi j hj => ?_, fun i hi j hj => ?_, fun s hs => ?_, fun j hj => ?_⟩
  · rcases (by omega : j = 0 ∨ j = 1 ∨ j = 2 ∨ 3 ≤ j) with rfl | rfl | rfl | h3
    · rw [h0]; unfold aFam; simp [u2_ap]
    · rw [h1]; unfold aFam; simp [u2_ap]
    · rw [h2]; unfold aFam; simp [u2_ap]
    · rw [ec j h3, hf j h3 hj]; exact g0 j hj
  · rw [show fP (aFam A y l c) = (A 0 3).toNat from congrArg Int.toNat (ec 3 (by decide))] at hi
    rw [hfr _ (by omega) (by omega), er _ _ (by omega)]; exact g1 i hi j hj
  · rw [show fPl (aFam A y l c) = (A 0 4).toNat from congrArg Int.toNat (ec 4 (by decide))] at hi
    rw [hfr _ (by omega) (by omega), er _ _ (by omega)]; exact g2 i hi j hj
  · rw [show fBu (aFam A y l c) = (A 0 5).toNat from congrArg Int.toNat (ec 5 (by decide))] at hi
    rw [hfr _ (by omega) (by omega), er _ _ (by omega)]; exact g3 i hi j hj
  · rw [show fDi (aFam A y l c) = (A 0 8).toNat from congrArg Int.toNat (ec 8 (by decide))] at hi
    rw [hfr _ (by omega) (by omega), er _ _ (by omega)]; exact g4 i hi j hj
  · rw [show fSe (aFam A y l c) = (A 0 6).toNat from congrArg Int.toNat (ec 6 (by decide))] at hs
    rw [hfr _ (by omega) (by omega), er _ _ (by omega)]; exact g5 s hs
  · rw [hfr _ (by omega) (by omega), er _ _ (by omega)]; exact g6 j hj
/-- a fault at the latest name -/
theorem rq_nm {T : Nat → Nat × Nat} {R : Nat → Nat → Option Nat} {J : Nat → Nat → Int64} {z : Nat} {t : Nat → Int} {V U : Nat → Nat → Int} {rd tx q f e s : Nat} {c : Int} (h : FRM V U rd q f) (hc : U rd 11 = (s : Int)) : RQ T R J z t V rd tx q f e (.inl (c, s)) (some (.int (iI 0))) (T, iV (u2 (u2 U rd 1 c) rd 2 (U rd 11)), R, J, z) := by
  refine ⟨_, rfl, ⟨fun b h1 h2 h3 => ?_, ?_, ?_⟩, rfl, ?_, ?_⟩
  · rw [u2_n h1, u2_n h1]; exact h.1 b h1 h2 h3
  · rw [u2_s, u1_n (by decide), u2_s, u1_n (by decide)]; exact h.2.1
  · rw [u2_s, u1_n (by decide), u2_s, u1_n (by decide)]; exact h.2.2
  · rw [u2_s, u1_n (by decide), u2_s, u1_s]
  · rw [u2_s, u1_s]; exact hc
