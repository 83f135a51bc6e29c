/-! ===== the text as read: one parser for both; what the reader holds while it reads ===== -/
/-- a fault and its place, or the table and where to go on -/
abbrev PR : Type := Sum (Int × Nat) ((Nat → Nat → Int) × Nat)
def eT (b : Bool) (c : Int) (s : Nat) (k : PR) : PR := if b = true then k else .inl (c, s)
section Eat
variable (t : Nat → Int) (e : Nat) (A : Nat → Nat → Int) (i : Nat)
def eW (j : Nat) (k : Nat → PR) : PR := eT (sw t e i j) 1 (tkS t e i) (k (tkN t e i))
def eN (lo hi : Int) (k : Int → Nat → PR) : PR := eT (whB t e i lo hi) (whC t e i) (tkS t e i) (k (tkX t e i) (tkN t e i))
def eC (x : Int) (k : Int → Nat → PR) : PR := eT (decide (0 ≤ x)) 1 (tkS t e i) (k x (tkN t e i))
def eF (k : Int → Nat → PR) : PR := eT (nwB t e A i) (nxC t e i 3) (tkS t e i) (k (tkX t e i) (tkN t e i))
def eM (c : Int) (k : Int → Nat → Nat → PR) : PR := eT (nmB t e A c i) (nxC t e i 2) (tkS t e i) (k (nmX t e A i) (tkS t e i) (tkN t e i))
variable {t e A i}
theorem eW_t {j : Nat} {k : Nat → PR} (h : sw t e i j = true) : eW t e i j k = k (tkN t e i) := if_pos h
theorem eW_f {j : Nat} {k : Nat → PR} (h : sw t e i j = false) : eW t e i j k = .inl (1, tkS t e i) := if_neg (by rw [h]; decide)
theorem eN_t {lo hi : Int} {k : Int → Nat → PR} (h : whB t e i lo hi = true) : eN t e i lo hi k = k (tkX t e i) (tkN t e i) := if_pos h
theorem eN_f {lo hi : Int} {k : Int → Nat → PR} (h : whB t e i lo hi = false) : eN t e i lo hi k = .inl (whC t e i, tkS t e i) := if_neg (by rw [h]; decide)
theorem eC_t {x : Int} {k : Int → Nat → PR} (h : decide (0 ≤ x) = true) : eC t e i x k = k x (tkN t e i) := if_pos h
theorem eC_f {x : Int} {k : Int → Nat → PR} (h : decide (0 ≤ x) = false) : eC t e i x k = .inl (1, tkS t e i) := if_neg (by rw [h]; decide)
theorem eF_t {k : Int → Nat → PR} (h : nwB t e A i = true) : eF t e A i k = k (tkX t e i) (tkN t e i) := if_pos h
theorem eF_f {k : Int → Nat → PR} (h : nwB t e A i = false) : eF t e A i k = .inl (nxC t e i 3, tkS t e i) := if_neg (by rw [h]; decide)
theorem eM_t {c : Int} {k : Int → Nat → Nat → PR} (h : nmB t e A c i = true) : eM t e A i c k = k (nmX t e A i) (tkS t e i) (tkN t e i) := if_pos h
theorem eM_f {c : Int} {k : Int → Nat → Nat → PR} (h : nmB t e A c i = false) : eM t e A i c k = .inl (nxC t e i 2, tkS t e i) := if_neg (by rw [h]; decide)
end Eat
theorem u2_ap {α : Type} (f : Nat → Nat → α) (r c : Nat) (v : α) (r' c' : Nat) : u2 f r c v r' c' = if r' = r ∧ c' = c then v else f r' c' := by
  by_cases h : r' = r
  · subst h
    by_cases h2 : c' = c
    · subst h2; rw [u2_s, u1_s, if_pos ⟨rfl, rfl⟩]
    · rw [u2_s, u1_n h2, if_neg (fun q => h2 q.2)]
  · rw [u2_n h, if_neg (fun q => h q.1)]
/-- the table with a name more, a person more, .. -/
def adN (A : Nat → Nat → Int) (w sec num : Int) : Nat → Nat → Int := u2 (u2 (u2 (u2 A 21 (A 0 9).toNat w) 22 (A 0 9).toNat sec) 23 (A 0 9).toNat num) 0 9 (A 0 9 + 1)
def aPers (A : Nat → Nat → Int) (x0 x1 x2 x3 x4 x5 x6 : Int) : Nat → Nat → Int := u2 (u2 (u2 (u2 (u2 (u2 (u2 (u2 A 1 (A 0 3).toNat x0) 2 (A 0 3).toNat x1) 3 (A 0 3).toNat x2) 4 (A 0 3).toNat x3) 5 (A 0 3).toNat x4) 6 (A 0 3).toNat x5) 7 (A 0 3).toNat x6) 0 3 (A 0 3 + 1)
def aPlan (A : Nat → Nat → Int) (x0 x1 x2 x3 : Int) : Nat → Nat → Int := u2 (u2 (u2 (u2 (u2 A 8 (A 0 4).toNat x0) 9 (A 0 4).toNat x1) 10 (A 0 4).toNat x2) 11 (A 0 4).toNat x3) 0 4 (A 0 4 + 1)
def aBuys (A : Nat → Nat → Int) (x0 x1 x2 x3 : Int) : Nat → Nat → Int := u2 (u2 (u2 (u2 (u2 A 12 (A 0 5).toNat x0) 13 (A 0 5).toNat x1) 14 (A 0 5).toNat x2) 15 (A 0 5).toNat x3) 0 5 (A 0 5 + 1)
def aDiar (A : Nat → Nat → Int) (x0 x1 x2 : Int) : Nat → Nat → Int := u2 (u2 (u2 (u2 A 18 (A 0 8).toNat x0) 19 (A 0 8).toNat x1) 20 (A 0 8).toNat x2) 0 8 (A 0 8 + 1)
def aSecr (A : Nat → Nat → Int) (p : Int) : Nat → Nat → Int := u2 (u2 A 16 (A 0 6).toNat p) 0 6 (A 0 6 + 1)
def aHide (A : Nat → Nat → Int) (p s q : Int) : Nat → Nat → Int := u2 (u2 A 17 (p * 8 + s).toNat ((((A 17 (p * 8 + s).toNat).toNat ||| 2 ^ q.toNat : Nat)) : Int)) 0 7 (A 0 7 + 1)
def aFam (A : Nat → Nat → Int) (y l c : Int) : Nat → Nat → Int := u2 (u2 (u2 A 0 0 y) 0 1 l) 0 2 c
section Parse
variable (t : Nat → Int) (e : Nat) (A : Nat → Nat → Int) (i : Nat)
def pFam : PR := eW t e i 31 fun i => eN t e i 4 24 fun y i => eW t e i 14 fun i => eC t e i (lwOf t e i) fun l i => eW t e i 9 fun i => eN t e i 0 99 fun c i => .inr (aFam A y l c, i)
def pPers : PR := eF t e A i fun w i => eC t e i (kdOf t e i) fun kd i => eW t e i 2 fun i => eC t e i (sdOf t e i) fun sd i => eC t e i (agOf t e i) fun ag i => eN t e i ag (if ag = 0 then 90 else A 0 0 - 1) fun b i => eW t e i 26 fun i => eN t e i 1 9 fun st i => eW t e i 30 fun i => eN t e i 0 9 fun we i => eW t e i 10 fun i => eN t e i 0 100 fun fr i => .inr (aPers (adN A w 0 (A 0 3)) kd sd (if ag = 0 then -b else b) st we fr (-2), i)
def pPlan : PR := eM t e A i 0 fun p _ i => eN t e i 0 (A 0 0 - 1) fun a i => eW t e i 27 fun i => eN t e i a (A 0 0 - 1) fun b i => eW t e i 11 fun i => eN t e i 1 99 fun h i => .inr (aPlan A p a b h, i)
def pDies : PR := eM t e A i 0 fun p s i => if A 7 p.toNat = -2 then eN t e i 0 (A 0 0 - 1) fun y i => .inr (u2 A 7 p.toNat y, i) else .inl (3, s)
def pBuys : PR := eN t e i 0 (A 0 0 - 1) fun y i => eM t e A i 0 fun p _ i => eM t e A i 0 fun q s i => if q = p then .inl (3, s) else eW t e i 21 fun i => eN t e i 0 99 fun c i => .inr (aBuys A y p q c, i)
def pSecr : PR := eF t e A i fun w i => eM t e A i 0 fun p _ i => .inr (aSecr (adN A w 1 (A 0 6)) p, i)
def pHide : PR := eM t e A i 0 fun p _ i => eM t e A i 1 fun s _ i => eM t e A i 0 fun q sp i => if q = p ∨ (A 17 (p * 8 + s).toNat).toNat.testBit q.toNat = true then .inl (3, sp) else .inr (aHide A p s q, i)
def pDiar (c : Int) : PR := eN t e i 0 (A 0 0 - 1) fun y i => eM t e A i 0 fun p _ i => .inr (aDiar A y p c, i)
end Parse
/-- where the reader's things lie: rd, its text, its rows of names, the family that is read -/
def BX (T : Nat → Nat × Nat) (R : Nat → Nat → Option Nat) (rd tx q f : Nat) : Prop := DS T R rd tx ∧ DN T R rd q ∧ FS T R f ∧ R rd 0 = some f ∧ (tx = rd + 46 ∧ q = rd + 47 ∧ (f = rd + 1 ∨ rd + 52 ≤ f ∨ f + 45 ≤ rd))
/-- nothing else has changed -/
def FRM (V V' : Nat → Nat → Int) (rd q f : Nat) : Prop := (∀ b, b ≠ rd → (b < q ∨ q + 5 ≤ b) → (b < f ∨ f + 45 ≤ b) → V' b = V b) ∧ V' rd 4 = V rd 4 ∧ (0 ≤ V' rd 9 ∧ V' rd 9 ≤ 1100)
/-- what is read up to i is A -/
def RI (t : Nat → Int) (V A : Nat → Nat → Int) (rd tx q f e i : Nat) : Prop := CU t V rd tx e i ∧ FC V f A ∧ NR t V A rd q e ∧ V rd 1 = 0
def RQ (T : Nat → Nat × Nat) (R : Nat → Nat → Option Nat) (J : Nat → Nat → Int64) (z : Nat) (t : Nat → Int) (V : Nat → Nat → Int) (rd tx q f e : Nat) (r : PR) : Option Value → Mem → Prop := fun v M => ∃ V' : Nat → Nat → Int, M = (T, iV V', R, J, z) ∧ FRM V V' rd q f ∧ match r with
  | .inl c => v = some (.int (iI 0)) ∧ V' rd 1 = c.1 ∧ V' rd 2 = (c.2 : Int)
  | .inr s => v = some (.int (iI 1)) ∧ RI t V' s.1 rd tx q f e s.2
/-- all but the row a and the heads is as it was -/
def SF (V U : Nat → Nat → Int) (rd a q : Nat) : Prop := (∀ b, b ≠ rd → b ≠ a → b ≠ q + 4 → U b = V b) ∧ (∀ c, c < 6 ∨ c = 12 → U rd c = V rd c)
section SFs
variable {V U U' : Nat → Nat → Int} {rd a q p : Nat} {x s : Int}
theorem SF_refl : SF V V rd a q := ⟨fun _ _ _ _ => rfl, fun _ _ => rfl⟩
theorem SF_w (h : SF V U rd a q) (s : S0 U U' rd) : SF V U' rd a q := ⟨fun b h1 h2 h3 => (s.1 b h1).trans (h.1 b h1 h2 h3), fun c hc => (s.2 c (by omega)).trans (h.2 c hc)⟩
theorem SF_a (hn : a ≠ rd) (h : SF V U rd a q) (s : S0 (u2 U a p x) U' rd) : SF V U' rd a q := ⟨fun b h1 h2 h3 => (s.1 b h1).trans ((u2_n h2 ▸ h.1 b h1 h2 h3)), fun c hc => (s.2 c (by omega)).trans (by rw [u2_n hn.symm]; exact h.2 c hc)⟩
theorem SF_h (hn : q + 4 ≠ rd) (h : SF V U rd a q) (s : S0 (u2 U (q + 4) p x) U' rd) : SF V U' rd a q := ⟨fun b h1 h2 h3 => (s.1 b h1).trans (by rw [u2_n h3]; exact h.1 b h1 h2 h3), fun c hc => (s.2 c (by omega)).trans (by rw [u2_n hn.symm]; exact h.2 c hc)⟩
theorem SF_am (hn : a ≠ rd) (h : SF V U rd a q) (h0 : S0 (u2 (u2 U a p x) rd 11 s) U' rd) : SF V U' rd a q := ⟨fun b h1 h2 h3 => (h0.1 b h1).trans (by rw [u2_n h1, u2_n h2]; exact h.1 b h1 h2 h3), fun c hc => (h0.2 c (by omega)).trans (by rw [u2_s, u1_n (by omega), u2_n hn.symm]; exact h.2 c hc)⟩
theorem SF_hm (hn : q + 4 ≠ rd) (h : SF V U rd a q) (h0 : S0 (u2 (u2 U (q + 4) p x) rd 11 s) U' rd) : SF V U' rd a q := ⟨fun b h1 h2 h3 => (h0.1 b h1).trans (by rw [u2_n h1, u2_n h3]; exact h.1 b h1 h2 h3), fun c hc => (h0.2 c (by omega)).trans (by rw [u2_s, u1_n (by omega), u2_n hn.symm]; exact h.2 c hc)⟩
theorem NR_SF {t : Nat → Int} {A : Nat → Nat → Int} {e : Nat} (hN : NR t V A rd q e) (h : SF V U rd a q) (hq : rd < q) (ha : a < q ∨ q + 4 ≤ a) : NR t U A rd q e := by
  have e0 : U q = V q := h.1 q (by omega) (by omega) (by omega)
  have e1 : U (q + 1) = V (q + 1) := h.1 _ (by omega) (by omega) (by omega)
  have e2 : U (q + 2) = V (q + 2) := h.1 _ (by omega) (by omega) (by omega)
  have e3 : U (q + 3) = V (q + 3) := h.1 _ (by omega) (by omega) (by omega)
  unfold NR
  rw [e0, e1, e2, e3, h.2 12 (Or.inr rfl)]
  exact hN
theorem FRM_SF {W : Nat → Nat → Int} {f : Nat} (h0 : FRM W V rd q f) (h : SF V U rd a q) (ha : (f ≤ a ∧ a < f + 45) ∨ a = q + 4) (h9 : 0 ≤ U rd 9 ∧ U rd 9 ≤ 1100) : FRM W U rd q f := ⟨fun b h1 h2 h3 => (h.1 b h1 (by omega) (by omega)).trans (h0.1 b h1 h2 h3), (h.2 4 (by omega)).trans h0.2.1, h9⟩
theorem FRM_refl {f : Nat} (h9 : 0 ≤ V rd 9 ∧ V rd 9 ≤ 1100) : FRM V V rd q f := ⟨fun _ _ _ _ => rfl, rfl, h9⟩
theorem rq_fl {T : Nat → Nat × Nat} {R : Nat → Nat → Option Nat} {J : Nat → Nat → Int64} {z : Nat} {t : Nat → Int} {tx f e i : Nat} {c : Int} (h : FRM V U rd q f) (hc : CU t U rd tx e i) : RQ T R J z t V rd tx q f e (.inl (c, tkS t e i)) (some (.int (iI 0))) (T, iV (flE U rd c), R, J, z) := by
  refine ⟨flE U rd c, rfl, ⟨fun b h1 h2 h3 => ?_, ?_, ?_⟩, rfl, ?_, ?_⟩
  · unfold flE; rw [u2_n h1, u2_n h1]; exact h.1 b h1 h2 h3
  · unfold flE; rw [u2_s, u1_n (by decide), u2_s, u1_n (by decide)]; exact h.2.1
  · unfold flE; rw [u2_s, u1_n (by decide), u2_s, u1_n (by decide)]; exact h.2.2
  · unfold flE; rw [u2_s, u1_n (by decide), u2_s, u1_s]
  · unfold flE; rw [u2_s, u1_s]; exact hc.2.2.2.2.2.1
end SFs
theorem FC_Pers {V V' A : Nat → Nat → Int} {f : Nat} {x0 x1 x2 x3 x4 x5 x6 : Int} (hF : FC V f A) (hA : VA A) (hroom : A 0 3 < 10) (hfr : ∀ b, f < b → b < f + 45 → b ≠ f + 2 + (A 0 3).toNat → V' b = V b) (hf : ∀ c, c ≠ 3 → c < 9 → V' f c = V f c) (h3 : V' f 3 = A 0 3 + 1) (r0 : V' (f + 2 + (A 0 3).toNat) 0 = x0) (r1 : V' (f + 2 + (A 0 3).toNat) 1 = x1) (r2 : V' (f + 2 + (A 0 3).toNat) 2 = x2) (r3 : V' (f + 2 + (A 0 3).toNat) 3 = x3) (r4 : V' (f + 2 + (A 0 3).toNat) 4 = x4) (r5 : V' (f + 2 + (A 0 3).toNat) 5 = x5) (r6 : V' (f + 2 + (A 0 3).toNat) 6 = x6) : FC V' f (aPers A x0 x1 x2 x3 x4 x5 x6) := by
  obtain ⟨hA0, hA1, hA2, hA3, hA4, hA5, hA6, hA7, hA8, -⟩ := hA
  obtain ⟨g0, g1, g2, g3, g4, g5, g6⟩ := hF
  have ec : ∀ c, c ≠ 3 → aPers A x0 x1 x2 x3 x4 x5 x6 0 c = A 0 c := fun c hc => by unfold aPers; simp only [u2_ap]; (repeat' split) <;> first | rfl | omega
  have ec1 : aPers A x0 x1 x2 x3 x4 x5 x6 0 3 = A 0 3 + 1 := by unfold aPers; rw [u2_s, u1_s]
  have er : ∀ r c, r ≠ 0 → (r < 1 ∨ 8 ≤ r ∨ c ≠ (A 0 3).toNat) → aPers A x0 x1 x2 x3 x4 x5 x6 r c = A r c := fun r c h0 hr => by unfold aPers; simp only [u2_ap]; (repeat' split) <;> first | rfl | omega
  have e1 : aPers A x0 x1 x2 x3 x4 x5 x6 1 (A 0 3).toNat = x0 := by unfold aPers; simp [u2_ap]
  have e2 : aPers A x0 x1 x2 x3 x4 x5 x6 2 (A 0 3).toNat = x1 := by unfold aPers; simp [u2_ap]
  have e3 : aPers A x0 x1 x2 x3 x4 x5 x6 3 (A 0 3).toNat = x2 := by unfold aPers; simp [u2_ap]
  have e4 : aPers A x0 x1 x2 x3 x4 x5 x6 4 (A 0 3).toNat = x3 := by unfold aPers; simp [u2_ap]
  have e5 : aPers A x0 x1 x2 x3 x4 x5 x6 5 (A 0 3).toNat = x4 := by unfold aPers; simp [u2_ap]
  have e6 : aPers A x0 x1 x2 x3 x4 x5 x6 6 (A 0 3).toNat = x5 := by unfold aPers; simp [u2_ap]
  have e7 : aPers A x0 x1 x2 x3 x4 x5 x6 7 (A 0 3).toNat = x6 := by unfold aPers; simp [u2_ap]
  refine ⟨?_, ?_, ?_, ?_, ?_, ?_, ?_⟩
  · intro j hj
    by_cases hj2 : j = 3
    · rw [hj2, ec1]; exact h3
    · rw [ec j hj2, hf j hj2 hj]; exact g0 j hj
  · intro i hi j hj
    rw [show fP (aPers A x0 x1 x2 x3 x4 x5 x6) = (A 0 3 + 1).toNat from congrArg Int.toNat ec1] at hi
    by_cases hi2 : i = (A 0 3).toNat
    · subst hi2
      rcases (by omega : j = 0 ∨ j = 1 ∨ j = 2 ∨ j = 3 ∨ j = 4 ∨ j = 5 ∨ j = 6) with rfl | rfl | rfl | rfl | rfl | rfl | rfl
      · exact r0.trans e1.symm
      · exact r1.trans e2.symm
      · exact r2.trans e3.symm
      · exact r3.trans e4.symm
      · exact r4.trans e5.symm
      · exact r5.trans e6.symm
      · exact r6.trans e7.symm
    · rw [er _ _ (by omega) (by omega), hfr _ (by omega) (by omega) (by omega)]
      exact g1 i (show i < (A 0 3).toNat by omega) j hj
  · intro i hi j hj
    rw [show fPl (aPers A x0 x1 x2 x3 x4 x5 x6) = (A 0 4).toNat from congrArg Int.toNat (ec 4 (by decide))] at hi
    rw [er _ _ (by omega) (by omega), hfr _ (by omega) (by omega) (by omega)]
    exact g2 i hi j hj
  · intro i hi j hj
    rw [show fBu (aPers A x0 x1 x2 x3 x4 x5 x6) = (A 0 5).toNat from congrArg Int.toNat (ec 5 (by decide))] at hi
    rw [er _ _ (by omega) (by omega), hfr _ (by omega) (by omega) (by omega)]
    exact g3 i hi j hj
  · intro i hi j hj
    rw [show fDi (aPers A x0 x1 x2 x3 x4 x5 x6) = (A 0 8).toNat from congrArg Int.toNat (ec 8 (by decide))] at hi
    rw [er _ _ (by omega) (by omega), hfr _ (by omega) (by omega) (by omega)]
    exact g4 i hi j hj
  · intro s hs
    rw [show fSe (aPers A x0 x1 x2 x3 x4 x5 x6) = (A 0 6).toNat from congrArg Int.toNat (ec 6 (by decide))] at hs
    rw [er _ _ (by decide) (by omega), hfr _ (by omega) (by omega) (by omega)]
    exact g5 s hs
  · intro j hj
    rw [er _ _ (by decide) (by omega), hfr _ (by omega) (by omega) (by omega)]
    exact g6 j hj
theorem FC_Plan {V V' A : Nat → Nat → Int} {f : Nat} {x0 x1 x2 x3 : Int} (hF : FC V f A) (hA : VA A) (hroom : A 0 4 < 12) (hfr : ∀ b, f < b → b < f + 45 → b ≠ f + 13 + (A 0 4).toNat → V' b = V b) (hf : ∀ c, c ≠ 4 → c < 9 → V' f c = V f c) (h4 : V' f 4 = A 0 4 + 1) (r0 : V' (f + 13 + (A 0 4).toNat) 0 = x0) (r1 : V' (f + 13 + (A 0 4).toNat) 1 = x1) (r2 : V' (f + 13 + (A 0 4).toNat) 2 = x2) (r3 : V' (f + 13 + (A 0 4).toNat) 3 = x3) : FC V' f (aPlan A x0 x1 x2 x3) := by
  obtain ⟨hA0, hA1, hA2, hA3, hA4, hA5, hA6, hA7, hA8, -⟩ := hA
  obtain ⟨g0, g1, g2, g3, g4, g5, g6⟩ := hF
  have ec : ∀ c, c ≠ 4 → aPlan A x0 x1 x2 x3 0 c = A 0 c := fun c hc => by unfold aPlan; simp only [u2_ap]; (repeat' split) <;> first | rfl | omega
  have ec1 : aPlan A x0 x1 x2 x3 0 4 = A 0 4 + 1 := by unfold aPlan; rw [u2_s, u1_s]
  have er : ∀ r c, r ≠ 0 → (r < 8 ∨ 12 ≤ r ∨ c ≠ (A 0 4).toNat) → aPlan A x0 x1 x2 x3 r c = A r c := fun r c h0 hr => by unfold aPlan; simp only [u2_ap]; (repeat' split) <;> first | rfl | omega
  have e8 : aPlan A x0 x1 x2 x3 8 (A 0 4).toNat = x0 := by unfold aPlan; simp [u2_ap]
  have e9 : aPlan A x0 x1 x2 x3 9 (A 0 4).toNat = x1 := by unfold aPlan; simp [u2_ap]
  have e10 : aPlan A x0 x1 x2 x3 10 (A 0 4).toNat = x2 := by unfold aPlan; simp [u2_ap]
  have e11 : aPlan A x0 x1 x2 x3 11 (A 0 4).toNat = x3 := by unfold aPlan; simp [u2_ap]
  refine ⟨?_, ?_, ?_, ?_, ?_, ?_, ?_⟩
  · intro j hj
    by_cases hj2 : j = 4
    · rw [hj2, ec1]; exact h4
    · rw [ec j hj2, hf j hj2 hj]; exact g0 j hj
  · intro i hi j hj
    rw [show fP (aPlan A x0 x1 x2 x3) = (A 0 3).toNat from congrArg Int.toNat (ec 3 (by decide))] at hi
    rw [er _ _ (by omega) (by omega), hfr _ (by omega) (by omega) (by omega)]
    exact g1 i hi j hj
  · intro i hi j hj
    rw [show fPl (aPlan A x0 x1 x2 x3) = (A 0 4 + 1).toNat from congrArg Int.toNat ec1] at hi
    by_cases hi2 : i = (A 0 4).toNat
    · subst hi2
      rcases (by omega : j = 0 ∨ j = 1 ∨ j = 2 ∨ j = 3) with rfl | rfl | rfl | rfl
      · exact r0.trans e8.symm
      · exact r1.trans e9.symm
      · exact r2.trans e10.symm
      · exact r3.trans e11.symm
    · rw [er _ _ (by omega) (by omega), hfr _ (by omega) (by omega) (by omega)]
      exact g2 i (show i < (A 0 4).toNat by omega) j hj
  · intro i hi j hj
    rw [show fBu (aPlan A x0 x1 x2 x3) = (A 0 5).toNat from congrArg Int.toNat (ec 5 (by decide))] at hi
    rw [er _ _ (by omega) (by omega), hfr _ (by omega) (by omega) (by omega)]
    exact g3 i hi j hj
  · intro i hi j hj
    rw [show fDi (aPlan A x0 x1 x2 x3) = (A 0 8).toNat from congrArg Int.toNat (ec 8 (by decide))] at hi
    rw [er _ _ (by omega) (by omega), hfr _ (by omega) (by omega) (by omega)]
    exact g4 i hi j hj
  · intro s hs
    rw [show fSe (aPlan A x0 x1 x2 x3) = (A 0 6).toNat from congrArg Int.toNat (ec 6 (by decide))] at hs
    rw [er _ _ (by decide) (by omega), hfr _ (by omega) (by omega) (by omega)]
    exact g5 s hs
  · intro j hj
    rw [er _ _ (by decide) (by omega), hfr _ (by omega) (by omega) (by omega)]
    exact g6 j hj
theorem FC_Buys {V V' A : Nat → Nat → Int} {f : Nat} {x0 x1 x2 x3 : Int} (hF : FC V f A) (hA : VA A) (hroom : A 0 5 < 8) (hfr : ∀ b, f < b → b < f + 45 → b ≠ f + 26 + (A 0 5).toNat → V' b = V b) (hf : ∀ c, c ≠ 5 → c < 9 → V' f c = V f c) (h5 : V' f 5 = A 0 5 + 1) (r0 : V' (f + 26 + (A 0 5).toNat) 0 = x0) (r1 : V' (f + 26 + (A 0 5).toNat) 1 = x1) (r2 : V' (f + 26 + (A 0 5).toNat) 2 = x2) (r3 : V' (f + 26 + (A 0 5).toNat) 3 = x3) : FC V' f (aBuys A x0 x1 x2 x3) := by
  obtain ⟨hA0, hA1, hA2, hA3, hA4, hA5, hA6, hA7, hA8, -⟩ := hA
  obtain ⟨g0, g1, g2, g3, g4, g5, g6⟩ := hF
  have ec : ∀ c, c ≠ 5 → aBuys A x0 x1 x2 x3 0 c = A 0 c := fun c hc => by unfold aBuys; simp only [u2_ap]; (repeat' split) <;> first | rfl | omega
  have ec1 : aBuys A x0 x1 x2 x3 0 5 = A 0 5 + 1 := by unfold aBuys; rw [u2_s, u1_s]
  have er : ∀ r c, r ≠ 0 → (r < 12 ∨ 16 ≤ r ∨ c ≠ (A 0 5).toNat) → aBuys A x0 x1 x2 x3 r c = A r c := fun r c h0 hr => by unfold aBuys; simp only [u2_ap]; (repeat' split) <;> first | rfl | omega
  have e12 : aBuys A x0 x1 x2 x3 12 (A 0 5).toNat = x0 := by unfold aBuys; simp [u2_ap]
  have e13 : aBuys A x0 x1 x2 x3 13 (A 0 5).toNat = x1 := by unfold aBuys; simp [u2_ap]
  have e14 : aBuys A x0 x1 x2 x3 14 (A 0 5).toNat = x2 := by unfold aBuys; simp [u2_ap]
  have e15 : aBuys A x0 x1 x2 x3 15 (A 0 5).toNat = x3 := by unfold aBuys; simp [u2_ap]
  refine ⟨?_, ?_, ?_, ?_, ?_, ?_, ?_⟩
  · intro j hj
    by_cases hj2 : j = 5
    · rw [hj2, ec1]; exact h5
    · rw [ec j hj2, hf j hj2 hj]; exact g0 j hj
  · intro i hi j hj
    rw [show fP (aBuys A x0 x1 x2 x3) = (A 0 3).toNat from congrArg Int.toNat (ec 3 (by decide))] at hi
    rw [er _ _ (by omega) (by omega), hfr _ (by omega) (by omega) (by omega)]
    exact g1 i hi j hj
  · intro i hi j hj
    rw [show fPl (aBuys A x0 x1 x2 x3) = (A 0 4).toNat from congrArg Int.toNat (ec 4 (by decide))] at hi
    rw [er _ _ (by omega) (by omega), hfr _ (by omega) (by omega) (by omega)]
    exact g2 i hi j hj
  · intro i hi j hj
    rw [show fBu (aBuys A x0 x1 x2 x3) = (A 0 5 + 1).toNat from congrArg Int.toNat ec1] at hi
    by_cases hi2 : i = (A 0 5).toNat
    · subst hi2
      rcases (by omega : j = 0 ∨ j = 1 ∨ j = 2 ∨ j = 3) with rfl | rfl | rfl | rfl
      · exact r0.trans e12.symm
      · exact r1.trans e13.symm
      · exact r2.trans e14.symm
      · exact r3.trans e15.symm
    · rw [er _ _ (by omega) (by omega), hfr _ (by omega) (by omega) (by omega)]
      exact g3 i (show i < (A 0 5).toNat by omega) j hj
  · intro i hi j hj
    rw [show fDi (aBuys A x0 x1 x2 x3) = (A 0 8).toNat from congrArg Int.toNat (ec 8 (by decide))] at hi
    rw [er _ _ (by omega) (by omega), hfr _ (by omega) (by omega) (by omega)]
    exact g4 i hi j hj
  · intro s hs
    rw [show fSe (aBuys A x0 x1 x2 x3) = (A 0 6).toNat from congrArg Int.toNat (ec 6 (by decide))] at hs
    rw [er _ _ (by decide) (by omega), hfr _ (by omega) (by omega) (by omega)]
    exact g5 s hs
  · intro j hj
    rw [er _ _ (by decide) (by omega), hfr _ (by omega) (by omega) (by omega)]
    exact g6 j hj
theorem FC_Diar {V V' A : Nat → Nat → Int} {f : Nat} {x0 x1 x2 : Int} (hF : FC V f A) (hA : VA A) (hroom : A 0 8 < 8) (hfr : ∀ b, f < b → b < f + 45 → b ≠ f + 35 + (A 0 8).toNat → V' b = V b) (hf : ∀ c, c ≠ 8 → c < 9 → V' f c = V f c) (h8 : V' f 8 = A 0 8 + 1) (r0 : V' (f + 35 + (A 0 8).toNat) 0 = x0) (r1 : V' (f + 35 + (A 0 8).toNat) 1 = x1) (r2 : V' (f + 35 + (A 0 8).toNat) 2 = x2) : FC V' f (aDiar A x0 x1 x2) := by
  obtain ⟨hA0, hA1, hA2, hA3, hA4, hA5, hA6, hA7, hA8, -⟩ := hA
  obtain ⟨g0, g1, g2, g3, g4, g5, g6⟩ := hF
  have ec : ∀ c, c ≠ 8 → aDiar A x0 x1 x2 0 c = A 0 c := fun c hc => by unfold aDiar; simp only [u2_ap]; (repeat' split) <;> first | rfl | omega
  have ec1 : aDiar A x0 x1 x2 0 8 = A 0 8 + 1 := by unfold aDiar; rw [u2_s, u1_s]
  have er : ∀ r c, r ≠ 0 → (r < 18 ∨ 21 ≤ r ∨ c ≠ (A 0 8).toNat) → aDiar A x0 x1 x2 r c = A r c := fun r c h0 hr => by unfold aDiar; simp only [u2_ap]; (repeat' split) <;> first | rfl | omega
  have e18 : aDiar A x0 x1 x2 18 (A 0 8).toNat = x0 := by unfold aDiar; simp [u2_ap]
  have e19 : aDiar A x0 x1 x2 19 (A 0 8).toNat = x1 := by unfold aDiar; simp [u2_ap]
  have e20 : aDiar A x0 x1 x2 20 (A 0 8).toNat = x2 := by unfold aDiar; simp [u2_ap]
  refine ⟨?_, ?_, ?_, ?_, ?_, ?_, ?_⟩
  · intro j hj
    by_cases hj2 : j = 8
    · rw [hj2, ec1]; exact h8
    · rw [ec j hj2, hf j hj2 hj]; exact g0 j hj
  · intro i hi j hj
    rw [show fP (aDiar A x0 x1 x2) = (A 0 3).toNat from congrArg Int.toNat (ec 3 (by decide))] at hi
    rw [er _ _ (by omega) (by omega), hfr _ (by omega) (by omega) (by omega)]
    exact g1 i hi j hj
  · intro i hi j hj
    rw [show fPl (aDiar A x0 x1 x2) = (A 0 4).toNat from congrArg Int.toNat (ec 4 (by decide))] at hi
    rw [er _ _ (by omega) (by omega), hfr _ (by omega) (by omega) (by omega)]
    exact g2 i hi j hj
  · intro i hi j hj
    rw [show fBu (aDiar A x0 x1 x2) = (A 0 5).toNat from congrArg Int.toNat (ec 5 (by decide))] at hi
    rw [er _ _ (by omega) (by omega), hfr _ (by omega) (by omega) (by omega)]
    exact g3 i hi j hj
  · intro i hi j hj
    rw [show fDi (aDiar A x0 x1 x2) = (A 0 8 + 1).toNat from congrArg Int.toNat ec1] at hi
    by_cases hi2 : i = (A 0 8).toNat
    · subst hi2
      rcases (by omega : j = 0 ∨ j = 1 ∨ j = 2) with rfl | rfl | rfl
      · exact r0.trans e18.symm
      · exact r1.trans e19.symm
      · exact r2.trans e20.symm
    · rw [er _ _ (by omega) (by omega), hfr _ (by omega) (by omega) (by omega)]
      exact g4 i (show i < (A 0 8).toNat by omega) j hj
  · intro s hs
    rw [show fSe (aDiar A x0 x1 x2) = (A 0 6).toNat from congrArg Int.toNat (ec 6 (by decide))] at hs
    rw [er _ _ (by decide) (by omega), hfr _ (by omega) (by omega) (by omega)]
    exact g5 s hs
  · intro j hj
    rw [er _ _ (by decide) (by omega), hfr _ (by omega) (by omega) (by omega)]
    exact g6 j hj
theorem FC_N {V A : Nat → Nat → Int} {f : Nat} {w sec num : Int} (hF : FC V f A) : FC V f (adN A w sec num) := by
  obtain ⟨g0, g1, g2, g3, g4, g5, g6⟩ := hF
  have e0 : ∀ c, c ≠ 9 → adN A w sec num 0 c = A 0 c := fun c hc => by unfold adN; simp only [u2_ap]; (repeat' split) <;> first | rfl | omega
  have er : ∀ r c, r ≠ 0 → (r < 21 ∨ 24 ≤ r) → adN A w sec num r c = A r c := fun r c h0 hr => by unfold adN; simp only [u2_ap]; (repeat' split) <;> first | rfl | omega
  refine ⟨fun j hj => (g0 j hj).trans (e0 j (by omega)).symm, fun i hi j hj => ?_, fun i hi j hj => ?_, fun i hi j hj => ?_, fun i hi j hj => ?_, fun s hs => ?_, fun j hj => ?_⟩
  · rw [er _ _ (by omega) (by omega)]; exact g1 i (by rw [show fP (adN A w sec num) = fP A from congrArg Int.toNat (e0 3 (by decide))] at hi; exact hi) j hj
  · rw [er _ _ (by omega) (by omega)]; exact g2 i (by rw [show fPl (adN A w sec num) = fPl A from congrArg Int.toNat (e0 4 (by decide))] at hi; exact hi) j hj
  · rw [er _ _ (by omega) (by omega)]; exact g3 i (by rw [show fBu (adN A w sec num) = fBu A from congrArg Int.toNat (e0 5 (by decide))] at hi; exact hi) j hj
  · rw [er _ _ (by omega) (by omega)]; exact g4 i (by rw [show fDi (adN A w sec num) = fDi A from congrArg Int.toNat (e0 8 (by decide))] at hi; exact hi) j hj
  · rw [er _ _ (by omega) (by omega)]; exact g5 s (by rw [show fSe (adN A w sec num) = fSe A from congrArg Int.toNat (e0 6 (by decide))] at hs; exact hs)
  · rw [er _ _ (by omega) (by omega)]; exact g6 j hj
