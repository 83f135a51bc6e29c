/-! ===== the reference's reader: what a line leaves ===== -/
def pbS (σ : SG) (k : Nat → PR) : PR := match σ with
  | .inl c => .inl c
  | .inr i => k i
section Pb
variable {t : Nat → Int} {e : Nat} {A : Nat → Nat → Int} {σ : SG}
theorem ebN {lo hi : Int} {k : Int → Nat → PR} : pbS σ (fun i => eN t e i lo hi fun x i => k x i) = pbS (sN t e lo hi σ) (fun i => k (vN t e lo hi σ) i) := by
  cases σ with
  | inl c => rfl
  | inr i =>
    show eN t e i lo hi _ = pbS (if _ then _ else _) (k (if _ then _ else _))
    unfold eN eT
    by_cases h : whB t e i lo hi = true
    · rw [if_pos h, if_pos h, if_pos h]; rfl
    · rw [if_neg h, if_neg h]; rfl
theorem ebW {j : Nat} {k : Nat → PR} : pbS σ (fun i => eW t e i j fun i => k i) = pbS (sNd t e j σ) (fun i => k i) := by
  cases σ with
  | inl c => rfl
  | inr i =>
    show eW t e i j _ = pbS (if _ then _ else _) k
    unfold eW eT
    by_cases h : sw t e i j = true
    · rw [if_pos h, if_pos h]; rfl
    · rw [if_neg h, if_neg h]; rfl
theorem ebM {c : Int} {k : Int → Nat → PR} : pbS σ (fun i => eM t e A i c fun x _ i => k x i) = pbS (sG t e (sK t e A c σ)) (fun i => k (vK t e A c σ) i) := by
  cases σ with
  | inl c => rfl
  | inr i =>
    by_cases h : nmB t e A c i = true
    · rw [show sK t e A c (.inr i) = .inr i from if_pos h, show vK t e A c (.inr i) = nmX t e A i from if_pos h]; exact if_pos h
    · rw [show sK t e A c (.inr i) = .inl (nxC t e i 2, tkS t e i) from if_neg h]; exact if_neg h
end Pb
def ctR (A : Nat → Nat → Int) (ρ : Nat) : Nat := if ρ ≤ 7 then fP A else if ρ ≤ 11 then fPl A else if ρ ≤ 15 then fBu A else if ρ = 16 then fSe A else if ρ = 17 then 80 else fDi A
theorem MF_get {V : Nat → Nat → Int} {J : Nat → Nat → Int64} {f : Nat} {A : Nat → Nat → Int} (h : MF V J f A) : ∀ ρ, 1 ≤ ρ → ρ ≤ 20 → ∀ j, j < ctR A ρ → V (f + ρ) j = if ρ = 20 then 1 - A ρ j else A ρ j := by
  obtain ⟨⟨h1, h2, h3, h4, h5, h6, h7⟩, -⟩ := h
  intro ρ r1 r2 j hj
  unfold ctR at hj
  split at hj
  · rw [if_neg (by omega)]
    have := h2 (ρ - 1) (by omega) j hj
    rwa [show f + 1 + (ρ - 1) = f + ρ by omega, show 1 + (ρ - 1) = ρ by omega] at this
  split at hj
  · rw [if_neg (by omega)]
    have := h3 (ρ - 8) (by omega) j hj
    rwa [show f + 8 + (ρ - 8) = f + ρ by omega, show 8 + (ρ - 8) = ρ by omega] at this
  split at hj
  · rw [if_neg (by omega)]
    have := h4 (ρ - 12) (by omega) j hj
    rwa [show f + 12 + (ρ - 12) = f + ρ by omega, show 12 + (ρ - 12) = ρ by omega] at this
  split at hj
  · rename_i hr; subst hr; rw [if_neg (by omega)]; exact h5 j hj
  split at hj
  · rename_i hr; subst hr; rw [if_neg (by omega)]; exact h6 j hj
  · rcases (by omega : ρ = 18 ∨ ρ = 19 ∨ ρ = 20) with rfl | rfl | rfl
    · exact (h7 j hj).1
    · exact (h7 j hj).2.1
    · exact (h7 j hj).2.2
theorem MF_mk {V : Nat → Nat → Int} {J : Nat → Nat → Int64} {f : Nat} {A : Nat → Nat → Int} (h0 : ∀ j, j < 9 → V f j = A 0 j) (h : ∀ ρ, 1 ≤ ρ → ρ ≤ 20 → ∀ j, j < ctR A ρ → V (f + ρ) j = if ρ = 20 then 1 - A ρ j else A ρ j) (h9 : V f 9 = A 0 9 ∧ 0 ≤ A 0 9 ∧ A 0 9 ≤ 18) (hn : ∀ k, k < (A 0 9).toNat → (J (f + 21) k = lI (A 21 k) ∧ 0 ≤ A 21 k ∧ A 21 k < 1099511627776) ∧ V (f + 22) k = A 22 k ∧ V (f + 23) k = A 23 k ∧ (0 ≤ A 22 k ∧ A 22 k ≤ 1)) : MF V J f A := by
  have hc : ∀ ρ m, ctR A ρ = m → 1 ≤ ρ → ρ ≤ 19 → ∀ j, j < m → V (f + ρ) j = A ρ j := fun ρ m hm r1 r2 j hj => by have := h ρ r1 (by omega) j (by omega); rwa [if_neg (by omega)] at this
  refine ⟨⟨h0, fun c hc' p hp => ?_, fun c hc' p hp => ?_, fun c hc' p hp => ?_, fun s hs => ?_, fun j hj => ?_, fun i hi => ⟨?_, ?_, ?_⟩⟩, h9.1, h9.2, hn⟩
  · have := hc (1 + c) (fP A) (by unfold ctR; rw [if_pos (by omega)]) (by omega) (by omega) p hp; rwa [show f + (1 + c) = f + 1 + c by omega] at this
  · have := hc (8 + c) (fPl A) (by unfold ctR; rw [if_neg (by omega), if_pos (by omega)]) (by omega) (by omega) p hp; rwa [show f + (8 + c) = f + 8 + c by omega] at this
  · have := hc (12 + c) (fBu A) (by unfold ctR; rw [if_neg (by omega), if_neg (by omega), if_pos (by omega)]) (by omega) (by omega) p hp; rwa [show f + (12 + c) = f + 12 + c by omega] at this
  · exact hc 16 (fSe A) rfl (by omega) (by omega) s hs
  · exact hc 17 80 rfl (by omega) (by omega) j hj
  · exact hc 18 (fDi A) rfl (by omega) (by omega) i hi
  · exact hc 19 (fDi A) rfl (by omega) (by omega) i hi
  · exact h 20 (by omega) (by omega) i hi
/-- a line's rows are written -/
def rwU (V V' A A' : Nat → Nat → Int) (f ρ : Nat) : Prop := (ctR A' ρ = ctR A ρ ∧ V' (f + ρ) = V (f + ρ) ∧ A' ρ = A ρ) ∨ (ctR A' ρ = ctR A ρ + 1 ∧ ∃ x, V' (f + ρ) = u1 (V (f + ρ)) (ctR A ρ) (if ρ = 20 then 1 - x else x) ∧ A' ρ = u1 (A ρ) (ctR A ρ) x) ∨ (ctR A' ρ = ctR A ρ ∧ ρ ≠ 20 ∧ ∃ q x, V' (f + ρ) = u1 (V (f + ρ)) q x ∧ A' ρ = u1 (A ρ) q x)
theorem MF_up {V V' : Nat → Nat → Int} {J J' : Nat → Nat → Int64} {f : Nat} {A A' : Nat → Nat → Int} (h : MF V J f A) (c0 : ∀ j, j < 9 → V' f j = A' 0 j) (c9 : V' f 9 = A' 0 9 ∧ 0 ≤ A' 0 9 ∧ A' 0 9 ≤ 18) (hr : ∀ ρ, 1 ≤ ρ → ρ ≤ 20 → rwU V V' A A' f ρ)
    (hn : (A' 0 9 = A 0 9 ∧ J' (f + 21) = J (f + 21) ∧ (V' (f + 22) = V (f + 22) ∧ V' (f + 23) = V (f + 23)) ∧ A' 21 = A 21 ∧ A' 22 = A 22 ∧ A' 23 = A 23) ∨ (∃ w s x, A' 0 9 = A 0 9 + 1 ∧ J' (f + 21) = u1 (J (f + 21)) (A 0 9).toNat (lI w) ∧ (0 ≤ w ∧ w < 1099511627776) ∧ (V' (f + 22) = u1 (V (f + 22)) (A 0 9).toNat s ∧ V' (f + 23) = u1 (V (f + 23)) (A 0 9).toNat x) ∧ (0 ≤ s ∧ s ≤ 1) ∧ A' 21 = u1 (A 21) (A 0 9).toNat w ∧ A' 22 = u1 (A 22) (A 0 9).toNat s ∧ A' 23 = u1 (A 23) (A 0 9).toNat x)) : MF V' J' f A' := by
  have hg := MF_get h
  obtain ⟨-, h8, h9, h10⟩ := h
  refine MF_mk c0 (fun ρ r1 r2 j hj => ?_) c9 (fun k hk => ?_)
  · have hgr := hg ρ r1 r2
    rcases hr ρ r1 r2 with ⟨q1, q2, q3⟩ | ⟨q1, x, q2, q3⟩ | ⟨q1, q0, q, x, q2, q3⟩
    · rw [q2, q3]; exact hgr j (by omega)
    · rw [q2, q3]
      by_cases hj2 : j = ctR A ρ
      · subst hj2; rw [u1_s, u1_s]
      · rw [u1_n hj2, u1_n hj2]; exact hgr j (by omega)
    · rw [q2, q3, if_neg q0]
      by_cases hj2 : j = q
      · subst hj2; rw [u1_s, u1_s]
      · rw [u1_n hj2, u1_n hj2]; have := hgr j (by omega); rwa [if_neg q0] at this
  · rcases hn with ⟨q0, q1, ⟨q2, q3⟩, q4, q5, q6⟩ | ⟨w, s, x, q0, q1, qw, ⟨q2, q3⟩, qs, q4, q5, q6⟩
    · rw [q1, q2, q3, q4, q5, q6]; exact h10 k (by omega)
    · rw [q1, q2, q3, q4, q5, q6]
      by_cases hk2 : k = (A 0 9).toNat
      · subst hk2; rw [u1_s, u1_s, u1_s, u1_s, u1_s, u1_s]; exact ⟨⟨rfl, qw⟩, rfl, rfl, qs⟩
      · rw [u1_n hk2, u1_n hk2, u1_n hk2, u1_n hk2, u1_n hk2, u1_n hk2]; exact h10 k (by omega)
def KL (V V' : Nat → Nat → Int) (J J' : Nat → Nat → Int64) (r f : Nat) : Prop := (∀ b, b ≠ r → (b < f ∨ f + 24 ≤ b) → V' b = V b) ∧ (∀ c, c < 8 ∨ 14 ≤ c → V' r c = V r c) ∧ ∀ b, b ≠ r → (b < f ∨ f + 24 ≤ b) → J' b = J b
def LZ (t : Nat → Int) (V : Nat → Nat → Int) (J : Nat → Nat → Int64) (A : Nat → Nat → Int) (r f e : Nat) : PR → Prop
  | .inl c => MZ t V J A r f e (.inl c)
  | .inr s => MZ t V J s.1 r f e (.inr s.2)
def LQ (T : Nat → Nat × Nat) (R : Nat → Nat → Option Nat) (J : Nat → Nat → Int64) (z : Nat) (t : Nat → Int) (V A : Nat → Nat → Int) (r f e : Nat) (p : PR) : Option Value → Mem → Prop := fun v M => v = none ∧ ∃ V' J', M = (T, iV V', R, J', z) ∧ KL V V' J J' r f ∧ LZ t V' J' A r f e p
theorem KL_S {V V' : Nat → Nat → Int} {J J' : Nat → Nat → Int64} {r f : Nat} (h : KS V V' J J' r) : KL V V' J J' r f := ⟨fun b h1 _ => h.1 b h1, h.2.1, fun b h1 _ => h.2.2 b h1⟩
theorem KL_t {V V1 V2 : Nat → Nat → Int} {J J1 J2 : Nat → Nat → Int64} {r f : Nat} (a : KL V V1 J J1 r f) (b : KL V1 V2 J1 J2 r f) : KL V V2 J J2 r f := ⟨fun c h q => (b.1 c h q).trans (a.1 c h q), fun c h => (b.2.1 c h).trans (a.2.1 c h), fun c h q => (b.2.2 c h q).trans (a.2.2 c h q)⟩
theorem TK_f {t : Nat → Int} {V V' : Nat → Nat → Int} {J J' : Nat → Nat → Int64} {r e i : Nat} (h : TK t V J r e i) (hv : V' r = V r) (hj : J' r = J r) : TK t V' J' r e i := by unfold TK; rw [hv, hj]; exact h
/-- the values stay in their bounds -/
theorem vN_b {t : Nat → Int} {e : Nat} {lo hi : Int} {σ : SG} (h : R32 lo) : R32 (vN t e lo hi σ) := by
  cases σ with
  | inl c => exact h
  | inr i =>
    show R32 (if _ then _ else _)
    split
    · rename_i hw
      have := tkX_whole (of_decide_eq_true hw).1
      exact ⟨by omega, by omega⟩
    · exact h
theorem vN_v {t : Nat → Int} {e : Nat} {lo hi : Int} {σ : SG} {i : Nat} (h : sN t e lo hi σ = .inr i) : lo ≤ vN t e lo hi σ ∧ vN t e lo hi σ ≤ hi ∧ ∃ i', σ = .inr i' := by
  cases σ with
  | inl c => cases h
  | inr i' =>
    unfold sN at h
    unfold vN
    simp only at h ⊢
    split at h
    · rename_i hw
      rw [if_pos hw]
      have := of_decide_eq_true hw
      exact ⟨this.2.1, this.2.2, i', rfl⟩
    · cases h
theorem vK_b {t : Nat → Int} {e : Nat} {A : Nat → Nat → Int} {σ : SG} (hV : VP A) : R32 (vK t e A 0 σ) := by
  cases σ with
  | inl c => exact (show R32 0 from ⟨by decide, by decide⟩)
  | inr i =>
    show R32 (if _ then _ else _)
    have h3 := hV.1.2.2.2.1
    split
    · rename_i hw
      have := nm_b0 hV hw
      exact ⟨by omega, by omega⟩
    · exact ⟨by decide, by decide⟩
theorem sK_v {t : Nat → Int} {e : Nat} {A : Nat → Nat → Int} {c : Int} {σ : SG} {i : Nat} (h : sK t e A c σ = .inr i) : σ = .inr i ∧ nmB t e A c i = true ∧ vK t e A c σ = nmX t e A i := by
  cases σ with
  | inl c => cases h
  | inr i' =>
    unfold sK at h
    unfold vK
    simp only at h ⊢
    split at h
    · rename_i hw
      cases h
      rw [if_pos hw]
      exact ⟨rfl, hw, rfl⟩
    · cases h
theorem sG_v {t : Nat → Int} {e : Nat} {σ : SG} {i : Nat} (h : sG t e σ = .inr i) : ∃ i', σ = .inr i' ∧ i = tkN t e i' := by
  cases σ with
  | inl c => cases h
  | inr i' => cases h; exact ⟨i', rfl, rfl⟩
theorem sNd_v {t : Nat → Int} {e j : Nat} {σ : SG} {i : Nat} (h : sNd t e j σ = .inr i) : ∃ i', σ = .inr i' := by
  cases σ with
  | inl c => cases h
  | inr i' => exact ⟨i', rfl⟩
