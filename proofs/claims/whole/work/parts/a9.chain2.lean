/-! ===== the chains: the least depth ===== -/
section Ch2
variable {A B : Nat → Nat → Int} {s p : Nat}
theorem fcL_wl : ∀ c E, fcL A B c E = wlL A (fun E => passN A B E) c E
  | 0, _ => rfl
  | c + 1, E => by
    rw [fcL, wlL]
    unfold fcN
    rw [fcL_wl c]
abbrev ch0 (A B : Nat → Nat → Int) : CS2 := (wB A B, nB0 A)
theorem fc0_cell (hA : VA A) (hs : s < fSe A) (hp : p < 10) {E : Nat → Nat → Int} : fc0 A E 5 (10 * s + p) = if A 16 s = (p : Int) then 0 else -2 := by
  obtain ⟨a1, -⟩ := fc1_ok (E := u2 E 0 7 1) 80
  have eS := fS8 hA
  have eP := fP10 hA
  unfold fc0
  rw [(cwE_1 _).2 5 (by decide)]
  generalize lp 80 fc1 (u2 E 0 7 1) = E1 at *
  have key : ∀ m, m ≤ fSe A → lp m (fc2 A) E1 5 (10 * s + p) = if s < m ∧ A 16 s = (p : Int) then 0 else -2 := by
    intro m
    induction m with
    | zero => intro _; rw [if_neg (by omega)]; exact a1 _ (by omega)
    | succ m ih =>
      intro hm
      have ih := ih (by omega)
      have h16 := hA.2.2.2.2.2.2.2.2.2.2.2.2.1 m (by omega)
      rw [lp_s]
      generalize lp m (fc2 A) E1 = F at *
      unfold fc2
      rw [u2_s]
      by_cases e : 10 * s + p = 10 * m + (A 16 m).toNat
      · have em : s = m := by omega
        subst em
        rw [e, u1_s, if_pos ⟨by omega, by omega⟩]
      · rw [u1_n e, ih]
        by_cases c : s < m ∧ A 16 s = (p : Int)
        · rw [if_pos c, if_pos ⟨by omega, c.2⟩]
        · rw [if_neg c, if_neg (fun q => c ⟨by
            by_cases c2 : s = m
            · subst c2
              exact absurd (by omega : 10 * s + p = 10 * s + (A 16 s).toNat) e
            · omega, q.2⟩)]
  rw [key (fSe A) (Nat.le_refl _)]
  by_cases c : A 16 s = (p : Int)
  · rw [if_pos ⟨hs, c⟩, if_pos c]
  · rw [if_neg (fun q => c q.2), if_neg c]
theorem fc_full (hA : VA A) (hB : VB A B) (hP : 1 ≤ fP A) (hs : s < fSe A) (hp : p < 10) {E : Nat → Nat → Int} (hN : NOk (fun j => E (11 + j))) (h7 : E 0 7 = 0) : fcE A B E 5 (10 * s + p) = fuS (chG A B s p) 4 0 (ch0 A B) (if A 16 s = (p : Int) then 0 else -2) := by
  have hG := chG_ok (A := A) (B := B) (s := s) (p := p) hP
  have h0 := fc0_ok (A := A) hN
  have hz : ∀ j, j < 4 → fc0 A E 1 j = 0 := fun j hj => by unfold fc0; exact (cwE_1 _).1 j hj
  rw [← reS_0 hG (w := fc0 A E 1) 4 0 (ch0 A B) _ (fun j q1 q2 => hz j (by omega))]
  unfold fcE
  rw [if_pos h7, fcL_wl]
  have := wlL_eq (I := fun F x => NOk (fun j => F (11 + j)) ∧ CHk F ∧ F 5 (10 * s + p) = x) (m := 4) (s0 := ch0 A B) (tr := fun E => passN A B E) hA hG rfl ⟨by decide, by decide⟩ (fun F x hF hx => ?_) (fun F F' x hF hx => ?_) 10000 (fc0 A E) (if A 16 s = (p : Int) then 0 else -2) (fun j hj => h0.2.2 j hj) ⟨h0.1, h0.2.1, fc0_cell hA hs hp⟩ ?_
  · exact this.2.2
  · obtain ⟨x1, x2, rfl⟩ := hx
    have hk := pnB_ok hA hB x1 x2 hF
    have hpn := passN_ok hA hB (E := F) ⟨x1, x2, hF⟩
    have e5 : pnB A B F 5 = F 5 := by unfold pnB; rw [pB_out (by decide), pB_out (by decide)]
    have e1 : pnB A B F 1 = F 1 := by unfold pnB; rw [pB_out (by decide), pB_out (by decide)]
    have hre : RE A 0 (fun j => pnB A B F (6 + j)) (ch0 A B).1 := by
      intro a j hd
      have ha : a < 5 := by unfold dm at hd; omega
      show pnB A B F (6 + a) j = _
      unfold pnB
      rw [pB_out (by omega), pB_at ha]
      exact RE_beg (A := A) (W := fun j => F (6 + j)) (W' := A0) a j hd
    have hne : NE A (fun j => pnB A B F (11 + j)) (ch0 A B).2 := by
      have hb := NE_beg (A := A) (N := fun j => pB F 6 5 (rBeg A (fun j => F (6 + j)) (B 0 0) (B 0 1)) (11 + j)) (N' := A0) hA
      have q : ∀ j, j < 3 → pnB A B F (11 + j) = nBeg A (fun j => pB F 6 5 (rBeg A (fun j => F (6 + j)) (B 0 0) (B 0 1)) (11 + j)) j := fun j hj => by unfold pnB; rw [pB_at hj]
      refine ⟨?_, fun r hr => ?_, fun r hr hbt => ?_⟩
      · show pnB A B F (11 + 0) 1 = _
        rw [q 0 (by decide)]; exact hb.1
      · show pnB A B F (11 + 1) r = _
        rw [q 1 (by decide)]; exact hb.2.1 r hr
      · have hbt : (pnB A B F (11 + 0) 1).toNat.testBit r = true := hbt
        rw [q 0 (by decide)] at hbt
        show pnB A B F (11 + 2) r = _
        rw [q 2 (by decide)]; exact hb.2.2 r hr hbt
    have := pnA_I hA hB hs hp 4 0 (pnB A B F) (ch0 A B) (by omega) hk hre hne
    rw [e1, e5] at this
    exact ⟨this.1, ⟨hpn.2.1, hpn.2.2.1, this.2.1⟩, this.2.2⟩
  · obtain ⟨x1, x2, x3⟩ := hx
    refine ⟨x1.con (fun j hj => hF _ (by omega)), fun j hj => ?_, ?_⟩
    · rw [hF 5 (by decide)]; exact x2 j hj
    · rw [hF 5 (by decide)]; exact x3
  · unfold vlW
    rw [hz 0 (by decide), hz 1 (by decide), hz 2 (by decide), hz 3 (by decide)]
    decide
/-- who sits and knows, somewhere below, at depth t; who knows, at the end -/
def KnC (A B : Nat → Nat → Int) (s p : Nat) : Nat → Nat → CS2 → Nat → Prop
  | 0, _, _, _ => False
  | d + 1, y, S, t => ∃ q : Nat, q < fP A ∧ mwOk A B S.1 y (q : Int) = true ∧ ((t = y + 1 ∧ hiC s p (chX A B S y (q : Int)) y) ∨ KnC A B s p d (y + 1) (chX A B S y (q : Int)) t)
def JnC (A B : Nat → Nat → Int) (s p : Nat) : Nat → Nat → CS2 → Prop
  | 0, _, S => (S.2 1 p).toNat.testBit s = true
  | d + 1, y, S => ∃ q : Nat, q < fP A ∧ mwOk A B S.1 y (q : Int) = true ∧ JnC A B s p d (y + 1) (chX A B S y (q : Int))
def LqC (x v : Int) (H : Nat → Prop) : Prop := (v = -2 ∨ 0 ≤ v) ∧ ∀ t : Int, (0 ≤ v ∧ v ≤ t) ↔ ((0 ≤ x ∧ x ≤ t) ∨ ∃ u : Nat, (u : Int) ≤ t ∧ H u)
theorem LqC_id {x : Int} {H : Nat → Prop} (hx : x = -2 ∨ 0 ≤ x) (hH : ∀ u, ¬ H u) : LqC x x H := ⟨hx, fun t => ⟨Or.inl, fun h => by
  rcases h with h | ⟨u, -, h⟩
  · exact h
  · exact absurd h (hH u)⟩⟩
theorem LqC_c {x v v' : Int} {H H' K : Nat → Prop} (h1 : LqC x v H) (h2 : LqC v v' H') (hK : ∀ u, K u ↔ (H u ∨ H' u)) : LqC x v' K := by
  refine ⟨h2.1, fun t => ?_⟩
  rw [h2.2 t, h1.2 t]
  constructor
  · rintro ((h | ⟨u, hu, h⟩) | ⟨u, hu, h⟩)
    · exact Or.inl h
    · exact Or.inr ⟨u, hu, (hK u).mpr (Or.inl h)⟩
    · exact Or.inr ⟨u, hu, (hK u).mpr (Or.inr h)⟩
  · rintro (h | ⟨u, hu, h⟩)
    · exact Or.inl (Or.inl h)
    · rcases (hK u).mp h with h | h
      · exact Or.inl (Or.inr ⟨u, hu, h⟩)
      · exact Or.inr ⟨u, hu, h⟩
theorem chE_L {S : CS2} {y : Nat} {x : Int} (hx : x = -2 ∨ 0 ≤ x) : LqC x (chE s p S y x) (fun u => u = y + 1 ∧ hiC s p S y) := by
  unfold chE mnC
  by_cases c : hiC s p S y
  · rw [if_pos c]
    by_cases c2 : x < 0 ∨ ((y + 1 : Nat) : Int) < x
    · rw [if_pos c2]
      refine ⟨Or.inr (by omega), fun t => ⟨fun h => Or.inr ⟨y + 1, h.2, rfl, c⟩, fun h => ?_⟩⟩
      rcases h with h | ⟨u, hu, rfl, -⟩ <;> omega
    · rw [if_neg c2]
      refine ⟨hx, fun t => ⟨Or.inl, fun h => ?_⟩⟩
      rcases h with h | ⟨u, hu, rfl, -⟩
      · exact h
      · omega
  · rw [if_neg c]
    exact LqC_id hx (fun u h => c h.2)
theorem fuS_L : ∀ (d y : Nat) (S : CS2) (x : Int), (x = -2 ∨ 0 ≤ x) → LqC x (fuS (chG A B s p) d y S x) (KnC A B s p d y S)
  | 0, y, S, x, hx => LqC_id hx (fun u h => h)
  | d + 1, y, S, x, hx => by
    rw [fuS_s, fr_lp0]
    have key : ∀ q, LqC x (lp q (fcS (chG A B s p) d y S) x) (fun t => ∃ q' : Nat, q' < q ∧ mwOk A B S.1 y (q' : Int) = true ∧ ((t = y + 1 ∧ hiC s p (chX A B S y (q' : Int)) y) ∨ KnC A B s p d (y + 1) (chX A B S y (q' : Int)) t)) := by
      intro q
      induction q with
      | zero => exact LqC_id hx (fun u ⟨q', h, _⟩ => absurd h (by omega))
      | succ q ih =>
        rw [lp_s]
        have hx1 := ih.1
        generalize lp q (fcS (chG A B s p) d y S) x = x1 at *
        by_cases c : mwOk A B S.1 y (q : Int) = true
        · have ef : fcS (chG A B s p) d y S q x1 = fuS (chG A B s p) d (y + 1) (chX A B S y (q : Int)) (chE s p (chX A B S y (q : Int)) y x1) := if_pos c
          rw [ef]
          have l1 := chE_L (s := s) (p := p) (S := chX A B S y (q : Int)) (y := y) hx1
          have l2 := fuS_L d (y + 1) (chX A B S y (q : Int)) _ l1.1
          refine LqC_c ih (LqC_c l1 l2 (fun u => Iff.rfl)) (fun u => ?_)
          constructor
          · rintro ⟨q', h1, h2, h3⟩
            by_cases e : q' = q
            · subst e; exact Or.inr h3
            · exact Or.inl ⟨q', by omega, h2, h3⟩
          · rintro (⟨q', h1, h2, h3⟩ | h3)
            · exact ⟨q', by omega, h2, h3⟩
            · exact ⟨q, by omega, c, h3⟩
        · have ef : fcS (chG A B s p) d y S q x1 = x1 := if_neg c
          rw [ef]
          refine LqC_c ih (LqC_id hx1 (H := fun _ => False) (fun u h => h)) (fun u => ?_)
          constructor
          · rintro ⟨q', h1, h2, h3⟩
            by_cases e : q' = q
            · subst e; exact absurd h2 c
            · exact Or.inl ⟨q', by omega, h2, h3⟩
          · rintro (⟨q', h1, h2, h3⟩ | h3)
            · exact ⟨q', by omega, h2, h3⟩
            · exact absurd h3 (fun h => h)
    exact key (fP A)
theorem fuS_z : ∀ (d y : Nat) (S : CS2), fuS (chG A B s p) d y S 0 = 0
  | 0, _, _ => rfl
  | d + 1, y, S => by
    rw [fuS_s]
    refine fr_id (fun q => ?_) _ _
    unfold fcS
    split
    · have : sE (chG A B s p) (sX (chG A B s p) S y (q : Int)) y 0 = 0 := by
        show chE s p _ y 0 = 0
        unfold chE mnC
        split
        · rw [if_neg (by omega)]
        · rfl
      rw [this]
      exact fuS_z d (y + 1) _
    · rfl
theorem nst_keep {W' N : Nat → Nat → Int} {y : Nat} (hA : VA A) (hw : W' 4 y < A 0 3) (h : W' 4 y ≠ (p : Int)) : nst A W' N y 1 p = N 1 p := by
  unfold nst
  have eP := fP10 hA
  split
  · exact (NE_turn (A := A) (N := N) (N' := N) NE_rfl (show (W' 4 y).toNat < 10 by omega)).2 p (by omega)
  · rfl
theorem Jn_Kn (hA : VA A) : ∀ (d D y : Nat) (S : CS2), d ≤ D → ROk A S.1 y → (S.2 1 p).toNat.testBit s = false → JnC A B s p d y S → ∃ u, u ≤ y + d ∧ KnC A B s p D y S u
  | 0, D, y, S, _, _, h0, h => by
    have h : (S.2 1 p).toNat.testBit s = true := h
    rw [h0] at h; cases h
  | d + 1, D, y, S, hD, hk, h0, ⟨q, h1, h2, h3⟩ => by
    obtain ⟨D, rfl⟩ : ∃ D', D = D' + 1 := ⟨D - 1, by omega⟩
    have hk1 := mwW_ok (B := B) hA hk (by omega) h2
    by_cases c : ((chX A B S y (q : Int)).2 1 p).toNat.testBit s = true
    · refine ⟨y + 1, by omega, q, h1, h2, Or.inl ⟨rfl, ?_, c⟩⟩
      refine Classical.byContradiction fun c2 => ?_
      have : (chX A B S y (q : Int)).2 1 p = S.2 1 p := nst_keep hA (hk1.2.2.2.2.2.2.2.2.2 y (by omega)).2 c2
      rw [this, h0] at c
      cases c
    · obtain ⟨u, u1, u2⟩ := Jn_Kn hA d D (y + 1) (chX A B S y (q : Int)) (by omega) hk1 (by cases hb : ((chX A B S y (q : Int)).2 1 p).toNat.testBit s; rfl; exact absurd hb c) h3
      exact ⟨u, by omega, q, h1, h2, Or.inr u2⟩
theorem Kn_Jn : ∀ (D y : Nat) (S : CS2) (u : Nat), KnC A B s p D y S u → (y < u ∧ u ≤ y + D) ∧ JnC A B s p (u - y) y S
  | 0, y, S, u, h => absurd h (fun h => h)
  | D + 1, y, S, u, ⟨q, h1, h2, h3⟩ => by
    rcases h3 with ⟨rfl, -, h4⟩ | h3
    · refine ⟨by omega, ?_⟩
      rw [show y + 1 - y = 1 by omega]
      exact ⟨q, h1, h2, h4⟩
    · obtain ⟨i1, i2⟩ := Kn_Jn D (y + 1) _ u h3
      refine ⟨by omega, ?_⟩
      rw [show u - y = (u - (y + 1)) + 1 by omega]
      exact ⟨q, h1, h2, i2⟩
theorem trS_J {N : Nat} (hP : 1 ≤ fP A) : ∀ (d y : Nat) (ch : Nat → Int) (x : SS), y + d = N → x.2.2 = false → ((trS A B N s p false d y ch x).2.2 = true ↔ JnC A B s p d y (wt A B ch (wB A B) y, nt A B ch (wB A B) (nB0 A) y))
  | 0, y, ch, x, hy, _ => by
    have e : y = N := by omega
    subst e
    exact Iff.rfl
  | d + 1, y, ch, x, hy, hx => by
    have ew : ∀ v, (wt A B (u1 ch y v) (wB A B) (y + 1), nt A B (u1 ch y v) (wB A B) (nB0 A) (y + 1)) = chX A B (wt A B ch (wB A B) y, nt A B ch (wB A B) (nB0 A) y) y v := fun v => by
      have e1 : wt A B (u1 ch y v) (wB A B) (y + 1) = mwW A B (wt A B ch (wB A B) y) y v := by
        show mwW A B (wt A B (u1 ch y v) (wB A B) y) y (u1 ch y v y) = _
        rw [u1_s, wt_c (ch := u1 ch y v) (ch' := ch) y (fun j hj => u1_n (by omega))]
      have e2 : nt A B (u1 ch y v) (wB A B) (nB0 A) (y + 1) = nst A (mwW A B (wt A B ch (wB A B) y) y v) (nt A B ch (wB A B) (nB0 A) y) y := by
        show nst A (wt A B (u1 ch y v) (wB A B) (y + 1)) (nt A B (u1 ch y v) (wB A B) (nB0 A) y) y = _
        rw [e1, nt_c (ch := u1 ch y v) (ch' := ch) y (fun j hj => u1_n (by omega))]
      rw [e1, e2]
      rfl
    rw [trS]
    by_cases e : rComes A B (wt A B ch (wB A B) y) y = -3
    · rw [if_pos e]
      have eo : ∀ q : Nat, mwOk A B (wt A B ch (wB A B) y) y (q : Int) = (rCn A B (wt A B ch (wB A B) y) y).testBit q := fun q => by
        unfold mwOk
        rw [if_pos e, Int.toNat_natCast]
      have key : ∀ c, (lp c (fun q x => if x.2.2 then x else if (rCn A B (wt A B ch (wB A B) y) y).testBit q then trS A B N s p false d (y + 1) (u1 ch y (q : Int)) x else x) x).2.2 = true ↔ ∃ q : Nat, q < c ∧ mwOk A B (wt A B ch (wB A B) y) y (q : Int) = true ∧ JnC A B s p d (y + 1) (chX A B (wt A B ch (wB A B) y, nt A B ch (wB A B) (nB0 A) y) y (q : Int)) := by
        intro c
        induction c with
        | zero =>
          constructor
          · intro h
            have h : x.2.2 = true := h
            rw [hx] at h; cases h
          · rintro ⟨q, h, -⟩
            omega
        | succ c ih =>
          rw [lp_s]
          generalize lp c (fun q x => if x.2.2 then x else if (rCn A B (wt A B ch (wB A B) y) y).testBit q then trS A B N s p false d (y + 1) (u1 ch y (q : Int)) x else x) x = x1 at *
          have up : ∀ K : Nat → Prop, (∃ q : Nat, q < c + 1 ∧ K q) ↔ ((∃ q : Nat, q < c ∧ K q) ∨ K c) := fun K => by
            constructor
            · rintro ⟨q, h1, h2⟩
              by_cases eq : q = c
              · subst eq; exact Or.inr h2
              · exact Or.inl ⟨q, by omega, h2⟩
            · rintro (⟨q, h1, h2⟩ | h2)
              · exact ⟨q, by omega, h2⟩
              · exact ⟨c, by omega, h2⟩
          rw [up, ← ih]
          cases hx1 : x1.2.2
          · rw [if_neg (by decide), eo]
            cases hb : (rCn A B (wt A B ch (wB A B) y) y).testBit c
            · rw [if_neg (by decide), hx1]
              simp
            · rw [if_pos rfl, trS_J hP d (y + 1) (u1 ch y (c : Int)) x1 (by omega) hx1, ew]
              simp
          · rw [if_pos rfl, hx1]
            simp
      exact key (fP A)
    · rw [if_neg e, trS_J hP d (y + 1) (u1 ch y 10) x (by omega) hx, ew]
      have e10 : chX A B (wt A B ch (wB A B) y, nt A B ch (wB A B) (nB0 A) y) y 10 = chX A B (wt A B ch (wB A B) y, nt A B ch (wB A B) (nB0 A) y) y ((0 : Nat) : Int) := by
        unfold chX mwW
        show (takeT A (wt A B ch (wB A B) y) y (if rComes A B (wt A B ch (wB A B) y) y = -3 then _ else _), _) = _
        rw [if_neg e]
        show _ = (takeT A (wt A B ch (wB A B) y) y (if rComes A B (wt A B ch (wB A B) y) y = -3 then _ else _), nst A (takeT A (wt A B ch (wB A B) y) y (if rComes A B (wt A B ch (wB A B) y) y = -3 then _ else _)) _ y)
        rw [if_neg e]
      rw [e10]
      constructor
      · intro h
        refine ⟨0, by omega, ?_, h⟩
        show mwOk A B (wt A B ch (wB A B) y) y ((0 : Nat) : Int) = true
        unfold mwOk
        rw [if_neg e]
        rfl
      · rintro ⟨q, h1, h2, h3⟩
        have h2 : mwOk A B (wt A B ch (wB A B) y) y (q : Int) = true := h2
        unfold mwOk at h2
        rw [if_neg e] at h2
        have := of_decide_eq_true h2
        have eq : q = 0 := by omega
        subst eq
        exact h3
/-- the class's chain is the reference's -/
theorem chain_eq (hA : VA A) (hB : VB A B) (hP : 1 ≤ fP A) (hs : s < fSe A) (hp : p < 10) {E : Nat → Nat → Int} (hN : NOk (fun j => E (11 + j))) (h7 : E 0 7 = 0) : fcE A B E 5 (10 * s + p) = chA A B s p := by
  rw [fc_full hA hB hP hs hp hN h7]
  unfold chA
  by_cases e : A 16 s = (p : Int)
  · rw [if_pos e, if_pos e, fuS_z]
  rw [if_neg e, if_neg e]
  have hL := fuS_L (A := A) (B := B) (s := s) (p := p) 4 0 (ch0 A B) (-2) (Or.inl rfl)
  have hJ : ∀ N, chF A B s p N = true ↔ JnC A B s p N 0 (ch0 A B) := fun N => trS_J hP N 0 (fun _ => -1) ss0 (by omega) rfl
  have hok0 : ROk A (ch0 A B).1 0 := rBeg_ok hA hB.1 hB.2.1
  have h0 : ((ch0 A B).2 1 p).toNat.testBit s = false := nBeg_bit hA hp e
  have hJK : ∀ N, N ≤ 4 → chF A B s p N = true → ∃ u, u ≤ N ∧ KnC A B s p 4 0 (ch0 A B) u := fun N hN h => by
    obtain ⟨u, u1, u2⟩ := Jn_Kn hA N 4 0 (ch0 A B) hN hok0 h0 ((hJ N).mp h)
    exact ⟨u, by omega, u2⟩
  generalize fuS (chG A B s p) 4 0 (ch0 A B) (-2) = v at *
  have e4 : fiC (chF A B s p) 4 1 = if chF A B s p 1 then 1 else if chF A B s p 2 then 2 else if chF A B s p 3 then 3 else if chF A B s p 4 then 4 else -2 := rfl
  rw [e4]
  have fF : ∀ N : Nat, N ≤ 4 → (v < 0 ∨ (N : Int) < v) → chF A B s p N = false := fun N h4 hv => by
    cases hc : chF A B s p N
    · rfl
    · obtain ⟨u, u1, u2⟩ := hJK N h4 hc
      have := (hL.2 (u : Int)).mpr (Or.inr ⟨u, Int.le_refl _, u2⟩)
      omega
  rcases hL.1 with hv | hv
  · rw [fF 1 (by decide) (by omega), fF 2 (by decide) (by omega), fF 3 (by decide) (by omega), fF 4 (by decide) (by omega)]
    exact hv
  · have h1 := (hL.2 v).mp ⟨hv, Int.le_refl _⟩
    rcases h1 with h1 | ⟨u, u1, u2⟩
    · omega
    · have h3 := (hL.2 (u : Int)).mpr (Or.inr ⟨u, Int.le_refl _, u2⟩)
      obtain ⟨k1, k2⟩ := Kn_Jn 4 0 (ch0 A B) u u2
      have eu : v = (u : Int) := by omega
      have hT := (hJ u).mpr k2
      have hu : u = 1 ∨ u = 2 ∨ u = 3 ∨ u = 4 := by omega
      rcases hu with rfl | rfl | rfl | rfl
      · rw [hT]; exact eu
      · rw [fF 1 (by decide) (by omega), hT]; exact eu
      · rw [fF 1 (by decide) (by omega), fF 2 (by decide) (by omega), hT]; exact eu
      · rw [fF 1 (by decide) (by omega), fF 2 (by decide) (by omega), fF 3 (by decide) (by omega), hT]; exact eu
end Ch2
