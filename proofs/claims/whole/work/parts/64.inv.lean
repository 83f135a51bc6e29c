/-! ===== the class's object, as a state ===== -/
/-- what Rows has found is right: it was found from some start -/
def RwOk (V : Nat → Nat → Int) (o : Nat) (A B : Nat → Nat → Int) : Prop := (∀ m, 1 ≤ m → m ≤ 4 → V (o + 178) m = 1 → ∃ E : Nat → Nat → Int, E 2 m = 0 ∧ V (o + 179) m = fdE A B m E 3 m ∧ ∀ i, i < m → V (o + 180) (4 * m + i) = fdE A B m E 4 (4 * m + i)) ∧ (V (o + 176) 7 = 1 → ∃ E : Nat → Nat → Int, E 0 7 = 0 ∧ NOk (fun j => E (11 + j)) ∧ ∀ c, c < 80 → V (o + 181) c = fcE A B E 5 c)
/-- t, tp the tape; h whether there is a family A; B now; a acts, m marks: H, K; wr, pl the latest fault; tr the latest trouble -/
def CI (T : Nat → Nat × Nat) (R : Nat → Nat → Option Nat) (V : Nat → Nat → Int) (o fw fr : Nat) (σ : Nat → Nat) (t : Nat → Int) (tp : Nat) (h : Bool) (A B : Nat → Nat → Int) (a m : Nat) (H K : Nat → Nat → Nat → Int) (wr pl tr : Int) : Prop :=
  CS T R o fw fr σ ∧ (V o 6 = bI h ∧ V o 7 = tr) ∧ (V (o + 1) 1 = wr ∧ V (o + 1) 2 = pl ∧ V (o + 1) 4 = (tp : Int) ∧ (0 ≤ V (o + 1) 9 ∧ V (o + 1) 9 ≤ 1100)) ∧ (V (o + 47) = t ∧ (∀ j, j < 1100 → -128 ≤ t j ∧ t j ≤ 127) ∧ tp ≤ 1100) ∧ PC V (o + 107) σ a m H K ∧ (FC V fw A ∧ NC V (o + 99) B ∧ VA A ∧ VB A B) ∧ (NOk (fun j => V (o + 168 + j)) ∧ NOk (fun j => V (o + 187 + j))) ∧ ((∀ m, m < 5 → 0 ≤ V (o + 178) m ∧ V (o + 178) m ≤ 1) ∧ (0 ≤ V (o + 176) 7 ∧ V (o + 176) 7 ≤ 1)) ∧
  (h = true → (4 ≤ A 0 0 ∧ 1 ≤ A 0 3) ∧ AC V (o + 102) A B ∧ (∃ Ni Wi, NOk Ni ∧ AnI A B (rBeg A Wi (B 0 0) (B 0 1)) (nBeg A Ni) (fY A) (fun j => V (o + 155 + j))) ∧ ((∀ i, i < a → VB A (H i)) ∧ (∀ i, i < m → VB A (K i))) ∧ RwOk V o A B) ∧
  (h = false → (∀ c, c < 9 → A 0 c = 0) ∧ (∀ c, c < 3 → B 0 c = 0) ∧ a = 0 ∧ m = 0)
/-- an answer, and the object behind it; nothing else has changed -/
def CQ (T : Nat → Nat × Nat) (R : Nat → Nat → Option Nat) (J : Nat → Nat → Int64) (z : Nat) (V : Nat → Nat → Int) (o : Nat) (v0 : Option Value) (t : Nat → Int) (tp : Nat) (h : Bool) (A B : Nat → Nat → Int) (a m : Nat) (H K : Nat → Nat → Nat → Int) (wr pl tr : Int) : Option Value → Mem → Prop := fun v M => v = v0 ∧ ∃ (V' : Nat → Nat → Int) (R' : Nat → Nat → Option Nat) (fw fr : Nat) (σ : Nat → Nat), M = (T, iV V', R', J, z) ∧ (∀ b, b < o ∨ o + 190 ≤ b → V' b = V b ∧ R' b = R b) ∧ CI T R' V' o fw fr σ t tp h A B a m H K wr pl tr
section CIs
variable {T : Nat → Nat × Nat} {R : Nat → Nat → Option Nat} {J : Nat → Nat → Int64} {z : Nat} {V V' : Nat → Nat → Int} {o fw fr : Nat} {σ : Nat → Nat} {t : Nat → Int} {tp : Nat} {h : Bool} {A B : Nat → Nat → Int} {a m : Nat} {H K : Nat → Nat → Nat → Int} {wr pl tr : Int}
theorem NC_eq {V V' B : Nat → Nat → Int} {o : Nat} (hN : NC V o B) (he : ∀ b, o ≤ b → b < o + 3 → V' b = V b) : NC V' o B := by
  unfold NC
  rw [he o (by omega) (by omega), he (o + 1) (by omega) (by omega), he (o + 2) (by omega) (by omega)]
  exact hN
theorem PC_eq {pa : Nat} (hC : PC V pa σ a m H K) (hs : ∀ i, i < 12 → σ i < 12) (he : ∀ b, pa ≤ b → b < pa + 48 → V' b = V b) : PC V' pa σ a m H K := by
  obtain ⟨⟨h1, h2⟩, ⟨h3, h4⟩, h5, h6⟩ := hC
  unfold PC
  rw [he pa (by omega) (by omega)]
  exact ⟨⟨h1, h2⟩, ⟨h3, h4⟩, fun i hi => NC_eq (h5 i hi) (fun b q1 q2 => he b (by omega) (by have := hs i (by omega); omega)), fun i hi => NC_eq (h6 i hi) (fun b q1 q2 => he b (by omega) (by omega))⟩
theorem AC_eq {al : Nat} (hC : AC V al A B) (he : ∀ b, al ≤ b → b < al + 5 → V' b = V b) : AC V' al A B := by
  unfold AC
  rw [he (al + 1) (by omega) (by omega), he (al + 2) (by omega) (by omega), he (al + 3) (by omega) (by omega), he (al + 4) (by omega) (by omega)]
  exact hC
theorem NOk_eq {r : Nat} (hN : NOk (fun j => V (r + j))) (he : ∀ b, r ≤ b → b < r + 3 → V' b = V b) : NOk (fun j => V' (r + j)) := by
  obtain ⟨h1, h2, h3⟩ := hN
  refine ⟨?_, fun p hp => ?_, fun s hs => ?_⟩
  · show 0 ≤ V' (r + 0) 1 ∧ V' (r + 0) 1 < 256
    rw [he _ (by omega) (by omega)]; exact h1
  · show 0 ≤ V' (r + 1) p ∧ V' (r + 1) p < 256
    rw [he _ (by omega) (by omega)]; exact h2 p hp
  · show 0 ≤ V' (r + 2) s ∧ V' (r + 2) s < 1024
    rw [he _ (by omega) (by omega)]; exact h3 s hs
/-- only o's own numbers change -/
theorem CI_o (hI : CI T R V o fw fr σ t tp h A B a m H K wr pl tr) {tr' : Int} (he : ∀ b, o < b → b < o + 190 → V' b = V b) (h6 : V' o 6 = V o 6) (h7 : V' o 7 = tr') : CI T R V' o fw fr σ t tp h A B a m H K wr pl tr' := by
  obtain ⟨hC, ⟨p6, -⟩, ⟨r1, r2, r4, r9⟩, ⟨x1, x2, x3⟩, hP, ⟨f1, f2, f3, f4⟩, ⟨n1, n2⟩, ⟨w1, w2⟩, g1, g2⟩ := hI
  have hsep := hC.2.2.2.2.2.2.2
  have hσ : ∀ i, i < 12 → σ i < 12 := fun i hi => (hC.2.2.2.1.2.1 i hi).2
  refine ⟨hC, ⟨h6.trans p6, h7⟩, ?_, ?_, PC_eq hP hσ (fun b q1 q2 => he b (by omega) (by omega)), ⟨FC_eq f1 f3 (fun b q1 q2 => he b (by omega) (by omega)), NC_eq f2 (fun b q1 q2 => he b (by omega) (by omega)), f3, f4⟩, ⟨NOk_eq n1 (fun b q1 q2 => he b (by omega) (by omega)), NOk_eq n2 (fun b q1 q2 => he b (by omega) (by omega))⟩, ?_, fun hh => ?_, g2⟩
  · rw [he (o + 1) (by omega) (by omega)]; exact ⟨r1, r2, r4, r9⟩
  · rw [he (o + 47) (by omega) (by omega)]; exact ⟨x1, x2, x3⟩
  · rw [he (o + 178) (by omega) (by omega), he (o + 176) (by omega) (by omega)]; exact ⟨w1, w2⟩
  · obtain ⟨q1, q2, ⟨Ni, Wi, q3, q4⟩, q5, q6⟩ := g1 hh
    refine ⟨q1, AC_eq q2 (fun b c1 c2 => he b (by omega) (by omega)), ⟨Ni, Wi, q3, AnI_eq q4 (fun j hj => he _ (by omega) (by omega))⟩, q5, ?_⟩
    unfold RwOk
    rw [he (o + 178) (by omega) (by omega), he (o + 179) (by omega) (by omega), he (o + 180) (by omega) (by omega), he (o + 176) (by omega) (by omega), he (o + 181) (by omega) (by omega)]
    exact q6
theorem CI_tr (hI : CI T R V o fw fr σ t tp h A B a m H K wr pl tr) (x : Int) : CI T R (u2 V o 7 x) o fw fr σ t tp h A B a m H K wr pl x := CI_o hI (fun b q1 q2 => u2_n (by omega)) (by rw [u2_s, u1_n (by decide)]) (by rw [u2_s, u1_s])
theorem CQ_tr (hI : CI T R V o fw fr σ t tp h A B a m H K wr pl tr) (x : Int) (v : Option Value) : CQ T R J z V o v t tp h A B a m H K wr pl x v (T, iV (u2 V o 7 x), R, J, z) := ⟨rfl, _, R, fw, fr, σ, rfl, fun b hb => ⟨u2_n (by omega), rfl⟩, CI_tr hI x⟩
theorem CQ_id (hI : CI T R V o fw fr σ t tp h A B a m H K wr pl tr) (v : Option Value) : CQ T R J z V o v t tp h A B a m H K wr pl tr v (T, iV V, R, J, z) := ⟨rfl, _, R, fw, fr, σ, rfl, fun b hb => ⟨rfl, rfl⟩, hI⟩
end CIs
/-- a new object -/
theorem CI_0 {T : Nat → Nat × Nat} {R : Nat → Nat → Option Nat} {V : Nat → Nat → Int} {o : Nat} {H K : Nat → Nat → Nat → Int} (hC : CS T R o (o + 54) (o + 2) (fun i => i)) (hZ : CZ V o) : CI T R V o (o + 54) (o + 2) (fun i => i) (fun _ => 0) 0 false A0 A0 0 0 H K 0 (-1) 0 := by
  obtain ⟨⟨a1, a2⟩, ⟨b1, b2, b3, b4⟩, x, f1, f2, n1, n2, ⟨p1, p2⟩, q1, q2, ⟨r1, r2⟩, r3⟩ := hZ
  have zf : ∀ b, o + 54 < b → b < o + 99 → ∀ c, V b c = 0 := fun b h1 h2 c => by rw [f2 b h1 h2]
  refine ⟨hC, ⟨a1, a2⟩, ⟨b1, b2, b3, by rw [b4]; exact ⟨by decide, by decide⟩⟩, ⟨x, fun j _ => (by decide : (-128 : Int) ≤ 0 ∧ (0 : Int) ≤ 127), by decide⟩, ⟨⟨p1, by decide⟩, ⟨p2, by decide⟩, fun i hi => absurd hi (by omega), fun i hi => absurd hi (by omega)⟩, ⟨FC_0 f1 (fun j hj => zf _ (by omega) (by omega) j), ⟨n1, fun p hp => by rw [n2 _ (by omega) (by omega)]; rfl, fun j hj => by rw [n2 _ (by omega) (by omega)]; rfl⟩, VP_0.1, ⟨by decide, by decide⟩, ⟨by decide, by decide⟩, ⟨by decide, by decide⟩, fun p hp => absurd hp (by show ¬ p < 0; omega), fun p hp => absurd hp (by show ¬ p < 0; omega)⟩, ⟨⟨?_, fun p hp => ?_, fun p hp => ?_⟩, ⟨?_, fun p hp => ?_, fun p hp => ?_⟩⟩, ⟨fun m hm => ?_, ?_⟩, (fun hh => by cases hh), fun _ => ⟨fun c _ => rfl, fun c _ => rfl, rfl, rfl⟩⟩
  · show 0 ≤ V (o + 168 + 0) 1 ∧ V (o + 168 + 0) 1 < 256
    rw [Nat.add_zero, q1]; exact (by decide : (0 : Int) ≤ 0 ∧ (0 : Int) < 256)
  · show 0 ≤ V (o + 168 + 1) p ∧ V (o + 168 + 1) p < 256
    rw [q2 _ (by omega) (by omega) (by omega) (by omega)]; exact (by decide : (0 : Int) ≤ 0 ∧ (0 : Int) < 256)
  · show 0 ≤ V (o + 168 + 2) p ∧ V (o + 168 + 2) p < 1024
    rw [q2 _ (by omega) (by omega) (by omega) (by omega)]; exact (by decide : (0 : Int) ≤ 0 ∧ (0 : Int) < 1024)
  · show 0 ≤ V (o + 187 + 0) 1 ∧ V (o + 187 + 0) 1 < 256
    rw [Nat.add_zero, r2]; exact (by decide : (0 : Int) ≤ 0 ∧ (0 : Int) < 256)
  · show 0 ≤ V (o + 187 + 1) p ∧ V (o + 187 + 1) p < 256
    rw [r3 _ (by omega) (by omega) (by omega) (by omega)]; exact (by decide : (0 : Int) ≤ 0 ∧ (0 : Int) < 256)
  · show 0 ≤ V (o + 187 + 2) p ∧ V (o + 187 + 2) p < 1024
    rw [r3 _ (by omega) (by omega) (by omega) (by omega)]; exact (by decide : (0 : Int) ≤ 0 ∧ (0 : Int) < 1024)
  · rw [r3 _ (by omega) (by omega) (by omega) (by omega)]; exact (by decide : (0 : Int) ≤ 0 ∧ (0 : Int) ≤ 1)
  · rw [r1]; exact (by decide : (0 : Int) ≤ 0 ∧ (0 : Int) ≤ 1)
