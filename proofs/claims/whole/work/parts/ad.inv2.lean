/-! ===== class and reference side by side ===== -/
theorem CS_kk {T T' : Nat → Nat × Nat} {R R' : Nat → Nat → Option Nat} {o fw fr : Nat} {σ : Nat → Nat} (h : CS T R o fw fr σ) (hk : ∀ b, o ≤ b → b < o + 190 → T' b = T b ∧ R' b = R b) : CS T' R' o fw fr σ := by
  obtain ⟨⟨c0, c1, c2, c3, c4, c5, c6⟩, hb, hw, hp, hu, hr, hq, hs⟩ := h
  obtain ⟨e1, e2⟩ := hk o (by omega) (by omega)
  refine ⟨?_, BX_k hb (fun b hb => hk b (by omega) (by omega)), WS_k hw (fun b hb => hk b (by omega) (by omega)), PS_k hp (fun b q1 q2 => hk b (by omega) (by omega)), US_k hu (fun b q1 q2 => hk b (by omega) (by omega)), RS_k hr (fun b q1 q2 => hk b (by omega) (by omega)), QS_k hq (fun b q1 q2 => hk b (by omega) (by omega)), hs⟩
  rw [e1, e2]
  exact ⟨c0, c1, c2, c3, c4, c5, c6⟩
section LJ
variable {T T' : Nat → Nat × Nat} {R R' : Nat → Nat → Option Nat} {V V' A B : Nat → Nat → Int} {J : Nat → Nat → Int64} {z : Nat} {o fw fr r f b ou N : Nat} {σ : Nat → Nat} {xs t : Nat → Int} {tp : Nat} {h : Bool} {a m : Nat} {H K : Nat → Nat → Nat → Int} {wr pl tr : Int}
variable {t' : Nat → Int} {tp' : Nat} {h' : Bool} {A' B' : Nat → Nat → Int} {a' m' : Nat} {H' K' : Nat → Nat → Nat → Int} {wr' pl' tr' : Int} {fw' fr' f' : Nat} {σ' : Nat → Nat}
theorem CI_k (hI : CI T R V o fw fr σ t tp h A B a m H K wr pl tr) (hk : ∀ b, o ≤ b → b < o + 190 → T' b = T b ∧ R' b = R b ∧ V' b = V b) : CI T' R' V' o fw fr σ t tp h A B a m H K wr pl tr := by
  have h1 : CI T' R' V o fw fr σ t tp h A B a m H K wr pl tr := ⟨CS_kk hI.1 (fun b q1 q2 => ⟨(hk b q1 q2).1, (hk b q1 q2).2.1⟩), hI.2⟩
  refine CI_o h1 (fun b q1 q2 => (hk b (by omega) q2).2.2) ?_ ?_
  · rw [(hk o (by omega) (by omega)).2.2]
  · rw [(hk o (by omega) (by omega)).2.2]; exact hI.2.1.2
theorem DI_k {E E' : Nat → Nat → Int} (hD : DI T R V r f E t tp h A B a m H K wr pl tr) (hE : ∀ j, j < 24 → E' j = E j) (hk : ∀ b, r ≤ b → b < r + 24 → T' b = T b) (hR : R' r = R r) (hf : h = true → ∀ b, f ≤ b → b < f + 24 → T' b = T b ∧ R' b = R b ∧ V' b = V b) : DI T' R' V' r f E' t tp h A B a m H K wr pl tr := by
  obtain ⟨d1, d2, d3, d4, d5, d6, d7⟩ := hD
  refine ⟨MSh_k d1 hk (fun c _ _ => by rw [hR]), ?_, ?_, ?_, ?_, ?_, fun hh => ?_⟩
  · rw [hE 0 (by decide)]; exact d2
  · rw [hE 0 (by decide), hE 1 (by decide)]; exact d3
  · rw [hE 0 (by decide)]; exact d4
  · rw [hE 0 (by decide)]; exact d5
  · rw [hR]; exact d6
  · obtain ⟨⟨x1, x2, x3, x4⟩, y1, y2, y3, y4⟩ := d7 hh
    have hf := hf hh
    refine ⟨⟨by rw [hR]; exact x1, FMS_k x2 (fun b q1 q2 => (hf b q1 q2).1) (hf f (by omega) (by omega)).2.1, FMC_k x3 (fun b q1 q2 => (hf b q1 q2).2.2), x4⟩, y1, ?_, ?_, ?_⟩
    · rw [hE 2 (by decide)]; exact y2
    · rw [hE 3 (by decide)]; exact y3
    · rw [hE 4 (by decide)]; exact y4
/-- where things lie; the script -/
def LB (T : Nat → Nat × Nat) (V : Nat → Nat → Int) (z b o r ou f N : Nat) (h : Bool) (xs : Nat → Int) : Prop := (b < o ∧ o + 190 ≤ r ∧ r + 24 ≤ ou ∧ ou < z) ∧ (h = true → ou < f ∧ f + 24 ≤ z) ∧ (T b = (7, N) ∧ V b = xs ∧ T ou = (4, 1))
/-- both as one state; half: the class has gone ahead -/
def LJ (T : Nat → Nat × Nat) (R : Nat → Nat → Option Nat) (V : Nat → Nat → Int) (z b o r ou N : Nat) (xs : Nat → Int) (fw fr : Nat) (σ : Nat → Nat) (f : Nat) (t : Nat → Int) (tp : Nat) (h : Bool) (A B : Nat → Nat → Int) (a m : Nat) (H K : Nat → Nat → Nat → Int) (wr pl tr : Int) : Prop :=
  CI T R V o fw fr σ t tp h A B a m H K wr pl tr ∧ DI T R V r f (fun j => V (r + j)) t tp h A B a m H K wr pl tr ∧ (0 ≤ tr ∧ tr ≤ 6) ∧ LB T V z b o r ou f N h xs
/-- behind the class's call -/
theorem LJ_c {v0 v : Option Value} {M : Mem} (hJ : LJ T R V z b o r ou N xs fw fr σ f t tp h A B a m H K wr pl tr) (hq : CQ T R J z V o v0 t' tp' h' A' B' a' m' H' K' wr' pl' tr' v M) : v = v0 ∧ ∃ (V' : Nat → Nat → Int) (R' : Nat → Nat → Option Nat) (fw' fr' : Nat) (σ' : Nat → Nat), M = (T, iV V', R', J, z) ∧ CI T R' V' o fw' fr' σ' t' tp' h' A' B' a' m' H' K' wr' pl' tr' ∧ DI T R' V' r f (fun j => V' (r + j)) t tp h A B a m H K wr pl tr ∧ LB T V' z b o r ou f N h xs := by
  obtain ⟨hI, hD, htr, ⟨⟨l1, l2, l3, l4⟩, l5, l6, l7, l8⟩⟩ := hJ
  obtain ⟨rfl, V', R', fw', fr', σ', rfl, he, hI'⟩ := hq
  refine ⟨rfl, V', R', fw', fr', σ', rfl, hI', DI_k hD (fun j hj => (he (r + j) (by omega)).1) (fun _ _ _ => rfl) (he r (by omega)).2 (fun hh b q1 q2 => ?_), ⟨l1, l2, l3, l4⟩, l5, l6, ?_, l8⟩
  · have := l5 hh
    exact ⟨rfl, (he b (by omega)).2, (he b (by omega)).1⟩
  · rw [(he b (by omega)).1]; exact l7
/-- behind the reference's call -/
theorem LJ_d {v0 v : Option Value} {M : Mem} (hI : CI T R V o fw fr σ t' tp' h' A' B' a' m' H' K' wr' pl' tr') (hB : LB T V z b o r ou f N h xs) (hh : h' = true → h = true) (htr : 0 ≤ tr' ∧ tr' ≤ 6) (hq : DQ T R J z V r f v0 t' tp' h' A' B' a' m' H' K' wr' pl' tr' v M) : v = v0 ∧ ∃ V' : Nat → Nat → Int, M = (T, iV V', R, J, z) ∧ LJ T R V' z b o r ou N xs fw fr σ f t' tp' h' A' B' a' m' H' K' wr' pl' tr' := by
  obtain ⟨⟨l1, l2, l3, l4⟩, l5, l6, l7, l8⟩ := hB
  obtain ⟨rfl, E', rfl, hD⟩ := hq
  refine ⟨rfl, pB V r 24 E', rfl, CI_k hI (fun b q1 q2 => ⟨rfl, rfl, pB_out (by omega)⟩), DI_k hD (fun j hj => pB_at hj) (fun _ _ _ => rfl) rfl (fun q b q1 q2 => ⟨rfl, rfl, ?_⟩), htr, ⟨l1, l2, l3, l4⟩, fun q => l5 (hh q), l6, ?_, l8⟩
  · have := l5 (hh q)
    exact pB_out (by omega)
  · rw [pB_out (by omega)]; exact l7
/-- behind the reference's family -/
theorem LJ_q {v0 v : Option Value} {M : Mem} (hI : CI T R V o fw fr σ t' 0 h' A' B' a' m' H' K' wr' pl' tr') (hB : LB T V z b o r ou f N h xs) (hf : h' = true → (f' = f ∧ h = true) ∨ f' = z) (htr : 0 ≤ tr' ∧ tr' ≤ 6) (hq : FQ T R J z V r f' v0 t' h' A' B' a' m' H' K' wr' pl' tr' v M) : v = v0 ∧ ∃ (T' : Nat → Nat × Nat) (R' : Nat → Nat → Option Nat) (V' : Nat → Nat → Int) (J' : Nat → Nat → Int64), M = (T', iV V', R', J', z + 24) ∧ LJ T' R' V' (z + 24) b o r ou N xs fw fr σ f' t' 0 h' A' B' a' m' H' K' wr' pl' tr' := by
  obtain ⟨⟨l1, l2, l3, l4⟩, l5, l6, l7, l8⟩ := hB
  obtain ⟨rfl, T', R', J', V', E', rfl, he, hD⟩ := hq
  have hf2 : h' = true → ou < f' ∧ f' + 24 ≤ z + 24 := fun q => by
    rcases hf q with ⟨rfl, q2⟩ | rfl
    · have := l5 q2; omega
    · omega
  refine ⟨rfl, T', R', pB V' r 24 E', J', rfl, CI_k hI (fun b q1 q2 => ?_), DI_k hD (fun j hj => pB_at hj) (fun _ _ _ => rfl) rfl (fun q b q1 q2 => ⟨rfl, rfl, ?_⟩), htr, ⟨l1, l2, l3, by omega⟩, hf2, ?_, ?_, ?_⟩
  · obtain ⟨e1, e2, e3, -⟩ := he b (by omega) (by omega)
    exact ⟨e1, e3, (pB_out (by omega)).trans e2⟩
  · have := hf2 q
    exact pB_out (by omega)
  · rw [(he b (by omega) (by omega)).1]; exact l6
  · rw [pB_out (by omega), (he b (by omega) (by omega)).2.1]; exact l7
  · rw [(he ou (by omega) (by omega)).1]; exact l8
theorem yTr_r {y : Int} : 0 ≤ yTr h A y ∧ yTr h A y ≤ 6 := by
  unfold yTr
  repeat' split
  all_goals decide
theorem pyTr_r {p y : Int} : 0 ≤ pyTr h A p y ∧ pyTr h A p y ≤ 6 := by
  unfold pyTr
  repeat' split
  all_goals decide
theorem rTr_r {x : Int} : 0 ≤ rTr h x ∧ rTr h x ≤ 6 := by
  unfold rTr
  repeat' split
  all_goals decide
theorem sTr_r {x : Int} : 0 ≤ sTr h x ∧ sTr h x ≤ 6 := by
  unfold sTr
  repeat' split
  all_goals decide
theorem LJ_an (hJ : LJ T R V z b o r ou N xs fw fr σ f t tp h A B a m H K wr pl tr) : ∃ Ni Wi, NOk Ni ∧ (h = true → AnI A B (rBeg A Wi (B 0 0) (B 0 1)) (nBeg A Ni) (fY A) (fun j => V (o + 155 + j))) := by
  cases h
  · exact ⟨A0, A0, NOk_0, fun q => by cases q⟩
  · obtain ⟨-, -, ⟨Ni, Wi, h1, h2⟩, -⟩ := hJ.1.2.2.2.2.2.2.2.2.1 rfl
    exact ⟨Ni, Wi, h1, fun _ => h2⟩
theorem LJ_ok (hJ : LJ T R V z b o r ou N xs fw fr σ f t tp h A B a m H K wr pl tr) : VA A ∧ VB A B ∧ (∀ Wi, ROk A (rBeg A Wi (B 0 0) (B 0 1)) 0) := by
  obtain ⟨-, -, -, -, -, ⟨-, -, hA, hB⟩, -⟩ := hJ.1
  exact ⟨hA, hB, fun Wi => rBeg_ok hA hB.1 hB.2.1⟩
theorem LJ_pos (hJ : LJ T R V z b o r ou N xs fw fr σ f t tp h A B a m H K wr pl tr) (hh : h = true) : (4 ≤ A 0 0 ∧ 1 ≤ A 0 3) ∧ (∀ i, i < a → VB A (H i)) ∧ (∀ i, i < m → VB A (K i)) := by
  obtain ⟨q1, -, -, q5, -⟩ := hJ.1.2.2.2.2.2.2.2.2.1 hh
  exact ⟨q1, q5⟩
theorem LJ_by (hJ : LJ T R V z b o r ou N xs fw fr σ f t tp h A B a m H K wr pl tr) : byR t := hJ.1.2.2.2.1.2.1
end LJ
/-! ===== the law's walk: what is asked of the script ===== -/
section Scr
variable {g : GG} {y : MD} {pc : Nat} {L S : List Value} {k n : Nat} {Q : Option Value → Mem → Prop} {T : Nat → Nat × Nat} {V : Nat → Nat → Int} {R : Nat → Nat → Option Nat} {J : Nat → Nat → Int64} {z : Nat}
theorem y_sald {a N : Nat} {x : Int} (p : Nat) (hd : decode y.2.1 pc = .ok (.iaload, 1)) (hT : T a = (7, N)) (hx : x = (p : Int)) (hp : p < N) (hN : N < 2 ^ 31) (kk : X g y (pc + 1) L (.int (iI (V a p)) :: S) (T, iV V, R, J, z) k n Q) : X g y pc L (.int (iI x) :: .ref a :: S) (T, iV V, R, J, z) k n Q := by
  refine X.goC (fun _ hC _ hM _ w => ?_) kk
  have hm := hM.1 a
  rw [show ((T, iV V, R, J, z) : Mem).1 a = (7, N) from hT] at hm
  obtain ⟨-, scr, q1, q2, q3, q4, q5⟩ := hm
  have hj : iI x = nI p := by rw [hx]; rfl
  obtain ⟨g1, g2⟩ := ix_in hj hp hN
  exact W.iald (v := .int (iI (V a p))) hC.1 hC.2.1 q1 q2 q3 (fun q => g1 (q.imp id (fun q => by omega))) (by rw [g2]; exact q5 p hp) rfl rfl hd w
/-- one int of the script -/
theorem y_arg {b N i : Nat} {c : Int} (j : Nat) (d0 : decode y.2.1 pc = .ok (.aload_n 0, 1)) (d1 : decode y.2.1 (pc + 1) = .ok (.iload 4, 2)) (d2 : decode y.2.1 (pc + 1 + 2) = .ok (.iconst c, 1)) (d3 : decode y.2.1 (pc + 1 + 2 + 1) = .ok (.iadd, 1)) (d4 : decode y.2.1 (pc + 1 + 2 + 1 + 1) = .ok (.iaload, 1)) (hL0 : L[0]? = some (.ref b)) (hL4 : L[4]? = some (.int (iI (i : Int)))) (hT : T b = (7, N)) (hc : c = (j : Int)) (hp : i + j < N) (hN : N < 2 ^ 31) (kk : X g y (pc + 1 + 2 + 1 + 1 + 1) L (.int (iI (V b (i + j))) :: S) (T, iV V, R, J, z) k n Q) : X g y pc L S (T, iV V, R, J, z) k n Q := by
  refine x_aload_n d0 hL0 ?_
  refine x_iload d1 hL4 ?_
  refine y_iconst d2 ?_
  refine y_iadd d3 ?_
  exact y_sald (i + j) d4 hT (by omega) hp hN kk
end Scr
