/-! ===== the class's object behind an act ===== -/
section C71
variable {T : Nat → Nat × Nat} {V V' A B : Nat → Nat → Int} {R : Nat → Nat → Option Nat} {o fw fr : Nat} {σ : Nat → Nat} {t : Nat → Int} {tp : Nat} {a m : Nat} {H K : Nat → Nat → Nat → Int} {wr pl : Int}
theorem CI_act (hC : CS T R o fw fr σ) (p6 : V o 6 = bI true) (hr : V (o + 1) 1 = wr ∧ V (o + 1) 2 = pl ∧ V (o + 1) 4 = (tp : Int) ∧ (0 ≤ V (o + 1) 9 ∧ V (o + 1) 9 ≤ 1100)) (hx : V (o + 47) = t ∧ (∀ j, j < 1100 → -128 ≤ t j ∧ t j ≤ 127) ∧ tp ≤ 1100) (hP : PC V (o + 107) σ a m H K) (f1 : FC V fw A) (f2 : NC V (o + 99) B) (f3 : VA A) (f4 : VB A B) (n2 : NOk (fun j => V (o + 187 + j))) (hy : 4 ≤ A 0 0 ∧ 1 ≤ A 0 3) (hv : (∀ i, i < a → VB A (H i)) ∧ (∀ i, i < m → VB A (K i))) (hq : AcQ V V' o A B) : CI T R V' o fw fr σ t tp true A B a m H K wr pl 0 := by
  obtain ⟨q1, q2, q3, q4, ⟨Ni, Wi, hNi, hAn⟩, q6, q7, q8⟩ := hq
  have hsep := hC.2.2.2.2.2.2.2
  have hσ : ∀ i, i < 12 → σ i < 12 := fun i hi => (hC.2.2.2.1.2.1 i hi).2
  have hn := nTo_ok f3 f4 (rBeg_ok (W := Wi) f3 f4.1 f4.2.1) (nBeg_ok f3 hNi) (fY A)
  have en : ∀ j, j < 3 → V' (o + 168 + j) = nTo A B (rBeg A Wi (B 0 0) (B 0 1)) (nBeg A Ni) (fY A) j := fun j hj => by
    have := hAn.2.1 j hj
    have e : o + 155 + (13 + j) = o + 168 + j := by omega
    rw [← e]
    exact this
  refine ⟨hC, ⟨(q2 6 (by decide)).trans p6, q3⟩, ?_, ?_, PC_eq hP hσ (fun b c1 c2 => q1 b (by omega) (by omega)), ⟨FC_eq f1 f3 (fun b c1 c2 => q1 b (by omega) (by omega)), NC_eq f2 (fun b c1 c2 => q1 b (by omega) (by omega)), f3, f4⟩, ⟨⟨?_, fun p hp => ?_, fun p hp => ?_⟩, NOk_eq n2 (fun b c1 c2 => q8 b (by omega) (by omega) (by omega))⟩, ⟨fun m hm => ?_, ?_⟩, fun _ => ⟨hy, q4, ⟨Ni, Wi, hNi, hAn⟩, hv, fun m h1 h2 h3 => ?_, fun h3 => ?_⟩, fun hh => by cases hh⟩
  · rw [q1 (o + 1) (by omega) (by omega)]; exact hr
  · rw [q1 (o + 47) (by omega) (by omega)]; exact hx
  · show 0 ≤ V' (o + 168 + 0) 1 ∧ V' (o + 168 + 0) 1 < 256
    rw [en 0 (by decide)]; exact hn.1
  · show 0 ≤ V' (o + 168 + 1) p ∧ V' (o + 168 + 1) p < 256
    rw [en 1 (by decide)]; exact hn.2.1 p hp
  · show 0 ≤ V' (o + 168 + 2) p ∧ V' (o + 168 + 2) p < 1024
    rw [en 2 (by decide)]; exact hn.2.2 p hp
  · rw [q6 m hm]; exact ⟨by decide, by decide⟩
  · rw [q7]; exact ⟨by decide, by decide⟩
  · rw [q6 m (by omega)] at h3; exact absurd h3 (by decide)
  · rw [q7] at h3; exact absurd h3 (by decide)
end C71
