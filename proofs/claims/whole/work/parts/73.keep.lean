/-! ===== the class's shape where only Past's row has changed ===== -/
theorem CS_R {T : Nat → Nat × Nat} {R R' : Nat → Nat → Option Nat} {o fw fr : Nat} {σ σ' : Nat → Nat} (hC : CS T R o fw fr σ) (hR : ∀ b, b ≠ o + 107 + 1 → R' b = R b) (hP : PS T R' (o + 107) σ') : CS T R' o fw fr σ' := by
  obtain ⟨⟨c0, c1, c2, c3, c4, c5, c6⟩, hB, hW, -, hU, hr, hQ, hs⟩ := hC
  refine ⟨?_, BX_k hB (fun b h => ⟨rfl, hR b (by omega)⟩), WS_k hW (fun b h => ⟨rfl, hR b (by omega)⟩), hP, US_k hU (fun b h1 h2 => ⟨rfl, hR b (by omega)⟩), RS_k hr (fun b h1 h2 => ⟨rfl, hR b (by omega)⟩), QS_k hQ (fun b h1 h2 => ⟨rfl, hR b (by omega)⟩), hs⟩
  rw [hR o (by omega)]
  exact ⟨c0, c1, c2, c3, c4, c5, c6⟩
