/-! ===== the law: its loop ===== -/
theorem and63 (a : Int32) : ∃ v : Nat, v < 64 ∧ a &&& iI 63 = iI (v : Int) := by
  refine ⟨(a.toBitVec &&& 63#32).toNat, ?_, ?_⟩
  · rw [BitVec.toNat_and]
    exact Nat.lt_of_le_of_lt Nat.and_le_right (by decide)
  · apply Int32.toBitVec_inj.mp
    show a.toBitVec &&& 63#32 = BitVec.ofInt 32 _
    simp
section LWaj
variable {g : GG} {T : Nat → Nat × Nat} {R : Nat → Nat → Option Nat} {V A B : Nat → Nat → Int} {J : Nat → Nat → Int64} {z k n : Nat} {o fw fr r f b ou N i : Nat} {σ : Nat → Nat} {xs t : Nat → Int} {tp : Nat} {h : Bool} {a m : Nat} {H K : Nat → Nat → Nat → Int} {wr pl tr : Int} {Q : Option Value → Mem → Prop}
theorem l_iter (hJ : LJ T R V z b o r ou N xs fw fr σ f t tp h A B a m H K wr pl tr) (hx : ∀ j, R32 (xs j)) (hi : i + 6 ≤ N) (hN : N ≤ 3072) (hnx : ∀ M, LN b o r ou N xs M → X g mL_law 1710 [.ref b, .ref o, .ref r, .ref ou, .int (iI (i : Int)), jk, jk] [] M k n Q) : X g mL_law 33 [.ref b, .ref o, .ref r, .ref ou, .int (iI (i : Int)), jk, jk] [] (T, iV V, R, J, z) (k + 25) (n + 355) Q := by
  refine x_aload_n dL_law_33 rfl ?_
  refine x_iload dL_law_34 rfl ?_
  refine y_sald i dL_law_36 hJ.2.2.2.2.2.1 rfl (by omega) (by omega) ?_
  rw [hJ.2.2.2.2.2.2.1]
  refine y_bipush dL_law_37 rfl ?_
  refine x_iand dL_law_39 ?_
  obtain ⟨v, hv, ev⟩ := and63 (iI (xs i))
  rw [ev]
  have hlo : X g mL_law 1710 [.ref b, .ref o, .ref r, .ref ou, .int (iI (i : Int)), jk, jk] [] (T, iV V, R, J, z) (k + 25) (n + 355) Q := X.less (hnx _ (LN_of hJ)) (by omega) (by omega)
  have hv2 : v = 0 ∨ v = 1 ∨ v = 2 ∨ v = 3 ∨ v = 4 ∨ v = 5 ∨ v = 6 ∨ v = 7 ∨ v = 8 ∨ v = 9 ∨ v = 10 ∨ v = 11 ∨ v = 12 ∨ v = 13 ∨ v = 14 ∨ v = 15 ∨ v = 16 ∨ v = 17 ∨ v = 18 ∨ v = 19 ∨ v = 20 ∨ v = 21 ∨ v = 22 ∨ v = 23 ∨ v = 24 ∨ v = 25 ∨ v = 26 ∨ v = 27 ∨ v = 28 ∨ v = 29 ∨ v = 30 ∨ v = 31 ∨ v = 32 ∨ v = 33 ∨ v = 34 ∨ v = 35 ∨ v = 36 ∨ v = 37 ∨ v = 38 ∨ v = 39 ∨ v = 40 ∨ v = 41 ∨ v = 42 ∨ v = 43 ∨ v = 44 ∨ v = 45 ∨ v = 46 ∨ v = 47 ∨ v = 48 ∨ v = 49 ∨ 50 ≤ v := by omega
  rcases hv2 with rfl | rfl | rfl | rfl | rfl | rfl | rfl | rfl | rfl | rfl | rfl | rfl | rfl | rfl | rfl | rfl | rfl | rfl | rfl | rfl | rfl | rfl | rfl | rfl | rfl | rfl | rfl | rfl | rfl | rfl | rfl | rfl | rfl | rfl | rfl | rfl | rfl | rfl | rfl | rfl | rfl | rfl | rfl | rfl | rfl | rfl | rfl | rfl | rfl | rfl | hv3
  · exact y_tsIn 256 dL_law_40 ⟨by decide, by decide⟩ (by decide) (by decide) rfl (by decide) (X.less (k' := k) (n' := n) (l_feed hJ hx hi hN hnx) (by omega) (by omega))
  · exact y_tsIn 329 dL_law_40 ⟨by decide, by decide⟩ (by decide) (by decide) rfl (by decide) (X.less (k' := k + 24) (n' := n + (0 + 316 + 33)) (l_family hJ hx hi hN hnx) (by omega) (by omega))
  · exact y_tsIn 354 dL_law_40 ⟨by decide, by decide⟩ (by decide) (by decide) rfl (by decide) (X.less (k' := k) (n' := n) (l_fault hJ hx hi hN hnx) (by omega) (by omega))
  · exact y_tsIn 367 dL_law_40 ⟨by decide, by decide⟩ (by decide) (by decide) rfl (by decide) (X.less (k' := k) (n' := n) (l_where hJ hx hi hN hnx) (by omega) (by omega))
  · exact y_tsIn 380 dL_law_40 ⟨by decide, by decide⟩ (by decide) (by decide) rfl (by decide) (X.less (k' := k) (n' := n) (l_person hJ hx hi hN hnx) (by omega) (by omega))
  · exact y_tsIn 417 dL_law_40 ⟨by decide, by decide⟩ (by decide) (by decide) rfl (by decide) (X.less (k' := k) (n' := n) (l_plan hJ hx hi hN hnx) (by omega) (by omega))
  · exact y_tsIn 454 dL_law_40 ⟨by decide, by decide⟩ (by decide) (by decide) rfl (by decide) (X.less (k' := k) (n' := n) (l_secret hJ hx hi hN hnx) (by omega) (by omega))
  · exact y_tsIn 479 dL_law_40 ⟨by decide, by decide⟩ (by decide) (by decide) rfl (by decide) (X.less (k' := k) (n' := n) (l_elder hJ hx hi hN hnx) (by omega) (by omega))
  · exact y_tsIn 504 dL_law_40 ⟨by decide, by decide⟩ (by decide) (by decide) rfl (by decide) (X.less (k' := k) (n' := n) (l_empty hJ hx hi hN hnx) (by omega) (by omega))
  · exact y_tsIn 529 dL_law_40 ⟨by decide, by decide⟩ (by decide) (by decide) rfl (by decide) (X.less (k' := k) (n' := n) (l_there hJ hx hi hN hnx) (by omega) (by omega))
  · exact y_tsIn 554 dL_law_40 ⟨by decide, by decide⟩ (by decide) (by decide) rfl (by decide) (X.less (k' := k) (n' := n) (l_can hJ hx hi hN hnx) (by omega) (by omega))
  · exact y_tsIn 579 dL_law_40 ⟨by decide, by decide⟩ (by decide) (by decide) rfl (by decide) (X.less (k' := k) (n' := n) (l_age hJ hx hi hN hnx) (by omega) (by omega))
  · exact y_tsIn 616 dL_law_40 ⟨by decide, by decide⟩ (by decide) (by decide) rfl (by decide) (X.less (k' := k) (n' := n) (l_turnsOf hJ hx hi hN hnx) (by omega) (by omega))
  · exact y_tsIn 653 dL_law_40 ⟨by decide, by decide⟩ (by decide) (by decide) rfl (by decide) (X.less (k' := k) (n' := n) (l_strength hJ hx hi hN hnx) (by omega) (by omega))
  · exact y_tsIn 690 dL_law_40 ⟨by decide, by decide⟩ (by decide) (by decide) rfl (by decide) (X.less (k' := k) (n' := n) (l_knows hJ hx hi hN hnx) (by omega) (by omega))
  · exact y_tsIn 727 dL_law_40 ⟨by decide, by decide⟩ (by decide) (by decide) rfl (by decide) (X.less (k' := k) (n' := n) (l_box hJ hx hi hN hnx) (by omega) (by omega))
  · exact y_tsIn 752 dL_law_40 ⟨by decide, by decide⟩ (by decide) (by decide) rfl (by decide) (X.less (k' := k) (n' := n) (l_kept hJ hx hi hN hnx) (by omega) (by omega))
  · exact y_tsIn 789 dL_law_40 ⟨by decide, by decide⟩ (by decide) (by decide) rfl (by decide) (X.less (k' := k) (n' := n) (l_harm hJ hx hi hN hnx) (by omega) (by omega))
  · exact y_tsIn 814 dL_law_40 ⟨by decide, by decide⟩ (by decide) (by decide) rfl (by decide) (X.less (k' := k) (n' := n) (l_harmAll hJ hx hi hN hnx) (by omega) (by omega))
  · exact y_tsIn 827 dL_law_40 ⟨by decide, by decide⟩ (by decide) (by decide) rfl (by decide) (X.less (k' := k) (n' := n) (l_harmOf hJ hx hi hN hnx) (by omega) (by omega))
  · exact y_tsIn 852 dL_law_40 ⟨by decide, by decide⟩ (by decide) (by decide) rfl (by decide) (X.less (k' := k) (n' := n) (l_purse hJ hx hi hN hnx) (by omega) (by omega))
  · exact y_tsIn 877 dL_law_40 ⟨by decide, by decide⟩ (by decide) (by decide) rfl (by decide) (X.less (k' := k) (n' := n) (l_first hJ hx hi hN hnx) (by omega) (by omega))
  · exact y_tsIn 902 dL_law_40 ⟨by decide, by decide⟩ (by decide) (by decide) rfl (by decide) (X.less (k' := k) (n' := n) (l_last hJ hx hi hN hnx) (by omega) (by omega))
  · exact y_tsIn 927 dL_law_40 ⟨by decide, by decide⟩ (by decide) (by decide) rfl (by decide) (X.less (k' := k) (n' := n) (l_fair hJ hx hi hN hnx) (by omega) (by omega))
  · exact y_tsIn 940 dL_law_40 ⟨by decide, by decide⟩ (by decide) (by decide) rfl (by decide) (X.less (k' := k) (n' := n) (l_deaths hJ hx hi hN hnx) (by omega) (by omega))
  · exact y_tsIn 953 dL_law_40 ⟨by decide, by decide⟩ (by decide) (by decide) rfl (by decide) (X.less (k' := k) (n' := n) (l_soonest hJ hx hi hN hnx) (by omega) (by omega))
  · exact y_tsIn 990 dL_law_40 ⟨by decide, by decide⟩ (by decide) (by decide) rfl (by decide) (X.less (k' := k) (n' := n) (l_know hJ hx hi hN hnx) (by omega) (by omega))
  · exact y_tsIn 1015 dL_law_40 ⟨by decide, by decide⟩ (by decide) (by decide) rfl (by decide) (X.less (k' := k) (n' := n) (l_byLaw hJ hx hi hN hnx) (by omega) (by omega))
  · exact y_tsIn 1052 dL_law_40 ⟨by decide, by decide⟩ (by decide) (by decide) rfl (by decide) (X.less (k' := k) (n' := n) (l_bestLaw hJ hx hi hN hnx) (by omega) (by omega))
  · exact y_tsIn 1077 dL_law_40 ⟨by decide, by decide⟩ (by decide) (by decide) rfl (by decide) (X.less (k' := k) (n' := n) (l_row hJ hx hi hN hnx) (by omega) (by omega))
  · exact y_tsIn 1102 dL_law_40 ⟨by decide, by decide⟩ (by decide) (by decide) rfl (by decide) (X.less (k' := k) (n' := n) (l_rowAt hJ hx hi hN hnx) (by omega) (by omega))
  · exact y_tsIn 1139 dL_law_40 ⟨by decide, by decide⟩ (by decide) (by decide) rfl (by decide) (X.less (k' := k) (n' := n) (l_chain hJ hx hi hN hnx) (by omega) (by omega))
  · exact y_tsIn 1176 dL_law_40 ⟨by decide, by decide⟩ (by decide) (by decide) rfl (by decide) (X.less (k' := k) (n' := n) (l_trade hJ hx hi hN hnx) (by omega) (by omega))
  · exact y_tsIn 1213 dL_law_40 ⟨by decide, by decide⟩ (by decide) (by decide) rfl (by decide) (X.less (k' := k) (n' := n) (l_bestTrade hJ hx hi hN hnx) (by omega) (by omega))
  · exact y_tsIn 1226 dL_law_40 ⟨by decide, by decide⟩ (by decide) (by decide) rfl (by decide) (X.less (k' := k) (n' := n) (l_fits hJ hx hi hN hnx) (by omega) (by omega))
  · exact y_tsIn 1239 dL_law_40 ⟨by decide, by decide⟩ (by decide) (by decide) rfl (by decide) (X.less (k' := k) (n' := n) (l_seeds hJ hx hi hN hnx) (by omega) (by omega))
  · exact y_tsIn 1264 dL_law_40 ⟨by decide, by decide⟩ (by decide) (by decide) rfl (by decide) (X.less (k' := k) (n' := n) (l_firstSeed hJ hx hi hN hnx) (by omega) (by omega))
  · exact y_tsIn 1289 dL_law_40 ⟨by decide, by decide⟩ (by decide) (by decide) rfl (by decide) (X.less (k' := k) (n' := n) (l_power hJ hx hi hN hnx) (by omega) (by omega))
  · exact y_tsIn 1314 dL_law_40 ⟨by decide, by decide⟩ (by decide) (by decide) rfl (by decide) (X.less (k' := k) (n' := n) (l_stands hJ hx hi hN hnx) (by omega) (by omega))
  · exact y_tsIn 1368 dL_law_40 ⟨by decide, by decide⟩ (by decide) (by decide) rfl (by decide) (X.less (k' := k) (n' := n) (l_mean hJ hx hi hN hnx) (by omega) (by omega))
  · exact y_tsIn 1417 dL_law_40 ⟨by decide, by decide⟩ (by decide) (by decide) rfl (by decide) (X.less (k' := k) (n' := n) (l_buy hJ hx hi hN hnx) (by omega) (by omega))
  · exact y_tsIn 1478 dL_law_40 ⟨by decide, by decide⟩ (by decide) (by decide) rfl (by decide) (X.less (k' := k) (n' := n) (l_death hJ hx hi hN hnx) (by omega) (by omega))
  · exact y_tsIn 1515 dL_law_40 ⟨by decide, by decide⟩ (by decide) (by decide) rfl (by decide) (X.less (k' := k) (n' := n) (l_law hJ hx hi hN hnx) (by omega) (by omega))
  · exact y_tsIn 1540 dL_law_40 ⟨by decide, by decide⟩ (by decide) (by decide) rfl (by decide) (X.less (k' := k) (n' := n) (l_seed hJ hx hi hN hnx) (by omega) (by omega))
  · exact y_tsIn 1565 dL_law_40 ⟨by decide, by decide⟩ (by decide) (by decide) rfl (by decide) (X.less (k' := k) (n' := n) (l_undo hJ hx hi hN hnx) (by omega) (by omega))
  · exact y_tsIn 1578 dL_law_40 ⟨by decide, by decide⟩ (by decide) (by decide) rfl (by decide) (X.less (k' := k) (n' := n) (l_mark hJ hx hi hN hnx) (by omega) (by omega))
  · exact y_tsIn 1591 dL_law_40 ⟨by decide, by decide⟩ (by decide) (by decide) rfl (by decide) (X.less (k' := k) (n' := n) (l_back hJ hx hi hN hnx) (by omega) (by omega))
  · exact y_tsIn 1616 dL_law_40 ⟨by decide, by decide⟩ (by decide) (by decide) rfl (by decide) (X.less (k' := k + 1) (n' := n + 6) (l_led hJ hx hi hN hnx) (by omega) (by omega))
  · exact y_tsIn 1672 dL_law_40 ⟨by decide, by decide⟩ (by decide) (by decide) rfl (by decide) (X.less (k' := k) (n' := n) (l_size hJ hx hi hN hnx) (by omega) (by omega))
  · exact y_tsIn 1697 dL_law_40 ⟨by decide, by decide⟩ (by decide) (by decide) rfl (by decide) (X.less (k' := k) (n' := n) (l_trouble hJ hx hi hN hnx) (by omega) (by omega))
  · exact y_tsOut 1710 dL_law_40 ⟨by omega, by omega⟩ (Or.inr (by omega)) (by decide) hlo
end LWaj
section LWl
variable {g : GG} {o r b ou N : Nat} {xs : Nat → Int}
/-- the loop, c times and the last -/
theorem l_loop (hx : ∀ j, R32 (xs j)) (hN : N ≤ 3072) : ∀ (c i : Nat) (M : Mem), i ≤ 4000 → N < i + 6 * c + 6 → LN b o r ou N xs M → X g mL_law 23 [.ref b, .ref o, .ref r, .ref ou, .int (iI (i : Int)), jk, jk] [] M (c * 25) (c * 355) (fun v _ => v = some (.int (iI 1)))
  | c, i, M, hi, hc, hM => by
    obtain ⟨T, R, V, J, z, fw, fr, σ, f, t, tp, h, A, B, a, m, H, K, wr, pl, tr, rfl, hJ⟩ := hM
    refine x_iload dL_law_23 rfl ?_
    refine x_aload_n dL_law_25 rfl ?_
    refine x_slen (N := N) (v := iI (N : Int)) dL_law_26 hJ.2.2.2.2.2.1 rfl ?_
    refine y_bipush dL_law_27 rfl ?_
    refine y_isub dL_law_29 ?_
    refine y_icmp_gt 1716 dL_law_30 (by decide) ⟨by omega, by omega⟩ ⟨by omega, by omega⟩ (fun q => ?_) (fun q => ?_)
    · refine y_iconst dL_law_1716 ?_
      exact x_zreturn dL_law_1717 rfl rfl rfl
    · match c, hc with
      | 0, hc => omega
      | c + 1, hc =>
        refine X.less (k' := c * 25 + 25) (n' := c * 355 + 355) (l_iter hJ hx (by omega) hN (fun M2 hM2 => ?_)) (by omega) (by omega)
        refine y_iinc (L' := [.ref b, .ref o, .ref r, .ref ou, .int (iI ((i + 6 : Nat) : Int)), jk, jk]) dL_law_1710 rfl (by decide) rfl (by rw [show ((i + 6 : Nat) : Int) = (i : Int) + 6 by omega]; rfl) ?_
        refine x_goto 23 dL_law_1713 (by decide) ?_
        exact l_loop hx hN c (i + 6) M2 (by omega) (by omega) hM2
end LWl
