/-! ===== Reader: a line ===== -/
/-- whether there is no room for one more of those -/
def flB (A : Nat → Nat → Int) (l : Int) : Bool := decide ((l = 1 ∧ 10 ≤ A 0 3) ∨ (l = 2 ∧ 12 ≤ A 0 4) ∨ (l = 4 ∧ 8 ≤ A 0 5) ∨ (l = 5 ∧ 8 ≤ A 0 6) ∨ (l = 6 ∧ 8 ≤ A 0 7) ∨ ((l = 7 ∨ l = 8) ∧ 8 ≤ A 0 8))
def pBody (t : Nat → Int) (e : Nat) (A : Nat → Nat → Int) (i : Nat) (l : Int) : PR := if l = 0 then pFam t e A i else if l = 1 then pPers t e A i else if l = 2 then pPlan t e A i else if l = 3 then pDies t e A i else if l = 4 then pBuys t e A i else if l = 5 then pSecr t e A i else if l = 6 then pHide t e A i else if l = 7 then pDiar t e A i 0 else pDiar t e A i 1
def pLine (t : Nat → Int) (e : Nat) (A : Nat → Nat → Int) (i : Nat) : PR := if lnOf t e i < 0 then .inl (1, tkS t e i) else if lnOf t e i = 0 ∧ 0 < A 0 0 then .inl (3, tkS t e i) else if ¬ lnOf t e i = 0 ∧ A 0 0 ≤ 0 then .inl (6, tkS t e i) else if flB A (lnOf t e i) = true then .inl (5, tkS t e i) else pBody t e A (tkN t e i) (lnOf t e i)
section C53
variable {g : GG} {T : Nat → Nat × Nat} {V A : Nat → Nat → Int} {R : Nat → Nat → Option Nat} {J : Nat → Nat → Int64} {z k n : Nat} {rd tx q f e i : Nat} {t : Nat → Int}
theorem c_isFull {l : Int} (hB : BX T R rd tx q f) (hF : FC V f A) (hA : VA A) (hl : 0 ≤ l ∧ l ≤ 8) : X g mX6_isFull 0 [.ref rd, .int (iI l)] [] (T, iV V, R, J, z) k n (rI (iI (bI (flB A l))) (T, iV V, R, J, z)) := by
  obtain ⟨hS, hD, hFS, rd0, hsep⟩ := hB
  obtain ⟨hA0, hA1, hA2, hA3, hA4, hA5, hA6, hA7, hA8, -⟩ := hA
  have hs0 := hS.1
  have hf0 := hFS.1
  unfold flB
  refine x_iload_n dX6_isFull_0 rfl ?_
  refine (show X _ _ 1 _ _ _ _ _ _ from ?_)
  rcases (by omega : l = 0 ∨ l = 1 ∨ l = 2 ∨ l = 3 ∨ l = 4 ∨ l = 5 ∨ l = 6 ∨ (l = 7 ∨ l = 8)) with rfl | rfl | rfl | rfl | rfl | rfl | rfl | h78
  · refine y_tsOut 156 dX6_isFull_1 ⟨by omega, by omega⟩ (by omega) (by decide) ?_
    rw [decide_eq_false (by omega)]
    refine y_iconst dX6_isFull_156 ?_
    refine (show X _ _ 157 _ _ _ _ _ _ from ?_)
    exact x_zreturn dX6_isFull_157 rfl (by first | rfl | exact bI_nar _) ⟨rfl, rfl⟩
  · refine y_tsIn 48 dX6_isFull_1 ⟨by omega, by omega⟩ (by omega) (by omega) rfl (by decide) ?_
    refine x_aload_n dX6_isFull_48 rfl ?_
    refine x_gr dX6_isFull_49 fX6_12 (by first | assumption) (fun _ _ _ => rfl) (by first | assumption) ?_
    refine y_gi dX6_isFull_52 fX6_93 (by first | assumption) (fun _ _ _ => rfl) ?_
    refine (show X _ _ 55 _ _ _ _ _ _ from ?_)
    refine X.val (hF.1 3 (by decide)) ?_
    refine y_bipush dX6_isFull_55 rfl ?_
    refine (show X _ _ 57 _ _ _ _ _ _ from ?_)
    refine y_icmp_lt 64 dX6_isFull_57 (by decide) ⟨by omega, by omega⟩ ⟨by omega, by omega⟩ (fun h => ?_) (fun h => ?_)
    · rw [decide_eq_false (by omega)]
      refine y_iconst dX6_isFull_64 ?_
      refine (show X _ _ 65 _ _ _ _ _ _ from ?_)
      exact x_zreturn dX6_isFull_65 rfl (by first | rfl | exact bI_nar _) ⟨rfl, rfl⟩
    · rw [decide_eq_true (by omega)]
      refine y_iconst dX6_isFull_60 ?_
      refine x_goto 65 dX6_isFull_61 (by decide) ?_
      refine (show X _ _ 65 _ _ _ _ _ _ from ?_)
      exact x_zreturn dX6_isFull_65 rfl (by first | rfl | exact bI_nar _) ⟨rfl, rfl⟩
  · refine y_tsIn 66 dX6_isFull_1 ⟨by omega, by omega⟩ (by omega) (by omega) rfl (by decide) ?_
    refine x_aload_n dX6_isFull_66 rfl ?_
    refine x_gr dX6_isFull_67 fX6_12 (by first | assumption) (fun _ _ _ => rfl) (by first | assumption) ?_
    refine y_gi dX6_isFull_70 fX6_143 (by first | assumption) (fun _ _ _ => rfl) ?_
    refine (show X _ _ 73 _ _ _ _ _ _ from ?_)
    refine X.val (hF.1 4 (by decide)) ?_
    refine y_bipush dX6_isFull_73 rfl ?_
    refine (show X _ _ 75 _ _ _ _ _ _ from ?_)
    refine y_icmp_lt 82 dX6_isFull_75 (by decide) ⟨by omega, by omega⟩ ⟨by omega, by omega⟩ (fun h => ?_) (fun h => ?_)
    · rw [decide_eq_false (by omega)]
      refine y_iconst dX6_isFull_82 ?_
      refine (show X _ _ 83 _ _ _ _ _ _ from ?_)
      exact x_zreturn dX6_isFull_83 rfl (by first | rfl | exact bI_nar _) ⟨rfl, rfl⟩
    · rw [decide_eq_true (by omega)]
      refine y_iconst dX6_isFull_78 ?_
      refine x_goto 83 dX6_isFull_79 (by decide) ?_
      refine (show X _ _ 83 _ _ _ _ _ _ from ?_)
      exact x_zreturn dX6_isFull_83 rfl (by first | rfl | exact bI_nar _) ⟨rfl, rfl⟩
  · refine y_tsIn 156 dX6_isFull_1 ⟨by omega, by omega⟩ (by omega) (by omega) rfl (by decide) ?_
    rw [decide_eq_false (by omega)]
    refine y_iconst dX6_isFull_156 ?_
    refine (show X _ _ 157 _ _ _ _ _ _ from ?_)
    exact x_zreturn dX6_isFull_157 rfl (by first | rfl | exact bI_nar _) ⟨rfl, rfl⟩
  · refine y_tsIn 84 dX6_isFull_1 ⟨by omega, by omega⟩ (by omega) (by omega) rfl (by decide) ?_
    refine x_aload_n dX6_isFull_84 rfl ?_
    refine x_gr dX6_isFull_85 fX6_12 (by first | assumption) (fun _ _ _ => rfl) (by first | assumption) ?_
    refine y_gi dX6_isFull_88 fX6_146 (by first | assumption) (fun _ _ _ => rfl) ?_
    refine (show X _ _ 91 _ _ _ _ _ _ from ?_)
    refine X.val (hF.1 5 (by decide)) ?_
    refine y_bipush dX6_isFull_91 rfl ?_
    refine (show X _ _ 93 _ _ _ _ _ _ from ?_)
    refine y_icmp_lt 100 dX6_isFull_93 (by decide) ⟨by omega, by omega⟩ ⟨by omega, by omega⟩ (fun h => ?_) (fun h => ?_)
    · rw [decide_eq_false (by omega)]
      refine y_iconst dX6_isFull_100 ?_
      refine (show X _ _ 101 _ _ _ _ _ _ from ?_)
      exact x_zreturn dX6_isFull_101 rfl (by first | rfl | exact bI_nar _) ⟨rfl, rfl⟩
    · rw [decide_eq_true (by omega)]
      refine y_iconst dX6_isFull_96 ?_
      refine x_goto 101 dX6_isFull_97 (by decide) ?_
      refine (show X _ _ 101 _ _ _ _ _ _ from ?_)
      exact x_zreturn dX6_isFull_101 rfl (by first | rfl | exact bI_nar _) ⟨rfl, rfl⟩
  · refine y_tsIn 102 dX6_isFull_1 ⟨by omega, by omega⟩ (by omega) (by omega) rfl (by decide) ?_
    refine x_aload_n dX6_isFull_102 rfl ?_
    refine x_gr dX6_isFull_103 fX6_12 (by first | assumption) (fun _ _ _ => rfl) (by first | assumption) ?_
    refine y_gi dX6_isFull_106 fX6_148 (by first | assumption) (fun _ _ _ => rfl) ?_
    refine (show X _ _ 109 _ _ _ _ _ _ from ?_)
    refine X.val (hF.1 6 (by decide)) ?_
    refine y_bipush dX6_isFull_109 rfl ?_
    refine (show X _ _ 111 _ _ _ _ _ _ from ?_)
    refine y_icmp_lt 118 dX6_isFull_111 (by decide) ⟨by omega, by omega⟩ ⟨by omega, by omega⟩ (fun h => ?_) (fun h => ?_)
    · rw [decide_eq_false (by omega)]
      refine y_iconst dX6_isFull_118 ?_
      refine (show X _ _ 119 _ _ _ _ _ _ from ?_)
      exact x_zreturn dX6_isFull_119 rfl (by first | rfl | exact bI_nar _) ⟨rfl, rfl⟩
    · rw [decide_eq_true (by omega)]
      refine y_iconst dX6_isFull_114 ?_
      refine x_goto 119 dX6_isFull_115 (by decide) ?_
      refine (show X _ _ 119 _ _ _ _ _ _ from ?_)
      exact x_zreturn dX6_isFull_119 rfl (by first | rfl | exact bI_nar _) ⟨rfl, rfl⟩
  · refine y_tsIn 120 dX6_isFull_1 ⟨by omega, by omega⟩ (by omega) (by omega) rfl (by decide) ?_
    refine x_aload_n dX6_isFull_120 rfl ?_
    refine x_gr dX6_isFull_121 fX6_12 (by first | assumption) (fun _ _ _ => rfl) (by first | assumption) ?_
    refine y_gi dX6_isFull_124 fX6_151 (by first | assumption) (fun _ _ _ => rfl) ?_
    refine (show X _ _ 127 _ _ _ _ _ _ from ?_)
    refine X.val (hF.1 7 (by decide)) ?_
    refine y_bipush dX6_isFull_127 rfl ?_
    refine (show X _ _ 129 _ _ _ _ _ _ from ?_)
    refine y_icmp_lt 136 dX6_isFull_129 (by decide) ⟨by omega, by omega⟩ ⟨by omega, by omega⟩ (fun h => ?_) (fun h => ?_)
    · rw [decide_eq_false (by omega)]
      refine y_iconst dX6_isFull_136 ?_
      refine (show X _ _ 137 _ _ _ _ _ _ from ?_)
      exact x_zreturn dX6_isFull_137 rfl (by first | rfl | exact bI_nar _) ⟨rfl, rfl⟩
    · rw [decide_eq_true (by omega)]
      refine y_iconst dX6_isFull_132 ?_
      refine x_goto 137 dX6_isFull_133 (by decide) ?_
      refine (show X _ _ 137 _ _ _ _ _ _ from ?_)
      exact x_zreturn dX6_isFull_137 rfl (by first | rfl | exact bI_nar _) ⟨rfl, rfl⟩
  · have go : X g mX6_isFull 138 [.ref rd, .int (iI l)] [] (T, iV V, R, J, z) k n (rI (iI (bI (decide ((l = 1 ∧ 10 ≤ A 0 3) ∨ (l = 2 ∧ 12 ≤ A 0 4) ∨ (l = 4 ∧ 8 ≤ A 0 5) ∨ (l = 5 ∧ 8 ≤ A 0 6) ∨ (l = 6 ∧ 8 ≤ A 0 7) ∨ ((l = 7 ∨ l = 8) ∧ 8 ≤ A 0 8))))) (T, iV V, R, J, z)) := by
      refine x_aload_n dX6_isFull_138 rfl ?_
      refine x_gr dX6_isFull_139 fX6_12 (by first | assumption) (fun _ _ _ => rfl) (by first | assumption) ?_
      refine y_gi dX6_isFull_142 fX6_153 (by first | assumption) (fun _ _ _ => rfl) ?_
      refine (show X _ _ 145 _ _ _ _ _ _ from ?_)
      refine X.val (hF.1 8 (by decide)) ?_
      refine y_bipush dX6_isFull_145 rfl ?_
      refine (show X _ _ 147 _ _ _ _ _ _ from ?_)
      refine y_icmp_lt 154 dX6_isFull_147 (by decide) ⟨by omega, by omega⟩ ⟨by omega, by omega⟩ (fun h => ?_) (fun h => ?_)
      · rw [decide_eq_false (by omega)]
        refine y_iconst dX6_isFull_154 ?_
        refine (show X _ _ 155 _ _ _ _ _ _ from ?_)
        exact x_zreturn dX6_isFull_155 rfl (by first | rfl | exact bI_nar _) ⟨rfl, rfl⟩
      · rw [decide_eq_true (by omega)]
        refine y_iconst dX6_isFull_150 ?_
        refine x_goto 155 dX6_isFull_151 (by decide) ?_
        refine (show X _ _ 155 _ _ _ _ _ _ from ?_)
        exact x_zreturn dX6_isFull_155 rfl (by first | rfl | exact bI_nar _) ⟨rfl, rfl⟩
    rcases h78 with rfl | rfl
    · refine y_tsIn 138 dX6_isFull_1 ⟨by omega, by omega⟩ (by omega) (by omega) rfl (by decide) ?_
      exact go
    · refine y_tsIn 138 dX6_isFull_1 ⟨by omega, by omega⟩ (by omega) (by omega) rfl (by decide) ?_
      exact go
/-- from another picture that differs in the token alone -/
theorem RQ_S0 {V1 : Nat → Nat → Int} {r : PR} {v : Option Value} {M : Mem} (h : RQ T R J z t V1 rd tx q f e r v M) (s : S0 V V1 rd) : RQ T R J z t V rd tx q f e r v M := by
  obtain ⟨V', e1, ⟨a, b, c⟩, h2⟩ := h
  exact ⟨V', e1, ⟨fun b h1 h2 h3 => (a b h1 h2 h3).trans (s.1 b h1), b.trans (s.2 4 (by omega)), c⟩, h2⟩
theorem x_bret {y : MD} {pc : Nat} {L : List Value} {M : Mem} {r : PR} {v : Option Value} (hd : decode y.2.1 pc = .ok (.ireturn, 1)) (hy : y.2.2.2.1 = some .boolean) (h : RQ T R J z t V rd tx q f e r v M) : X g y pc L (v.toList ++ []) M k n (RQ T R J z t V rd tx q f e r) := by
  have hv : v = some (.int (iI 0)) ∨ v = some (.int (iI 1)) := by
    obtain ⟨V', -, -, h2⟩ := h
    cases r with
    | inl c => exact Or.inl h2.1
    | inr c => exact Or.inr h2.1
  rcases hv with rfl | rfl
  · exact x_zreturn hd hy rfl h
  · exact x_zreturn hd hy rfl h
theorem q_readLine (hB : BX T R rd tx q f) (hP : VP A) (hR : RI t V A rd tx q f e i) (he : e ≤ 1100) (ht : ∀ j, j < 1100 → -128 ≤ t j ∧ t j ≤ 127) : X g mX6_readLine 0 [.ref rd, jk, jk] [] (T, iV V, R, J, z) k n (RQ T R J z t V rd tx q f e (pLine t e A i)) := by
  have hB0 := hB
  obtain ⟨hS, hD, hFS, rd0, hsep⟩ := hB
  have hR0 := hR
  obtain ⟨hc, hF, hN, h01⟩ := hR
  have hVA := hP.1
  obtain ⟨hA0, hA1, hA2, hA3, hA4, hA5, hA6, hA7, hA8, -⟩ := hP.1
  have hs0 := hS.1
  have hf0 := hFS.1
  obtain ⟨fR9, fR10, fR11, fR12, fR13, fR14⟩ := hFS.2.1
  obtain ⟨fT1, fT12, fT25, fT34, fT43, fT44⟩ := hFS.2.2.1
  have hne := DS_ne hS
  have hlb := lnOf_b t e i
  have hb := tk_b t hc.2.1
  have hsl := q_seenLine (g := g) (J := J) (z := z) (k := 0) (n := 0) hS hc he ht
  have hf := fun x => c_fail (g := g) (J := J) (z := z) (k := 0) (n := 0) (V := V) (x := x) hS
  have hfl := fun hl => c_isFull (g := g) (J := J) (z := z) (k := 0) (n := 0) (l := lnOf t e i) hB0 hF hVA hl
  have hfrm : FRM V V rd q f := FRM_refl hc.2.2.2.2.2.2.2.2
  have hadv := c_advance (g := g) (J := J) (z := z) (k := 0) (n := 0) (V := V) (i := tkN t e i) (e := e) hS hc.2.2.2.1 hc.2.2.1 (by omega) he (by rw [hc.1]; exact fun j hj => ht j (by omega)) hne
  have hv := av_CU (V := V) (t := t) (i := tkN t e i) hc.1 hc.2.2.1 hc.2.2.2.2.2.2.2.2 (by omega) he hne
  have c2 : ∀ l h2, l = lnOf t e i → X g mX6_readLine 9 [.ref rd, .int (iI l), h2] [] (T, iV V, R, J, z) k n (RQ T R J z t V rd tx q f e (.inl (1, tkS t e i))) := by
    intro l h2 hl
    refine x_aload_n dX6_readLine_9 rfl ?_
    refine y_iconst dX6_readLine_10 ?_
    refine (show X _ _ 11 _ _ _ _ _ _ from ?_)
    refine x_callV (As := [_]) (mc := 0) (ms := 0) (z := mX6_fail) (ci := 6) dX6_readLine_11 lX6_89 oX6_fail (by decide) (by first | assumption) rfl rfl (Nat.le_of_ble_eq_true rfl) (Nat.le_of_ble_eq_true rfl) rfl (hf _) (k_I ?_)
    refine (show X _ _ 14 _ _ _ _ _ _ from ?_)
    exact x_zreturn dX6_readLine_14 rfl rfl (rq_fl hfrm hc)
  unfold pLine
  refine x_aload_n dX6_readLine_0 rfl ?_
  refine (show X _ _ 1 _ _ _ _ _ _ from ?_)
  refine x_callV (As := []) (mc := 0) (ms := 0) (z := mX6_seenLine) (ci := 6) dX6_readLine_1 lX6_119 oX6_seenLine (by decide) (by first | assumption) rfl rfl (Nat.le_of_ble_eq_true rfl) (Nat.le_of_ble_eq_true rfl) rfl (hsl) (k_I ?_)
  refine (show X _ _ 4 _ _ _ _ _ _ from ?_)
  refine x_istore_n dX6_readLine_4 (by decide) rfl rfl ?_
  refine x_iload_n dX6_readLine_5 rfl ?_
  refine (show X _ _ 6 _ _ _ _ _ _ from ?_)
  refine y_if_ge 15 dX6_readLine_6 (by decide) ⟨by omega, by omega⟩ (fun h1 => ?_) (fun h1 => ?_)
  rotate_left
  · rw [if_pos h1]
    exact c2 _ _ rfl
  rw [if_neg (by omega)]
  have hlb2 : 0 ≤ lnOf t e i ∧ lnOf t e i ≤ 8 := ⟨h1, hlb.2⟩
  have hfl := hfl hlb2
  clear c2 hsl hlb
  generalize lnOf t e i = l at *
  have go : X g mX6_readLine 30 [.ref rd, .int (iI l), jk] [.int (iI (bI (decide (0 < A 0 0))))] (T, iV V, R, J, z) k n (RQ T R J z t V rd tx q f e (if l = 0 ∧ 0 < A 0 0 then .inl (3, tkS t e i) else if ¬ l = 0 ∧ A 0 0 ≤ 0 then .inl (6, tkS t e i) else if flB A l = true then .inl (5, tkS t e i) else pBody t e A (tkN t e i) l)) := by
    have g45 : ¬ (l = 0 ∧ 0 < A 0 0) → X g mX6_readLine 45 [.ref rd, .int (iI l), .int (iI (bI (decide (0 < A 0 0))))] [] (T, iV V, R, J, z) k n (RQ T R J z t V rd tx q f e (if ¬ l = 0 ∧ A 0 0 ≤ 0 then .inl (6, tkS t e i) else if flB A l = true then .inl (5, tkS t e i) else pBody t e A (tkN t e i) l)) := by
      intro hn
      have g60 : ¬ (¬ l = 0 ∧ A 0 0 ≤ 0) → X g mX6_readLine 60 [.ref rd, .int (iI l), .int (iI (bI (decide (0 < A 0 0))))] [] (T, iV V, R, J, z) k n (RQ T R J z t V rd tx q f e (if flB A l = true then .inl (5, tkS t e i) else pBody t e A (tkN t e i) l)) := by
        intro hn2
        refine x_aload_n dX6_readLine_60 rfl ?_
        refine x_iload_n dX6_readLine_61 rfl ?_
        refine (show X _ _ 62 _ _ _ _ _ _ from ?_)
        refine x_callV (As := [_]) (mc := 0) (ms := 0) (z := mX6_isFull) (ci := 6) dX6_readLine_62 lX6_159 oX6_isFull (by decide) (by first | assumption) rfl rfl (Nat.le_of_ble_eq_true rfl) (Nat.le_of_ble_eq_true rfl) rfl (hfl) (k_I ?_)
        refine (show X _ _ 65 _ _ _ _ _ _ from ?_)
        refine y_ifb_eq 74 dX6_readLine_65 (by decide) (fun h5 => ?_) (fun h5 => ?_)
        rotate_left
        · rw [if_pos h5]
          refine x_aload_n dX6_readLine_68 rfl ?_
          refine y_iconst dX6_readLine_69 ?_
          refine (show X _ _ 70 _ _ _ _ _ _ from ?_)
          refine x_callV (As := [_]) (mc := 0) (ms := 0) (z := mX6_fail) (ci := 6) dX6_readLine_70 lX6_89 oX6_fail (by decide) (by first | assumption) rfl rfl (Nat.le_of_ble_eq_true rfl) (Nat.le_of_ble_eq_true rfl) rfl (hf _) (k_I ?_)
          refine (show X _ _ 73 _ _ _ _ _ _ from ?_)
          exact x_zreturn dX6_readLine_73 rfl rfl (rq_fl hfrm hc)
        rw [if_neg (by rw [h5]; decide)]
        have h5 := of_decide_eq_false h5
        obtain ⟨hcu, hs0'⟩ := hv
        refine x_aload_n dX6_readLine_74 rfl ?_
        refine (show X _ _ 75 _ _ _ _ _ _ from ?_)
        refine x_callV (As := []) (mc := 0) (ms := 0) (z := mX6_advance) (ci := 6) dX6_readLine_75 lX6_82 oX6_advance (by decide) (by first | assumption) rfl rfl (Nat.le_of_ble_eq_true rfl) (Nat.le_of_ble_eq_true rfl) rfl (hadv) (k_V ?_)
        refine (show X _ _ 78 _ _ _ _ _ _ from ?_)
        generalize hU : avE V rd tx e (tkN t e i) = U at *
        generalize tkN t e i = i1 at *
        have hRI : RI t U A rd tx q f e i1 := ⟨hcu, FC_eq hF hVA (fun b h1 h2 => hs0'.1 b (by omega)), NR_SF (a := q + 4) hN (SF_w SF_refl hs0') (by omega) (by omega), (hs0'.2 1 (by omega)).trans h01⟩
        have eU : ∀ c, c < 9 → U f c = A 0 c := fun c hc => by rw [hs0'.1 f (by omega)]; exact hF.1 c hc
        clear hadv hU hf hfl hfrm hN hF hR0 hc
        unfold pBody
        refine x_iload_n dX6_readLine_78 rfl ?_
        refine (show X _ _ 79 _ _ _ _ _ _ from ?_)
        rcases (by omega : l = 0 ∨ l = 1 ∨ l = 2 ∨ l = 3 ∨ l = 4 ∨ l = 5 ∨ l = 6 ∨ l = 7 ∨ l = 8) with rfl | rfl | rfl | rfl | rfl | rfl | rfl | rfl | rfl
        · refine y_tsIn 124 dX6_readLine_79 ⟨by omega, by omega⟩ (by omega) (by omega) rfl (by decide) ?_
          rw [if_pos rfl]
          refine x_aload_n dX6_readLine_124 rfl ?_
          refine (show X _ _ 125 _ _ _ _ _ _ from ?_)
          refine x_callV (As := []) (mc := 0) (ms := 0) (z := mX6_readFamily) (ci := 6) dX6_readLine_125 lX6_162 oX6_readFamily (by decide) (by first | assumption) rfl rfl (Nat.le_of_ble_eq_true rfl) (Nat.le_of_ble_eq_true rfl) rfl (q_readFamily (g := g) (J := J) (z := z) (k := 0) (n := 0) hB0 hP hRI he ht) (fun v M1 hq => ?_)
          exact x_bret dX6_readLine_128 rfl (RQ_S0 hq hs0')
        · refine y_tsIn 129 dX6_readLine_79 ⟨by omega, by omega⟩ (by omega) (by omega) rfl (by decide) ?_
          rw [if_neg (by decide), if_pos rfl]
          have hr := hFS.2.2.2.1 (A 0 3).toNat (by omega)
          refine x_aload_n dX6_readLine_129 rfl ?_
          refine x_aload_n dX6_readLine_130 rfl ?_
          refine x_gr dX6_readLine_131 fX6_12 (by first | assumption) (fun _ _ _ => rfl) (by first | assumption) ?_
          refine x_gr dX6_readLine_134 fX6_165 (by first | assumption) (fun _ _ _ => rfl) (by first | assumption) ?_
          refine x_aload_n dX6_readLine_137 rfl ?_
          refine x_gr dX6_readLine_138 fX6_12 (by first | assumption) (fun _ _ _ => rfl) (by first | assumption) ?_
          refine y_gi dX6_readLine_141 fX6_93 (by first | assumption) (fun _ _ _ => rfl) ?_
          refine (show X _ _ 144 _ _ _ _ _ _ from ?_)
          refine X.val (b := ((A 0 3).toNat : Int)) (by rw [eU 3 (by decide), Int.toNat_of_nonneg hA3.1]) ?_
          refine y_aald (A 0 3).toNat dX6_readLine_144 fT1 (by decide) rfl (by omega) (by decide) hr.1 ?_
          refine (show X _ _ 145 _ _ _ _ _ _ from ?_)
          refine x_callV (As := [_]) (mc := 0) (ms := 0) (z := mX6_readPerson) (ci := 6) dX6_readLine_145 lX6_168 oX6_readPerson (by decide) (by first | assumption) rfl rfl (Nat.le_of_ble_eq_true rfl) (Nat.le_of_ble_eq_true rfl) rfl (q_readPerson (g := g) (J := J) (z := z) (k := 0) (n := 0) hB0 hP (by have := hP.2.1; omega) (by omega) hRI he ht) (fun v M1 hq => ?_)
          exact x_bret dX6_readLine_148 rfl (RQ_S0 hq hs0')
        · refine y_tsIn 149 dX6_readLine_79 ⟨by omega, by omega⟩ (by omega) (by omega) rfl (by decide) ?_
          rw [if_neg (by decide), if_neg (by decide), if_pos rfl]
          have hr := hFS.2.2.2.2.1 (A 0 4).toNat (by omega)
          refine x_aload_n dX6_readLine_149 rfl ?_
          refine x_aload_n dX6_readLine_150 rfl ?_
          refine x_gr dX6_readLine_151 fX6_12 (by first | assumption) (fun _ _ _ => rfl) (by first | assumption) ?_
          refine x_gr dX6_readLine_154 fX6_172 (by first | assumption) (fun _ _ _ => rfl) (by first | assumption) ?_
          refine x_aload_n dX6_readLine_157 rfl ?_
          refine x_gr dX6_readLine_158 fX6_12 (by first | assumption) (fun _ _ _ => rfl) (by first | assumption) ?_
          refine y_gi dX6_readLine_161 fX6_143 (by first | assumption) (fun _ _ _ => rfl) ?_
          refine (show X _ _ 164 _ _ _ _ _ _ from ?_)
          refine X.val (b := ((A 0 4).toNat : Int)) (by rw [eU 4 (by decide), Int.toNat_of_nonneg hA4.1]) ?_
          refine y_aald (A 0 4).toNat dX6_readLine_164 fT12 (by decide) rfl (by omega) (by decide) hr.1 ?_
          refine (show X _ _ 165 _ _ _ _ _ _ from ?_)
          refine x_callV (As := [_]) (mc := 0) (ms := 0) (z := mX6_readPlan) (ci := 6) dX6_readLine_165 lX6_174 oX6_readPlan (by decide) (by first | assumption) rfl rfl (Nat.le_of_ble_eq_true rfl) (Nat.le_of_ble_eq_true rfl) rfl (q_readPlan (g := g) (J := J) (z := z) (k := 0) (n := 0) hB0 hP (by have := hP.2.1; omega) (by omega) hRI he ht) (fun v M1 hq => ?_)
          exact x_bret dX6_readLine_168 rfl (RQ_S0 hq hs0')
        · refine y_tsIn 169 dX6_readLine_79 ⟨by omega, by omega⟩ (by omega) (by omega) rfl (by decide) ?_
          rw [if_neg (by decide), if_neg (by decide), if_neg (by decide), if_pos rfl]
          refine x_aload_n dX6_readLine_169 rfl ?_
          refine (show X _ _ 170 _ _ _ _ _ _ from ?_)
          refine x_callV (As := []) (mc := 0) (ms := 0) (z := mX6_readDies) (ci := 6) dX6_readLine_170 lX6_177 oX6_readDies (by decide) (by first | assumption) rfl rfl (Nat.le_of_ble_eq_true rfl) (Nat.le_of_ble_eq_true rfl) rfl (q_readDies (g := g) (J := J) (z := z) (k := 0) (n := 0) hB0 hP (by have := hP.2.1; omega) hRI he ht) (fun v M1 hq => ?_)
          exact x_bret dX6_readLine_173 rfl (RQ_S0 hq hs0')
        · refine y_tsIn 174 dX6_readLine_79 ⟨by omega, by omega⟩ (by omega) (by omega) rfl (by decide) ?_
          rw [if_neg (by decide), if_neg (by decide), if_neg (by decide), if_neg (by decide), if_pos rfl]
          have hr := hFS.2.2.2.2.2.1 (A 0 5).toNat (by omega)
          refine x_aload_n dX6_readLine_174 rfl ?_
          refine x_aload_n dX6_readLine_175 rfl ?_
          refine x_gr dX6_readLine_176 fX6_12 (by first | assumption) (fun _ _ _ => rfl) (by first | assumption) ?_
          refine x_gr dX6_readLine_179 fX6_180 (by first | assumption) (fun _ _ _ => rfl) (by first | assumption) ?_
          refine x_aload_n dX6_readLine_182 rfl ?_
          refine x_gr dX6_readLine_183 fX6_12 (by first | assumption) (fun _ _ _ => rfl) (by first | assumption) ?_
          refine y_gi dX6_readLine_186 fX6_146 (by first | assumption) (fun _ _ _ => rfl) ?_
          refine (show X _ _ 189 _ _ _ _ _ _ from ?_)
          refine X.val (b := ((A 0 5).toNat : Int)) (by rw [eU 5 (by decide), Int.toNat_of_nonneg hA5.1]) ?_
          refine y_aald (A 0 5).toNat dX6_readLine_189 fT25 (by decide) rfl (by omega) (by decide) hr.1 ?_
          refine (show X _ _ 190 _ _ _ _ _ _ from ?_)
          refine x_callV (As := [_]) (mc := 0) (ms := 0) (z := mX6_readBuys) (ci := 6) dX6_readLine_190 lX6_183 oX6_readBuys (by decide) (by first | assumption) rfl rfl (Nat.le_of_ble_eq_true rfl) (Nat.le_of_ble_eq_true rfl) rfl (q_readBuys (g := g) (J := J) (z := z) (k := 0) (n := 0) hB0 hP (by have := hP.2.1; omega) (by omega) hRI he ht) (fun v M1 hq => ?_)
          exact x_bret dX6_readLine_193 rfl (RQ_S0 hq hs0')
        · refine y_tsIn 194 dX6_readLine_79 ⟨by omega, by omega⟩ (by omega) (by omega) rfl (by decide) ?_
          rw [if_neg (by decide), if_neg (by decide), if_neg (by decide), if_neg (by decide), if_neg (by decide), if_pos rfl]
          refine x_aload_n dX6_readLine_194 rfl ?_
          refine (show X _ _ 195 _ _ _ _ _ _ from ?_)
          refine x_callV (As := []) (mc := 0) (ms := 0) (z := mX6_readSecret) (ci := 6) dX6_readLine_195 lX6_186 oX6_readSecret (by decide) (by first | assumption) rfl rfl (Nat.le_of_ble_eq_true rfl) (Nat.le_of_ble_eq_true rfl) rfl (q_readSecret (g := g) (J := J) (z := z) (k := 0) (n := 0) hB0 hP (by omega) hRI he ht) (fun v M1 hq => ?_)
          exact x_bret dX6_readLine_198 rfl (RQ_S0 hq hs0')
        · refine y_tsIn 199 dX6_readLine_79 ⟨by omega, by omega⟩ (by omega) (by omega) rfl (by decide) ?_
          rw [if_neg (by decide), if_neg (by decide), if_neg (by decide), if_neg (by decide), if_neg (by decide), if_neg (by decide), if_pos rfl]
          refine x_aload_n dX6_readLine_199 rfl ?_
          refine (show X _ _ 200 _ _ _ _ _ _ from ?_)
          refine x_callV (As := []) (mc := 0) (ms := 0) (z := mX6_readHides) (ci := 6) dX6_readLine_200 lX6_189 oX6_readHides (by decide) (by first | assumption) rfl rfl (Nat.le_of_ble_eq_true rfl) (Nat.le_of_ble_eq_true rfl) rfl (q_readHides (g := g) (J := J) (z := z) (k := 0) (n := 0) hB0 hP (by have := hP.2.1; omega) (by omega) hRI he ht) (fun v M1 hq => ?_)
          exact x_bret dX6_readLine_203 rfl (RQ_S0 hq hs0')
        · refine y_tsIn 204 dX6_readLine_79 ⟨by omega, by omega⟩ (by omega) (by omega) rfl (by decide) ?_
          rw [if_neg (by decide), if_neg (by decide), if_neg (by decide), if_neg (by decide), if_neg (by decide), if_neg (by decide), if_neg (by decide), if_pos rfl]
          have hr := hFS.2.2.2.2.2.2 (A 0 8).toNat (by omega)
          refine x_aload_n dX6_readLine_204 rfl ?_
          refine x_aload_n dX6_readLine_205 rfl ?_
          refine x_gr dX6_readLine_206 fX6_12 (by first | assumption) (fun _ _ _ => rfl) (by first | assumption) ?_
          refine x_gr dX6_readLine_209 fX6_192 (by first | assumption) (fun _ _ _ => rfl) (by first | assumption) ?_
          refine x_aload_n dX6_readLine_212 rfl ?_
          refine x_gr dX6_readLine_213 fX6_12 (by first | assumption) (fun _ _ _ => rfl) (by first | assumption) ?_
          refine y_gi dX6_readLine_216 fX6_153 (by first | assumption) (fun _ _ _ => rfl) ?_
          refine (show X _ _ 219 _ _ _ _ _ _ from ?_)
          refine X.val (b := ((A 0 8).toNat : Int)) (by rw [eU 8 (by decide), Int.toNat_of_nonneg hA8.1]) ?_
          refine y_aald (A 0 8).toNat dX6_readLine_219 fT34 (by decide) rfl (by omega) (by decide) hr.1 ?_
          refine (show X _ _ 220 _ _ _ _ _ _ from ?_)
          refine y_iconst dX6_readLine_220 ?_
          refine (show X _ _ 221 _ _ _ _ _ _ from ?_)
          refine x_callV (As := [_, _]) (mc := 0) (ms := 0) (z := mX6_readDiary) (ci := 6) dX6_readLine_221 lX6_194 oX6_readDiary (by decide) (by first | assumption) rfl rfl (Nat.le_of_ble_eq_true rfl) (Nat.le_of_ble_eq_true rfl) rfl (q_readDiary (g := g) (J := J) (z := z) (k := 0) (n := 0) (y := 0) hB0 hP (by have := hP.2.1; omega) (by omega) hRI he ht) (fun v M1 hq => ?_)
          exact x_bret dX6_readLine_224 rfl (RQ_S0 hq hs0')
        · refine y_tsOut 225 dX6_readLine_79 ⟨by omega, by omega⟩ (by omega) (by decide) ?_
          rw [if_neg (by decide), if_neg (by decide), if_neg (by decide), if_neg (by decide), if_neg (by decide), if_neg (by decide), if_neg (by decide), if_neg (by decide)]
          have hr := hFS.2.2.2.2.2.2 (A 0 8).toNat (by omega)
          refine x_aload_n dX6_readLine_225 rfl ?_
          refine x_aload_n dX6_readLine_226 rfl ?_
          refine x_gr dX6_readLine_227 fX6_12 (by first | assumption) (fun _ _ _ => rfl) (by first | assumption) ?_
          refine x_gr dX6_readLine_230 fX6_192 (by first | assumption) (fun _ _ _ => rfl) (by first | assumption) ?_
          refine x_aload_n dX6_readLine_233 rfl ?_
          refine x_gr dX6_readLine_234 fX6_12 (by first | assumption) (fun _ _ _ => rfl) (by first | assumption) ?_
          refine y_gi dX6_readLine_237 fX6_153 (by first | assumption) (fun _ _ _ => rfl) ?_
          refine (show X _ _ 240 _ _ _ _ _ _ from ?_)
          refine X.val (b := ((A 0 8).toNat : Int)) (by rw [eU 8 (by decide), Int.toNat_of_nonneg hA8.1]) ?_
          refine y_aald (A 0 8).toNat dX6_readLine_240 fT34 (by decide) rfl (by omega) (by decide) hr.1 ?_
          refine (show X _ _ 241 _ _ _ _ _ _ from ?_)
          refine y_iconst dX6_readLine_241 ?_
          refine (show X _ _ 242 _ _ _ _ _ _ from ?_)
          refine x_callV (As := [_, _]) (mc := 0) (ms := 0) (z := mX6_readDiary) (ci := 6) dX6_readLine_242 lX6_194 oX6_readDiary (by decide) (by first | assumption) rfl rfl (Nat.le_of_ble_eq_true rfl) (Nat.le_of_ble_eq_true rfl) rfl (q_readDiary (g := g) (J := J) (z := z) (k := 0) (n := 0) (y := 1) hB0 hP (by have := hP.2.1; omega) (by omega) hRI he ht) (fun v M1 hq => ?_)
          exact x_bret dX6_readLine_245 rfl (RQ_S0 hq hs0')
      refine x_iload_n dX6_readLine_45 rfl ?_
      refine (show X _ _ 46 _ _ _ _ _ _ from ?_)
      refine y_if_eq 60 dX6_readLine_46 (by decide) ⟨by omega, by omega⟩ (fun h3 => ?_) (fun h3 => ?_)
      · rw [if_neg (fun c => c.1 h3)]
        exact g60 (fun c => c.1 h3)
      refine x_iload_n dX6_readLine_49 rfl ?_
      refine (show X _ _ 50 _ _ _ _ _ _ from ?_)
      refine y_ifb_ne 60 dX6_readLine_50 (by decide) (fun h4 => ?_) (fun h4 => ?_)
      · have h4 := of_decide_eq_true h4
        rw [if_neg (by omega)]
        exact g60 (by omega)
      · have h4 := of_decide_eq_false h4
        rw [if_pos (by omega)]
        refine x_aload_n dX6_readLine_53 rfl ?_
        refine y_bipush dX6_readLine_54 rfl ?_
        refine (show X _ _ 56 _ _ _ _ _ _ from ?_)
        refine x_callV (As := [_]) (mc := 0) (ms := 0) (z := mX6_fail) (ci := 6) dX6_readLine_56 lX6_89 oX6_fail (by decide) (by first | assumption) rfl rfl (Nat.le_of_ble_eq_true rfl) (Nat.le_of_ble_eq_true rfl) rfl (hf _) (k_I ?_)
        refine (show X _ _ 59 _ _ _ _ _ _ from ?_)
        exact x_zreturn dX6_readLine_59 rfl rfl (rq_fl hfrm hc)
    refine x_istore_n dX6_readLine_30 (by decide) rfl rfl ?_
    refine x_iload_n dX6_readLine_31 rfl ?_
    refine (show X _ _ 32 _ _ _ _ _ _ from ?_)
    refine y_if_ne 45 dX6_readLine_32 (by decide) ⟨by omega, by omega⟩ (fun h3 => ?_) (fun h3 => ?_)
    · rw [if_neg (fun c => h3 c.1)]
      exact g45 (fun c => h3 c.1)
    refine x_iload_n dX6_readLine_35 rfl ?_
    refine (show X _ _ 36 _ _ _ _ _ _ from ?_)
    refine y_ifb_eq 45 dX6_readLine_36 (by decide) (fun h4 => ?_) (fun h4 => ?_)
    · have h4 := of_decide_eq_false h4
      rw [if_neg (by omega)]
      exact g45 (by omega)
    · have h4 := of_decide_eq_true h4
      rw [if_pos ⟨h3, h4⟩]
      refine x_aload_n dX6_readLine_39 rfl ?_
      refine y_iconst dX6_readLine_40 ?_
      refine (show X _ _ 41 _ _ _ _ _ _ from ?_)
      refine x_callV (As := [_]) (mc := 0) (ms := 0) (z := mX6_fail) (ci := 6) dX6_readLine_41 lX6_89 oX6_fail (by decide) (by first | assumption) rfl rfl (Nat.le_of_ble_eq_true rfl) (Nat.le_of_ble_eq_true rfl) rfl (hf _) (k_I ?_)
      refine (show X _ _ 44 _ _ _ _ _ _ from ?_)
      exact x_zreturn dX6_readLine_44 rfl rfl (rq_fl hfrm hc)
  refine x_aload_n dX6_readLine_15 rfl ?_
  refine x_gr dX6_readLine_16 fX6_12 (by first | assumption) (fun _ _ _ => rfl) (by first | assumption) ?_
  refine y_gi dX6_readLine_19 fX6_156 (by first | assumption) (fun _ _ _ => rfl) ?_
  refine (show X _ _ 22 _ _ _ _ _ _ from ?_)
  refine X.val (hF.1 0 (by decide)) ?_
  refine y_if_le 29 dX6_readLine_22 (by decide) ⟨by omega, by omega⟩ (fun h2 => ?_) (fun h2 => ?_)
  · rw [decide_eq_false (by omega : ¬ 0 < A 0 0)] at go
    refine y_iconst dX6_readLine_29 ?_
    refine (show X _ _ 30 _ _ _ _ _ _ from ?_)
    exact go
  · rw [decide_eq_true h2] at go
    refine y_iconst dX6_readLine_25 ?_
    refine x_goto 30 dX6_readLine_26 (by decide) ?_
    refine (show X _ _ 30 _ _ _ _ _ _ from ?_)
    exact go
end C53
