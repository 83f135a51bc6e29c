/-! ===== the law from its entry ===== -/
section St
variable {g : GG}
set_option maxRecDepth 8000 in
theorem l_start {T : Nat → Nat × Nat} {V : Nat → Nat → Int} {R : Nat → Nat → Option Nat} {J : Nat → Nat → Int64} {z b N : Nat} {xs : Nat → Int} (hx : ∀ j, R32 (xs j)) (hN : N ≤ 3072) (hb : b < z) (hT : T b = (7, N)) (hV : V b = xs) : X g mL_law 0 [.ref b, jk, jk, jk, jk, jk, jk] [] (T, iV V, R, J, z) 20000 200000 (fun v _ => v = some (.int (iI 1))) := by
  refine X.less (k' := 512 * 25 + 1 + 23 + 1 + 189 + 1) (n' := 512 * 355 + 1 + (0 + 4 + 4 + 8 + 10 + 10 + 10 + 10 + 10 + 10 + 192 + 240 + 240 + 240 + 24 + 24 + 24 + 24 + 25 + 24 + 135 + 540 + 45 + 1100) + 53 + (0 + 205 + 9 + 54 + 15 + 643 + 10 + 720 + 4 + 656 + 3 + 1490 + 18) + 8) ?_ (by decide) (by decide)
  refine y_new (ci := 10) dL_law_0 rfl cL_8 nX10 iX10 dfX10 ?_
  refine x_dup dL_law_3 rfl ?_
  have hE := i_Elder (g := g) (V := u1 V z (fun _ => 0)) (R := u1 R z (fun _ => none)) (J := u1 J z (fun _ => 0)) (T := u1 T z (10 + 10, 0)) (r := z) (by rw [u1_s])
  refine x_callI (As := []) (mc := 189) (ms := 0 + 205 + 9 + 54 + 15 + 643 + 10 + 720 + 4 + 656 + 3 + 1490 + 18) (z := mX10_init) dL_law_4 lL_15 oX10_init (by decide) rfl (Nat.le_of_ble_eq_true rfl) (Nat.le_of_ble_eq_true rfl) rfl hE (fun v M1 hq => ?_)
  obtain ⟨rfl, T1, V1, R1, J1, rfl, k1, s1, z1⟩ := hq
  refine (show X _ _ 7 _ [.ref z] _ _ _ _ from ?_)
  refine x_astore_n (L' := [.ref b, .ref z, jk, jk, jk, jk, jk]) dL_law_7 (by decide) rfl rfl ?_
  refine y_new (ci := 12) dL_law_8 rfl cL_16 nX12 iX12 dfX12 ?_
  refine x_dup dL_law_11 rfl ?_
  have hM := i_Model (g := g) (V := u1 V1 (z + 190) (fun _ => 0)) (R := u1 R1 (z + 190) (fun _ => none)) (J := u1 J1 (z + 190) (fun _ => 0)) (T := u1 T1 (z + 190) (10 + 12, 0)) (r := z + 190) (by rw [u1_s]) (by rw [u1_s]) (by rw [u1_s])
  refine x_callI (As := []) (mc := 23) (ms := 0 + 4 + 4 + 8 + 10 + 10 + 10 + 10 + 10 + 10 + 192 + 240 + 240 + 240 + 24 + 24 + 24 + 24 + 25 + 24 + 135 + 540 + 45 + 1100) (z := mX12_init) dL_law_12 lL_18 oX12_init (by decide) rfl (Nat.le_of_ble_eq_true rfl) (Nat.le_of_ble_eq_true rfl) rfl hM (fun v M1 hq => ?_)
  obtain ⟨rfl, T2, V2, R2, J2, rfl, k2, m1, m2, m3, m4⟩ := hq
  refine (show X _ _ 15 _ [.ref (z + 190)] _ _ _ _ from ?_)
  refine x_astore_n (L' := [.ref b, .ref z, .ref (z + 190), jk, jk, jk, jk]) dL_law_15 (by decide) rfl rfl ?_
  refine y_iconst dL_law_16 ?_
  refine y_newa (t := 4) (N := 1) dL_law_17 rfl (by decide) (by decide) acJ rfl (by decide) ?_
  refine x_astore_n (L' := [.ref b, .ref z, .ref (z + 190), .ref (z + 190 + 24), jk, jk, jk]) dL_law_19 (by decide) rfl rfl ?_
  refine y_iconst dL_law_20 ?_
  refine x_istore (L' := [.ref b, .ref z, .ref (z + 190), .ref (z + 190 + 24), .int (iI ((0 : Nat) : Int)), jk, jk]) dL_law_21 (by decide) rfl rfl ?_
  refine l_loop hx hN 512 0 _ (by omega) (by omega) ?_
  -- the state at first
  have c1 : ∀ c, c < z + 190 → T2 c = T1 c ∧ V2 c = V1 c ∧ R2 c = R1 c := fun c hc => by
    obtain ⟨e1, e2, e3, -⟩ := k2 c hc
    exact ⟨by rw [e1, u1_n (by omega)], by rw [e2, u1_n (by omega)], by rw [e3, u1_n (by omega)]⟩
  have c0 : ∀ c, c < z → T1 c = T c ∧ V1 c = V c := fun c hc => by
    obtain ⟨e1, e2, -⟩ := k1 c hc
    exact ⟨by rw [e1, u1_n (by omega)], by rw [e2, u1_n (by omega)]⟩
  have hI := CI_0 (H := fun _ => A0) (K := fun _ => A0) s1 z1
  obtain ⟨E, hE0, hD⟩ := DI_0 (f := 0) (A := A0) (B := A0) (H := fun _ => A0) (K := fun _ => A0) m1 m2 m3 m4
  have hEj : ∀ j, j < 24 → V2 (z + 190 + j) = E j := fun j hj => by
    have : V2 (z + 190 + j) = pB V2 (z + 190) 24 E (z + 190 + j) := congrFun hE0 _
    rw [this, pB_at hj]
  have hou : ∀ {α : Type} (W : Nat → α) (v : α) (c : Nat), c < z + 190 + 24 → u1 W (z + 190 + 24) v c = W c := fun W v c hc => u1_n (by omega)
  refine LN_of (fw := z + 54) (fr := z + 2) (σ := fun i => i) (f := 0) (t := fun _ => 0) (tp := 0) (h := false) (A := A0) (B := A0) (a := 0) (m := 0) (H := fun _ => A0) (K := fun _ => A0) (wr := 0) (pl := -1) (tr := 0) ⟨?_, ?_, ⟨by decide, by decide⟩, ⟨hb, by omega, by omega, by omega⟩, (fun q => by cases q), ?_, ?_, ?_⟩
  · refine CI_k hI (fun c q1 q2 => ⟨?_, ?_, ?_⟩)
    · rw [hou _ _ c (by omega), (c1 c q2).1]
    · rw [hou _ _ c (by omega), (c1 c q2).2.2]
    · rw [hou _ _ c (by omega), (c1 c q2).2.1]
  · refine DI_k hD (fun j hj => ?_) (fun c q1 q2 => hou _ _ c (by omega)) (hou _ _ _ (by omega)) (fun q => by cases q)
    show u1 V2 (z + 190 + 24) (fun _ => 0) (z + 190 + j) = E j
    rw [hou _ _ _ (by omega), hEj j hj]
  · rw [hou _ _ b (by omega), (c1 b (by omega)).1, (c0 b hb).1, hT]
  · rw [hou _ _ b (by omega), (c1 b (by omega)).2.1, (c0 b hb).2, hV]
  · rw [u1_s]
end St
/-! what the entry's words say -/
def tmS (i : Nat) : Term := match strL.find? (fun w => w.2.2.2 == i) with
  | some w => .string w.1 w.2.1
  | none => .int 0
def FLw : List Cond := flatC (Jvm.Cond.and given_1 narrow_1)
/-- the literals in the order of the entry's words -/
def strO : List (String × Nat × String × Nat) := [("ElderTurn$Reader", 125, "family", 8), ("ElderTurn$Reader", 127, "person", 18), ("ElderTurn$Reader", 129, "plan", 20), ("ElderTurn$Reader", 131, "dies", 6), ("ElderTurn$Reader", 133, "buys", 3), ("ElderTurn$Reader", 135, "secret", 24), ("ElderTurn$Reader", 137, "hides", 12), ("ElderTurn$Reader", 139, "diary", 5), ("ElderTurn$Reader", 141, "not", 17), ("ElderTurn$Reader", 198, "years", 31), ("ElderTurn$Reader", 206, "law", 14), ("ElderTurn$Reader", 221, "round", 23), ("ElderTurn$Reader", 223, "eldest", 7), ("ElderTurn$Reader", 225, "youngest", 32), ("ElderTurn$Reader", 227, "lot", 16), ("ElderTurn$Reader", 229, "vote", 29), ("ElderTurn$Reader", 215, "fare", 9), ("ElderTurn$Reader", 252, "plain", 19), ("ElderTurn$Reader", 254, "soldier", 25), ("ElderTurn$Reader", 256, "cousin", 4), ("ElderTurn$Reader", 258, "twin", 28), ("ElderTurn$Reader", 260, "keen", 13), ("ElderTurn$Reader", 238, "branch", 2), ("ElderTurn$Reader", 262, "left", 15), ("ElderTurn$Reader", 264, "right", 22), ("ElderTurn$Reader", 266, "age", 0), ("ElderTurn$Reader", 268, "born", 1), ("ElderTurn$Reader", 246, "strong", 26), ("ElderTurn$Reader", 248, "weighs", 30), ("ElderTurn$Reader", 250, "frail", 10), ("ElderTurn$Reader", 274, "to", 27), ("ElderTurn$Reader", 276, "harm", 11), ("ElderTurn$Reader", 281, "price", 21), ("ElderTurnModel", 181, "family", 8), ("ElderTurnModel", 258, "years", 31), ("ElderTurnModel", 263, "law", 14), ("ElderTurnModel", 265, "round", 23), ("ElderTurnModel", 267, "eldest", 7), ("ElderTurnModel", 269, "youngest", 32), ("ElderTurnModel", 271, "lot", 16), ("ElderTurnModel", 273, "vote", 29), ("ElderTurnModel", 275, "fare", 9), ("ElderTurnModel", 183, "person", 18), ("ElderTurnModel", 185, "plan", 20), ("ElderTurnModel", 187, "dies", 6), ("ElderTurnModel", 189, "buys", 3), ("ElderTurnModel", 191, "secret", 24), ("ElderTurnModel", 193, "hides", 12), ("ElderTurnModel", 195, "diary", 5), ("ElderTurnModel", 197, "not", 17), ("ElderTurnModel", 281, "plain", 19), ("ElderTurnModel", 283, "soldier", 25), ("ElderTurnModel", 285, "cousin", 4), ("ElderTurnModel", 287, "twin", 28), ("ElderTurnModel", 289, "keen", 13), ("ElderTurnModel", 302, "branch", 2), ("ElderTurnModel", 304, "right", 22), ("ElderTurnModel", 306, "left", 15), ("ElderTurnModel", 308, "born", 1), ("ElderTurnModel", 310, "age", 0), ("ElderTurnModel", 315, "strong", 26), ("ElderTurnModel", 316, "weighs", 30), ("ElderTurnModel", 318, "frail", 10), ("ElderTurnModel", 343, "to", 27), ("ElderTurnModel", 345, "harm", 11), ("ElderTurnModel", 361, "price", 21)]
def blk (w : String × Nat × String × Nat) : List Cond := [Cond.exactly (.string w.1 w.2.1) "java/lang/String", Cond.eq (.field (.string w.1 w.2.1) "java/lang/String" "coder" "B") (.int 0), Cond.arrayOf (.field (.string w.1 w.2.1) "java/lang/String" "value" "[B") .byte, Cond.eq (.length (.field (.string w.1 w.2.1) "java/lang/String" "value" "[B")) (.int (Int32.ofNat (lenStr.getD w.2.2.2 0)))] ++ ((List.range (lenStr.getD w.2.2.2 0)).map (fun j => Cond.eq (.elem (.field (.string w.1 w.2.1) "java/lang/String" "value" "[B") (.int (Int32.ofNat j))) (.int ((bytStr.getD w.2.2.2 []).getD j 0))) ++ (if w.1 == "ElderTurnModel" then [Cond.eq (tmS w.2.2.2) (.string w.1 w.2.1)] else []))
theorem FL_eq : FLw.drop 24 = strO.flatMap blk := by decide +kernel
theorem FL_in {w : String × Nat × String × Nat} {c : Cond} (hw : w ∈ strO) (hc : c ∈ blk w) : c ∈ FLw := by
  have : c ∈ FLw.drop 24 := by rw [FL_eq]; exact List.mem_flatMap.mpr ⟨w, hw, hc⟩
  exact List.mem_of_mem_drop this
theorem str_in : ∀ w ∈ strL, w ∈ strO := by decide +kernel
theorem str_tm : ∀ i, i < nStr → ∃ w ∈ strL, w.2.2.2 = i ∧ tmS i = .string w.1 w.2.1 := by
  intro i hi
  have hb : ((List.range nStr).all (fun i => strL.any (fun w => decide (w.2.2.2 = i) && decide (tmS i = .string w.1 w.2.1)))) = true := by decide +kernel
  have := List.all_eq_true.mp hb i (List.mem_range.mpr hi)
  obtain ⟨w, h1, h2⟩ := List.any_eq_true.mp this
  simp only [Bool.and_eq_true] at h2
  exact ⟨w, h1, of_decide_eq_true h2.1, of_decide_eq_true h2.2⟩
theorem str_m : (strL.all (fun w => decide (w.2.2.2 < nStr) && (decide (w.1 = "ElderTurnModel") || decide (Term.string w.1 w.2.1 = tmS w.2.2.2)))) = true := by decide +kernel
theorem str_len : ((List.range nStr).all (fun i => decide (lenStr.getD i 0 < 2 ^ 31))) = true := by decide +kernel
theorem tp1 {w : Cond} (h : w ∈ tables_1_1) : w ∈ tables_1 := List.mem_append_left _ h
theorem tp2 {w : Cond} (h : w ∈ tables_1_2) : w ∈ tables_1 := List.mem_append_right _ (List.mem_append_left _ h)
theorem tp3 {w : Cond} (h : w ∈ tables_1_3) : w ∈ tables_1 := List.mem_append_right _ (List.mem_append_right _ (List.mem_append_left _ h))
theorem tp4 {w : Cond} (h : w ∈ tables_1_4) : w ∈ tables_1 := List.mem_append_right _ (List.mem_append_right _ (List.mem_append_right _ (List.mem_append_left _ h)))
theorem tp5 {w : Cond} (h : w ∈ tables_1_5) : w ∈ tables_1 := List.mem_append_right _ (List.mem_append_right _ (List.mem_append_right _ (List.mem_append_right _ (List.mem_append_left _ h))))
theorem tp6 {w : Cond} (h : w ∈ tables_1_6) : w ∈ tables_1 := List.mem_append_right _ (List.mem_append_right _ (List.mem_append_right _ (List.mem_append_right _ (List.mem_append_right _ (List.mem_append_left _ h)))))
theorem tp7 {w : Cond} (h : w ∈ tables_1_7) : w ∈ tables_1 := List.mem_append_right _ (List.mem_append_right _ (List.mem_append_right _ (List.mem_append_right _ (List.mem_append_right _ (List.mem_append_right _ (List.mem_append_left _ h))))))
theorem tp8 {w : Cond} (h : w ∈ tables_1_8) : w ∈ tables_1 := List.mem_append_right _ (List.mem_append_right _ (List.mem_append_right _ (List.mem_append_right _ (List.mem_append_right _ (List.mem_append_right _ (List.mem_append_right _ (List.mem_append_left _ h)))))))
theorem tp9 {w : Cond} (h : w ∈ tables_1_9) : w ∈ tables_1 := List.mem_append_right _ (List.mem_append_right _ (List.mem_append_right _ (List.mem_append_right _ (List.mem_append_right _ (List.mem_append_right _ (List.mem_append_right _ (List.mem_append_right _ (List.mem_append_left _ h))))))))
theorem tp10 {w : Cond} (h : w ∈ tables_1_10) : w ∈ tables_1 := List.mem_append_right _ (List.mem_append_right _ (List.mem_append_right _ (List.mem_append_right _ (List.mem_append_right _ (List.mem_append_right _ (List.mem_append_right _ (List.mem_append_right _ (List.mem_append_right _ (h)))))))))
theorem str_w : ∀ w ∈ strL, Cond.stringRef w.1 w.2.1 w.2.2.1 ∈ tables_1 := List.forall_mem_cons.mpr ⟨tp3 (List.mem_of_getElem? (i := 84) rfl), List.forall_mem_cons.mpr ⟨tp3 (List.mem_of_getElem? (i := 137) rfl), List.forall_mem_cons.mpr ⟨tp3 (List.mem_of_getElem? (i := 138) rfl), List.forall_mem_cons.mpr ⟨tp3 (List.mem_of_getElem? (i := 139) rfl), List.forall_mem_cons.mpr ⟨tp3 (List.mem_of_getElem? (i := 140) rfl), List.forall_mem_cons.mpr ⟨tp3 (List.mem_of_getElem? (i := 141) rfl), List.forall_mem_cons.mpr ⟨tp3 (List.mem_of_getElem? (i := 142) rfl), List.forall_mem_cons.mpr ⟨tp3 (List.mem_of_getElem? (i := 143) rfl), List.forall_mem_cons.mpr ⟨tp3 (List.mem_of_getElem? (i := 144) rfl), List.forall_mem_cons.mpr ⟨tp3 (List.mem_of_getElem? (i := 157) rfl), List.forall_mem_cons.mpr ⟨tp3 (List.mem_of_getElem? (i := 166) rfl), List.forall_mem_cons.mpr ⟨tp3 (List.mem_of_getElem? (i := 180) rfl), List.forall_mem_cons.mpr ⟨tp3 (List.mem_of_getElem? (i := 171) rfl), List.forall_mem_cons.mpr ⟨tp3 (List.mem_of_getElem? (i := 172) rfl), List.forall_mem_cons.mpr ⟨tp3 (List.mem_of_getElem? (i := 173) rfl), List.forall_mem_cons.mpr ⟨tp3 (List.mem_of_getElem? (i := 174) rfl), List.forall_mem_cons.mpr ⟨tp3 (List.mem_of_getElem? (i := 175) rfl), List.forall_mem_cons.mpr ⟨tp3 (List.mem_of_getElem? (i := 206) rfl), List.forall_mem_cons.mpr ⟨tp3 (List.mem_of_getElem? (i := 219) rfl), List.forall_mem_cons.mpr ⟨tp3 (List.mem_of_getElem? (i := 220) rfl), List.forall_mem_cons.mpr ⟨tp3 (List.mem_of_getElem? (i := 221) rfl), List.forall_mem_cons.mpr ⟨tp3 (List.mem_of_getElem? (i := 201) rfl), List.forall_mem_cons.mpr ⟨tp3 (List.mem_of_getElem? (i := 202) rfl), List.forall_mem_cons.mpr ⟨tp3 (List.mem_of_getElem? (i := 203) rfl), List.forall_mem_cons.mpr ⟨tp3 (List.mem_of_getElem? (i := 204) rfl), List.forall_mem_cons.mpr ⟨tp3 (List.mem_of_getElem? (i := 205) rfl), List.forall_mem_cons.mpr ⟨tp3 (List.mem_of_getElem? (i := 211) rfl), List.forall_mem_cons.mpr ⟨tp3 (List.mem_of_getElem? (i := 212) rfl), List.forall_mem_cons.mpr ⟨tp3 (List.mem_of_getElem? (i := 217) rfl), List.forall_mem_cons.mpr ⟨tp3 (List.mem_of_getElem? (i := 218) rfl), List.forall_mem_cons.mpr ⟨tp3 (List.mem_of_getElem? (i := 230) rfl), List.forall_mem_cons.mpr ⟨tp3 (List.mem_of_getElem? (i := 231) rfl), List.forall_mem_cons.mpr ⟨tp4 (List.mem_of_getElem? (i := 4) rfl), List.forall_mem_cons.mpr ⟨tp7 (List.mem_of_getElem? (i := 213) rfl), List.forall_mem_cons.mpr ⟨tp8 (List.mem_of_getElem? (i := 14) rfl), List.forall_mem_cons.mpr ⟨tp8 (List.mem_of_getElem? (i := 31) rfl), List.forall_mem_cons.mpr ⟨tp8 (List.mem_of_getElem? (i := 32) rfl), List.forall_mem_cons.mpr ⟨tp8 (List.mem_of_getElem? (i := 33) rfl), List.forall_mem_cons.mpr ⟨tp8 (List.mem_of_getElem? (i := 34) rfl), List.forall_mem_cons.mpr ⟨tp8 (List.mem_of_getElem? (i := 35) rfl), List.forall_mem_cons.mpr ⟨tp8 (List.mem_of_getElem? (i := 36) rfl), List.forall_mem_cons.mpr ⟨tp8 (List.mem_of_getElem? (i := 37) rfl), List.forall_mem_cons.mpr ⟨tp7 (List.mem_of_getElem? (i := 231) rfl), List.forall_mem_cons.mpr ⟨tp8 (List.mem_of_getElem? (i := 7) rfl), List.forall_mem_cons.mpr ⟨tp8 (List.mem_of_getElem? (i := 8) rfl), List.forall_mem_cons.mpr ⟨tp8 (List.mem_of_getElem? (i := 9) rfl), List.forall_mem_cons.mpr ⟨tp8 (List.mem_of_getElem? (i := 10) rfl), List.forall_mem_cons.mpr ⟨tp8 (List.mem_of_getElem? (i := 11) rfl), List.forall_mem_cons.mpr ⟨tp8 (List.mem_of_getElem? (i := 12) rfl), List.forall_mem_cons.mpr ⟨tp8 (List.mem_of_getElem? (i := 13) rfl), List.forall_mem_cons.mpr ⟨tp8 (List.mem_of_getElem? (i := 46) rfl), List.forall_mem_cons.mpr ⟨tp8 (List.mem_of_getElem? (i := 47) rfl), List.forall_mem_cons.mpr ⟨tp8 (List.mem_of_getElem? (i := 48) rfl), List.forall_mem_cons.mpr ⟨tp8 (List.mem_of_getElem? (i := 49) rfl), List.forall_mem_cons.mpr ⟨tp8 (List.mem_of_getElem? (i := 50) rfl), List.forall_mem_cons.mpr ⟨tp8 (List.mem_of_getElem? (i := 51) rfl), List.forall_mem_cons.mpr ⟨tp8 (List.mem_of_getElem? (i := 52) rfl), List.forall_mem_cons.mpr ⟨tp8 (List.mem_of_getElem? (i := 53) rfl), List.forall_mem_cons.mpr ⟨tp8 (List.mem_of_getElem? (i := 54) rfl), List.forall_mem_cons.mpr ⟨tp8 (List.mem_of_getElem? (i := 55) rfl), List.forall_mem_cons.mpr ⟨tp8 (List.mem_of_getElem? (i := 60) rfl), List.forall_mem_cons.mpr ⟨tp8 (List.mem_of_getElem? (i := 61) rfl), List.forall_mem_cons.mpr ⟨tp8 (List.mem_of_getElem? (i := 62) rfl), List.forall_mem_cons.mpr ⟨tp8 (List.mem_of_getElem? (i := 79) rfl), List.forall_mem_cons.mpr ⟨tp8 (List.mem_of_getElem? (i := 80) rfl), List.forall_mem_cons.mpr ⟨tp8 (List.mem_of_getElem? (i := 89) rfl), fun _ h => absurd h List.not_mem_nil⟩⟩⟩⟩⟩⟩⟩⟩⟩⟩⟩⟩⟩⟩⟩⟩⟩⟩⟩⟩⟩⟩⟩⟩⟩⟩⟩⟩⟩⟩⟩⟩⟩⟩⟩⟩⟩⟩⟩⟩⟩⟩⟩⟩⟩⟩⟩⟩⟩⟩⟩⟩⟩⟩⟩⟩⟩⟩⟩⟩⟩⟩⟩⟩⟩⟩
theorem nwF_t : ∀ w ∈ nwF, Cond.fieldLinkNest w.1 w.2.1 w.2.2.1 w.2.2.2.1 w.2.2.2.2.1 w.2.2.2.2.2 ∈ tables_1 := List.forall_mem_cons.mpr ⟨tp7 (List.mem_of_getElem? (i := 65) rfl), List.forall_mem_cons.mpr ⟨tp7 (List.mem_of_getElem? (i := 117) rfl), List.forall_mem_cons.mpr ⟨tp7 (List.mem_of_getElem? (i := 75) rfl), List.forall_mem_cons.mpr ⟨tp7 (List.mem_of_getElem? (i := 119) rfl), List.forall_mem_cons.mpr ⟨tp7 (List.mem_of_getElem? (i := 121) rfl), List.forall_mem_cons.mpr ⟨tp7 (List.mem_of_getElem? (i := 68) rfl), List.forall_mem_cons.mpr ⟨tp7 (List.mem_of_getElem? (i := 66) rfl), List.forall_mem_cons.mpr ⟨tp7 (List.mem_of_getElem? (i := 67) rfl), List.forall_mem_cons.mpr ⟨tp7 (List.mem_of_getElem? (i := 77) rfl), List.forall_mem_cons.mpr ⟨tp7 (List.mem_of_getElem? (i := 79) rfl), List.forall_mem_cons.mpr ⟨tp7 (List.mem_of_getElem? (i := 81) rfl), List.forall_mem_cons.mpr ⟨tp7 (List.mem_of_getElem? (i := 83) rfl), List.forall_mem_cons.mpr ⟨tp7 (List.mem_of_getElem? (i := 85) rfl), List.forall_mem_cons.mpr ⟨tp7 (List.mem_of_getElem? (i := 87) rfl), List.forall_mem_cons.mpr ⟨tp7 (List.mem_of_getElem? (i := 89) rfl), List.forall_mem_cons.mpr ⟨tp7 (List.mem_of_getElem? (i := 69) rfl), List.forall_mem_cons.mpr ⟨tp7 (List.mem_of_getElem? (i := 91) rfl), List.forall_mem_cons.mpr ⟨tp7 (List.mem_of_getElem? (i := 93) rfl), List.forall_mem_cons.mpr ⟨tp7 (List.mem_of_getElem? (i := 95) rfl), List.forall_mem_cons.mpr ⟨tp7 (List.mem_of_getElem? (i := 97) rfl), List.forall_mem_cons.mpr ⟨tp7 (List.mem_of_getElem? (i := 70) rfl), List.forall_mem_cons.mpr ⟨tp7 (List.mem_of_getElem? (i := 99) rfl), List.forall_mem_cons.mpr ⟨tp7 (List.mem_of_getElem? (i := 101) rfl), List.forall_mem_cons.mpr ⟨tp7 (List.mem_of_getElem? (i := 103) rfl), List.forall_mem_cons.mpr ⟨tp7 (List.mem_of_getElem? (i := 105) rfl), List.forall_mem_cons.mpr ⟨tp7 (List.mem_of_getElem? (i := 71) rfl), List.forall_mem_cons.mpr ⟨tp7 (List.mem_of_getElem? (i := 107) rfl), List.forall_mem_cons.mpr ⟨tp7 (List.mem_of_getElem? (i := 72) rfl), List.forall_mem_cons.mpr ⟨tp7 (List.mem_of_getElem? (i := 109) rfl), List.forall_mem_cons.mpr ⟨tp7 (List.mem_of_getElem? (i := 73) rfl), List.forall_mem_cons.mpr ⟨tp7 (List.mem_of_getElem? (i := 111) rfl), List.forall_mem_cons.mpr ⟨tp7 (List.mem_of_getElem? (i := 113) rfl), List.forall_mem_cons.mpr ⟨tp7 (List.mem_of_getElem? (i := 115) rfl), fun _ h => absurd h List.not_mem_nil⟩⟩⟩⟩⟩⟩⟩⟩⟩⟩⟩⟩⟩⟩⟩⟩⟩⟩⟩⟩⟩⟩⟩⟩⟩⟩⟩⟩⟩⟩⟩⟩⟩
theorem nwM_t : ∀ w ∈ nwM, Cond.methodLinkNest w.1 w.2.1 w.2.2.1 w.2.2.2 ∈ tables_1 := List.forall_mem_cons.mpr ⟨tp1 (List.mem_of_getElem? (i := 35) rfl), List.forall_mem_cons.mpr ⟨tp1 (List.mem_of_getElem? (i := 207) rfl), List.forall_mem_cons.mpr ⟨tp5 (List.mem_of_getElem? (i := 60) rfl), List.forall_mem_cons.mpr ⟨tp4 (List.mem_of_getElem? (i := 139) rfl), List.forall_mem_cons.mpr ⟨tp2 (List.mem_of_getElem? (i := 59) rfl), List.forall_mem_cons.mpr ⟨tp1 (List.mem_of_getElem? (i := 41) rfl), List.forall_mem_cons.mpr ⟨tp4 (List.mem_of_getElem? (i := 13) rfl), List.forall_mem_cons.mpr ⟨tp5 (List.mem_of_getElem? (i := 121) rfl), List.forall_mem_cons.mpr ⟨tp4 (List.mem_of_getElem? (i := 73) rfl), List.forall_mem_cons.mpr ⟨tp1 (List.mem_of_getElem? (i := 212) rfl), List.forall_mem_cons.mpr ⟨tp1 (List.mem_of_getElem? (i := 215) rfl), List.forall_mem_cons.mpr ⟨tp2 (List.mem_of_getElem? (i := 8) rfl), List.forall_mem_cons.mpr ⟨tp7 (List.mem_of_getElem? (i := 61) rfl), fun _ h => absurd h List.not_mem_nil⟩⟩⟩⟩⟩⟩⟩⟩⟩⟩⟩⟩⟩
theorem st1 : Cond.laysStatic "java/lang/String" "COMPACT_STRINGS" "Z" ∈ tables_1 := tp3 (List.mem_of_getElem? (i := 98) rfl)
theorem st2 : Cond.initialized "java/lang/String" ∈ tables_1 := tp1 (List.mem_of_getElem? (i := 14) rfl)
theorem st3 : Cond.laysStatic "jdk/internal/util/Preconditions" "SIOOBE_FORMATTER" "Ljava/util/function/BiFunction;" ∈ tables_1 := tp3 (List.mem_of_getElem? (i := 114) rfl)
theorem st4 : Cond.initialized "jdk/internal/util/Preconditions" ∈ tables_1 := tp1 (List.mem_of_getElem? (i := 16) rfl)
theorem st5 : Cond.laysStatic Jvm.Bundle.tN "UNASSIGNED_STACK" Jvm.Bundle.steD ∈ tables_1 := tp6 (List.mem_of_getElem? (i := 83) rfl)
theorem st6 : Cond.initialized Jvm.Bundle.tN ∈ tables_1 := tp1 (List.mem_of_getElem? (i := 21) rfl)
theorem st7 : Cond.laysStatic Jvm.Bundle.tN "SUPPRESSED_SENTINEL" Jvm.Bundle.listD ∈ tables_1 := tp6 (List.mem_of_getElem? (i := 85) rfl)
theorem st8 : Cond.arrayOver (.object "ElderTurn$Now") ∈ tables_1 := tp2 (List.mem_of_getElem? (i := 58) rfl)
theorem st9 : Cond.arrayOver (.array .int) ∈ tables_1 := tp1 (List.mem_of_getElem? (i := 46) rfl)
theorem stKt : Cond.castable nseN nseN ∈ tables_1 := tp6 (List.mem_of_getElem? (i := 58) rfl)
theorem stD : ∀ w ∈ thD, Cond.declares w ∈ tables_1 := List.forall_mem_cons.mpr ⟨tp6 (List.mem_of_getElem? (i := 59) rfl), List.forall_mem_cons.mpr ⟨tp6 (List.mem_of_getElem? (i := 61) rfl), List.forall_mem_cons.mpr ⟨tp6 (List.mem_of_getElem? (i := 63) rfl), fun _ h => absurd h List.not_mem_nil⟩⟩⟩
theorem stF : ∀ c ∈ [Cond.eq (.static "java/lang/String" "COMPACT_STRINGS" "Z") (.int 1), Cond.isRef (.static "jdk/internal/util/Preconditions" "SIOOBE_FORMATTER" "Ljava/util/function/BiFunction;"), Cond.isRef (.static Jvm.Bundle.tN "UNASSIGNED_STACK" Jvm.Bundle.steD), Cond.isRef (.static Jvm.Bundle.tN "SUPPRESSED_SENTINEL" Jvm.Bundle.listD)], c ∈ FLw := by decide +kernel
theorem inst_all : ∀ (c : Nat) (q : vw_C), vwCl[c]? = some q → Cond.instantiable q.1 q.2.2 ∈ tb := by
  intro c q h
  match c, h with
  | 0, h => cases h; exact nX0
  | 1, h => cases h; exact nX1
  | 2, h => cases h; exact nX2
  | 3, h => cases h; exact nX3
  | 4, h => cases h; exact nX4
  | 5, h => cases h; exact nX5
  | 6, h => cases h; exact nX6
  | 7, h => cases h; exact nX7
  | 8, h => cases h; exact nX8
  | 9, h => cases h; exact nX9
  | 10, h => cases h; exact nX10
  | 11, h => cases h; exact nX11
  | 12, h => cases h; exact nX12
  | c + 13, h => cases h
section St2
variable {args : Array Value} {s : State}
theorem arr_c {ty : FieldType} (h : (Cond.arrayClass ty).before args s = true) (hno : ∀ C, ty ≠ .object C) : ∃ cA, ArrOfT s cA ty ∧ va_RA s cA ty := by
  obtain ⟨c, k, comp, h1, h2, h3⟩ := Cond.arrayClass_spec h
  refine ⟨c, fun n z => ⟨(fun q h => by cases h), k, h2, comp, h3⟩, ?_⟩
  cases ty with
  | object C => exact absurd rfl (hno C)
  | _ => exact h1
theorem arr_a {ty : FieldType} (h : (Cond.arrayOver (.array ty)).before args s = true) : ∃ cA, ArrOfT s cA (.array ty) ∧ va_RA s cA (.array ty) := by
  obtain ⟨comp, c, k, h0, h1, h2, h3⟩ := Cond.arrayOver_specA h
  exact ⟨c, fun n z => ⟨(fun q h => by cases h), k, h1, comp, h2⟩, h3⟩
theorem arr_o {C : String} (h : (Cond.arrayOver (.object C)).before args s = true) : ∃ cA, ArrOfT s cA (.object C) ∧ va_RA s cA (.object C) := by
  obtain ⟨comp, c, k, h0, hi, h1, h2, h3⟩ := Cond.arrayOver_spec h
  exact ⟨c, fun n z => ⟨(fun q h => by cases h), k, h1, comp, h2⟩, k, comp, h1, h2, h0, h3⟩
theorem st_any {own : String} {k : Nat} {v : Value} (h : (Term.string own k).eval args s none [] s = some v) : (Term.string own k).eval #[] s none [] s = some v := h
theorem st_eq {t1 t2 : Term} {a : Nat} (h : (Cond.eq t1 t2).before args s = true) (h1 : t1.eval args s none [] s = some (.ref a)) : t2.eval args s none [] s = some (.ref a) := by
  simp only [Cond.before, Cond.holds, Cond.value] at h
  rw [h1] at h
  cases h2 : t2.eval args s none [] s with
  | none => simp [h2] at h
  | some v =>
    simp [h2] at h
    cases v <;> simp at h
    rw [h]
/-- the things that the walk is told of -/
theorem st_g (hts : ∀ w ∈ lw_tbl, w.before args s = true) (hgv : (Jvm.Cond.and given_1 narrow_1).before args s = true) : ∃ g : GG, g.2.2.2.2 = s.heap.size ∧ SW g s ∧ gStr g s s.heap := by
  have htb : ∀ w ∈ tables_1, w.before args s = true := fun w h => hts w (List.mem_append_right _ h)
  have hw : ∀ w ∈ FLw, w.before args s = true := fun w h => flat_of_before _ hgv w h
  have hk : ∀ w : Cond, w ∈ tb → w.before args s = true := fun w h => hts w (tb_in h)
  -- classes
  have hcl : ∀ (c : Nat), ∃ q9 : ClassId × (Nat → Nat), ∀ q : vw_C, vwCl[c]? = some q → u_Kn s q.1 q.2.1 q.2.2 q9.1 q9.2 := by
    intro c
    cases hq : vwCl[c]? with
    | none => exact ⟨(0, fun _ => 0), fun q h => by cases h⟩
    | some q =>
      obtain ⟨hin, -⟩ := clOk_all c q hq
      obtain ⟨cC, iS, h⟩ := u_known (C := q.1) (T := q.2.1) (N := q.2.2) (n := q.2.2) hk hin (hk _ (inst_all c q hq))
      exact ⟨(cC, iS), fun q' h' => by cases h'; exact h⟩
  obtain ⟨dd9, hdd⟩ := Classical.axiomOfChoice hcl
  -- arrays
  obtain ⟨a1, ha1⟩ := arr_c (hk _ acI) (fun C h => by cases h)
  obtain ⟨a2, ha2⟩ := arr_c (hk _ acB) (fun C h => by cases h)
  obtain ⟨a3, ha3⟩ := arr_c (hk _ acZ) (fun C h => by cases h)
  obtain ⟨a4, ha4⟩ := arr_c (hk _ acJ) (fun C h => by cases h)
  have b1 := htb _ st9
  have b2 := htb _ st8
  obtain ⟨a5, ha5⟩ := arr_a b1
  obtain ⟨a6, ha6⟩ := arr_o b2
  have hA : ∀ a : Nat, a < s.heap.size → ¬ (fun q : Nat => s.heap.size ≤ q) a := fun a h q => by omega
  -- literals
  have hl : ∀ i : Nat, ∃ q : Nat × Nat, i < nStr → (tmS i).eval args s none [] s = some (.ref q.1) ∧ va_O "java/lang/String" q.1 (fun q : Nat => s.heap.size ≤ q) s s.heap ∧ va_OF "java/lang/String" "coder" "B" (.int 0) q.1 (fun q : Nat => s.heap.size ≤ q) s s.heap ∧ va_OF "java/lang/String" "value" "[B" (.ref q.2) q.1 (fun q : Nat => s.heap.size ≤ q) s s.heap ∧ va_T .byte q.2 (lenStr.getD i 0) (fun j => .int ((bytStr.getD i []).getD j 0)) (fun q : Nat => s.heap.size ≤ q) s s.heap := by
    intro i
    by_cases hi : i < nStr
    · obtain ⟨w, hwL, rfl, htm⟩ := str_tm i hi
      have hwO := str_in w hwL
      have hN := of_decide_eq_true (List.all_eq_true.mp str_len _ (List.mem_range.mpr hi))
      have hin : ∀ c ∈ blk w, c.before args s = true := fun c hc => hw c (FL_in hwO hc)
      have hex := hin (Cond.exactly (.string w.1 w.2.1) "java/lang/String") (by simp [blk])
      have hco := hin (Cond.eq (.field (.string w.1 w.2.1) "java/lang/String" "coder" "B") (.int 0)) (by simp [blk])
      have har := hin (Cond.arrayOf (.field (.string w.1 w.2.1) "java/lang/String" "value" "[B") .byte) (by simp [blk])
      have hle := hin (Cond.eq (.length (.field (.string w.1 w.2.1) "java/lang/String" "value" "[B")) (.int (Int32.ofNat (lenStr.getD w.2.2.2 0)))) (by simp [blk])
      have hel : ∀ j : Nat, j < lenStr.getD w.2.2.2 0 → (Cond.eq (.elem (.field (.string w.1 w.2.1) "java/lang/String" "value" "[B") (.int (Int32.ofNat j))) (.int ((bytStr.getD w.2.2.2 []).getD j 0))).before args s = true := fun j hj => hin _ (List.mem_append_right _ (List.mem_append_left _ (List.mem_map.mpr ⟨j, List.mem_range.mpr hj, rfl⟩)))
      rw [htm]
      obtain ⟨a, c, cA, kA, q1, q2, q3, q4, q5, q6, -⟩ := Cond.exactly_spec (args := args) (first := s) (o := none) (s := s) (idx := []) (t := .string w.1 w.2.1) (cls := "java/lang/String") hex
      obtain ⟨t, ht, hT⟩ := va_Tof (f := fun j => .int ((bytStr.getD w.2.2.2 []).getD j 0)) (A := fun q : Nat => s.heap.size ≤ q) hN har (va_eqt hle) (fun j hj => va_eqt (hel j hj)) hA
      exact ⟨(a, t), fun _ => ⟨q1, ⟨cA, q3, q5, by rw [q6]; exact q2, hA a (Array.getElem?_eq_some_iff.mp q3).1⟩, vk_OFof q1 (va_eqt hco) hA, vk_OFof q1 ht hA, hT⟩⟩
    · exact ⟨(0, 0), fun h => absurd h hi⟩
  obtain ⟨ad, had⟩ := Classical.axiomOfChoice hl
  have hst := fun c hc => hw c (stF c hc)
  refine ⟨((fun c => (dd9 c).1, fun c => (dd9 c).2), (fun k => if k = 1 then a1 else if k = 2 then a2 else if k = 3 then a3 else if k = 4 then a4 else if k = 5 then a5 else a6), (fun i => (ad i).1), (fun i => (ad i).2), s.heap.size), rfl, ⟨⟨fun c q hq => hdd c q hq, fun k q hq => ?_⟩, fun w hw9 => ?_, fun w hw9 => ?_, ?_, ?_, fun w hw9 => ?_, fun w hw9 => ?_, ?_⟩, fun i hi => (had i hi).2, ?_, ?_, ?_, ?_⟩
  · match k, hq with
    | 0, hq => cases hq; exact ha1
    | 1, hq => cases hq; exact ha2
    | 2, hq => cases hq; exact ha3
    | 3, hq => cases hq; exact ha4
    | 4, hq => cases hq; exact ha5
    | 5, hq => cases hq; exact ha6
    | k + 6, hq => cases hq
  · exact va_any rfl (htb _ (nwF_t w hw9))
  · exact va_any rfl (htb _ (nwM_t w hw9))
  · exact va_AO.of b2
  · exact b1
  · have hm := List.all_eq_true.mp str_m w hw9
    simp only [Bool.and_eq_true, Bool.or_eq_true] at hm
    obtain ⟨e1, e3⟩ := hm
    have e1 := of_decide_eq_true e1
    have hev := (had w.2.2.2 e1).1
    have hev2 : (Term.string w.1 w.2.1).eval args s none [] s = some (.ref (ad w.2.2.2).1) := by
      rcases e3 with e3 | e3
      · have e3 := of_decide_eq_true e3
        have hin : ∀ c ∈ blk w, c.before args s = true := fun c hc => hw c (FL_in (str_in w hw9) hc)
        exact st_eq (hin (Cond.eq (tmS w.2.2.2) (.string w.1 w.2.1)) (by unfold blk; rw [e3]; simp)) hev
      · rw [of_decide_eq_true e3]; exact hev
    exact vk_R.of (htb _ (str_w w hw9)) hev2
  · exact va_any rfl (htb _ (stD w hw9))
  · exact va_any rfl (htb _ stKt)
  · exact va_Zof (htb _ st1) (htb _ st2) (va_eqt (hst _ (by simp))) hA
  · exact va_Zqof (htb _ st3) (htb _ st4) (hst _ (by simp)) hA
  · exact vx_Zqof (htb _ st5) (htb _ st6) (hst _ (by simp)) hA
  · exact vx_Zqof (htb _ st7) (htb _ st6) (hst _ (by simp)) hA
end St2
