/-! ===== the law's own method around led ===== -/
abbrev mL_led : MD := (⟨RL, "led", "(LElderTurn;I[J)I"⟩, method_3_code, 4, some .int, 13)
abbrev mL_law : MD := (⟨RL, "law", "([I)Z"⟩, code, 7, some .boolean, 15)
def hhLd : List (Nat × Nat × Nat × Nat) := [(0, 9, 12, 13)]
def wsLd : List Cond := Cond.codeWith mL_led.1 mL_led.2.1 mL_led.2.2.1 mL_led.2.2.2.1 hhLd :: tb
def rmLd2 : Room := { frames := 13, cells := 1, slots := 6, locals := 481 }
theorem ldw_c : Cond.codeWith mL_led.1 mL_led.2.1 mL_led.2.2.1 mL_led.2.2.2.1 hhLd ∈ tb := tq6 (List.mem_of_getElem? (i := 45) rfl) rfl
theorem ldw_s : Cond.static mL_led.1 ∈ tb := tq6 (List.mem_of_getElem? (i := 44) rfl) rfl
theorem ldw_m : Cond.methodLink RL 216 mL_led.1 ∈ tb := tq6 (List.mem_of_getElem? (i := 43) rfl) rfl
theorem ldw_k : Cond.classLink RL 13 nseN ∈ tb := tq6 (List.mem_of_getElem? (i := 46) rfl) rfl
theorem ldw_l : Cond.methodLink RL 7 mX10_led.1 ∈ tb := tq6 (List.mem_of_getElem? (i := 47) rfl) rfl
theorem ldw_i : Cond.initialized RL ∈ tb := tq1 (List.mem_of_getElem? (i := 0) rfl) rfl
theorem ldw_g : GoodIn tb wsLd := by
  intro w hw
  have h2 : w ∈ tb := by
    rcases List.mem_cons.mp hw with e | e
    · rw [e]; exact ldw_c
    · exact e
  exact ⟨h2, good_of_word (tb_good h2)⟩
/-- what it leaves -/
def ldP (T : Nat → Nat × Nat) (V : Nat → Nat → Int) (R : Nat → Nat → Option Nat) (J : Nat → Nat → Int64) (z ou : Nat) (d : Int) : Option Value → Mem → Prop := fun v M1 => (0 ≤ d ∧ v = some (.int (iI 0)) ∧ M1 = (T, iV V, R, u2 J ou 0 (iI d).toInt64, z)) ∨ (d < 0 ∧ v = some (.int (iI 1)) ∧ ∃ z', z ≤ z' ∧ M1 = (T, iV V, R, J, z'))
section LedL
variable {g : GG} {T : Nat → Nat × Nat} {V A B : Nat → Nat → Int} {R : Nat → Nat → Option Nat} {J : Nat → Nat → Int64} {z k n : Nat} {o fw fr ou : Nat} {σ : Nat → Nat} {t : Nat → Int} {tp : Nat} {h : Bool} {a m : Nat} {H K : Nat → Nat → Nat → Int} {wr pl tr : Int}
theorem ll_7 {i d : Int} (hou : T ou = (4, 1)) (hd : 0 ≤ d) : X g mL_led 7 [.ref o, .int (iI i), .ref ou, jk] [.int (iI d), .int (iI 0), .ref ou] (T, iV V, R, J, z) k n (ldP T V R J z ou d) := by
  refine x_i2l dL_led_7 ?_
  refine y_last 0 dL_led_8 hou rfl (by decide) (by decide) ?_
  refine x_goto 15 dL_led_9 (by decide) ?_
  refine y_iconst dL_led_15 ?_
  exact x_ireturn dL_led_16 rfl (Or.inl ⟨hd, rfl, rfl⟩)
theorem ll_12 {i d : Int} {q z' : Nat} (hd : d < 0) (hz : z ≤ z') : X g mL_led 12 [.ref o, .int (iI i), .ref ou, jk] [.ref q] (T, iV V, R, J, z') k n (ldP T V R J z ou d) := by
  refine x_astore_n dL_led_12 (by decide) rfl rfl ?_
  refine y_iconst dL_led_13 ?_
  exact x_ireturn dL_led_14 rfl (Or.inr ⟨hd, rfl, z', hz, rfl⟩)
theorem ll_met {l : Launch} (hl : l.stackTraces = false) (hI : CI T R V o fw fr σ t tp h A B a m H K wr pl tr) {i : Int} (hi : R32 i) (hou : T ou = (4, 1)) : vx_Met l mL_led.1 wsLd rmLd2 (va_Pc [.ref o, .int (iI i), .ref ou] (Pre0 g (T, iV V, R, J, z))) (Qx g (ldP T V R J z ou (ledV h A V o i))) (fun _ _ _ => False) 1 6 (gA g) := by
  have hmet := led_met (g := g) (J := J) (z := z) hl hI hi
  have hT0 := hI.1.1.1
  refine vx_ofWH (cc := mL_led.2.1) (maxL := mL_led.2.2.1) (ret := mL_led.2.2.2.1) (hh := hhLd) (by decide) rfl ?_
  intro p e s mm args below meth c s₁ B' hml hv
  obtain ⟨rfl, hM, hSW⟩ := hv
  have hts0 := atoms_spec (ws := wsLd) B'.pre
  have hts : ∀ w ∈ tb, w.before ([.ref o, .int (iI i), .ref ou] : List Value).toArray s = true := fun w h => hts0 w (List.mem_cons_of_mem _ h)
  have htab := vx_table (x := mL_led.1) B' (hts0 _ List.mem_cons_self)
  have hown : s.vm.findClass mL_led.1.cls = some mm.cls := findClass_of_methodNamed B'.named
  have hlocks := B'.notSynchronized
  have hin := (name_of_methodNamed B'.named B'.method).1
  have hl2 := lv_entry ([.ref o, .int (iI i), .ref ou] : List Value) (n := mL_led.2.2.1) (Nat.le_of_ble_eq_true rfl)
  rw [lg_entry_eq]
  generalize (lg_sl ([.ref o, .int (iI i), .ref ou] : List Value) ++ List.replicate (mL_led.2.2.1 - (lg_sl ([.ref o, .int (iI i), .ref ou] : List Value)).length) Slot.unset).toArray = ls at hl2 ⊢
  have hC : Cx g mL_led p (headSpec wsLd rmLd2).room s mm ([.ref o, .int (iI i), .ref ou] : List Value).toArray meth c := ⟨B'.exec, B'.bytes, hml, hown, hts, B'.returns, hlocks, hin, hSW, by show 13 ≤ 13; decide, by show 37 * 13 ≤ 481; decide⟩
  have hlv : lvR ls mL_led.2.2.1 [.ref o, .int (iI i), .ref ou, jk] := lvR_ent hl2
  have hF0 : Fr g s s.heap [] := va_S.rf
  have hret : ∀ (v : Option Value) (M1 : Mem) (pc1 : Nat) (H1 : Heap) (ls1 : Array Slot) (locs1 : List Loc) (c1 n1 : Nat), retAt mL_led pc1 v → ldP T V R J z ou (ledV h A V o i) v M1 → Wm g M1 s H1 → Fr g s H1 locs1 → c1 ≤ (headSpec wsLd rmLd2).room.cells → n1 ≤ (headSpec wsLd rmLd2).room.slots → W p l e (headSpec wsLd rmLd2).room s mm ([.ref o, .int (iI i), .ref ou] : List Value).toArray below meth c H1 locs1 c1 n1 (vx_MQ below (Qx g (ldP T V R J z ou (ledV h A V o i))) (fun _ _ _ => False) ([.ref o, .int (iI i), .ref ou] : List Value).toArray s 1 6 (gA g)) (F0 mm pc1 ls1 v.toList) := by
    intro v M1 pc1 H1 ls1 locs1 c1 n1 hr hQ hM1 hF1 hc1 hn1
    refine vx_ret (W.widen (k := 1) (n := 6) hc1 hn1 ?_)
    have hq : ∀ t : State, t.heap = H1 → s.WarmedH t.vm → Qx g (ldP T V R J z ou (ledV h A V o i)) ([.ref o, .int (iI i), .ref ou] : List Value).toArray s (.returned v) t := fun t ht hw => ⟨⟨v, M1, rfl, hQ, by rw [ht]; exact Wm.moved hw.alike hM1⟩, va_S.F hF1 ht⟩
    match v, hr, hq with
    | none, hr, hq => exact W.vret B'.exec B'.bytes (B'.returns.trans hr.2) hq hF1.2.2 hr.1
    | some (.int x), hr, hq =>
      obtain ⟨h1, ty, h2, h3⟩ := hr
      exact W.zret B'.exec B'.bytes (B'.returns.trans h2) h3 hq hF1.2.2 h1
    | some (.long x), hr, hq => exact W.lret B'.exec B'.bytes (B'.returns.trans hr.2) hq hF1.2.2 hr.1
  refine lv_aload_n B'.exec B'.bytes dL_led_0 rfl (hlv.2.2 2 _ rfl (fun h => by cases h)) ?_
  refine lv_iconst B'.exec B'.bytes (v := iI 0) dL_led_1 rfl ?_
  refine lv_aload_n B'.exec B'.bytes dL_led_2 rfl (hlv.2.2 0 _ rfl (fun h => by cases h)) ?_
  refine lv_iload_n B'.exec B'.bytes dL_led_3 rfl (hlv.2.2 1 _ rfl (fun h => by cases h)) ?_
  have hrec : ∃ cellB : Cell, s.heap[o]? = some cellB ∧ cellB.vm.isStatics = false ∧ s.vm.findClass mX10_led.1.cls = some cellB.cls := by
    have hm := hM.1 o
    rw [show ((T, iV V, R, J, z) : Mem).1 o = (10 + 10, 0) from hT0, mCell_obj] at hm
    obtain ⟨-, q, hq, cell, c1, c2, c3, -⟩ := hm
    cases hq
    exact ⟨cell, c1, by rw [c3]; rfl, by rw [c2]; exact (hSW.1.1 10 _ rfl).2.1⟩
  have hp : PreV s s.heap mX10_led.1.cls o (va_Pc [.ref o, .int (iI i)] (Pre0 g (T, iV V, R, J, z))) [.int (iI i)] := ⟨Pre0.blind, hrec, fun U hU hWm => ⟨rfl, by rw [hU]; exact Wm.moved hWm.alike hM, hSW.warm hWm⟩⟩
  have hO := oX10_led.1
  have hr := vx_runV (R := (headSpec wsLd rmLd2).room) (H := s.heap) (e := e) (below := below) (meth := meth) (locs := []) (cells := 0) (slots := 0) (As := [.int (iI i)]) (rest := [.int (iI 0), .ref ou]) (g := F0 mm 4 ls [.int (iI i), .ref o, .int (iI 0), .ref ou]) (C := mX10_led.1.cls) (nL := mL_led.2.2.1) (own := mL_led.1.cls) (index := 7) (n := 1) ⟨B'.exec, B'.bytes, hml, hown, hts⟩ hmet ⟨callB_of 1 hts (wsY_good mX10_led hO.2.1) rfl rfl rfl (hts _ hO.2.2.1) (hts _ ldw_l) hO.2.2.2.1 ⟨by show 12 + 1 ≤ 13; decide, by show 8 + (3 + 11) + 400 ≤ 481; decide⟩, hts _ oX10_led.2.1, hts _ oX10_led.2.2⟩ hp rfl rfl hlv.1 rfl (lv_room (Nat.le_of_ble_eq_true rfl)) dL_led_4 ⟨by show 0 + 1 ≤ 1; decide, by show 0 + 6 ≤ 6; decide⟩
  intro TT hTT XX
  rcases hr TT hTT XX with ⟨v, st₀, t', T', L, h0, X', hL, e1, e2, ⟨⟨v', M1, hv', hq, hM1⟩, hz, hk⟩, st⟩ | ⟨q, st₀, t', T', L, E, ce, h0, X', hL, e1, e2, ⟨⟨x1, x2, x3, x4⟩, hz, hk⟩, hce, hcv, hcl, st⟩
  · cases hv'
    obtain ⟨q1, rfl, rfl⟩ := hq
    rw [h0] at hz hk
    have hal : t'.vm.Alike s.vm := by rw [← e2]; exact X'.warmed.alike.symm
    have hF1 : Fr g s T'.heap ([] ++ L) := ⟨by rw [e1]; exact hz, fun q h1 h2 => by rw [e1]; exact hk q h1 h2, fun q hq => by
      rcases List.mem_append.mp hq with h | h
      · cases h
      · exact hL q h⟩
    have hM2 : Wm g (T, iV V, R, J, z) s T'.heap := by rw [e1]; exact Wm.moved hal hM1
    obtain ⟨t2, a1, b1⟩ := ll_7 (g := g) (V := V) (R := R) (J := J) (z := z) (k := 0) (n := 0) (o := o) (i := i) hou q1 l p e (headSpec wsLd rmLd2).room s mm _ below meth c T'.heap ls ([] ++ L) (0 + 1) (0 + 6) _ hl hC hlv hM2 hF1 (by show 0 + 1 + 0 ≤ 1; decide) (by show 0 + 6 + 0 ≤ 6; decide) hret T' rfl X'
    exact ⟨t2, st t2 a1, b1⟩
  · subst x1
    rw [h0] at hz hk x4
    have hal : t'.vm.Alike s.vm := by rw [← e2]; exact X'.warmed.alike.symm
    have hF1 : Fr g s T'.heap ([] ++ L) := ⟨by rw [e1]; exact hz, fun q h1 h2 => by rw [e1]; exact hk q h1 h2, fun q hq => by
      rcases List.mem_append.mp hq with h | h
      · cases h
      · exact hL q h⟩
    have hM2 : Wm g (T, iV V, R, J, T'.heap.size) s T'.heap := by rw [e1]; exact Wm.moved hal x3
    have hzz : z ≤ T'.heap.size := by
      have : s.heap.size = z := x4
      rw [e1]; omega
    have hcast : (Cond.castable nseN nseN).before ([.ref o, .int (iI i), .ref ou] : List Value).toArray s = true := va_Nw.use rfl hSW.2.2.2.2.2.2.2
    have w12 := ll_12 (g := g) (T := T) (V := V) (R := R) (J := J) (z := z) (k := 0) (n := 0) (o := o) (ou := ou) (i := i) (q := q) x2 hzz l p e (headSpec wsLd rmLd2).room s mm _ below meth c T'.heap ls ([] ++ L) (0 + 1) (0 + 6) _ hl hC hlv hM2 hF1 (by show 0 + 1 + 0 ≤ 1; decide) (by show 0 + 6 + 0 ≤ 6; decide) hret
    have hc := vx_catch (pc := 4) (rest := [.int (iI 0), .ref ou]) (own := mL_led.1.cls) (name := nseN) (E := nseN) (ce := ce) (q := q) hown [] ⟨0, 9, 12, 13⟩ [] htab (fun z hz => nomatch hz) (by decide) (by decide) (hts _ ldw_k) hcast (by rw [e1]; exact hce) hcv hcl w12
    obtain ⟨t2, a1, b1⟩ := hc T' rfl X'
    exact ⟨t2, st.trans a1, b1⟩
/-- the law asks led -/
theorem x_led {pc : Nat} {L rest : List Value} {Q : Option Value → Mem → Prop} (hI : CI T R V o fw fr σ t tp h A B a m H K wr pl tr) {i : Int} (hi : R32 i) (hou : T ou = (4, 1)) (hd : decode mL_law.2.1 pc = .ok (.invokestatic 216, 3)) (hW : (rest.map fun v => v.category).sum ≤ 8)
    (k1 : 0 ≤ ledV h A V o i → X g mL_law (pc + 3) L (.int (iI 0) :: rest) (T, iV V, R, u2 J ou 0 (iI (ledV h A V o i)).toInt64, z) k n Q) (k2 : ledV h A V o i < 0 → ∀ z', z ≤ z' → X g mL_law (pc + 3) L (.int (iI 1) :: rest) (T, iV V, R, J, z') k n Q) : X g mL_law pc L (.ref ou :: .int (iI i) :: .ref o :: rest) (T, iV V, R, J, z) (k + 1) (n + 6) Q := by
  intro l p e R' s mm args below meth c H' ls locs cells slots QF a1 hC a3 hM hFr a6 a7 a8
  have hC' := hC
  obtain ⟨hx, hb, hml, hown, hts, -, -, -, hSW, hfr, hlo⟩ := hC
  have hmet := ll_met (g := g) (J := J) (z := z) a1 hI hi hou
  have hp : PreS s H' (va_Pc [.ref o, .int (iI i), .ref ou] (Pre0 g (T, iV V, R, J, z))) [.ref o, .int (iI i), .ref ou] := ⟨Pre0.blind, fun U hU hWm => ⟨rfl, by rw [hU]; exact Wm.moved hWm.alike hM, hSW.warm hWm⟩⟩
  have hfr : 15 ≤ R'.frames := hfr
  have hlo : 37 * 15 ≤ R'.locals := hlo
  have hr := vx_runSX (e := e) (below := below) (meth := meth) (locs := locs) (cells := cells) (slots := slots) (hh := hhLd) (As := [.ref o, .int (iI i), .ref ou]) (rest := rest) (g := F0 mm pc ls (.ref ou :: .int (iI i) :: .ref o :: rest)) (nL := mL_law.2.2.1) (own := mL_law.1.cls) (index := 216) (n := 3) (bytes := mL_led.2.1) (maxL := mL_led.2.2.1) (ret := mL_led.2.2.2.1) (R := R') (H := H') ⟨hx, hb, hml, hown, hts⟩ hmet ⟨⟨rfl, rfl, by show 13 + 1 ≤ R'.frames; omega, by show 8 + (4 + 11) + 481 ≤ R'.locals; omega, pay_in hts ldw_g, List.mem_cons_self⟩, hts _ ldw_c, hts _ ldw_i, ⟨by decide, by decide⟩, fun sig hs => by
      have h2 : (parseMethodDescriptor mL_led.1.desc).map (fun d => d.parameters.length) = some 3 := by decide +kernel
      rw [hs] at h2
      exact (Option.some.inj h2).symm, hts _ ldw_m, hts _ ldw_s⟩ hp rfl rfl a3.1 rfl (lv_room hW) hd ⟨by omega, by omega⟩
  intro TT hTT XX
  rcases hr TT hTT XX with ⟨v, st₀, t', T', L', h0, X', hL, e1, e2, ⟨⟨v', M1, hv', hq, hM1⟩, hz, hk⟩, st⟩ | ⟨q, st₀, t', T', L', E, ce, h0, X', hL, e1, e2, hf, -⟩
  · cases hv'
    rw [h0] at hz hk
    have hal : t'.vm.Alike s.vm := by rw [← e2]; exact X'.warmed.alike.symm
    have hF1 : Fr g s T'.heap (locs ++ L') := ⟨Nat.le_trans hFr.1 (by rw [e1]; exact hz), fun q h1 h2 => by
      rw [e1, hk q (Nat.lt_of_lt_of_le h1 hFr.1) h2]
      exact hFr.2.1 q h1 h2, fun q hq => by
      rcases List.mem_append.mp hq with h | h
      · exact hFr.2.2 q h
      · exact hL q h⟩
    have hM2 : Wm g M1 s T'.heap := by rw [e1]; exact Wm.moved hal hM1
    rcases hq with ⟨q1, rfl, rfl⟩ | ⟨q1, rfl, z', q2, rfl⟩
    · obtain ⟨t2, a, b⟩ := k1 q1 l p e R' s mm args below meth c T'.heap ls (locs ++ L') (cells + 1) (slots + 6) QF a1 hC' a3 hM2 hF1 (by omega) (by omega) a8 T' rfl X'
      exact ⟨t2, st t2 a, b⟩
    · obtain ⟨t2, a, b⟩ := k2 q1 z' q2 l p e R' s mm args below meth c T'.heap ls (locs ++ L') (cells + 1) (slots + 6) QF a1 hC' a3 hM2 hF1 (by omega) (by omega) a8 T' rfl X'
      exact ⟨t2, st t2 a, b⟩
  · exact hf.elim
end LedL
