/-! ===== led: it answers or throws ===== -/
theorem Wm.grow {g : GG} {T : Nat → Nat × Nat} {I : Nat → Nat → Int32} {R : Nat → Nat → Option Nat} {J : Nat → Nat → Int64} {sz : Nat} {U : State} {H H1 : Heap} (h : Wm g (T, I, R, J, sz) U H) (z : H.size ≤ H1.size) (oq : ∀ q : Nat, q < H.size → H1[q]? = H[q]?) : Wm g (T, I, R, J, H1.size) U H1 := by
  obtain ⟨h1, h2, h3, h4⟩ := h
  refine ⟨fun a => ?_, h2.kept (fun a ha _ => oq a ha), rfl, Nat.le_trans h4 z⟩
  by_cases e : a < H.size
  · exact mCell_keep (h1 a) (oq a e)
  · exact mCell_out H1 (by omega) (h1 a)
section WL
variable {g : GG} {y z : MD} {pc : Nat} {L S : List Value} {M : Mem} {mc ms : Nat} {Q' : Option Value → Mem → Prop}
variable {p : Program} {l : Launch} {e : Env} {R : Room} {s : State} {m : MethodId} {args : Array Value} {below : List Frame} {meth : Method} {c : Code} {H : Heap} {ls : Array Slot} {locs : List Loc} {cells slots : Nat} {QF : State → Prop}
theorem w_getf {i ci kf a z : Nat} {v : Value} (hC : Cx g y p R s m args meth c) (hM : Wm g M s H) (hd : decode y.2.1 pc = .ok (.getfield i, 3)) (hF : GF y.1.cls i ci kf) (hT : M.1 a = (10 + ci, z)) (hv : fvl (tyC ci kf) (M.2.1 a kf) (M.2.2.1 a kf) (M.2.2.2.1 a kf) = v) (w : W p l e R s m args below meth c H locs cells slots QF (F0 m (pc + 3) ls (v :: S))) : W p l e R s m args below meth c H locs cells slots QF (F0 m pc ls (.ref a :: S)) := by
  obtain ⟨q, hq, hk, hsame, hl⟩ := hF
  have hm := hM.1 a
  rw [hT, mCell_obj] at hm
  obtain ⟨-, q', hq', cell, c1, c2, c3, c4⟩ := hm
  cases hq.symm.trans hq'
  obtain ⟨hx, hb, -, hown, hts, -, -, -, hSW, -⟩ := hC
  obtain ⟨hin, -⟩ := clOk_all ci q hq
  obtain ⟨hS, hfc, kC, hkC, hkind⟩ := hSW.1.1 ci _ hq
  obtain ⟨cf, kf', fi, f, hi, hsl⟩ := hS kf hk
  have hst := (u_facts hfc hkC (u_lays hts hin hk) hi).1
  have hslot : cell.slots[f.slot]? = some v := by rw [hsl, c4 kf hk, ← hv]
  have hun : cell.vm ≠ .unknown := by rw [c3]; exact fun h => by cases h
  rw [hsame] at hi
  rcases hl with hl | ⟨host, hl⟩
  · exact W.getf hx hb hown (hts _ hl) hi hst c1 hun hslot rfl rfl hd w
  · exact va_Wgetf hx hb hown (va_Nw.use rfl (hSW.2.1 _ hl)) hi hst c1 hun hslot rfl rfl hd w
theorem w_callV {As : List Value} {b i ci zz : Nat} {L0 rest : List Value} (a1 : l.stackTraces = false) (hC : Cx g y p R s m args meth c) (a3 : lvR ls y.2.2.1 L) (hM : Wm g M s H) (hFr : Fr g s H locs) (hd : decode y.2.1 pc = .ok (.invokevirtual i, 3)) (hL : LM y.1.cls i z) (hz : MI z As.length) (hdp : z.2.2.2.2 + 1 ≤ y.2.2.2.2) (hT : M.1 b = (10 + ci, zz)) (hci : (vwCl[ci]?).map (·.1) = some z.1.cls) (hS : S = As.reverse ++ .ref b :: rest) (hW : (rest.map fun v => v.category).sum ≤ 8) (hlen : (lg_sl (.ref b :: As)).length ≤ z.2.2.1) (hL0 : ent z.2.2.1 (.ref b :: As) = L0)
    (hX : X g z 0 L0 [] M mc ms Q') (hc : cells + mc ≤ R.cells) (hs : slots + ms ≤ R.slots) (kk : ∀ (v : Option Value) (M1 : Mem) (H1 : Heap) (locs1 : List Loc), Q' v M1 → Wm g M1 s H1 → Fr g s H1 locs1 → W p l e R s m args below meth c H1 locs1 (cells + mc) (slots + ms) QF (F0 m (pc + 3) ls (v.toList ++ rest))) : W p l e R s m args below meth c H locs cells slots QF (F0 m pc ls S) := by
  subst hS
  subst hL0
  obtain ⟨hx, hb, hml, hown, hts, -, -, -, hSW, hfr, hlo⟩ := hC
  obtain ⟨hO, hins, hsel⟩ := hz
  have hrec : ∃ cellB : Cell, H[b]? = some cellB ∧ cellB.vm.isStatics = false ∧ s.vm.findClass z.1.cls = some cellB.cls := by
    have hm := hM.1 b
    rw [hT, mCell_obj] at hm
    obtain ⟨-, q, hq, cell, c1, c2, c3, -⟩ := hm
    rw [hq] at hci
    have hcls : q.1 = z.1.cls := Option.some.inj hci
    exact ⟨cell, c1, by rw [c3]; rfl, by rw [c2, ← hcls]; exact (hSW.1.1 ci _ hq).2.1⟩
  have hmet := met_of a1 hX hO hlen
  have hp : PreV s H z.1.cls b (va_Pc (.ref b :: As) (Pre0 g M)) As := ⟨Pre0.blind, hrec, fun U hU hWm => ⟨rfl, by rw [hU]; exact Wm.moved hWm.alike hM, hSW.warm hWm⟩⟩
  have hRm : (rmY z mc ms).frames + 1 ≤ R.frames ∧ 8 + (z.2.2.1 + 11) + (rmY z mc ms).locals ≤ R.locals := by
    have := hO.2.2.2.2
    refine ⟨Nat.le_trans hdp hfr, ?_⟩
    show 8 + (z.2.2.1 + 11) + 37 * z.2.2.2.2 ≤ R.locals
    omega
  have hgo : va_Run p l e R s m args below meth c H locs cells slots mc ms (F0 m pc ls (As.reverse ++ .ref b :: rest)) rest (Qx g Q' (Value.ref b :: As).toArray) (gA g) := by
    rcases hL with hL | ⟨host, hL⟩
    · exact va_runV (As := As) (C := z.1.cls) (nL := y.2.2.1) (own := y.1.cls) (index := i) (n := As.length) ⟨hx, hb, hml, hown, hts⟩ hmet ⟨callB_of As.length hts (wsY_good z hO.2.1) rfl rfl rfl (hts _ hO.2.2.1) (hts _ hL) hO.2.2.2.1 hRm, hts _ hins, hts _ hsel⟩ hp rfl rfl a3.1 rfl (lv_room hW) hd ⟨by omega, by omega⟩
    · exact va_runVN (As := As) (C := z.1.cls) (nL := y.2.2.1) (own := y.1.cls) (index := i) (n := As.length) ⟨hx, hb, hml, hown, hts⟩ hmet ⟨va_cnB As.length hts (wsY_good z hO.2.1) rfl rfl rfl (hSW.2.2.1 _ hL) (hts _ hO.2.2.1) hO.2.2.2.1 hRm, hts _ hins, hts _ hsel⟩ hp rfl rfl a3.1 rfl (lv_room hW) hd ⟨by omega, by omega⟩
  exact run_go hgo hFr kk
end WL
/-! the words of the throw -/
def nseC : List String := ["java/lang/RuntimeException", "java/lang/Exception"]
def nseL : List Cond := (Jvm.Bundle.ownAtoms0 "ElderTurn" 313 nseN nseC).filter vx_no
theorem nse_good : ((nseL.filter goodWord).all (fun w => decide (w ∈ tables_1_1 ++ tables_1_6))) = true := by decide +kernel
theorem nse_bad : ((nseL.filter (fun w => !goodWord w)).all (fun w => decide (w ∈ [Cond.castable nseN nseN, Cond.declares ⟨"java/lang/RuntimeException", "<init>", "()V"⟩, Cond.declares ⟨"java/lang/Exception", "<init>", "()V"⟩, Cond.declares ⟨"java/lang/Throwable", "<init>", "()V"⟩]))) = true := by decide +kernel
theorem nse_ot : ((Cond.classLink "ElderTurn" 311 nseN :: Cond.initialized nseN :: nseL).all vx_ot) = true := by decide +kernel
theorem nse_fit : (nseC.all Jvm.Bundle.fit) = true ∧ Jvm.Bundle.fit nseN = true := ⟨by decide +kernel, by decide +kernel⟩
theorem nse_k : Cond.classLink "ElderTurn" 311 nseN ∈ tb := tq6 (List.mem_of_getElem? (i := 56) rfl) rfl
theorem nse_i : Cond.initialized nseN ∈ tb := tq1 (List.mem_of_getElem? (i := 24) rfl) rfl
theorem nse_words {g : GG} {args : Array Value} {s : State} (hts : ∀ w ∈ tb, w.before args s = true) (hSW : SW g s) : ∀ w ∈ vx_at0 "ElderTurn" 313 nseN nseC, w.before args s = true := by
  obtain ⟨-, -, -, -, -, -, h7, h8⟩ := hSW
  refine vx_hat (L := nseL) (B := [Cond.castable nseN nseN, Cond.declares ⟨"java/lang/RuntimeException", "<init>", "()V"⟩, Cond.declares ⟨"java/lang/Exception", "<init>", "()V"⟩, Cond.declares ⟨"java/lang/Throwable", "<init>", "()V"⟩]) (fun w hw => ?_) (fun w hw => of_decide_eq_true (List.all_eq_true.mp nse_bad w hw)) ?_
  · have hg : goodWord w = true := (List.mem_filter.mp hw).2
    have hm := of_decide_eq_true (List.all_eq_true.mp nse_good w hw)
    rcases List.mem_append.mp hm with h | h
    · exact hts w (tq1 h hg)
    · exact hts w (tq6 h hg)
  · exact vx_c (va_Nw.use rfl h8) (vx_c (va_Nw.use rfl (h7 _ (List.mem_cons_self))) (vx_c (va_Nw.use rfl (h7 _ (List.mem_cons_of_mem _ List.mem_cons_self))) (vx_c (va_Nw.use rfl (h7 _ (List.mem_cons_of_mem _ (List.mem_cons_of_mem _ List.mem_cons_self)))) vx_n)))
/-- what led answers: below 0 it throws -/
def ledV (h : Bool) (A V : Nat → Nat → Int) (o : Nat) (i : Int) : Int := if h = true then dTurn A (fun j => V (o + 155 + j)) i else -2
def rmLd : Room := { frames := 12, cells := 1, slots := 6, locals := 400 }
def ldX (g : GG) (M : Mem) (d : Int) : String → State → State → Prop := fun E st t => (E = nseN ∧ d < 0 ∧ Wm g (M.1, M.2.1, M.2.2.1, M.2.2.2.1, t.heap.size) t t.heap ∧ st.heap.size = M.2.2.2.2) ∧ va_F (gA g) st t
def ldR (M : Mem) (d : Int) : Option Value → Mem → Prop := fun v M1 => 0 ≤ d ∧ v = some (.int (iI d)) ∧ M1 = M
section Led
variable {g : GG} {T : Nat → Nat × Nat} {V A B : Nat → Nat → Int} {R : Nat → Nat → Option Nat} {J : Nat → Nat → Int64} {z k n : Nat} {o fw fr : Nat} {σ : Nat → Nat} {t : Nat → Int} {tp : Nat} {h : Bool} {a m : Nat} {H K : Nat → Nat → Nat → Int} {wr pl tr : Int}
theorem ledV_b (hI : CI T R V o fw fr σ t tp h A B a m H K wr pl tr) (i : Int) : -2 ≤ ledV h A V o i ∧ ledV h A V o i ≤ 9 := by
  unfold ledV
  by_cases e : h = true
  rotate_left
  · rw [if_neg e]; omega
  rw [if_pos e]
  have hel := an_el hI e
  have hA3 := hI.2.2.2.2.2.1.2.2.1.2.2.2.1
  unfold dTurn
  have key : ∀ (c : Nat → Bool) (m y : Nat) (a : Int), y + m ≤ fY A → (∀ j, j < fY A → c j = true → 0 ≤ V (o + 155 + 12) j) → -2 ≤ dnC c (fun j => V (o + 155 + 12) j) m y a ∧ dnC c (fun j => V (o + 155 + 12) j) m y a ≤ 9 := by
    intro c m
    induction m with
    | zero => intro y a _ _; exact ⟨by show (-2 : Int) ≤ -2; decide, by show (-2 : Int) ≤ 9; decide⟩
    | succ m ih =>
      intro y a hy hc
      rw [dnC]
      have hb := hel y (by omega)
      split
      · omega
      · split
        · split
          · omega
          · exact ih (y + 1) _ (by omega) hc
        · exact ih (y + 1) _ (by omega) hc
  refine key _ (fY A) 0 i (by omega) (fun j hj hc => ?_)
  have hc : (decide (0 ≤ V (o + 155 + 12) j) && (V (o + 155 + 8) 5).toNat.testBit (V (o + 155 + 12) j).toNat && decide (lTurn A (fun j => V (o + 155 + j)) (V (o + 155 + 12) j) = j)) = true := hc
  simp only [Bool.and_eq_true] at hc
  exact of_decide_eq_true hc.1.1
theorem led_dead (hI : CI T R V o fw fr σ t tp h A B a m H K wr pl tr) (hh : h = true) {i : Int} (hi : R32 i) : X g mX1_deadInTurn 0 [.ref (o + 155), .int (iI i), jk, jk, jk] [] (T, iV V, R, J, z) k n (rI (iI (ledV h A V o i)) (T, iV V, R, J, z)) := by
  have hel := an_el hI hh
  have hrn := (an_run hI hh).1
  have hlt : V (o + 155 + 8) 5 < 1024 := by
    obtain ⟨-, -, -, -, -, ⟨-, -, hA, hB⟩, -, -, g1, -⟩ := hI
    obtain ⟨-, -, ⟨Ni, Wi, -, hAn⟩, -⟩ := g1 hh
    have e0 : V (o + 155 + 8) = runTo A B (rBeg A Wi (B 0 0) (B 0 1)) (fY A) 0 := hAn.1 0 (by decide)
    have h05 : rBeg A Wi (B 0 0) (B 0 1) 0 5 = 0 := (rBeg_row (A := A) (W := Wi) (lw := B 0 0) (sd := B 0 1) (fP A)).1 5
    have := dd_lt hA hB (rBeg_ok (W := Wi) hA hB.1 hB.2.1) h05 (fY A) (fY24 hA).2
    have e5 : dd (runTo A B (rBeg A Wi (B 0 0) (B 0 1)) (fY A)) = (V (o + 155 + 8) 5).toNat := by show (runTo A B (rBeg A Wi (B 0 0) (B 0 1)) (fY A) 0 5).toNat = _; rw [e0]
    omega
  obtain ⟨hC, -, -, -, -, ⟨f1, f2, f3, f4⟩, -⟩ := hI
  have hA3 := f3.2.2.2.1
  have hsep := hC.2.2.2.2.2.2.2
  obtain ⟨-, -, ⟨⟨w0, w1, w2, w3⟩, hFS, -⟩, -, hU, -⟩ := hC
  have cc := c_deadInTurn (g := g) (J := J) (z := z) (k := k) (n := n) (V := V) (i0 := i) (E := fun j => V (o + 155 + j)) hU w0 w1 hFS f1 f3 ⟨by omega, by omega⟩ hi (fun i hi => ⟨(hel i hi).1, by have := (hel i hi).2; show V (o + 155 + 12) i ≤ 9; omega⟩) ⟨hrn, hlt⟩
  rw [pB_self (fun _ _ => rfl)] at cc
  unfold ledV
  rw [if_pos hh]
  exact cc
theorem led_ret (hI : CI T R V o fw fr σ t tp h A B a m H K wr pl tr) {i : Int} (hi : R32 i) (hd : 0 ≤ ledV h A V o i) : X g mX10_led 0 [.ref o, .int (iI i), jk] [] (T, iV V, R, J, z) k n (ldR (T, iV V, R, J, z) (ledV h A V o i)) := by
  have hb := ledV_b hI i
  have hh : h = true := by
    refine Classical.byContradiction fun c => ?_
    unfold ledV at hd
    rw [if_neg c] at hd
    omega
  have cc := led_dead (g := g) (J := J) (z := z) (k := 0) (n := 0) hI hh hi
  obtain ⟨hC, ⟨p6, p7⟩, -⟩ := hI
  obtain ⟨⟨c0, c1, c2, c3, c4, c5, c6⟩, -, -, -, hU, -⟩ := hC
  obtain ⟨u0, u1', u2', u3'⟩ := hU.1
  generalize ledV h A V o i = d at *
  refine x_aload_n dX10_led_0 rfl ?_
  refine y_gi dX10_led_1 fX10_53 (by first | assumption) (fun _ _ _ => rfl) ?_
  refine (show X _ _ 4 _ _ _ _ _ _ from ?_)
  refine X.val p6 ?_
  refine y_ifb_eq 18 dX10_led_4 (by decide) (fun e => ?_) (fun e => ?_)
  · rw [hh] at e; cases e
  refine x_aload_n dX10_led_7 rfl ?_
  refine x_gr dX10_led_8 fX10_35 (by first | assumption) (fun _ _ _ => rfl) (by first | assumption) ?_
  refine x_iload_n dX10_led_11 rfl ?_
  refine (show X _ _ 12 _ _ _ _ _ _ from ?_)
  refine x_callV (As := [_]) (mc := 0) (ms := 0) (z := mX1_deadInTurn) (ci := 1) dX10_led_12 lX10_308 oX1_deadInTurn (by decide) (by first | assumption) rfl rfl (Nat.le_of_ble_eq_true rfl) (Nat.le_of_ble_eq_true rfl) rfl (cc) (k_I ?_)
  refine (show X _ _ 15 _ _ _ _ _ _ from ?_)
  refine x_goto 20 dX10_led_15 (by decide) ?_
  refine x_istore_n dX10_led_20 (by decide) rfl rfl ?_
  refine x_iload_n dX10_led_21 rfl ?_
  refine (show X _ _ 22 _ _ _ _ _ _ from ?_)
  refine y_if_ge 33 dX10_led_22 (by decide) ⟨by omega, by omega⟩ (fun e2 => ?_) (fun e2 => ?_)
  · refine x_iload_n dX10_led_33 rfl ?_
    refine (show X _ _ 34 _ _ _ _ _ _ from ?_)
    exact x_ireturn dX10_led_34 rfl ⟨hd, rfl, rfl⟩
  · omega
theorem led_met {l : Launch} (hl : l.stackTraces = false) (hI : CI T R V o fw fr σ t tp h A B a m H K wr pl tr) {i : Int} (hi : R32 i) : vx_Met l mX10_led.1 (wsY mX10_led) rmLd (va_Pc [.ref o, .int (iI i)] (Pre0 g (T, iV V, R, J, z))) (Qx g (ldR (T, iV V, R, J, z) (ledV h A V o i))) (ldX g (T, iV V, R, J, z) (ledV h A V o i)) 1 6 (gA g) := by
  have hb := ledV_b hI i
  refine vx_ofW (cc := mX10_led.2.1) (maxL := mX10_led.2.2.1) (ret := mX10_led.2.2.2.1) oX10_led.1.1 rfl ?_
  intro p e s mm args below meth c s₁ B' hml htab hv
  obtain ⟨rfl, hM, hSW⟩ := hv
  have hts0 := atoms_spec (ws := wsY mX10_led) B'.pre
  have hts : ∀ w ∈ tb, w.before ([.ref o, .int (iI i)] : List Value).toArray s = true := fun w h => hts0 w (List.mem_cons_of_mem _ h)
  have hown : s.vm.findClass mX10_led.1.cls = some mm.cls := findClass_of_methodNamed B'.named
  have hlocks := B'.notSynchronized
  have hin := (name_of_methodNamed B'.named B'.method).1
  have hl2 := lv_entry ([.ref o, .int (iI i)] : List Value) (n := mX10_led.2.2.1) (Nat.le_of_ble_eq_true rfl)
  rw [lg_entry_eq]
  generalize (lg_sl ([.ref o, .int (iI i)] : List Value) ++ List.replicate (mX10_led.2.2.1 - (lg_sl ([.ref o, .int (iI i)] : List Value)).length) Slot.unset).toArray = ls at hl2 ⊢
  have hC : Cx g mX10_led p (headSpec (wsY mX10_led) rmLd).room s mm ([.ref o, .int (iI i)] : List Value).toArray meth c := ⟨B'.exec, B'.bytes, hml, hown, hts, B'.returns, hlocks, hin, hSW, by show 2 ≤ 12; decide, by show 37 * 2 ≤ 400; decide⟩
  have hlv : lvR ls mX10_led.2.2.1 [.ref o, .int (iI i), jk] := lvR_ent hl2
  have hF0 : Fr g s s.heap [] := va_S.rf
  by_cases hd : 0 ≤ ledV h A V o i
  · -- it answers
    refine led_ret (g := g) (J := J) (z := z) (k := 0) (n := 0) hI hi hd l p e (headSpec (wsY mX10_led) rmLd).room s mm _ below meth c s.heap ls [] 0 0 _ hl hC hlv hM hF0 (by show 0 + 0 ≤ 1; decide) (by show 0 + 0 ≤ 6; decide) ?_
    intro v M1 pc1 H1 ls1 locs1 c1 n1 hr hQ hM1 hF1 hc1 hn1
    refine vx_ret (W.widen (k := 1) (n := 6) hc1 hn1 ?_)
    have hq : ∀ t : State, t.heap = H1 → s.WarmedH t.vm → Qx g (ldR (T, iV V, R, J, z) (ledV h A V o i)) ([.ref o, .int (iI i)] : List Value).toArray s (.returned v) t := fun t ht hw => ⟨⟨v, M1, rfl, hQ, by rw [ht]; exact Wm.moved hw.alike hM1⟩, va_S.F hF1 ht⟩
    match v, hr, hq with
    | none, hr, hq => exact W.vret B'.exec B'.bytes (B'.returns.trans hr.2) hq hF1.2.2 hr.1
    | some (.int x), hr, hq =>
      obtain ⟨h1, ty, h2, h3⟩ := hr
      exact W.zret B'.exec B'.bytes (B'.returns.trans h2) h3 hq hF1.2.2 h1
    | some (.long x), hr, hq => exact W.lret B'.exec B'.bytes (B'.returns.trans hr.2) hq hF1.2.2 hr.1
  · -- it throws
    have k25 : ∀ (H1 : Heap) (ls1 : Array Slot) (locs1 : List Loc), lvR ls1 mX10_led.2.2.1 [.ref o, .int (iI i), .int (iI (ledV h A V o i))] → Wm g (T, iV V, R, J, z) s H1 → Fr g s H1 locs1 → W p l e (headSpec (wsY mX10_led) rmLd).room s mm ([.ref o, .int (iI i)] : List Value).toArray below meth c H1 locs1 0 0 (vx_MQ below (Qx g (ldR (T, iV V, R, J, z) (ledV h A V o i))) (ldX g (T, iV V, R, J, z) (ledV h A V o i)) ([.ref o, .int (iI i)] : List Value).toArray s 1 6 (gA g)) (F0 mm 25 ls1 []) := by
      intro H1 ls1 locs1 hlv1 hM1 hF1
      have hMs := hM.2.1.2.2.2
      refine vx_throw0 (own := "ElderTurn") (cls := nseN) (names := nseC) (ik := 311) (ic := 313) (A := gA g) B'.exec B'.bytes hl hown nse_fit.2 (fun n hn => List.all_eq_true.mp nse_fit.1 n hn) (hts _ nse_k) (hts _ nse_i) (nse_words hts hSW) (fun w hw => List.all_eq_true.mp nse_ot w hw) hMs.1 hMs.2 hF1 (hlv1.1.trans hml.symm) dX10_led_25 dX10_led_28 dX10_led_29 dX10_led_32 (fun x hx => (htab x hx).elim) (by show 2 + 3 < 12; decide) (by show 0 + (13 * (2 + 1) + 42) ≤ 400; decide) (by show 0 + 1 ≤ 1; decide) (by show 0 + 6 ≤ 6; decide) hlocks ?_ hF1.2.2 (by decide) (by decide)
      intro t hal hsz hq
      refine ⟨⟨rfl, by omega, Wm.moved hal (Wm.grow hM1 hsz hq), hM.2.2.1⟩, Nat.le_trans hF1.1 hsz, fun q q1 q2 => ?_⟩
      rw [hq q (Nat.lt_of_lt_of_le q1 hF1.1)]
      exact hF1.2.1 q q1 q2
    have k20 : ∀ (H1 : Heap) (locs1 : List Loc), Wm g (T, iV V, R, J, z) s H1 → Fr g s H1 locs1 → W p l e (headSpec (wsY mX10_led) rmLd).room s mm ([.ref o, .int (iI i)] : List Value).toArray below meth c H1 locs1 0 0 (vx_MQ below (Qx g (ldR (T, iV V, R, J, z) (ledV h A V o i))) (ldX g (T, iV V, R, J, z) (ledV h A V o i)) ([.ref o, .int (iI i)] : List Value).toArray s 1 6 (gA g)) (F0 mm 20 ls [.int (iI (ledV h A V o i))]) := by
      intro H1 locs1 hM1 hF1
      refine lv_istore_n B'.exec B'.bytes dX10_led_20 rfl hlv.has (by decide) rfl (fun ls' hls => ?_)
      have hlv1 : lvR ls' mX10_led.2.2.1 [.ref o, .int (iI i), .int (iI (ledV h A V o i))] := lvR.set1 (L := [.ref o, .int (iI i), jk]) (i := 2) rfl hls
      refine lv_iload_n B'.exec B'.bytes dX10_led_21 rfl (hlv1.2.2 2 _ rfl (fun h => by cases h)) ?_
      refine lv_if_ge B'.exec B'.bytes (tgt := 33) dX10_led_22 (by decide) (fun q => ?_) (fun _ => k25 H1 ls' locs1 hlv1 hM1 hF1)
      have q2 : iI 0 ≤ iI (ledV h A V o i) := q
      exact absurd ((iI_le ⟨by decide, by decide⟩ ⟨by omega, by omega⟩).mp q2) hd
    obtain ⟨hCS, ⟨p6, p7⟩, -⟩ := id hI
    obtain ⟨⟨c0, c1, c2, c3, c4, c5, c6⟩, -, -, -, hU, -⟩ := hCS
    obtain ⟨u0, u1', u2', u3'⟩ := hU.1
    refine lv_aload_n B'.exec B'.bytes dX10_led_0 rfl (hlv.2.2 0 _ rfl (fun h => by cases h)) ?_
    refine w_getf (v := .int (iI (bI h))) hC hM dX10_led_1 fX10_53 c0 (by show Value.int (iI (V o 6)) = _; rw [p6]) ?_
    refine lv_if_eq B'.exec B'.bytes (tgt := 18) dX10_led_4 (by decide) (fun q => ?_) (fun q => ?_)
    · have hh : h = false := by
        cases h
        · rfl
        · exact absurd q (by decide)
      have e2 : ledV h A V o i = -2 := by unfold ledV; rw [hh]; rfl
      refine lv_bipush B'.exec B'.bytes (v := iI (ledV h A V o i)) dX10_led_18 (by rw [e2]; decide) ?_
      exact k20 s.heap [] hM hF0
    · have hh : h = true := by
        cases h
        · exact absurd rfl q
        · rfl
      have cc := led_dead (g := g) (J := J) (z := z) (k := 0) (n := 0) hI hh hi
      refine lv_aload_n B'.exec B'.bytes dX10_led_7 rfl (hlv.2.2 0 _ rfl (fun h => by cases h)) ?_
      refine w_getf (v := .ref (o + 155)) hC hM dX10_led_8 fX10_35 c0 (by show va_rf (R o 3) = _; rw [c4]; rfl) ?_
      refine lv_iload_n B'.exec B'.bytes dX10_led_11 rfl (hlv.2.2 1 _ rfl (fun h => by cases h)) ?_
      refine w_callV (As := [_]) (mc := 0) (ms := 0) (z := mX1_deadInTurn) (ci := 1) hl hC hlv hM hF0 dX10_led_12 lX10_308 oX1_deadInTurn (by decide) u0 rfl rfl (Nat.le_of_ble_eq_true rfl) (Nat.le_of_ble_eq_true rfl) rfl cc (by show 0 + 0 ≤ 1; decide) (by show 0 + 0 ≤ 6; decide) ?_
      intro v M1 H1 locs1 hq hM1 hF1
      obtain ⟨rfl, rfl⟩ := hq
      refine lv_goto B'.exec B'.bytes (tgt := 20) dX10_led_15 (by decide) ?_
      exact k20 H1 locs1 hM1 hF1
end Led
