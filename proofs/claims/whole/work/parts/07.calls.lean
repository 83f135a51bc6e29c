/-! ===== returns, calls ===== -/
section XC
variable {g : GG} {y : MD} {pc : Nat} {L L' S : List Value} {M : Mem} {k n : Nat} {Q Q' : Option Value → Mem → Prop}
theorem x_ret {v : Option Value} (hr : retAt y pc v) (hS : S = v.toList) (hQ : Q v M) : X g y pc L S M k n Q := by
  subst hS
  intro l p e R s m args below meth c H ls locs cells slots QF a1 hC a3 hM hFr a6 a7 a8
  exact a8 v M pc H ls locs cells slots hr hQ hM hFr (by omega) (by omega)
theorem x_ireturn {x : Int32} (hd : decode y.2.1 pc = .ok (.ireturn, 1)) (hr : y.2.2.2.1 = some .int) (hQ : Q (some (.int x)) M) : X g y pc L [.int x] M k n Q := x_ret (v := some (.int x)) ⟨hd, .int, hr, rfl⟩ rfl hQ
theorem x_zreturn {x : Int32} (hd : decode y.2.1 pc = .ok (.ireturn, 1)) (hr : y.2.2.2.1 = some .boolean) (hx : narrow .boolean (.int x) = .int x) (hQ : Q (some (.int x)) M) : X g y pc L [.int x] M k n Q := x_ret (v := some (.int x)) ⟨hd, .boolean, hr, hx⟩ rfl hQ
theorem x_lreturn {x : Int64} (hd : decode y.2.1 pc = .ok (.lreturn, 1)) (hr : y.2.2.2.1 = some .long) (hQ : Q (some (.long x)) M) : X g y pc L [.long x] M k n Q := x_ret (v := some (.long x)) ⟨hd, hr⟩ rfl hQ
theorem x_return (hd : decode y.2.1 pc = .ok (.return_, 1)) (hr : y.2.2.2.1 = none) (hQ : Q none M) : X g y pc L [] M k n Q := x_ret (v := none) ⟨hd, hr⟩ rfl hQ
end XC
/-- System.arraycopy between two int arrays that are not one -/
def cpy (f h : Nat → Int32) (sp dp m : Nat) : Nat → Int32 := fun j => if dp ≤ j ∧ j < dp + m then f (sp + (j - dp)) else h j
theorem x_copy {g : GG} {y : MD} {pc : Nat} {L S : List Value} {k n : Nat} {Q : Option Value → Mem → Prop} {T : Nat → Nat × Nat} {I : Nat → Nat → Int32} {R : Nat → Nat → Option Nat} {J : Nat → Nat → Int64} {sz i a0 a n0 n1 p0 p1 q : Nat} {sp dp m : Int32} (hd : decode y.2.1 pc = .ok (.invokestatic i, 3)) (hw : Cond.methodLink y.1.cls i arraycopyName ∈ tb) (hw1 : Cond.native arraycopyName ∈ tb) (hw2 : Cond.static arraycopyName ∈ tb) (hw3 : Cond.initialized "java/lang/System" ∈ tb) (hdp : 1 ≤ y.2.2.2.2)
    (hT0 : T a0 = (1, n0)) (hT1 : T a = (1, n1)) (e0 : sp = nI p0) (e1 : dp = nI p1) (e2 : m = nI q) (hs0 : p0 + q ≤ n0) (hs1 : p1 + q ≤ n1) (hn0 : n0 < 2 ^ 31) (hn1 : n1 < 2 ^ 31) (hr : (S.map fun v => v.category).sum ≤ 8)
    (kk : X g y (pc + 3) L S (T, u1 I a (cpy (I a0) (I a) p0 p1 q), R, J, sz) k n Q) : X g y pc L (.int m :: .int dp :: .ref a :: .int sp :: .ref a0 :: S) (T, I, R, J, sz) k n Q := by
  intro l p e R' s mm args below meth c H ls locs cells slots QF a1 hC a3 hM hFr a6 a7 a8 TT hTT XX
  have hC' := hC
  obtain ⟨hx, hb, hml, hown, hts, -, -, -, hSW, hfr, hlo⟩ := hC
  have hm0 := hM.1 a0
  rw [show ((T, I, R, J, sz) : Mem).1 a0 = (1, n0) from hT0, mCell_arr (by decide) (by decide)] at hm0
  have hm1 := hM.1 a
  rw [show ((T, I, R, J, sz) : Mem).1 a = (1, n1) from hT1, mCell_arr (by decide) (by decide)] at hm1
  have hc0 : H[a0]? = some (arrV (g.2.1 1) n0 (fun j => .int (I a0 j))) := hm0.2
  have hc1 : H[a]? = some (arrV (g.2.1 1) n1 (fun j => .int (I a j))) := hm1.2
  have hAr := (gTys_at hSW.1 1 (by decide) (by decide)).1
  obtain ⟨-, k0, hk0, cm0, hkk0⟩ := hAr n0 (fun j => .int (I a0 j))
  obtain ⟨-, k1, hk1, cm1, hkk1⟩ := hAr n1 (fun j => .int (I a j))
  have t0 : sp.toInt = p0 := by rw [e0]; exact nI_toInt (by omega)
  have t1 : dp.toInt = p1 := by rw [e1]; exact nI_toInt (by omega)
  have t2 : m.toInt = q := by rw [e2]; exact nI_toInt (by omega)
  have c0 : sp.toNatClampNeg = p0 := by rw [e0]; exact nI_clamp (by omega)
  have c1' : dp.toNatClampNeg = p1 := by rw [e1]; exact nI_clamp (by omega)
  have c2 : m.toNatClampNeg = q := by rw [e2]; exact nI_clamp (by omega)
  have hnf : nativeFrameWords "java/lang/System" "arraycopy" 5 + 11 ≤ 29 := by decide
  obtain ⟨vm', X', step⟩ := XX.arraycopy hx hown (hts _ hw) (hts _ hw1) (hts _ hw2) (hts _ hw3) (src := a0) (dst := a) (cs := arrV (g.2.1 1) n0 (fun j => .int (I a0 j))) (cd := arrV (g.2.1 1) n1 (fun j => .int (I a j))) (srcPos := sp) (destPos := dp) (n := m) (by rw [hTT]; exact hc0) (by rw [hTT]; exact hc1)
    (fun _ h => by cases h) (fun _ h => by cases h) (fun h => by cases h) (fun h => by cases h) hk0 hk1 hkk0 hkk1 (by decide) (by rw [e0]; exact nI_pos (by omega)) (by rw [e1]; exact nI_pos (by omega)) (by rw [e2]; exact nI_pos (by omega))
    (by rw [t0, t2, arrV_size]; omega)
    (by rw [t1, t2, arrV_size]; omega)
    (fun vm₁ _ i hi => by
      have e : (arrV (g.2.1 1) n0 (fun j => Value.int (I a0 j))).slots.getD (sp.toNatClampNeg + i) .null = .int (I a0 (sp.toNatClampNeg + i)) := by
        rw [Array.getD_eq_getD_getElem?, arrV_read _ _ (by omega)]
        rfl
      refine ⟨?_, ?_⟩
      · rw [e]
        rfl
      · rw [e]
        exact trivial)
    (g := F0 mm pc ls (.int m :: .int dp :: .ref a :: .int sp :: .ref a0 :: S)) rfl (by rw [hml]; exact a3.1) (rest := S) rfl (by rw [hb]; exact hd) (by omega) (by show 2 * 0 + _ + _ ≤ _; omega)
  have ec : copied (vp_cell (g.2.1 1) (n0, .inl (I a0))) (vp_cell (g.2.1 1) (n1, .inl (I a))) sp dp m = vp_cell (g.2.1 1) (n1, .inl (va_cpy (I a0) (I a) sp.toNatClampNeg dp.toNatClampNeg m.toNatClampNeg)) := va_copied (fun z => .int z) _ _ _ _ (by omega)
  have ec2 : copied (arrV (g.2.1 1) n0 (fun j => Value.int (I a0 j))) (arrV (g.2.1 1) n1 (fun j => Value.int (I a j))) sp dp m = arrV (g.2.1 1) n1 (fun j => Value.int (cpy (I a0) (I a) p0 p1 q j)) := by
    refine Eq.trans ec ?_
    rw [vp_cell_i]
    refine congrArg (arrV (g.2.1 1) n1) (funext fun j => ?_)
    rw [c0, c1', c2]
    by_cases hj : p1 ≤ j ∧ j < p1 + q
    · rw [pk_cpy_in hj.1 hj.2, cpy, if_pos hj]
    · rw [pk_cpy_out (by omega), cpy, if_neg hj]
  rw [ec2] at X' step
  have hl : a < H.size := (Array.getElem?_eq_some_iff.mp hc1).1
  have hheap : ((TT.setVm vm').setCell a (arrV (g.2.1 1) n1 (fun j => Value.int (cpy (I a0) (I a) p0 p1 q j)))).heap = H.setIfInBounds a (arrV (g.2.1 1) n1 (fun j => Value.int (cpy (I a0) (I a) p0 p1 q j))) := by rw [← hTT]; rfl
  generalize hH1 : H.setIfInBounds a (arrV (g.2.1 1) n1 (fun j => Value.int (cpy (I a0) (I a) p0 p1 q j))) = H1 at hheap
  have oq : ∀ x : Nat, x ≠ a → H1[x]? = H[x]? := fun x hx => by rw [← hH1]; simp [Array.getElem?_setIfInBounds, Ne.symm hx]
  have z1 : H1.size = H.size := by rw [← hH1]; simp
  have h1a : H1[a]? = some (arrV (g.2.1 1) n1 (fun j => Value.int (cpy (I a0) (I a) p0 p1 q j))) := by rw [← hH1]; simp [Array.getElem?_setIfInBounds, hl]
  have hW : Wm g (T, u1 I a (cpy (I a0) (I a) p0 p1 q), R, J, sz) s H1 := by
    refine hM.put hm1.1 z1 oq rfl ?_ (fun b hb => ⟨rfl, u1_eq hb, rfl, rfl⟩)
    show mCell g (T a) a (u1 I a (cpy (I a0) (I a) p0 p1 q) a) (R a) (J a) s H1
    rw [hT1, u1_s, mCell_arr (by decide) (by decide)]
    exact ⟨hm1.1, h1a⟩
  obtain ⟨t, s1, s2⟩ := kk l p e R' s mm args below meth c H1 ls _ cells slots QF a1 hC' a3 hW ⟨by rw [z1]; exact hFr.1, fun x g1 g2 => by
      rw [oq x (fun e => g2 (e ▸ hm1.1))]
      exact hFr.2.1 x g1 g2, fun x hx => by
      rcases List.mem_append.mp hx with h | h
      · exact hFr.2.2 x h
      · obtain ⟨j, -, rfl⟩ := List.mem_map.mp h
        exact hm1.1⟩ a6 a7 a8 _ hheap X'
  exact ⟨t, step t s1, s2⟩
/-- the locals at a method's entry -/
def entF : List Value → List Value
  | [] => []
  | v :: t => if v.category = 2 then v :: jk :: entF t else v :: entF t
def ent (nL : Nat) (As : List Value) : List Value := entF As ++ List.replicate (nL - (entF As).length) jk
theorem entF_args : ∀ (As : List Value) (o i : Nat) (v : Value), (entF As)[i]? = some v → v ≠ jk → (o + i, v) ∈ lv_args o As
  | [], _, _, _, h, _ => by simp [entF] at h
  | a :: t, o, i, v, h, hv => by
    rw [lv_args]
    by_cases hc : a.category = 2
    · rw [entF, if_pos hc] at h
      rw [if_pos hc]
      match i, h with
      | 0, h => cases h; exact List.mem_cons_self
      | 1, h => cases h; exact absurd rfl hv
      | j + 2, h =>
        have := entF_args t (o + 2) j v h hv
        rw [show o + (j + 2) = o + 2 + j by omega]
        exact List.mem_cons_of_mem _ this
    · rw [entF, if_neg hc] at h
      rw [if_neg hc]
      match i, h with
      | 0, h => cases h; exact List.mem_cons_self
      | j + 1, h =>
        have := entF_args t (o + 1) j v h hv
        rw [show o + (j + 1) = o + 1 + j by omega]
        exact List.mem_cons_of_mem _ this
theorem lvR_ent {ls : Array Slot} {nL : Nat} {As : List Value} (h : lv_has ls nL (lv_args 0 As)) : lvR ls nL (ent nL As) := by
  refine ⟨h.1, h.2.1, fun i v hi hv => ?_⟩
  unfold ent at hi
  rw [List.getElem?_append] at hi
  split at hi
  · have := entF_args As 0 i v hi hv
    rw [Nat.zero_add] at this
    exact h.2.2 _ this
  · rw [List.getElem?_replicate] at hi
    split at hi
    · cases hi
      exact absurd rfl hv
    · cases hi
/-- the words of a method -/
def wsY (y : MD) : List Cond := Cond.code y.1 y.2.1 y.2.2.1 y.2.2.2.1 :: tb
def rmY (y : MD) (k n : Nat) : Room := { frames := y.2.2.2.2, cells := k, slots := n, locals := 37 * y.2.2.2.2 }
def Pre0 (g : GG) (M : Mem) : State → Prop := fun U => Wm g M U U.heap ∧ SW g U
def Qx (g : GG) (Q : Option Value → Mem → Prop) : Array Value → State → Outcome → State → Prop := fun _ st oc t => (∃ (v : Option Value) (M1 : Mem), oc = .returned v ∧ Q v M1 ∧ Wm g M1 t t.heap) ∧ va_F (gA g) st t
/-- what is said of every method once: its name is plain, its word is in the list, how many arguments -/
def MOk (y : MD) (a : Nat) : Prop := plainName y.1.cls = true ∧ Cond.code y.1 y.2.1 y.2.2.1 y.2.2.2.1 ∈ tb ∧ Cond.initialized y.1.cls ∈ tb ∧ (y.1.cls ≠ "java/lang/invoke/MethodHandle" ∧ y.1.cls ≠ "java/lang/invoke/VarHandle" ∧ (parseMethodDescriptor y.1.desc).map (fun d => d.parameters.length) = some a) ∧ y.2.2.1 ≤ 18
def MI (y : MD) (a : Nat) : Prop := MOk y a ∧ Cond.instanceMethod y.1 ∈ tb ∧ Cond.selects y.1.cls y.1 y.1 ∈ tb
def MS (y : MD) (a : Nat) : Prop := MOk y a ∧ Cond.static y.1 ∈ tb
def MN (y : MD) (a : Nat) : Prop := MOk y a ∧ Cond.instanceMethod y.1 ∈ tb ∧ y.1.name = "<init>" ∧ y.2.2.2.1 = none
/-- a link to a method -/
def LM (own : String) (i : Nat) (z : MD) : Prop := Cond.methodLink own i z.1 ∈ tb ∨ ∃ host, (own, i, z.1, host) ∈ nwM
theorem SW.warm {g : GG} {s U : State} (h : SW g s) (hW : s.WarmedH U.vm) : SW g U := by
  obtain ⟨h1, h2, h3, h4, h5, h6, h7, h8⟩ := h
  exact ⟨va_K.moved hW.alike h1, fun w hw => va_Nw.warmF hW (h2 w hw), fun w hw => va_Nw.warmM hW (h3 w hw), va_AO.moved hW.alike h4, over_moved hW.alike h5, fun w hw => vk_R.warm hW (h6 w hw), fun w hw => va_Nw.warmD hW (h7 w hw), va_Nw.warmC hW h8⟩
theorem SW.same {g : GG} {s U : State} (h : SW g s) (e : s.vm = U.vm) : SW g U := by
  obtain ⟨h1, h2, h3, h4, h5, h6, h7, h8⟩ := h
  have ha : s.vm.Alike U.vm := by rw [e]; exact Vm.Alike.refl _
  exact ⟨va_K.moved ha h1, fun w hw => va_Nw.same rfl e (h2 w hw), fun w hw => va_Nw.same rfl e (h3 w hw), va_AO.moved ha h4, over_moved ha h5, fun w hw => vk_R.same e.symm (h6 w hw), fun w hw => va_Nw.same rfl e (h7 w hw), va_Nw.same rfl e h8⟩
theorem Pre0.blind {g : GG} {M : Mem} {As : List Value} : FrameBlind (va_Pc As (Pre0 g M)) := fun a U f mk q => by
  obtain ⟨q0, q1, q2⟩ := q
  exact ⟨q0, Wm.moved (u := U) (U := U.calling f mk a) (Vm.Alike.refl U.vm) q1, SW.same (s := U) q2 rfl⟩
section XC2
variable {g : GG} {y z : MD} {pc : Nat} {L L' S : List Value} {M : Mem} {k n mc ms : Nat} {Q Q' : Option Value → Mem → Prop}
/-- a method's contract, out of X at its entry -/
theorem met_of {l : Launch} {a : Nat} {As : List Value} (hl : l.stackTraces = false) (hX : X g y 0 (ent y.2.2.1 As) [] M k n Q) (hO : MOk y a) (hlen : (lg_sl As).length ≤ y.2.2.1) : Met l y.1 (wsY y) (rmY y k n) (va_Pc As (Pre0 g M)) (Qx g Q) k n (gA g) := by
  refine Met.ofW (cc := y.2.1) (maxL := y.2.2.1) (ret := y.2.2.2.1) hO.1 rfl ?_
  intro p e s m args below meth c s₁ B hml hv
  obtain ⟨rfl, hM, hSW⟩ := hv
  have hts0 := atoms_spec (ws := wsY y) B.pre
  have hts : ∀ w ∈ tb, w.before As.toArray s = true := fun w h => hts0 w (List.mem_cons_of_mem _ h)
  have hown : s.vm.findClass y.1.cls = some m.cls := findClass_of_methodNamed B.named
  have hlocks := B.notSynchronized
  have hin := (name_of_methodNamed B.named B.method).1
  have hl2 := lv_entry As (n := y.2.2.1) hlen
  rw [lg_entry_eq]
  generalize (lg_sl As ++ List.replicate (y.2.2.1 - (lg_sl As).length) Slot.unset).toArray = ls at hl2 ⊢
  refine hX l p e (headSpec (wsY y) (rmY y k n)).room s m As.toArray below meth c s.heap ls [] 0 0 _ hl ⟨B.exec, B.bytes, hml, hown, hts, B.returns, hlocks, hin, hSW, Nat.le_refl _, Nat.le_refl _⟩ (lvR_ent hl2) hM va_S.rf (by show 0 + k ≤ k; omega) (by show 0 + n ≤ n; omega) ?_
  intro v M1 pc1 H1 ls1 locs1 c1 n1 hr hQ hM1 hF1 hc1 hn1
  refine W.widen (k := k) (n := n) hc1 hn1 ?_
  have hq : ∀ t : State, t.heap = H1 → s.WarmedH t.vm → Qx g Q As.toArray s (.returned v) t := fun t ht hw => ⟨⟨v, M1, rfl, hQ, by rw [ht]; exact Wm.moved hw.alike hM1⟩, va_S.F hF1 ht⟩
  match v, hr, hq with
  | none, hr, hq => exact W.vret B.exec B.bytes (B.returns.trans hr.2) hq hF1.2.2 hr.1
  | some (.int x), hr, hq =>
    obtain ⟨h1, ty, h2, h3⟩ := hr
    exact W.zret B.exec B.bytes (B.returns.trans h2) h3 hq hF1.2.2 h1
  | some (.long x), hr, hq => exact W.lret B.exec B.bytes (B.returns.trans hr.2) hq hF1.2.2 hr.1
/-- behind a call -/
theorem run_go {p : Program} {l : Launch} {e : Env} {R : Room} {s : State} {m : MethodId} {args a : Array Value} {below : List Frame} {meth : Method} {c : Code} {H : Heap} {locs : List Loc} {cells slots : Nat} {QF : State → Prop} {ls : Array Slot} {st0 rest : List Value} (hr : va_Run p l e R s m args below meth c H locs cells slots mc ms (F0 m pc ls st0) rest (Qx g Q' a) (gA g)) (hF : Fr g s H locs)
    (kk : ∀ (v : Option Value) (M1 : Mem) (H1 : Heap) (locs1 : List Loc), Q' v M1 → Wm g M1 s H1 → Fr g s H1 locs1 → W p l e R s m args below meth c H1 locs1 (cells + mc) (slots + ms) QF (F0 m (pc + 3) ls (v.toList ++ rest))) : W p l e R s m args below meth c H locs cells slots QF (F0 m pc ls st0) := by
  intro T hT X
  obtain ⟨v, st₀, t, T', L, h0, X', hL, e1, e2, ⟨⟨v', M1, hv, hq, hM1⟩, hz, hk⟩, st⟩ := hr T hT X
  cases hv
  rw [h0] at hz hk
  have hal : t.vm.Alike s.vm := by rw [← e2]; exact X'.warmed.alike.symm
  obtain ⟨t2, a1, b1⟩ := kk v M1 T'.heap (locs ++ L) hq (by rw [e1]; exact Wm.moved hal hM1) ⟨Nat.le_trans hF.1 (by rw [e1]; exact hz), fun q h1 h2 => by
      rw [e1, hk q (Nat.lt_of_lt_of_le h1 hF.1) h2]
      exact hF.2.1 q h1 h2, fun q hq => by
      rcases List.mem_append.mp hq with h | h
      · exact hF.2.2 q h
      · exact hL q h⟩ T' rfl X'
  exact ⟨t2, st t2 a1, b1⟩
theorem wsY_good (z : MD) (h : Cond.code z.1 z.2.1 z.2.2.1 z.2.2.2.1 ∈ tb) : GoodIn tb (wsY z) := by
  intro w hw
  have h2 : w ∈ tb := by
    rcases List.mem_cons.mp hw with e | e
    · rw [e]; exact h
    · exact e
  exact ⟨h2, good_of_word (tb_good h2)⟩
/-- an instance method is called -/
theorem x_callR {As : List Value} {b i : Nat} {L0 rest : List Value} (hd : decode y.2.1 pc = .ok (.invokevirtual i, 3)) (hL : LM y.1.cls i z) (hz : MI z As.length) (hdp : z.2.2.2.2 + 1 ≤ y.2.2.2.2) (hrc : ∀ (s : State) (H : Heap), Wm g M s H → SW g s → ∃ cellB : Cell, H[b]? = some cellB ∧ cellB.vm.isStatics = false ∧ s.vm.findClass z.1.cls = some cellB.cls) (hS : S = As.reverse ++ .ref b :: rest) (hW : (rest.map fun v => v.category).sum ≤ 8) (hlen : (lg_sl (.ref b :: As)).length ≤ z.2.2.1) (hL0 : ent z.2.2.1 (.ref b :: As) = L0)
    (hX : X g z 0 L0 [] M mc ms Q') (kk : ∀ v M1, Q' v M1 → X g y (pc + 3) L (v.toList ++ rest) M1 k n Q) : X g y pc L S M (k + mc) (n + ms) Q := by
  subst hS
  subst hL0
  intro l p e R s m args below meth c H ls locs cells slots QF a1 hC a3 hM hFr a6 a7 a8
  have hC' := hC
  obtain ⟨hx, hb, hml, hown, hts, -, -, -, hSW, hfr, hlo⟩ := hC
  obtain ⟨hO, hins, hsel⟩ := hz
  have hrec := hrc s H hM hSW
  have hmet := met_of a1 hX hO hlen
  have hp : PreV s H z.1.cls b (va_Pc (.ref b :: As) (Pre0 g M)) As := ⟨Pre0.blind, hrec, fun U hU hWm => ⟨rfl, by rw [hU]; exact Wm.moved hWm.alike hM, hSW.warm hWm⟩⟩
  have hRm : (rmY z mc ms).frames + 1 ≤ R.frames ∧ 8 + (z.2.2.1 + 11) + (rmY z mc ms).locals ≤ R.locals := by
    have := hO.2.2.2.2
    refine ⟨Nat.le_trans hdp hfr, ?_⟩
    show 8 + (z.2.2.1 + 11) + 37 * z.2.2.2.2 ≤ R.locals
    omega
  have hgo : va_Run p l e R s m args below meth c H locs cells slots mc ms (F0 m pc ls (As.reverse ++ .ref b :: rest)) rest (Qx g Q' (Value.ref b :: As).toArray) (gA g) := by
    rcases hL with hL | ⟨host, hL⟩
    · exact va_runV (As := As) (C := z.1.cls) (nL := y.2.2.1) (own := y.1.cls) (index := i) (n := As.length) ⟨hx, hb, hml, hown, hts⟩ hmet ⟨callB_of As.length hts (wsY_good z hO.2.1) rfl rfl rfl (hts _ hO.2.2.1) (hts _ hL) hO.2.2.2.1 hRm, hts _ hins, hts _ hsel⟩ hp rfl rfl a3.1 rfl (lv_room hW) hd ⟨by omega, by omega⟩
    · exact va_runVN (As := As) (C := z.1.cls) (nL := y.2.2.1) (own := y.1.cls) (index := i) (n := As.length) ⟨hx, hb, hml, hown, hts⟩ hmet ⟨va_cnB As.length hts (wsY_good z hO.2.1) rfl rfl rfl (hSW.2.2.1 _ hL) (hts _ hO.2.2.1) hO.2.2.2.1 hRm, hts _ hins, hts _ hsel⟩ hp rfl rfl a3.1 rfl (lv_room hW) hd ⟨by omega, by omega⟩
  exact run_go hgo hFr (fun v M1 H1 locs1 hq2 hM1 hF1 => kk v M1 hq2 l p e R s m args below meth c H1 ls locs1 (cells + mc) (slots + ms) QF a1 hC' a3 hM1 hF1 (by omega) (by omega) a8)
theorem x_callV {As : List Value} {b i ci zz : Nat} {L0 rest : List Value} (hd : decode y.2.1 pc = .ok (.invokevirtual i, 3)) (hL : LM y.1.cls i z) (hz : MI z As.length) (hdp : z.2.2.2.2 + 1 ≤ y.2.2.2.2) (hT : M.1 b = (10 + ci, zz)) (hci : (vwCl[ci]?).map (·.1) = some z.1.cls) (hS : S = As.reverse ++ .ref b :: rest) (hW : (rest.map fun v => v.category).sum ≤ 8) (hlen : (lg_sl (.ref b :: As)).length ≤ z.2.2.1) (hL0 : ent z.2.2.1 (.ref b :: As) = L0)
    (hX : X g z 0 L0 [] M mc ms Q') (kk : ∀ v M1, Q' v M1 → X g y (pc + 3) L (v.toList ++ rest) M1 k n Q) : X g y pc L S M (k + mc) (n + ms) Q := by
  refine x_callR hd hL hz hdp (fun s H hM hSW => ?_) hS hW hlen hL0 hX kk
  have hm := hM.1 b
  rw [hT, mCell_obj] at hm
  obtain ⟨-, q, hq, cell, c1, c2, c3, -⟩ := hm
  rw [hq] at hci
  have hcls : q.1 = z.1.cls := Option.some.inj hci
  exact ⟨cell, c1, by rw [c3]; rfl, by rw [c2, ← hcls]; exact (hSW.1.1 ci _ hq).2.1⟩
/-- a method of a literal is called -/
theorem x_callT {As : List Value} {i j : Nat} {L0 rest : List Value} (hd : decode y.2.1 pc = .ok (.invokevirtual i, 3)) (hL : LM y.1.cls i z) (hz : MI z As.length) (hdp : z.2.2.2.2 + 1 ≤ y.2.2.2.2) (hj : j < nStr) (hci : z.1.cls = "java/lang/String") (hS : S = As.reverse ++ .ref (g.2.2.1 j) :: rest) (hW : (rest.map fun v => v.category).sum ≤ 8) (hlen : (lg_sl (.ref (g.2.2.1 j) :: As)).length ≤ z.2.2.1) (hL0 : ent z.2.2.1 (.ref (g.2.2.1 j) :: As) = L0)
    (hX : X g z 0 L0 [] M mc ms Q') (kk : ∀ v M1, Q' v M1 → X g y (pc + 3) L (v.toList ++ rest) M1 k n Q) : X g y pc L S M (k + mc) (n + ms) Q := by
  refine x_callR hd hL hz hdp (fun s H hM hSW => ?_) hS hW hlen hL0 hX kk
  obtain ⟨cell, h1, h2, h3, -⟩ := (hM.2.1.1 j hj).1
  exact ⟨cell, h1, h2, by rw [hci]; exact h3⟩
/-- a static method is called -/
theorem x_callS {As : List Value} {i : Nat} {L0 rest : List Value} (hd : decode y.2.1 pc = .ok (.invokestatic i, 3)) (hL : LM y.1.cls i z) (hz : MS z As.length) (hdp : z.2.2.2.2 + 1 ≤ y.2.2.2.2) (hS : S = As.reverse ++ rest) (hW : (rest.map fun v => v.category).sum ≤ 8) (hlen : (lg_sl As).length ≤ z.2.2.1) (hL0 : ent z.2.2.1 As = L0)
    (hX : X g z 0 L0 [] M mc ms Q') (kk : ∀ v M1, Q' v M1 → X g y (pc + 3) L (v.toList ++ rest) M1 k n Q) : X g y pc L S M (k + mc) (n + ms) Q := by
  subst hS
  subst hL0
  intro l p e R s m args below meth c H ls locs cells slots QF a1 hC a3 hM hFr a6 a7 a8
  have hC' := hC
  obtain ⟨hx, hb, hml, hown, hts, -, -, -, hSW, hfr, hlo⟩ := hC
  obtain ⟨hO, hst⟩ := hz
  have hmet := met_of a1 hX hO hlen
  have hp : PreS s H (va_Pc As (Pre0 g M)) As := ⟨Pre0.blind, fun U hU hWm => ⟨rfl, by rw [hU]; exact Wm.moved hWm.alike hM, hSW.warm hWm⟩⟩
  have hRm : (rmY z mc ms).frames + 1 ≤ R.frames ∧ 8 + (z.2.2.1 + 11) + (rmY z mc ms).locals ≤ R.locals := by
    have := hO.2.2.2.2
    refine ⟨Nat.le_trans hdp hfr, ?_⟩
    show 8 + (z.2.2.1 + 11) + 37 * z.2.2.2.2 ≤ R.locals
    omega
  have hgo : va_Run p l e R s m args below meth c H locs cells slots mc ms (F0 m pc ls (As.reverse ++ rest)) rest (Qx g Q' As.toArray) (gA g) := by
    rcases hL with hL | ⟨host, hL⟩
    · exact va_runS (As := As) (nL := y.2.2.1) (own := y.1.cls) (index := i) (n := As.length) ⟨hx, hb, hml, hown, hts⟩ hmet ⟨callB_of As.length hts (wsY_good z hO.2.1) rfl rfl rfl (hts _ hO.2.2.1) (hts _ hL) hO.2.2.2.1 hRm, hts _ hst⟩ hp rfl rfl a3.1 rfl (lv_room hW) hd ⟨by omega, by omega⟩
    · exact va_runSN (As := As) (nL := y.2.2.1) (own := y.1.cls) (index := i) (n := As.length) ⟨hx, hb, hml, hown, hts⟩ hmet ⟨va_cnB As.length hts (wsY_good z hO.2.1) rfl rfl rfl (hSW.2.2.1 _ hL) (hts _ hO.2.2.1) hO.2.2.2.1 hRm, hts _ hst, trivial⟩ hp rfl rfl a3.1 rfl (lv_room hW) hd ⟨by omega, by omega⟩
  exact run_go hgo hFr (fun v M1 H1 locs1 hq2 hM1 hF1 => kk v M1 hq2 l p e R s m args below meth c H1 ls locs1 (cells + mc) (slots + ms) QF a1 hC' a3 hM1 hF1 (by omega) (by omega) a8)
/-- a constructor is called -/
theorem x_callI {As : List Value} {b i : Nat} {L0 rest : List Value} (hd : decode y.2.1 pc = .ok (.invokespecial i, 3)) (hL : LM y.1.cls i z) (hz : MN z As.length) (hdp : z.2.2.2.2 + 1 ≤ y.2.2.2.2) (hS : S = As.reverse ++ .ref b :: rest) (hW : (rest.map fun v => v.category).sum ≤ 8) (hlen : (lg_sl (.ref b :: As)).length ≤ z.2.2.1) (hL0 : ent z.2.2.1 (.ref b :: As) = L0)
    (hX : X g z 0 L0 [] M mc ms Q') (kk : ∀ v M1, Q' v M1 → X g y (pc + 3) L (v.toList ++ rest) M1 k n Q) : X g y pc L S M (k + mc) (n + ms) Q := by
  subst hS
  subst hL0
  intro l p e R s m args below meth c H ls locs cells slots QF a1 hC a3 hM hFr a6 a7 a8
  have hC' := hC
  obtain ⟨hx, hb, hml, hown, hts, -, -, -, hSW, hfr, hlo⟩ := hC
  obtain ⟨hO, hins, hnm, hrn⟩ := hz
  have hmet := met_of a1 hX hO hlen
  have hp : PreS s H (va_Pc (.ref b :: As) (Pre0 g M)) (.ref b :: As) := ⟨Pre0.blind, fun U hU hWm => ⟨rfl, by rw [hU]; exact Wm.moved hWm.alike hM, hSW.warm hWm⟩⟩
  have hRm : (rmY z mc ms).frames + 1 ≤ R.frames ∧ 8 + (z.2.2.1 + 11) + (rmY z mc ms).locals ≤ R.locals := by
    have := hO.2.2.2.2
    refine ⟨Nat.le_trans hdp hfr, ?_⟩
    show 8 + (z.2.2.1 + 11) + 37 * z.2.2.2.2 ≤ R.locals
    omega
  have hw : wsY z = Cond.code z.1 z.2.1 z.2.2.1 none :: tb := by rw [wsY, hrn]
  have hgo : va_Run p l e R s m args below meth c H locs cells slots mc ms (F0 m pc ls (As.reverse ++ .ref b :: rest)) rest (Qx g Q' (Value.ref b :: As).toArray) (gA g) := by
    rcases hL with hL | ⟨host, hL⟩
    · exact va_runI (As := As) (nL := y.2.2.1) (own := y.1.cls) (index := i) (n := As.length) ⟨hx, hb, hml, hown, hts⟩ hmet ⟨callB_of As.length hts (wsY_good z hO.2.1) hw rfl rfl (hts _ hO.2.2.1) (hts _ hL) hO.2.2.2.1 hRm, hnm, hts _ hins⟩ hp rfl rfl a3.1 rfl (lv_room hW) hd ⟨by omega, by omega⟩
    · exact va_runIN (As := As) (nL := y.2.2.1) (own := y.1.cls) (index := i) (n := As.length) ⟨hx, hb, hml, hown, hts⟩ hmet ⟨va_cnB As.length hts (wsY_good z hO.2.1) hw rfl rfl (hSW.2.2.1 _ hL) (hts _ hO.2.2.1) hO.2.2.2.1 hRm, hnm, hts _ hins⟩ hp rfl rfl a3.1 rfl (lv_room hW) hd ⟨by omega, by omega⟩
  exact run_go hgo hFr (fun v M1 H1 locs1 hq2 hM1 hF1 => kk v M1 hq2 l p e R s m args below meth c H1 ls locs1 (cells + mc) (slots + ms) QF a1 hC' a3 hM1 hF1 (by omega) (by omega) a8)
end XC2
section XT
variable {g : GG} {y : MD} {pc : Nat} {L L' S : List Value} {M : Mem} {k n : Nat} {Q Q' : Option Value → Mem → Prop}
theorem x_tval {i j : Nat} (hd : decode y.2.1 pc = .ok (.getfield i, 3)) (hw : Cond.fieldLink y.1.cls i "java/lang/String" "value" "[B" ∈ tb) (hj : j < nStr) (kk : X g y (pc + 3) L (.ref (g.2.2.2.1 j) :: S) M k n Q) : X g y pc L (.ref (g.2.2.1 j) :: S) M k n Q := by
  refine X.goC (fun _ hC _ hM _ w => ?_) kk
  obtain ⟨cf, kk, fi, f, cell, h1, h2, h3, h4, h5, -⟩ := (hM.2.1.1 j hj).2.2.1
  exact W.getf hC.1 hC.2.1 hC.2.2.2.1 (hC.2.2.2.2.1 _ hw) h1 h2 h3 h4 h5 rfl rfl hd w
theorem x_tcod {i j : Nat} (hd : decode y.2.1 pc = .ok (.getfield i, 3)) (hw : Cond.fieldLink y.1.cls i "java/lang/String" "coder" "B" ∈ tb) (hj : j < nStr) (kk : X g y (pc + 3) L (.int 0 :: S) M k n Q) : X g y pc L (.ref (g.2.2.1 j) :: S) M k n Q := by
  refine X.goC (fun _ hC _ hM _ w => ?_) kk
  obtain ⟨cf, kk, fi, f, cell, h1, h2, h3, h4, h5, -⟩ := (hM.2.1.1 j hj).2.1
  exact W.getf hC.1 hC.2.1 hC.2.2.2.1 (hC.2.2.2.2.1 _ hw) h1 h2 h3 h4 h5 rfl rfl hd w
theorem x_tcom {i : Nat} (hd : decode y.2.1 pc = .ok (.getstatic i, 3)) (hw : Cond.fieldLink y.1.cls i "java/lang/String" "COMPACT_STRINGS" "Z" ∈ tb) (kk : X g y (pc + 3) L (.int 1 :: S) M k n Q) : X g y pc L S M k n Q := by
  refine X.goC (fun _ hC _ hM _ w => ?_) kk
  obtain ⟨cf, kf, fi, f, a, cell, h1, h2, h3, h4, h5, h6, h7, h8⟩ := hM.2.1.2.1
  exact W.gets hC.1 hC.2.1 hC.2.2.2.1 (hC.2.2.2.2.1 _ hw) h1 h2 h3 h4 h5 (fun e => by rw [e] at h6; cases h6) h7 rfl hd w
theorem x_tsio {i : Nat} (hd : decode y.2.1 pc = .ok (.getstatic i, 3)) (hw : Cond.fieldLink y.1.cls i "jdk/internal/util/Preconditions" "SIOOBE_FORMATTER" "Ljava/util/function/BiFunction;" ∈ tb) (kk : ∀ r : Option Nat, X g y (pc + 3) L (va_rf r :: S) M k n Q) : X g y pc L S M k n Q := by
  intro l p e R s m args below meth c H ls locs cells slots QF a1 hC a3 hM hFr a6 a7 a8
  have hz : ∃ r : Option Nat, va_Z "jdk/internal/util/Preconditions" "SIOOBE_FORMATTER" "Ljava/util/function/BiFunction;" (va_rf r) (gA g) s H := by
    rcases hM.2.1.2.2.1 with h | ⟨t, h⟩
    · exact ⟨none, h⟩
    · exact ⟨some t, h⟩
  obtain ⟨r, cf, kf, fi, f, a, cell, h1, h2, h3, h4, h5, h6, h7, h8⟩ := hz
  exact W.gets hC.1 hC.2.1 hC.2.2.2.1 (hC.2.2.2.2.1 _ hw) h1 h2 h3 h4 h5 (fun e => by rw [e] at h6; cases h6) h7 rfl hd (kk r l p e R s m args below meth c H ls locs cells slots QF a1 hC a3 hM hFr a6 a7 a8)
theorem x_tlen {j : Nat} (hd : decode y.2.1 pc = .ok (.arraylength, 1)) (hj : j < nStr) (kk : X g y (pc + 1) L (.int (nI (lenStr.getD j 0)) :: S) M k n Q) : X g y pc L (.ref (g.2.2.2.1 j) :: S) M k n Q := by
  refine X.goC (fun _ hC _ hM _ w => ?_) kk
  obtain ⟨cell, h1, h2, h3, h4, h5, h6, h7⟩ := (hM.2.1.1 j hj).2.2.2
  exact W.alen hC.1 hC.2.1 h1 h2 h5 rfl rfl hd w
theorem x_tald {j p : Nat} {x : Int32} (hd : decode y.2.1 pc = .ok (.baload, 1)) (hj : j < nStr) (hx : x = nI p) (hp : p < lenStr.getD j 0) (hN : lenStr.getD j 0 < 2 ^ 31) (kk : X g y (pc + 1) L (.int ((bytStr.getD j []).getD p 0) :: S) M k n Q) : X g y pc L (.int x :: .ref (g.2.2.2.1 j) :: S) M k n Q := by
  refine X.goC (fun _ hC _ hM _ w => ?_) kk
  obtain ⟨cell, h1, h2, h3, h4, h5, h6, h7⟩ := (hM.2.1.1 j hj).2.2.2
  obtain ⟨g1, g2⟩ := ix_in hx hp hN
  refine W.bald (v := .int ((bytStr.getD j []).getD p 0)) hC.1 hC.2.1 h1 h2 h3 (fun q => g1 (q.imp id (fun q => ?_))) (by rw [g2]; exact h6 p hp) rfl rfl hd w
  omega
theorem x_i2c {a : Int32} (hd : decode y.2.1 pc = .ok (.i2c, 1)) (kk : X g y (pc + 1) L (.int (a.toUInt32 % 65536).toInt32 :: S) M k n Q) : X g y pc L (.int a :: S) M k n Q := X.go (fun hx hb w => lv_i2c hx hb hd rfl w) kk
/-- any reference or null out of the locals -/
theorem x_aload_nq {i : Fin 4} {r : Option Nat} (hd : decode y.2.1 pc = .ok (.aload_n i, 1)) (hl : L[(i : Nat)]? = some (va_rf r)) (kk : X g y (pc + 1) L (va_rf r :: S) M k n Q) : X g y pc L S M k n Q := by
  cases r with
  | none => exact X.goC (fun _ hC hL _ _ w => lv_aload_nN hC.1 hC.2.1 hd rfl (hL.2.2 _ _ hl (fun h => by cases h)) w) kk
  | some a => exact x_aload_n hd hl kk
end XT
section XMath
variable {g : GG} {y : MD} {pc : Nat} {L L' S : List Value} {M : Mem} {k n : Nat} {Q Q' : Option Value → Mem → Prop}
theorem x_mmin {i : Nat} {a b : Int32} (hd : decode y.2.1 pc = .ok (.invokestatic i, 3)) (hw : Cond.methodLink y.1.cls i Lib.Math.min.name ∈ tb) (h1 : Cond.static Lib.Math.min.name ∈ tb) (h2 : Cond.initialized "java/lang/Math" ∈ tb) (h3 : Cond.code Lib.Math.min.name Lib.Math.min.code 2 (some .int) ∈ tb) (hdp : 1 ≤ y.2.2.2.2) (hr : (S.map fun v => v.category).sum ≤ 8) (kk : X g y (pc + 3) L (.int (if b < a then b else a) :: S) M k n Q) : X g y pc L (.int b :: .int a :: S) M k n Q := by
  intro l p e R s m args below meth c H ls locs cells slots QF a1 hC a3 hM hFr a6 a7 a8
  have hlo := hC.2.2.2.2.2.2.2.2.2.2
  have hfr := hC.2.2.2.2.2.2.2.2.2.1
  exact va_mmin hC.1 hC.2.1 (hC.2.2.1.trans a3.1.symm) hC.2.2.2.1 (hC.2.2.2.2.1 _ hw) (hC.2.2.2.2.1 _ h1) (hC.2.2.2.2.1 _ h2) (hC.2.2.2.2.1 _ h3) (by omega) (by omega) (by omega) (by omega) hd (kk l p e R s m args below meth c H ls locs cells slots QF a1 hC a3 hM hFr a6 a7 a8)
theorem x_mmax {i : Nat} {a b : Int32} (hd : decode y.2.1 pc = .ok (.invokestatic i, 3)) (hw : Cond.methodLink y.1.cls i Lib.Math.max.name ∈ tb) (h1 : Cond.static Lib.Math.max.name ∈ tb) (h2 : Cond.initialized "java/lang/Math" ∈ tb) (h3 : Cond.code Lib.Math.max.name Lib.Math.max.code 2 (some .int) ∈ tb) (hdp : 1 ≤ y.2.2.2.2) (hr : (S.map fun v => v.category).sum ≤ 8) (kk : X g y (pc + 3) L (.int (if a < b then b else a) :: S) M k n Q) : X g y pc L (.int b :: .int a :: S) M k n Q := by
  intro l p e R s m args below meth c H ls locs cells slots QF a1 hC a3 hM hFr a6 a7 a8
  have hlo := hC.2.2.2.2.2.2.2.2.2.2
  have hfr := hC.2.2.2.2.2.2.2.2.2.1
  exact va_mmax hC.1 hC.2.1 (hC.2.2.1.trans a3.1.symm) hC.2.2.2.1 (hC.2.2.2.2.1 _ hw) (hC.2.2.2.2.1 _ h1) (hC.2.2.2.2.1 _ h2) (hC.2.2.2.2.1 _ h3) (by omega) (by omega) (by omega) (by omega) hd (kk l p e R s m args below meth c H ls locs cells slots QF a1 hC a3 hM hFr a6 a7 a8)
end XMath
/-- what a method returns, and the picture behind it -/
def rI (r : Int32) (M2 : Mem) : Option Value → Mem → Prop := fun v M1 => v = some (.int r) ∧ M1 = M2
def rL (r : Int64) (M2 : Mem) : Option Value → Mem → Prop := fun v M1 => v = some (.long r) ∧ M1 = M2
def rV (M2 : Mem) : Option Value → Mem → Prop := fun v M1 => v = none ∧ M1 = M2
section XF
variable {g : GG} {y z : MD} {pc : Nat} {L L' S : List Value} {M M2 : Mem} {k n mc ms : Nat} {Q Q' : Option Value → Mem → Prop}
theorem k_I {r : Int32} {rest : List Value} (kk : X g y pc L (.int r :: rest) M2 k n Q) : ∀ v M1, rI r M2 v M1 → X g y pc L (v.toList ++ rest) M1 k n Q := fun v M1 h => by
  obtain ⟨rfl, rfl⟩ := h
  exact kk
theorem k_L {r : Int64} {rest : List Value} (kk : X g y pc L (.long r :: rest) M2 k n Q) : ∀ v M1, rL r M2 v M1 → X g y pc L (v.toList ++ rest) M1 k n Q := fun v M1 h => by
  obtain ⟨rfl, rfl⟩ := h
  exact kk
theorem k_V {rest : List Value} (kk : X g y pc L rest M2 k n Q) : ∀ v M1, rV M2 v M1 → X g y pc L (v.toList ++ rest) M1 k n Q := fun v M1 h => by
  obtain ⟨rfl, rfl⟩ := h
  exact kk
-- numbers that stay numbers
theorem x_iaddN {a b : Nat} (hd : decode y.2.1 pc = .ok (.iadd, 1)) (kk : X g y (pc + 1) L (.int (nI (a + b)) :: S) M k n Q) : X g y pc L (.int (nI b) :: .int (nI a) :: S) M k n Q := x_iadd hd (by rw [nI_add]; exact kk)
theorem x_imulN {a b : Nat} (hd : decode y.2.1 pc = .ok (.imul, 1)) (kk : X g y (pc + 1) L (.int (nI (a * b)) :: S) M k n Q) : X g y pc L (.int (nI b) :: .int (nI a) :: S) M k n Q := x_imul hd (by rw [pk_mul]; exact kk)
theorem x_iincN {i j : Nat} (hd : decode y.2.1 pc = .ok (.iinc i 1, 3)) (hl : L[i]? = some (.int (nI j))) (hn : i < y.2.2.1) (ho : okp L i = true) (hL : L.set i (.int (nI (j + 1))) = L') (kk : X g y (pc + 3) L' S M k n Q) : X g y pc L S M k n Q := x_iinc hd hl (by rw [nI_succ]; rfl) hn ho hL kk
end XF
