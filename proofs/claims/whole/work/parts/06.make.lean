/-! ===== what is made ===== -/
section XM
variable {g : GG} {y : MD} {pc : Nat} {L L' S : List Value} {k n : Nat} {Q : Option Value → Mem → Prop} {T : Nat → Nat × Nat} {I : Nat → Nat → Int32} {R : Nat → Nat → Option Nat} {J : Nat → Nat → Int64} {sz : Nat}
theorem u1_eq {α : Type} {f : Nat → α} {a : Nat} {v : α} {b : Nat} (h : b ≠ a) : u1 f a v b = f b := if_neg h
theorem Fr.made {g : GG} {s : State} {H H1 : Heap} {locs : List Loc} (h : Fr g s H locs) (z : H.size ≤ H1.size) (oq : ∀ q, q < H.size → H1[q]? = H[q]?) : Fr g s H1 locs :=
  ⟨Nat.le_trans h.1 z, fun x h1 h2 => (oq x (Nat.lt_of_lt_of_le h1 h.1)).trans (h.2.1 x h1 h2), h.2.2⟩
/-- an object is made, all its fields 0 or null -/
theorem x_new {i ci : Nat} {q : vw_C} (hd : decode y.2.1 pc = .ok (.new i, 3)) (hq : vwCl[ci]? = some q) (h1 : Cond.classLink y.1.cls i q.1 ∈ tb) (h2 : Cond.instantiable q.1 q.2.2 ∈ tb) (h3 : Cond.initialized q.1 ∈ tb) (hdf : ∀ j, j < q.2.2 → defaultValue (tyC ci j) = fvl (tyC ci j) 0 none 0)
    (kk : X g y (pc + 3) L (.ref sz :: S) (u1 T sz (10 + ci, 0), u1 I sz (fun _ => 0), u1 R sz (fun _ => none), u1 J sz (fun _ => 0), sz + 1) k n Q) : X g y pc L S (T, I, R, J, sz) (k + 1) (n + q.2.2) Q := by
  intro l p e R' s m args below meth c H ls locs cells slots QF a1 hC a3 hM hFr a6 a7 a8
  have hC' := hC
  obtain ⟨hx, hb, -, hown, hts, -, -, hname, hSW, -⟩ := hC
  have hz : H.size = sz := hM.2.2.1
  have hKn := hSW.1.1 ci _ hq
  obtain ⟨hin, hty, hnm⟩ := clOk_all ci q hq
  refine W.newcK hx hb hown (hts _ h1) (hts _ h2) (hts _ h3) rfl hd (by omega) (by omega) hKn.2.1 hz fun H1 kC hkC e1 z1 o1 => ?_
  have hob := (u_born (tyC ci) hts hin hKn hkC e1 hty).to hdf
  have hW : Wm g (u1 T sz (10 + ci, 0), u1 I sz (fun _ => 0), u1 R sz (fun _ => none), u1 J sz (fun _ => 0), sz + 1) s H1 := by
    refine hM.made (by omega) (fun x hx => o1 x (by omega)) rfl ?_ (fun b hb => ⟨u1_eq hb, u1_eq hb, u1_eq hb, u1_eq hb⟩)
    show mCell g (u1 T sz (10 + ci, 0) sz) sz (u1 I sz (fun _ => 0) sz) (u1 R sz (fun _ => none) sz) (u1 J sz (fun _ => 0) sz) s H1
    rw [u1_s, u1_s, u1_s, u1_s, mCell_obj]
    exact ⟨by show g.2.2.2.2 ≤ sz; rw [← hz]; exact hM.2.2.2, q, hq, hob⟩
  exact kk l p e R' s m args below meth c H1 ls locs (cells + 1) (slots + q.2.2) QF a1 hC' a3 hW (hFr.made (by omega) (fun x hx => o1 x (by omega))) (by omega) (by omega) a8
/-- a new array of ints, bytes, booleans or longs -/
theorem x_newa {atype : ArrayType} {t N : Nat} {v : Int32} (hd : decode y.2.1 pc = .ok (.newarray atype, 2)) (ht : newarray.typeOf atype = aTy t) (h1 : 1 ≤ t) (h2 : t ≤ 4) (hw : Cond.arrayClass (newarray.typeOf atype) ∈ tb) (hv : v = nI N) (hN : N ≤ 2000)
    (kk : X g y (pc + 2) L (.ref sz :: S) (u1 T sz (t, N), u1 I sz (fun _ => 0), u1 R sz (fun _ => none), u1 J sz (fun _ => 0), sz + 1) k n Q) : X g y pc L (.int v :: S) (T, I, R, J, sz) (k + 1) (n + N) Q := by
  intro l p e R' s m args below meth c H ls locs cells slots QF a1 hC a3 hM hFr a6 a7 a8
  have hC' := hC
  obtain ⟨hx, hb, -, hown, hts, -, -, hname, hSW, -⟩ := hC
  have hz : H.size = sz := hM.2.2.1
  have hcb : componentBytes (newarray.typeOf atype) ≤ 8 := by
    rcases (show t = 1 ∨ t = 2 ∨ t = 3 ∨ t = 4 by omega) with rfl | rfl | rfl | rfl <;> rw [ht] <;> decide
  refine va_newaK hx hb (hts _ hw) rfl hd rfl (by rw [hv]; exact nI_pos (by omega)) (N := N) (by rw [hv]; exact nI_clamp (by omega)) (Nat.le_trans (Nat.mul_le_mul hN hcb) (by decide)) (by omega) (by omega) hz fun H1 cA e1 z1 o1 hAr hNm => ?_
  obtain ⟨-, hra⟩ := gTys_at hSW.1 t h1 (by omega)
  have hcA : cA = g.2.1 t := by
    rw [ht] at hNm
    rcases (show t = 1 ∨ t = 2 ∨ t = 3 ∨ t = 4 by omega) with rfl | rfl | rfl | rfl <;> exact Option.some.inj (hNm.symm.trans hra)
  have hdv : defaultValue (newarray.typeOf atype) = fvl (aTy t) 0 none 0 := by
    rw [ht]
    rcases (show t = 1 ∨ t = 2 ∨ t = 3 ∨ t = 4 by omega) with rfl | rfl | rfl | rfl <;> rfl
  have hW : Wm g (u1 T sz (t, N), u1 I sz (fun _ => 0), u1 R sz (fun _ => none), u1 J sz (fun _ => 0), sz + 1) s H1 := by
    refine hM.made (by omega) (fun x hx => o1 x (by omega)) rfl ?_ (fun b hb => ⟨u1_eq hb, u1_eq hb, u1_eq hb, u1_eq hb⟩)
    show mCell g (u1 T sz (t, N) sz) sz (u1 I sz (fun _ => 0) sz) (u1 R sz (fun _ => none) sz) (u1 J sz (fun _ => 0) sz) s H1
    rw [u1_s, u1_s, u1_s, u1_s, mCell_arr h1 (by omega)]
    refine ⟨by show g.2.2.2.2 ≤ sz; rw [← hz]; exact hM.2.2.2, ?_⟩
    rw [e1, hcA, hdv]
  exact kk l p e R' s m args below meth c H1 ls locs (cells + 1) (slots + N) QF a1 hC' a3 hW (hFr.made (by omega) (fun x hx => o1 x (by omega))) (by omega) (by omega) a8
/-- new Now[N] -/
theorem x_newq {i N : Nat} {v : Int32} (hd : decode y.2.1 pc = .ok (.anewarray i, 3)) (hw : Cond.classLink y.1.cls i "ElderTurn$Now" ∈ tb) (hv : v = nI N) (hN : N ≤ 2000)
    (kk : X g y (pc + 3) L (.ref sz :: S) (u1 T sz (6, N), u1 I sz (fun _ => 0), u1 R sz (fun _ => none), u1 J sz (fun _ => 0), sz + 1) k n Q) : X g y pc L (.int v :: S) (T, I, R, J, sz) (k + 1) (n + N) Q := by
  intro l p e R' s m args below meth c H ls locs cells slots QF a1 hC a3 hM hFr a6 a7 a8
  have hC' := hC
  obtain ⟨hx, hb, -, hown, hts, -, -, hname, hSW, -⟩ := hC
  have hz : H.size = sz := hM.2.2.1
  have hcl : v.toNatClampNeg = N := by rw [hv]; exact nI_clamp (by omega)
  refine W.anew hx hb hown (hts _ hw) (va_AO.use hSW.2.2.2.1) rfl hd rfl (by rw [hv]; exact nI_pos (by omega)) (by rw [hcl]; omega) (by omega) (by rw [hcl]; omega) fun cA kA comp f1 f2 f3 f4 => ?_
  rw [hcl]
  generalize hH1 : H.push ({ cls := cA, slots := Array.replicate N .null, vm := .none } : Cell) = H1
  have z1 : H1.size = H.size + 1 := by rw [← hH1, Array.size_push]
  have e1 : H1[H.size]? = some (arrV cA N (fun _ => .null)) := by rw [← hH1, Array.getElem?_push_size, ← arrV_new]
  have o1 : ∀ q : Nat, q < H.size → H1[q]? = H[q]? := fun q hq => by rw [← hH1, Array.getElem?_push, if_neg (Nat.ne_of_lt hq)]
  rw [hz] at e1 ⊢
  obtain ⟨kA', comp', k1, k2, k3, k4⟩ := (gTys_at hSW.1 6 (by decide) (by decide)).2
  have hcA : cA = g.2.1 6 := Option.some.inj (f1.symm.trans k4)
  have hW : Wm g (u1 T sz (6, N), u1 I sz (fun _ => 0), u1 R sz (fun _ => none), u1 J sz (fun _ => 0), sz + 1) s H1 := by
    refine hM.made (by omega) o1 rfl ?_ (fun b hb => ⟨u1_eq hb, u1_eq hb, u1_eq hb, u1_eq hb⟩)
    show mCell g (u1 T sz (6, N) sz) sz (u1 I sz (fun _ => 0) sz) (u1 R sz (fun _ => none) sz) (u1 J sz (fun _ => 0) sz) s H1
    rw [u1_s, u1_s, u1_s, u1_s, mCell_arr (by decide) (by decide)]
    refine ⟨by show g.2.2.2.2 ≤ sz; rw [← hz]; exact hM.2.2.2, ?_⟩
    rw [e1, hcA]
    rfl
  exact kk l p e R' s m args below meth c H1 ls locs (cells + 1) (slots + N) QF a1 hC' a3 hW (hFr.made (by omega) o1) (by omega) (by omega) a8
/-- the constructor of Object -/
theorem x_objInit {i a : Nat} {M : Mem} (hd : decode y.2.1 pc = .ok (.invokespecial i, 3)) (hw : Cond.methodLink y.1.cls i Lib.objectInit ∈ tb) (h1 : Cond.instanceMethod Lib.objectInit ∈ tb) (h2 : Cond.code Lib.objectInit ⟨#[0xb1]⟩ 1 none ∈ tb) (hdp : 1 ≤ y.2.2.2.2) (hr : (S.map fun v => v.category).sum ≤ 8) (kk : X g y (pc + 3) L S M k n Q) : X g y pc L (.ref a :: S) M k n Q :=
  X.goC (fun {l p e R s m args below meth c H ls locs cells slots QF} _ hC hL _ _ w => W.objInit hC.1 hC.2.1 hC.2.2.2.1 (hC.2.2.2.2.1 _ hw) (hC.2.2.2.2.1 _ h1) (hC.2.2.2.2.1 _ h2) rfl (hL.1.trans hC.2.2.1.symm) rfl hd (Nat.le_trans hdp hC.2.2.2.2.2.2.2.2.2.1) (by
    have h3 := hC.2.2.2.2.2.2.2.2.2.2
    show 2 * 0 + _ + 12 ≤ _
    omega) w) kk
end XM
/-- new int[N][K]: the outer array, then its rows -/
def mT (T : Nat → Nat × Nat) (sz N K : Nat) : Nat → Nat × Nat := fun b => if b = sz then (5, N) else if sz < b ∧ b ≤ sz + N then (1, K) else T b
def mR {α : Type} (f : Nat → Nat → α) (d : α) (sz N : Nat) : Nat → Nat → α := fun b => if sz ≤ b ∧ b ≤ sz + N then (fun _ => d) else f b
def mQ (R : Nat → Nat → Option Nat) (sz N : Nat) : Nat → Nat → Option Nat := fun b => if b = sz then (fun j => if j < N then some (sz + 1 + j) else none) else if sz < b ∧ b ≤ sz + N then (fun _ => none) else R b
theorem vr_outer (c : ClassId) (N h0 : Nat) : ∀ i : Nat, Jvm.Free.Multi.outerC c N h0 i = arrV c N (fun j => va_rf (if j < i then some (h0 + 1 + j) else none))
  | 0 => by
    show ({ cls := c, slots := Array.replicate N .null, vm := .none } : Cell) = _
    rw [arrV_new]
    refine congrArg (arrV c N) (funext fun j => ?_)
    simp [va_rf]
  | i + 1 => by
    show (Jvm.Free.Multi.outerC c N h0 i).setSlot i (.ref (h0 + 1 + i)) = _
    rw [vr_outer c N h0 i, arrV_store]
    refine congrArg (arrV c N) (funext fun j => ?_)
    by_cases e : j = i
    · subst e
      simp [updV, va_rf]
    · by_cases h : j < i
      · simp [updV, e, h, Nat.lt_succ_of_lt h]
      · simp [updV, e, h, show ¬ j < i + 1 by omega]
theorem x_mna {g : GG} {y : MD} {pc : Nat} {L S : List Value} {k n : Nat} {Q : Option Value → Mem → Prop} {T : Nat → Nat × Nat} {I : Nat → Nat → Int32} {R : Nat → Nat → Option Nat} {J : Nat → Nat → Int64} {sz i N K : Nat} {v w : Int32} (hd : decode y.2.1 pc = .ok (.multianewarray i 2, 4)) (hw : Cond.classLink y.1.cls i "[[I" ∈ tb) (hw2 : Cond.arrayClass .int ∈ tb) (hv : v = nI N) (hw3 : w = nI K) (hN : N ≤ 2000) (hK : K ≤ 2000)
    (kk : X g y (pc + 4) L (.ref sz :: S) (mT T sz N K, mR I 0 sz N, mQ R sz N, mR J 0 sz N, sz + 1 + N) k n Q) : X g y pc L (.int w :: .int v :: S) (T, I, R, J, sz) (k + (1 + N)) (n + (N + N * K)) Q := by
  intro l p e R' s m args below meth c H ls locs cells slots QF a1 hC a3 hM hFr a6 a7 a8 TT hTT X
  have hC' := hC
  obtain ⟨hx, hb, -, hown, hts, -, -, hname, hSW, -⟩ := hC
  have hz : H.size = sz := hM.2.2.1
  have hcv : v.toNatClampNeg = N := by rw [hv]; exact nI_clamp (by omega)
  have hcw : w.toNatClampNeg = K := by rw [hw3]; exact nI_clamp (by omega)
  obtain ⟨vm₁, cA, comp, -, fA, fC, -, -, X', step⟩ := X.multianewarray2F hx hown (ty := .int) (hts _ hw) hSW.2.2.2.2.1 (hts _ hw2) (g := F0 m pc ls (.int w :: .int v :: S)) rfl (by rw [hb]; exact hd) rfl (by rw [hv]; exact nI_pos (by omega)) (by rw [hw3]; exact nI_pos (by omega)) (by rw [hcv]; omega) (by rw [hcw]; exact Nat.le_trans (Nat.mul_le_mul_right _ hK) (by decide)) (by rw [hcw]; omega) rfl rfl (by rw [hcv]; omega) (by rw [hcv, hcw]; omega)
  rw [hcv, hcw] at X' step
  generalize hF : Jvm.Free.Multi.fill (TT.setVm vm₁) cA comp N K (defaultValue .int) N = F at X' step
  have hTh : (TT.setVm vm₁).heap = H := hTT
  obtain ⟨f1, f2, -, -⟩ := Jvm.Free.Multi.fill_facts (TT.setVm vm₁) cA comp N K (defaultValue .int) N
  rw [hF, hTh] at f1 f2
  have hold : ∀ x : Nat, x < H.size → F.heap[x]? = H[x]? := fun x hx => by
    have := Jvm.Free.Multi.fill_old (TT.setVm vm₁) cA comp N K (defaultValue .int) (a := x) (by rw [hTh]; exact hx) N
    rw [hF, hTh] at this
    exact this
  have hrow : ∀ j : Nat, j < N → F.heap[H.size + 1 + j]? = some (arrV comp K (fun _ => .int 0)) := fun j hj => by
    have := Jvm.Free.Multi.fill_inner (TT.setVm vm₁) cA comp N K (defaultValue .int) N j hj
    rw [hF, hTh] at this
    rw [this]
    exact congrArg some (arrV_new comp K (.int 0))
  rw [vr_outer] at f2
  have hcA : cA = g.2.1 5 := Option.some.inj (fA.symm.trans (gTys_at hSW.1 5 (by decide) (by decide)).2)
  have hcm : comp = g.2.1 1 := Option.some.inj (fC.symm.trans (gTys_at hSW.1 1 (by decide) (by decide)).2)
  rw [hz] at f1 f2 hold hrow
  have hba : gA g sz := by show g.2.2.2.2 ≤ sz; rw [← hz]; exact hM.2.2.2
  have hW : Wm g (mT T sz N K, mR I 0 sz N, mQ R sz N, mR J 0 sz N, sz + 1 + N) s F.heap := by
    refine ⟨fun b => ?_, hM.2.1.kept (fun b hb _ => hold b (by omega)), f1, by rw [f1]; exact Nat.le_trans hba (by omega)⟩
    show mCell g (mT T sz N K b) b (mR I 0 sz N b) (mQ R sz N b) (mR J 0 sz N b) s F.heap
    by_cases e1 : b = sz
    · subst e1
      have : mT T b N K b = (5, N) := if_pos rfl
      rw [this, mCell_arr (by decide) (by decide)]
      refine ⟨hba, ?_⟩
      rw [f2, hcA]
      refine congrArg (fun z => some (arrV (g.2.1 5) N z)) (funext fun j => ?_)
      show _ = va_rf (mQ R b N b j)
      rw [mQ, if_pos rfl]
    · by_cases e2 : sz < b ∧ b ≤ sz + N
      · have : mT T sz N K b = (1, K) := by rw [mT, if_neg e1, if_pos e2]
        rw [this, mCell_arr (by decide) (by decide)]
        refine ⟨Nat.le_trans hba (by omega), ?_⟩
        have h3 := hrow (b - (sz + 1)) (by omega)
        rw [show sz + 1 + (b - (sz + 1)) = b by omega] at h3
        rw [h3, hcm]
        refine congrArg (fun z => some (arrV (g.2.1 1) K z)) (funext fun j => ?_)
        show Value.int 0 = Value.int (mR I 0 sz N b j)
        rw [mR, if_pos (by omega)]
      · have t1 : mT T sz N K b = T b := by rw [mT, if_neg e1, if_neg e2]
        have t2 : mR I 0 sz N b = I b := by rw [mR, if_neg (by omega)]
        have t3 : mQ R sz N b = R b := by rw [mQ, if_neg e1, if_neg e2]
        have t4 : mR J 0 sz N b = J b := by rw [mR, if_neg (by omega)]
        rw [t1, t2, t3, t4]
        by_cases hb : b < H.size
        · exact mCell_keep (hM.1 b) (hold b (by omega))
        · exact mCell_out F.heap (by omega) (hM.1 b)
  obtain ⟨t, s1, s2⟩ := kk l p e R' s m args below meth c F.heap ls locs (cells + 1 + N) (slots + N + N * K) QF a1 hC' a3 hW (hFr.made (by rw [f1]; omega) (fun x hx => hold x (by omega))) (by omega) (by omega) a8 F rfl X'
  refine ⟨t, step t ?_, s2⟩
  rw [show TT.heap.size = sz by rw [hTT]; exact hz]
  exact s1
