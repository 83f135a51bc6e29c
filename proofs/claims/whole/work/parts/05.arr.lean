/-! ===== arrays ===== -/
theorem mCell_out {g : GG} {t : Nat × Nat} {a : Nat} {I : Nat → Int32} {R : Nat → Option Nat} {J : Nat → Int64} {U : State} {H : Heap} (H1 : Heap) (ha : H.size ≤ a) (h : mCell g t a I R J U H) : mCell g t a I R J U H1 := by
  have hno : H[a]? = none := by simpa using ha
  unfold mCell at h ⊢
  split
  · trivial
  rename_i h0
  rw [if_neg h0] at h
  split
  · rename_i h1
    rw [if_pos h1] at h
    rw [hno] at h
    cases h.2
  rename_i h1
  rw [if_neg h1] at h
  split
  · rename_i h2
    rw [if_pos h2] at h
    obtain ⟨-, scr, h3, -⟩ := h
    rw [hno] at h3
    cases h3
  rename_i h2
  rw [if_neg h2] at h
  split
  · rename_i h3
    rw [if_pos h3] at h
    exact h
  rename_i h3
  rw [if_neg h3] at h
  split
  · trivial
  rename_i h4
  rw [if_neg h4] at h
  obtain ⟨x1, q, x2, cell, x3, -⟩ := h
  rw [hno] at x3
  cases x3
theorem Wm.made {g : GG} {M M1 : Mem} {U : State} {H H1 : Heap} (h : Wm g M U H) (z : H1.size = H.size + 1) (oq : ∀ q, q < H.size → H1[q]? = H[q]?) (hs : M1.2.2.2.2 = M.2.2.2.2 + 1)
    (h1 : mCell g (M1.1 M.2.2.2.2) M.2.2.2.2 (M1.2.1 M.2.2.2.2) (M1.2.2.1 M.2.2.2.2) (M1.2.2.2.1 M.2.2.2.2) U H1) (h2 : ∀ b, b ≠ M.2.2.2.2 → M1.1 b = M.1 b ∧ M1.2.1 b = M.2.1 b ∧ M1.2.2.1 b = M.2.2.1 b ∧ M1.2.2.2.1 b = M.2.2.2.1 b) : Wm g M1 U H1 := by
  have hz := h.2.2.1
  refine ⟨fun b => ?_, h.2.1.kept (fun b hb _ => oq b hb), by rw [z, hs, hz], by rw [z]; exact Nat.le_succ_of_le h.2.2.2⟩
  by_cases e : b = M.2.2.2.2
  · subst e
    exact h1
  · obtain ⟨e1, e2, e3, e4⟩ := h2 b e
    rw [e1, e2, e3, e4]
    by_cases hb : b < H.size
    · exact mCell_keep (h.1 b) (oq b hb)
    · exact mCell_out H1 (by omega) (h.1 b)
theorem gTys_at {g : GG} {U : State} (h : va_K g.1 vwCl (gTys g) U) (k : Nat) (h1 : 1 ≤ k) (h2 : k ≤ 6) : ArrOfT U (g.2.1 k) (aTy k) ∧ va_RA U (g.2.1 k) (aTy k) := by
  rcases (show k = 1 ∨ k = 2 ∨ k = 3 ∨ k = 4 ∨ k = 5 ∨ k = 6 by omega) with rfl | rfl | rfl | rfl | rfl | rfl
  · exact h.2 0 _ rfl
  · exact h.2 1 _ rfl
  · exact h.2 2 _ rfl
  · exact h.2 3 _ rfl
  · exact h.2 4 _ rfl
  · exact h.2 5 _ rfl
section XA
variable {g : GG} {y : MD} {pc : Nat} {L L' S : List Value} {M : Mem} {k n : Nat} {Q : Option Value → Mem → Prop}
theorem ix_in {j : Int32} {p N : Nat} (hj : j = nI p) (hp : p < N) (hN : N < 2 ^ 31) : ¬ (j < 0 ∨ N ≤ j.toNatClampNeg) ∧ j.toNatClampNeg = p := by
  subst hj
  exact ⟨nI_in hp hN, nI_clamp (by omega)⟩
theorem x_iald {a p N : Nat} {j : Int32} (hd : decode y.2.1 pc = .ok (.iaload, 1)) (hT : M.1 a = (1, N)) (hj : j = nI p) (hp : p < N) (hN : N < 2 ^ 31) (kk : X g y (pc + 1) L (.int (M.2.1 a p) :: S) M k n Q) : X g y pc L (.int j :: .ref a :: S) M k n Q := by
  refine X.goC (fun _ hC _ hM _ w => ?_) kk
  obtain ⟨h1, h2⟩ := ix_in hj hp hN
  have hm := hM.1 a
  rw [hT, mCell_arr (by decide) (by decide)] at hm
  exact W.iald (v := .int (M.2.1 a p)) hC.1 hC.2.1 hm.2 ((gTys_at hC.2.2.2.2.2.2.2.2.1.1 1 (by decide) (by decide)).1 N _) (fun q => by cases q) (by rw [arrV_size]; exact h1) (by rw [h2, arrV_read _ _ hp]; rfl) rfl rfl hd w
/-- the law's own script -/
theorem x_sald {a p N : Nat} {j : Int32} (hd : decode y.2.1 pc = .ok (.iaload, 1)) (hT : M.1 a = (7, N)) (hj : j = nI p) (hp : p < N) (hN : N < 2 ^ 31) (kk : X g y (pc + 1) L (.int (M.2.1 a p) :: S) M k n Q) : X g y pc L (.int j :: .ref a :: S) M k n Q := by
  refine X.goC (fun _ hC _ hM _ w => ?_) kk
  obtain ⟨h1, h2⟩ := ix_in hj hp hN
  have hm := hM.1 a
  rw [hT] at hm
  obtain ⟨-, scr, q1, q2, q3, q4, q5⟩ := hm
  exact W.iald (v := .int (M.2.1 a p)) hC.1 hC.2.1 q1 q2 q3 (by rw [q4]; exact h1) (by rw [h2, q5 p hp]) rfl rfl hd w
theorem x_bald {a p N : Nat} {j : Int32} (hd : decode y.2.1 pc = .ok (.baload, 1)) (hT : M.1 a = (2, N)) (hj : j = nI p) (hp : p < N) (hN : N < 2 ^ 31) (kk : X g y (pc + 1) L (.int (M.2.1 a p) :: S) M k n Q) : X g y pc L (.int j :: .ref a :: S) M k n Q := by
  refine X.goC (fun _ hC _ hM _ w => ?_) kk
  obtain ⟨h1, h2⟩ := ix_in hj hp hN
  have hm := hM.1 a
  rw [hT, mCell_arr (by decide) (by decide)] at hm
  exact W.bald (v := .int (M.2.1 a p)) hC.1 hC.2.1 hm.2 ((gTys_at hC.2.2.2.2.2.2.2.2.1.1 2 (by decide) (by decide)).1 N _) (fun q => by cases q) (by rw [arrV_size]; exact h1) (by rw [h2, arrV_read _ _ hp]; rfl) rfl rfl hd w
theorem x_zald {a p N : Nat} {j : Int32} (hd : decode y.2.1 pc = .ok (.baload, 1)) (hT : M.1 a = (3, N)) (hj : j = nI p) (hp : p < N) (hN : N < 2 ^ 31) (kk : X g y (pc + 1) L (.int (M.2.1 a p) :: S) M k n Q) : X g y pc L (.int j :: .ref a :: S) M k n Q := by
  refine X.goC (fun _ hC _ hM _ w => ?_) kk
  obtain ⟨h1, h2⟩ := ix_in hj hp hN
  have hm := hM.1 a
  rw [hT, mCell_arr (by decide) (by decide)] at hm
  exact W.zald (v := .int (M.2.1 a p)) hC.1 hC.2.1 hm.2 ((gTys_at hC.2.2.2.2.2.2.2.2.1.1 3 (by decide) (by decide)).1 N _) (fun q => by cases q) (by rw [arrV_size]; exact h1) (by rw [h2, arrV_read _ _ hp]; rfl) rfl rfl hd w
theorem x_lald {a p N : Nat} {j : Int32} (hd : decode y.2.1 pc = .ok (.laload, 1)) (hT : M.1 a = (4, N)) (hj : j = nI p) (hp : p < N) (hN : N < 2 ^ 31) (kk : X g y (pc + 1) L (.long (M.2.2.2.1 a p) :: S) M k n Q) : X g y pc L (.int j :: .ref a :: S) M k n Q := by
  refine X.goC (fun _ hC _ hM _ w => ?_) kk
  obtain ⟨h1, h2⟩ := ix_in hj hp hN
  have hm := hM.1 a
  rw [hT, mCell_arr (by decide) (by decide)] at hm
  exact W.lald (v := .long (M.2.2.2.1 a p)) hC.1 hC.2.1 hm.2 ((gTys_at hC.2.2.2.2.2.2.2.2.1.1 4 (by decide) (by decide)).1 N _) (fun q => by cases q) (by rw [arrV_size]; exact h1) (by rw [h2, arrV_read _ _ hp]; rfl) rfl rfl hd w
theorem x_aald {a p N b t : Nat} {j : Int32} (hd : decode y.2.1 pc = .ok (.aaload, 1)) (hT : M.1 a = (t, N)) (ht : t = 5 ∨ t = 6) (hj : j = nI p) (hp : p < N) (hN : N < 2 ^ 31) (hR : M.2.2.1 a p = some b) (kk : X g y (pc + 1) L (.ref b :: S) M k n Q) : X g y pc L (.int j :: .ref a :: S) M k n Q := by
  refine X.goC (fun _ hC _ hM _ w => ?_) kk
  obtain ⟨h1, h2⟩ := ix_in hj hp hN
  have hm := hM.1 a
  rw [hT, mCell_arr (by rcases ht with rfl | rfl <;> decide) (by rcases ht with rfl | rfl <;> decide)] at hm
  have hA := (gTys_at hC.2.2.2.2.2.2.2.2.1.1 t (by rcases ht with rfl | rfl <;> decide) (by rcases ht with rfl | rfl <;> decide)).1 N
  rcases ht with rfl | rfl
  · exact W.aald (v := .ref b) hC.1 hC.2.1 hm.2 (hA _) rfl (fun q => by cases q) (by rw [arrV_size]; exact h1) (by rw [h2, arrV_read _ _ hp]; show some (va_rf _) = _; rw [hR]; rfl) rfl rfl hd w
  · exact W.aald (v := .ref b) hC.1 hC.2.1 hm.2 (hA _) rfl (fun q => by cases q) (by rw [arrV_size]; exact h1) (by rw [h2, arrV_read _ _ hp]; show some (va_rf _) = _; rw [hR]; rfl) rfl rfl hd w
theorem x_alen {a N t : Nat} {v : Int32} (hd : decode y.2.1 pc = .ok (.arraylength, 1)) (hT : M.1 a = (t, N)) (h1 : 1 ≤ t) (h2 : t ≤ 6) (hv : nI N = v) (kk : X g y (pc + 1) L (.int v :: S) M k n Q) : X g y pc L (.ref a :: S) M k n Q := by
  refine X.goC (fun _ hC _ hM _ w => ?_) kk
  have hm := hM.1 a
  rw [hT, mCell_arr h1 h2] at hm
  exact W.alen hC.1 hC.2.1 hm.2 ((gTys_at hC.2.2.2.2.2.2.2.2.1.1 t h1 h2).1 N _) (by rw [arrV_size]; exact hv) rfl rfl hd w
theorem x_slen {a N : Nat} {v : Int32} (hd : decode y.2.1 pc = .ok (.arraylength, 1)) (hT : M.1 a = (7, N)) (hv : nI N = v) (kk : X g y (pc + 1) L (.int v :: S) M k n Q) : X g y pc L (.ref a :: S) M k n Q := by
  refine X.goC (fun _ hC _ hM _ w => ?_) kk
  have hm := hM.1 a
  rw [hT] at hm
  obtain ⟨-, scr, q1, q2, q3, q4, q5⟩ := hm
  exact W.alen hC.1 hC.2.1 q1 q2 (by rw [q4]; exact hv) rfl rfl hd w
/-- a cell of an array is written: what is common -/
theorem ast_go {a p N t : Nat} {v : Value} {T : Nat → Nat × Nat} {I I1 : Nat → Nat → Int32} {R R1 : Nat → Nat → Option Nat} {J J1 : Nat → Nat → Int64} {sz : Nat} {s : State} {H H' : Heap} (hM : Wm g (T, I, R, J, sz) s H) (hT : T a = (t, N)) (h1 : 1 ≤ t) (h2 : t ≤ 6)
    (e1 : H'[a]? = some ((arrV (g.2.1 t) N (fun j => fvl (aTy t) (I a j) (R a j) (J a j))).setSlot p v)) (e2 : H'.size = H.size) (e3 : ∀ q, q ≠ a → H'[q]? = H[q]?) (hv : fvl (aTy t) (I1 a p) (R1 a p) (J1 a p) = v) (ho : ∀ j, j ≠ p → I1 a j = I a j ∧ R1 a j = R a j ∧ J1 a j = J a j) (hb : ∀ b, b ≠ a → I1 b = I b ∧ R1 b = R b ∧ J1 b = J b) : Wm g (T, I1, R1, J1, sz) s H' := by
  have hm := hM.1 a
  rw [show ((T, I, R, J, sz) : Mem).1 a = (t, N) from hT, mCell_arr h1 h2] at hm
  refine hM.put hm.1 e2 e3 rfl ?_ (fun b h => ⟨rfl, hb b h⟩)
  show mCell g (T a) a (I1 a) (R1 a) (J1 a) s H'
  rw [hT, mCell_arr h1 h2]
  refine ⟨hm.1, ?_⟩
  rw [e1, arrV_store]
  congr 2
  funext q
  by_cases e : q = p
  · subst e
    rw [updV, if_pos rfl, hv]
  · obtain ⟨o1, o2, o3⟩ := ho q e
    rw [updV, if_neg e, o1, o2, o3]
theorem x_iast {a p N : Nat} {j v : Int32} {T : Nat → Nat × Nat} {I : Nat → Nat → Int32} {R : Nat → Nat → Option Nat} {J : Nat → Nat → Int64} {sz : Nat} (hd : decode y.2.1 pc = .ok (.iastore, 1)) (hT : T a = (1, N)) (hj : j = nI p) (hp : p < N) (hN : N < 2 ^ 31) (kk : X g y (pc + 1) L S (T, u2 I a p v, R, J, sz) k n Q) : X g y pc L (.int v :: .int j :: .ref a :: S) (T, I, R, J, sz) k n Q := by
  intro l p' e R' s m args below meth c H ls locs cells slots QF a1 hC a3 hM hFr a6 a7 a8
  obtain ⟨h1, h2⟩ := ix_in hj hp hN
  have hm := hM.1 a
  rw [show ((T, I, R, J, sz) : Mem).1 a = (1, N) from hT, mCell_arr (by decide) (by decide)] at hm
  refine W.iast hC.1 hC.2.1 hm.2 ((gTys_at hC.2.2.2.2.2.2.2.2.1.1 1 (by decide) (by decide)).1 N _) (fun q => by cases q) (by rw [arrV_size]; exact h1) rfl rfl hd (fun H' e1 e2 e3 => ?_)
  rw [h2] at e1 ⊢
  exact kk l p' e R' s m args below meth c H' ls _ cells slots QF a1 hC a3 (ast_go hM hT (by decide) (by decide) e1 e2 e3 (by show Value.int _ = _; rw [u2_s, u1_s]) (fun j h => ⟨by rw [u2_s, u1_n h], rfl, rfl⟩) (fun b h => ⟨u2_n h, rfl, rfl⟩)) (hFr.put e2 e3 hm.1) a6 a7 a8
theorem x_bast {a p N : Nat} {j v : Int32} {T : Nat → Nat × Nat} {I : Nat → Nat → Int32} {R : Nat → Nat → Option Nat} {J : Nat → Nat → Int64} {sz : Nat} (hd : decode y.2.1 pc = .ok (.bastore, 1)) (hT : T a = (2, N)) (hj : j = nI p) (hp : p < N) (hN : N < 2 ^ 31) (kk : X g y (pc + 1) L S (T, u2 I a p v.toInt8.toInt32, R, J, sz) k n Q) : X g y pc L (.int v :: .int j :: .ref a :: S) (T, I, R, J, sz) k n Q := by
  intro l p' e R' s m args below meth c H ls locs cells slots QF a1 hC a3 hM hFr a6 a7 a8
  obtain ⟨h1, h2⟩ := ix_in hj hp hN
  have hm := hM.1 a
  rw [show ((T, I, R, J, sz) : Mem).1 a = (2, N) from hT, mCell_arr (by decide) (by decide)] at hm
  refine W.bast hC.1 hC.2.1 hm.2 ((gTys_at hC.2.2.2.2.2.2.2.2.1.1 2 (by decide) (by decide)).1 N _) (fun q => by cases q) (by rw [arrV_size]; exact h1) rfl rfl hd (fun H' e1 e2 e3 => ?_)
  rw [h2] at e1 ⊢
  exact kk l p' e R' s m args below meth c H' ls _ cells slots QF a1 hC a3 (ast_go hM hT (by decide) (by decide) e1 e2 e3 (by show Value.int _ = _; rw [u2_s, u1_s]; rfl) (fun j h => ⟨by rw [u2_s, u1_n h], rfl, rfl⟩) (fun b h => ⟨u2_n h, rfl, rfl⟩)) (hFr.put e2 e3 hm.1) a6 a7 a8
theorem x_zast {a p N : Nat} {j v : Int32} {T : Nat → Nat × Nat} {I : Nat → Nat → Int32} {R : Nat → Nat → Option Nat} {J : Nat → Nat → Int64} {sz : Nat} (hd : decode y.2.1 pc = .ok (.bastore, 1)) (hT : T a = (3, N)) (hj : j = nI p) (hp : p < N) (hN : N < 2 ^ 31) (hv : narrow .boolean (.int v) = .int v) (kk : X g y (pc + 1) L S (T, u2 I a p v, R, J, sz) k n Q) : X g y pc L (.int v :: .int j :: .ref a :: S) (T, I, R, J, sz) k n Q := by
  intro l p' e R' s m args below meth c H ls locs cells slots QF a1 hC a3 hM hFr a6 a7 a8
  obtain ⟨h1, h2⟩ := ix_in hj hp hN
  have hm := hM.1 a
  rw [show ((T, I, R, J, sz) : Mem).1 a = (3, N) from hT, mCell_arr (by decide) (by decide)] at hm
  refine W.zast hC.1 hC.2.1 hm.2 ((gTys_at hC.2.2.2.2.2.2.2.2.1.1 3 (by decide) (by decide)).1 N _) (fun q => by cases q) (by rw [arrV_size]; exact h1) rfl rfl hd (fun H' e1 e2 e3 => ?_)
  rw [h2, hv] at e1
  rw [h2]
  exact kk l p' e R' s m args below meth c H' ls _ cells slots QF a1 hC a3 (ast_go hM hT (by decide) (by decide) e1 e2 e3 (by show Value.int _ = _; rw [u2_s, u1_s]) (fun j h => ⟨by rw [u2_s, u1_n h], rfl, rfl⟩) (fun b h => ⟨u2_n h, rfl, rfl⟩)) (hFr.put e2 e3 hm.1) a6 a7 a8
theorem x_last {a p N : Nat} {j : Int32} {v : Int64} {T : Nat → Nat × Nat} {I : Nat → Nat → Int32} {R : Nat → Nat → Option Nat} {J : Nat → Nat → Int64} {sz : Nat} (hd : decode y.2.1 pc = .ok (.lastore, 1)) (hT : T a = (4, N)) (hj : j = nI p) (hp : p < N) (hN : N < 2 ^ 31) (kk : X g y (pc + 1) L S (T, I, R, u2 J a p v, sz) k n Q) : X g y pc L (.long v :: .int j :: .ref a :: S) (T, I, R, J, sz) k n Q := by
  intro l p' e R' s m args below meth c H ls locs cells slots QF a1 hC a3 hM hFr a6 a7 a8
  obtain ⟨h1, h2⟩ := ix_in hj hp hN
  have hm := hM.1 a
  rw [show ((T, I, R, J, sz) : Mem).1 a = (4, N) from hT, mCell_arr (by decide) (by decide)] at hm
  refine W.last hC.1 hC.2.1 hm.2 ((gTys_at hC.2.2.2.2.2.2.2.2.1.1 4 (by decide) (by decide)).1 N _) (fun q => by cases q) (by rw [arrV_size]; exact h1) rfl rfl hd (fun H' e1 e2 e3 => ?_)
  rw [h2] at e1 ⊢
  exact kk l p' e R' s m args below meth c H' ls _ cells slots QF a1 hC a3 (ast_go hM hT (by decide) (by decide) e1 e2 e3 (by show Value.long _ = _; rw [u2_s, u1_s]) (fun j h => ⟨rfl, rfl, by rw [u2_s, u1_n h]⟩) (fun b h => ⟨rfl, rfl, u2_n h⟩)) (hFr.put e2 e3 hm.1) a6 a7 a8
/-- an object of class Now into an array of them -/
theorem x_aast {a p N v z : Nat} {j : Int32} {T : Nat → Nat × Nat} {I : Nat → Nat → Int32} {R : Nat → Nat → Option Nat} {J : Nat → Nat → Int64} {sz : Nat} (hd : decode y.2.1 pc = .ok (.aastore, 1)) (hT : T a = (6, N)) (hV : T v = (14, z)) (hj : j = nI p) (hp : p < N) (hN : N < 2 ^ 31) (kk : X g y (pc + 1) L S (T, I, u2 R a p (some v), J, sz) k n Q) : X g y pc L (.ref v :: .int j :: .ref a :: S) (T, I, R, J, sz) k n Q := by
  intro l p' e R' s m args below meth c H ls locs cells slots QF a1 hC a3 hM hFr a6 a7 a8
  obtain ⟨h1, h2⟩ := ix_in hj hp hN
  have hm := hM.1 a
  rw [show ((T, I, R, J, sz) : Mem).1 a = (6, N) from hT, mCell_arr (by decide) (by decide)] at hm
  have hm2 := hM.1 v
  rw [show ((T, I, R, J, sz) : Mem).1 v = (10 + 4, z) from hV, mCell_obj] at hm2
  obtain ⟨-, q, hq, cellV, g1, g2, g3, -⟩ := hm2
  cases hq
  have hSW := hC.2.2.2.2.2.2.2.2.1
  have hcls := (hSW.1.1 4 _ rfl).2
  obtain ⟨kA, comp, k1, k2, k3, -⟩ := (gTys_at hSW.1 6 (by decide) (by decide)).2
  have hcomp : comp = g.1.1 4 := Option.some.inj (k3.symm.trans hcls.1)
  subst hcomp
  obtain ⟨kC, hkC, -⟩ := hcls.2
  refine W.aast hC.1 hC.2.1 hm.2 (fun q h => by cases h) (fun h => by cases h) k1 k2 rfl hkC ⟨fun h => h1 (Or.inl h), by rw [arrV_size, h2]; exact hp⟩ g1 (fun q h => by rw [g3] at h; cases h) (by rw [g2]; exact hkC) (by rw [g2]; exact va_assign hcls) rfl rfl hd (fun H' e1 e2 e3 => ?_)
  rw [h2] at e1 ⊢
  exact kk l p' e R' s m args below meth c H' ls _ cells slots QF a1 hC a3 (ast_go hM hT (by decide) (by decide) e1 e2 e3 (by show va_rf _ = _; rw [u2_s, u1_s]; rfl) (fun j h => ⟨rfl, by rw [u2_s, u1_n h], rfl⟩) (fun b h => ⟨rfl, u2_n h, rfl⟩)) (hFr.put e2 e3 hm.1) a6 a7 a8
end XA
