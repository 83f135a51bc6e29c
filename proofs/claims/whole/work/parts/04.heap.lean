/-! ===== fields, arrays, what is made ===== -/
def u1 {α : Type} (f : Nat → α) (k : Nat) (v : α) : Nat → α := fun j => if j = k then v else f j
def u2 {α : Type} (f : Nat → Nat → α) (a k : Nat) (v : α) : Nat → Nat → α := fun b => if b = a then u1 (f a) k v else f b
theorem u1_s {α : Type} {f : Nat → α} {k : Nat} {v : α} : u1 f k v k = v := if_pos rfl
theorem u1_n {α : Type} {f : Nat → α} {k j : Nat} {v : α} (h : j ≠ k) : u1 f k v j = f j := if_neg h
theorem u2_s {α : Type} {f : Nat → Nat → α} {a k : Nat} {v : α} : u2 f a k v a = u1 (f a) k v := if_pos rfl
theorem u2_n {α : Type} {f : Nat → Nat → α} {a k b : Nat} {v : α} (h : b ≠ a) : u2 f a k v b = f b := if_neg h
theorem mCell_arr {g : GG} {t N : Nat} {a : Nat} {I : Nat → Int32} {R : Nat → Option Nat} {J : Nat → Int64} {U : State} {H : Heap} (h1 : 1 ≤ t) (h2 : t ≤ 6) : mCell g (t, N) a I R J U H ↔ (gA g a ∧ H[a]? = some (arrV (g.2.1 t) N (fun j => fvl (aTy t) (I j) (R j) (J j)))) := by
  unfold mCell
  rw [if_neg (by show ¬ t = 0; omega), if_pos h2]
theorem mCell_obj {g : GG} {ci z : Nat} {a : Nat} {I : Nat → Int32} {R : Nat → Option Nat} {J : Nat → Int64} {U : State} {H : Heap} : mCell g (10 + ci, z) a I R J U H ↔ (gA g a ∧ ∃ q : vw_C, vwCl[ci]? = some q ∧ t_OB a (g.1.1 ci) q.2.2 (g.1.2 ci) H (fun k => fvl (tyC ci k) (I k) (R k) (J k))) := by
  unfold mCell
  rw [if_neg (by simp), if_neg (by show ¬ 10 + ci ≤ 6; omega), if_neg (by show ¬ 10 + ci = 7; omega), if_neg (by show ¬ 10 + ci = 8; omega), if_neg (by show ¬ 10 + ci = 9; omega)]
  simp only [Nat.add_sub_cancel_left]
theorem mCell_keep {g : GG} {t : Nat × Nat} {a : Nat} {I : Nat → Int32} {R : Nat → Option Nat} {J : Nat → Int64} {U : State} {H H1 : Heap} (h : mCell g t a I R J U H) (hq : H1[a]? = H[a]?) : mCell g t a I R J U H1 := by
  unfold mCell at h ⊢
  split
  · trivial
  rename_i h0
  rw [if_neg h0] at h
  split
  · rename_i h1
    rw [if_pos h1] at h
    exact ⟨h.1, hq.trans h.2⟩
  rename_i h1
  rw [if_neg h1] at h
  split
  · rename_i h2
    rw [if_pos h2] at h
    exact ⟨h.1, h.2.kept hq⟩
  rename_i h2
  rw [if_neg h2] at h
  split
  · rename_i h3
    rw [if_pos h3] at h
    exact h
  rename_i h3
  rw [if_neg h3] at h
  split
  · trivial
  rename_i h4
  rw [if_neg h4] at h
  obtain ⟨x1, q, x2, x3⟩ := h
  exact ⟨x1, q, x2, x3.kept hq⟩
theorem mCell_moved {g : GG} {t : Nat × Nat} {a : Nat} {I : Nat → Int32} {R : Nat → Option Nat} {J : Nat → Int64} {u U : State} {H : Heap} (hvm : u.vm.Alike U.vm) (h : mCell g t a I R J u H) : mCell g t a I R J U H := by
  unfold mCell at h ⊢
  split
  · trivial
  rename_i h0
  rw [if_neg h0] at h
  split
  · rename_i h1
    rw [if_pos h1] at h
    exact h
  rename_i h1
  rw [if_neg h1] at h
  split
  · rename_i h2
    rw [if_pos h2] at h
    exact ⟨h.1, h.2.moved hvm⟩
  rename_i h2
  rw [if_neg h2] at h
  exact h
theorem Wm.moved {g : GG} {M : Mem} {u U : State} {H : Heap} (hvm : u.vm.Alike U.vm) (h : Wm g M u H) : Wm g M U H :=
  ⟨fun a => mCell_moved hvm (h.1 a), ⟨fun i hi => ⟨va_O.moved hvm (h.2.1.1 i hi).1, va_OF.moved hvm (h.2.1.1 i hi).2.1, va_OF.moved hvm (h.2.1.1 i hi).2.2.1, va_T.moved hvm (h.2.1.1 i hi).2.2.2⟩, va_Z.moved hvm h.2.1.2.1, va_Zq.moved hvm h.2.1.2.2.1, vx_Zq.moved hvm h.2.1.2.2.2.1, vx_Zq.moved hvm h.2.1.2.2.2.2⟩, h.2.2⟩
theorem gStr.kept {g : GG} {U : State} {H H1 : Heap} (h : gStr g U H) (hq : ∀ a : Nat, a < H.size → ¬ gA g a → H1[a]? = H[a]?) : gStr g U H1 := ⟨fun i hi => ⟨(h.1 i hi).1.kept hq, (h.1 i hi).2.1.kept hq, (h.1 i hi).2.2.1.kept hq, (h.1 i hi).2.2.2.kept hq⟩, h.2.1.kept hq, h.2.2.1.kept hq, h.2.2.2.1.kept hq, h.2.2.2.2.kept hq⟩
/-- one cell is written -/
theorem Wm.put {g : GG} {M M1 : Mem} {U : State} {H H1 : Heap} {a : Nat} (h : Wm g M U H) (ha : gA g a) (z : H1.size = H.size) (oq : ∀ q, q ≠ a → H1[q]? = H[q]?) (hs : M1.2.2.2.2 = M.2.2.2.2)
    (h1 : mCell g (M1.1 a) a (M1.2.1 a) (M1.2.2.1 a) (M1.2.2.2.1 a) U H1) (h2 : ∀ b, b ≠ a → M1.1 b = M.1 b ∧ M1.2.1 b = M.2.1 b ∧ M1.2.2.1 b = M.2.2.1 b ∧ M1.2.2.2.1 b = M.2.2.2.1 b) : Wm g M1 U H1 := by
  refine ⟨fun b => ?_, h.2.1.kept (fun b _ hb => oq b (fun e => hb (e ▸ ha))), by rw [z, hs]; exact h.2.2.1, by rw [z]; exact h.2.2.2⟩
  by_cases e : b = a
  · subst e
    exact h1
  · obtain ⟨e1, e2, e3, e4⟩ := h2 b e
    rw [e1, e2, e3, e4]
    exact mCell_keep (h.1 b) (oq b e)
/-- a cell is made -/
theorem Wm.new {g : GG} {M M1 : Mem} {U : State} {H H1 : Heap} (h : Wm g M U H) (z : H1.size = H.size + 1) (oq : ∀ q, q < H.size → H1[q]? = H[q]?) (hs : M1.2.2.2.2 = M.2.2.2.2 + 1)
    (h1 : mCell g (M1.1 M.2.2.2.2) M.2.2.2.2 (M1.2.1 M.2.2.2.2) (M1.2.2.1 M.2.2.2.2) (M1.2.2.2.1 M.2.2.2.2) U H1) (h2 : ∀ b, b ≠ M.2.2.2.2 → M1.1 b = M.1 b ∧ M1.2.1 b = M.2.1 b ∧ M1.2.2.1 b = M.2.2.1 b ∧ M1.2.2.2.1 b = M.2.2.2.1 b) (h3 : ∀ b, M.2.2.2.2 ≤ b → (M.1 b).1 = 0) : Wm g M1 U H1 := by
  have hz := h.2.2.1
  refine ⟨fun b => ?_, h.2.1.kept (fun b hb _ => oq b hb), by rw [z, hs, hz], by rw [z]; exact Nat.le_succ_of_le h.2.2.2⟩
  by_cases e : b = M.2.2.2.2
  · subst e
    exact h1
  · obtain ⟨e1, e2, e3, e4⟩ := h2 b e
    rw [e1, e2, e3, e4]
    by_cases hb : b < H.size
    · exact mCell_keep (h.1 b) (oq b hb)
    · unfold mCell
      rw [if_pos (h3 b (by omega))]
      trivial
/-- a link of a field: class number ci, field kf -/
def GF (own : String) (i ci kf : Nat) : Prop := ∃ q : vw_C, vwCl[ci]? = some q ∧ kf < q.2.2 ∧ (q.2.1 kf).1 = q.1 ∧ (Cond.fieldLink own i q.1 (q.2.1 kf).2.1 (q.2.1 kf).2.2.1 ∈ tb ∨ ∃ host, (own, i, q.1, (q.2.1 kf).2.1, (q.2.1 kf).2.2.1, host) ∈ nwF)
section XH
variable {g : GG} {y : MD} {pc : Nat} {L L' S : List Value} {M : Mem} {k n : Nat} {Q : Option Value → Mem → Prop}
theorem x_getf {i ci kf a z : Nat} {v : Value} (hd : decode y.2.1 pc = .ok (.getfield i, 3)) (hF : GF y.1.cls i ci kf) (hT : M.1 a = (10 + ci, z)) (hv : fvl (tyC ci kf) (M.2.1 a kf) (M.2.2.1 a kf) (M.2.2.2.1 a kf) = v) (kk : X g y (pc + 3) L (v :: S) M k n Q) : X g y pc L (.ref a :: S) M k n Q := by
  refine X.goC (fun _ hC _ hM _ w => ?_) kk
  obtain ⟨q, hq, hk, hsame, hl⟩ := hF
  have hm := hM.1 a
  rw [hT, mCell_obj] at hm
  obtain ⟨-, q', hq', cell, c1, c2, c3, c4⟩ := hm
  cases hq.symm.trans hq'
  obtain ⟨hx, hb, -, hown, hts, -, -, -, hSW, -⟩ := hC
  obtain ⟨hin, -⟩ := clOk_all ci q hq
  obtain ⟨hS, hfc, kC, hkC, hkind⟩ := hSW.1.1 ci _ hq
  obtain ⟨cf, kf', fi, f, hi, hsl⟩ := hS kf hk
  have hst := (u_facts hfc hkC (u_lays hts hin hk) hi).1
  have hslot : cell.slots[f.slot]? = some v := by rw [hsl, c4 kf hk, ← hv]
  have hun : cell.vm ≠ .unknown := by rw [c3]; exact fun h => by cases h
  rw [hsame] at hi
  rcases hl with hl | ⟨host, hl⟩
  · exact W.getf hx hb hown (hts _ hl) hi hst c1 hun hslot rfl rfl hd w
  · exact va_Wgetf hx hb hown (va_Nw.use rfl (hSW.2.1 _ hl)) hi hst c1 hun hslot rfl rfl hd w
theorem x_gi {i ci kf a z : Nat} (hd : decode y.2.1 pc = .ok (.getfield i, 3)) (hF : GF y.1.cls i ci kf) (hT : M.1 a = (10 + ci, z)) (hv : ∀ x r j, fvl (tyC ci kf) x r j = .int x) (kk : X g y (pc + 3) L (.int (M.2.1 a kf) :: S) M k n Q) : X g y pc L (.ref a :: S) M k n Q := x_getf hd hF hT (hv _ _ _) kk
theorem x_gl {i ci kf a z : Nat} (hd : decode y.2.1 pc = .ok (.getfield i, 3)) (hF : GF y.1.cls i ci kf) (hT : M.1 a = (10 + ci, z)) (hv : ∀ x r j, fvl (tyC ci kf) x r j = .long j) (kk : X g y (pc + 3) L (.long (M.2.2.2.1 a kf) :: S) M k n Q) : X g y pc L (.ref a :: S) M k n Q := x_getf hd hF hT (hv _ _ _) kk
theorem x_gr {i ci kf a z b : Nat} (hd : decode y.2.1 pc = .ok (.getfield i, 3)) (hF : GF y.1.cls i ci kf) (hT : M.1 a = (10 + ci, z)) (hv : ∀ x r j, fvl (tyC ci kf) x r j = va_rf r) (hR : M.2.2.1 a kf = some b) (kk : X g y (pc + 3) L (.ref b :: S) M k n Q) : X g y pc L (.ref a :: S) M k n Q := x_getf hd hF hT ((hv _ _ _).trans (by rw [hR]; rfl)) kk
theorem x_gn {i ci kf a z : Nat} (hd : decode y.2.1 pc = .ok (.getfield i, 3)) (hF : GF y.1.cls i ci kf) (hT : M.1 a = (10 + ci, z)) (hv : ∀ x r j, fvl (tyC ci kf) x r j = va_rf r) (hR : M.2.2.1 a kf = none) (kk : X g y (pc + 3) L (.null :: S) M k n Q) : X g y pc L (.ref a :: S) M k n Q := x_getf hd hF hT ((hv _ _ _).trans (by rw [hR]; rfl)) kk
/-- a field is written: final ones by their own constructor -/
theorem x_putf {i ci kf a z : Nat} {v : Value} {I1 : Nat → Nat → Int32} {R1 : Nat → Nat → Option Nat} {J1 : Nat → Nat → Int64} (hd : decode y.2.1 pc = .ok (.putfield i, 3)) (hF : GF y.1.cls i ci kf) (hT : M.1 a = (10 + ci, z)) (hfin : ∀ q : vw_C, vwCl[ci]? = some q → (q.2.1 kf).2.2.2 = false ∨ (y.1.name = "<init>" ∧ q.1 = y.1.cls ∧ (q.2.1 kf).2.2.2 = true ∧ Cond.fieldLink y.1.cls i q.1 (q.2.1 kf).2.1 (q.2.1 kf).2.2.1 ∈ tb))
    (hn : narrow (tyC ci kf) v = v) (hfit : fits (tyC ci kf) v = true) (hv : fvl (tyC ci kf) (I1 a kf) (R1 a kf) (J1 a kf) = v) (ho : ∀ j, j ≠ kf → I1 a j = M.2.1 a j ∧ R1 a j = M.2.2.1 a j ∧ J1 a j = M.2.2.2.1 a j) (hb2 : ∀ b, b ≠ a → I1 b = M.2.1 b ∧ R1 b = M.2.2.1 b ∧ J1 b = M.2.2.2.1 b)
    (kk : X g y (pc + 3) L S (M.1, I1, R1, J1, M.2.2.2.2) k n Q) : X g y pc L (v :: .ref a :: S) M k n Q := by
  intro l p e R s m args below meth c H ls locs cells slots QF a1 hC a3 hM hFr a6 a7 a8
  obtain ⟨q, hq, hk, hsame, hl⟩ := hF
  have hm := hM.1 a
  rw [hT, mCell_obj] at hm
  obtain ⟨hgA, q', hq', cell, c1, c2, c3, c4⟩ := hm
  cases hq.symm.trans hq'
  have hC' := hC
  obtain ⟨hx, hb, -, hown, hts, -, -, hname, hSW, -⟩ := hC
  obtain ⟨hin, hty, hnm⟩ := clOk_all ci q hq
  have hap : ∀ x y, x < q.2.2 → y < q.2.2 → x ≠ y → (g.1.2 ci) x ≠ (g.1.2 ci) y := va_apart (own := y.1.cls) hts hin (tyC ci) hty hnm hSW.1 hq
  obtain ⟨hS, hfc, kC, hkC, hkind⟩ := hSW.1.1 ci _ hq
  obtain ⟨cf, kf', fi, f, hi, hsl⟩ := hS kf hk
  have hst := (u_facts hfc hkC (u_lays hts hin hk) hi).1
  have hlay := hts _ (hin _ (u_in_lay hk))
  unfold u_lay at hlay
  have fin : ∀ H' : Heap, H'[a]? = some (cell.setSlot f.slot v) → H'.size = H.size → (∀ x, x ≠ a → H'[x]? = H[x]?) → W p l e R s m args below meth c H' (locs ++ [⟨a, f.slot⟩]) cells slots QF (F0 m (pc + 3) ls S) := by
    intro H' e1 e2 e3
    rw [hsl] at e1 ⊢
    refine kk l p e R s m args below meth c H' ls _ cells slots QF a1 hC' a3 (hM.put hgA e2 e3 rfl ?_ (fun b hb3 => ⟨rfl, hb2 b hb3⟩)) (hFr.put e2 e3 hgA) a6 a7 a8
    show mCell g (M.1 a) a (I1 a) (R1 a) (J1 a) s H'
    rw [hT, mCell_obj]
    refine ⟨hgA, q, hq, _, e1, c2, c3, fun j hj => ?_⟩
    rw [t_set c4 hap hk v j hj]
    by_cases e : j = kf
    · subst e
      simp only [updV, if_pos]
      rw [hv]
    · obtain ⟨o1, o2, o3⟩ := ho j e
      simp only [updV, if_neg e, o1, o2, o3]
  have hun : cell.vm ≠ .unknown := by rw [c3]; exact fun h => by cases h
  have hlt : f.slot < cell.slots.size := by rw [hsl]; exact k2_hasslot (c4 kf hk)
  rcases hfin q hq with hf | ⟨hf1, hf2, hf3, hf4⟩
  · rw [if_neg (by rw [hf]; decide)] at hlay
    have h6 := u_store hfc hkC hkind hlay hi (hty kf hk) hn hfit
    have hi2 := hi
    rw [hsame] at hi2
    rcases hl with hl | ⟨host, hl⟩
    · exact W.putK hx hb (f := f) ⟨hown, hts _ hl, ⟨_, _, _, hi2⟩, hst⟩ (by rw [c2]; exact h6) c1 c3 hlt rfl rfl hd fin
    · exact va_WputK hx hb hown (va_Nw.use rfl (hSW.2.1 _ hl)) hi2 hst (by rw [c2]; exact h6) c1 c3 hlt rfl rfl hd fin
  · rw [if_pos hf3] at hlay
    have hcf : m.cls = cf := by
      obtain ⟨_, _, c', _, _, _, -, -, hf', -, -, -, hown2, -⟩ := Cond.laysFinal_spec hlay
      have e1 : c' = cf := by have := hi.symm.trans hf'; simp at this; exact this.1.symm
      rw [hsame, hf2] at hown2
      rw [← e1]; exact Option.some.inj (hown.symm.trans hown2)
    have h6 := u_fits hfc hkC hkind (Or.inr hlay) hi (hty kf hk) hn hfit
    have hi2 := hi
    rw [hsame] at hi2
    exact W.putFinK hx hb hown (hts _ hf4) hi2 hst hcf (hname.trans hf1) (by rw [c2]; exact h6) c1 c3 hlt rfl rfl hd fin
/-- a link by which a field may be written -/
def PF (y : MD) (i ci kf : Nat) : Prop := GF y.1.cls i ci kf ∧ ∀ q : vw_C, vwCl[ci]? = some q → (q.2.1 kf).2.2.2 = false ∨ (y.1.name = "<init>" ∧ q.1 = y.1.cls ∧ (q.2.1 kf).2.2.2 = true ∧ Cond.fieldLink y.1.cls i q.1 (q.2.1 kf).2.1 (q.2.1 kf).2.2.1 ∈ tb)
theorem x_pi {i ci kf a z : Nat} {v : Int32} {T : Nat → Nat × Nat} {I : Nat → Nat → Int32} {R : Nat → Nat → Option Nat} {J : Nat → Nat → Int64} {sz : Nat} (hd : decode y.2.1 pc = .ok (.putfield i, 3)) (hF : PF y i ci kf) (hT : T a = (10 + ci, z)) (hv : ∀ x r j, fvl (tyC ci kf) x r j = .int x) (hn : narrow (tyC ci kf) (.int v) = .int v) (hfit : fits (tyC ci kf) (.int v) = true) (kk : X g y (pc + 3) L S (T, u2 I a kf v, R, J, sz) k n Q) : X g y pc L (.int v :: .ref a :: S) (T, I, R, J, sz) k n Q :=
  x_putf (I1 := u2 I a kf v) hd hF.1 hT hF.2 hn hfit ((hv _ _ _).trans (by rw [u2_s, u1_s])) (fun j h => ⟨by rw [u2_s, u1_n h], rfl, rfl⟩) (fun b h => ⟨u2_n h, rfl, rfl⟩) kk
theorem x_pl {i ci kf a z : Nat} {v : Int64} {T : Nat → Nat × Nat} {I : Nat → Nat → Int32} {R : Nat → Nat → Option Nat} {J : Nat → Nat → Int64} {sz : Nat} (hd : decode y.2.1 pc = .ok (.putfield i, 3)) (hF : PF y i ci kf) (hT : T a = (10 + ci, z)) (hv : ∀ x r j, fvl (tyC ci kf) x r j = .long j) (hn : narrow (tyC ci kf) (.long v) = .long v) (hfit : fits (tyC ci kf) (.long v) = true) (kk : X g y (pc + 3) L S (T, I, R, u2 J a kf v, sz) k n Q) : X g y pc L (.long v :: .ref a :: S) (T, I, R, J, sz) k n Q :=
  x_putf (J1 := u2 J a kf v) hd hF.1 hT hF.2 hn hfit ((hv _ _ _).trans (by rw [u2_s, u1_s])) (fun j h => ⟨rfl, rfl, by rw [u2_s, u1_n h]⟩) (fun b h => ⟨rfl, rfl, u2_n h⟩) kk
theorem x_pr {i ci kf a z b : Nat} {T : Nat → Nat × Nat} {I : Nat → Nat → Int32} {R : Nat → Nat → Option Nat} {J : Nat → Nat → Int64} {sz : Nat} (hd : decode y.2.1 pc = .ok (.putfield i, 3)) (hF : PF y i ci kf) (hT : T a = (10 + ci, z)) (hv : ∀ x r j, fvl (tyC ci kf) x r j = va_rf r) (hn : narrow (tyC ci kf) (.ref b) = .ref b) (hfit : fits (tyC ci kf) (.ref b) = true) (kk : X g y (pc + 3) L S (T, I, u2 R a kf (some b), J, sz) k n Q) : X g y pc L (.ref b :: .ref a :: S) (T, I, R, J, sz) k n Q :=
  x_putf (R1 := u2 R a kf (some b)) hd hF.1 hT hF.2 hn hfit ((hv _ _ _).trans (by rw [u2_s, u1_s]; rfl)) (fun j h => ⟨rfl, by rw [u2_s, u1_n h], rfl⟩) (fun b h => ⟨rfl, u2_n h, rfl⟩) kk
end XH
