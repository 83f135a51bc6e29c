/-! ===== Reader: the token that stands now; a step of the reader ===== -/
theorem va_ldcwS {p : Program} {l : Launch} {e : Env} {R : Room} {s : State} {m : MethodId} {args : Array Value} {below : List Frame} {meth : Method} {c : Code} {H : Heap} {locs : List Loc} {cells slots : Nat} {Q : State → Prop} {cc : ByteArray} {pc : Nat} {ls : Array Slot} {rest : List Value} (hexec : p.tables.exec = Jvm.exec) (hb : c.code = cc) {own tx : String} {index q : Nat} (hown : s.vm.findClass own = some m.cls) (hZ : vk_R own index tx q s) (hdg : decode cc pc = .ok (.ldc_w index, 3))
    (k : W p l e R s m args below meth c H locs cells slots Q (F0 m (pc + 3) ls (.ref q :: rest))) : W p l e R s m args below meth c H locs cells slots Q (F0 m pc ls rest) := by
  intro T hT X
  obtain ⟨t, a1, b1⟩ := k T hT X
  exact ⟨t, X.ldcStringW hexec hown (text := tx) (a := q) hZ.1 hZ.2 (g := F0 m pc ls rest) rfl (by rw [hb]; exact hdg) t a1, b1⟩
theorem x_ldcsw {g : GG} {y : MD} {pc : Nat} {L S : List Value} {M : Mem} {k n : Nat} {Q : Option Value → Mem → Prop} {i j : Nat} {tx : String} (hd : decode y.2.1 pc = .ok (.ldc_w i, 3)) (hw : (y.1.cls, i, tx, j) ∈ strL) (kk : X g y (pc + 3) L (.ref (g.2.2.1 j) :: S) M k n Q) : X g y pc L S M k n Q := X.goC (fun _ hC _ _ _ w => va_ldcwS hC.1 hC.2.1 hC.2.2.2.1 (hC.2.2.2.2.2.2.2.2.1.2.2.2.2.2.1 _ hw) hd w) kk
/-- the token from i on is the one that stands now -/
def CU (t : Nat → Int) (V : Nat → Nat → Int) (rd tx e i : Nat) : Prop := V tx = t ∧ i ≤ e ∧ V rd 5 = (e : Int) ∧ V rd 6 = ((tkN t e i : Nat) : Int) ∧ V rd 7 = tkK t e i ∧ V rd 8 = ((tkS t e i : Nat) : Int) ∧ (tkK t e i = 1 → V rd 9 = ((tkL t e i - tkS t e i : Nat) : Int)) ∧ (tkK t e i = 2 → V rd 10 = tkX t e i) ∧ (0 ≤ V rd 9 ∧ V rd 9 ≤ 1100)
/-- nothing but the token has changed -/
def S0 (V V' : Nat → Nat → Int) (rd : Nat) : Prop := (∀ b, b ≠ rd → V' b = V b) ∧ (∀ c, c < 6 ∨ 10 < c → V' rd c = V rd c)
theorem av_CU {t : Nat → Int} {V : Nat → Nat → Int} {rd tx e i : Nat} (ht : V tx = t) (h5 : V rd 5 = (e : Int)) (h9 : 0 ≤ V rd 9 ∧ V rd 9 ≤ 1100) (hi : i ≤ e) (he : e ≤ 1100) (hne : tx ≠ rd) : CU t (avE V rd tx e i) rd tx e i ∧ S0 V (avE V rd tx e i) rd := by
  subst ht
  have hb := tk_b (V tx) hi
  have a0 : av0 V tx e i = tkS (V tx) e i := rfl
  have a1 : av1 V tx e i = tkL (V tx) e i := rfl
  have a2 : av2 V tx e i = tkD (V tx) e i := rfl
  have ex : tkX (V tx) e i = if tkK (V tx) e i = 1 then wk (V tx) (tkL (V tx) e i - tkS (V tx) e i) (tkS (V tx) e i) 0 else whS (V tx) (tkD (V tx) e i - tkS (V tx) e i) (tkS (V tx) e i) 0 := rfl
  have ek : tkK (V tx) e i = if e ≤ tkS (V tx) e i then 0 else if tkS (V tx) e i < tkL (V tx) e i then (if tkL (V tx) e i - tkS (V tx) e i ≤ 8 then 1 else 4) else if tkS (V tx) e i < tkD (V tx) e i then (if tkD (V tx) e i - tkS (V tx) e i ≤ 3 then 2 else 4) else if V tx (tkS (V tx) e i) = 59 then 3 else 4 := rfl
  have en : tkN (V tx) e i = if e ≤ tkS (V tx) e i then tkS (V tx) e i else if tkS (V tx) e i < tkL (V tx) e i then tkL (V tx) e i else if tkS (V tx) e i < tkD (V tx) e i then tkD (V tx) e i else tkS (V tx) e i + 1 := rfl
  unfold CU avE avS
  rw [a0, a1, a2]
  generalize tkX (V tx) e i = x at *
  generalize tkK (V tx) e i = kk at *
  generalize tkN (V tx) e i = nn at *
  generalize tkS (V tx) e i = p0 at *
  generalize tkL (V tx) e i = p1 at *
  generalize tkD (V tx) e i = p2 at *
  have q0 : ∀ (U : Nat → Nat → Int) c v b, b ≠ rd → u2 U rd c v b = U b := fun U c v b h => u2_n h
  have q1 : ∀ (U : Nat → Nat → Int) c v, u2 U rd c v rd c = v := fun U c v => by rw [u2_s, u1_s]
  have q2 : ∀ (U : Nat → Nat → Int) c v d, d ≠ c → u2 U rd c v rd d = U rd d := fun U c v d h => by rw [u2_s, u1_n h]
  by_cases c1 : e ≤ p0
  · rw [if_pos c1] at ek en ⊢
    subst ek; subst en
    refine ⟨⟨by simp only [q0 _ _ _ _ hne], hi, ?_, ?_, ?_, ?_, ?_, ?_, ?_⟩, ?_, ?_⟩
    · simp (discharger := decide) only [q1, q2]; exact h5
    · simp (discharger := decide) only [q1, q2]
    · simp (discharger := decide) only [q1, q2]
    · simp (discharger := decide) only [q1, q2]
    · intro h; omega
    · intro h; omega
    · simp (discharger := decide) only [q1, q2]; exact h9
    · intro b hb; simp only [q0 _ _ _ _ hb]
    · intro c hc; simp (discharger := omega) only [q2]
  rw [if_neg c1] at ek en ⊢
  by_cases c2 : p0 < p1
  · rw [if_pos c2] at ek en ⊢
    have e9 : (p1 : Int) - (p0 : Int) = ((p1 - p0 : Nat) : Int) := by omega
    subst ek; subst en
    refine ⟨⟨by simp only [q0 _ _ _ _ hne], hi, ?_, ?_, ?_, ?_, ?_, ?_, ?_⟩, ?_, ?_⟩
    · simp (discharger := decide) only [q1, q2]; exact h5
    · simp (discharger := decide) only [q1, q2]
    · simp (discharger := decide) only [q1, q2]
    · simp (discharger := decide) only [q1, q2]
    · intro h; simp (discharger := decide) only [q1, q2]; exact e9
    · intro h; split at h <;> omega
    · simp (discharger := decide) only [q1, q2]; omega
    · intro b hb; simp only [q0 _ _ _ _ hb]
    · intro c hc; simp (discharger := omega) only [q2]
  rw [if_neg c2] at ek en ⊢
  by_cases c3 : p0 < p2
  · rw [if_pos c3] at ek en ⊢
    subst en
    have k1 : ¬ kk = 1 := by rw [ek]; split <;> omega
    rw [if_neg k1] at ex
    subst ek
    refine ⟨⟨by simp only [q0 _ _ _ _ hne], hi, ?_, ?_, ?_, ?_, ?_, ?_, ?_⟩, ?_, ?_⟩
    · simp (discharger := decide) only [q1, q2]; exact h5
    · simp (discharger := decide) only [q1, q2]
    · simp (discharger := decide) only [q1, q2]
    · simp (discharger := decide) only [q1, q2]
    · intro h; exact absurd h k1
    · intro h; simp (discharger := decide) only [q1, q2]; exact ex.symm
    · simp (discharger := decide) only [q1, q2]; exact h9
    · intro b hb; simp only [q0 _ _ _ _ hb]
    · intro c hc; simp (discharger := omega) only [q2]
  rw [if_neg c3] at ek en ⊢
  subst en
  have k1 : ¬ kk = 1 := by rw [ek]; split <;> omega
  have k2 : ¬ kk = 2 := by rw [ek]; split <;> omega
  subst ek
  refine ⟨⟨by simp only [q0 _ _ _ _ hne], hi, ?_, ?_, ?_, ?_, ?_, ?_, ?_⟩, ?_, ?_⟩
  · simp (discharger := decide) only [q1, q2]; exact h5
  · simp (discharger := decide) only [q1, q2]
  · simp (discharger := decide) only [q1, q2]
  · simp (discharger := decide) only [q1, q2]
  · intro h; exact absurd h k1
  · intro h; exact absurd h k2
  · simp (discharger := decide) only [q1, q2]; exact h9
  · intro b hb; simp only [q0 _ _ _ _ hb]
  · intro c hc; simp (discharger := omega) only [q2]
/-- whether the j-th literal stands there, by the class -/
theorem seB_sw {t : Nat → Int} {V : Nat → Nat → Int} {rd tx e i j : Nat} (hc : CU t V rd tx e i) (hj : j < 33) : seB V rd tx (lenStr.getD j 0) (wdOf j) = sw t e i j := by
  obtain ⟨h0, hi, h5, h6, h7, h8, h9, h10, -⟩ := hc
  unfold seB sw
  rw [h7, h8, h0, Int.toNat_natCast]
  by_cases hk : tkK t e i = 1
  · have hw := tk_word hk
    rw [h9 hk]
    have ex : tkX t e i = wk t (tkL t e i - tkS t e i) (tkS t e i) 0 := by unfold tkX; rw [if_pos hk]
    have key := wk_same t (wdOf j) (d := tkL t e i - tkS t e i) (c := lenStr.getD j 0) (j := tkS t e i) (i := 0) (fun q a b => hw.2.2.2.2 q a (by omega)) (fun q a b => lit_az j hj q (by omega))
    rw [ex]
    by_cases hl : tkL t e i - tkS t e i = lenStr.getD j 0
    · rw [if_pos ⟨hk, by omega⟩, Bool.eq_iff_iff, swF_iff, decide_eq_true_iff]
      constructor
      · intro h
        exact ⟨hk, key.mpr ⟨hl, fun q hq => h q (by omega)⟩⟩
      · intro h q hq
        exact (key.mp h.2).2 q (by omega)
    · rw [if_neg (fun h => hl (by omega)), decide_eq_false (fun h => hl (key.mp h.2).1)]
  · rw [if_neg (fun h => hk h.1), decide_eq_false (fun h => hk h.1)]
