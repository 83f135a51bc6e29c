/-! ===== whole numbers: every int on the stack and in the picture is iI of an Int ===== -/
def iI (n : Int) : Int32 := Int32.ofInt n
abbrev iV (V : Nat → Nat → Int) : Nat → Nat → Int32 := fun a j => iI (V a j)
def R32 (x : Int) : Prop := -2147483648 ≤ x ∧ x ≤ 2147483647
theorem iI_toInt {x : Int} (h : R32 x) : (iI x).toInt = x := Int32.toInt_ofInt_of_le (by have := h.1; omega) (by have := h.2; omega)
theorem iI_of (x : Int32) : iI x.toInt = x := Int32.ofInt_toInt x
theorem r32_of (x : Int32) : R32 x.toInt := ⟨by have := Int32.le_toInt x; omega, by have := Int32.toInt_lt x; omega⟩
theorem iI_nat (n : Nat) : iI (n : Int) = nI n := Int32.ofInt_eq_ofNat
theorem iI_add (a b : Int) : iI a + iI b = iI (a + b) := (Int32.ofInt_add a b).symm
theorem iI_sub (a b : Int) : iI a - iI b = iI (a - b) := (Int32.ofInt_sub a b).symm
theorem iI_mul (a b : Int) : iI a * iI b = iI (a * b) := (Int32.ofInt_mul a b).symm
theorem iI_neg (a : Int) : -iI a = iI (-a) := (Int32.ofInt_neg a).symm
theorem iI_lt {a b : Int} (ha : R32 a) (hb : R32 b) : iI a < iI b ↔ a < b := by rw [Int32.lt_iff_toInt_lt, iI_toInt ha, iI_toInt hb]
theorem iI_le {a b : Int} (ha : R32 a) (hb : R32 b) : iI a ≤ iI b ↔ a ≤ b := by rw [Int32.le_iff_toInt_le, iI_toInt ha, iI_toInt hb]
theorem iI_eq {a b : Int} (ha : R32 a) (hb : R32 b) : iI a = iI b ↔ a = b := by
  constructor
  · intro h
    have := congrArg Int32.toInt h
    rwa [iI_toInt ha, iI_toInt hb] at this
  · exact fun h => by rw [h]
theorem iI_0 : iI 0 = 0 := rfl
theorem iI_1 : iI 1 = 1 := rfl
theorem r0 : R32 0 := ⟨by decide, by decide⟩
theorem iI_tdiv {a b : Int} (ha : R32 a) (hb : R32 b) (h0 : 0 ≤ a) (hb0 : 0 < b) : iI a - iI a / iI b * iI b = iI (a % b) := by
  have h1 : iI a / iI b = iI (a / b) := by
    rw [← Int.tdiv_eq_ediv_of_nonneg h0]
    exact (Int32.ofInt_tdiv (by show -2147483648 ≤ a; exact ha.1) (by show a ≤ 2147483647; exact ha.2) (by show -2147483648 ≤ b; exact hb.1) (by show b ≤ 2147483647; exact hb.2)).symm
  rw [h1, iI_mul, iI_sub]
  congr 1
  have := Int.emod_add_mul_ediv a b
  rw [Int.mul_comm] at this
  omega
theorem iV_u2 (V : Nat → Nat → Int) (a j : Nat) (v : Int) : u2 (iV V) a j (iI v) = iV (u2 V a j v) := by
  funext b i
  by_cases h : b = a
  · subst h
    rw [u2_s]
    show _ = iI (u2 V b j v b i)
    rw [u2_s]
    by_cases h2 : i = j
    · subst h2
      rw [u1_s, u1_s]
    · rw [u1_n h2, u1_n h2]
  · rw [u2_n h]
    show _ = iI (u2 V a j v b i)
    rw [u2_n h]
/-- 0 or 1 -/
def bI (b : Bool) : Int := if b then 1 else 0
theorem bI_0 {b : Bool} : bI b = 0 ↔ b = false := by cases b <;> simp [bI]
theorem bI_n0 {b : Bool} : ¬ bI b = 0 ↔ b = true := by cases b <;> simp [bI]
theorem bI_r (b : Bool) : R32 (bI b) := by cases b <;> exact ⟨by decide, by decide⟩
theorem bI_nar (b : Bool) : narrow .boolean (.int (iI (bI b))) = .int (iI (bI b)) := by cases b <;> rfl
theorem bI_fit (b : Bool) : fits .boolean (.int (iI (bI b))) = true := by cases b <;> rfl
section YI
variable {g : GG} {y : MD} {pc : Nat} {L L' S : List Value} {k n : Nat} {Q : Option Value → Mem → Prop} {M : Mem} {T : Nat → Nat × Nat} {V : Nat → Nat → Int} {R : Nat → Nat → Option Nat} {J : Nat → Nat → Int64} {sz : Nat}
theorem y_iconst {i : Int} (hd : decode y.2.1 pc = .ok (.iconst i, 1)) (kk : X g y (pc + 1) L (.int (iI i) :: S) M k n Q) : X g y pc L S M k n Q := x_iconst (iI i) hd rfl kk
theorem y_bipush {i : Int} (hd : decode y.2.1 pc = .ok (.bipush i, 2)) (hv : (Int8.ofInt i).toInt32 = iI i) (kk : X g y (pc + 2) L (.int (iI i) :: S) M k n Q) : X g y pc L S M k n Q := x_bipush (iI i) hd hv kk
theorem y_sipush {i : Int} (hd : decode y.2.1 pc = .ok (.sipush i, 3)) (hv : (Int16.ofInt i).toInt32 = iI i) (kk : X g y (pc + 3) L (.int (iI i) :: S) M k n Q) : X g y pc L S M k n Q := x_sipush (iI i) hd hv kk
theorem y_ldc {i : Nat} {v : Int32} (z : Int) (hd : decode y.2.1 pc = .ok (.ldc i, 2)) (hw : Cond.constant y.1.cls i v ∈ tb) (hz : v = iI z) (kk : X g y (pc + 2) L (.int (iI z) :: S) M k n Q) : X g y pc L S M k n Q := x_ldc hd hw (by rw [hz]; exact kk)
theorem y_ldcw {i : Nat} {v : Int32} (z : Int) (hd : decode y.2.1 pc = .ok (.ldc_w i, 3)) (hw : Cond.constant y.1.cls i v ∈ tb) (hz : v = iI z) (kk : X g y (pc + 3) L (.int (iI z) :: S) M k n Q) : X g y pc L S M k n Q := x_ldcw hd hw (by rw [hz]; exact kk)
theorem y_iadd {a b : Int} (hd : decode y.2.1 pc = .ok (.iadd, 1)) (kk : X g y (pc + 1) L (.int (iI (a + b)) :: S) M k n Q) : X g y pc L (.int (iI b) :: .int (iI a) :: S) M k n Q := x_iadd hd (by rw [iI_add]; exact kk)
theorem y_isub {a b : Int} (hd : decode y.2.1 pc = .ok (.isub, 1)) (kk : X g y (pc + 1) L (.int (iI (a - b)) :: S) M k n Q) : X g y pc L (.int (iI b) :: .int (iI a) :: S) M k n Q := x_isub hd (by rw [iI_sub]; exact kk)
theorem y_imul {a b : Int} (hd : decode y.2.1 pc = .ok (.imul, 1)) (kk : X g y (pc + 1) L (.int (iI (a * b)) :: S) M k n Q) : X g y pc L (.int (iI b) :: .int (iI a) :: S) M k n Q := x_imul hd (by rw [iI_mul]; exact kk)
theorem y_ineg {a : Int} (hd : decode y.2.1 pc = .ok (.ineg, 1)) (kk : X g y (pc + 1) L (.int (iI (-a)) :: S) M k n Q) : X g y pc L (.int (iI a) :: S) M k n Q := x_ineg hd (by rw [iI_neg]; exact kk)
theorem y_irem {a b : Int} (hd : decode y.2.1 pc = .ok (.irem, 1)) (ha : R32 a) (hb : R32 b) (h0 : 0 ≤ a) (hb0 : 0 < b) (kk : X g y (pc + 1) L (.int (iI (a % b)) :: S) M k n Q) : X g y pc L (.int (iI b) :: .int (iI a) :: S) M k n Q :=
  x_irem hd (fun h => by have := (iI_eq hb r0).mp (h.trans iI_0.symm); omega) (by rw [iI_tdiv ha hb h0 hb0]; exact kk)
theorem y_iinc {i : Nat} {d v : Int} (hd : decode y.2.1 pc = .ok (.iinc i d, 3)) (hl : L[i]? = some (.int (iI v))) (hn : i < y.2.2.1) (ho : okp L i = true) (hL : L.set i (.int (iI (v + d))) = L') (kk : X g y (pc + 3) L' S M k n Q) : X g y pc L S M k n Q := x_iinc hd hl (by rw [← iI_add]; rfl) hn ho hL kk
theorem y_if_eq {off : Int} {a : Int} (tgt : Nat) (hd : decode y.2.1 pc = .ok (.ifCond .eq off, 3)) (ht : (pc : Int) + off = (tgt : Int)) (ha : R32 a) (k1 : a = 0 → X g y tgt L S M k n Q) (k2 : ¬ a = 0 → X g y (pc + 3) L S M k n Q) : X g y pc L (.int (iI a) :: S) M k n Q := x_if_eq tgt hd ht (fun h => k1 ((iI_eq ha r0).mp h)) (fun h => k2 (fun z => h ((iI_eq ha r0).mpr z)))
theorem y_if_lt {off : Int} {a : Int} (tgt : Nat) (hd : decode y.2.1 pc = .ok (.ifCond .lt off, 3)) (ht : (pc : Int) + off = (tgt : Int)) (ha : R32 a) (k1 : a < 0 → X g y tgt L S M k n Q) (k2 : 0 ≤ a → X g y (pc + 3) L S M k n Q) : X g y pc L (.int (iI a) :: S) M k n Q := x_if_lt tgt hd ht (fun h => k1 ((iI_lt ha r0).mp h)) (fun h => k2 (Int.not_lt.mp (fun z => h ((iI_lt ha r0).mpr z))))
theorem y_if_ge {off : Int} {a : Int} (tgt : Nat) (hd : decode y.2.1 pc = .ok (.ifCond .ge off, 3)) (ht : (pc : Int) + off = (tgt : Int)) (ha : R32 a) (k1 : 0 ≤ a → X g y tgt L S M k n Q) (k2 : a < 0 → X g y (pc + 3) L S M k n Q) : X g y pc L (.int (iI a) :: S) M k n Q := x_if_ge tgt hd ht (fun h => k1 ((iI_le r0 ha).mp h)) (fun h => k2 (Int.not_le.mp (fun z => h ((iI_le r0 ha).mpr z))))
theorem y_if_gt {off : Int} {a : Int} (tgt : Nat) (hd : decode y.2.1 pc = .ok (.ifCond .gt off, 3)) (ht : (pc : Int) + off = (tgt : Int)) (ha : R32 a) (k1 : 0 < a → X g y tgt L S M k n Q) (k2 : a ≤ 0 → X g y (pc + 3) L S M k n Q) : X g y pc L (.int (iI a) :: S) M k n Q := x_if_gt tgt hd ht (fun h => k1 ((iI_lt r0 ha).mp h)) (fun h => k2 (Int.not_lt.mp (fun z => h ((iI_lt r0 ha).mpr z))))
theorem y_if_le {off : Int} {a : Int} (tgt : Nat) (hd : decode y.2.1 pc = .ok (.ifCond .le off, 3)) (ht : (pc : Int) + off = (tgt : Int)) (ha : R32 a) (k1 : a ≤ 0 → X g y tgt L S M k n Q) (k2 : 0 < a → X g y (pc + 3) L S M k n Q) : X g y pc L (.int (iI a) :: S) M k n Q := x_if_le tgt hd ht (fun h => k1 ((iI_le ha r0).mp h)) (fun h => k2 (Int.not_le.mp (fun z => h ((iI_le ha r0).mpr z))))
theorem y_if_ne {off : Int} {a : Int} (tgt : Nat) (hd : decode y.2.1 pc = .ok (.ifCond .ne off, 3)) (ht : (pc : Int) + off = (tgt : Int)) (ha : R32 a) (k1 : ¬ a = 0 → X g y tgt L S M k n Q) (k2 : a = 0 → X g y (pc + 3) L S M k n Q) : X g y pc L (.int (iI a) :: S) M k n Q := x_if_ne tgt hd ht (fun h => k1 (fun z => h ((iI_eq ha r0).mpr z))) (fun h => k2 ((iI_eq ha r0).mp h))
theorem y_icmp_eq {off : Int} {a b : Int} (tgt : Nat) (hd : decode y.2.1 pc = .ok (.if_icmp .eq off, 3)) (ht : (pc : Int) + off = (tgt : Int)) (ha : R32 a) (hb : R32 b) (k1 : a = b → X g y tgt L S M k n Q) (k2 : ¬ a = b → X g y (pc + 3) L S M k n Q) : X g y pc L (.int (iI b) :: .int (iI a) :: S) M k n Q := x_icmp_eq tgt hd ht (fun h => k1 ((iI_eq ha hb).mp h)) (fun h => k2 (fun z => h ((iI_eq ha hb).mpr z)))
theorem y_icmp_lt {off : Int} {a b : Int} (tgt : Nat) (hd : decode y.2.1 pc = .ok (.if_icmp .lt off, 3)) (ht : (pc : Int) + off = (tgt : Int)) (ha : R32 a) (hb : R32 b) (k1 : a < b → X g y tgt L S M k n Q) (k2 : b ≤ a → X g y (pc + 3) L S M k n Q) : X g y pc L (.int (iI b) :: .int (iI a) :: S) M k n Q := x_icmp_lt tgt hd ht (fun h => k1 ((iI_lt ha hb).mp h)) (fun h => k2 (Int.not_lt.mp (fun z => h ((iI_lt ha hb).mpr z))))
theorem y_icmp_ge {off : Int} {a b : Int} (tgt : Nat) (hd : decode y.2.1 pc = .ok (.if_icmp .ge off, 3)) (ht : (pc : Int) + off = (tgt : Int)) (ha : R32 a) (hb : R32 b) (k1 : b ≤ a → X g y tgt L S M k n Q) (k2 : a < b → X g y (pc + 3) L S M k n Q) : X g y pc L (.int (iI b) :: .int (iI a) :: S) M k n Q := x_icmp_ge tgt hd ht (fun h => k1 ((iI_le hb ha).mp h)) (fun h => k2 (Int.not_le.mp (fun z => h ((iI_le hb ha).mpr z))))
theorem y_icmp_gt {off : Int} {a b : Int} (tgt : Nat) (hd : decode y.2.1 pc = .ok (.if_icmp .gt off, 3)) (ht : (pc : Int) + off = (tgt : Int)) (ha : R32 a) (hb : R32 b) (k1 : b < a → X g y tgt L S M k n Q) (k2 : a ≤ b → X g y (pc + 3) L S M k n Q) : X g y pc L (.int (iI b) :: .int (iI a) :: S) M k n Q := x_icmp_gt tgt hd ht (fun h => k1 ((iI_lt hb ha).mp h)) (fun h => k2 (Int.not_lt.mp (fun z => h ((iI_lt hb ha).mpr z))))
theorem y_icmp_le {off : Int} {a b : Int} (tgt : Nat) (hd : decode y.2.1 pc = .ok (.if_icmp .le off, 3)) (ht : (pc : Int) + off = (tgt : Int)) (ha : R32 a) (hb : R32 b) (k1 : a ≤ b → X g y tgt L S M k n Q) (k2 : b < a → X g y (pc + 3) L S M k n Q) : X g y pc L (.int (iI b) :: .int (iI a) :: S) M k n Q := x_icmp_le tgt hd ht (fun h => k1 ((iI_le ha hb).mp h)) (fun h => k2 (Int.not_le.mp (fun z => h ((iI_le ha hb).mpr z))))
theorem y_icmp_ne {off : Int} {a b : Int} (tgt : Nat) (hd : decode y.2.1 pc = .ok (.if_icmp .ne off, 3)) (ht : (pc : Int) + off = (tgt : Int)) (ha : R32 a) (hb : R32 b) (k1 : ¬ a = b → X g y tgt L S M k n Q) (k2 : a = b → X g y (pc + 3) L S M k n Q) : X g y pc L (.int (iI b) :: .int (iI a) :: S) M k n Q := x_icmp_ne tgt hd ht (fun h => k1 (fun z => h ((iI_eq ha hb).mpr z))) (fun h => k2 ((iI_eq ha hb).mp h))
theorem y_ifb_eq {off : Int} {b : Bool} (tgt : Nat) (hd : decode y.2.1 pc = .ok (.ifCond .eq off, 3)) (ht : (pc : Int) + off = (tgt : Int)) (k1 : b = false → X g y tgt L S M k n Q) (k2 : b = true → X g y (pc + 3) L S M k n Q) : X g y pc L (.int (iI (bI b)) :: S) M k n Q := y_if_eq tgt hd ht (bI_r b) (fun h => k1 (bI_0.mp h)) (fun h => k2 (bI_n0.mp h))
theorem y_ifb_ne {off : Int} {b : Bool} (tgt : Nat) (hd : decode y.2.1 pc = .ok (.ifCond .ne off, 3)) (ht : (pc : Int) + off = (tgt : Int)) (k1 : b = true → X g y tgt L S M k n Q) (k2 : b = false → X g y (pc + 3) L S M k n Q) : X g y pc L (.int (iI (bI b)) :: S) M k n Q := y_if_ne tgt hd ht (bI_r b) (fun h => k1 (bI_n0.mp h)) (fun h => k2 (bI_0.mp h))
theorem ix_nat {x : Int} {p : Nat} (h : x = (p : Int)) : iI x = nI p := by rw [h]; exact iI_nat p
theorem y_gi {i ci kf a z : Nat} (hd : decode y.2.1 pc = .ok (.getfield i, 3)) (hF : GF y.1.cls i ci kf) (hT : T a = (10 + ci, z)) (hv : ∀ x r j, fvl (tyC ci kf) x r j = .int x) (kk : X g y (pc + 3) L (.int (iI (V a kf)) :: S) (T, iV V, R, J, sz) k n Q) : X g y pc L (.ref a :: S) (T, iV V, R, J, sz) k n Q := x_gi hd hF hT hv kk
theorem y_pi {i ci kf a z : Nat} {v : Int} (hd : decode y.2.1 pc = .ok (.putfield i, 3)) (hF : PF y i ci kf) (hT : T a = (10 + ci, z)) (hv : ∀ x r j, fvl (tyC ci kf) x r j = .int x) (hn : narrow (tyC ci kf) (.int (iI v)) = .int (iI v)) (hfit : fits (tyC ci kf) (.int (iI v)) = true) (kk : X g y (pc + 3) L S (T, iV (u2 V a kf v), R, J, sz) k n Q) : X g y pc L (.int (iI v) :: .ref a :: S) (T, iV V, R, J, sz) k n Q := x_pi hd hF hT hv hn hfit (by rw [iV_u2]; exact kk)
theorem y_iald {a N : Nat} {x : Int} (p : Nat) (hd : decode y.2.1 pc = .ok (.iaload, 1)) (hT : T a = (1, N)) (hx : x = (p : Int)) (hp : p < N) (hN : N < 2 ^ 31) (kk : X g y (pc + 1) L (.int (iI (V a p)) :: S) (T, iV V, R, J, sz) k n Q) : X g y pc L (.int (iI x) :: .ref a :: S) (T, iV V, R, J, sz) k n Q := x_iald hd hT (ix_nat hx) hp hN kk
theorem y_bald {a N : Nat} {x : Int} (p : Nat) (hd : decode y.2.1 pc = .ok (.baload, 1)) (hT : T a = (2, N)) (hx : x = (p : Int)) (hp : p < N) (hN : N < 2 ^ 31) (kk : X g y (pc + 1) L (.int (iI (V a p)) :: S) (T, iV V, R, J, sz) k n Q) : X g y pc L (.int (iI x) :: .ref a :: S) (T, iV V, R, J, sz) k n Q := x_bald hd hT (ix_nat hx) hp hN kk
theorem y_zald {a N : Nat} {x : Int} (p : Nat) (hd : decode y.2.1 pc = .ok (.baload, 1)) (hT : T a = (3, N)) (hx : x = (p : Int)) (hp : p < N) (hN : N < 2 ^ 31) (kk : X g y (pc + 1) L (.int (iI (V a p)) :: S) (T, iV V, R, J, sz) k n Q) : X g y pc L (.int (iI x) :: .ref a :: S) (T, iV V, R, J, sz) k n Q := x_zald hd hT (ix_nat hx) hp hN kk
theorem y_aald {a N b t : Nat} {x : Int} (p : Nat) (hd : decode y.2.1 pc = .ok (.aaload, 1)) (hT : T a = (t, N)) (ht : t = 5 ∨ t = 6) (hx : x = (p : Int)) (hp : p < N) (hN : N < 2 ^ 31) (hR : R a p = some b) (kk : X g y (pc + 1) L (.ref b :: S) (T, iV V, R, J, sz) k n Q) : X g y pc L (.int (iI x) :: .ref a :: S) (T, iV V, R, J, sz) k n Q := x_aald hd hT ht (ix_nat hx) hp hN hR kk
theorem y_lald {a N : Nat} {x : Int} (p : Nat) (hd : decode y.2.1 pc = .ok (.laload, 1)) (hT : T a = (4, N)) (hx : x = (p : Int)) (hp : p < N) (hN : N < 2 ^ 31) (kk : X g y (pc + 1) L (.long (J a p) :: S) (T, iV V, R, J, sz) k n Q) : X g y pc L (.int (iI x) :: .ref a :: S) (T, iV V, R, J, sz) k n Q := x_lald hd hT (ix_nat hx) hp hN kk
theorem y_iast {a N : Nat} {x v : Int} (p : Nat) (hd : decode y.2.1 pc = .ok (.iastore, 1)) (hT : T a = (1, N)) (hx : x = (p : Int)) (hp : p < N) (hN : N < 2 ^ 31) (kk : X g y (pc + 1) L S (T, iV (u2 V a p v), R, J, sz) k n Q) : X g y pc L (.int (iI v) :: .int (iI x) :: .ref a :: S) (T, iV V, R, J, sz) k n Q := x_iast hd hT (ix_nat hx) hp hN (by rw [iV_u2]; exact kk)
theorem y_zast {a N : Nat} {x v : Int} (p : Nat) (hd : decode y.2.1 pc = .ok (.bastore, 1)) (hT : T a = (3, N)) (hx : x = (p : Int)) (hp : p < N) (hN : N < 2 ^ 31) (hv : narrow .boolean (.int (iI v)) = .int (iI v)) (kk : X g y (pc + 1) L S (T, iV (u2 V a p v), R, J, sz) k n Q) : X g y pc L (.int (iI v) :: .int (iI x) :: .ref a :: S) (T, iV V, R, J, sz) k n Q := x_zast hd hT (ix_nat hx) hp hN hv (by rw [iV_u2]; exact kk)
theorem y_last {a N : Nat} {x : Int} {v : Int64} (p : Nat) (hd : decode y.2.1 pc = .ok (.lastore, 1)) (hT : T a = (4, N)) (hx : x = (p : Int)) (hp : p < N) (hN : N < 2 ^ 31) (kk : X g y (pc + 1) L S (T, iV V, R, u2 J a p v, sz) k n Q) : X g y pc L (.long v :: .int (iI x) :: .ref a :: S) (T, iV V, R, J, sz) k n Q := x_last hd hT (ix_nat hx) hp hN kk
end YI
-- bits: a set of small numbers is a Nat
def andn (a d : Nat) : Nat := a ^^^ (a &&& d)
theorem andn_bit (a d i : Nat) : (andn a d).testBit i = (a.testBit i && !d.testBit i) := by
  rw [andn, Nat.testBit_xor, Nat.testBit_and]
  cases a.testBit i <;> cases d.testBit i <;> rfl
theorem andn_le (a d : Nat) : andn a d ≤ a := by
  have h : andn a d = a &&& andn a d := by
    apply Nat.eq_of_testBit_eq
    intro i
    rw [Nat.testBit_and, andn_bit]
    cases a.testBit i <;> cases d.testBit i <;> rfl
  rw [h]
  exact Nat.and_le_left
theorem tbv_nat (n : Nat) : (iI (n : Int)).toBitVec = BitVec.ofNat 32 n := by rw [iI_nat]; rfl
theorem iI_and (a b : Nat) : iI (a : Int) &&& iI (b : Int) = iI ((a &&& b : Nat) : Int) := by
  apply Int32.toBitVec.inj
  rw [Int32.toBitVec_and, tbv_nat, tbv_nat, tbv_nat]
  apply BitVec.eq_of_getLsbD_eq
  intro i hi
  simp [BitVec.getLsbD_and, BitVec.getLsbD_ofNat, hi, Nat.testBit_and]
theorem iI_or (a b : Nat) : iI (a : Int) ||| iI (b : Int) = iI ((a ||| b : Nat) : Int) := by
  apply Int32.toBitVec.inj
  rw [Int32.toBitVec_or, tbv_nat, tbv_nat, tbv_nat]
  apply BitVec.eq_of_getLsbD_eq
  intro i hi
  simp [BitVec.getLsbD_or, BitVec.getLsbD_ofNat, hi, Nat.testBit_or]
theorem iI_andn (a d : Nat) : iI (a : Int) &&& (iI (d : Int) ^^^ iI (-1)) = iI ((andn a d : Nat) : Int) := by
  apply Int32.toBitVec.inj
  have h1 : (iI (-1)).toBitVec = BitVec.allOnes 32 := by decide
  rw [Int32.toBitVec_and, Int32.toBitVec_xor, h1, tbv_nat, tbv_nat, tbv_nat]
  apply BitVec.eq_of_getLsbD_eq
  intro i hi
  rw [BitVec.getLsbD_and, BitVec.getLsbD_xor, BitVec.getLsbD_ofNat, BitVec.getLsbD_ofNat, BitVec.getLsbD_allOnes, BitVec.getLsbD_ofNat, andn_bit, decide_eq_true hi]
  cases a.testBit i <;> cases d.testBit i <;> rfl
theorem sh_amt : ∀ p, p < 31 → ((nI p &&& 31).toBitVec.smod 32).toNat = p := by decide +kernel
theorem iI_shr {b p : Nat} (hb : b < 2 ^ 31) (hp : p < 31) : iI (b : Int) >>> (iI (p : Int) &&& 31) = iI ((b >>> p : Nat) : Int) := by
  rw [iI_nat, iI_nat, iI_nat, pk_shrN hb _ p (sh_amt p hp), Nat.shiftRight_eq_div_pow]
theorem iI_shl {p : Nat} (hp : p < 31) : iI 1 <<< (iI (p : Int) &&& 31) = iI ((2 ^ p : Nat) : Int) := by
  have h : iI 1 = nI 1 := rfl
  rw [h, iI_nat, iI_nat, pk_shlN _ p (sh_amt p hp) (by rw [Nat.one_mul]; exact Nat.pow_lt_pow_right (by decide) (by omega)), Nat.one_mul]
theorem bit_and1 (n : Nat) (p : Nat) : ((n >>> p &&& 1 : Nat) : Int) = bI (n.testBit p) := by
  rw [Nat.and_one_is_mod]
  have h : n.testBit p = decide (n >>> p % 2 = 1) := by
    rw [Nat.testBit_eq_decide_div_mod_eq, Nat.shiftRight_eq_div_pow]
  rw [h]
  rcases Nat.mod_two_eq_zero_or_one (n >>> p) with h2 | h2 <;> rw [h2] <;> rfl
section YB
variable {g : GG} {y : MD} {pc : Nat} {L L' S : List Value} {k n : Nat} {Q : Option Value → Mem → Prop} {M : Mem}
/-- (b >> p) & 1 -/
theorem y_bit {b : Nat} {x : Int} (p : Nat) (h1 : decode y.2.1 pc = .ok (.ishr, 1)) (h2 : decode y.2.1 (pc + 1) = .ok (.iconst 1, 1)) (h3 : decode y.2.1 (pc + 2) = .ok (.iand, 1)) (hx : x = (p : Int)) (hp : p < 31) (hb : b < 2 ^ 31) (kk : X g y (pc + 3) L (.int (iI (bI (b.testBit p))) :: S) M k n Q) : X g y pc L (.int (iI x) :: .int (iI (b : Int)) :: S) M k n Q := by
  subst hx
  refine x_ishr h1 ?_
  rw [iI_shr hb hp]
  refine y_iconst h2 ?_
  refine x_iand h3 ?_
  have e : iI ((b >>> p : Nat) : Int) &&& iI 1 = iI (bI (b.testBit p)) := (iI_and (b >>> p) 1).trans (by rw [bit_and1])
  rw [e]
  exact kk
/-- a & ~d -/
theorem y_andn {a d : Nat} (h1 : decode y.2.1 pc = .ok (.iconst (-1), 1)) (h2 : decode y.2.1 (pc + 1) = .ok (.ixor, 1)) (h3 : decode y.2.1 (pc + 2) = .ok (.iand, 1)) (kk : X g y (pc + 3) L (.int (iI ((andn a d : Nat) : Int)) :: S) M k n Q) : X g y pc L (.int (iI (d : Int)) :: .int (iI (a : Int)) :: S) M k n Q := by
  refine y_iconst h1 ?_
  refine x_ixor h2 ?_
  refine x_iand h3 ?_
  rw [iI_andn]
  exact kk
theorem y_iand {a b : Nat} (hd : decode y.2.1 pc = .ok (.iand, 1)) (kk : X g y (pc + 1) L (.int (iI ((a &&& b : Nat) : Int)) :: S) M k n Q) : X g y pc L (.int (iI (b : Int)) :: .int (iI (a : Int)) :: S) M k n Q := x_iand hd (by rw [iI_and]; exact kk)
theorem y_ior {a b : Nat} (hd : decode y.2.1 pc = .ok (.ior, 1)) (kk : X g y (pc + 1) L (.int (iI ((a ||| b : Nat) : Int)) :: S) M k n Q) : X g y pc L (.int (iI (b : Int)) :: .int (iI (a : Int)) :: S) M k n Q := x_ior hd (by rw [iI_or]; exact kk)
theorem y_ishl {x : Int} (p : Nat) (hd : decode y.2.1 pc = .ok (.ishl, 1)) (hx : x = (p : Int)) (hp : p < 31) (kk : X g y (pc + 1) L (.int (iI ((2 ^ p : Nat) : Int)) :: S) M k n Q) : X g y pc L (.int (iI x) :: .int (iI 1) :: S) M k n Q := by
  subst hx
  exact x_ishl hd (by rw [iI_shl hp]; exact kk)
end YB
