/-! ===== what constructors make ===== -/
theorem iV_u1 (V : Nat → Nat → Int) (a : Nat) : u1 (iV V) a (fun _ => (0 : Int32)) = iV (u1 V a (fun _ => 0)) := by
  funext b j
  by_cases h : b = a
  · subst h; show _ = iI (u1 V b (fun _ => 0) b j); rw [u1_s, u1_s]; rfl
  · show _ = iI (u1 V a (fun _ => 0) b j); rw [u1_n h, u1_n h]
theorem iV_mR (V : Nat → Nat → Int) (a N : Nat) : mR (iV V) (0 : Int32) a N = iV (mR V 0 a N) := by
  funext b j
  show _ = iI (mR V 0 a N b j)
  unfold mR
  split <;> rfl
section YM
variable {g : GG} {y : MD} {pc : Nat} {L L' S : List Value} {k n : Nat} {Q : Option Value → Mem → Prop} {T : Nat → Nat × Nat} {V : Nat → Nat → Int} {R : Nat → Nat → Option Nat} {J : Nat → Nat → Int64} {sz : Nat}
theorem y_new {i ci : Nat} {q : vw_C} (hd : decode y.2.1 pc = .ok (.new i, 3)) (hq : vwCl[ci]? = some q) (h1 : Cond.classLink y.1.cls i q.1 ∈ tb) (h2 : Cond.instantiable q.1 q.2.2 ∈ tb) (h3 : Cond.initialized q.1 ∈ tb) (hdf : ∀ j, j < q.2.2 → defaultValue (tyC ci j) = fvl (tyC ci j) 0 none 0)
    (kk : X g y (pc + 3) L (.ref sz :: S) (u1 T sz (10 + ci, 0), iV (u1 V sz (fun _ => 0)), u1 R sz (fun _ => none), u1 J sz (fun _ => 0), sz + 1) k n Q) : X g y pc L S (T, iV V, R, J, sz) (k + 1) (n + q.2.2) Q := x_new hd hq h1 h2 h3 hdf (by rw [iV_u1]; exact kk)
theorem y_newa {atype : ArrayType} {t N : Nat} {x : Int} (hd : decode y.2.1 pc = .ok (.newarray atype, 2)) (ht : newarray.typeOf atype = aTy t) (h1 : 1 ≤ t) (h2 : t ≤ 4) (hw : Cond.arrayClass (newarray.typeOf atype) ∈ tb) (hx : x = (N : Int)) (hN : N ≤ 2000)
    (kk : X g y (pc + 2) L (.ref sz :: S) (u1 T sz (t, N), iV (u1 V sz (fun _ => 0)), u1 R sz (fun _ => none), u1 J sz (fun _ => 0), sz + 1) k n Q) : X g y pc L (.int (iI x) :: S) (T, iV V, R, J, sz) (k + 1) (n + N) Q := x_newa hd ht h1 h2 hw (ix_nat hx) hN (by rw [iV_u1]; exact kk)
theorem y_newq {i N : Nat} {x : Int} (hd : decode y.2.1 pc = .ok (.anewarray i, 3)) (hw : Cond.classLink y.1.cls i "ElderTurn$Now" ∈ tb) (hx : x = (N : Int)) (hN : N ≤ 2000)
    (kk : X g y (pc + 3) L (.ref sz :: S) (u1 T sz (6, N), iV (u1 V sz (fun _ => 0)), u1 R sz (fun _ => none), u1 J sz (fun _ => 0), sz + 1) k n Q) : X g y pc L (.int (iI x) :: S) (T, iV V, R, J, sz) (k + 1) (n + N) Q := x_newq hd hw (ix_nat hx) hN (by rw [iV_u1]; exact kk)
theorem y_mna {i N K : Nat} {x w : Int} (hd : decode y.2.1 pc = .ok (.multianewarray i 2, 4)) (hw : Cond.classLink y.1.cls i "[[I" ∈ tb) (hw2 : Cond.arrayClass .int ∈ tb) (hv : x = (N : Int)) (hw3 : w = (K : Int)) (hN : N ≤ 2000) (hK : K ≤ 2000)
    (kk : X g y (pc + 4) L (.ref sz :: S) (mT T sz N K, iV (mR V 0 sz N), mQ R sz N, mR J 0 sz N, sz + 1 + N) k n Q) : X g y pc L (.int (iI w) :: .int (iI x) :: S) (T, iV V, R, J, sz) (k + (1 + N)) (n + (N + N * K)) Q := x_mna hd hw hw2 (ix_nat hv) (ix_nat hw3) hN hK (by rw [iV_mR]; exact kk)
end YM
/-- what was there ahead of r is as it was -/
def KP (T : Nat → Nat × Nat) (V : Nat → Nat → Int) (R : Nat → Nat → Option Nat) (J : Nat → Nat → Int64) (T' : Nat → Nat × Nat) (V' : Nat → Nat → Int) (R' : Nat → Nat → Option Nat) (J' : Nat → Nat → Int64) (r : Nat) : Prop := ∀ b, b < r → T' b = T b ∧ V' b = V b ∧ R' b = R b ∧ J' b = J b
/-- m cells from r on are made, all 0 but in r itself -/
def MKQ (T : Nat → Nat × Nat) (V : Nat → Nat → Int) (R : Nat → Nat → Option Nat) (J : Nat → Nat → Int64) (r m : Nat) (P : (Nat → Nat × Nat) → (Nat → Nat → Int) → (Nat → Nat → Option Nat) → Prop) : Option Value → Mem → Prop := fun v M => v = none ∧ ∃ (T' : Nat → Nat × Nat) (V' : Nat → Nat → Int) (R' : Nat → Nat → Option Nat) (J' : Nat → Nat → Int64), M = (T', iV V', R', J', r + m) ∧ KP T V R J T' V' R' J' r ∧ P T' V' R'
section C57
variable {g : GG} {T : Nat → Nat × Nat} {V : Nat → Nat → Int} {R : Nat → Nat → Option Nat} {J : Nat → Nat → Int64} {r w k n : Nat}
theorem i_Now (hT : T r = (14, 0)) : X g mX4_init 0 [.ref r] [] (T, iV V, R, J, r + 1) 2 42 (MKQ T V R J r 3 (fun T' V' R' => NS T' R' r ∧ (∀ c, c < 3 → V' r c = 0) ∧ ∀ b, r < b → b < r + 3 → V' b = fun _ => 0)) := by
  refine x_aload_n dX4_init_0 rfl ?_
  refine x_objInit dX4_init_1 lX4_3 objI objC (by decide) (Nat.le_of_ble_eq_true rfl) ?_
  refine x_aload_n dX4_init_4 rfl ?_
  refine y_iconst dX4_init_5 ?_
  refine y_pi dX4_init_6 (pX4_9 _) (by first | assumption | (simp (discharger := omega) only [u1_s, u1_n, u2_s, u2_n]; first | assumption | rfl)) (fun _ _ _ => rfl) rfl rfl ?_
  refine x_aload_n dX4_init_9 rfl ?_
  refine y_iconst dX4_init_10 ?_
  refine y_pi dX4_init_11 (pX4_15 _) (by first | assumption | (simp (discharger := omega) only [u1_s, u1_n, u2_s, u2_n]; first | assumption | rfl)) (fun _ _ _ => rfl) rfl rfl ?_
  refine (show X _ _ 14 _ _ _ _ _ _ from ?_)
  refine x_aload_n dX4_init_14 rfl ?_
  refine y_iconst dX4_init_15 ?_
  refine y_pi dX4_init_16 (pX4_18 _) (by first | assumption | (simp (discharger := omega) only [u1_s, u1_n, u2_s, u2_n]; first | assumption | rfl)) (fun _ _ _ => rfl) rfl rfl ?_
  refine x_aload_n dX4_init_19 rfl ?_
  refine y_bipush dX4_init_20 rfl ?_
  refine y_newa (t := 1) (N := (10)) dX4_init_22 rfl (by decide) (by decide) acI rfl (by decide) ?_
  refine (show X _ _ 24 _ _ _ _ _ _ from ?_)
  refine x_pr dX4_init_24 pX4_init_21 (by first | assumption | (simp (discharger := omega) only [u1_s, u1_n, u2_s, u2_n]; first | assumption | rfl)) (fun _ _ _ => rfl) rfl rfl ?_
  refine x_aload_n dX4_init_27 rfl ?_
  refine y_bipush dX4_init_28 rfl ?_
  refine y_newa (t := 1) (N := (32)) dX4_init_30 rfl (by decide) (by decide) acI rfl (by decide) ?_
  refine x_pr dX4_init_32 pX4_init_25 (by first | assumption | (simp (discharger := omega) only [u1_s, u1_n, u2_s, u2_n]; first | assumption | rfl)) (fun _ _ _ => rfl) rfl rfl ?_
  refine (show X _ _ 35 _ _ _ _ _ _ from ?_)
  refine x_return dX4_init_35 rfl ⟨rfl, _, _, _, _, rfl, fun b hb => ⟨?_, ?_, ?_, ?_⟩, ⟨?_, ?_, ?_, ?_, ?_⟩, fun c hc => ?_, fun b h1 h2 => ?_⟩
  · simp (discharger := omega) only [u1_n]
  · simp (discharger := omega) only [u1_n, u2_n]
  · simp (discharger := omega) only [u1_n, u2_n]
  · simp (discharger := omega) only [u1_n]
  · simp (discharger := omega) only [u1_n]; exact hT
  · simp (discharger := omega) only [u1_s, u1_n, u2_s, u2_n]
  · simp (discharger := omega) only [u1_s, u1_n, u2_s, u2_n]
  · simp (discharger := omega) only [u1_s, u1_n]
  · simp (discharger := omega) only [u1_s, u1_n]
  · rcases (by omega : c = 0 ∨ c = 1 ∨ c = 2) with rfl | rfl | rfl <;> simp (discharger := omega) only [u1_s, u1_n, u2_s, u2_n]
  · rcases (by omega : b = r + 1 ∨ b = r + 1 + 1) with rfl | rfl <;> simp (discharger := omega) only [u1_s, u1_n, u2_n]
end C57
