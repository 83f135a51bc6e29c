/-! ===== Reader.putBytes ===== -/
/-- the byte of w that a shift by s brings down -/
def byI (w : Int32) (s : Int) : Int := (((w.toUInt32 >>> ((iI s).toUInt32 &&& Int32.toUInt32 31)).toInt32.toInt8.toInt32).toInt8.toInt32).toInt
theorem byI_b (w : Int32) (s : Int) : -128 ≤ byI w s ∧ byI w s ≤ 127 := by
  unfold byI
  rw [Int8.toInt_toInt32]
  generalize ((w.toUInt32 >>> ((iI s).toUInt32 &&& Int32.toUInt32 31)).toInt32.toInt8.toInt32).toInt8 = x
  exact ⟨Int8.le_toInt x, by have := Int8.toInt_lt x; omega⟩
/-- four bytes of w from p on -/
def pu4 (t : Nat → Int) (p : Nat) (w : Int32) : Nat → Int := u1 (u1 (u1 (u1 t p (byI w 24)) (p + 1) (byI w 16)) (p + 2) (byI w 8)) (p + 3) (byI w 0)
section C56
variable {g : GG} {T : Nat → Nat × Nat} {V A : Nat → Nat → Int} {R : Nat → Nat → Option Nat} {J : Nat → Nat → Int64} {z k n : Nat} {rd tx : Nat}
theorem put1 {w : Int32} {s s' : Int} {p p' : Nat} {Q : Option Value → Mem → Prop} (hS : DS T R rd tx) (hp : V rd 4 = (p : Int)) (h : p < 1100) (hs : 0 ≤ s ∧ s ≤ 24) (es : s' = s + -8) (ep : p' = p + 1) (kk : X g mX6_putBytes 3 [.ref rd, .int w, .int (iI s')] [] (T, iV (u2 (u2 V tx p (byI w s)) rd 4 (p' : Int)), R, J, z) k n Q) : X g mX6_putBytes 3 [.ref rd, .int w, .int (iI s)] [] (T, iV V, R, J, z) k n Q := by
  have hne := DS_ne hS
  obtain ⟨s0, s1, s2⟩ := hS
  subst es ep
  have ec : (p : Int) + 1 = ((p + 1 : Nat) : Int) := by omega
  refine x_iload_n dX6_putBytes_3 rfl ?_
  refine (show X _ _ 4 _ _ _ _ _ _ from ?_)
  refine y_if_lt 46 dX6_putBytes_4 (by decide) ⟨by omega, by omega⟩ (fun h1 => ?_) (fun h1 => ?_)
  · omega
  refine x_aload_n dX6_putBytes_7 rfl ?_
  refine y_gi dX6_putBytes_8 fX6_29 (by first | assumption) (fun _ _ _ => rfl) ?_
  refine (show X _ _ 11 _ _ _ _ _ _ from ?_)
  refine X.val hp ?_
  refine y_sipush dX6_putBytes_11 rfl ?_
  refine (show X _ _ 14 _ _ _ _ _ _ from ?_)
  refine y_icmp_ge 46 dX6_putBytes_14 (by decide) ⟨by omega, by omega⟩ ⟨by omega, by omega⟩ (fun h2 => ?_) (fun h2 => ?_)
  · omega
  refine x_aload_n dX6_putBytes_17 rfl ?_
  refine x_gr dX6_putBytes_18 fX6_25 (by first | assumption) (fun _ _ _ => rfl) (by first | assumption) ?_
  refine x_aload_n dX6_putBytes_21 rfl ?_
  refine y_gi dX6_putBytes_22 fX6_29 (by first | assumption) (fun _ _ _ => rfl) ?_
  refine (show X _ _ 25 _ _ _ _ _ _ from ?_)
  refine X.val hp ?_
  refine x_iload_n dX6_putBytes_25 rfl ?_
  refine x_iload_n dX6_putBytes_26 rfl ?_
  refine x_iushr dX6_putBytes_27 ?_
  refine x_i2b dX6_putBytes_28 ?_
  refine (show X _ _ 29 _ _ _ _ _ _ from ?_)
  refine x_bast dX6_putBytes_29 s2 (ix_nat rfl) h (by decide) ?_
  have eb : (((w.toUInt32 >>> ((iI s).toUInt32 &&& Int32.toUInt32 31)).toInt32.toInt8.toInt32).toInt8.toInt32) = iI (byI w s) := (iI_of _).symm
  rw [eb, iV_u2]
  refine (show X _ _ 30 _ _ _ _ _ _ from ?_)
  refine x_aload_n dX6_putBytes_30 rfl ?_
  refine x_dup dX6_putBytes_31 rfl ?_
  refine y_gi dX6_putBytes_32 fX6_29 (by first | assumption) (fun _ _ _ => rfl) ?_
  refine (show X _ _ 35 _ _ _ _ _ _ from ?_)
  refine X.val (b := (p : Int)) (by rw [u2_n hne.symm]; exact hp) ?_
  refine y_iconst dX6_putBytes_35 ?_
  refine y_iadd dX6_putBytes_36 ?_
  refine (show X _ _ 37 _ _ _ _ _ _ from ?_)
  rw [ec]
  refine y_pi dX6_putBytes_37 (pX6_29 _) (by first | assumption) (fun _ _ _ => rfl) rfl rfl ?_
  refine y_iinc dX6_putBytes_40 rfl (by decide) rfl rfl ?_
  refine x_goto 3 dX6_putBytes_43 (by decide) ?_
  refine (show X _ _ 3 _ _ _ _ _ _ from ?_)
  exact kk
theorem c_putBytes {w : Int32} {p : Nat} (hS : DS T R rd tx) (hp : V rd 4 = (p : Int)) (h : p + 4 ≤ 1100) : X g mX6_putBytes 0 [.ref rd, .int w, jk] [] (T, iV V, R, J, z) k n (fun v M => v = none ∧ ∃ V' : Nat → Nat → Int, M = (T, iV V', R, J, z) ∧ V' tx = pu4 (V tx) p w ∧ V' rd 4 = ((p + 4 : Nat) : Int) ∧ (∀ b, b ≠ rd → b ≠ tx → V' b = V b) ∧ ∀ c, c ≠ 4 → V' rd c = V rd c) := by
  have hne := DS_ne hS
  have h0 := hS
  obtain ⟨s0, s1, s2⟩ := hS
  refine y_bipush dX6_putBytes_0 rfl ?_
  refine x_istore_n dX6_putBytes_2 (by decide) rfl rfl ?_
  refine (show X _ _ 3 _ _ _ _ _ _ from ?_)
  refine put1 (s := 24) (s' := 16) (p := p) (p' := p + 1) h0 hp (by omega) ⟨by decide, by decide⟩ rfl rfl ?_
  refine put1 (s := 16) (s' := 8) (p := p + 1) (p' := p + 2) h0 (by rw [u2_s, u1_s]) (by omega) ⟨by decide, by decide⟩ rfl rfl ?_
  refine put1 (s := 8) (s' := 0) (p := p + 2) (p' := p + 3) h0 (by rw [u2_s, u1_s]) (by omega) ⟨by decide, by decide⟩ rfl rfl ?_
  refine put1 (s := 0) (s' := -8) (p := p + 3) (p' := p + 4) h0 (by rw [u2_s, u1_s]) (by omega) ⟨by decide, by decide⟩ rfl rfl ?_
  refine x_iload_n dX6_putBytes_3 rfl ?_
  refine (show X _ _ 4 _ _ _ _ _ _ from ?_)
  refine y_if_lt 46 dX6_putBytes_4 (by decide) ⟨by omega, by omega⟩ (fun h1 => ?_) (fun h1 => ?_)
  rotate_left
  · omega
  refine x_return dX6_putBytes_46 rfl ⟨rfl, _, rfl, ?_, ?_, ?_, ?_⟩
  · unfold pu4
    rw [u2_n hne, u2_s, u2_n hne, u2_s, u2_n hne, u2_s, u2_n hne, u2_s]
  · rw [u2_s, u1_s]
  · intro b h1 h2
    rw [u2_n h1, u2_n h2, u2_n h1, u2_n h2, u2_n h1, u2_n h2, u2_n h1, u2_n h2]
  · intro c hc
    rw [u2_s, u1_n hc, u2_n hne.symm, u2_s, u1_n hc, u2_n hne.symm, u2_s, u1_n hc, u2_n hne.symm, u2_s, u1_n hc, u2_n hne.symm]
end C56
