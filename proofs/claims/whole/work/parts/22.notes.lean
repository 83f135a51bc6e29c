/-! ===== what each one knows, and what lies in the box ===== -/
def OS (T : Nat → Nat × Nat) (R : Nat → Nat → Option Nat) (o w : Nat) : Prop := (T o = (13, 0) ∧ R o 0 = some w) ∧ (R o 2 = some (o + 1) ∧ R o 3 = some (o + 2)) ∧ (T (o + 1) = (1, 10) ∧ T (o + 2) = (1, 8))
def NOk (N : Nat → Nat → Int) : Prop := (0 ≤ N 0 1 ∧ N 0 1 < 256) ∧ (∀ p, p < 10 → 0 ≤ N 1 p ∧ N 1 p < 256) ∧ (∀ s, s < 8 → 0 ≤ N 2 s ∧ N 2 s < 1024)
section Notes
variable (A : Nat → Nat → Int)
def nB1 (p : Nat) (N : Nat → Nat → Int) : Nat → Nat → Int := u2 N 1 p 0
def nB2 (s : Nat) (N : Nat → Nat → Int) : Nat → Nat → Int := u2 N 1 (A 16 s).toNat (((N 1 (A 16 s).toNat).toNat ||| 2 ^ s : Nat) : Int)
def nBeg (N : Nat → Nat → Int) : Nat → Nat → Int := lp (fSe A) (nB2 A) (lp 10 nB1 (u2 N 0 1 0))
def nRd (who s : Nat) (N : Nat → Nat → Int) : Nat → Nat → Int := if (N 0 1).toNat.testBit s = true ∧ (N 2 s).toNat.testBit who = false then u2 N 1 who (((N 1 who).toNat ||| 2 ^ s : Nat) : Int) else N
def nWr (who s : Nat) (N : Nat → Nat → Int) : Nat → Nat → Int := if (N 1 who).toNat.testBit s = true then u2 N 2 s (if (N 0 1).toNat.testBit s = true then (((N 2 s).toNat &&& (A 17 (8 * who + s)).toNat : Nat) : Int) else A 17 (8 * who + s)) else N
def nRead (who : Nat) (N : Nat → Nat → Int) : Nat → Nat → Int := lp (fSe A) (nRd who) N
def nWrite1 (who : Nat) (N : Nat → Nat → Int) : Nat → Nat → Int := lp (fSe A) (nWr A who) N
def nWrite (who : Nat) (N : Nat → Nat → Int) : Nat → Nat → Int := u2 (nWrite1 A who N) 0 1 ((((nWrite1 A who N) 0 1).toNat ||| ((nWrite1 A who N) 1 who).toNat : Nat) : Int)
def nTurn (who : Nat) (dies : Bool) (N : Nat → Nat → Int) : Nat → Nat → Int := if dies then nRead A who N else nWrite A who (nRead A who N)
end Notes
section NotesS
variable {A N : Nat → Nat → Int}
theorem or256 {a b : Nat} (h : a < 256) (h2 : b < 256) : a ||| b < 256 := Nat.or_lt_two_pow (n := 8) h h2
theorem p256 {s : Nat} (h : s < 8) : 2 ^ s < 256 := by
  show 2 ^ s < 2 ^ 8
  exact Nat.pow_lt_pow_right (by decide) h
theorem NOk.u1p {p : Nat} {v : Int} (h : NOk N) (hv : 0 ≤ v ∧ v < 256) : NOk (u2 N 1 p v) := by
  refine ⟨h.1, fun q hq => ?_, h.2.2⟩
  show 0 ≤ u1 (N 1) p v q ∧ u1 (N 1) p v q < 256
  by_cases e : q = p
  · subst e; rw [u1_s]; exact hv
  · rw [u1_n e]; exact h.2.1 q hq
theorem NOk.u2s {s : Nat} {v : Int} (h : NOk N) (hv : 0 ≤ v ∧ v < 1024) : NOk (u2 N 2 s v) := by
  refine ⟨h.1, h.2.1, fun q hq => ?_⟩
  show 0 ≤ u1 (N 2) s v q ∧ u1 (N 2) s v q < 1024
  by_cases e : q = s
  · subst e; rw [u1_s]; exact hv
  · rw [u1_n e]; exact h.2.2 q hq
theorem NOk.u0 {v : Int} (h : NOk N) (hv : 0 ≤ v ∧ v < 256) : NOk (u2 N 0 1 v) := ⟨hv, h.2.1, h.2.2⟩
theorem orI {N : Nat → Nat → Int} {p s : Nat} (h : NOk N) (hp : p < 10) (hs : s < 8) : (0 : Int) ≤ (((N 1 p).toNat ||| 2 ^ s : Nat) : Int) ∧ (((N 1 p).toNat ||| 2 ^ s : Nat) : Int) < 256 := by
  have h1 := h.2.1 p hp
  have := or256 (a := (N 1 p).toNat) (b := 2 ^ s) (by omega) (p256 hs)
  omega
theorem fS8 (hA : VA A) : ((fSe A : Nat) : Int) = A 0 6 ∧ fSe A ≤ 8 := ⟨Int.toNat_of_nonneg hA.2.2.2.2.2.2.1.1, by have := hA.2.2.2.2.2.2.1.2; show (A 0 6).toNat ≤ 8; omega⟩
theorem nB1_ok (h : NOk N) : ∀ m, NOk (lp m nB1 N)
  | 0 => h
  | m + 1 => (nB1_ok h m).u1p ⟨by decide, by decide⟩
theorem nB2_ok (hA : VA A) (h : NOk N) : ∀ m, m ≤ fSe A → NOk (lp m (nB2 A) N)
  | 0, _ => h
  | m + 1, hm => by
    have hs := hA.2.2.2.2.2.2.2.2.2.2.2.2.1 m (by omega)
    have := fP10 hA
    exact (nB2_ok hA h m (by omega)).u1p (orI (nB2_ok hA h m (by omega)) (by omega) (by have := fS8 hA; omega))
theorem nBeg_ok (hA : VA A) (h : NOk N) : NOk (nBeg A N) := nB2_ok hA (nB1_ok (h.u0 ⟨by decide, by decide⟩) 10) _ (Nat.le_refl _)
theorem nRd_ok {who s : Nat} (h : NOk N) (hw : who < 10) (hs : s < 8) : NOk (nRd who s N) := by
  unfold nRd
  split
  · exact h.u1p (orI h hw hs)
  · exact h
theorem nRead_ok {who : Nat} (h : NOk N) (hw : who < 10) : ∀ m, m ≤ 8 → NOk (lp m (nRd who) N)
  | 0, _ => h
  | m + 1, hm => nRd_ok (nRead_ok h hw m (by omega)) hw (by omega)
theorem nWr_ok {who s : Nat} (hA : VA A) (h : NOk N) (hw : who < 10) (hs : s < 8) : NOk (nWr A who s N) := by
  have h17 := hA.2.2.2.2.2.2.2.2.2.2.2.2.2.1 (8 * who + s) (by omega)
  have h2 := h.2.2 s hs
  unfold nWr
  split
  · refine h.u2s ?_
    split
    · have : (N 2 s).toNat &&& (A 17 (8 * who + s)).toNat < 1024 := and_lt (by omega)
      omega
    · exact h17
  · exact h
theorem nWrite_ok {who : Nat} (hA : VA A) (h : NOk N) (hw : who < 10) : ∀ m, m ≤ 8 → NOk (lp m (nWr A who) N)
  | 0, _ => h
  | m + 1, hm => nWr_ok hA (nWrite_ok hA h hw m (by omega)) hw (by omega)
theorem nTurn_ok {who : Nat} {d : Bool} (hA : VA A) (h : NOk N) (hw : who < 10) : NOk (nTurn A who d N) := by
  have h8 := fS8 hA
  have h1 := nRead_ok h hw (fSe A) h8.2
  unfold nTurn
  split
  · exact h1
  · have h2 : NOk (nWrite1 A who (nRead A who N)) := nWrite_ok hA h1 hw (fSe A) h8.2
    refine h2.u0 ?_
    have g1 := h2.1
    have g2 := h2.2.1 who hw
    have := or256 (a := (nWrite1 A who (nRead A who N) 0 1).toNat) (b := (nWrite1 A who (nRead A who N) 1 who).toNat) (by omega) (by omega)
    omega
end NotesS
section C11
variable {g : GG} {T : Nat → Nat × Nat} {V N : Nat → Nat → Int} {R : Nat → Nat → Option Nat} {J : Nat → Nat → Int64} {z k n : Nat} {A : Nat → Nat → Int} {o w f : Nat}
theorem c_nBegin (ho : OS T R o w) (hw0 : T w = (19, 0)) (hw1 : R w 0 = some f) (hf : FS T R f) (hF : FC V f A) (hA : VA A) (hap : (w < o ∨ o + 3 ≤ w) ∧ (f + 45 ≤ o ∨ o + 3 ≤ f)) (hN : NOk N) : X g mX3_begin 0 [.ref o, jk] [] (T, iV (pB V o 3 N), R, J, z) k n (rV (T, iV (pB V o 3 (nBeg A N)), R, J, z)) := by
  obtain ⟨⟨o0, o1⟩, ⟨o2, o3⟩, ⟨t1, t2⟩⟩ := ho
  obtain ⟨f0, ⟨f9, f10, f11, f12, f13, f14⟩, ⟨ft1, ft12, ft25, ft34, ft43, ft44⟩, -⟩ := hf
  obtain ⟨hV0, -, -, -, -, hV43, -⟩ := hF
  obtain ⟨p1, p2⟩ := hap
  have eP := fP10 hA
  have eS := fS8 hA
  have hok := nB1_ok (hN.u0 (v := 0) ⟨by decide, by decide⟩) 10
  have h16 := hA.2.2.2.2.2.2.2.2.2.2.2.2.1
  unfold nBeg
  refine x_aload_n dX3_begin_0 rfl ?_
  refine y_iconst dX3_begin_1 ?_
  refine b_pi0 (r := o) (m := 3) dX3_begin_2 (pX3_9 _) (by first | assumption) (fun _ _ _ => rfl) rfl rfl (by decide) ?_
  refine y_iconst dX3_begin_5 ?_
  refine x_istore_n dX3_begin_6 (by decide) rfl rfl ?_
  refine (show X _ _ 7 _ _ _ _ _ _ from ?_)
  refine loopN (P := fun p => X g mX3_begin 7 [.ref o, .int (iI (p : Int))] [] (T, iV (pB V o 3 (lp p nB1 (u2 N 0 1 0))), R, J, z) k n (rV (T, iV (pB V o 3 (lp (fSe A) (nB2 A) (lp 10 nB1 (u2 N 0 1 0)))), R, J, z))) 10 ?_ (fun p hp ih => ?_)
  · generalize lp 10 nB1 (u2 N 0 1 0) = N1 at *
    refine x_iload_n dX3_begin_7 rfl ?_
    refine y_bipush dX3_begin_8 rfl ?_
    refine (show X _ _ 10 _ _ _ _ _ _ from ?_)
    refine y_icmp_ge 26 dX3_begin_10 (by decide) ⟨by omega, by omega⟩ ⟨by omega, by omega⟩ (fun h => ?_) (fun h => ?_)
    rotate_left
    · omega
    refine y_iconst dX3_begin_26 ?_
    refine x_istore_n dX3_begin_27 (by decide) rfl rfl ?_
    refine (show X _ _ 28 _ _ _ _ _ _ from ?_)
    refine loopN (P := fun s => X g mX3_begin 28 [.ref o, .int (iI (s : Int))] [] (T, iV (pB V o 3 (lp s (nB2 A) N1)), R, J, z) k n (rV (T, iV (pB V o 3 (lp (fSe A) (nB2 A) N1)), R, J, z))) (fSe A) ?_ (fun s hs ih => ?_)
    · refine x_iload_n dX3_begin_28 rfl ?_
      refine x_aload_n dX3_begin_29 rfl ?_
      refine x_gr dX3_begin_30 fX3_22 (by first | assumption) (fun _ _ _ => rfl) (by first | assumption) ?_
      refine x_gr dX3_begin_33 fX3_26 (by first | assumption) (fun _ _ _ => rfl) (by first | assumption) ?_
      refine b_gio (r := o) (m := 3) dX3_begin_36 fX3_32 (by first | assumption) (fun _ _ _ => rfl) (by omega) ?_
      refine (show X _ _ 39 _ _ _ _ _ _ from ?_)
      refine X.val (b := A 0 6) (hV0 6 (by omega)) ?_
      refine y_icmp_ge 71 dX3_begin_39 (by decide) ⟨by omega, by omega⟩ ⟨by omega, by omega⟩ (fun h2 => ?_) (fun h2 => ?_)
      · exact x_return dX3_begin_71 rfl ⟨rfl, rfl⟩
      · omega
    have hk := nB2_ok hA hok s (by omega)
    have h6 := h16 s hs
    rw [lp_s, nB2] at ih
    generalize lp s (nB2 A) N1 = N2 at *
    obtain ⟨q, hq⟩ : ∃ q : Nat, A 16 s = (q : Int) := ⟨(A 16 s).toNat, (Int.toNat_of_nonneg h6.1).symm⟩
    rw [hq] at ih h6
    rw [Int.toNat_natCast] at ih
    have hk1 := hk.2.1 q (by omega)
    refine x_iload_n dX3_begin_28 rfl ?_
    refine x_aload_n dX3_begin_29 rfl ?_
    refine x_gr dX3_begin_30 fX3_22 (by first | assumption) (fun _ _ _ => rfl) (by first | assumption) ?_
    refine x_gr dX3_begin_33 fX3_26 (by first | assumption) (fun _ _ _ => rfl) (by first | assumption) ?_
    refine b_gio (r := o) (m := 3) dX3_begin_36 fX3_32 (by first | assumption) (fun _ _ _ => rfl) (by omega) ?_
    refine (show X _ _ 39 _ _ _ _ _ _ from ?_)
    refine X.val (b := A 0 6) (hV0 6 (by omega)) ?_
    refine y_icmp_ge 71 dX3_begin_39 (by decide) ⟨by omega, by omega⟩ ⟨by omega, by omega⟩ (fun h2 => ?_) (fun h2 => ?_)
    · omega
    refine x_aload_n dX3_begin_42 rfl ?_
    refine x_gr dX3_begin_43 fX3_15 (by first | assumption) (fun _ _ _ => rfl) (by first | assumption) ?_
    refine x_aload_n dX3_begin_46 rfl ?_
    refine x_gr dX3_begin_47 fX3_22 (by first | assumption) (fun _ _ _ => rfl) (by first | assumption) ?_
    refine x_gr dX3_begin_50 fX3_26 (by first | assumption) (fun _ _ _ => rfl) (by first | assumption) ?_
    refine x_gr dX3_begin_53 fX3_37 (by first | assumption) (fun _ _ _ => rfl) (by first | assumption) ?_
    refine x_iload_n dX3_begin_56 rfl ?_
    refine b_ialo (r := o) (m := 3) (s) dX3_begin_57 (by first | assumption) (by first | rfl | omega) (by omega) (by decide) (by omega) ?_
    refine (show X _ _ 58 _ _ _ _ _ _ from ?_)
    refine X.val (b := (q : Int)) ((hV43 s hs).trans hq) ?_
    refine x_dup2 dX3_begin_58 rfl rfl ?_
    refine b_iald (r := o) (m := 3) (j := 1) (q) dX3_begin_59 (by first | assumption) (by first | rfl | omega) (by omega) (by decide) (by decide) ?_
    refine (show X _ _ 60 _ _ _ _ _ _ from ?_)
    refine X.val (b := (((N2 1 q).toNat : Nat) : Int)) (Int.toNat_of_nonneg hk1.1).symm ?_
    refine y_iconst dX3_begin_60 ?_
    refine x_iload_n dX3_begin_61 rfl ?_
    refine y_ishl (s) dX3_begin_62 (by first | rfl | omega) (by omega) ?_
    refine y_ior dX3_begin_63 ?_
    refine b_iast (r := o) (m := 3) (j := 1) (q) dX3_begin_64 (by first | assumption) (by first | rfl | omega) (by omega) (by decide) (by decide) ?_
    refine y_iinc dX3_begin_65 rfl (by decide) rfl rfl ?_
    refine x_goto 28 dX3_begin_68 (by decide) ?_
    refine (show X _ _ 28 _ _ _ _ _ _ from ?_)
    exact ih
  refine x_iload_n dX3_begin_7 rfl ?_
  refine y_bipush dX3_begin_8 rfl ?_
  refine (show X _ _ 10 _ _ _ _ _ _ from ?_)
  refine y_icmp_ge 26 dX3_begin_10 (by decide) ⟨by omega, by omega⟩ ⟨by omega, by omega⟩ (fun h => ?_) (fun h => ?_)
  · omega
  refine x_aload_n dX3_begin_13 rfl ?_
  refine x_gr dX3_begin_14 fX3_15 (by first | assumption) (fun _ _ _ => rfl) (by first | assumption) ?_
  refine x_iload_n dX3_begin_17 rfl ?_
  refine y_iconst dX3_begin_18 ?_
  refine b_iast (r := o) (m := 3) (j := 1) (p) dX3_begin_19 (by first | assumption) (by first | rfl | omega) (by omega) (by decide) (by decide) ?_
  refine y_iinc dX3_begin_20 rfl (by decide) rfl rfl ?_
  refine x_goto 7 dX3_begin_23 (by decide) ?_
  refine (show X _ _ 7 _ _ _ _ _ _ from ?_)
  exact ih
theorem c_readAs {who : Nat} (ho : OS T R o w) (hw0 : T w = (19, 0)) (hw1 : R w 0 = some f) (hf : FS T R f) (hF : FC V f A) (hA : VA A) (hap : (w < o ∨ o + 3 ≤ w) ∧ (f + 45 ≤ o ∨ o + 3 ≤ f)) (hN : NOk N) (hw : who < 10) : X g mX3_readAs 0 [.ref o, .int (iI (who : Int)), jk] [] (T, iV (pB V o 3 N), R, J, z) k n (rV (T, iV (pB V o 3 (nRead A who N)), R, J, z)) := by
  obtain ⟨⟨o0, o1⟩, ⟨o2, o3⟩, ⟨t1, t2⟩⟩ := ho
  obtain ⟨f0, -⟩ := hf
  obtain ⟨hV0, -⟩ := hF
  obtain ⟨p1, p2⟩ := hap
  have eS := fS8 hA
  unfold nRead
  refine y_iconst dX3_readAs_0 ?_
  refine x_istore_n dX3_readAs_1 (by decide) rfl rfl ?_
  refine (show X _ _ 2 _ _ _ _ _ _ from ?_)
  refine loopN (P := fun s => X g mX3_readAs 2 [.ref o, .int (iI (who : Int)), .int (iI (s : Int))] [] (T, iV (pB V o 3 (lp s (nRd who) N)), R, J, z) k n (rV (T, iV (pB V o 3 (lp (fSe A) (nRd who) N)), R, J, z))) (fSe A) ?_ (fun s hs ih => ?_)
  · refine x_iload_n dX3_readAs_2 rfl ?_
    refine x_aload_n dX3_readAs_3 rfl ?_
    refine x_gr dX3_readAs_4 fX3_22 (by first | assumption) (fun _ _ _ => rfl) (by first | assumption) ?_
    refine x_gr dX3_readAs_7 fX3_26 (by first | assumption) (fun _ _ _ => rfl) (by first | assumption) ?_
    refine b_gio (r := o) (m := 3) dX3_readAs_10 fX3_32 (by first | assumption) (fun _ _ _ => rfl) (by omega) ?_
    refine (show X _ _ 13 _ _ _ _ _ _ from ?_)
    refine X.val (b := A 0 6) (hV0 6 (by omega)) ?_
    refine y_icmp_ge 58 dX3_readAs_13 (by decide) ⟨by omega, by omega⟩ ⟨by omega, by omega⟩ (fun h2 => ?_) (fun h2 => ?_)
    · exact x_return dX3_readAs_58 rfl ⟨rfl, rfl⟩
    · omega
  have hk := nRead_ok hN hw s (by omega)
  rw [lp_s, nRd] at ih
  generalize lp s (nRd who) N = N2 at *
  have k0 := hk.1
  have k1 := hk.2.1 who hw
  have k2 := hk.2.2 s (by omega)
  refine x_iload_n dX3_readAs_2 rfl ?_
  refine x_aload_n dX3_readAs_3 rfl ?_
  refine x_gr dX3_readAs_4 fX3_22 (by first | assumption) (fun _ _ _ => rfl) (by first | assumption) ?_
  refine x_gr dX3_readAs_7 fX3_26 (by first | assumption) (fun _ _ _ => rfl) (by first | assumption) ?_
  refine b_gio (r := o) (m := 3) dX3_readAs_10 fX3_32 (by first | assumption) (fun _ _ _ => rfl) (by omega) ?_
  refine (show X _ _ 13 _ _ _ _ _ _ from ?_)
  refine X.val (b := A 0 6) (hV0 6 (by omega)) ?_
  refine y_icmp_ge 58 dX3_readAs_13 (by decide) ⟨by omega, by omega⟩ ⟨by omega, by omega⟩ (fun h2 => ?_) (fun h2 => ?_)
  · omega
  refine x_aload_n dX3_readAs_16 rfl ?_
  refine b_gi0 (r := o) (m := 3) dX3_readAs_17 fX3_9 (by first | assumption) (fun _ _ _ => rfl) (by decide) ?_
  refine (show X _ _ 20 _ _ _ _ _ _ from ?_)
  refine X.val (b := (((N2 0 1).toNat : Nat) : Int)) (Int.toNat_of_nonneg k0.1).symm ?_
  refine x_iload_n dX3_readAs_20 rfl ?_
  refine (show X _ _ 21 _ _ _ _ _ _ from ?_)
  refine x_callS (As := [_, _]) (mc := 0) (ms := 0) (z := mX10_has) dX3_readAs_21 lX3_47 oX10_has (by decide) rfl (Nat.le_of_ble_eq_true rfl) (Nat.le_of_ble_eq_true rfl) rfl (c_has g (N2 0 1).toNat s _ 0 0 (by omega) (by omega)) (k_I ?_)
  refine (show X _ _ 24 _ _ _ _ _ _ from ?_)
  refine y_ifb_eq 52 dX3_readAs_24 (by decide) (fun h3 => ?_) (fun h3 => ?_)
  · rw [if_neg (fun h => by rw [h3] at h; exact absurd h.1 (by decide))] at ih
    refine y_iinc dX3_readAs_52 rfl (by decide) rfl rfl ?_
    refine x_goto 2 dX3_readAs_55 (by decide) ?_
    refine (show X _ _ 2 _ _ _ _ _ _ from ?_)
    exact ih
  refine x_aload_n dX3_readAs_27 rfl ?_
  refine x_gr dX3_readAs_28 fX3_19 (by first | assumption) (fun _ _ _ => rfl) (by first | assumption) ?_
  refine x_iload_n dX3_readAs_31 rfl ?_
  refine b_iald (r := o) (m := 3) (j := 2) (s) dX3_readAs_32 (by first | assumption) (by first | rfl | omega) (by omega) (by decide) (by decide) ?_
  refine (show X _ _ 33 _ _ _ _ _ _ from ?_)
  refine X.val (b := (((N2 2 s).toNat : Nat) : Int)) (Int.toNat_of_nonneg k2.1).symm ?_
  refine x_iload_n dX3_readAs_33 rfl ?_
  refine (show X _ _ 34 _ _ _ _ _ _ from ?_)
  refine x_callS (As := [_, _]) (mc := 0) (ms := 0) (z := mX10_has) dX3_readAs_34 lX3_47 oX10_has (by decide) rfl (Nat.le_of_ble_eq_true rfl) (Nat.le_of_ble_eq_true rfl) rfl (c_has g (N2 2 s).toNat who _ 0 0 (by omega) (by omega)) (k_I ?_)
  refine (show X _ _ 37 _ _ _ _ _ _ from ?_)
  refine y_ifb_ne 52 dX3_readAs_37 (by decide) (fun h4 => ?_) (fun h4 => ?_)
  · rw [if_neg (fun h => by rw [h4] at h; exact absurd h.2 (by decide))] at ih
    refine y_iinc dX3_readAs_52 rfl (by decide) rfl rfl ?_
    refine x_goto 2 dX3_readAs_55 (by decide) ?_
    refine (show X _ _ 2 _ _ _ _ _ _ from ?_)
    exact ih
  rw [if_pos ⟨h3, h4⟩] at ih
  refine x_aload_n dX3_readAs_40 rfl ?_
  refine x_gr dX3_readAs_41 fX3_15 (by first | assumption) (fun _ _ _ => rfl) (by first | assumption) ?_
  refine x_iload_n dX3_readAs_44 rfl ?_
  refine x_dup2 dX3_readAs_45 rfl rfl ?_
  refine b_iald (r := o) (m := 3) (j := 1) (who) dX3_readAs_46 (by first | assumption) (by first | rfl | omega) (by omega) (by decide) (by decide) ?_
  refine (show X _ _ 47 _ _ _ _ _ _ from ?_)
  refine X.val (b := (((N2 1 who).toNat : Nat) : Int)) (Int.toNat_of_nonneg k1.1).symm ?_
  refine y_iconst dX3_readAs_47 ?_
  refine x_iload_n dX3_readAs_48 rfl ?_
  refine y_ishl (s) dX3_readAs_49 (by first | rfl | omega) (by omega) ?_
  refine y_ior dX3_readAs_50 ?_
  refine b_iast (r := o) (m := 3) (j := 1) (who) dX3_readAs_51 (by first | assumption) (by first | rfl | omega) (by omega) (by decide) (by decide) ?_
  refine y_iinc dX3_readAs_52 rfl (by decide) rfl rfl ?_
  refine x_goto 2 dX3_readAs_55 (by decide) ?_
  refine (show X _ _ 2 _ _ _ _ _ _ from ?_)
  exact ih
theorem c_writeAs {who : Nat} (ho : OS T R o w) (hw0 : T w = (19, 0)) (hw1 : R w 0 = some f) (hf : FS T R f) (hF : FC V f A) (hA : VA A) (hap : (w < o ∨ o + 3 ≤ w) ∧ (f + 45 ≤ o ∨ o + 3 ≤ f)) (hN : NOk N) (hw : who < 10) : X g mX3_writeAs 0 [.ref o, .int (iI (who : Int)), jk, jk] [] (T, iV (pB V o 3 N), R, J, z) k n (rV (T, iV (pB V o 3 (nWrite A who N)), R, J, z)) := by
  obtain ⟨⟨o0, o1⟩, ⟨o2, o3⟩, ⟨t1, t2⟩⟩ := ho
  obtain ⟨f0, ⟨f9, f10, f11, f12, f13, f14⟩, ⟨ft1, ft12, ft25, ft34, ft43, ft44⟩, -⟩ := hf
  obtain ⟨hV0, -, -, -, -, -, hV44⟩ := hF
  obtain ⟨p1, p2⟩ := hap
  have eS := fS8 hA
  have h17 := hA.2.2.2.2.2.2.2.2.2.2.2.2.2.1
  have hfin := nWrite_ok hA hN hw (fSe A) eS.2
  unfold nWrite nWrite1
  refine y_iconst dX3_writeAs_0 ?_
  refine x_istore_n dX3_writeAs_1 (by decide) rfl rfl ?_
  refine (show X _ _ 2 _ _ _ _ _ _ from ?_)
  refine loopN (P := fun s => X g mX3_writeAs 2 [.ref o, .int (iI (who : Int)), .int (iI (s : Int)), jk] [] (T, iV (pB V o 3 (lp s (nWr A who) N)), R, J, z) k n (rV (T, iV (pB V o 3 (u2 (lp (fSe A) (nWr A who) N) 0 1 ((((lp (fSe A) (nWr A who) N) 0 1).toNat ||| ((lp (fSe A) (nWr A who) N) 1 who).toNat : Nat) : Int))), R, J, z))) (fSe A) ?_ (fun s hs ih => ?_)
  · generalize lp (fSe A) (nWr A who) N = N2 at *
    have k0 := hfin.1
    have k1 := hfin.2.1 who hw
    refine x_iload_n dX3_writeAs_2 rfl ?_
    refine x_aload_n dX3_writeAs_3 rfl ?_
    refine x_gr dX3_writeAs_4 fX3_22 (by first | assumption) (fun _ _ _ => rfl) (by first | assumption) ?_
    refine x_gr dX3_writeAs_7 fX3_26 (by first | assumption) (fun _ _ _ => rfl) (by first | assumption) ?_
    refine b_gio (r := o) (m := 3) dX3_writeAs_10 fX3_32 (by first | assumption) (fun _ _ _ => rfl) (by omega) ?_
    refine (show X _ _ 13 _ _ _ _ _ _ from ?_)
    refine X.val (b := A 0 6) (hV0 6 (by omega)) ?_
    refine y_icmp_ge 82 dX3_writeAs_13 (by decide) ⟨by omega, by omega⟩ ⟨by omega, by omega⟩ (fun h2 => ?_) (fun h2 => ?_)
    · refine x_aload_n dX3_writeAs_82 rfl ?_
      refine x_dup dX3_writeAs_83 rfl ?_
      refine b_gi0 (r := o) (m := 3) dX3_writeAs_84 fX3_9 (by first | assumption) (fun _ _ _ => rfl) (by decide) ?_
      refine (show X _ _ 87 _ _ _ _ _ _ from ?_)
      refine X.val (b := (((N2 0 1).toNat : Nat) : Int)) (Int.toNat_of_nonneg k0.1).symm ?_
      refine x_aload_n dX3_writeAs_87 rfl ?_
      refine x_gr dX3_writeAs_88 fX3_15 (by first | assumption) (fun _ _ _ => rfl) (by first | assumption) ?_
      refine x_iload_n dX3_writeAs_91 rfl ?_
      refine b_iald (r := o) (m := 3) (j := 1) (who) dX3_writeAs_92 (by first | assumption) (by first | rfl | omega) (by omega) (by decide) (by decide) ?_
      refine (show X _ _ 93 _ _ _ _ _ _ from ?_)
      refine X.val (b := (((N2 1 who).toNat : Nat) : Int)) (Int.toNat_of_nonneg k1.1).symm ?_
      refine y_ior dX3_writeAs_93 ?_
      refine b_pi0 (r := o) (m := 3) dX3_writeAs_94 (pX3_9 _) (by first | assumption) (fun _ _ _ => rfl) rfl rfl (by decide) ?_
      refine (show X _ _ 97 _ _ _ _ _ _ from ?_)
      exact x_return dX3_writeAs_97 rfl ⟨rfl, rfl⟩
    · omega
  have hk := nWrite_ok hA hN hw s (by omega)
  rw [lp_s, nWr] at ih
  generalize lp s (nWr A who) N = N2 at *
  have k0 := hk.1
  have k1 := hk.2.1 who hw
  have k2 := hk.2.2 s (by omega)
  have k17 := h17 (8 * who + s) (by omega)
  have v44 := hV44 (8 * who + s) (by omega)
  refine x_iload_n dX3_writeAs_2 rfl ?_
  refine x_aload_n dX3_writeAs_3 rfl ?_
  refine x_gr dX3_writeAs_4 fX3_22 (by first | assumption) (fun _ _ _ => rfl) (by first | assumption) ?_
  refine x_gr dX3_writeAs_7 fX3_26 (by first | assumption) (fun _ _ _ => rfl) (by first | assumption) ?_
  refine b_gio (r := o) (m := 3) dX3_writeAs_10 fX3_32 (by first | assumption) (fun _ _ _ => rfl) (by omega) ?_
  refine (show X _ _ 13 _ _ _ _ _ _ from ?_)
  refine X.val (b := A 0 6) (hV0 6 (by omega)) ?_
  refine y_icmp_ge 82 dX3_writeAs_13 (by decide) ⟨by omega, by omega⟩ ⟨by omega, by omega⟩ (fun h2 => ?_) (fun h2 => ?_)
  · omega
  refine x_aload_n dX3_writeAs_16 rfl ?_
  refine x_gr dX3_writeAs_17 fX3_15 (by first | assumption) (fun _ _ _ => rfl) (by first | assumption) ?_
  refine x_iload_n dX3_writeAs_20 rfl ?_
  refine b_iald (r := o) (m := 3) (j := 1) (who) dX3_writeAs_21 (by first | assumption) (by first | rfl | omega) (by omega) (by decide) (by decide) ?_
  refine (show X _ _ 22 _ _ _ _ _ _ from ?_)
  refine X.val (b := (((N2 1 who).toNat : Nat) : Int)) (Int.toNat_of_nonneg k1.1).symm ?_
  refine x_iload_n dX3_writeAs_22 rfl ?_
  refine (show X _ _ 23 _ _ _ _ _ _ from ?_)
  refine x_callS (As := [_, _]) (mc := 0) (ms := 0) (z := mX10_has) dX3_writeAs_23 lX3_47 oX10_has (by decide) rfl (Nat.le_of_ble_eq_true rfl) (Nat.le_of_ble_eq_true rfl) rfl (c_has g (N2 1 who).toNat s _ 0 0 (by omega) (by omega)) (k_I ?_)
  refine (show X _ _ 26 _ _ _ _ _ _ from ?_)
  refine y_ifb_eq 76 dX3_writeAs_26 (by decide) (fun h3 => ?_) (fun h3 => ?_)
  · rw [if_neg (fun h => by rw [h3] at h; exact absurd h (by decide))] at ih
    refine y_iinc dX3_writeAs_76 rfl (by decide) rfl rfl ?_
    refine x_goto 2 dX3_writeAs_79 (by decide) ?_
    refine (show X _ _ 2 _ _ _ _ _ _ from ?_)
    exact ih
  rw [if_pos h3] at ih
  refine x_aload_n dX3_writeAs_29 rfl ?_
  refine x_gr dX3_writeAs_30 fX3_22 (by first | assumption) (fun _ _ _ => rfl) (by first | assumption) ?_
  refine x_gr dX3_writeAs_33 fX3_26 (by first | assumption) (fun _ _ _ => rfl) (by first | assumption) ?_
  refine x_gr dX3_writeAs_36 fX3_51 (by first | assumption) (fun _ _ _ => rfl) (by first | assumption) ?_
  refine x_iload_n dX3_writeAs_39 rfl ?_
  refine y_bipush dX3_writeAs_40 rfl ?_
  refine y_imul dX3_writeAs_42 ?_
  refine x_iload_n dX3_writeAs_43 rfl ?_
  refine (show X _ _ 44 _ _ _ _ _ _ from ?_)
  refine y_iadd dX3_writeAs_44 ?_
  refine b_ialo (r := o) (m := 3) (8 * who + s) dX3_writeAs_45 (by first | assumption) (by first | rfl | omega) (by omega) (by decide) (by omega) ?_
  refine (show X _ _ 46 _ _ _ _ _ _ from ?_)
  refine X.val v44 ?_
  refine x_istore_n dX3_writeAs_46 (by decide) rfl rfl ?_
  refine x_aload_n dX3_writeAs_47 rfl ?_
  refine x_gr dX3_writeAs_48 fX3_19 (by first | assumption) (fun _ _ _ => rfl) (by first | assumption) ?_
  refine x_iload_n dX3_writeAs_51 rfl ?_
  refine x_aload_n dX3_writeAs_52 rfl ?_
  refine b_gi0 (r := o) (m := 3) dX3_writeAs_53 fX3_9 (by first | assumption) (fun _ _ _ => rfl) (by decide) ?_
  refine (show X _ _ 56 _ _ _ _ _ _ from ?_)
  refine X.val (b := (((N2 0 1).toNat : Nat) : Int)) (Int.toNat_of_nonneg k0.1).symm ?_
  refine x_iload_n dX3_writeAs_56 rfl ?_
  refine (show X _ _ 57 _ _ _ _ _ _ from ?_)
  refine x_callS (As := [_, _]) (mc := 0) (ms := 0) (z := mX10_has) dX3_writeAs_57 lX3_47 oX10_has (by decide) rfl (Nat.le_of_ble_eq_true rfl) (Nat.le_of_ble_eq_true rfl) rfl (c_has g (N2 0 1).toNat s _ 0 0 (by omega) (by omega)) (k_I ?_)
  refine (show X _ _ 60 _ _ _ _ _ _ from ?_)
  refine y_ifb_eq 74 dX3_writeAs_60 (by decide) (fun h4 => ?_) (fun h4 => ?_)
  · rw [if_neg (fun h => by rw [h4] at h; exact absurd h (by decide))] at ih
    refine x_iload_n dX3_writeAs_74 rfl ?_
    refine b_iast (r := o) (m := 3) (j := 2) (s) dX3_writeAs_75 (by first | assumption) (by first | rfl | omega) (by omega) (by decide) (by decide) ?_
    refine y_iinc dX3_writeAs_76 rfl (by decide) rfl rfl ?_
    refine x_goto 2 dX3_writeAs_79 (by decide) ?_
    refine (show X _ _ 2 _ _ _ _ _ _ from ?_)
    exact X.drop 3 rfl ih
  · rw [if_pos h4] at ih
    refine x_aload_n dX3_writeAs_63 rfl ?_
    refine x_gr dX3_writeAs_64 fX3_19 (by first | assumption) (fun _ _ _ => rfl) (by first | assumption) ?_
    refine x_iload_n dX3_writeAs_67 rfl ?_
    refine b_iald (r := o) (m := 3) (j := 2) (s) dX3_writeAs_68 (by first | assumption) (by first | rfl | omega) (by omega) (by decide) (by decide) ?_
    refine (show X _ _ 69 _ _ _ _ _ _ from ?_)
    refine X.val (b := (((N2 2 s).toNat : Nat) : Int)) (Int.toNat_of_nonneg k2.1).symm ?_
    refine x_iload_n dX3_writeAs_69 rfl ?_
    refine (show X _ _ 70 _ _ _ _ _ _ from ?_)
    refine X.val (b := (((A 17 (8 * who + s)).toNat : Nat) : Int)) (Int.toNat_of_nonneg k17.1).symm ?_
    refine y_iand dX3_writeAs_70 ?_
    refine x_goto 75 dX3_writeAs_71 (by decide) ?_
    refine b_iast (r := o) (m := 3) (j := 2) (s) dX3_writeAs_75 (by first | assumption) (by first | rfl | omega) (by omega) (by decide) (by decide) ?_
    refine y_iinc dX3_writeAs_76 rfl (by decide) rfl rfl ?_
    refine x_goto 2 dX3_writeAs_79 (by decide) ?_
    refine (show X _ _ 2 _ _ _ _ _ _ from ?_)
    exact X.drop 3 rfl ih
theorem c_nTurn {who : Nat} {d : Bool} (ho : OS T R o w) (hw0 : T w = (19, 0)) (hw1 : R w 0 = some f) (hf : FS T R f) (hF : FC V f A) (hA : VA A) (hap : (w < o ∨ o + 3 ≤ w) ∧ (f + 45 ≤ o ∨ o + 3 ≤ f)) (hN : NOk N) (hw : who < 10) : X g mX3_takeTurn 0 [.ref o, .int (iI (who : Int)), .int (iI (bI d))] [] (T, iV (pB V o 3 N), R, J, z) k n (rV (T, iV (pB V o 3 (nTurn A who d N)), R, J, z)) := by
  have hrd := c_readAs (g := g) (J := J) (z := z) (k := 0) (n := 0) ho hw0 hw1 hf hF hA hap hN hw
  have hwr := c_writeAs (g := g) (J := J) (z := z) (k := 0) (n := 0) ho hw0 hw1 hf hF hA hap (nRead_ok hN hw (fSe A) (fS8 hA).2) hw
  obtain ⟨⟨o0, o1⟩, -⟩ := ho
  unfold nTurn
  refine x_aload_n dX3_takeTurn_0 rfl ?_
  refine x_iload_n dX3_takeTurn_1 rfl ?_
  refine (show X _ _ 2 _ _ _ _ _ _ from ?_)
  refine x_callV (As := [_]) (mc := 0) (ms := 0) (z := mX3_readAs) (ci := 3) dX3_takeTurn_2 lX3_40 oX3_readAs (by decide) (by first | assumption) rfl rfl (Nat.le_of_ble_eq_true rfl) (Nat.le_of_ble_eq_true rfl) rfl (hrd) (k_V ?_)
  refine (show X _ _ 5 _ _ _ _ _ _ from ?_)
  refine x_iload_n dX3_takeTurn_5 rfl ?_
  refine (show X _ _ 6 _ _ _ _ _ _ from ?_)
  refine y_ifb_ne 14 dX3_takeTurn_6 (by decide) (fun h => ?_) (fun h => ?_)
  · rw [if_pos h]
    exact x_return dX3_takeTurn_14 rfl ⟨rfl, rfl⟩
  · rw [if_neg (by rw [h]; decide)]
    refine x_aload_n dX3_takeTurn_9 rfl ?_
    refine x_iload_n dX3_takeTurn_10 rfl ?_
    refine (show X _ _ 11 _ _ _ _ _ _ from ?_)
    refine x_callV (As := [_]) (mc := 0) (ms := 0) (z := mX3_writeAs) (ci := 3) dX3_takeTurn_11 lX3_44 oX3_writeAs (by decide) (by first | assumption) rfl rfl (Nat.le_of_ble_eq_true rfl) (Nat.le_of_ble_eq_true rfl) rfl (hwr) (k_V ?_)
    refine (show X _ _ 14 _ _ _ _ _ _ from ?_)
    exact x_return dX3_takeTurn_14 rfl ⟨rfl, rfl⟩
end C11
