/-! ===== Reader: the next token ===== -/
theorem u2_self {U : Nat → Nat → Int} {a j : Nat} : u2 U a j (U a j) = U := by
  funext b
  by_cases e : b = a
  · subst e
    rw [u2_s]
    funext q
    by_cases e2 : q = j
    · subst e2; rw [u1_s]
    · rw [u1_n e2]
  · rw [u2_n e]
section Adv
variable (V : Nat → Nat → Int) (rd tx : Nat) (e i : Nat)
/-- behind the blanks; behind letters; behind digits -/
def av0 : Nat := eor (V tx) 32 32 (e - i) i
def av1 : Nat := eor (V tx) 97 122 (e - av0 V tx e i) (av0 V tx e i)
def av2 : Nat := eor (V tx) 48 57 (e - av0 V tx e i) (av0 V tx e i)
def avS : Nat → Nat → Int := u2 (u2 V rd 6 (av0 V tx e i : Nat)) rd 8 (av0 V tx e i : Nat)
def avE : Nat → Nat → Int :=
  if e ≤ av0 V tx e i then u2 (avS V rd tx e i) rd 7 0
  else if av0 V tx e i < av1 V tx e i then u2 (u2 (u2 (avS V rd tx e i) rd 6 (av1 V tx e i : Nat)) rd 9 ((av1 V tx e i : Nat) - (av0 V tx e i : Nat) : Int)) rd 7 (if av1 V tx e i - av0 V tx e i ≤ 8 then 1 else 4)
  else if av0 V tx e i < av2 V tx e i then u2 (u2 (u2 (avS V rd tx e i) rd 6 (av2 V tx e i : Nat)) rd 7 (if av2 V tx e i - av0 V tx e i ≤ 3 then 2 else 4)) rd 10 (whS (V tx) (av2 V tx e i - av0 V tx e i) (av0 V tx e i) 0)
  else u2 (u2 (avS V rd tx e i) rd 7 (if V tx (av0 V tx e i) = 59 then 3 else 4)) rd 6 ((av0 V tx e i + 1 : Nat) : Int)
end Adv
section C26
variable {g : GG} {T : Nat → Nat × Nat} {V : Nat → Nat → Int} {R : Nat → Nat → Option Nat} {J : Nat → Nat → Int64} {z k n : Nat} {rd tx e i : Nat}
theorem c_advance (hS : DS T R rd tx) (h6 : V rd 6 = (i : Int)) (h5 : V rd 5 = (e : Int)) (hi1 : i ≤ e) (he : e ≤ 1100) (ht : ∀ j, j < e → -128 ≤ V tx j ∧ V tx j ≤ 127) (hne : tx ≠ rd) : X g mX6_advance 0 [.ref rd] [] (T, iV V, R, J, z) k n (rV (T, iV (avE V rd tx e i), R, J, z)) := by
  have hb0 := eor_b (V tx) 32 32 (e - i) i
  have hb1 := eor_b (V tx) 97 122 (e - av0 V tx e i) (av0 V tx e i)
  have hb2 := eor_b (V tx) 48 57 (e - av0 V tx e i) (av0 V tx e i)
  have er := fun (U : Nat → Nat → Int) (c : Nat) (lo hi : Int) (hU : U tx = V tx) (u6 : U rd 6 = (c : Int)) (u5 : U rd 5 = (e : Int)) hc hl hh => c_endOfRun (g := g) (J := J) (z := z) (k := 0) (n := 0) (V := U) (i := c) (e := e) (lo := lo) (hi := hi) hS u6 u5 hc he (by rw [hU]; exact ht) hl hh
  have c0 := er V i 32 32 rfl h6 h5 hi1 ⟨by decide, by decide⟩ ⟨by decide, by decide⟩
  have e0 : eor (V tx) 32 32 (e - i) i = av0 V tx e i := rfl
  have e1 : eor (V tx) 97 122 (e - av0 V tx e i) (av0 V tx e i) = av1 V tx e i := rfl
  have e2 : eor (V tx) 48 57 (e - av0 V tx e i) (av0 V tx e i) = av2 V tx e i := rfl
  rw [e0] at hb0 c0
  rw [e1] at hb1
  rw [e2] at hb2
  have hwh := fun (U : Nat → Nat → Int) (a b : Nat) ha hb => c_wholeOf (g := g) (J := J) (z := z) (k := 0) (n := 0) (V := U) (i := a) (e := b) hS ha hb
  obtain ⟨s0, s1, s2⟩ := hS
  unfold avE
  generalize ha1 : av1 V tx e i = p1 at *
  generalize ha2 : av2 V tx e i = p2 at *
  refine x_aload_n dX6_advance_0 rfl ?_
  refine x_aload_n dX6_advance_1 rfl ?_
  refine y_bipush dX6_advance_2 rfl ?_
  refine y_bipush dX6_advance_4 rfl ?_
  refine (show X _ _ 6 _ _ _ _ _ _ from ?_)
  refine x_callV (As := [_, _]) (mc := 0) (ms := 0) (z := mX6_endOfRun) (ci := 6) dX6_advance_6 lX6_96 oX6_endOfRun (by decide) (by first | assumption) rfl rfl (Nat.le_of_ble_eq_true rfl) (Nat.le_of_ble_eq_true rfl) rfl (c0) (k_I ?_)
  refine (show X _ _ 9 _ _ _ _ _ _ from ?_)
  refine y_pi dX6_advance_9 (pX6_35 _) (by first | assumption) (fun _ _ _ => rfl) rfl rfl ?_
  refine x_aload_n dX6_advance_12 rfl ?_
  refine x_aload_n dX6_advance_13 rfl ?_
  refine y_gi dX6_advance_14 fX6_35 (by first | assumption) (fun _ _ _ => rfl) ?_
  refine (show X _ _ 17 _ _ _ _ _ _ from ?_)
  have eS : u2 (u2 V rd 6 (av0 V tx e i : Nat)) rd 8 (av0 V tx e i : Nat) = avS V rd tx e i := rfl
  refine X.val (b := ((av0 V tx e i : Nat) : Int)) (by rw [u2_s, u1_s]) ?_
  refine y_pi dX6_advance_17 (pX6_41 _) (by first | assumption) (fun _ _ _ => rfl) rfl rfl ?_
  refine (show X _ _ 20 _ _ _ _ _ _ from ?_)
  rw [eS]
  have v6 : avS V rd tx e i rd 6 = ((av0 V tx e i : Nat) : Int) := by rw [avS, u2_s, u1_n (by decide), u2_s, u1_s]
  have v8 : avS V rd tx e i rd 8 = ((av0 V tx e i : Nat) : Int) := by rw [avS, u2_s, u1_s]
  have v5 : avS V rd tx e i rd 5 = (e : Int) := by rw [avS, u2_s, u1_n (by decide), u2_s, u1_n (by decide)]; exact h5
  have vt : avS V rd tx e i tx = V tx := by rw [avS, u2_n hne, u2_n hne]
  generalize avS V rd tx e i = U at *
  generalize av0 V tx e i = p0 at *
  have hbt : p0 < e → -128 ≤ U tx p0 ∧ U tx p0 ≤ 127 := fun h => by rw [vt]; exact ht p0 h
  refine x_aload_n dX6_advance_20 rfl ?_
  refine y_gi dX6_advance_21 fX6_35 (by first | assumption) (fun _ _ _ => rfl) ?_
  refine (show X _ _ 24 _ _ _ _ _ _ from ?_)
  refine X.val v6 ?_
  refine x_aload_n dX6_advance_24 rfl ?_
  refine y_gi dX6_advance_25 fX6_32 (by first | assumption) (fun _ _ _ => rfl) ?_
  refine (show X _ _ 28 _ _ _ _ _ _ from ?_)
  refine X.val v5 ?_
  refine y_icmp_lt 37 dX6_advance_28 (by decide) ⟨by omega, by omega⟩ ⟨by omega, by omega⟩ (fun h1 => ?_) (fun h1 => ?_)
  rotate_left
  · rw [if_pos (by omega)]
    refine x_aload_n dX6_advance_31 rfl ?_
    refine y_iconst dX6_advance_32 ?_
    refine y_pi dX6_advance_33 (pX6_38 _) (by first | assumption) (fun _ _ _ => rfl) rfl rfl ?_
    refine (show X _ _ 36 _ _ _ _ _ _ from ?_)
    exact x_return dX6_advance_36 rfl ⟨rfl, rfl⟩
  rw [if_neg (by omega)]
  have hbt := hbt (by omega)
  have c1 := er U p0 97 122 vt v6 v5 (by omega) ⟨by decide, by decide⟩ ⟨by decide, by decide⟩
  rw [vt, e1] at c1
  refine x_aload_n dX6_advance_37 rfl ?_
  refine x_aload_n dX6_advance_38 rfl ?_
  refine y_bipush dX6_advance_39 rfl ?_
  refine y_bipush dX6_advance_41 rfl ?_
  refine (show X _ _ 43 _ _ _ _ _ _ from ?_)
  refine x_callV (As := [_, _]) (mc := 0) (ms := 0) (z := mX6_endOfRun) (ci := 6) dX6_advance_43 lX6_96 oX6_endOfRun (by decide) (by first | assumption) rfl rfl (Nat.le_of_ble_eq_true rfl) (Nat.le_of_ble_eq_true rfl) rfl (c1) (k_I ?_)
  refine (show X _ _ 46 _ _ _ _ _ _ from ?_)
  refine y_pi dX6_advance_46 (pX6_35 _) (by first | assumption) (fun _ _ _ => rfl) rfl rfl ?_
  refine x_aload_n dX6_advance_49 rfl ?_
  refine y_gi dX6_advance_50 fX6_35 (by first | assumption) (fun _ _ _ => rfl) ?_
  refine (show X _ _ 53 _ _ _ _ _ _ from ?_)
  refine X.val (b := (p1 : Int)) (by rw [u2_s, u1_s]) ?_
  refine x_aload_n dX6_advance_53 rfl ?_
  refine y_gi dX6_advance_54 fX6_41 (by first | assumption) (fun _ _ _ => rfl) ?_
  refine (show X _ _ 57 _ _ _ _ _ _ from ?_)
  refine X.val (b := (p0 : Int)) (by rw [u2_s, u1_n (by decide)]; exact v8) ?_
  refine y_icmp_le 92 dX6_advance_57 (by decide) ⟨by omega, by omega⟩ ⟨by omega, by omega⟩ (fun h2 => ?_) (fun h2 => ?_)
  rotate_left
  · rw [if_pos (by omega)]
    refine x_aload_n dX6_advance_60 rfl ?_
    refine x_aload_n dX6_advance_61 rfl ?_
    refine y_gi dX6_advance_62 fX6_35 (by first | assumption) (fun _ _ _ => rfl) ?_
    refine (show X _ _ 65 _ _ _ _ _ _ from ?_)
    refine X.val (b := (p1 : Int)) (by rw [u2_s, u1_s]) ?_
    refine x_aload_n dX6_advance_65 rfl ?_
    refine y_gi dX6_advance_66 fX6_41 (by first | assumption) (fun _ _ _ => rfl) ?_
    refine (show X _ _ 69 _ _ _ _ _ _ from ?_)
    refine X.val (b := (p0 : Int)) (by rw [u2_s, u1_n (by decide)]; exact v8) ?_
    refine y_isub dX6_advance_69 ?_
    refine y_pi dX6_advance_70 (pX6_44 _) (by first | assumption) (fun _ _ _ => rfl) rfl rfl ?_
    refine x_aload_n dX6_advance_73 rfl ?_
    refine x_aload_n dX6_advance_74 rfl ?_
    refine y_gi dX6_advance_75 fX6_44 (by first | assumption) (fun _ _ _ => rfl) ?_
    refine (show X _ _ 78 _ _ _ _ _ _ from ?_)
    refine X.val (b := (p1 : Int) - (p0 : Int)) (by rw [u2_s, u1_s]) ?_
    refine y_bipush dX6_advance_78 rfl ?_
    refine (show X _ _ 80 _ _ _ _ _ _ from ?_)
    refine y_icmp_gt 87 dX6_advance_80 (by decide) ⟨by omega, by omega⟩ ⟨by omega, by omega⟩ (fun h3 => ?_) (fun h3 => ?_)
    · rw [if_neg (by omega)]
      refine y_iconst dX6_advance_87 ?_
      refine y_pi dX6_advance_88 (pX6_38 _) (by first | assumption) (fun _ _ _ => rfl) rfl rfl ?_
      refine (show X _ _ 91 _ _ _ _ _ _ from ?_)
      exact x_return dX6_advance_91 rfl ⟨rfl, rfl⟩
    · rw [if_pos (by omega)]
      refine y_iconst dX6_advance_83 ?_
      refine x_goto 88 dX6_advance_84 (by decide) ?_
      refine y_pi dX6_advance_88 (pX6_38 _) (by first | assumption) (fun _ _ _ => rfl) rfl rfl ?_
      refine (show X _ _ 91 _ _ _ _ _ _ from ?_)
      exact x_return dX6_advance_91 rfl ⟨rfl, rfl⟩
  rw [if_neg (by omega)]
  have ep : p1 = p0 := by omega
  have eU : u2 U rd 6 (p1 : Int) = U := by
    rw [ep, ← v6]
    exact u2_self
  refine X.pic eU ?_
  have c2 := er U p0 48 57 vt v6 v5 (by omega) ⟨by decide, by decide⟩ ⟨by decide, by decide⟩
  rw [vt, e2] at c2
  refine x_aload_n dX6_advance_92 rfl ?_
  refine x_aload_n dX6_advance_93 rfl ?_
  refine y_bipush dX6_advance_94 rfl ?_
  refine y_bipush dX6_advance_96 rfl ?_
  refine (show X _ _ 98 _ _ _ _ _ _ from ?_)
  refine x_callV (As := [_, _]) (mc := 0) (ms := 0) (z := mX6_endOfRun) (ci := 6) dX6_advance_98 lX6_96 oX6_endOfRun (by decide) (by first | assumption) rfl rfl (Nat.le_of_ble_eq_true rfl) (Nat.le_of_ble_eq_true rfl) rfl (c2) (k_I ?_)
  refine (show X _ _ 101 _ _ _ _ _ _ from ?_)
  refine y_pi dX6_advance_101 (pX6_35 _) (by first | assumption) (fun _ _ _ => rfl) rfl rfl ?_
  refine x_aload_n dX6_advance_104 rfl ?_
  refine y_gi dX6_advance_105 fX6_35 (by first | assumption) (fun _ _ _ => rfl) ?_
  refine (show X _ _ 108 _ _ _ _ _ _ from ?_)
  refine X.val (b := (p2 : Int)) (by rw [u2_s, u1_s]) ?_
  refine x_aload_n dX6_advance_108 rfl ?_
  refine y_gi dX6_advance_109 fX6_41 (by first | assumption) (fun _ _ _ => rfl) ?_
  refine (show X _ _ 112 _ _ _ _ _ _ from ?_)
  refine X.val (b := (p0 : Int)) (by rw [u2_s, u1_n (by decide)]; exact v8) ?_
  refine y_icmp_le 154 dX6_advance_112 (by decide) ⟨by omega, by omega⟩ ⟨by omega, by omega⟩ (fun h4 => ?_) (fun h4 => ?_)
  rotate_left
  · rw [if_pos (by omega)]
    have fin : ∀ x : Int, X g mX6_advance 137 [.ref rd] [] (T, iV (u2 (u2 U rd 6 (p2 : Int)) rd 7 x), R, J, z) k n (rV (T, iV (u2 (u2 (u2 U rd 6 (p2 : Int)) rd 7 x) rd 10 (whS (V tx) (p2 - p0) p0 0)), R, J, z)) := by
      intro x
      have c3 := hwh (u2 (u2 U rd 6 (p2 : Int)) rd 7 x) p0 p2 (by omega) (by omega)
      rw [u2_n hne, u2_n hne, vt] at c3
      refine x_aload_n dX6_advance_137 rfl ?_
      refine x_aload_n dX6_advance_138 rfl ?_
      refine x_aload_n dX6_advance_139 rfl ?_
      refine y_gi dX6_advance_140 fX6_41 (by first | assumption) (fun _ _ _ => rfl) ?_
      refine (show X _ _ 143 _ _ _ _ _ _ from ?_)
      refine X.val (b := (p0 : Int)) (by rw [u2_s, u1_n (by decide), u2_s, u1_n (by decide)]; exact v8) ?_
      refine x_aload_n dX6_advance_143 rfl ?_
      refine y_gi dX6_advance_144 fX6_35 (by first | assumption) (fun _ _ _ => rfl) ?_
      refine (show X _ _ 147 _ _ _ _ _ _ from ?_)
      refine X.val (b := (p2 : Int)) (by rw [u2_s, u1_n (by decide), u2_s, u1_s]) ?_
      refine x_callV (As := [_, _]) (mc := 0) (ms := 0) (z := mX6_wholeOf) (ci := 6) dX6_advance_147 lX6_100 oX6_wholeOf (by decide) (by first | assumption) rfl rfl (Nat.le_of_ble_eq_true rfl) (Nat.le_of_ble_eq_true rfl) rfl (c3) (k_I ?_)
      refine (show X _ _ 150 _ _ _ _ _ _ from ?_)
      refine y_pi dX6_advance_150 (pX6_47 _) (by first | assumption) (fun _ _ _ => rfl) rfl rfl ?_
      refine (show X _ _ 153 _ _ _ _ _ _ from ?_)
      exact x_return dX6_advance_153 rfl ⟨rfl, rfl⟩
    refine x_aload_n dX6_advance_115 rfl ?_
    refine x_aload_n dX6_advance_116 rfl ?_
    refine y_gi dX6_advance_117 fX6_35 (by first | assumption) (fun _ _ _ => rfl) ?_
    refine (show X _ _ 120 _ _ _ _ _ _ from ?_)
    refine X.val (b := (p2 : Int)) (by rw [u2_s, u1_s]) ?_
    refine x_aload_n dX6_advance_120 rfl ?_
    refine y_gi dX6_advance_121 fX6_41 (by first | assumption) (fun _ _ _ => rfl) ?_
    refine (show X _ _ 124 _ _ _ _ _ _ from ?_)
    refine X.val (b := (p0 : Int)) (by rw [u2_s, u1_n (by decide)]; exact v8) ?_
    refine y_isub dX6_advance_124 ?_
    refine y_iconst dX6_advance_125 ?_
    refine (show X _ _ 126 _ _ _ _ _ _ from ?_)
    refine y_icmp_gt 133 dX6_advance_126 (by decide) ⟨by omega, by omega⟩ ⟨by omega, by omega⟩ (fun h5 => ?_) (fun h5 => ?_)
    · rw [if_neg (by omega)]
      refine y_iconst dX6_advance_133 ?_
      refine y_pi dX6_advance_134 (pX6_38 _) (by first | assumption) (fun _ _ _ => rfl) rfl rfl ?_
      refine (show X _ _ 137 _ _ _ _ _ _ from ?_)
      exact fin 4
    · rw [if_pos (by omega)]
      refine y_iconst dX6_advance_129 ?_
      refine x_goto 134 dX6_advance_130 (by decide) ?_
      refine y_pi dX6_advance_134 (pX6_38 _) (by first | assumption) (fun _ _ _ => rfl) rfl rfl ?_
      refine (show X _ _ 137 _ _ _ _ _ _ from ?_)
      exact fin 2
  rw [if_neg (by omega)]
  have ep2 : p2 = p0 := by omega
  have eU2 : u2 U rd 6 (p2 : Int) = U := by
    rw [ep2, ← v6]
    exact u2_self
  refine X.pic eU2 ?_
  have fin : ∀ x : Int, X g mX6_advance 177 [.ref rd] [] (T, iV (u2 U rd 7 x), R, J, z) k n (rV (T, iV (u2 (u2 U rd 7 x) rd 6 ((p0 + 1 : Nat) : Int)), R, J, z)) := by
    intro x
    refine x_aload_n dX6_advance_177 rfl ?_
    refine x_dup dX6_advance_178 rfl ?_
    refine y_gi dX6_advance_179 fX6_35 (by first | assumption) (fun _ _ _ => rfl) ?_
    refine (show X _ _ 182 _ _ _ _ _ _ from ?_)
    refine X.val (b := (p0 : Int)) (by rw [u2_s, u1_n (by decide)]; exact v6) ?_
    refine y_iconst dX6_advance_182 ?_
    refine y_iadd dX6_advance_183 ?_
    refine (show X _ _ 184 _ _ _ _ _ _ from ?_)
    have ec : (p0 : Int) + 1 = ((p0 + 1 : Nat) : Int) := by omega
    rw [ec]
    refine y_pi dX6_advance_184 (pX6_35 _) (by first | assumption) (fun _ _ _ => rfl) rfl rfl ?_
    refine (show X _ _ 187 _ _ _ _ _ _ from ?_)
    exact x_return dX6_advance_187 rfl ⟨rfl, rfl⟩
  refine x_aload_n dX6_advance_154 rfl ?_
  refine x_aload_n dX6_advance_155 rfl ?_
  refine x_gr dX6_advance_156 fX6_25 (by first | assumption) (fun _ _ _ => rfl) (by first | assumption) ?_
  refine x_aload_n dX6_advance_159 rfl ?_
  refine y_gi dX6_advance_160 fX6_35 (by first | assumption) (fun _ _ _ => rfl) ?_
  refine (show X _ _ 163 _ _ _ _ _ _ from ?_)
  refine X.val v6 ?_
  refine y_bald (p0) dX6_advance_163 (by first | assumption) (by first | rfl | omega) (by omega) (by decide) ?_
  refine y_bipush dX6_advance_164 rfl ?_
  refine (show X _ _ 166 _ _ _ _ _ _ from ?_)
  rw [← vt]
  refine y_icmp_ne 173 dX6_advance_166 (by decide) ⟨by omega, by omega⟩ ⟨by omega, by omega⟩ (fun h6 => ?_) (fun h6 => ?_)
  · rw [if_neg h6]
    refine y_iconst dX6_advance_173 ?_
    refine y_pi dX6_advance_174 (pX6_38 _) (by first | assumption) (fun _ _ _ => rfl) rfl rfl ?_
    refine (show X _ _ 177 _ _ _ _ _ _ from ?_)
    exact fin 4
  · rw [if_pos h6]
    refine y_iconst dX6_advance_169 ?_
    refine x_goto 174 dX6_advance_170 (by decide) ?_
    refine y_pi dX6_advance_174 (pX6_38 _) (by first | assumption) (fun _ _ _ => rfl) rfl rfl ?_
    refine (show X _ _ 177 _ _ _ _ _ _ from ?_)
    exact fin 3
end C26
