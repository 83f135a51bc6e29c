/-! ===== the class's face: runs on trial ===== -/
section Bd
variable {A B W : Nat → Nat → Int} {y : Nat}
/-- how many died, how many years stood empty: bounds -/
def DB (W : Nat → Nat → Int) (y : Nat) : Prop := (0 ≤ W 0 9 ∧ W 0 9 ≤ (y : Int)) ∧ (0 ≤ W 0 10 ∧ W 0 10 ≤ (y : Int))
theorem take_db (who : Int) (h : DB W y) : DB (takeT A W y who) (y + 1) := by
  have h1 : (tk1 W y who 0 9 = W 0 9) ∧ (tk1 W y who 0 10 = W 0 10 ∨ tk1 W y who 0 10 = W 0 10 + 1) := by
    unfold tk1
    rw [u2_s, u1_n (by decide), u1_n (by decide)]
    split
    · rw [u2_n (by decide)]; exact ⟨rfl, Or.inl rfl⟩
    · rw [u2_s, u1_n (by decide), u1_s, u2_n (by decide)]; exact ⟨rfl, Or.inr rfl⟩
  obtain ⟨⟨a1, a2⟩, ⟨a3, a4⟩⟩ := h
  unfold takeT
  split
  rotate_left
  · refine ⟨?_, ?_⟩ <;> omega
  generalize tk1 W y who = U at h1 ⊢
  generalize who.toNat = p
  have h3 : tk3 A (tk2 A U y p) p 0 9 = U 0 9 ∧ tk3 A (tk2 A U y p) p 0 10 = U 0 10 := by
    have h2 : tk2 A U y p 0 9 = U 0 9 ∧ tk2 A U y p 0 10 = U 0 10 := by
      unfold tk2
      rw [u2_s, u1_n (by decide), u1_n (by decide), u2_n (by decide), u2_n (by decide), u2_s, u1_n (by decide), u1_n (by decide)]
      exact ⟨rfl, rfl⟩
    unfold tk3
    split
    · rw [u2_n (by decide)]; exact h2
    · exact h2
  unfold tkT
  generalize tk3 A (tk2 A U y p) p = U3 at h3 ⊢
  unfold tk4
  split
  · refine ⟨?_, ?_⟩ <;> omega
  · unfold DB
    rw [u2_s, u1_s, u1_n (by decide), u2_s, u1_n (by decide), u2_s, u1_n (by decide)]
    refine ⟨?_, ?_⟩ <;> omega
theorem pass_db (h : DB W y) : DB (passY A B W y) (y + 1) := by
  unfold passY
  refine take_db _ ?_
  unfold DB
  rw [sold_row 0 (by decide), yrW_row 0 9 (by omega), yrW_row 0 10 (by omega)]
  exact h
theorem run_db (h : DB W 0) : ∀ m, DB (runTo A B W m) m
  | 0 => h
  | m + 1 => pass_db (run_db h m)
theorem run_hb (hA : VA A) (h : HB W 0) : ∀ m, HB (runTo A B W m) m
  | 0 => h
  | m + 1 => passY_hb hA (run_hb hA h m)
theorem beg_db {lw sd : Int} : DB (rBeg A W lw sd) 0 := by
  have h := (rBeg_row (A := A) (W := W) (lw := lw) (sd := sd) (fP A)).1
  unfold DB rBeg
  rw [h 9, h 10]
  unfold beg0
  simp (discharger := decide) only [u2_s, u1_s, u1_n]
  exact ⟨⟨by decide, by decide⟩, ⟨by decide, by decide⟩⟩
theorem tbeg_hb {lw sd p q : Int} : HB (tBeg A W lw sd p q) 0 := by
  unfold tBeg HB
  simp (discharger := decide) only [u2_s, u1_n]
  exact rBeg_hb
end Bd
/-- a run by a law, measured -/
def mes (A B : Nat → Nat → Int) (lw wh : Int) : Int := if wh = 0 then rn A B lw (B 0 1) 0 8 else if wh = 1 then rn A B lw (B 0 1) 0 9 else if wh = 2 then spread A B (rn A B lw (B 0 1)) else rn A B lw (B 0 1) 0 10
/-- the best of the laws 0 .. i, and its measure -/
def bl (A B : Nat → Nat → Int) (wh : Int) (i : Nat) : Int × Int := lp i (fun i s => if mes A B ((i : Int) + 1) wh < s.2 then ((i : Int) + 1, mes A B ((i : Int) + 1) wh) else s) (0, mes A B 0 wh)
def trd (A B : Nat → Nat → Int) (p q : Int) : Int := rnT A B p q 0 8 - rn A B (B 0 0) (B 0 1) 0 8
def btS (A B : Nat → Nat → Int) (p : Nat) (i : Nat) (s : Int × Int) : Int × Int := if trd A B (p : Int) ((p : Int) + 1 + i) < s.2 then (100 * (p : Int) + ((p : Int) + 1 + i), trd A B (p : Int) ((p : Int) + 1 + i)) else s
def bt (A B : Nat → Nat → Int) (m : Nat) : Int × Int := lp m (fun p s => lp (fP A - (p + 1)) (btS A B p) s) (-1, 1000000000)
/-- whether the diaries fit a run -/
def dFit (A W : Nat → Nat → Int) : Bool := decide (∀ i, i < fDi A → ((W 4 (A 18 i).toNat = A 19 i) ↔ A 20 i = 0))
/-- all but the run on trial is as it was -/
def TQ (V V' : Nat → Nat → Int) (o : Nat) : Prop := ∀ b, b < o + 171 ∨ o + 176 ≤ b → V' b = V b
section C77
variable {g : GG} {T : Nat → Nat × Nat} {V V' A B : Nat → Nat → Int} {R : Nat → Nat → Option Nat} {J : Nat → Nat → Int64} {z k n : Nat} {o fw fr : Nat} {σ : Nat → Nat} {t : Nat → Int} {tp : Nat} {h : Bool} {a m : Nat} {H K : Nat → Nat → Nat → Int} {wr pl tr : Int}
theorem CI_tq (hI : CI T R V o fw fr σ t tp h A B a m H K wr pl tr) (hq : TQ V V' o) : CI T R V' o fw fr σ t tp h A B a m H K wr pl tr := by
  have hσ : ∀ i, i < 12 → σ i < 12 := fun i hi => (hI.1.2.2.2.1.2.1 i hi).2
  refine CI_pt hI (fun hh => (hI.2.2.2.2.2.2.2.2.1 hh).2.2.2.1.2) (fun hh => (hI.2.2.2.2.2.2.2.2.2 hh).2.2.2) (PC_eq hI.2.2.2.2.1 hσ (fun b q1 q2 => hq b (by omega))) (fun b q1 q2 q3 => hq b (by omega)) (by rw [hq o (by omega)]) (by rw [hq o (by omega)]; exact hI.2.1.2)
theorem CQ_tq {v0 v : Option Value} {M : Mem} (hq : TQ V V' o) (h1 : CQ T R J z V' o v0 t tp h A B a m H K wr pl tr v M) : CQ T R J z V o v0 t tp h A B a m H K wr pl tr v M := by
  obtain ⟨e, V2, R2, fw2, fr2, σ2, e2, e3, e4⟩ := h1
  exact ⟨e, V2, R2, fw2, fr2, σ2, e2, fun b hb => ⟨by rw [(e3 b hb).1, hq b (by omega)], (e3 b hb).2⟩, e4⟩
theorem TQ_r : TQ V V o := fun _ _ => rfl
theorem TQ_t {V2 : Nat → Nat → Int} (h1 : TQ V V' o) (h2 : TQ V' V2 o) : TQ V V2 o := fun b hb => by rw [h2 b hb, h1 b hb]
theorem TQ_p {W : Nat → Nat → Int} : TQ V (pB V (o + 171) 5 W) o := fun b hb => pB_out (by omega)
/-- the annals' run is the canonical one -/
theorem an_rn (hI : CI T R V o fw fr σ t tp true A B a m H K wr pl tr) : RE A (fY A) (fun j => V (o + 155 + 8 + j)) (rn A B (B 0 0) (B 0 1)) := by
  obtain ⟨-, -, -, -, -, ⟨-, -, hA, hB⟩, -, -, g1, -⟩ := hI
  obtain ⟨-, -, ⟨Ni, Wi, -, hAn⟩, -⟩ := g1 rfl
  refine RE.trans ?_ (rn_eq (W := Wi) hA hB hB.1 hB.2.1)
  intro a j hd
  have ha : a < 5 := by unfold dm at hd; omega
  have e := hAn.1 a ha
  show V (o + 155 + 8 + a) j = _
  rw [← e]
  show V (o + 155 + 8 + a) j = V (o + 155 + (8 + a)) j
  rw [show o + 155 + (8 + a) = o + 155 + 8 + a by omega]
theorem c_measure {lw wh : Int} (hI : CI T R V o fw fr σ t tp true A B a m H K wr pl tr) (hl : 0 ≤ lw ∧ lw ≤ 4) (hwh : 0 ≤ wh ∧ wh ≤ 3) : X g mX10_measureByLaw 0 [.ref o, .int (iI lw), .int (iI wh)] [] (T, iV V, R, J, z) k n (fun v M => v = some (.int (iI (mes A B lw wh))) ∧ ∃ V' : Nat → Nat → Int, M = (T, iV V', R, J, z) ∧ TQ V V' o) := by
  obtain ⟨hC, ⟨p6, p7⟩, hr, htx, hP, ⟨f1, f2, f3, f4⟩, ⟨n1, n2⟩, -, g1, -⟩ := hI
  obtain ⟨hy, hAC, -⟩ := g1 rfl
  have hsep := hC.2.2.2.2.2.2.2
  obtain ⟨⟨c0, c1, c2, c3, c4, c5, c6⟩, -, hW, -, -, hRS, -⟩ := hC
  have hW0 := hW
  have hR0 := hRS
  have hap : AP (o + 171) (o + 53) fw (o + 99) (o + 102) := ⟨by omega, by omega, by omega, by omega⟩
  have hWC : WC V fw (o + 99) (o + 102) A B := ⟨f1, f2, hAC, f3, f4⟩
  have bg := c_begin (g := g) (J := J) (z := z) (k := 0) (n := 0) (V := V) (W := fun j => V (o + 171 + j)) (lw := lw) (sd := B 0 1) hRS hW hWC hap
  rw [pB_self (fun _ _ => rfl)] at bg
  have hok := rBeg_ok (W := fun j => V (o + 171 + j)) f3 hl f4.2.1
  have py := c_passYears (g := g) (J := J) (z := z) (k := 0) (n := 0) (V := V) (W := rBeg A (fun j => V (o + 171 + j)) lw (B 0 1)) hRS hW hWC hap hok
  have hre := rn_eq (W := fun j => V (o + 171 + j)) f3 f4 hl f4.2.1
  have hrok := runTo_ok f3 f4 hok (fY A)
  have hY := fY24 f3
  have sp := c_spread (g := g) (J := J) (z := z) (k := 0) (n := 0) (V := V) (W := runTo A B (rBeg A (fun j => V (o + 171 + j)) lw (B 0 1)) (fY A)) hRS hW hWC hap hrok.2.2.2.2.1 (by omega) (fun p hp => by have := hrok.2.2.2.2.2.2.2.1 p hp; omega)
  obtain ⟨⟨w0, w1, w2, w3⟩, hFS, hNS, hAS⟩ := hW
  have nn := hNS.1
  have r0 := hRS.1.1
  have h1 := f2.1 1 (by decide)
  generalize eW : runTo A B (rBeg A (fun j => V (o + 171 + j)) lw (B 0 1)) (fY A) = W at *
  unfold mes
  refine x_aload_n dX10_measureByLaw_0 rfl ?_
  refine x_gr dX10_measureByLaw_1 fX10_42 (by first | assumption) (fun _ _ _ => rfl) (by first | assumption) ?_
  refine x_iload_n dX10_measureByLaw_4 rfl ?_
  refine x_aload_n dX10_measureByLaw_5 rfl ?_
  refine x_gr dX10_measureByLaw_6 fX10_19 (by first | assumption) (fun _ _ _ => rfl) (by first | assumption) ?_
  refine x_gr dX10_measureByLaw_9 fX10_81 (by first | assumption) (fun _ _ _ => rfl) (by first | assumption) ?_
  refine y_gi dX10_measureByLaw_12 fX10_237 (by first | assumption) (fun _ _ _ => rfl) ?_
  refine (show X _ _ 15 _ _ _ _ _ _ from ?_)
  refine X.val h1 ?_
  refine x_callV (As := [_, _]) (mc := 0) (ms := 0) (z := mX8_begin) (ci := 8) dX10_measureByLaw_15 lX10_269 oX8_begin (by decide) (by first | assumption) rfl rfl (Nat.le_of_ble_eq_true rfl) (Nat.le_of_ble_eq_true rfl) rfl (bg) (k_V ?_)
  refine (show X _ _ 18 _ _ _ _ _ _ from ?_)
  refine x_aload_n dX10_measureByLaw_18 rfl ?_
  refine x_gr dX10_measureByLaw_19 fX10_42 (by first | assumption) (fun _ _ _ => rfl) (by first | assumption) ?_
  refine (show X _ _ 22 _ _ _ _ _ _ from ?_)
  refine x_callV (As := []) (mc := 0) (ms := 0) (z := mX8_passYears) (ci := 8) dX10_measureByLaw_22 lX10_273 oX8_passYears (by decide) (by first | assumption) rfl rfl (Nat.le_of_ble_eq_true rfl) (Nat.le_of_ble_eq_true rfl) rfl (py) (k_V ?_)
  refine (show X _ _ 25 _ _ _ _ _ _ from ?_)
  refine x_iload_n dX10_measureByLaw_25 rfl ?_
  refine (show X _ _ 26 _ _ _ _ _ _ from ?_)
  have hc : wh = 0 ∨ wh = 1 ∨ wh = 2 ∨ wh = 3 := by omega
  rcases hc with rfl | rfl | rfl | rfl
  · rw [if_pos rfl]
    refine y_tsIn 52 dX10_measureByLaw_26 ⟨by omega, by omega⟩ (by decide) (by decide) rfl (by decide) ?_
    refine x_aload_n dX10_measureByLaw_52 rfl ?_
    refine x_gr dX10_measureByLaw_53 fX10_42 (by first | assumption) (fun _ _ _ => rfl) (by first | assumption) ?_
    refine y_gi dX10_measureByLaw_56 fX10_179 (by first | assumption) (fun _ _ _ => rfl) ?_
    refine (show X _ _ 59 _ _ _ _ _ _ from ?_)
    rw [pB_0 (by decide), RE_0 hre (j := 8) (by decide) (by decide)]
    exact x_ireturn dX10_measureByLaw_59 rfl ⟨rfl, _, rfl, TQ_p⟩
  · rw [if_neg (by decide), if_pos rfl]
    refine y_tsIn 60 dX10_measureByLaw_26 ⟨by omega, by omega⟩ (by decide) (by decide) rfl (by decide) ?_
    refine x_aload_n dX10_measureByLaw_60 rfl ?_
    refine x_gr dX10_measureByLaw_61 fX10_42 (by first | assumption) (fun _ _ _ => rfl) (by first | assumption) ?_
    refine y_gi dX10_measureByLaw_64 fX10_197 (by first | assumption) (fun _ _ _ => rfl) ?_
    refine (show X _ _ 67 _ _ _ _ _ _ from ?_)
    rw [pB_0 (by decide), RE_0 hre (j := 9) (by decide) (by decide)]
    exact x_ireturn dX10_measureByLaw_67 rfl ⟨rfl, _, rfl, TQ_p⟩
  · rw [if_neg (by decide), if_neg (by decide), if_pos rfl]
    refine y_tsIn 68 dX10_measureByLaw_26 ⟨by omega, by omega⟩ (by decide) (by decide) rfl (by decide) ?_
    refine x_aload_n dX10_measureByLaw_68 rfl ?_
    refine x_gr dX10_measureByLaw_69 fX10_42 (by first | assumption) (fun _ _ _ => rfl) (by first | assumption) ?_
    refine (show X _ _ 72 _ _ _ _ _ _ from ?_)
    refine x_callV (As := []) (mc := 0) (ms := 0) (z := mX8_spread) (ci := 8) dX10_measureByLaw_72 lX10_193 oX8_spread (by decide) (by first | assumption) rfl rfl (Nat.le_of_ble_eq_true rfl) (Nat.le_of_ble_eq_true rfl) rfl (sp) (k_I ?_)
    refine (show X _ _ 75 _ _ _ _ _ _ from ?_)
    rw [RE_spread hre]
    exact x_ireturn dX10_measureByLaw_75 rfl ⟨rfl, _, rfl, TQ_p⟩
  · rw [if_neg (by decide), if_neg (by decide), if_neg (by decide)]
    refine y_tsOut 76 dX10_measureByLaw_26 ⟨by omega, by omega⟩ (by decide) (by decide) ?_
    refine x_aload_n dX10_measureByLaw_76 rfl ?_
    refine x_gr dX10_measureByLaw_77 fX10_42 (by first | assumption) (fun _ _ _ => rfl) (by first | assumption) ?_
    refine y_gi dX10_measureByLaw_80 fX10_343 (by first | assumption) (fun _ _ _ => rfl) ?_
    refine (show X _ _ 83 _ _ _ _ _ _ from ?_)
    rw [pB_0 (by decide), RE_0 hre (j := 10) (by decide) (by decide)]
    exact x_ireturn dX10_measureByLaw_83 rfl ⟨rfl, _, rfl, TQ_p⟩
theorem rn_ok {lw sd : Int} (hA : VA A) (hB : VB A B) (hl : 0 ≤ lw ∧ lw ≤ 4) (hs : 0 ≤ sd ∧ sd ≤ 65536) : ROk A (rn A B lw sd) (fY A) := runTo_ok hA hB (rBeg_ok hA hl hs) _
theorem mes_b {lw wh : Int} (hA : VA A) (hB : VB A B) (hl : 0 ≤ lw ∧ lw ≤ 4) : -1000000001 ≤ mes A B lw wh ∧ mes A B lw wh ≤ 1000000000 := by
  have hY := fY24 hA
  have hk := rn_ok (lw := lw) hA hB hl hB.2.1
  have h1 : HB (rn A B lw (B 0 1)) (fY A) := run_hb hA rBeg_hb _
  have h2 : DB (rn A B lw (B 0 1)) (fY A) := run_db beg_db _
  have h3 := sp_b (W := rn A B lw (B 0 1)) (th := rTh A B (rn A B lw (B 0 1)) (fY A - 1)) (fun p hp => by have := hk.2.2.2.2.2.2.2.1 p hp; omega) (fP A) (Nat.le_refl _)
  obtain ⟨h11, h12⟩ := h1
  obtain ⟨⟨h21, h22⟩, ⟨h23, h24⟩⟩ := h2
  unfold mes spread
  split
  · omega
  split
  · omega
  split
  · split <;> omega
  · omega
theorem bl_b {wh : Int} (hA : VA A) (hB : VB A B) : ∀ i, i ≤ 4 → (-1000000001 ≤ (bl A B wh i).2 ∧ (bl A B wh i).2 ≤ 1000000000)
  | 0, _ => mes_b hA hB (by omega)
  | i + 1, hi => by
    have ih := bl_b (wh := wh) hA hB i (by omega)
    have hm := mes_b (wh := wh) (lw := (i : Int) + 1) hA hB (by omega)
    unfold bl at ih ⊢
    rw [lp_s]
    split
    · exact hm
    · exact ih
theorem f_byLaw {lw wh : Int} (hI : CI T R V o fw fr σ t tp h A B a m H K wr pl tr) (hl : R32 lw) (hw : R32 wh) : X g mX10_byLaw 0 [.ref o, .int (iI lw), .int (iI wh)] [] (T, iV V, R, J, z) k n (CQ T R J z V o (some (.int (iI (if h = true ∧ (0 ≤ lw ∧ lw < 5) ∧ (0 ≤ wh ∧ wh < 4) then mes A B lw wh else -1)))) t tp h A B a m H K wr pl (if h = true ∧ (0 ≤ lw ∧ lw < 5) ∧ (0 ≤ wh ∧ wh < 4) then 0 else 1)) := by
  have hI0 := hI
  obtain ⟨hC, ⟨p6, p7⟩, -⟩ := hI
  have hrf := fun y => c_refuse (g := g) (J := J) (z := z) (k := 0) (n := 0) (V := V) (x := y) hC
  have hnl := c_isNoLaw (g := g) (k := 0) (n := 0) (p := lw) (M := (T, iV V, R, J, z)) hl
  have hnm := c_isNoMeasure (g := g) (k := 0) (n := 0) (p := wh) (M := (T, iV V, R, J, z)) hw
  have hC0 := hC
  obtain ⟨⟨c0, c1, c2, -⟩, -⟩ := hC
  have bad : ¬ (h = true ∧ (0 ≤ lw ∧ lw < 5) ∧ (0 ≤ wh ∧ wh < 4)) → X g mX10_byLaw 21 [.ref o, .int (iI lw), .int (iI wh)] [] (T, iV V, R, J, z) k n (CQ T R J z V o (some (.int (iI (if h = true ∧ (0 ≤ lw ∧ lw < 5) ∧ (0 ≤ wh ∧ wh < 4) then mes A B lw wh else -1)))) t tp h A B a m H K wr pl (if h = true ∧ (0 ≤ lw ∧ lw < 5) ∧ (0 ≤ wh ∧ wh < 4) then 0 else 1)) := by
    intro e
    rw [if_neg e, if_neg e]
    refine x_aload_n dX10_byLaw_21 rfl ?_
    refine y_iconst dX10_byLaw_22 ?_
    refine (show X _ _ 23 _ _ _ _ _ _ from ?_)
    refine x_callV (As := [_]) (mc := 0) (ms := 0) (z := mX10_refuse) (ci := 10) dX10_byLaw_23 lX10_68 oX10_refuse (by decide) (by first | assumption) rfl rfl (Nat.le_of_ble_eq_true rfl) (Nat.le_of_ble_eq_true rfl) rfl (hrf _) (k_I ?_)
    refine (show X _ _ 26 _ _ _ _ _ _ from ?_)
    exact x_ireturn dX10_byLaw_26 rfl (CQ_tr hI0 _ _)
  refine x_aload_n dX10_byLaw_0 rfl ?_
  refine y_gi dX10_byLaw_1 fX10_53 (by first | assumption) (fun _ _ _ => rfl) ?_
  refine (show X _ _ 4 _ _ _ _ _ _ from ?_)
  refine X.val p6 ?_
  refine y_ifb_eq 21 dX10_byLaw_4 (by decide) (fun e => ?_) (fun e => ?_)
  · exact bad (fun c => by rw [e] at c; cases c.1)
  refine x_iload_n dX10_byLaw_7 rfl ?_
  refine (show X _ _ 8 _ _ _ _ _ _ from ?_)
  refine x_callS (As := [_]) (mc := 0) (ms := 0) (z := mX10_isNoLaw) dX10_byLaw_8 lX10_206 oX10_isNoLaw (by decide) rfl (Nat.le_of_ble_eq_true rfl) (Nat.le_of_ble_eq_true rfl) rfl (hnl) (k_I ?_)
  refine (show X _ _ 11 _ _ _ _ _ _ from ?_)
  refine y_ifb_ne 21 dX10_byLaw_11 (by decide) (fun e1 => ?_) (fun e1 => ?_)
  · exact bad (fun c => (of_decide_eq_true e1) c.2.1)
  refine x_iload_n dX10_byLaw_14 rfl ?_
  refine (show X _ _ 15 _ _ _ _ _ _ from ?_)
  refine x_callS (As := [_]) (mc := 0) (ms := 0) (z := mX10_isNoMeasure) dX10_byLaw_15 lX10_209 oX10_isNoMeasure (by decide) rfl (Nat.le_of_ble_eq_true rfl) (Nat.le_of_ble_eq_true rfl) rfl (hnm) (k_I ?_)
  refine (show X _ _ 18 _ _ _ _ _ _ from ?_)
  refine y_ifb_eq 27 dX10_byLaw_18 (by decide) (fun e2 => ?_) (fun e2 => ?_)
  rotate_left
  · exact bad (fun c => (of_decide_eq_true e2) c.2.2)
  have e3 : 0 ≤ lw ∧ lw < 5 := Classical.byContradiction fun c => (of_decide_eq_false e1) c
  have e4 : 0 ≤ wh ∧ wh < 4 := Classical.byContradiction fun c => (of_decide_eq_false e2) c
  rw [if_pos ⟨e, e3, e4⟩, if_pos ⟨e, e3, e4⟩]
  subst e
  have cm := c_measure (g := g) (J := J) (z := z) (k := 0) (n := 0) (lw := lw) (wh := wh) hI0 (by omega) (by omega)
  refine x_aload_n dX10_byLaw_27 rfl ?_
  refine x_aload_n dX10_byLaw_28 rfl ?_
  refine x_iload_n dX10_byLaw_29 rfl ?_
  refine x_iload_n dX10_byLaw_30 rfl ?_
  refine (show X _ _ 31 _ _ _ _ _ _ from ?_)
  refine x_callV (As := [_, _]) (mc := 0) (ms := 0) (z := mX10_measureByLaw) (ci := 10) dX10_byLaw_31 lX10_212 oX10_measureByLaw (by decide) (by first | assumption) rfl rfl (Nat.le_of_ble_eq_true rfl) (Nat.le_of_ble_eq_true rfl) rfl (cm) (fun v M1 hq => ?_)
  obtain ⟨rfl, V1, rfl, hq⟩ := hq
  have hgr := c_grant (g := g) (J := J) (z := z) (k := 0) (n := 0) (V := V1) (x := mes A B lw wh) hC0
  refine (show X _ _ 34 _ [.int (iI (mes A B lw wh)), .ref o] _ _ _ _ from ?_)
  refine x_callV (As := [_]) (mc := 0) (ms := 0) (z := mX10_grant) (ci := 10) dX10_byLaw_34 lX10_116 oX10_grant (by decide) (by first | assumption) rfl rfl (Nat.le_of_ble_eq_true rfl) (Nat.le_of_ble_eq_true rfl) rfl (hgr) (k_I ?_)
  refine (show X _ _ 37 _ _ _ _ _ _ from ?_)
  exact x_ireturn dX10_byLaw_37 rfl (CQ_tq hq (CQ_tr (CI_tq hI0 hq) _ _))
theorem f_bestLaw {wh : Int} (hI : CI T R V o fw fr σ t tp h A B a m H K wr pl tr) (hw : R32 wh) : X g mX10_bestLaw 0 [.ref o, .int (iI wh), jk, jk, jk, jk] [] (T, iV V, R, J, z) k n (CQ T R J z V o (some (.int (iI (if h = true ∧ (0 ≤ wh ∧ wh < 4) then (bl A B wh 4).1 else -1)))) t tp h A B a m H K wr pl (if h = true ∧ (0 ≤ wh ∧ wh < 4) then 0 else 1)) := by
  have hI0 := hI
  obtain ⟨hC, ⟨p6, p7⟩, -, -, -, ⟨-, -, f3, f4⟩, -⟩ := hI
  have hrf := fun y => c_refuse (g := g) (J := J) (z := z) (k := 0) (n := 0) (V := V) (x := y) hC
  have hnm := c_isNoMeasure (g := g) (k := 0) (n := 0) (p := wh) (M := (T, iV V, R, J, z)) hw
  have hC0 := hC
  obtain ⟨⟨c0, c1, c2, -⟩, -⟩ := hC
  have bad : ¬ (h = true ∧ (0 ≤ wh ∧ wh < 4)) → X g mX10_bestLaw 14 [.ref o, .int (iI wh), jk, jk, jk, jk] [] (T, iV V, R, J, z) k n (CQ T R J z V o (some (.int (iI (if h = true ∧ (0 ≤ wh ∧ wh < 4) then (bl A B wh 4).1 else -1)))) t tp h A B a m H K wr pl (if h = true ∧ (0 ≤ wh ∧ wh < 4) then 0 else 1)) := by
    intro e
    rw [if_neg e, if_neg e]
    refine x_aload_n dX10_bestLaw_14 rfl ?_
    refine y_iconst dX10_bestLaw_15 ?_
    refine (show X _ _ 16 _ _ _ _ _ _ from ?_)
    refine x_callV (As := [_]) (mc := 0) (ms := 0) (z := mX10_refuse) (ci := 10) dX10_bestLaw_16 lX10_68 oX10_refuse (by decide) (by first | assumption) rfl rfl (Nat.le_of_ble_eq_true rfl) (Nat.le_of_ble_eq_true rfl) rfl (hrf _) (k_I ?_)
    refine (show X _ _ 19 _ _ _ _ _ _ from ?_)
    exact x_ireturn dX10_bestLaw_19 rfl (CQ_tr hI0 _ _)
  refine x_aload_n dX10_bestLaw_0 rfl ?_
  refine y_gi dX10_bestLaw_1 fX10_53 (by first | assumption) (fun _ _ _ => rfl) ?_
  refine (show X _ _ 4 _ _ _ _ _ _ from ?_)
  refine X.val p6 ?_
  refine y_ifb_eq 14 dX10_bestLaw_4 (by decide) (fun e => ?_) (fun e => ?_)
  · exact bad (fun c => by rw [e] at c; cases c.1)
  refine x_iload_n dX10_bestLaw_7 rfl ?_
  refine (show X _ _ 8 _ _ _ _ _ _ from ?_)
  refine x_callS (As := [_]) (mc := 0) (ms := 0) (z := mX10_isNoMeasure) dX10_bestLaw_8 lX10_209 oX10_isNoMeasure (by decide) rfl (Nat.le_of_ble_eq_true rfl) (Nat.le_of_ble_eq_true rfl) rfl (hnm) (k_I ?_)
  refine (show X _ _ 11 _ _ _ _ _ _ from ?_)
  refine y_ifb_eq 20 dX10_bestLaw_11 (by decide) (fun e2 => ?_) (fun e2 => ?_)
  rotate_left
  · exact bad (fun c => (of_decide_eq_true e2) c.2)
  have e4 : 0 ≤ wh ∧ wh < 4 := Classical.byContradiction fun c => (of_decide_eq_false e2) c
  rw [if_pos ⟨e, e4⟩, if_pos ⟨e, e4⟩]
  subst e
  have cm := fun (V' : Nat → Nat → Int) (hq : TQ V V' o) (lw : Int) (hl : 0 ≤ lw ∧ lw ≤ 4) => c_measure (g := g) (J := J) (z := z) (k := 0) (n := 0) (lw := lw) (wh := wh) (CI_tq hI0 hq) hl (by omega)
  refine y_iconst dX10_bestLaw_20 ?_
  refine x_istore_n dX10_bestLaw_21 (by decide) rfl rfl ?_
  refine x_aload_n dX10_bestLaw_22 rfl ?_
  refine y_iconst dX10_bestLaw_23 ?_
  refine x_iload_n dX10_bestLaw_24 rfl ?_
  refine (show X _ _ 25 _ _ _ _ _ _ from ?_)
  refine x_callV (As := [_, _]) (mc := 0) (ms := 0) (z := mX10_measureByLaw) (ci := 10) dX10_bestLaw_25 lX10_212 oX10_measureByLaw (by decide) (by first | assumption) rfl rfl (Nat.le_of_ble_eq_true rfl) (Nat.le_of_ble_eq_true rfl) rfl (cm V TQ_r 0 (by omega)) (fun v M1 hq => ?_)
  obtain ⟨rfl, V1, rfl, hq⟩ := hq
  refine (show X _ _ 28 _ [.int (iI (mes A B 0 wh))] _ _ _ _ from ?_)
  refine x_istore_n dX10_bestLaw_28 (by decide) rfl rfl ?_
  refine y_iconst dX10_bestLaw_29 ?_
  refine x_istore dX10_bestLaw_30 (by decide) rfl rfl ?_
  refine (show X _ _ 32 _ _ _ _ _ _ from ?_)
  refine loopN (P := fun i => ∀ V1, TQ V V1 o → X g mX10_bestLaw 32 [.ref o, .int (iI wh), .int (iI (bl A B wh i).1), .int (iI (bl A B wh i).2), .int (iI ((i : Int) + 1)), jk] [] (T, iV V1, R, J, z) k n (CQ T R J z V o (some (.int (iI ((bl A B wh 4).1)))) t tp true A B a m H K wr pl 0)) 4 ?_ (fun i hi ih => ?_) V1 hq
  · intro V1 hq
    have hgr := c_grant (g := g) (J := J) (z := z) (k := 0) (n := 0) (V := V1) (x := (bl A B wh 4).1) hC0
    refine x_iload dX10_bestLaw_32 rfl ?_
    refine y_iconst dX10_bestLaw_34 ?_
    refine (show X _ _ 35 _ _ _ _ _ _ from ?_)
    refine y_icmp_ge 65 dX10_bestLaw_35 (by decide) ⟨by omega, by omega⟩ ⟨by omega, by omega⟩ (fun h1 => ?_) (fun h1 => ?_)
    rotate_left
    · omega
    refine x_aload_n dX10_bestLaw_65 rfl ?_
    refine x_iload_n dX10_bestLaw_66 rfl ?_
    refine (show X _ _ 67 _ _ _ _ _ _ from ?_)
    refine x_callV (As := [_]) (mc := 0) (ms := 0) (z := mX10_grant) (ci := 10) dX10_bestLaw_67 lX10_116 oX10_grant (by decide) (by first | assumption) rfl rfl (Nat.le_of_ble_eq_true rfl) (Nat.le_of_ble_eq_true rfl) rfl (hgr) (k_I ?_)
    refine (show X _ _ 70 _ _ _ _ _ _ from ?_)
    exact x_ireturn dX10_bestLaw_70 rfl (CQ_tq hq (CQ_tr (CI_tq hI0 hq) _ _))
  · intro V1 hq0
    have hb := bl_b (wh := wh) f3 f4 i (by omega)
    have hm := mes_b (wh := wh) (lw := (i : Int) + 1) f3 f4 (by omega)
    have es : bl A B wh (i + 1) = if mes A B ((i : Int) + 1) wh < (bl A B wh i).2 then ((i : Int) + 1, mes A B ((i : Int) + 1) wh) else bl A B wh i := rfl
    refine x_iload dX10_bestLaw_32 rfl ?_
    refine y_iconst dX10_bestLaw_34 ?_
    refine (show X _ _ 35 _ _ _ _ _ _ from ?_)
    refine y_icmp_ge 65 dX10_bestLaw_35 (by decide) ⟨by omega, by omega⟩ ⟨by omega, by omega⟩ (fun h1 => ?_) (fun h1 => ?_)
    · omega
    refine x_aload_n dX10_bestLaw_38 rfl ?_
    refine x_iload dX10_bestLaw_39 rfl ?_
    refine x_iload_n dX10_bestLaw_41 rfl ?_
    refine (show X _ _ 42 _ _ _ _ _ _ from ?_)
    refine x_callV (As := [_, _]) (mc := 0) (ms := 0) (z := mX10_measureByLaw) (ci := 10) dX10_bestLaw_42 lX10_212 oX10_measureByLaw (by decide) (by first | assumption) rfl rfl (Nat.le_of_ble_eq_true rfl) (Nat.le_of_ble_eq_true rfl) rfl (cm V1 hq0 ((i : Int) + 1) (by omega)) (fun v M1 hq => ?_)
    obtain ⟨rfl, V2, rfl, hq2⟩ := hq
    refine (show X _ _ 45 _ [.int (iI (mes A B ((i : Int) + 1) wh))] _ _ _ _ from ?_)
    have ih := ih V2 (TQ_t hq0 hq2)
    rw [es] at ih
    refine x_istore dX10_bestLaw_45 (by decide) rfl rfl ?_
    refine x_iload dX10_bestLaw_47 rfl ?_
    refine x_iload_n dX10_bestLaw_49 rfl ?_
    refine (show X _ _ 50 _ _ _ _ _ _ from ?_)
    refine y_icmp_ge 59 dX10_bestLaw_50 (by decide) ⟨by omega, by omega⟩ ⟨by omega, by omega⟩ (fun h2 => ?_) (fun h2 => ?_)
    · rw [if_neg (by omega)] at ih
      refine y_iinc dX10_bestLaw_59 rfl (by decide) rfl rfl ?_
      refine x_goto 32 dX10_bestLaw_62 (by decide) ?_
      refine (show X _ _ 32 _ _ _ _ _ _ from ?_)
      exact X.drop 5 rfl ih
    · rw [if_pos h2] at ih
      refine x_iload dX10_bestLaw_53 rfl ?_
      refine x_istore_n dX10_bestLaw_55 (by decide) rfl rfl ?_
      refine x_iload dX10_bestLaw_56 rfl ?_
      refine x_istore_n dX10_bestLaw_58 (by decide) rfl rfl ?_
      refine y_iinc dX10_bestLaw_59 rfl (by decide) rfl rfl ?_
      refine x_goto 32 dX10_bestLaw_62 (by decide) ?_
      refine (show X _ _ 32 _ _ _ _ _ _ from ?_)
      exact X.drop 5 rfl ih
end C77
