/-! ===== a picture of the heap, and one judgement X that hides the machine ===== -/
/-- a method: its name, code, locals, what it returns, how deep it calls -/
abbrev MD : Type := MethodName × ByteArray × Nat × Option FieldType × Nat
/-- the picture: kinds and lengths, ints, references, longs, how many cells -/
abbrev Mem : Type := (Nat → Nat × Nat) × (Nat → Nat → Int32) × (Nat → Nat → Option Nat) × (Nat → Nat → Int64) × Nat
/-- what is fixed from the law's entry on: classes, array classes, where the literals lie and their bytes, where new cells begin -/
abbrev GG : Type := va_G × (Nat → ClassId) × (Nat → Nat) × (Nat → Nat) × Nat
def gA (g : GG) : Nat → Prop := fun q => g.2.2.2.2 ≤ q
/-- the kinds of arrays -/
def aTy : Nat → FieldType := fun k => match k with
  | 1 => .int
  | 2 => .byte
  | 3 => .boolean
  | 4 => .long
  | 5 => .array .int
  | _ => .object "ElderTurn$Now"
def fvl (ty : FieldType) (i : Int32) (r : Option Nat) (j : Int64) : Value := match ty with
  | .long => .long j
  | .object _ => va_rf r
  | .array _ => va_rf r
  | _ => .int i
def gTys (g : GG) : List (ClassId × FieldType) := [(g.2.1 1, .int), (g.2.1 2, .byte), (g.2.1 3, .boolean), (g.2.1 4, .long), (g.2.1 5, .array .int), (g.2.1 6, .object "ElderTurn$Now")]
def mCell (g : GG) (t : Nat × Nat) (a : Nat) (I : Nat → Int32) (R : Nat → Option Nat) (J : Nat → Int64) (U : State) (H : Heap) : Prop :=
  if t.1 = 0 then True
  else if t.1 ≤ 6 then gA g a ∧ H[a]? = some (arrV (g.2.1 t.1) t.2 (fun j => fvl (aTy t.1) (I j) (R j) (J j)))
  else if t.1 = 7 then ¬ gA g a ∧ va_X a t.2 I U H
  else if t.1 = 8 then t.2 < nStr ∧ a = g.2.2.1 t.2
  else if t.1 = 9 then True
  else gA g a ∧ ∃ q : vw_C, vwCl[t.1 - 10]? = some q ∧ t_OB a (g.1.1 (t.1 - 10)) q.2.2 (g.1.2 (t.1 - 10)) H (fun k => fvl (tyC (t.1 - 10) k) (I k) (R k) (J k))
/-- the literals, the statics that their methods read, and those that a throw reads -/
def gStr (g : GG) (U : State) (H : Heap) : Prop := (∀ i : Nat, i < nStr → va_O "java/lang/String" (g.2.2.1 i) (gA g) U H ∧ va_OF "java/lang/String" "coder" "B" (.int 0) (g.2.2.1 i) (gA g) U H ∧ va_OF "java/lang/String" "value" "[B" (.ref (g.2.2.2.1 i)) (g.2.2.1 i) (gA g) U H ∧ va_T .byte (g.2.2.2.1 i) (lenStr.getD i 0) (fun j => .int ((bytStr.getD i []).getD j 0)) (gA g) U H) ∧ va_Z "java/lang/String" "COMPACT_STRINGS" "Z" (.int 1) (gA g) U H ∧ va_Zq "jdk/internal/util/Preconditions" "SIOOBE_FORMATTER" "Ljava/util/function/BiFunction;" (gA g) U H ∧ vx_Zq Jvm.Bundle.tN "UNASSIGNED_STACK" Jvm.Bundle.steD (gA g) U H ∧ vx_Zq Jvm.Bundle.tN "SUPPRESSED_SENTINEL" Jvm.Bundle.listD (gA g) U H
/-- the one who is thrown, and what its maker's makers are -/
def nseN : String := "java/util/NoSuchElementException"
def thD : List MethodName := [⟨"java/lang/RuntimeException", "<init>", "()V"⟩, ⟨"java/lang/Exception", "<init>", "()V"⟩, ⟨"java/lang/Throwable", "<init>", "()V"⟩]
/-- what the tables say that no word of the list says -/
def SW (g : GG) (U : State) : Prop := va_K g.1 vwCl (gTys g) U ∧ (∀ w ∈ nwF, va_Nw (.fieldLinkNest w.1 w.2.1 w.2.2.1 w.2.2.2.1 w.2.2.2.2.1 w.2.2.2.2.2) U) ∧ (∀ w ∈ nwM, va_Nw (.methodLinkNest w.1 w.2.1 w.2.2.1 w.2.2.2) U) ∧ va_AO "ElderTurn$Now" U ∧ (Cond.arrayOver (.array .int)).before #[] U = true ∧ (∀ w ∈ strL, vk_R w.1 w.2.1 w.2.2.1 (g.2.2.1 w.2.2.2) U) ∧ (∀ w ∈ thD, va_Nw (.declares w) U) ∧ va_Nw (.castable nseN nseN) U
/-- the heap is as the picture says -/
def Wm (g : GG) (M : Mem) (U : State) (H : Heap) : Prop := (∀ a, mCell g (M.1 a) a (M.2.1 a) (M.2.2.1 a) (M.2.2.2.1 a) U H) ∧ gStr g U H ∧ H.size = M.2.2.2.2 ∧ g.2.2.2.2 ≤ H.size
def jk : Value := .retAddr 0
/-- the locals: what is not jk is there -/
def lvR (ls : Array Slot) (nL : Nat) (L : List Value) : Prop := ls.size = nL ∧ lv_wf ls ∧ ∀ (i : Nat) (v : Value), L[i]? = some v → v ≠ jk → ls[i]? = some (.val v)
/-- what holds all through a method's body -/
def Cx (g : GG) (y : MD) (p : Program) (R : Room) (s : State) (m : MethodId) (args : Array Value) (meth : Method) (c : Code) : Prop :=
  p.tables.exec = Jvm.exec ∧ c.code = y.2.1 ∧ c.maxLocals = y.2.2.1 ∧ s.vm.findClass y.1.cls = some m.cls ∧ (∀ w ∈ tb, w.before args s = true) ∧ meth.sig.returnType = y.2.2.2.1 ∧ meth.locks = false ∧ meth.name = y.1.name ∧ SW g s ∧ y.2.2.2.2 ≤ R.frames ∧ 37 * y.2.2.2.2 ≤ R.locals
/-- what is changed lies where it may -/
def Fr (g : GG) (s : State) (H : Heap) (locs : List Loc) : Prop := va_S (gA g) s.heap H locs
/-- a return of v at pc -/
def retAt (y : MD) (pc : Nat) (v : Option Value) : Prop := match v with
  | none => decode y.2.1 pc = .ok (.return_, 1) ∧ y.2.2.2.1 = none
  | some (.int x) => decode y.2.1 pc = .ok (.ireturn, 1) ∧ ∃ ty, y.2.2.2.1 = some ty ∧ narrow ty (.int x) = .int x
  | some (.long _) => decode y.2.1 pc = .ok (.lreturn, 1) ∧ y.2.2.2.1 = some .long
  | _ => False
/-- from here the method comes to its end, with Q of what it returns and of the picture; k cells and n slots may be made -/
def X (g : GG) (y : MD) (pc : Nat) (L S : List Value) (M : Mem) (k n : Nat) (Q : Option Value → Mem → Prop) : Prop :=
  ∀ (l : Launch) (p : Program) (e : Env) (R : Room) (s : State) (m : MethodId) (args : Array Value) (below : List Frame) (meth : Method) (c : Code) (H : Heap) (ls : Array Slot) (locs : List Loc) (cells slots : Nat) (QF : State → Prop),
    l.stackTraces = false → Cx g y p R s m args meth c → lvR ls y.2.2.1 L → Wm g M s H → Fr g s H locs → cells + k ≤ R.cells → slots + n ≤ R.slots →
    (∀ (v : Option Value) (M1 : Mem) (pc1 : Nat) (H1 : Heap) (ls1 : Array Slot) (locs1 : List Loc) (c1 n1 : Nat), retAt y pc1 v → Q v M1 → Wm g M1 s H1 → Fr g s H1 locs1 → c1 ≤ R.cells → n1 ≤ R.slots → W p l e R s m args below meth c H1 locs1 c1 n1 QF (F0 m pc1 ls1 v.toList)) →
    W p l e R s m args below meth c H locs cells slots QF (F0 m pc ls S)
section XR
variable {g : GG} {y : MD} {pc pc' : Nat} {L L' S S' : List Value} {M : Mem} {k n : Nat} {Q Q' : Option Value → Mem → Prop}
theorem X.mono (h : X g y pc L S M k n Q) (hq : ∀ v M1, Q v M1 → Q' v M1) : X g y pc L S M k n Q' :=
  fun l p e R s m args below meth c H ls locs cells slots QF a1 a2 a3 a4 a5 a6 a7 a8 => h l p e R s m args below meth c H ls locs cells slots QF a1 a2 a3 a4 a5 a6 a7 (fun v M1 pc1 H1 ls1 locs1 c1 n1 b1 b2 => a8 v M1 pc1 H1 ls1 locs1 c1 n1 b1 (hq v M1 b2))
theorem X.less {k' n' : Nat} (h : X g y pc L S M k' n' Q) (hk : k' ≤ k) (hn : n' ≤ n) : X g y pc L S M k n Q :=
  fun l p e R s m args below meth c H ls locs cells slots QF a1 a2 a3 a4 a5 a6 a7 a8 => h l p e R s m args below meth c H ls locs cells slots QF a1 a2 a3 a4 a5 (by omega) (by omega) a8
/-- a step that touches the stack alone -/
theorem X.go (h : ∀ {l : Launch} {p : Program} {e : Env} {R : Room} {s : State} {m : MethodId} {args : Array Value} {below : List Frame} {meth : Method} {c : Code} {H : Heap} {ls : Array Slot} {locs : List Loc} {cells slots : Nat} {QF : State → Prop}, p.tables.exec = Jvm.exec → c.code = y.2.1 → W p l e R s m args below meth c H locs cells slots QF (F0 m pc' ls S') → W p l e R s m args below meth c H locs cells slots QF (F0 m pc ls S))
    (kk : X g y pc' L S' M k n Q) : X g y pc L S M k n Q :=
  fun l p e R s m args below meth c H ls locs cells slots QF a1 a2 a3 a4 a5 a6 a7 a8 => h a2.1 a2.2.1 (kk l p e R s m args below meth c H ls locs cells slots QF a1 a2 a3 a4 a5 a6 a7 a8)
/-- a step that reads tables or locals too -/
theorem X.goC (h : ∀ {l : Launch} {p : Program} {e : Env} {R : Room} {s : State} {m : MethodId} {args : Array Value} {below : List Frame} {meth : Method} {c : Code} {H : Heap} {ls : Array Slot} {locs : List Loc} {cells slots : Nat} {QF : State → Prop}, l.stackTraces = false → Cx g y p R s m args meth c → lvR ls y.2.2.1 L → Wm g M s H → Fr g s H locs → W p l e R s m args below meth c H locs cells slots QF (F0 m pc' ls S') → W p l e R s m args below meth c H locs cells slots QF (F0 m pc ls S))
    (kk : X g y pc' L S' M k n Q) : X g y pc L S M k n Q :=
  fun l p e R s m args below meth c H ls locs cells slots QF a1 a2 a3 a4 a5 a6 a7 a8 => h a1 a2 a3 a4 a5 (kk l p e R s m args below meth c H ls locs cells slots QF a1 a2 a3 a4 a5 a6 a7 a8)
-- constants
theorem x_iconst {i : Int} (v : Int32) (hd : decode y.2.1 pc = .ok (.iconst i, 1)) (hv : Int32.ofInt i = v) (kk : X g y (pc + 1) L (.int v :: S) M k n Q) : X g y pc L S M k n Q := X.go (fun hx hb w => lv_iconst hx hb hd hv w) kk
theorem x_bipush {i : Int} (v : Int32) (hd : decode y.2.1 pc = .ok (.bipush i, 2)) (hv : (Int8.ofInt i).toInt32 = v) (kk : X g y (pc + 2) L (.int v :: S) M k n Q) : X g y pc L S M k n Q := X.go (fun hx hb w => lv_bipush hx hb hd hv w) kk
theorem x_sipush {i : Int} (v : Int32) (hd : decode y.2.1 pc = .ok (.sipush i, 3)) (hv : (Int16.ofInt i).toInt32 = v) (kk : X g y (pc + 3) L (.int v :: S) M k n Q) : X g y pc L S M k n Q := X.go (fun hx hb w => lv_sipush hx hb hd hv w) kk
theorem x_lconst {i : Fin 2} (v : Int64) (hd : decode y.2.1 pc = .ok (.lconst i, 1)) (hv : Int64.ofNat (i : Nat) = v) (kk : X g y (pc + 1) L (.long v :: S) M k n Q) : X g y pc L S M k n Q := X.go (fun hx hb w => lv_lconst hx hb hd hv w) kk
theorem x_ldc {i : Nat} {v : Int32} (hd : decode y.2.1 pc = .ok (.ldc i, 2)) (hw : Cond.constant y.1.cls i v ∈ tb) (kk : X g y (pc + 2) L (.int v :: S) M k n Q) : X g y pc L S M k n Q := X.goC (fun _ hC _ _ _ w => lv_ldc hC.1 hC.2.1 hC.2.2.2.1 (hC.2.2.2.2.1 _ hw) hd w) kk
theorem x_ldcw {i : Nat} {v : Int32} (hd : decode y.2.1 pc = .ok (.ldc_w i, 3)) (hw : Cond.constant y.1.cls i v ∈ tb) (kk : X g y (pc + 3) L (.int v :: S) M k n Q) : X g y pc L S M k n Q := X.goC (fun _ hC _ _ _ w => lv_ldcw hC.1 hC.2.1 hC.2.2.2.1 (hC.2.2.2.2.1 _ hw) hd w) kk
theorem x_ldc2 {i : Nat} {v : Int64} (hd : decode y.2.1 pc = .ok (.ldc2_w i, 3)) (hw : Cond.constantLong y.1.cls i v ∈ tb) (kk : X g y (pc + 3) L (.long v :: S) M k n Q) : X g y pc L S M k n Q := X.goC (fun _ hC _ _ _ w => lv_ldc2 hC.1 hC.2.1 hC.2.2.2.1 (hC.2.2.2.2.1 _ hw) hd w) kk
theorem x_ldcs {i j : Nat} {tx : String} (hd : decode y.2.1 pc = .ok (.ldc i, 2)) (hw : (y.1.cls, i, tx, j) ∈ strL) (kk : X g y (pc + 2) L (.ref (g.2.2.1 j) :: S) M k n Q) : X g y pc L S M k n Q := X.goC (fun _ hC _ _ _ w => va_ldcS hC.1 hC.2.1 hC.2.2.2.1 (hC.2.2.2.2.2.2.2.2.1.2.2.2.2.2.1 _ hw) hd w) kk
-- locals
theorem x_iload_n {i : Fin 4} {x : Int32} (hd : decode y.2.1 pc = .ok (.iload_n i, 1)) (hl : L[(i : Nat)]? = some (.int x)) (kk : X g y (pc + 1) L (.int x :: S) M k n Q) : X g y pc L S M k n Q := X.goC (fun _ hC hL _ _ w => lv_iload_n hC.1 hC.2.1 hd rfl (hL.2.2 _ _ hl (fun h => by cases h)) w) kk
theorem x_iload {i : Nat} {x : Int32} (hd : decode y.2.1 pc = .ok (.iload i, 2)) (hl : L[i]? = some (.int x)) (kk : X g y (pc + 2) L (.int x :: S) M k n Q) : X g y pc L S M k n Q := X.goC (fun _ hC hL _ _ w => lv_iload hC.1 hC.2.1 hd (hL.2.2 _ _ hl (fun h => by cases h)) w) kk
theorem x_aload_n {i : Fin 4} {x : Nat} (hd : decode y.2.1 pc = .ok (.aload_n i, 1)) (hl : L[(i : Nat)]? = some (.ref x)) (kk : X g y (pc + 1) L (.ref x :: S) M k n Q) : X g y pc L S M k n Q := X.goC (fun _ hC hL _ _ w => lv_aload_n hC.1 hC.2.1 hd rfl (hL.2.2 _ _ hl (fun h => by cases h)) w) kk
theorem x_aload {i : Nat} {x : Nat} (hd : decode y.2.1 pc = .ok (.aload i, 2)) (hl : L[i]? = some (.ref x)) (kk : X g y (pc + 2) L (.ref x :: S) M k n Q) : X g y pc L S M k n Q := X.goC (fun _ hC hL _ _ w => lv_aload hC.1 hC.2.1 hd (hL.2.2 _ _ hl (fun h => by cases h)) w) kk
theorem x_lload_n {i : Fin 4} {x : Int64} (hd : decode y.2.1 pc = .ok (.lload_n i, 1)) (hl : L[(i : Nat)]? = some (.long x)) (kk : X g y (pc + 1) L (.long x :: S) M k n Q) : X g y pc L S M k n Q := X.goC (fun _ hC hL _ _ w => lv_lload_n hC.1 hC.2.1 hd rfl (hL.2.2 _ _ hl (fun h => by cases h)) w) kk
theorem x_lload {i : Nat} {x : Int64} (hd : decode y.2.1 pc = .ok (.lload i, 2)) (hl : L[i]? = some (.long x)) (kk : X g y (pc + 2) L (.long x :: S) M k n Q) : X g y pc L S M k n Q := X.goC (fun _ hC hL _ _ w => lv_lload hC.1 hC.2.1 hd (hL.2.2 _ _ hl (fun h => by cases h)) w) kk
-- arithmetic
theorem x_iadd {a b : Int32} (hd : decode y.2.1 pc = .ok (.iadd, 1)) (kk : X g y (pc + 1) L (.int (a + b) :: S) M k n Q) : X g y pc L (.int b :: .int a :: S) M k n Q := X.go (fun hx hb w => lv_iadd hx hb hd w) kk
theorem x_isub {a b : Int32} (hd : decode y.2.1 pc = .ok (.isub, 1)) (kk : X g y (pc + 1) L (.int (a - b) :: S) M k n Q) : X g y pc L (.int b :: .int a :: S) M k n Q := X.go (fun hx hb w => lv_isub hx hb hd w) kk
theorem x_imul {a b : Int32} (hd : decode y.2.1 pc = .ok (.imul, 1)) (kk : X g y (pc + 1) L (.int (a * b) :: S) M k n Q) : X g y pc L (.int b :: .int a :: S) M k n Q := X.go (fun hx hb w => lv_imul hx hb hd w) kk
theorem x_irem {a b : Int32} (hd : decode y.2.1 pc = .ok (.irem, 1)) (hne : ¬ b = 0) (kk : X g y (pc + 1) L (.int (a - a / b * b) :: S) M k n Q) : X g y pc L (.int b :: .int a :: S) M k n Q := X.go (fun hx hb w => lv_irem hx hb hd hne w) kk
theorem x_ineg {a : Int32} (hd : decode y.2.1 pc = .ok (.ineg, 1)) (kk : X g y (pc + 1) L (.int (-a) :: S) M k n Q) : X g y pc L (.int a :: S) M k n Q := X.go (fun hx hb w => lv_ineg hx hb hd w) kk
theorem x_iand {a b : Int32} (hd : decode y.2.1 pc = .ok (.iand, 1)) (kk : X g y (pc + 1) L (.int (a &&& b) :: S) M k n Q) : X g y pc L (.int b :: .int a :: S) M k n Q := X.go (fun hx hb w => lv_iand hx hb hd w) kk
theorem x_ior {a b : Int32} (hd : decode y.2.1 pc = .ok (.ior, 1)) (kk : X g y (pc + 1) L (.int (a ||| b) :: S) M k n Q) : X g y pc L (.int b :: .int a :: S) M k n Q := X.go (fun hx hb w => lv_ior hx hb hd w) kk
theorem x_ixor {a b : Int32} (hd : decode y.2.1 pc = .ok (.ixor, 1)) (kk : X g y (pc + 1) L (.int (a ^^^ b) :: S) M k n Q) : X g y pc L (.int b :: .int a :: S) M k n Q := X.go (fun hx hb w => lv_ixor hx hb hd w) kk
theorem x_ishl {a b : Int32} (hd : decode y.2.1 pc = .ok (.ishl, 1)) (kk : X g y (pc + 1) L (.int (a <<< (b &&& 31)) :: S) M k n Q) : X g y pc L (.int b :: .int a :: S) M k n Q := X.go (fun hx hb w => lv_ishl hx hb hd w) kk
theorem x_ishr {a b : Int32} (hd : decode y.2.1 pc = .ok (.ishr, 1)) (kk : X g y (pc + 1) L (.int (a >>> (b &&& 31)) :: S) M k n Q) : X g y pc L (.int b :: .int a :: S) M k n Q := X.go (fun hx hb w => lv_ishr hx hb hd w) kk
theorem x_iushr {a b : Int32} (hd : decode y.2.1 pc = .ok (.iushr, 1)) (kk : X g y (pc + 1) L (.int (a.toUInt32 >>> (b.toUInt32 &&& Int32.toUInt32 31)).toInt32 :: S) M k n Q) : X g y pc L (.int b :: .int a :: S) M k n Q := X.go (fun hx hb w => lv_iushr hx hb hd rfl w) kk
theorem x_i2b {a : Int32} (hd : decode y.2.1 pc = .ok (.i2b, 1)) (kk : X g y (pc + 1) L (.int a.toInt8.toInt32 :: S) M k n Q) : X g y pc L (.int a :: S) M k n Q := X.go (fun hx hb w => lv_i2b hx hb hd rfl w) kk
theorem x_i2l {a : Int32} (hd : decode y.2.1 pc = .ok (.i2l, 1)) (kk : X g y (pc + 1) L (.long a.toInt64 :: S) M k n Q) : X g y pc L (.int a :: S) M k n Q := X.go (fun hx hb w => lv_i2l hx hb hd rfl w) kk
theorem x_l2i {a : Int64} (hd : decode y.2.1 pc = .ok (.l2i, 1)) (kk : X g y (pc + 1) L (.int a.toInt32 :: S) M k n Q) : X g y pc L (.long a :: S) M k n Q := X.go (fun hx hb w => lv_l2i hx hb hd rfl w) kk
theorem x_ladd {a b : Int64} (hd : decode y.2.1 pc = .ok (.ladd, 1)) (kk : X g y (pc + 1) L (.long (a + b) :: S) M k n Q) : X g y pc L (.long b :: .long a :: S) M k n Q := X.go (fun hx hb w => lv_ladd hx hb hd w) kk
theorem x_lsub {a b : Int64} (hd : decode y.2.1 pc = .ok (.lsub, 1)) (kk : X g y (pc + 1) L (.long (a - b) :: S) M k n Q) : X g y pc L (.long b :: .long a :: S) M k n Q := X.go (fun hx hb w => lv_lsub hx hb hd w) kk
theorem x_lmul {a b : Int64} (hd : decode y.2.1 pc = .ok (.lmul, 1)) (kk : X g y (pc + 1) L (.long (a * b) :: S) M k n Q) : X g y pc L (.long b :: .long a :: S) M k n Q := X.go (fun hx hb w => lv_lmul hx hb hd w) kk
theorem x_ldiv {a b : Int64} (hd : decode y.2.1 pc = .ok (.ldiv, 1)) (hne : ¬ b = 0) (kk : X g y (pc + 1) L (.long (a / b) :: S) M k n Q) : X g y pc L (.long b :: .long a :: S) M k n Q := X.go (fun hx hb w => lv_ldiv hx hb hd hne w) kk
theorem x_lrem {a b : Int64} (hd : decode y.2.1 pc = .ok (.lrem, 1)) (hne : ¬ b = 0) (kk : X g y (pc + 1) L (.long (a - a / b * b) :: S) M k n Q) : X g y pc L (.long b :: .long a :: S) M k n Q := X.go (fun hx hb w => lv_lrem hx hb hd hne w) kk
theorem x_lcmp {a b : Int64} (hd : decode y.2.1 pc = .ok (.lcmp, 1)) (kk : X g y (pc + 1) L (.int (lg_cmp a b) :: S) M k n Q) : X g y pc L (.long b :: .long a :: S) M k n Q := X.go (fun hx hb w => W.lcmp hx hb hd w) kk
theorem x_dup {v : Value} (hd : decode y.2.1 pc = .ok (.dup, 1)) (hv : v.category = 1) (kk : X g y (pc + 1) L (v :: v :: S) M k n Q) : X g y pc L (v :: S) M k n Q := X.go (fun hx hb w => lv_dup hx hb hd hv w) kk
theorem x_dup2 {v w : Value} (hd : decode y.2.1 pc = .ok (.dup2, 1)) (hv : v.category = 1) (hw : w.category = 1) (kk : X g y (pc + 1) L (v :: w :: v :: w :: S) M k n Q) : X g y pc L (v :: w :: S) M k n Q := X.go (fun hx hb w => lv_dup2_11 hx hb hd hv hw w) kk
theorem x_pop {v : Value} (hd : decode y.2.1 pc = .ok (.pop, 1)) (hv : v.category = 1) (kk : X g y (pc + 1) L S M k n Q) : X g y pc L (v :: S) M k n Q := X.go (fun hx hb w => lv_pop hx hb hd hv w) kk
-- jumps
theorem x_goto {off : Int} (tgt : Nat) (hd : decode y.2.1 pc = .ok (.goto off, 3)) (ht : (pc : Int) + off = (tgt : Int)) (kk : X g y tgt L S M k n Q) : X g y pc L S M k n Q := X.go (fun hx hb w => lv_goto hx hb hd ht w) kk
/-- two ways -/
theorem X.two {c1 : Prop} {pa pb : Nat} {Sa Sb : List Value} (h : ∀ {l : Launch} {p : Program} {e : Env} {R : Room} {s : State} {m : MethodId} {args : Array Value} {below : List Frame} {meth : Method} {c : Code} {H : Heap} {ls : Array Slot} {locs : List Loc} {cells slots : Nat} {QF : State → Prop}, p.tables.exec = Jvm.exec → c.code = y.2.1 → (c1 → W p l e R s m args below meth c H locs cells slots QF (F0 m pa ls Sa)) → (¬ c1 → W p l e R s m args below meth c H locs cells slots QF (F0 m pb ls Sb)) → W p l e R s m args below meth c H locs cells slots QF (F0 m pc ls S))
    (k1 : c1 → X g y pa L Sa M k n Q) (k2 : ¬ c1 → X g y pb L Sb M k n Q) : X g y pc L S M k n Q :=
  fun l p e R s m args below meth c H ls locs cells slots QF a1 a2 a3 a4 a5 a6 a7 a8 => h a2.1 a2.2.1 (fun q => k1 q l p e R s m args below meth c H ls locs cells slots QF a1 a2 a3 a4 a5 a6 a7 a8) (fun q => k2 q l p e R s m args below meth c H ls locs cells slots QF a1 a2 a3 a4 a5 a6 a7 a8)
theorem x_if_eq {off : Int} {a : Int32} (tgt : Nat) (hd : decode y.2.1 pc = .ok (.ifCond .eq off, 3)) (ht : (pc : Int) + off = (tgt : Int)) (k1 : a = 0 → X g y tgt L S M k n Q) (k2 : ¬ (a = 0) → X g y (pc + 3) L S M k n Q) : X g y pc L (.int a :: S) M k n Q := X.two (fun hx hb w1 w2 => lv_if_eq hx hb hd ht w1 w2) k1 k2
theorem x_if_ne {off : Int} {a : Int32} (tgt : Nat) (hd : decode y.2.1 pc = .ok (.ifCond .ne off, 3)) (ht : (pc : Int) + off = (tgt : Int)) (k1 : ¬ a = 0 → X g y tgt L S M k n Q) (k2 : a = 0 → X g y (pc + 3) L S M k n Q) : X g y pc L (.int a :: S) M k n Q := X.two (fun hx hb w1 w2 => lv_if_ne hx hb hd ht w2 w1) k2 k1
theorem x_if_lt {off : Int} {a : Int32} (tgt : Nat) (hd : decode y.2.1 pc = .ok (.ifCond .lt off, 3)) (ht : (pc : Int) + off = (tgt : Int)) (k1 : a < 0 → X g y tgt L S M k n Q) (k2 : ¬ (a < 0) → X g y (pc + 3) L S M k n Q) : X g y pc L (.int a :: S) M k n Q := X.two (fun hx hb w1 w2 => lv_if_lt hx hb hd ht w1 w2) k1 k2
theorem x_if_ge {off : Int} {a : Int32} (tgt : Nat) (hd : decode y.2.1 pc = .ok (.ifCond .ge off, 3)) (ht : (pc : Int) + off = (tgt : Int)) (k1 : 0 ≤ a → X g y tgt L S M k n Q) (k2 : ¬ (0 ≤ a) → X g y (pc + 3) L S M k n Q) : X g y pc L (.int a :: S) M k n Q := X.two (fun hx hb w1 w2 => lv_if_ge hx hb hd ht w1 w2) k1 k2
theorem x_if_gt {off : Int} {a : Int32} (tgt : Nat) (hd : decode y.2.1 pc = .ok (.ifCond .gt off, 3)) (ht : (pc : Int) + off = (tgt : Int)) (k1 : 0 < a → X g y tgt L S M k n Q) (k2 : ¬ (0 < a) → X g y (pc + 3) L S M k n Q) : X g y pc L (.int a :: S) M k n Q := X.two (fun hx hb w1 w2 => lv_if_gt hx hb hd ht w1 w2) k1 k2
theorem x_if_le {off : Int} {a : Int32} (tgt : Nat) (hd : decode y.2.1 pc = .ok (.ifCond .le off, 3)) (ht : (pc : Int) + off = (tgt : Int)) (k1 : a ≤ 0 → X g y tgt L S M k n Q) (k2 : ¬ (a ≤ 0) → X g y (pc + 3) L S M k n Q) : X g y pc L (.int a :: S) M k n Q := X.two (fun hx hb w1 w2 => lv_if_le hx hb hd ht w1 w2) k1 k2
theorem x_icmp_eq {off : Int} {a b : Int32} (tgt : Nat) (hd : decode y.2.1 pc = .ok (.if_icmp .eq off, 3)) (ht : (pc : Int) + off = (tgt : Int)) (k1 : a = b → X g y tgt L S M k n Q) (k2 : ¬ (a = b) → X g y (pc + 3) L S M k n Q) : X g y pc L (.int b :: .int a :: S) M k n Q := X.two (fun hx hb w1 w2 => lv_icmp_eq hx hb hd ht w1 w2) k1 k2
theorem x_icmp_ne {off : Int} {a b : Int32} (tgt : Nat) (hd : decode y.2.1 pc = .ok (.if_icmp .ne off, 3)) (ht : (pc : Int) + off = (tgt : Int)) (k1 : ¬ a = b → X g y tgt L S M k n Q) (k2 : a = b → X g y (pc + 3) L S M k n Q) : X g y pc L (.int b :: .int a :: S) M k n Q := X.two (fun hx hb w1 w2 => lv_icmp_ne hx hb hd ht w2 w1) k2 k1
theorem x_icmp_lt {off : Int} {a b : Int32} (tgt : Nat) (hd : decode y.2.1 pc = .ok (.if_icmp .lt off, 3)) (ht : (pc : Int) + off = (tgt : Int)) (k1 : a < b → X g y tgt L S M k n Q) (k2 : ¬ (a < b) → X g y (pc + 3) L S M k n Q) : X g y pc L (.int b :: .int a :: S) M k n Q := X.two (fun hx hb w1 w2 => lv_icmp_lt hx hb hd ht w1 w2) k1 k2
theorem x_icmp_ge {off : Int} {a b : Int32} (tgt : Nat) (hd : decode y.2.1 pc = .ok (.if_icmp .ge off, 3)) (ht : (pc : Int) + off = (tgt : Int)) (k1 : b ≤ a → X g y tgt L S M k n Q) (k2 : ¬ (b ≤ a) → X g y (pc + 3) L S M k n Q) : X g y pc L (.int b :: .int a :: S) M k n Q := X.two (fun hx hb w1 w2 => lv_icmp_ge hx hb hd ht w1 w2) k1 k2
theorem x_icmp_gt {off : Int} {a b : Int32} (tgt : Nat) (hd : decode y.2.1 pc = .ok (.if_icmp .gt off, 3)) (ht : (pc : Int) + off = (tgt : Int)) (k1 : b < a → X g y tgt L S M k n Q) (k2 : ¬ (b < a) → X g y (pc + 3) L S M k n Q) : X g y pc L (.int b :: .int a :: S) M k n Q := X.two (fun hx hb w1 w2 => lv_icmp_gt hx hb hd ht w1 w2) k1 k2
theorem x_icmp_le {off : Int} {a b : Int32} (tgt : Nat) (hd : decode y.2.1 pc = .ok (.if_icmp .le off, 3)) (ht : (pc : Int) + off = (tgt : Int)) (k1 : a ≤ b → X g y tgt L S M k n Q) (k2 : ¬ (a ≤ b) → X g y (pc + 3) L S M k n Q) : X g y pc L (.int b :: .int a :: S) M k n Q := X.two (fun hx hb w1 w2 => lv_icmp_le hx hb hd ht w1 w2) k1 k2
theorem x_ifnull_r {off : Int} {a : Nat} (hd : decode y.2.1 pc = .ok (.ifnull off, 3)) (kk : X g y (pc + 3) L S M k n Q) : X g y pc L (.ref a :: S) M k n Q := X.go (fun hx hb w => lv_ifnull hx hb hd w) kk
theorem x_ifnull_n {off : Int} (tgt : Nat) (hd : decode y.2.1 pc = .ok (.ifnull off, 3)) (ht : (pc : Int) + off = (tgt : Int)) (kk : X g y tgt L S M k n Q) : X g y pc L (.null :: S) M k n Q := X.go (fun hx hb w => lv_ifnullN hx hb hd ht w) kk
theorem x_ifnonnull_r {off : Int} {a : Nat} (tgt : Nat) (hd : decode y.2.1 pc = .ok (.ifnonnull off, 3)) (ht : (pc : Int) + off = (tgt : Int)) (kk : X g y tgt L S M k n Q) : X g y pc L (.ref a :: S) M k n Q := X.go (fun hx hb w => lv_ifnonnull hx hb hd ht w) kk
theorem x_ifnonnull_n {off : Int} (hd : decode y.2.1 pc = .ok (.ifnonnull off, 3)) (kk : X g y (pc + 3) L S M k n Q) : X g y pc L (.null :: S) M k n Q := X.go (fun hx hb w => lv_ifnonnullN hx hb hd w) kk
theorem x_tsOut {dflt lo hi : Int} {offs : Array Int} {len : Nat} {x : Int32} (tgt : Nat) (hd : decode y.2.1 pc = .ok (.tableswitch dflt lo hi offs, len)) (h : x.toInt < lo ∨ hi < x.toInt) (ht : (pc : Int) + dflt = (tgt : Int)) (kk : X g y tgt L S M k n Q) : X g y pc L (.int x :: S) M k n Q := X.go (fun hx hb w => lv_tableOut hx hb hd h ht w) kk
theorem x_tsIn {dflt lo hi : Int} {offs : Array Int} {len : Nat} {x : Int32} {off : Int} (tgt : Nat) (hd : decode y.2.1 pc = .ok (.tableswitch dflt lo hi offs, len)) (h1 : ¬ x.toInt < lo) (h2 : ¬ hi < x.toInt) (ho : offs[(x.toInt - lo).toNat]? = some off) (ht : (pc : Int) + off = (tgt : Int)) (kk : X g y tgt L S M k n Q) : X g y pc L (.int x :: S) M k n Q := X.go (fun hx hb w => lv_tableIn hx hb hd h1 h2 ho ht w) kk
end XR
-- locals that are stored
def pr (L : List Value) : List (Nat × Value) := (L.zipIdx.map (fun q => (q.2, q.1))).filter (fun q => !(decide (q.2 = jk)))
theorem pr_mem {L : List Value} {i : Nat} {v : Value} : (i, v) ∈ pr L ↔ L[i]? = some v ∧ v ≠ jk := by
  unfold pr
  rw [List.mem_filter, List.mem_map]
  constructor
  · rintro ⟨⟨q, hq, e⟩, h2⟩
    cases e
    have h3 := List.mem_zipIdx' hq
    refine ⟨?_, by simpa using h2⟩
    rw [List.getElem?_eq_getElem h3.1, ← h3.2]
  · rintro ⟨h1, h2⟩
    refine ⟨⟨(v, i), ?_, rfl⟩, by simpa using h2⟩
    rw [List.mem_zipIdx_iff_getElem?]
    exact h1
theorem lvR.has {ls : Array Slot} {nL : Nat} {L : List Value} (h : lvR ls nL L) : lv_has ls nL (pr L) := ⟨h.1, h.2.1, fun q hq => h.2.2 q.1 q.2 (pr_mem.mp hq).1 (pr_mem.mp hq).2⟩
/-- no long stands just ahead of place i -/
def okp (L : List Value) (i : Nat) : Bool := match i with
  | 0 => true
  | j + 1 => match L[j]? with
    | some w => w.category == 1
    | none => true
theorem lvR.set1 {ls' : Array Slot} {nL : Nat} {L : List Value} {i : Nat} {v : Value} (ho : okp L i = true) (h : lv_has ls' nL ((i, v) :: (pr L).filter (fun q => !(q.1 == i) && !(q.1 + 1 == i && q.2.category == 2)))) : lvR ls' nL (L.set i v) := by
  refine ⟨h.1, h.2.1, fun j w hj hw => ?_⟩
  rw [List.getElem?_set] at hj
  by_cases e : i = j
  · subst e
    rw [if_pos rfl] at hj
    split at hj
    · cases hj
      exact h.2.2 (i, v) List.mem_cons_self
    · cases hj
  · rw [if_neg e] at hj
    refine h.2.2 (j, w) (List.mem_cons_of_mem _ (List.mem_filter.mpr ⟨pr_mem.mpr ⟨hj, hw⟩, ?_⟩))
    have e1 : (j == i) = false := by simpa using fun z => e z.symm
    simp only [e1, Bool.not_false, Bool.true_and]
    by_cases e2 : j + 1 = i
    · subst e2
      simp only [okp, hj] at ho
      have : w.category = 1 := by simpa using ho
      simp [this]
    · simp [e2]
theorem lvR.set2 {ls' : Array Slot} {nL : Nat} {L : List Value} {i : Nat} {v : Value} (ho : okp L i = true) (h : lv_has ls' nL ((i, v) :: (pr L).filter (fun q => !(q.1 == i) && (!(q.1 == i + 1) && !(q.1 + 1 == i && q.2.category == 2))))) : lvR ls' nL ((L.set i v).set (i + 1) jk) := by
  refine ⟨h.1, h.2.1, fun j w hj hw => ?_⟩
  rw [List.getElem?_set] at hj
  by_cases e0 : i + 1 = j
  · subst e0
    rw [if_pos rfl] at hj
    split at hj
    · cases hj
      exact absurd rfl hw
    · cases hj
  rw [if_neg e0, List.getElem?_set] at hj
  by_cases e : i = j
  · subst e
    rw [if_pos rfl] at hj
    split at hj
    · cases hj
      exact h.2.2 (i, v) List.mem_cons_self
    · cases hj
  · rw [if_neg e] at hj
    refine h.2.2 (j, w) (List.mem_cons_of_mem _ (List.mem_filter.mpr ⟨pr_mem.mpr ⟨hj, hw⟩, ?_⟩))
    have e1 : (j == i) = false := by simpa using fun z => e z.symm
    have e3 : (j == i + 1) = false := by simpa using fun z => e0 z.symm
    simp only [e1, e3, Bool.not_false, Bool.true_and]
    by_cases e2 : j + 1 = i
    · subst e2
      simp only [okp, hj] at ho
      have : w.category = 1 := by simpa using ho
      simp [this]
    · simp [e2]
section XS
variable {g : GG} {y : MD} {pc pc' : Nat} {L L' S S' : List Value} {M : Mem} {k n : Nat} {Q : Option Value → Mem → Prop}
theorem X.goS (h : ∀ {l : Launch} {p : Program} {e : Env} {R : Room} {s : State} {m : MethodId} {args : Array Value} {below : List Frame} {meth : Method} {c : Code} {H : Heap} {ls : Array Slot} {locs : List Loc} {cells slots : Nat} {QF : State → Prop}, p.tables.exec = Jvm.exec → c.code = y.2.1 → lvR ls y.2.2.1 L → (∀ ls', lvR ls' y.2.2.1 L' → W p l e R s m args below meth c H locs cells slots QF (F0 m pc' ls' S')) → W p l e R s m args below meth c H locs cells slots QF (F0 m pc ls S))
    (kk : X g y pc' L' S' M k n Q) : X g y pc L S M k n Q :=
  fun l p e R s m args below meth c H ls locs cells slots QF a1 a2 a3 a4 a5 a6 a7 a8 => h a2.1 a2.2.1 a3 (fun ls' h3 => kk l p e R s m args below meth c H ls' locs cells slots QF a1 a2 h3 a4 a5 a6 a7 a8)
theorem x_istore {i : Nat} {v : Int32} (hd : decode y.2.1 pc = .ok (.istore i, 2)) (hn : i < y.2.2.1) (ho : okp L i = true) (hL : L.set i (.int v) = L') (kk : X g y (pc + 2) L' S M k n Q) : X g y pc L (.int v :: S) M k n Q := by
  subst hL
  exact X.goS (fun hx hb h3 w => lv_istore hx hb hd h3.has hn rfl (fun ls' h => w ls' (lvR.set1 ho h))) kk
theorem x_istore_n {i : Fin 4} {v : Int32} (hd : decode y.2.1 pc = .ok (.istore_n i, 1)) (hn : (i : Nat) < y.2.2.1) (ho : okp L i = true) (hL : L.set i (.int v) = L') (kk : X g y (pc + 1) L' S M k n Q) : X g y pc L (.int v :: S) M k n Q := by
  subst hL
  exact X.goS (fun hx hb h3 w => lv_istore_n hx hb hd rfl h3.has hn rfl (fun ls' h => w ls' (lvR.set1 ho h))) kk
theorem x_astore {i : Nat} {v : Nat} (hd : decode y.2.1 pc = .ok (.astore i, 2)) (hn : i < y.2.2.1) (ho : okp L i = true) (hL : L.set i (.ref v) = L') (kk : X g y (pc + 2) L' S M k n Q) : X g y pc L (.ref v :: S) M k n Q := by
  subst hL
  exact X.goS (fun hx hb h3 w => lv_astore hx hb hd h3.has hn rfl (fun ls' h => w ls' (lvR.set1 ho h))) kk
theorem x_astore_n {i : Fin 4} {v : Nat} (hd : decode y.2.1 pc = .ok (.astore_n i, 1)) (hn : (i : Nat) < y.2.2.1) (ho : okp L i = true) (hL : L.set i (.ref v) = L') (kk : X g y (pc + 1) L' S M k n Q) : X g y pc L (.ref v :: S) M k n Q := by
  subst hL
  exact X.goS (fun hx hb h3 w => lv_astore_n hx hb hd rfl h3.has hn rfl (fun ls' h => w ls' (lvR.set1 ho h))) kk
theorem x_lstore {i : Nat} {v : Int64} (hd : decode y.2.1 pc = .ok (.lstore i, 2)) (hn : i + 1 < y.2.2.1) (ho : okp L i = true) (hL : (L.set i (.long v)).set (i + 1) jk = L') (kk : X g y (pc + 2) L' S M k n Q) : X g y pc L (.long v :: S) M k n Q := by
  subst hL
  exact X.goS (fun hx hb h3 w => lv_lstore hx hb hd h3.has hn rfl (fun ls' h => w ls' (lvR.set2 ho h))) kk
theorem x_lstore_n {i : Fin 4} {v : Int64} (hd : decode y.2.1 pc = .ok (.lstore_n i, 1)) (hn : (i : Nat) + 1 < y.2.2.1) (ho : okp L i = true) (hL : (L.set i (.long v)).set ((i : Nat) + 1) jk = L') (kk : X g y (pc + 1) L' S M k n Q) : X g y pc L (.long v :: S) M k n Q := by
  subst hL
  exact X.goS (fun hx hb h3 w => lv_lstore_n hx hb hd rfl h3.has hn rfl (fun ls' h => w ls' (lvR.set2 ho h))) kk
theorem x_iinc {i : Nat} {d : Int} {v w : Int32} (hd : decode y.2.1 pc = .ok (.iinc i d, 3)) (hl : L[i]? = some (.int v)) (hv : v + Int32.ofInt d = w) (hn : i < y.2.2.1) (ho : okp L i = true) (hL : L.set i (.int w) = L') (kk : X g y (pc + 3) L' S M k n Q) : X g y pc L S M k n Q := by
  subst hL
  obtain ⟨j, hj, hj2⟩ := List.mem_iff_getElem.mp (pr_mem.mpr ⟨hl, fun h => by cases h⟩)
  exact X.goS (fun hx hb h3 w => lv_iinc (k := j) hx hb hd h3.has (by rw [List.getElem?_eq_getElem hj, hj2]) hv hn rfl (fun ls' h => w ls' (lvR.set1 ho h))) kk
/-- a local that is no longer asked for -/
theorem X.drop (i : Nat) (hL : L.set i jk = L') (kk : X g y pc L' S M k n Q) : X g y pc L S M k n Q := by
  subst hL
  refine fun l p e R s m args below meth c H ls locs cells slots QF a1 a2 a3 a4 a5 a6 a7 a8 => kk l p e R s m args below meth c H ls locs cells slots QF a1 a2 ⟨a3.1, a3.2.1, fun j w hj hw => ?_⟩ a4 a5 a6 a7 a8
  rw [List.getElem?_set] at hj
  by_cases e : i = j
  · rw [if_pos e] at hj
    split at hj
    · cases hj
      exact absurd rfl hw
    · cases hj
  · rw [if_neg e] at hj
    exact a3.2.2 j w hj hw
end XS
