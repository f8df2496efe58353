/-! THE PICTURE OF THE HEAP, AND A JUDGEMENT OVER IT. Addresses with a shape (kind, size): kind 0 an object of class size; 1 int, 2 long, 3 double, 4 boolean, 5 char, 6 rows of games. Contents: mz_I (whole numbers), mz_L (longs, doubles by their bits), mz_R (references). -/
abbrev mz_I : Type := Nat → Nat → Int32
abbrev mz_L : Type := Nat → Nat → Int64
abbrev mz_R : Type := Nat → Nat → Option Nat
abbrev mz_T : Type := List (Nat × Nat × Nat) × mz_R
/-- what is fixed: launch, places of fields, classes of arrays, the law's start, addresses of the read-only rows, the script's length and contents -/
abbrev mz_G : Type := Launch × va_G × (Nat → ClassId) × State × (Nat → Nat) × Nat × (Nat → Int32)
abbrev mz_gl (G : mz_G) : Launch := G.1
abbrev mz_gD (G : mz_G) : va_G := G.2.1
abbrev mz_gc (G : mz_G) : Nat → ClassId := G.2.2.1
abbrev mz_gs (G : mz_G) : State := G.2.2.2.1
abbrev mz_gr (G : mz_G) : Nat → Nat := G.2.2.2.2.1
abbrev mz_gL (G : mz_G) : Nat := G.2.2.2.2.2.1
abbrev mz_gx (G : mz_G) : Nat → Int32 := G.2.2.2.2.2.2
def mz_A (G : mz_G) : Nat → Prop := fun q => (mz_gs G).heap.size ≤ q
def mz_cl : List vw_C := [(RX0, TX0, 3), (RX1, TX1, 5), (RX2, TX2, 1), (RX3, TX3, 5), (RX4, TX4, 9), (RX5, TX5, 4), (RX6, TX6, 5), (RX7, TX7, 7), (RX8, TX8, 4), (RX9, TX9, 11), (RX10, TX10, 11), (RX11, TX11, 3), (RX12, TX12, 26)]
/-- the sorts of the fields: 0 a whole number, 1 a long, 2 a reference, 3 a boolean -/
def mz_tg : Nat → List Nat := fun c => match c with
  | 0 => [2, 1, 0]
  | 1 => [2, 2, 2, 2, 2]
  | 2 => [2]
  | 3 => [2, 2, 2, 2, 0]
  | 4 => [2, 2, 2, 2, 0, 3, 3, 0, 0]
  | 5 => [2, 0, 0, 0]
  | 6 => [2, 0, 0, 2, 3]
  | 7 => [2, 0, 0, 0, 0, 0, 0]
  | 8 => [0, 0, 0, 0]
  | 9 => [0, 0, 0, 0, 0, 0, 0, 0, 3, 2, 2]
  | 10 => [0, 3, 2, 2, 2, 2, 2, 2, 0, 2, 0]
  | 11 => [2, 2, 2]
  | 12 => [0, 2, 2, 2, 0, 2, 2, 3, 2, 2, 2, 2, 2, 2, 2, 0, 2, 2, 0, 2, 2, 0, 2, 2, 0, 0]
  | _ => []
def mz_fv (R : Nat → Option Nat) (I : Nat → Int32) (L : Nat → Int64) (k t : Nat) : Value := match t with
  | 1 => .long (L k)
  | 2 => va_rf (R k)
  | _ => .int (I k)
def mz_ent (G : mz_G) (R : Nat → Option Nat) (I : Nat → Int32) (L : Nat → Int64) (h : Nat × Nat) : va_E := match h.1 with
  | 0 => .inr (h.2, (mz_tg h.2).mapIdx (fun k t => mz_fv R I L k t))
  | 1 => .inl (mz_gc G 1, h.2, .inl I)
  | 2 => .inl (mz_gc G 2, h.2, .inr (.inl L))
  | 3 => .inl (mz_gc G 3, h.2, .inr (.inr (.inr (.inl (fun i => (L i).toUInt64)))))
  | 4 => .inl (mz_gc G 4, h.2, .inl I)
  | 5 => .inl (mz_gc G 5, h.2, .inl I)
  | _ => .inl (mz_gc G 6, h.2, .inr (.inr (.inr (.inr R))))
def mz_ws (G : mz_G) (T : mz_T) (I : mz_I) (L : mz_L) : va_W := T.1.map (fun q => (q.1, mz_ent G (T.2 q.1) (I q.1) (L q.1) q.2))
def mz_ty (G : mz_G) : List (ClassId × FieldType) := [(mz_gc G 1, .int), (mz_gc G 2, .long), (mz_gc G 3, .double), (mz_gc G 4, .boolean), (mz_gc G 5, .char), (mz_gc G 6, .object "FallingBlocks$Game")]
/-- booleans are 0 or 1 -/
def mz_B (T : mz_T) (I : mz_I) : Prop := ∀ a c, (a, 0, c) ∈ T.1 → ∀ k, (mz_tg c)[k]? = some 3 → I a k = 0 ∨ I a k = 1
def mz_Pic (G : mz_G) (T : mz_T) (I : mz_I) (L : mz_L) (H : Heap) : Prop := va_P (mz_gD G) mz_cl (mz_ws G T I L) H ∧ va_D (mz_A G) (mz_ws G T I L) ∧ mz_B T I
def mz_S (G : mz_G) (U : State) : Prop := va_K (mz_gD G) mz_cl (mz_ty G) U ∧ (∀ q, q < (mz_gs G).heap.size → U.heap[q]? = (mz_gs G).heap[q]?) ∧ (mz_gs G).heap.size ≤ U.heap.size ∧ (mz_gs G).WarmedH U.vm
/-- the read-only rows: 0 CELLS, 1 KICKS, 2 LONG_KICKS, 3 POINTS, else the script -/
def mz_CELLS : List Int32 := [20, 21, 22, 23, 2, 12, 22, 32, 10, 11, 12, 13, 1, 11, 21, 31, 0, 1, 10, 11, 0, 1, 10, 11, 0, 1, 10, 11, 0, 1, 10, 11, 10, 11, 12, 21, 1, 11, 12, 21, 1, 10, 11, 12, 1, 10, 11, 21, 10, 11, 21, 22, 2, 11, 12, 21, 0, 1, 11, 12, 1, 10, 11, 20, 11, 12, 20, 21, 1, 11, 12, 22, 1, 2, 10, 11, 0, 10, 11, 21, 10, 11, 12, 20, 1, 11, 21, 22, 2, 10, 11, 12, 0, 1, 11, 21, 10, 11, 12, 22, 1, 2, 11, 21, 0, 10, 11, 12, 1, 11, 20, 21]
def mz_KICKS : List Int32 := [0, 0, -1, 0, 1, 0, 0, 1, -1, 1, 1, 1, 0, -1, -2, 0, 2, 0]
def mz_LONGS : List Int32 := [0, 0, -2, 0, 2, 0, 0, 2, 0, -1]
def mz_POINTS : List Int32 := [0, 100, 300, 500, 800, 100, 200, 400, 600, 0, 400, 800, 1200, 1600, 0]
def mz_rn (G : mz_G) (q : Nat) : Nat := match q with
  | 0 => 112
  | 1 => 18
  | 2 => 10
  | 3 => 15
  | _ => mz_gL G
def mz_rf (G : mz_G) (q : Nat) : Nat → Int32 := match q with
  | 0 => fun i => mz_CELLS.getD i 0
  | 1 => fun i => mz_KICKS.getD i 0
  | 2 => fun i => mz_LONGS.getD i 0
  | 3 => fun i => mz_POINTS.getD i 0
  | _ => mz_gx G
def mz_sc (q : Nat) : String := match q with
  | 3 => "FallingBlocks$Score"
  | _ => "FallingBlocks"
def mz_sn (q : Nat) : String := match q with
  | 0 => "CELLS"
  | 1 => "KICKS"
  | 2 => "LONG_KICKS"
  | _ => "POINTS"
/-- the texts of the throws, by their places in the class's file -/
def mz_str : List (Nat × String) := [(34, "the seed is negative"), (339, "an argument is out of range"), (337, "the game is over"), (101, "the preview has the indices 0 to 4"), (343, "there is no such cell"), (341, "a direction is -1 or 1"), (156, "the hold was used for this piece"), (167, "no piece is on hold"), (186, "there is no room for the garbage"), (209, "there is no such column"), (243, "no piece was locked in this game"), (250, "no piece was locked"), (263, "a cell would be outside of the columns"), (278, "there is no such rank"), (292, "the buffer is full"), (298, "the text is not a text of inputs"), (326, "there is no record to go back to"), (335, "there is no snapshot")]
/-- classes of exceptions that are not each other's kind -/
def mz_nc : List (String × String) := [("java/lang/IllegalArgumentException", "java/lang/IllegalStateException"), ("java/lang/IllegalArgumentException", "java/lang/IndexOutOfBoundsException"), ("java/lang/IllegalArgumentException", "java/lang/UnsupportedOperationException"), ("java/lang/IllegalArgumentException", "java/util/NoSuchElementException"), ("java/lang/IllegalStateException", "java/lang/IllegalArgumentException"), ("java/lang/IllegalStateException", "java/lang/IndexOutOfBoundsException"), ("java/lang/IllegalStateException", "java/lang/UnsupportedOperationException"), ("java/lang/IllegalStateException", "java/util/NoSuchElementException"), ("java/lang/IndexOutOfBoundsException", "java/lang/IllegalArgumentException"), ("java/lang/IndexOutOfBoundsException", "java/lang/IllegalStateException"), ("java/lang/IndexOutOfBoundsException", "java/lang/UnsupportedOperationException"), ("java/lang/IndexOutOfBoundsException", "java/util/NoSuchElementException"), ("java/lang/UnsupportedOperationException", "java/lang/IllegalArgumentException"), ("java/lang/UnsupportedOperationException", "java/lang/IllegalStateException"), ("java/lang/UnsupportedOperationException", "java/lang/IndexOutOfBoundsException"), ("java/lang/UnsupportedOperationException", "java/util/NoSuchElementException"), ("java/util/NoSuchElementException", "java/lang/IllegalArgumentException"), ("java/util/NoSuchElementException", "java/lang/IllegalStateException"), ("java/util/NoSuchElementException", "java/lang/IndexOutOfBoundsException"), ("java/util/NoSuchElementException", "java/lang/UnsupportedOperationException")]
def mz_OK (G : mz_G) : Prop := (mz_gl G).stackTraces = false ∧ (∀ q, q < 5 → mz_gr G q < (mz_gs G).heap.size ∧ va_T .int (mz_gr G q) (mz_rn G q) (fun j => .int (mz_rf G q j)) (mz_A G) (mz_gs G) (mz_gs G).heap) ∧
  (∀ q, q < 4 → va_Z (mz_sc q) (mz_sn q) "[I" (.ref (mz_gr G q)) (mz_A G) (mz_gs G) (mz_gs G).heap) ∧
  vx_Zq Bundle.tN "UNASSIGNED_STACK" Bundle.steD (mz_A G) (mz_gs G) (mz_gs G).heap ∧ vx_Zq Bundle.tN "SUPPRESSED_SENTINEL" Bundle.listD (mz_A G) (mz_gs G) (mz_gs G).heap ∧
  (∀ q ∈ mz_str, ∃ a, vk_R RX11 q.1 q.2 a (mz_gs G)) ∧ mz_gL G < 2 ^ 31 ∧ (∀ q ∈ mz_nc, va_Nc q.1 q.2 (mz_gs G)) ∧ va_AO "FallingBlocks$Game" (mz_gs G) ∧ (∀ w ∈ lw_tbl, w.onTables = true → va_Nw w (mz_gs G))
/-- a method: its name, code, locals, answer, room, table of handlers -/
abbrev mz_M : Type := MethodName × ByteArray × Nat × Option FieldType × Room × List (Nat × Nat × Nat × Nat)
abbrev mz_my (M : mz_M) : MethodName := M.1
abbrev mz_mb (M : mz_M) : ByteArray := M.2.1
abbrev mz_mL (M : mz_M) : Nat := M.2.2.1
abbrev mz_mr (M : mz_M) : Option FieldType := M.2.2.2.1
abbrev mz_mR (M : mz_M) : Room := M.2.2.2.2.1
abbrev mz_mt (M : mz_M) : List (Nat × Nat × Nat × Nat) := M.2.2.2.2.2
abbrev mz_w (M : mz_M) : List Cond := Cond.code (mz_my M) (mz_mb M) (mz_mL M) (mz_mr M) :: mz_GW
abbrev mz_wW (M : mz_M) : List Cond := Cond.codeWith (mz_my M) (mz_mb M) (mz_mL M) (mz_mr M) (mz_mt M) :: mz_GW
abbrev mz_K : Type := Option Value → mz_T → mz_I → mz_L → Prop
abbrev mz_X : Type := String → mz_T → mz_I → mz_L → Prop
def mz_Pc (G : mz_G) (av : List Value) (T : mz_T) (I : mz_I) (L : mz_L) : Array Value → State → Prop := va_Pc av (fun U => mz_Pic G T I L U.heap ∧ mz_S G U)
/-- what is older than the law's start is as it was -/
def mz_O (G : mz_G) (U : State) : Prop := ∀ q, q < (mz_gs G).heap.size → U.heap[q]? = (mz_gs G).heap[q]?
def mz_Qc (G : mz_G) (K : mz_K) : Array Value → State → Outcome → State → Prop := fun _ st o t => ∃ v T I L, o = .returned v ∧ K v T I L ∧ mz_Pic G T I L t.heap ∧ mz_O G t ∧ st.heap.size ≤ t.heap.size
def mz_Xc (G : mz_G) (X : mz_X) : String → State → State → Prop := fun E st t => ∃ T I L, X E T I L ∧ mz_Pic G T I L t.heap ∧ mz_O G t ∧ st.heap.size ≤ t.heap.size
/-- a call of M that returns: what holds of its answer and the picture behind it -/
def mz_Ctr (G : mz_G) (M : mz_M) (av : List Value) (T : mz_T) (I : mz_I) (L : mz_L) (K : mz_K) : Prop :=
  mz_OK G → Met (mz_gl G) (mz_my M) (mz_w M) (mz_mR M) (mz_Pc G av T I L) (mz_Qc G K) (mz_mR M).cells (mz_mR M).slots (mz_A G)
/-- a call of M that returns or throws -/
def mz_CtrX (G : mz_G) (M : mz_M) (av : List Value) (T : mz_T) (I : mz_I) (L : mz_L) (K : mz_K) (X : mz_X) : Prop :=
  mz_OK G → vx_Met (mz_gl G) (mz_my M) (mz_w M) (mz_mR M) (mz_Pc G av T I L) (mz_Qc G K) (mz_Xc G X) (mz_mR M).cells (mz_mR M).slots (mz_A G)
/-- the same of a method with a table of handlers -/
def mz_CtrW (G : mz_G) (M : mz_M) (av : List Value) (T : mz_T) (I : mz_I) (L : mz_L) (K : mz_K) : Prop :=
  mz_OK G → Met (mz_gl G) (mz_my M) (mz_wW M) (mz_mR M) (mz_Pc G av T I L) (mz_Qc G K) (mz_mR M).cells (mz_mR M).slots (mz_A G)
def mz_Cx (G : mz_G) (M : mz_M) (p : Program) (s : State) (m : MethodId) (args : Array Value) (meth : Method) (c : Code) : Prop :=
  p.tables.exec = Jvm.exec ∧ c.code = mz_mb M ∧ meth.sig.returnType = mz_mr M ∧ c.maxLocals = mz_mL M ∧ (∀ w ∈ mz_GW, w.before args s = true) ∧ s.vm.findClass (mz_my M).cls = some m.cls ∧ meth.locks = false ∧ meth.name = (mz_my M).name ∧ mz_S G s ∧ c.exceptionTable.toList = tableOf (mz_mt M)
def mz_cat (v : Value) : Nat := v.category
/-- a return at pc with the answer v -/
def mz_Ret (M : mz_M) (pc : Nat) (v : Option Value) : Prop := match v with
  | none => decode (mz_mb M) pc = .ok (.return_, 1) ∧ mz_mr M = none
  | some (.int x) => decode (mz_mb M) pc = .ok (.ireturn, 1) ∧ ∃ ty, mz_mr M = some ty ∧ narrow ty (.int x) = .int x
  | some (.long _) => decode (mz_mb M) pc = .ok (.lreturn, 1) ∧ mz_mr M = some .long
  | some (.double _) => decode (mz_mb M) pc = .ok (.dreturn, 1) ∧ mz_mr M = some .double
  | some (.ref _) => decode (mz_mb M) pc = .ok (.areturn, 1) ∧ ∃ n, mz_mr M = some (.object n)
  | _ => False
def zx_chain (X : String) (ix : Nat) (rx : ByteArray) (names : List String) : List Cond := match names with
  | [] => Bundle.passSAtoms X Bundle.tN ix rx
  | Y :: r => Bundle.passSAtoms X Y ix rx ++ Bundle.chainSAtoms Y r
def zx_atoms (own : String) (ic : Nat) (X : String) (ix : Nat) (rx : ByteArray) (names : List String) : List Cond :=
  Bundle.throwableAtoms ++ Bundle.throwableSAtoms ++ zx_chain X ix rx names ++
  [.methodLink own ic (Bundle.initS X), .instantiable X 6, .castable X X, .selects X Bundle.tFill0 Bundle.tFill0, .selects X Bundle.tFill Bundle.tFill,
   .lays X Bundle.tN "cause" "Ljava/lang/Throwable;", .lays X Bundle.tN "stackTrace" Bundle.steD, .lays X Bundle.tN "suppressedExceptions" Bundle.listD, .lays X Bundle.tN "detailMessage" "Ljava/lang/String;",
   .isRef (.static Bundle.tN "UNASSIGNED_STACK" Bundle.steD), .isRef (.static Bundle.tN "SUPPRESSED_SENTINEL" Bundle.listD),
   .fieldLink Bundle.tN 198 Bundle.tN "backtrace" "Ljava/lang/Object;", .lays Bundle.tN Bundle.tN "backtrace" "Ljava/lang/Object;", .lays X Bundle.tN "backtrace" "Ljava/lang/Object;"]
def zx_atS (own : String) (ic : Nat) (X : String) (ix : Nat) (rx : ByteArray) (names : List String) : List Cond := (zx_atoms own ic X ix rx names).filter vx_no
def mz_cd : Cond → Bool
  | .castable _ _ => true
  | .declares _ => true
  | _ => false
/-- a word of a throw: it stays, or it is one of two kinds that the tables' start gives -/
def mz_ow (w : Cond) : Prop := vx_no w = true → vx_ot w = true ∧ (w ∈ mz_GW ∨ (w ∈ lw_tbl ∧ mz_cd w = true))
/-- a throw of a new E at pc -/
def mz_Thr (M : mz_M) (pc : Nat) (E : String) : Prop := ∃ (ik is ic : Nat) (text : String) (names : List String) (wide : Bool) (ix : Nat) (rx : ByteArray), (decode rx 0 = .ok (.aload_n 0, 1) ∧ decode rx 1 = .ok (.aload_n 1, 1) ∧ decode rx 2 = .ok (.invokespecial ix, 3) ∧ decode rx 5 = .ok (.return_, 1)) ∧
  (mz_my M).cls = RX11 ∧ (is, text) ∈ mz_str ∧ Bundle.fit E = true ∧ (∀ n ∈ names, Bundle.fit n = true) ∧ Cond.classLink RX11 ik E ∈ mz_GW ∧ Cond.initialized E ∈ mz_GW ∧ (∀ w ∈ zx_atoms RX11 ic E ix rx names, mz_ow w) ∧
  decode (mz_mb M) pc = .ok (.new ik, 3) ∧ decode (mz_mb M) (pc + 3) = .ok (.dup, 1) ∧
  (match wide with
    | true => decode (mz_mb M) (pc + 4) = .ok (.ldc_w is, 3) ∧ decode (mz_mb M) (pc + 7) = .ok (.invokespecial ic, 3) ∧ decode (mz_mb M) (pc + 10) = .ok (.athrow, 1)
    | false => decode (mz_mb M) (pc + 4) = .ok (.ldc is, 2) ∧ decode (mz_mb M) (pc + 6) = .ok (.invokespecial ic, 3) ∧ decode (mz_mb M) (pc + 9) = .ok (.athrow, 1)) ∧
  names.length + 3 < (mz_mR M).frames ∧ 13 * (names.length + 1) + 43 ≤ (mz_mR M).locals ∧ mz_mt M = []
/-- what is known of the locals, by their places -/
def mz_lv (ls : Array Slot) (n : Nat) (lv : List (Option Value)) : Prop := ls.size = n ∧ lv_wf ls ∧ lv.length = n ∧ ∀ (i : Nat) (v : Value), lv[i]? = some (some v) → ls[i]? = some (Slot.val v)
abbrev mz_N : Type := Nat × Nat
def mz_EndK (G : mz_G) (M : mz_M) (p : Program) (e : Env) (s : State) (m : MethodId) (args : Array Value) (below : List Frame) (meth : Method) (c : Code) (Q : State → Prop) (K : mz_K) : Prop :=
  ∀ H locs pc ls v T I L (n : mz_N), K v T I L → mz_Pic G T I L H → va_S (mz_A G) s.heap H locs → n.1 ≤ (mz_mR M).cells → n.2 ≤ (mz_mR M).slots → mz_Ret M pc v → W p (mz_gl G) e (mz_mR M) s m args below meth c H locs n.1 n.2 Q (F0 m pc ls v.toList)
def mz_EndX (G : mz_G) (M : mz_M) (p : Program) (e : Env) (s : State) (m : MethodId) (args : Array Value) (below : List Frame) (meth : Method) (c : Code) (Q : State → Prop) (X : mz_X) : Prop :=
  (∀ H locs pc ls E T I L (n : mz_N), X E T I L → mz_Pic G T I L H → va_S (mz_A G) s.heap H locs → n.1 + 1 ≤ (mz_mR M).cells → n.2 + 6 ≤ (mz_mR M).slots → mz_Thr M pc E → ls.size = mz_mL M → W p (mz_gl G) e (mz_mR M) s m args below meth c H locs n.1 n.2 Q (F0 m pc ls [])) ∧
  (∀ H locs pc ls E q ce rest T I L (n : mz_N), X E T I L → mz_Pic G T I L H → va_S (mz_A G) s.heap H locs → n.1 ≤ (mz_mR M).cells → n.2 ≤ (mz_mR M).slots → mz_mt M = [] → H[q]? = some ce → ce.vm = .none → s.vm.findClass E = some ce.cls → vx_W p (mz_gl G) e (mz_mR M) s m args below meth c H locs n.1 n.2 Q (F0 m pc ls rest) q)
/-- THE JUDGEMENT: from pc, with these locals, stack, picture and room used, M comes to an end with K (or throws with X) -/
def mz_W (G : mz_G) (M : mz_M) (K : mz_K) (X : mz_X) (pc : Nat) (lv : List (Option Value)) (st : List Value) (T : mz_T) (I : mz_I) (L : mz_L) (n : mz_N) : Prop :=
  mz_OK G → ∀ p e s m args below meth c Q, mz_Cx G M p s m args meth c → mz_EndK G M p e s m args below meth c Q K → mz_EndX G M p e s m args below meth c Q X →
    ∀ H locs ls, mz_Pic G T I L H → va_S (mz_A G) s.heap H locs → mz_lv ls (mz_mL M) lv → n.1 ≤ (mz_mR M).cells → n.2 ≤ (mz_mR M).slots →
      W p (mz_gl G) e (mz_mR M) s m args below meth c H locs n.1 n.2 Q (F0 m pc ls st)
