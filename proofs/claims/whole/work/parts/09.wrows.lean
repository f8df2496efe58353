/-! the operations as rewriting rows (each with a proof of its own, so that the kernel need not compute) -/
section MZR
def mz_kp (k : mz_k) (lv : List (Option Value)) (r : List Value) (T : mz_T) (I : mz_I) (L : mz_L) (n : mz_N) (t : Nat) : Prop := k t lv r T I L n
/-- the handlers behind a call that threw -/
def mz_kh (hs : List (String × Nat)) (k : mz_k) (lv : List (Option Value)) (n : mz_N) : mz_X := fun E9 T I L => mz_hd hs E9 (fun h => ∀ q, k h lv [.ref q] T I L n)
def mz_Li (v : Option (Option Value)) (q : Int32 → Prop) : Prop := match v with
  | some (some (.int x)) => q x
  | _ => False
def mz_Ki (k : mz_k) (pc : Nat) (lv : List (Option Value)) (st : List Value) (T : mz_T) (I : mz_I) (L : mz_L) (n : mz_N) (x : Int32) : Prop := k pc lv (.int x :: st) T I L n
def mz_La (v : Option (Option Value)) (q : Nat → Prop) : Prop := match v with
  | some (some (.ref x)) => q x
  | _ => False
def mz_Ka (k : mz_k) (pc : Nat) (lv : List (Option Value)) (st : List Value) (T : mz_T) (I : mz_I) (L : mz_L) (n : mz_N) (x : Nat) : Prop := k pc lv (.ref x :: st) T I L n
def mz_Ll (v : Option (Option Value)) (q : Int64 → Prop) : Prop := match v with
  | some (some (.long x)) => q x
  | _ => False
def mz_Kl (k : mz_k) (pc : Nat) (lv : List (Option Value)) (st : List Value) (T : mz_T) (I : mz_I) (L : mz_L) (n : mz_N) (x : Int64) : Prop := k pc lv (.long x :: st) T I L n
def mz_Ld (v : Option (Option Value)) (q : UInt64 → Prop) : Prop := match v with
  | some (some (.double x)) => q x
  | _ => False
def mz_Kd (k : mz_k) (pc : Nat) (lv : List (Option Value)) (st : List Value) (T : mz_T) (I : mz_I) (L : mz_L) (n : mz_N) (x : UInt64) : Prop := k pc lv (.double x :: st) T I L n
def mz_Kn (k : mz_k) (pc : Nat) (lv : List (Option Value)) (i : Nat) (d : Int32) (st : List Value) (T : mz_T) (I : mz_I) (L : mz_L) (n : mz_N) (x : Int32) : Prop := k pc ((mz_kl lv i).set i (some (.int (x + d)))) st T I L n
theorem mz_nr {α : Sort _} {a b : α} (h : a = b) : a = b := h
variable {G : mz_G} {K : mz_K} {X : mz_X} {E : mz_E} {pc : Nat} {lv : List (Option Value)} {st r : List Value} {T : mz_T} {I : mz_I} {L : mz_L} {n : mz_N} {k : mz_k} {w : mz_k} {cd : Nat → List mz_Op} {stops : List Nat}
theorem r_rn0  : mz_run [] E k pc lv st T I L n = (k pc lv st T I L n) := mz_nr rfl
theorem r_rnc {o : mz_Op} {os : List mz_Op} : mz_run (o :: os) E k pc lv st T I L n = (o E pc lv st T I L n (mz_run os E k)) := mz_nr rfl
theorem r_vk0  : mz_vk cd stops E w [] pc lv st T I L n = (w pc lv st T I L n) := mz_nr rfl
theorem r_vks {u : Unit} {f : List Unit} (h : mz_mem pc stops = true) : mz_vk cd stops E w (u :: f) pc lv st T I L n = w pc lv st T I L n := by
  rw [mz_vkc, h]
theorem r_vkc {u : Unit} {f : List Unit} (h : mz_mem pc stops = false) : mz_vk cd stops E w (u :: f) pc lv st T I L n = mz_run (cd pc) E (mz_vk cd stops E w f) pc lv st T I L n := by
  rw [mz_vkc, h]
theorem r_kci {v : Value} : mz_kc k pc lv r n (some v) T I L = (k (pc + 3) lv (v :: r) T I L n) := mz_nr rfl
theorem r_kcv  : mz_kc k pc lv r n none T I L = (k (pc + 3) lv r T I L n) := mz_nr rfl
theorem r_ild {i len : Nat} : o_ild i len E pc lv st T I L n k = mz_Li lv[i]? (mz_Ki k (pc + len) lv st T I L n) := by
  unfold o_ild mz_Li mz_Ki
  generalize lv[i]? = y
  rcases y with _ | _ | v <;> rfl
theorem r_Li {x : Int32} {q : Int32 → Prop} : mz_Li (some (some (.int x))) q = q x := mz_nr rfl
theorem r_Ki {x : Int32} : mz_Ki k pc lv st T I L n x = k pc lv (.int x :: st) T I L n := mz_nr rfl
theorem r_ald {i len : Nat} : o_ald i len E pc lv st T I L n k = mz_La lv[i]? (mz_Ka k (pc + len) lv st T I L n) := by
  unfold o_ald mz_La mz_Ka
  generalize lv[i]? = y
  rcases y with _ | _ | v <;> rfl
theorem r_La {x : Nat} {q : Nat → Prop} : mz_La (some (some (.ref x))) q = q x := mz_nr rfl
theorem r_Ka {x : Nat} : mz_Ka k pc lv st T I L n x = k pc lv (.ref x :: st) T I L n := mz_nr rfl
theorem r_lld {i len : Nat} : o_lld i len E pc lv st T I L n k = mz_Ll lv[i]? (mz_Kl k (pc + len) lv st T I L n) := by
  unfold o_lld mz_Ll mz_Kl
  generalize lv[i]? = y
  rcases y with _ | _ | v <;> rfl
theorem r_Ll {x : Int64} {q : Int64 → Prop} : mz_Ll (some (some (.long x))) q = q x := mz_nr rfl
theorem r_Kl {x : Int64} : mz_Kl k pc lv st T I L n x = k pc lv (.long x :: st) T I L n := mz_nr rfl
theorem r_dld {i len : Nat} : o_dld i len E pc lv st T I L n k = mz_Ld lv[i]? (mz_Kd k (pc + len) lv st T I L n) := by
  unfold o_dld mz_Ld mz_Kd
  generalize lv[i]? = y
  rcases y with _ | _ | v <;> rfl
theorem r_Ld {x : UInt64} {q : UInt64 → Prop} : mz_Ld (some (some (.double x))) q = q x := mz_nr rfl
theorem r_Kd {x : UInt64} : mz_Kd k pc lv st T I L n x = k pc lv (.double x :: st) T I L n := mz_nr rfl
theorem r_ist {i len : Nat} {x : Int32} : o_ist i len E pc lv (.int x :: r) T I L n k = (i < lv.length ∧ k (pc + len) ((mz_kl lv i).set i (some (.int x))) r T I L n) := mz_nr rfl
theorem r_ast {i len : Nat} {x : Nat} : o_ast i len E pc lv (.ref x :: r) T I L n k = (i < lv.length ∧ k (pc + len) ((mz_kl lv i).set i (some (.ref x))) r T I L n) := mz_nr rfl
theorem r_lst {i len : Nat} {x : Int64} : o_lst i len E pc lv (.long x :: r) T I L n k = (i + 1 < lv.length ∧ k (pc + len) (((mz_kl lv i).set i (some (.long x))).set (i + 1) none) r T I L n) := mz_nr rfl
theorem r_dst {i len : Nat} {x : UInt64} : o_dst i len E pc lv (.double x :: r) T I L n k = (i + 1 < lv.length ∧ k (pc + len) (((mz_kl lv i).set i (some (.double x))).set (i + 1) none) r T I L n) := mz_nr rfl
theorem r_iinc {i : Nat} {d : Int32} : o_iinc i d E pc lv st T I L n k = mz_Li lv[i]? (mz_Kn k (pc + 3) lv i d st T I L n) := by
  unfold o_iinc mz_Li mz_Kn
  generalize lv[i]? = y
  rcases y with _ | _ | v <;> rfl
theorem r_Kn {x : Int32} {i : Nat} {d : Int32} : mz_Kn k pc lv i d st T I L n x = k pc ((mz_kl lv i).set i (some (.int (x + d)))) st T I L n := mz_nr rfl
theorem r_int {v : Int32} {len : Nat} : o_int v len E pc lv st T I L n k = (k (pc + len) lv (.int v :: st) T I L n) := mz_nr rfl
theorem r_lng {v : Int64} {len : Nat} : o_lng v len E pc lv st T I L n k = (k (pc + len) lv (.long v :: st) T I L n) := mz_nr rfl
theorem r_dbl {v : UInt64} {len : Nat} : o_dbl v len E pc lv st T I L n k = (k (pc + len) lv (.double v :: st) T I L n) := mz_nr rfl
theorem r_i2 {f : Int32 → Int32 → Int32} {x y : Int32} : o_i2 f E pc lv (.int y :: .int x :: r) T I L n k = (k (pc + 1) lv (.int (f x y) :: r) T I L n) := mz_nr rfl
theorem r_i1 {f : Int32 → Int32} {x : Int32} : o_i1 f E pc lv (.int x :: r) T I L n k = (k (pc + 1) lv (.int (f x) :: r) T I L n) := mz_nr rfl
theorem r_l2 {f : Int64 → Int64 → Int64} {x y : Int64} : o_l2 f E pc lv (.long y :: .long x :: r) T I L n k = (k (pc + 1) lv (.long (f x y) :: r) T I L n) := mz_nr rfl
theorem r_lsh {f : Int64 → Int32 → Int64} {x : Int64} {y : Int32} : o_lsh f E pc lv (.int y :: .long x :: r) T I L n k = (k (pc + 1) lv (.long (f x y) :: r) T I L n) := mz_nr rfl
theorem r_i2z {f : Int32 → Int32 → Int32} {x y : Int32} : o_i2z f E pc lv (.int y :: .int x :: r) T I L n k = (¬ y = 0 ∧ k (pc + 1) lv (.int (f x y) :: r) T I L n) := mz_nr rfl
theorem r_l2z {f : Int64 → Int64 → Int64} {x y : Int64} : o_l2z f E pc lv (.long y :: .long x :: r) T I L n k = (¬ y = 0 ∧ k (pc + 1) lv (.long (f x y) :: r) T I L n) := mz_nr rfl
theorem r_i2l {x : Int32} : o_i2l E pc lv (.int x :: r) T I L n k = (k (pc + 1) lv (.long x.toInt64 :: r) T I L n) := mz_nr rfl
theorem r_l2i {x : Int64} : o_l2i E pc lv (.long x :: r) T I L n k = (k (pc + 1) lv (.int x.toInt32 :: r) T I L n) := mz_nr rfl
theorem r_i2d {x : Int32} : o_i2d E pc lv (.int x :: r) T I L n k = (k (pc + 1) lv (.double (FP.i2d x) :: r) T I L n) := mz_nr rfl
theorem r_lcmp {x y : Int64} : o_lcmp E pc lv (.long y :: .long x :: r) T I L n k = (k (pc + 1) lv (.int (lg_cmp x y) :: r) T I L n) := mz_nr rfl
theorem r_ddiv {x y : UInt64} : o_ddiv E pc lv (.double y :: .double x :: r) T I L n k = (vf_n64 (FP.ddiv x y) ∧ k (pc + 1) lv (.double (FP.ddiv x y) :: r) T I L n) := mz_nr rfl
theorem r_dcmpl {x y : UInt64} : o_dcmpl E pc lv (.double y :: .double x :: r) T I L n k = (k (pc + 1) lv (.int (Op.cmpValue (FP.dcmp x y) CmpOp.l) :: r) T I L n) := mz_nr rfl
theorem r_dup {v : Value} : o_dup E pc lv (v :: r) T I L n k = (mz_one v = true ∧ k (pc + 1) lv (v :: v :: r) T I L n) := mz_nr rfl
theorem r_dup2 {v v2 : Value} : o_dup2 E pc lv (v :: v2 :: r) T I L n k = (mz_one v = true ∧ mz_one v2 = true ∧ k (pc + 1) lv (v :: v2 :: v :: v2 :: r) T I L n) := mz_nr rfl
theorem r_pop {v : Value} : o_pop E pc lv (v :: r) T I L n k = (mz_one v = true ∧ k (pc + 1) lv r T I L n) := mz_nr rfl
theorem r_one_int {x : Int32} : (mz_one (.int x) = true) = True := eq_true rfl
theorem r_one_ref {x : Nat} : (mz_one (.ref x) = true) = True := eq_true rfl
theorem r_go {t : Nat} : o_go t E pc lv st T I L n k = (k t lv st T I L n) := mz_nr rfl
theorem r_if {t : Int32 → Prop} {tg : Nat} {x : Int32} : o_if t tg E pc lv (.int x :: r) T I L n k = ((t x → k tg lv r T I L n) ∧ (¬ t x → k (pc + 3) lv r T I L n)) := mz_nr rfl
theorem r_ic {t : Int32 → Int32 → Prop} {tg : Nat} {x y : Int32} : o_ic t tg E pc lv (.int y :: .int x :: r) T I L n k = ((t x y → k tg lv r T I L n) ∧ (¬ t x y → k (pc + 3) lv r T I L n)) := mz_nr rfl
theorem r_tsw {lo : Int} {ts : List Nat} {d : Nat} {x : Int32} : o_tsw lo ts d E pc lv (.int x :: r) T I L n k = (mz_sw x lo ts d (mz_kp k lv r T I L n)) := mz_nr rfl
theorem r_lsw {ps : List (Int × Nat)} {d : Nat} {x : Int32} : o_lsw ps d E pc lv (.int x :: r) T I L n k = (mz_lk x ps d (mz_kp k lv r T I L n)) := mz_nr rfl
theorem r_sw0 {x : Int32} {lo : Int} {d : Nat} {q : Nat → Prop} : mz_sw x lo [] d q = (q d) := mz_nr rfl
theorem r_swc {x : Int32} {lo : Int} {t d : Nat} {ts : List Nat} {q : Nat → Prop} : mz_sw x lo (t :: ts) d q = ((x.toInt = lo → q t) ∧ (¬ x.toInt = lo → mz_sw x (lo + 1) ts d q)) := mz_nr rfl
theorem r_lk0 {x : Int32} {d : Nat} {q : Nat → Prop} : mz_lk x [] d q = (q d) := mz_nr rfl
theorem r_lkc {x : Int32} {p : Int × Nat} {d : Nat} {ps : List (Int × Nat)} {q : Nat → Prop} : mz_lk x (p :: ps) d q = ((x.toInt = p.1 → q p.2) ∧ (¬ x.toInt = p.1 → mz_lk x ps d q)) := mz_nr rfl
theorem r_kp {t : Nat} : mz_kp k lv st T I L n t = (k t lv st T I L n) := mz_nr rfl
theorem r_gI {c f a : Nat} : o_gI c f E pc lv (.ref a :: r) T I L n k = ((a, 0, c) ∈ T.1 ∧ k (pc + 3) lv (.int (I a f) :: r) T I L n) := mz_nr rfl
theorem r_gL {c f a : Nat} : o_gL c f E pc lv (.ref a :: r) T I L n k = ((a, 0, c) ∈ T.1 ∧ k (pc + 3) lv (.long (L a f) :: r) T I L n) := mz_nr rfl
theorem r_gR {c f a : Nat} : o_gR c f E pc lv (.ref a :: r) T I L n k = ((a, 0, c) ∈ T.1 ∧ k (pc + 3) lv (va_rf (T.2 a f) :: r) T I L n) := mz_nr rfl
theorem r_pI {c f a : Nat} {x : Int32} : o_pI c f E pc lv (.int x :: .ref a :: r) T I L n k = ((a, 0, c) ∈ T.1 ∧ k (pc + 3) lv r T (mz_u I a f x) L n) := mz_nr rfl
theorem r_pZ {c f a : Nat} {x : Int32} : o_pZ c f E pc lv (.int x :: .ref a :: r) T I L n k = ((a, 0, c) ∈ T.1 ∧ (x = 0 ∨ x = 1) ∧ k (pc + 3) lv r T (mz_u I a f x) L n) := mz_nr rfl
theorem r_pL {c f a : Nat} {x : Int64} : o_pL c f E pc lv (.long x :: .ref a :: r) T I L n k = ((a, 0, c) ∈ T.1 ∧ k (pc + 3) lv r T I (mz_u L a f x) n) := mz_nr rfl
theorem r_pR {c f a x : Nat} : o_pR c f E pc lv (.ref x :: .ref a :: r) T I L n k = ((a, 0, c) ∈ T.1 ∧ k (pc + 3) lv r (T.1, mz_u T.2 a f (some x)) I L n) := mz_nr rfl
theorem r_gs {q : Nat} : o_gs q E pc lv st T I L n k = (k (pc + 3) lv (.ref (mz_gr E.1 q) :: st) T I L n) := mz_nr rfl
theorem r_iaR {i : Int32} {a : Nat} : o_iaR E pc lv (.int i :: .ref a :: r) T I L n k = (∃ q, q < 5 ∧ a = mz_gr E.1 q ∧ vp_in i (mz_rn E.1 q) ∧ k (pc + 1) lv (.int (mz_rf E.1 q i.toNatClampNeg) :: r) T I L n) := mz_nr rfl
/-- the row of number q is read -/
theorem r_iaq {q : Nat} (hq : q < 5) {i : Int32} (h : vp_in i (mz_rn E.1 q) ∧ k (pc + 1) lv (.int (mz_rf E.1 q i.toNatClampNeg) :: r) T I L n) : o_iaR E pc lv (.int i :: .ref (mz_gr E.1 q) :: r) T I L n k := ⟨q, hq, rfl, h.1, h.2⟩
theorem r_leq {q : Nat} (hq : q < 5) (h : k (pc + 1) lv (.int (Int32.ofNat (mz_rn E.1 q)) :: r) T I L n) : o_leR E pc lv (.ref (mz_gr E.1 q) :: r) T I L n k := ⟨q, hq, rfl, h⟩
theorem r_ia {i : Int32} {a : Nat} : o_ia E pc lv (.int i :: .ref a :: r) T I L n k = (mz_ix T 1 a i ∧ k (pc + 1) lv (.int (I a i.toNatClampNeg) :: r) T I L n) := mz_nr rfl
theorem r_ca {i : Int32} {a : Nat} : o_ca E pc lv (.int i :: .ref a :: r) T I L n k = (mz_ix T 5 a i ∧ k (pc + 1) lv (.int (I a i.toNatClampNeg) :: r) T I L n) := mz_nr rfl
theorem r_za {i : Int32} {a : Nat} : o_za E pc lv (.int i :: .ref a :: r) T I L n k = (mz_ix T 4 a i ∧ k (pc + 1) lv (.int (I a i.toNatClampNeg) :: r) T I L n) := mz_nr rfl
theorem r_la {i : Int32} {a : Nat} : o_la E pc lv (.int i :: .ref a :: r) T I L n k = (mz_ix T 2 a i ∧ k (pc + 1) lv (.long (L a i.toNatClampNeg) :: r) T I L n) := mz_nr rfl
theorem r_da {i : Int32} {a : Nat} : o_da E pc lv (.int i :: .ref a :: r) T I L n k = (mz_ix T 3 a i ∧ k (pc + 1) lv (.double (L a i.toNatClampNeg).toUInt64 :: r) T I L n) := mz_nr rfl
theorem r_aa {i : Int32} {a : Nat} : o_aa E pc lv (.int i :: .ref a :: r) T I L n k = (mz_ix T 6 a i ∧ k (pc + 1) lv (va_rf (T.2 a i.toNatClampNeg) :: r) T I L n) := mz_nr rfl
theorem r_le {a : Nat} : o_le E pc lv (.ref a :: r) T I L n k = (∃ kd N, 1 ≤ kd ∧ kd ≤ 6 ∧ (a, kd, N) ∈ T.1 ∧ k (pc + 1) lv (.int (Int32.ofNat N) :: r) T I L n) := mz_nr rfl
theorem r_ias {i : Int32} {a : Nat} {x : Int32} : o_ias E pc lv (.int x :: .int i :: .ref a :: r) T I L n k = (mz_ix T 1 a i ∧ k (pc + 1) lv r T (mz_u I a i.toNatClampNeg x) L n) := mz_nr rfl
theorem r_cas {i : Int32} {a : Nat} {x : Int32} : o_cas E pc lv (.int x :: .int i :: .ref a :: r) T I L n k = (mz_ix T 5 a i ∧ k (pc + 1) lv r T (mz_u I a i.toNatClampNeg (vp_nar .char x)) L n) := mz_nr rfl
theorem r_zas {i : Int32} {a : Nat} {x : Int32} : o_zas E pc lv (.int x :: .int i :: .ref a :: r) T I L n k = (mz_ix T 4 a i ∧ k (pc + 1) lv r T (mz_u I a i.toNatClampNeg (vp_nar .boolean x)) L n) := mz_nr rfl
theorem r_las {i : Int32} {a : Nat} {x : Int64} : o_las E pc lv (.long x :: .int i :: .ref a :: r) T I L n k = (mz_ix T 2 a i ∧ k (pc + 1) lv r T I (mz_u L a i.toNatClampNeg x) n) := mz_nr rfl
theorem r_das {i : Int32} {a : Nat} {x : UInt64} : o_das E pc lv (.double x :: .int i :: .ref a :: r) T I L n k = (mz_ix T 3 a i ∧ k (pc + 1) lv r T I (mz_u L a i.toNatClampNeg x.toInt64) n) := mz_nr rfl
theorem r_aas {i : Int32} {a x : Nat} : o_aas E pc lv (.ref x :: .int i :: .ref a :: r) T I L n k = (mz_ix T 6 a i ∧ (x, 0, 4) ∈ T.1 ∧ k (pc + 1) lv r (T.1, mz_u T.2 a i.toNatClampNeg (some x)) I L n) := mz_nr rfl
theorem r_acp {z d s : Int32} {a0 a1 : Nat} : o_acp E pc lv (.int z :: .int d :: .ref a1 :: .int s :: .ref a0 :: r) T I L n k = ((¬ s < 0 ∧ ¬ d < 0 ∧ ¬ z < 0 ∧ ∃ n0 n1, (a0, 1, n0) ∈ T.1 ∧ (a1, 1, n1) ∈ T.1 ∧ s.toNatClampNeg + z.toNatClampNeg ≤ n0 ∧ d.toNatClampNeg + z.toNatClampNeg ≤ n1) ∧ r = [] ∧ k (pc + 3) lv r T (mz_row I a1 (va_cpy (I a0) (I a1) s.toNatClampNeg d.toNatClampNeg z.toNatClampNeg)) L n) := mz_nr rfl
theorem r_new {c N mc ms : Nat} : o_new c N mc ms E pc lv st T I L n k = (n.1 + 1 ≤ mc ∧ n.2 + N ≤ ms ∧ ∀ q, (∀ x ∈ T.1, x.1 ≠ q) → k (pc + 3) lv (.ref q :: st) (T.1 ++ [(q, 0, c)], mz_z T.2 q none) (mz_z I q 0) (mz_z L q 0) (n.1 + 1, n.2 + N)) := mz_nr rfl
theorem r_nwa {kd N mc ms : Nat} {v x : Int32} : o_nwa kd N v mc ms E pc lv (.int x :: r) T I L n k = (x = v ∧ n.1 + 1 ≤ mc ∧ n.2 + N ≤ ms ∧ ∀ q, (∀ y ∈ T.1, y.1 ≠ q) → k (pc + 2) lv (.ref q :: r) (T.1 ++ [(q, kd, N)], mz_z T.2 q none) (mz_z I q 0) (mz_z L q 0) (n.1 + 1, n.2 + N)) := mz_nr rfl
theorem r_nwq {N mc ms : Nat} {v x : Int32} : o_nwq N v mc ms E pc lv (.int x :: r) T I L n k = (x = v ∧ n.1 + 1 ≤ mc ∧ n.2 + N ≤ ms ∧ ∀ q, (∀ y ∈ T.1, y.1 ≠ q) → k (pc + 3) lv (.ref q :: r) (T.1 ++ [(q, 6, N)], mz_z T.2 q none) (mz_z I q 0) (mz_z L q 0) (n.1 + 1, n.2 + N)) := mz_nr rfl
theorem r_ret  : o_ret (G, K, X) pc lv [] T I L n k = (K none T I L) := mz_nr rfl
theorem r_irt {x : Int32} : o_irt (G, K, X) pc lv [.int x] T I L n k = (K (some (.int x)) T I L) := mz_nr rfl
theorem r_zrt {x : Int32} : o_zrt (G, K, X) pc lv [.int x] T I L n k = ((x = 0 ∨ x = 1) ∧ K (some (.int x)) T I L) := mz_nr rfl
theorem r_lrt {x : Int64} : o_lrt (G, K, X) pc lv [.long x] T I L n k = (K (some (.long x)) T I L) := mz_nr rfl
theorem r_drt {x : UInt64} : o_drt (G, K, X) pc lv [.double x] T I L n k = (K (some (.double x)) T I L) := mz_nr rfl
theorem r_art {x : Nat} : o_art (G, K, X) pc lv [.ref x] T I L n k = (K (some (.ref x)) T I L) := mz_nr rfl
theorem r_thr {e9 : String} {mc ms : Nat} : o_thr e9 mc ms (G, K, X) pc lv st T I L n k = (st = [] ∧ n.1 + 1 ≤ mc ∧ n.2 + 6 ≤ ms ∧ X e9 T I L) := mz_nr rfl
theorem r_cS0 {M' : mz_M}  : o_cS M' 0 (G, K, X) pc lv (r) T I L n k = (0 ≤ (r).length ∧ r.length ≤ 4 ∧ mz_Ctr G M' [] T I L (mz_kc k pc lv r n)) := mz_nr rfl
theorem r_cW0 {M' : mz_M}  {ca sa mc ms : Nat} : o_cW M' 0 ca sa mc ms (G, K, X) pc lv (r) T I L n k = (0 ≤ (r).length ∧ r.length ≤ 4 ∧ n.1 + ca ≤ mc ∧ n.2 + sa ≤ ms ∧ mz_CtrW G M' [] T I L (mz_kc k pc lv r (n.1 + ca, n.2 + sa))) := mz_nr rfl
theorem r_cV0 {M' : mz_M} {v0 : Value} {c : Nat} : o_cV M' c 0 (G, K, X) pc lv (v0 :: r) T I L n k = (mz_rc c [v0] T ∧ 1 ≤ (v0 :: r).length ∧ r.length ≤ 4 ∧ mz_Ctr G M' [v0] T I L (mz_kc k pc lv r n)) := mz_nr rfl
theorem r_cI0 {M' : mz_M} {v0 : Value} {ca sa mc ms : Nat} : o_cI M' 0 ca sa mc ms (G, K, X) pc lv (v0 :: r) T I L n k = (1 ≤ (v0 :: r).length ∧ r.length ≤ 4 ∧ n.1 + ca ≤ mc ∧ n.2 + sa ≤ ms ∧ (∃ b As, [v0] = .ref b :: As) ∧ mz_Ctr G M' [v0] T I L (mz_kc k pc lv r (n.1 + ca, n.2 + sa))) := mz_nr rfl
theorem r_cX0 {M' : mz_M} {v0 : Value} {c ca sa mc ms : Nat} : o_cX M' c 0 ca sa mc ms (G, K, X) pc lv (v0 :: r) T I L n k = (mz_rc c [v0] T ∧ 1 ≤ (v0 :: r).length ∧ r.length ≤ 4 ∧ n.1 + ca ≤ mc ∧ n.2 + sa ≤ ms ∧ mz_CtrX G M' [v0] T I L (mz_kc k pc lv r (n.1 + ca, n.2 + sa)) X) := mz_nr rfl
theorem r_cH0 {M' : mz_M} {v0 : Value} {c ca sa mc ms : Nat} {hs : List (String × Nat)} : o_cH M' c 0 ca sa mc ms hs (G, K, X) pc lv (v0 :: r) T I L n k = (mz_rc c [v0] T ∧ 1 ≤ (v0 :: r).length ∧ r.length ≤ 4 ∧ n.1 + ca ≤ mc ∧ n.2 + sa ≤ ms ∧ mz_CtrX G M' [v0] T I L (mz_kc k pc lv r (n.1 + ca, n.2 + sa)) (mz_kh hs k lv (n.1 + ca, n.2 + sa))) := mz_nr rfl
theorem r_cS1 {M' : mz_M} {v0 : Value} : o_cS M' 1 (G, K, X) pc lv (v0 :: r) T I L n k = (1 ≤ (v0 :: r).length ∧ r.length ≤ 4 ∧ mz_Ctr G M' [v0] T I L (mz_kc k pc lv r n)) := mz_nr rfl
theorem r_cW1 {M' : mz_M} {v0 : Value} {ca sa mc ms : Nat} : o_cW M' 1 ca sa mc ms (G, K, X) pc lv (v0 :: r) T I L n k = (1 ≤ (v0 :: r).length ∧ r.length ≤ 4 ∧ n.1 + ca ≤ mc ∧ n.2 + sa ≤ ms ∧ mz_CtrW G M' [v0] T I L (mz_kc k pc lv r (n.1 + ca, n.2 + sa))) := mz_nr rfl
theorem r_cV1 {M' : mz_M} {v0 v1 : Value} {c : Nat} : o_cV M' c 1 (G, K, X) pc lv (v1 :: v0 :: r) T I L n k = (mz_rc c [v0, v1] T ∧ 2 ≤ (v1 :: v0 :: r).length ∧ r.length ≤ 4 ∧ mz_Ctr G M' [v0, v1] T I L (mz_kc k pc lv r n)) := mz_nr rfl
theorem r_cI1 {M' : mz_M} {v0 v1 : Value} {ca sa mc ms : Nat} : o_cI M' 1 ca sa mc ms (G, K, X) pc lv (v1 :: v0 :: r) T I L n k = (2 ≤ (v1 :: v0 :: r).length ∧ r.length ≤ 4 ∧ n.1 + ca ≤ mc ∧ n.2 + sa ≤ ms ∧ (∃ b As, [v0, v1] = .ref b :: As) ∧ mz_Ctr G M' [v0, v1] T I L (mz_kc k pc lv r (n.1 + ca, n.2 + sa))) := mz_nr rfl
theorem r_cX1 {M' : mz_M} {v0 v1 : Value} {c ca sa mc ms : Nat} : o_cX M' c 1 ca sa mc ms (G, K, X) pc lv (v1 :: v0 :: r) T I L n k = (mz_rc c [v0, v1] T ∧ 2 ≤ (v1 :: v0 :: r).length ∧ r.length ≤ 4 ∧ n.1 + ca ≤ mc ∧ n.2 + sa ≤ ms ∧ mz_CtrX G M' [v0, v1] T I L (mz_kc k pc lv r (n.1 + ca, n.2 + sa)) X) := mz_nr rfl
theorem r_cH1 {M' : mz_M} {v0 v1 : Value} {c ca sa mc ms : Nat} {hs : List (String × Nat)} : o_cH M' c 1 ca sa mc ms hs (G, K, X) pc lv (v1 :: v0 :: r) T I L n k = (mz_rc c [v0, v1] T ∧ 2 ≤ (v1 :: v0 :: r).length ∧ r.length ≤ 4 ∧ n.1 + ca ≤ mc ∧ n.2 + sa ≤ ms ∧ mz_CtrX G M' [v0, v1] T I L (mz_kc k pc lv r (n.1 + ca, n.2 + sa)) (mz_kh hs k lv (n.1 + ca, n.2 + sa))) := mz_nr rfl
theorem r_cS2 {M' : mz_M} {v0 v1 : Value} : o_cS M' 2 (G, K, X) pc lv (v1 :: v0 :: r) T I L n k = (2 ≤ (v1 :: v0 :: r).length ∧ r.length ≤ 4 ∧ mz_Ctr G M' [v0, v1] T I L (mz_kc k pc lv r n)) := mz_nr rfl
theorem r_cW2 {M' : mz_M} {v0 v1 : Value} {ca sa mc ms : Nat} : o_cW M' 2 ca sa mc ms (G, K, X) pc lv (v1 :: v0 :: r) T I L n k = (2 ≤ (v1 :: v0 :: r).length ∧ r.length ≤ 4 ∧ n.1 + ca ≤ mc ∧ n.2 + sa ≤ ms ∧ mz_CtrW G M' [v0, v1] T I L (mz_kc k pc lv r (n.1 + ca, n.2 + sa))) := mz_nr rfl
theorem r_cV2 {M' : mz_M} {v0 v1 v2 : Value} {c : Nat} : o_cV M' c 2 (G, K, X) pc lv (v2 :: v1 :: v0 :: r) T I L n k = (mz_rc c [v0, v1, v2] T ∧ 3 ≤ (v2 :: v1 :: v0 :: r).length ∧ r.length ≤ 4 ∧ mz_Ctr G M' [v0, v1, v2] T I L (mz_kc k pc lv r n)) := mz_nr rfl
theorem r_cI2 {M' : mz_M} {v0 v1 v2 : Value} {ca sa mc ms : Nat} : o_cI M' 2 ca sa mc ms (G, K, X) pc lv (v2 :: v1 :: v0 :: r) T I L n k = (3 ≤ (v2 :: v1 :: v0 :: r).length ∧ r.length ≤ 4 ∧ n.1 + ca ≤ mc ∧ n.2 + sa ≤ ms ∧ (∃ b As, [v0, v1, v2] = .ref b :: As) ∧ mz_Ctr G M' [v0, v1, v2] T I L (mz_kc k pc lv r (n.1 + ca, n.2 + sa))) := mz_nr rfl
theorem r_cX2 {M' : mz_M} {v0 v1 v2 : Value} {c ca sa mc ms : Nat} : o_cX M' c 2 ca sa mc ms (G, K, X) pc lv (v2 :: v1 :: v0 :: r) T I L n k = (mz_rc c [v0, v1, v2] T ∧ 3 ≤ (v2 :: v1 :: v0 :: r).length ∧ r.length ≤ 4 ∧ n.1 + ca ≤ mc ∧ n.2 + sa ≤ ms ∧ mz_CtrX G M' [v0, v1, v2] T I L (mz_kc k pc lv r (n.1 + ca, n.2 + sa)) X) := mz_nr rfl
theorem r_cH2 {M' : mz_M} {v0 v1 v2 : Value} {c ca sa mc ms : Nat} {hs : List (String × Nat)} : o_cH M' c 2 ca sa mc ms hs (G, K, X) pc lv (v2 :: v1 :: v0 :: r) T I L n k = (mz_rc c [v0, v1, v2] T ∧ 3 ≤ (v2 :: v1 :: v0 :: r).length ∧ r.length ≤ 4 ∧ n.1 + ca ≤ mc ∧ n.2 + sa ≤ ms ∧ mz_CtrX G M' [v0, v1, v2] T I L (mz_kc k pc lv r (n.1 + ca, n.2 + sa)) (mz_kh hs k lv (n.1 + ca, n.2 + sa))) := mz_nr rfl
theorem r_cS3 {M' : mz_M} {v0 v1 v2 : Value} : o_cS M' 3 (G, K, X) pc lv (v2 :: v1 :: v0 :: r) T I L n k = (3 ≤ (v2 :: v1 :: v0 :: r).length ∧ r.length ≤ 4 ∧ mz_Ctr G M' [v0, v1, v2] T I L (mz_kc k pc lv r n)) := mz_nr rfl
theorem r_cW3 {M' : mz_M} {v0 v1 v2 : Value} {ca sa mc ms : Nat} : o_cW M' 3 ca sa mc ms (G, K, X) pc lv (v2 :: v1 :: v0 :: r) T I L n k = (3 ≤ (v2 :: v1 :: v0 :: r).length ∧ r.length ≤ 4 ∧ n.1 + ca ≤ mc ∧ n.2 + sa ≤ ms ∧ mz_CtrW G M' [v0, v1, v2] T I L (mz_kc k pc lv r (n.1 + ca, n.2 + sa))) := mz_nr rfl
theorem r_cV3 {M' : mz_M} {v0 v1 v2 v3 : Value} {c : Nat} : o_cV M' c 3 (G, K, X) pc lv (v3 :: v2 :: v1 :: v0 :: r) T I L n k = (mz_rc c [v0, v1, v2, v3] T ∧ 4 ≤ (v3 :: v2 :: v1 :: v0 :: r).length ∧ r.length ≤ 4 ∧ mz_Ctr G M' [v0, v1, v2, v3] T I L (mz_kc k pc lv r n)) := mz_nr rfl
theorem r_cI3 {M' : mz_M} {v0 v1 v2 v3 : Value} {ca sa mc ms : Nat} : o_cI M' 3 ca sa mc ms (G, K, X) pc lv (v3 :: v2 :: v1 :: v0 :: r) T I L n k = (4 ≤ (v3 :: v2 :: v1 :: v0 :: r).length ∧ r.length ≤ 4 ∧ n.1 + ca ≤ mc ∧ n.2 + sa ≤ ms ∧ (∃ b As, [v0, v1, v2, v3] = .ref b :: As) ∧ mz_Ctr G M' [v0, v1, v2, v3] T I L (mz_kc k pc lv r (n.1 + ca, n.2 + sa))) := mz_nr rfl
theorem r_cX3 {M' : mz_M} {v0 v1 v2 v3 : Value} {c ca sa mc ms : Nat} : o_cX M' c 3 ca sa mc ms (G, K, X) pc lv (v3 :: v2 :: v1 :: v0 :: r) T I L n k = (mz_rc c [v0, v1, v2, v3] T ∧ 4 ≤ (v3 :: v2 :: v1 :: v0 :: r).length ∧ r.length ≤ 4 ∧ n.1 + ca ≤ mc ∧ n.2 + sa ≤ ms ∧ mz_CtrX G M' [v0, v1, v2, v3] T I L (mz_kc k pc lv r (n.1 + ca, n.2 + sa)) X) := mz_nr rfl
theorem r_cH3 {M' : mz_M} {v0 v1 v2 v3 : Value} {c ca sa mc ms : Nat} {hs : List (String × Nat)} : o_cH M' c 3 ca sa mc ms hs (G, K, X) pc lv (v3 :: v2 :: v1 :: v0 :: r) T I L n k = (mz_rc c [v0, v1, v2, v3] T ∧ 4 ≤ (v3 :: v2 :: v1 :: v0 :: r).length ∧ r.length ≤ 4 ∧ n.1 + ca ≤ mc ∧ n.2 + sa ≤ ms ∧ mz_CtrX G M' [v0, v1, v2, v3] T I L (mz_kc k pc lv r (n.1 + ca, n.2 + sa)) (mz_kh hs k lv (n.1 + ca, n.2 + sa))) := mz_nr rfl
theorem r_cS4 {M' : mz_M} {v0 v1 v2 v3 : Value} : o_cS M' 4 (G, K, X) pc lv (v3 :: v2 :: v1 :: v0 :: r) T I L n k = (4 ≤ (v3 :: v2 :: v1 :: v0 :: r).length ∧ r.length ≤ 4 ∧ mz_Ctr G M' [v0, v1, v2, v3] T I L (mz_kc k pc lv r n)) := mz_nr rfl
theorem r_cW4 {M' : mz_M} {v0 v1 v2 v3 : Value} {ca sa mc ms : Nat} : o_cW M' 4 ca sa mc ms (G, K, X) pc lv (v3 :: v2 :: v1 :: v0 :: r) T I L n k = (4 ≤ (v3 :: v2 :: v1 :: v0 :: r).length ∧ r.length ≤ 4 ∧ n.1 + ca ≤ mc ∧ n.2 + sa ≤ ms ∧ mz_CtrW G M' [v0, v1, v2, v3] T I L (mz_kc k pc lv r (n.1 + ca, n.2 + sa))) := mz_nr rfl
theorem r_cV4 {M' : mz_M} {v0 v1 v2 v3 v4 : Value} {c : Nat} : o_cV M' c 4 (G, K, X) pc lv (v4 :: v3 :: v2 :: v1 :: v0 :: r) T I L n k = (mz_rc c [v0, v1, v2, v3, v4] T ∧ 5 ≤ (v4 :: v3 :: v2 :: v1 :: v0 :: r).length ∧ r.length ≤ 4 ∧ mz_Ctr G M' [v0, v1, v2, v3, v4] T I L (mz_kc k pc lv r n)) := mz_nr rfl
theorem r_cI4 {M' : mz_M} {v0 v1 v2 v3 v4 : Value} {ca sa mc ms : Nat} : o_cI M' 4 ca sa mc ms (G, K, X) pc lv (v4 :: v3 :: v2 :: v1 :: v0 :: r) T I L n k = (5 ≤ (v4 :: v3 :: v2 :: v1 :: v0 :: r).length ∧ r.length ≤ 4 ∧ n.1 + ca ≤ mc ∧ n.2 + sa ≤ ms ∧ (∃ b As, [v0, v1, v2, v3, v4] = .ref b :: As) ∧ mz_Ctr G M' [v0, v1, v2, v3, v4] T I L (mz_kc k pc lv r (n.1 + ca, n.2 + sa))) := mz_nr rfl
theorem r_cX4 {M' : mz_M} {v0 v1 v2 v3 v4 : Value} {c ca sa mc ms : Nat} : o_cX M' c 4 ca sa mc ms (G, K, X) pc lv (v4 :: v3 :: v2 :: v1 :: v0 :: r) T I L n k = (mz_rc c [v0, v1, v2, v3, v4] T ∧ 5 ≤ (v4 :: v3 :: v2 :: v1 :: v0 :: r).length ∧ r.length ≤ 4 ∧ n.1 + ca ≤ mc ∧ n.2 + sa ≤ ms ∧ mz_CtrX G M' [v0, v1, v2, v3, v4] T I L (mz_kc k pc lv r (n.1 + ca, n.2 + sa)) X) := mz_nr rfl
theorem r_cH4 {M' : mz_M} {v0 v1 v2 v3 v4 : Value} {c ca sa mc ms : Nat} {hs : List (String × Nat)} : o_cH M' c 4 ca sa mc ms hs (G, K, X) pc lv (v4 :: v3 :: v2 :: v1 :: v0 :: r) T I L n k = (mz_rc c [v0, v1, v2, v3, v4] T ∧ 5 ≤ (v4 :: v3 :: v2 :: v1 :: v0 :: r).length ∧ r.length ≤ 4 ∧ n.1 + ca ≤ mc ∧ n.2 + sa ≤ ms ∧ mz_CtrX G M' [v0, v1, v2, v3, v4] T I L (mz_kc k pc lv r (n.1 + ca, n.2 + sa)) (mz_kh hs k lv (n.1 + ca, n.2 + sa))) := mz_nr rfl
theorem r_cS5 {M' : mz_M} {v0 v1 v2 v3 v4 : Value} : o_cS M' 5 (G, K, X) pc lv (v4 :: v3 :: v2 :: v1 :: v0 :: r) T I L n k = (5 ≤ (v4 :: v3 :: v2 :: v1 :: v0 :: r).length ∧ r.length ≤ 4 ∧ mz_Ctr G M' [v0, v1, v2, v3, v4] T I L (mz_kc k pc lv r n)) := mz_nr rfl
theorem r_cW5 {M' : mz_M} {v0 v1 v2 v3 v4 : Value} {ca sa mc ms : Nat} : o_cW M' 5 ca sa mc ms (G, K, X) pc lv (v4 :: v3 :: v2 :: v1 :: v0 :: r) T I L n k = (5 ≤ (v4 :: v3 :: v2 :: v1 :: v0 :: r).length ∧ r.length ≤ 4 ∧ n.1 + ca ≤ mc ∧ n.2 + sa ≤ ms ∧ mz_CtrW G M' [v0, v1, v2, v3, v4] T I L (mz_kc k pc lv r (n.1 + ca, n.2 + sa))) := mz_nr rfl
theorem r_cV5 {M' : mz_M} {v0 v1 v2 v3 v4 v5 : Value} {c : Nat} : o_cV M' c 5 (G, K, X) pc lv (v5 :: v4 :: v3 :: v2 :: v1 :: v0 :: r) T I L n k = (mz_rc c [v0, v1, v2, v3, v4, v5] T ∧ 6 ≤ (v5 :: v4 :: v3 :: v2 :: v1 :: v0 :: r).length ∧ r.length ≤ 4 ∧ mz_Ctr G M' [v0, v1, v2, v3, v4, v5] T I L (mz_kc k pc lv r n)) := mz_nr rfl
theorem r_cI5 {M' : mz_M} {v0 v1 v2 v3 v4 v5 : Value} {ca sa mc ms : Nat} : o_cI M' 5 ca sa mc ms (G, K, X) pc lv (v5 :: v4 :: v3 :: v2 :: v1 :: v0 :: r) T I L n k = (6 ≤ (v5 :: v4 :: v3 :: v2 :: v1 :: v0 :: r).length ∧ r.length ≤ 4 ∧ n.1 + ca ≤ mc ∧ n.2 + sa ≤ ms ∧ (∃ b As, [v0, v1, v2, v3, v4, v5] = .ref b :: As) ∧ mz_Ctr G M' [v0, v1, v2, v3, v4, v5] T I L (mz_kc k pc lv r (n.1 + ca, n.2 + sa))) := mz_nr rfl
theorem r_cX5 {M' : mz_M} {v0 v1 v2 v3 v4 v5 : Value} {c ca sa mc ms : Nat} : o_cX M' c 5 ca sa mc ms (G, K, X) pc lv (v5 :: v4 :: v3 :: v2 :: v1 :: v0 :: r) T I L n k = (mz_rc c [v0, v1, v2, v3, v4, v5] T ∧ 6 ≤ (v5 :: v4 :: v3 :: v2 :: v1 :: v0 :: r).length ∧ r.length ≤ 4 ∧ n.1 + ca ≤ mc ∧ n.2 + sa ≤ ms ∧ mz_CtrX G M' [v0, v1, v2, v3, v4, v5] T I L (mz_kc k pc lv r (n.1 + ca, n.2 + sa)) X) := mz_nr rfl
theorem r_cH5 {M' : mz_M} {v0 v1 v2 v3 v4 v5 : Value} {c ca sa mc ms : Nat} {hs : List (String × Nat)} : o_cH M' c 5 ca sa mc ms hs (G, K, X) pc lv (v5 :: v4 :: v3 :: v2 :: v1 :: v0 :: r) T I L n k = (mz_rc c [v0, v1, v2, v3, v4, v5] T ∧ 6 ≤ (v5 :: v4 :: v3 :: v2 :: v1 :: v0 :: r).length ∧ r.length ≤ 4 ∧ n.1 + ca ≤ mc ∧ n.2 + sa ≤ ms ∧ mz_CtrX G M' [v0, v1, v2, v3, v4, v5] T I L (mz_kc k pc lv r (n.1 + ca, n.2 + sa)) (mz_kh hs k lv (n.1 + ca, n.2 + sa))) := mz_nr rfl
theorem r_cS6 {M' : mz_M} {v0 v1 v2 v3 v4 v5 : Value} : o_cS M' 6 (G, K, X) pc lv (v5 :: v4 :: v3 :: v2 :: v1 :: v0 :: r) T I L n k = (6 ≤ (v5 :: v4 :: v3 :: v2 :: v1 :: v0 :: r).length ∧ r.length ≤ 4 ∧ mz_Ctr G M' [v0, v1, v2, v3, v4, v5] T I L (mz_kc k pc lv r n)) := mz_nr rfl
theorem r_cW6 {M' : mz_M} {v0 v1 v2 v3 v4 v5 : Value} {ca sa mc ms : Nat} : o_cW M' 6 ca sa mc ms (G, K, X) pc lv (v5 :: v4 :: v3 :: v2 :: v1 :: v0 :: r) T I L n k = (6 ≤ (v5 :: v4 :: v3 :: v2 :: v1 :: v0 :: r).length ∧ r.length ≤ 4 ∧ n.1 + ca ≤ mc ∧ n.2 + sa ≤ ms ∧ mz_CtrW G M' [v0, v1, v2, v3, v4, v5] T I L (mz_kc k pc lv r (n.1 + ca, n.2 + sa))) := mz_nr rfl
theorem r_cV6 {M' : mz_M} {v0 v1 v2 v3 v4 v5 v6 : Value} {c : Nat} : o_cV M' c 6 (G, K, X) pc lv (v6 :: v5 :: v4 :: v3 :: v2 :: v1 :: v0 :: r) T I L n k = (mz_rc c [v0, v1, v2, v3, v4, v5, v6] T ∧ 7 ≤ (v6 :: v5 :: v4 :: v3 :: v2 :: v1 :: v0 :: r).length ∧ r.length ≤ 4 ∧ mz_Ctr G M' [v0, v1, v2, v3, v4, v5, v6] T I L (mz_kc k pc lv r n)) := mz_nr rfl
theorem r_cI6 {M' : mz_M} {v0 v1 v2 v3 v4 v5 v6 : Value} {ca sa mc ms : Nat} : o_cI M' 6 ca sa mc ms (G, K, X) pc lv (v6 :: v5 :: v4 :: v3 :: v2 :: v1 :: v0 :: r) T I L n k = (7 ≤ (v6 :: v5 :: v4 :: v3 :: v2 :: v1 :: v0 :: r).length ∧ r.length ≤ 4 ∧ n.1 + ca ≤ mc ∧ n.2 + sa ≤ ms ∧ (∃ b As, [v0, v1, v2, v3, v4, v5, v6] = .ref b :: As) ∧ mz_Ctr G M' [v0, v1, v2, v3, v4, v5, v6] T I L (mz_kc k pc lv r (n.1 + ca, n.2 + sa))) := mz_nr rfl
theorem r_cX6 {M' : mz_M} {v0 v1 v2 v3 v4 v5 v6 : Value} {c ca sa mc ms : Nat} : o_cX M' c 6 ca sa mc ms (G, K, X) pc lv (v6 :: v5 :: v4 :: v3 :: v2 :: v1 :: v0 :: r) T I L n k = (mz_rc c [v0, v1, v2, v3, v4, v5, v6] T ∧ 7 ≤ (v6 :: v5 :: v4 :: v3 :: v2 :: v1 :: v0 :: r).length ∧ r.length ≤ 4 ∧ n.1 + ca ≤ mc ∧ n.2 + sa ≤ ms ∧ mz_CtrX G M' [v0, v1, v2, v3, v4, v5, v6] T I L (mz_kc k pc lv r (n.1 + ca, n.2 + sa)) X) := mz_nr rfl
theorem r_cH6 {M' : mz_M} {v0 v1 v2 v3 v4 v5 v6 : Value} {c ca sa mc ms : Nat} {hs : List (String × Nat)} : o_cH M' c 6 ca sa mc ms hs (G, K, X) pc lv (v6 :: v5 :: v4 :: v3 :: v2 :: v1 :: v0 :: r) T I L n k = (mz_rc c [v0, v1, v2, v3, v4, v5, v6] T ∧ 7 ≤ (v6 :: v5 :: v4 :: v3 :: v2 :: v1 :: v0 :: r).length ∧ r.length ≤ 4 ∧ n.1 + ca ≤ mc ∧ n.2 + sa ≤ ms ∧ mz_CtrX G M' [v0, v1, v2, v3, v4, v5, v6] T I L (mz_kc k pc lv r (n.1 + ca, n.2 + sa)) (mz_kh hs k lv (n.1 + ca, n.2 + sa))) := mz_nr rfl
theorem r_cS7 {M' : mz_M} {v0 v1 v2 v3 v4 v5 v6 : Value} : o_cS M' 7 (G, K, X) pc lv (v6 :: v5 :: v4 :: v3 :: v2 :: v1 :: v0 :: r) T I L n k = (7 ≤ (v6 :: v5 :: v4 :: v3 :: v2 :: v1 :: v0 :: r).length ∧ r.length ≤ 4 ∧ mz_Ctr G M' [v0, v1, v2, v3, v4, v5, v6] T I L (mz_kc k pc lv r n)) := mz_nr rfl
theorem r_cW7 {M' : mz_M} {v0 v1 v2 v3 v4 v5 v6 : Value} {ca sa mc ms : Nat} : o_cW M' 7 ca sa mc ms (G, K, X) pc lv (v6 :: v5 :: v4 :: v3 :: v2 :: v1 :: v0 :: r) T I L n k = (7 ≤ (v6 :: v5 :: v4 :: v3 :: v2 :: v1 :: v0 :: r).length ∧ r.length ≤ 4 ∧ n.1 + ca ≤ mc ∧ n.2 + sa ≤ ms ∧ mz_CtrW G M' [v0, v1, v2, v3, v4, v5, v6] T I L (mz_kc k pc lv r (n.1 + ca, n.2 + sa))) := mz_nr rfl
theorem r_rc {c b : Nat} {As : List Value} : mz_rc c (.ref b :: As) T = ((b, 0, c) ∈ T.1) := mz_nr rfl
theorem r_oi {a : Nat} : o_oi E pc lv (.ref a :: r) T I L n k = (r.length ≤ 4 ∧ k (pc + 3) lv r T I L n) := mz_nr rfl
theorem r_refx {b : Nat} {As : List Value} : (∃ b1 As1, (Value.ref b :: As : List Value) = .ref b1 :: As1) = True := eq_true ⟨b, As, rfl⟩
theorem r_i10 : ((1 : Int32) = 0) = False := by decide
theorem r_i01 : ((0 : Int32) = 1) = False := by decide
theorem r_rfs {a : Nat} : va_rf (some a) = .ref a := mz_nr rfl
theorem r_rfn : va_rf none = .null := mz_nr rfl
theorem r_mem0 {x : Nat} : mz_mem x [] = false := mz_nr rfl
theorem r_memc {x y : Nat} {ys : List Nat} : mz_mem x (y :: ys) = (Nat.beq x y || mz_mem x ys) := mz_nr rfl
theorem r_beq {x y : Nat} : Nat.beq x y = decide (x = y) := by
  by_cases h : x = y
  · subst h; simp
  · cases hb : Nat.beq x y with
    | true => exact absurd (Nat.eq_of_beq_eq_true hb) h
    | false => simp [h]
theorem r_kl0 : mz_kl lv 0 = lv := mz_nr rfl
theorem r_klz {a : Option Value} {l : List (Option Value)} {i : Nat} : mz_kl (a :: l) (i + 2) = a :: mz_kl l (i + 1) := by
  unfold mz_kl
  simp only [List.getElem?_cons_succ]
  split <;> simp_all
theorem r_kl1i {x : Int32} {l : List (Option Value)} : mz_kl (some (.int x) :: l) 1 = some (.int x) :: l := mz_nr rfl
theorem r_kl1r {x : Nat} {l : List (Option Value)} : mz_kl (some (.ref x) :: l) 1 = some (.ref x) :: l := mz_nr rfl
theorem r_kl1n {l : List (Option Value)} : mz_kl (none :: l) 1 = none :: l := mz_nr rfl
theorem r_kl1l {x : Int64} {l : List (Option Value)} : mz_kl (some (.long x) :: l) 1 = none :: l := mz_nr rfl
theorem r_kl1d {x : UInt64} {l : List (Option Value)} : mz_kl (some (.double x) :: l) 1 = none :: l := mz_nr rfl
end MZR
