/-! stores, constants, arithmetic, stack, branches, switches -/
section MZD
variable {M : mz_M} {pc : Nat}
def mz_pl (lv : List (Option Value)) : List (Nat × Value) := (List.range lv.length).filterMap (fun i => match lv[i]? with
  | some (some v) => some (i, v)
  | _ => none)
theorem mz_pl_mem {lv : List (Option Value)} {j : Nat} {v : Value} (h : lv[j]? = some (some v)) : (j, v) ∈ mz_pl lv := by
  have hl := (List.getElem?_eq_some_iff.mp h).1
  refine List.mem_filterMap.mpr ⟨j, List.mem_range.mpr hl, ?_⟩
  rw [h]
theorem mz_pl_of {lv : List (Option Value)} {q : Nat × Value} (h : q ∈ mz_pl lv) : lv[q.1]? = some (some q.2) := by
  obtain ⟨i, -, hi⟩ := List.mem_filterMap.mp h
  split at hi
  · rename_i v hv
    cases hi
    exact hv
  · cases hi
theorem mz_lv_has {ls : Array Slot} {n : Nat} {lv : List (Option Value)} (h : mz_lv ls n lv) : lv_has ls n (mz_pl lv) := ⟨h.1, h.2.1, fun q hq => h.2.2.2 _ _ (mz_pl_of hq)⟩
theorem mz_kl_len {lv : List (Option Value)} {i : Nat} : (mz_kl lv i).length = lv.length := by
  unfold mz_kl
  split
  · rfl
  · split <;> simp
theorem mz_kl_of {lv : List (Option Value)} {i j : Nat} {v : Value} (h : (mz_kl lv i)[j]? = some (some v)) : lv[j]? = some (some v) ∧ ¬ (j + 1 = i ∧ v.category = 2) := by
  unfold mz_kl at h
  split at h
  · exact ⟨h, fun q => by omega⟩
  · rename_i i
    have key : ∀ l : List (Option Value), l = lv.set i none → l[j]? = some (some v) → lv[j]? = some (some v) ∧ ¬ (j + 1 = i + 1 ∧ v.category = 2) := by
      intro l hl h
      subst hl
      by_cases hij : j = i
      · subst hij
        rw [List.getElem?_set] at h
        simp at h
      · rw [List.getElem?_set_ne (Ne.symm hij)] at h
        exact ⟨h, fun q => hij (by omega)⟩
    split at h
    · exact key _ rfl h
    · exact key _ rfl h
    · rename_i n1 n2
      refine ⟨h, fun q => ?_⟩
      obtain ⟨q1, q2⟩ := q
      have hji : j = i := by omega
      subst hji
      cases v with
      | long x => exact n1 x h
      | double x => exact n2 x h
      | _ => exact absurd (show (1 : Nat) = 2 from q2) (by decide)
theorem mz_st1 {ls' : Array Slot} {n i : Nat} {lv : List (Option Value)} {x : Value} (hn : lv.length = n) (h : lv_has ls' n ((i, x) :: (mz_pl lv).filter (fun q => !(q.1 == i) && !(q.1 + 1 == i && q.2.category == 2)))) : mz_lv ls' n ((mz_kl lv i).set i (some x)) := by
  refine ⟨h.1, h.2.1, by rw [List.length_set, mz_kl_len, hn], fun j v hj => ?_⟩
  by_cases hij : j = i
  · subst hij
    rw [List.getElem?_set] at hj
    simp only [if_true] at hj
    split at hj
    · cases hj
      exact h.2.2 _ List.mem_cons_self
    · cases hj
  · rw [List.getElem?_set_ne (Ne.symm hij)] at hj
    obtain ⟨h1, h2⟩ := mz_kl_of hj
    refine h.2.2 (j, v) (List.mem_cons_of_mem _ (List.mem_filter.mpr ⟨mz_pl_mem h1, ?_⟩))
    simp only [Bool.and_eq_true, Bool.not_eq_true', beq_eq_false_iff_ne, ne_eq, Bool.and_eq_false_iff]
    refine ⟨hij, ?_⟩
    by_cases h3 : j + 1 = i
    · right; intro h4; exact h2 ⟨h3, h4⟩
    · left; exact h3
theorem mz_st2 {ls' : Array Slot} {n i : Nat} {lv : List (Option Value)} {x : Value} (hn : lv.length = n) (h : lv_has ls' n ((i, x) :: (mz_pl lv).filter (fun q => !(q.1 == i) && (!(q.1 == i + 1) && !(q.1 + 1 == i && q.2.category == 2))))) : mz_lv ls' n (((mz_kl lv i).set i (some x)).set (i + 1) none) := by
  refine ⟨h.1, h.2.1, by rw [List.length_set, List.length_set, mz_kl_len, hn], fun j v hj => ?_⟩
  by_cases hi1 : j = i + 1
  · subst hi1
    rw [List.getElem?_set] at hj
    simp at hj
  rw [List.getElem?_set_ne (Ne.symm hi1)] at hj
  by_cases hij : j = i
  · subst hij
    rw [List.getElem?_set] at hj
    simp only [if_true] at hj
    split at hj
    · cases hj
      exact h.2.2 _ List.mem_cons_self
    · cases hj
  · rw [List.getElem?_set_ne (Ne.symm hij)] at hj
    obtain ⟨h1, h2⟩ := mz_kl_of hj
    refine h.2.2 (j, v) (List.mem_cons_of_mem _ (List.mem_filter.mpr ⟨mz_pl_mem h1, ?_⟩))
    simp only [Bool.and_eq_true, Bool.not_eq_true', beq_eq_false_iff_ne, ne_eq, Bool.and_eq_false_iff]
    refine ⟨hij, hi1, ?_⟩
    by_cases h3 : j + 1 = i
    · right; intro h4; exact h2 ⟨h3, h4⟩
    · left; exact h3
def o_ist (i len : Nat) : mz_Op := fun _ pc lv st T I L n k => match st with
  | .int x :: r => i < lv.length ∧ k (pc + len) ((mz_kl lv i).set i (some (.int x))) r T I L n
  | _ => False
def o_ast (i len : Nat) : mz_Op := fun _ pc lv st T I L n k => match st with
  | .ref x :: r => i < lv.length ∧ k (pc + len) ((mz_kl lv i).set i (some (.ref x))) r T I L n
  | _ => False
def o_lst (i len : Nat) : mz_Op := fun _ pc lv st T I L n k => match st with
  | .long x :: r => i + 1 < lv.length ∧ k (pc + len) (((mz_kl lv i).set i (some (.long x))).set (i + 1) none) r T I L n
  | _ => False
def o_dst (i len : Nat) : mz_Op := fun _ pc lv st T I L n k => match st with
  | .double x :: r => i + 1 < lv.length ∧ k (pc + len) (((mz_kl lv i).set i (some (.double x))).set (i + 1) none) r T I L n
  | _ => False
theorem ok_ist_n {i : Fin 4} (hd : decode (mz_mb M) pc = .ok (.istore_n i, 1)) : mz_Seq M pc 1 (o_ist i.val 1) := by
  intro G K X k lv st T I L n ho hk hG p e s m args below meth c Q hC hE hX H locs ls hP hS hl h1 h2
  unfold o_ist at ho
  split at ho
  · exact lv_istore_n hC.1 hC.2.1 hd rfl (mz_lv_has hl) (by rw [← hl.2.2.1]; exact ho.1) rfl (fun ls' hl' => mz_go (hk _ _ _ _ _ _ ho.2) hG hC hE hX hP hS (mz_st1 hl.2.2.1 hl') h1 h2)
  · exact ho.elim
theorem ok_ist {i : Nat} (hd : decode (mz_mb M) pc = .ok (.istore i, 2)) : mz_Seq M pc 2 (o_ist i 2) := by
  intro G K X k lv st T I L n ho hk hG p e s m args below meth c Q hC hE hX H locs ls hP hS hl h1 h2
  unfold o_ist at ho
  split at ho
  · exact lv_istore hC.1 hC.2.1 hd (mz_lv_has hl) (by rw [← hl.2.2.1]; exact ho.1) rfl (fun ls' hl' => mz_go (hk _ _ _ _ _ _ ho.2) hG hC hE hX hP hS (mz_st1 hl.2.2.1 hl') h1 h2)
  · exact ho.elim
theorem ok_ast_n {i : Fin 4} (hd : decode (mz_mb M) pc = .ok (.astore_n i, 1)) : mz_Seq M pc 1 (o_ast i.val 1) := by
  intro G K X k lv st T I L n ho hk hG p e s m args below meth c Q hC hE hX H locs ls hP hS hl h1 h2
  unfold o_ast at ho
  split at ho
  · exact lv_astore_n hC.1 hC.2.1 hd rfl (mz_lv_has hl) (by rw [← hl.2.2.1]; exact ho.1) rfl (fun ls' hl' => mz_go (hk _ _ _ _ _ _ ho.2) hG hC hE hX hP hS (mz_st1 hl.2.2.1 hl') h1 h2)
  · exact ho.elim
theorem ok_ast {i : Nat} (hd : decode (mz_mb M) pc = .ok (.astore i, 2)) : mz_Seq M pc 2 (o_ast i 2) := by
  intro G K X k lv st T I L n ho hk hG p e s m args below meth c Q hC hE hX H locs ls hP hS hl h1 h2
  unfold o_ast at ho
  split at ho
  · exact lv_astore hC.1 hC.2.1 hd (mz_lv_has hl) (by rw [← hl.2.2.1]; exact ho.1) rfl (fun ls' hl' => mz_go (hk _ _ _ _ _ _ ho.2) hG hC hE hX hP hS (mz_st1 hl.2.2.1 hl') h1 h2)
  · exact ho.elim
theorem ok_lst_n {i : Fin 4} (hd : decode (mz_mb M) pc = .ok (.lstore_n i, 1)) : mz_Seq M pc 1 (o_lst i.val 1) := by
  intro G K X k lv st T I L n ho hk hG p e s m args below meth c Q hC hE hX H locs ls hP hS hl h1 h2
  unfold o_lst at ho
  split at ho
  · exact lv_lstore_n hC.1 hC.2.1 hd rfl (mz_lv_has hl) (by rw [← hl.2.2.1]; exact ho.1) rfl (fun ls' hl' => mz_go (hk _ _ _ _ _ _ ho.2) hG hC hE hX hP hS (mz_st2 hl.2.2.1 hl') h1 h2)
  · exact ho.elim
theorem ok_dst {i : Nat} (hd : decode (mz_mb M) pc = .ok (.dstore i, 2)) : mz_Seq M pc 2 (o_dst i 2) := by
  intro G K X k lv st T I L n ho hk hG p e s m args below meth c Q hC hE hX H locs ls hP hS hl h1 h2
  unfold o_dst at ho
  split at ho
  · exact lv_dstore hC.1 hC.2.1 hd (mz_lv_has hl) (by rw [← hl.2.2.1]; exact ho.1) rfl (fun ls' hl' => mz_go (hk _ _ _ _ _ _ ho.2) hG hC hE hX hP hS (mz_st2 hl.2.2.1 hl') h1 h2)
  · exact ho.elim
def o_iinc (i : Nat) (d : Int32) : mz_Op := fun _ pc lv st T I L n k => match lv[i]? with
  | some (some (.int x)) => k (pc + 3) ((mz_kl lv i).set i (some (.int (x + d)))) st T I L n
  | _ => False
theorem ok_iinc {i : Nat} {z : Int} {d : Int32} (hd : decode (mz_mb M) pc = .ok (.iinc i z, 3)) (hz : Int32.ofInt z = d) : mz_Seq M pc 3 (o_iinc i d) := by
  intro G K X k lv st T I L n ho hk hG p e s m args below meth c Q hC hE hX H locs ls hP hS hl h1 h2
  unfold o_iinc at ho
  split at ho
  · rename_i x hx
    obtain ⟨j, hj⟩ := List.getElem?_of_mem (mz_pl_mem hx)
    have hn : i < mz_mL M := by rw [← hl.2.2.1]; exact (List.getElem?_eq_some_iff.mp hx).1
    exact lv_iinc hC.1 hC.2.1 hd (mz_lv_has hl) (k := j) hj (by rw [hz]) hn rfl (fun ls' hl' => mz_go (hk _ _ _ _ _ _ ho) hG hC hE hX hP hS (mz_st1 hl.2.2.1 hl') h1 h2)
  · exact ho.elim
def o_int (v : Int32) (len : Nat) : mz_Op := fun _ pc lv st T I L n k => k (pc + len) lv (.int v :: st) T I L n
def o_lng (v : Int64) (len : Nat) : mz_Op := fun _ pc lv st T I L n k => k (pc + len) lv (.long v :: st) T I L n
def o_dbl (v : UInt64) (len : Nat) : mz_Op := fun _ pc lv st T I L n k => k (pc + len) lv (.double v :: st) T I L n
theorem ok_iconst {z : Int} {v : Int32} (hd : decode (mz_mb M) pc = .ok (.iconst z, 1)) (hz : Int32.ofInt z = v) : mz_Seq M pc 1 (o_int v 1) := by
  intro G K X k lv st T I L n ho hk hG p e s m args below meth c Q hC hE hX H locs ls hP hS hl h1 h2
  exact lv_iconst hC.1 hC.2.1 hd hz (mz_go (hk _ _ _ _ _ _ ho) hG hC hE hX hP hS hl h1 h2)
theorem ok_bipush {z : Int} {v : Int32} (hd : decode (mz_mb M) pc = .ok (.bipush z, 2)) (hz : (Int8.ofInt z).toInt32 = v) : mz_Seq M pc 2 (o_int v 2) := by
  intro G K X k lv st T I L n ho hk hG p e s m args below meth c Q hC hE hX H locs ls hP hS hl h1 h2
  exact lv_bipush hC.1 hC.2.1 hd hz (mz_go (hk _ _ _ _ _ _ ho) hG hC hE hX hP hS hl h1 h2)
theorem ok_sipush {z : Int} {v : Int32} (hd : decode (mz_mb M) pc = .ok (.sipush z, 3)) (hz : (Int16.ofInt z).toInt32 = v) : mz_Seq M pc 3 (o_int v 3) := by
  intro G K X k lv st T I L n ho hk hG p e s m args below meth c Q hC hE hX H locs ls hP hS hl h1 h2
  exact lv_sipush hC.1 hC.2.1 hd hz (mz_go (hk _ _ _ _ _ _ ho) hG hC hE hX hP hS hl h1 h2)
theorem ok_ldcwi {i : Nat} {v : Int32} (hd : decode (mz_mb M) pc = .ok (.ldc_w i, 3)) (hw : Cond.constant (mz_my M).cls i v ∈ mz_GW) : mz_Seq M pc 3 (o_int v 3) := by
  intro G K X k lv st T I L n ho hk hG p e s m args below meth c Q hC hE hX H locs ls hP hS hl h1 h2
  exact lv_ldcw hC.1 hC.2.1 hC.2.2.2.2.2.1 (hC.2.2.2.2.1 _ hw) hd (mz_go (hk _ _ _ _ _ _ ho) hG hC hE hX hP hS hl h1 h2)
theorem ok_ldci {i : Nat} {v : Int32} (hd : decode (mz_mb M) pc = .ok (.ldc i, 2)) (hw : Cond.constant (mz_my M).cls i v ∈ mz_GW) : mz_Seq M pc 2 (o_int v 2) := by
  intro G K X k lv st T I L n ho hk hG p e s m args below meth c Q hC hE hX H locs ls hP hS hl h1 h2
  exact lv_ldc hC.1 hC.2.1 hC.2.2.2.2.2.1 (hC.2.2.2.2.1 _ hw) hd (mz_go (hk _ _ _ _ _ _ ho) hG hC hE hX hP hS hl h1 h2)
theorem ok_ldc2 {i : Nat} {v : Int64} (hd : decode (mz_mb M) pc = .ok (.ldc2_w i, 3)) (hw : Cond.constantLong (mz_my M).cls i v ∈ mz_GW) : mz_Seq M pc 3 (o_lng v 3) := by
  intro G K X k lv st T I L n ho hk hG p e s m args below meth c Q hC hE hX H locs ls hP hS hl h1 h2
  exact lv_ldc2 hC.1 hC.2.1 hC.2.2.2.2.2.1 (hC.2.2.2.2.1 _ hw) hd (mz_go (hk _ _ _ _ _ _ ho) hG hC hE hX hP hS hl h1 h2)
theorem ok_lconst {z : Fin 2} {v : Int64} (hd : decode (mz_mb M) pc = .ok (.lconst z, 1)) (hz : Int64.ofNat z.val = v) : mz_Seq M pc 1 (o_lng v 1) := by
  intro G K X k lv st T I L n ho hk hG p e s m args below meth c Q hC hE hX H locs ls hP hS hl h1 h2
  exact lv_lconst hC.1 hC.2.1 hd hz (mz_go (hk _ _ _ _ _ _ ho) hG hC hE hX hP hS hl h1 h2)
theorem ok_dconst0 (hd : decode (mz_mb M) pc = .ok (.dconst 0, 1)) : mz_Seq M pc 1 (o_dbl FP.dconst0 1) := by
  intro G K X k lv st T I L n ho hk hG p e s m args below meth c Q hC hE hX H locs ls hP hS hl h1 h2
  exact lv_dconst0 hC.1 hC.2.1 hd (mz_go (hk _ _ _ _ _ _ ho) hG hC hE hX hP hS hl h1 h2)
/-- arithmetic -/
def o_i2 (f : Int32 → Int32 → Int32) : mz_Op := fun _ pc lv st T I L n k => match st with
  | .int y :: .int x :: r => k (pc + 1) lv (.int (f x y) :: r) T I L n
  | _ => False
def o_i1 (f : Int32 → Int32) : mz_Op := fun _ pc lv st T I L n k => match st with
  | .int x :: r => k (pc + 1) lv (.int (f x) :: r) T I L n
  | _ => False
def o_l2 (f : Int64 → Int64 → Int64) : mz_Op := fun _ pc lv st T I L n k => match st with
  | .long y :: .long x :: r => k (pc + 1) lv (.long (f x y) :: r) T I L n
  | _ => False
def o_lsh (f : Int64 → Int32 → Int64) : mz_Op := fun _ pc lv st T I L n k => match st with
  | .int y :: .long x :: r => k (pc + 1) lv (.long (f x y) :: r) T I L n
  | _ => False
/-- division and remainder: not by 0 -/
def o_i2z (f : Int32 → Int32 → Int32) : mz_Op := fun _ pc lv st T I L n k => match st with
  | .int y :: .int x :: r => ¬ y = 0 ∧ k (pc + 1) lv (.int (f x y) :: r) T I L n
  | _ => False
def o_l2z (f : Int64 → Int64 → Int64) : mz_Op := fun _ pc lv st T I L n k => match st with
  | .long y :: .long x :: r => ¬ y = 0 ∧ k (pc + 1) lv (.long (f x y) :: r) T I L n
  | _ => False
theorem ok_iadd (hd : decode (mz_mb M) pc = .ok (.iadd, 1)) : mz_Seq M pc 1 (o_i2 (fun x y => x + y)) := by
  intro G K X k lv st T I L n ho hk hG p e s m args below meth c Q hC hE hX H locs ls hP hS hl h1 h2
  unfold o_i2 at ho
  split at ho
  · exact lv_iadd hC.1 hC.2.1 hd (mz_go (hk _ _ _ _ _ _ ho) hG hC hE hX hP hS hl h1 h2)
  · exact ho.elim
theorem ok_isub (hd : decode (mz_mb M) pc = .ok (.isub, 1)) : mz_Seq M pc 1 (o_i2 (fun x y => x - y)) := by
  intro G K X k lv st T I L n ho hk hG p e s m args below meth c Q hC hE hX H locs ls hP hS hl h1 h2
  unfold o_i2 at ho
  split at ho
  · exact lv_isub hC.1 hC.2.1 hd (mz_go (hk _ _ _ _ _ _ ho) hG hC hE hX hP hS hl h1 h2)
  · exact ho.elim
theorem ok_imul (hd : decode (mz_mb M) pc = .ok (.imul, 1)) : mz_Seq M pc 1 (o_i2 (fun x y => x * y)) := by
  intro G K X k lv st T I L n ho hk hG p e s m args below meth c Q hC hE hX H locs ls hP hS hl h1 h2
  unfold o_i2 at ho
  split at ho
  · exact lv_imul hC.1 hC.2.1 hd (mz_go (hk _ _ _ _ _ _ ho) hG hC hE hX hP hS hl h1 h2)
  · exact ho.elim
theorem ok_idiv (hd : decode (mz_mb M) pc = .ok (.idiv, 1)) : mz_Seq M pc 1 (o_i2z (fun x y => x / y)) := by
  intro G K X k lv st T I L n ho hk hG p e s m args below meth c Q hC hE hX H locs ls hP hS hl h1 h2
  unfold o_i2z at ho
  split at ho
  · exact lv_idiv hC.1 hC.2.1 hd ho.1 (mz_go (hk _ _ _ _ _ _ ho.2) hG hC hE hX hP hS hl h1 h2)
  · exact ho.elim
theorem ok_irem (hd : decode (mz_mb M) pc = .ok (.irem, 1)) : mz_Seq M pc 1 (o_i2z (fun x y => x - x / y * y)) := by
  intro G K X k lv st T I L n ho hk hG p e s m args below meth c Q hC hE hX H locs ls hP hS hl h1 h2
  unfold o_i2z at ho
  split at ho
  · exact lv_irem hC.1 hC.2.1 hd ho.1 (mz_go (hk _ _ _ _ _ _ ho.2) hG hC hE hX hP hS hl h1 h2)
  · exact ho.elim
theorem ok_iand (hd : decode (mz_mb M) pc = .ok (.iand, 1)) : mz_Seq M pc 1 (o_i2 (fun x y => x &&& y)) := by
  intro G K X k lv st T I L n ho hk hG p e s m args below meth c Q hC hE hX H locs ls hP hS hl h1 h2
  unfold o_i2 at ho
  split at ho
  · exact lv_iand hC.1 hC.2.1 hd (mz_go (hk _ _ _ _ _ _ ho) hG hC hE hX hP hS hl h1 h2)
  · exact ho.elim
theorem ok_ior (hd : decode (mz_mb M) pc = .ok (.ior, 1)) : mz_Seq M pc 1 (o_i2 (fun x y => x ||| y)) := by
  intro G K X k lv st T I L n ho hk hG p e s m args below meth c Q hC hE hX H locs ls hP hS hl h1 h2
  unfold o_i2 at ho
  split at ho
  · exact lv_ior hC.1 hC.2.1 hd (mz_go (hk _ _ _ _ _ _ ho) hG hC hE hX hP hS hl h1 h2)
  · exact ho.elim
theorem ok_ixor (hd : decode (mz_mb M) pc = .ok (.ixor, 1)) : mz_Seq M pc 1 (o_i2 (fun x y => x ^^^ y)) := by
  intro G K X k lv st T I L n ho hk hG p e s m args below meth c Q hC hE hX H locs ls hP hS hl h1 h2
  unfold o_i2 at ho
  split at ho
  · exact lv_ixor hC.1 hC.2.1 hd (mz_go (hk _ _ _ _ _ _ ho) hG hC hE hX hP hS hl h1 h2)
  · exact ho.elim
theorem ok_ishl (hd : decode (mz_mb M) pc = .ok (.ishl, 1)) : mz_Seq M pc 1 (o_i2 (fun x y => x <<< (y &&& 31))) := by
  intro G K X k lv st T I L n ho hk hG p e s m args below meth c Q hC hE hX H locs ls hP hS hl h1 h2
  unfold o_i2 at ho
  split at ho
  · exact lv_ishl hC.1 hC.2.1 hd (mz_go (hk _ _ _ _ _ _ ho) hG hC hE hX hP hS hl h1 h2)
  · exact ho.elim
theorem ok_ishr (hd : decode (mz_mb M) pc = .ok (.ishr, 1)) : mz_Seq M pc 1 (o_i2 (fun x y => x >>> (y &&& 31))) := by
  intro G K X k lv st T I L n ho hk hG p e s m args below meth c Q hC hE hX H locs ls hP hS hl h1 h2
  unfold o_i2 at ho
  split at ho
  · exact lv_ishr hC.1 hC.2.1 hd (mz_go (hk _ _ _ _ _ _ ho) hG hC hE hX hP hS hl h1 h2)
  · exact ho.elim
theorem ok_iushr (hd : decode (mz_mb M) pc = .ok (.iushr, 1)) : mz_Seq M pc 1 (o_i2 (fun x y => (x.toUInt32 >>> (y.toUInt32 &&& Int32.toUInt32 31)).toInt32)) := by
  intro G K X k lv st T I L n ho hk hG p e s m args below meth c Q hC hE hX H locs ls hP hS hl h1 h2
  unfold o_i2 at ho
  split at ho
  · exact lv_iushr hC.1 hC.2.1 hd rfl (mz_go (hk _ _ _ _ _ _ ho) hG hC hE hX hP hS hl h1 h2)
  · exact ho.elim
theorem ok_ineg (hd : decode (mz_mb M) pc = .ok (.ineg, 1)) : mz_Seq M pc 1 (o_i1 (fun x => -x)) := by
  intro G K X k lv st T I L n ho hk hG p e s m args below meth c Q hC hE hX H locs ls hP hS hl h1 h2
  unfold o_i1 at ho
  split at ho
  · exact lv_ineg hC.1 hC.2.1 hd (mz_go (hk _ _ _ _ _ _ ho) hG hC hE hX hP hS hl h1 h2)
  · exact ho.elim
theorem ok_i2c (hd : decode (mz_mb M) pc = .ok (.i2c, 1)) : mz_Seq M pc 1 (o_i1 (fun x => (x.toUInt32 % 65536).toInt32)) := by
  intro G K X k lv st T I L n ho hk hG p e s m args below meth c Q hC hE hX H locs ls hP hS hl h1 h2
  unfold o_i1 at ho
  split at ho
  · exact lv_i2c hC.1 hC.2.1 hd rfl (mz_go (hk _ _ _ _ _ _ ho) hG hC hE hX hP hS hl h1 h2)
  · exact ho.elim
theorem ok_ladd (hd : decode (mz_mb M) pc = .ok (.ladd, 1)) : mz_Seq M pc 1 (o_l2 (fun x y => x + y)) := by
  intro G K X k lv st T I L n ho hk hG p e s m args below meth c Q hC hE hX H locs ls hP hS hl h1 h2
  unfold o_l2 at ho
  split at ho
  · exact lv_ladd hC.1 hC.2.1 hd (mz_go (hk _ _ _ _ _ _ ho) hG hC hE hX hP hS hl h1 h2)
  · exact ho.elim
theorem ok_lmul (hd : decode (mz_mb M) pc = .ok (.lmul, 1)) : mz_Seq M pc 1 (o_l2 (fun x y => x * y)) := by
  intro G K X k lv st T I L n ho hk hG p e s m args below meth c Q hC hE hX H locs ls hP hS hl h1 h2
  unfold o_l2 at ho
  split at ho
  · exact lv_lmul hC.1 hC.2.1 hd (mz_go (hk _ _ _ _ _ _ ho) hG hC hE hX hP hS hl h1 h2)
  · exact ho.elim
theorem ok_land (hd : decode (mz_mb M) pc = .ok (.land, 1)) : mz_Seq M pc 1 (o_l2 (fun x y => x &&& y)) := by
  intro G K X k lv st T I L n ho hk hG p e s m args below meth c Q hC hE hX H locs ls hP hS hl h1 h2
  unfold o_l2 at ho
  split at ho
  · exact lv_land hC.1 hC.2.1 hd (mz_go (hk _ _ _ _ _ _ ho) hG hC hE hX hP hS hl h1 h2)
  · exact ho.elim
theorem ok_ldiv (hd : decode (mz_mb M) pc = .ok (.ldiv, 1)) : mz_Seq M pc 1 (o_l2z (fun x y => x / y)) := by
  intro G K X k lv st T I L n ho hk hG p e s m args below meth c Q hC hE hX H locs ls hP hS hl h1 h2
  unfold o_l2z at ho
  split at ho
  · exact lv_ldiv hC.1 hC.2.1 hd ho.1 (mz_go (hk _ _ _ _ _ _ ho.2) hG hC hE hX hP hS hl h1 h2)
  · exact ho.elim
theorem ok_lrem (hd : decode (mz_mb M) pc = .ok (.lrem, 1)) : mz_Seq M pc 1 (o_l2z (fun x y => x - x / y * y)) := by
  intro G K X k lv st T I L n ho hk hG p e s m args below meth c Q hC hE hX H locs ls hP hS hl h1 h2
  unfold o_l2z at ho
  split at ho
  · exact lv_lrem hC.1 hC.2.1 hd ho.1 (mz_go (hk _ _ _ _ _ _ ho.2) hG hC hE hX hP hS hl h1 h2)
  · exact ho.elim
theorem ok_lshl (hd : decode (mz_mb M) pc = .ok (.lshl, 1)) : mz_Seq M pc 1 (o_lsh (fun x y => x <<< (y.toInt64 &&& 63))) := by
  intro G K X k lv st T I L n ho hk hG p e s m args below meth c Q hC hE hX H locs ls hP hS hl h1 h2
  unfold o_lsh at ho
  split at ho
  · exact lv_lshl hC.1 hC.2.1 hd rfl (mz_go (hk _ _ _ _ _ _ ho) hG hC hE hX hP hS hl h1 h2)
  · exact ho.elim
theorem ok_lshr (hd : decode (mz_mb M) pc = .ok (.lshr, 1)) : mz_Seq M pc 1 (o_lsh (fun x y => x >>> (y.toInt64 &&& 63))) := by
  intro G K X k lv st T I L n ho hk hG p e s m args below meth c Q hC hE hX H locs ls hP hS hl h1 h2
  unfold o_lsh at ho
  split at ho
  · exact lv_lshr hC.1 hC.2.1 hd rfl (mz_go (hk _ _ _ _ _ _ ho) hG hC hE hX hP hS hl h1 h2)
  · exact ho.elim
def o_i2l : mz_Op := fun _ pc lv st T I L n k => match st with
  | .int x :: r => k (pc + 1) lv (.long x.toInt64 :: r) T I L n
  | _ => False
def o_l2i : mz_Op := fun _ pc lv st T I L n k => match st with
  | .long x :: r => k (pc + 1) lv (.int x.toInt32 :: r) T I L n
  | _ => False
def o_i2d : mz_Op := fun _ pc lv st T I L n k => match st with
  | .int x :: r => k (pc + 1) lv (.double (FP.i2d x) :: r) T I L n
  | _ => False
def o_lcmp : mz_Op := fun _ pc lv st T I L n k => match st with
  | .long y :: .long x :: r => k (pc + 1) lv (.int (lg_cmp x y) :: r) T I L n
  | _ => False
def o_ddiv : mz_Op := fun _ pc lv st T I L n k => match st with
  | .double y :: .double x :: r => vf_n64 (FP.ddiv x y) ∧ k (pc + 1) lv (.double (FP.ddiv x y) :: r) T I L n
  | _ => False
def o_dcmpl : mz_Op := fun _ pc lv st T I L n k => match st with
  | .double y :: .double x :: r => k (pc + 1) lv (.int (Op.cmpValue (FP.dcmp x y) CmpOp.l) :: r) T I L n
  | _ => False
theorem ok_i2l (hd : decode (mz_mb M) pc = .ok (.i2l, 1)) : mz_Seq M pc 1 o_i2l := by
  intro G K X k lv st T I L n ho hk hG p e s m args below meth c Q hC hE hX H locs ls hP hS hl h1 h2
  unfold o_i2l at ho
  split at ho
  · exact lv_i2l hC.1 hC.2.1 hd rfl (mz_go (hk _ _ _ _ _ _ ho) hG hC hE hX hP hS hl h1 h2)
  · exact ho.elim
theorem ok_l2i (hd : decode (mz_mb M) pc = .ok (.l2i, 1)) : mz_Seq M pc 1 o_l2i := by
  intro G K X k lv st T I L n ho hk hG p e s m args below meth c Q hC hE hX H locs ls hP hS hl h1 h2
  unfold o_l2i at ho
  split at ho
  · exact lv_l2i hC.1 hC.2.1 hd rfl (mz_go (hk _ _ _ _ _ _ ho) hG hC hE hX hP hS hl h1 h2)
  · exact ho.elim
theorem ok_i2d (hd : decode (mz_mb M) pc = .ok (.i2d, 1)) : mz_Seq M pc 1 o_i2d := by
  intro G K X k lv st T I L n ho hk hG p e s m args below meth c Q hC hE hX H locs ls hP hS hl h1 h2
  unfold o_i2d at ho
  split at ho
  · exact lv_i2d hC.1 hC.2.1 hd (mz_go (hk _ _ _ _ _ _ ho) hG hC hE hX hP hS hl h1 h2)
  · exact ho.elim
theorem ok_lcmp (hd : decode (mz_mb M) pc = .ok (.lcmp, 1)) : mz_Seq M pc 1 o_lcmp := by
  intro G K X k lv st T I L n ho hk hG p e s m args below meth c Q hC hE hX H locs ls hP hS hl h1 h2
  unfold o_lcmp at ho
  split at ho
  · exact W.lcmp hC.1 hC.2.1 hd (mz_go (hk _ _ _ _ _ _ ho) hG hC hE hX hP hS hl h1 h2)
  · exact ho.elim
theorem ok_ddiv (hd : decode (mz_mb M) pc = .ok (.ddiv, 1)) : mz_Seq M pc 1 o_ddiv := by
  intro G K X k lv st T I L n ho hk hG p e s m args below meth c Q hC hE hX H locs ls hP hS hl h1 h2
  unfold o_ddiv at ho
  split at ho
  · exact lv_ddiv hC.1 hC.2.1 hd ho.1 (mz_go (hk _ _ _ _ _ _ ho.2) hG hC hE hX hP hS hl h1 h2)
  · exact ho.elim
theorem ok_dcmpl (hd : decode (mz_mb M) pc = .ok (.dcmp .l, 1)) : mz_Seq M pc 1 o_dcmpl := by
  intro G K X k lv st T I L n ho hk hG p e s m args below meth c Q hC hE hX H locs ls hP hS hl h1 h2
  unfold o_dcmpl at ho
  split at ho
  · exact lv_dcmp hC.1 hC.2.1 hd (mz_go (hk _ _ _ _ _ _ ho) hG hC hE hX hP hS hl h1 h2)
  · exact ho.elim
/-- the stack -/
def mz_one (v : Value) : Bool := match v with
  | .int _ => true
  | .ref _ => true
  | .null => true
  | _ => false
theorem mz_one_cat {v : Value} (h : mz_one v = true) : v.category = 1 := by cases v <;> first | rfl | cases h
def o_dup : mz_Op := fun _ pc lv st T I L n k => match st with
  | v :: r => mz_one v = true ∧ k (pc + 1) lv (v :: v :: r) T I L n
  | _ => False
def o_dup2 : mz_Op := fun _ pc lv st T I L n k => match st with
  | v :: w :: r => mz_one v = true ∧ mz_one w = true ∧ k (pc + 1) lv (v :: w :: v :: w :: r) T I L n
  | _ => False
def o_pop : mz_Op := fun _ pc lv st T I L n k => match st with
  | v :: r => mz_one v = true ∧ k (pc + 1) lv r T I L n
  | _ => False
theorem ok_dup (hd : decode (mz_mb M) pc = .ok (.dup, 1)) : mz_Seq M pc 1 o_dup := by
  intro G K X k lv st T I L n ho hk hG p e s m args below meth c Q hC hE hX H locs ls hP hS hl h1 h2
  unfold o_dup at ho
  split at ho
  · exact lv_dup hC.1 hC.2.1 hd (mz_one_cat ho.1) (mz_go (hk _ _ _ _ _ _ ho.2) hG hC hE hX hP hS hl h1 h2)
  · exact ho.elim
theorem ok_dup2 (hd : decode (mz_mb M) pc = .ok (.dup2, 1)) : mz_Seq M pc 1 o_dup2 := by
  intro G K X k lv st T I L n ho hk hG p e s m args below meth c Q hC hE hX H locs ls hP hS hl h1 h2
  unfold o_dup2 at ho
  split at ho
  · exact lv_dup2_11 hC.1 hC.2.1 hd (mz_one_cat ho.1) (mz_one_cat ho.2.1) (mz_go (hk _ _ _ _ _ _ ho.2.2) hG hC hE hX hP hS hl h1 h2)
  · exact ho.elim
theorem ok_pop (hd : decode (mz_mb M) pc = .ok (.pop, 1)) : mz_Seq M pc 1 o_pop := by
  intro G K X k lv st T I L n ho hk hG p e s m args below meth c Q hC hE hX H locs ls hP hS hl h1 h2
  unfold o_pop at ho
  split at ho
  · exact lv_pop hC.1 hC.2.1 hd (mz_one_cat ho.1) (mz_go (hk _ _ _ _ _ _ ho.2) hG hC hE hX hP hS hl h1 h2)
  · exact ho.elim
end MZD
