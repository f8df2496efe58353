/-! first rows over the picture: what is at an address, what a write makes of it -/
section MZB
variable {G : mz_G} {T : mz_T} {I : mz_I} {L : mz_L} {H : Heap}
def mz_u {α : Type} (f : Nat → Nat → α) (a k : Nat) (v : α) : Nat → Nat → α := fun b => if b = a then (fun j => if j = k then v else f a j) else f b
def mz_z {α : Type} (f : Nat → Nat → α) (a : Nat) (v : α) : Nat → Nat → α := fun b => if b = a then (fun _ => v) else f b
theorem mz_u_ne {α : Type} {f : Nat → Nat → α} {a k b : Nat} {v : α} (h : b ≠ a) : mz_u f a k v b = f b := if_neg h
theorem mz_u_nk {α : Type} {f : Nat → Nat → α} {a k j : Nat} {v : α} (h : j ≠ k) : mz_u f a k v a j = f a j := by simp [mz_u, h]
theorem mz_u_eq {α : Type} {f : Nat → Nat → α} {a k : Nat} {v : α} : mz_u f a k v a k = v := by simp [mz_u]
theorem mz_u_at {α : Type} {f : Nat → Nat → α} {a k j b : Nat} {v : α} : mz_u f a k v b j = if b = a ∧ j = k then v else f b j := by
  unfold mz_u
  by_cases h : b = a
  · subst h; by_cases hj : j = k <;> simp [hj]
  · simp [h]
theorem mz_z_ne {α : Type} {f : Nat → Nat → α} {a b : Nat} {v : α} (h : b ≠ a) : mz_z f a v b = f b := if_neg h
theorem mz_z_eq {α : Type} {f : Nat → Nat → α} {a j : Nat} {v : α} : mz_z f a v a j = v := by simp [mz_z]
theorem mz_at {a : Nat} {h : Nat × Nat} (hm : (a, h) ∈ T.1) : ∃ i : Nat, T.1[i]? = some (a, h) ∧ (mz_ws G T I L)[i]? = some (a, mz_ent G (T.2 a) (I a) (L a) h) := by
  obtain ⟨i, hi⟩ := List.getElem?_of_mem hm
  exact ⟨i, hi, by simp [mz_ws, hi]⟩
theorem mz_uniq (hD : va_D (mz_A G) (mz_ws G T I L)) {a : Nat} {h h' : Nat × Nat} (h1 : (a, h) ∈ T.1) (h2 : (a, h') ∈ T.1) : h = h' := by
  obtain ⟨i, hi, hi2⟩ := mz_at (G := G) (I := I) (L := L) h1
  obtain ⟨j, hj, hj2⟩ := mz_at (G := G) (I := I) (L := L) h2
  have hij := hD.1 i j _ _ hi2 hj2 rfl
  subst hij
  have := hi.symm.trans hj
  simpa using this
theorem mz_new (hD : va_D (mz_A G) (mz_ws G T I L)) {a : Nat} {h : Nat × Nat} (h1 : (a, h) ∈ T.1) : mz_A G a := by
  obtain ⟨i, -, hi2⟩ := mz_at (G := G) (I := I) (L := L) h1
  exact hD.2 i _ hi2
/-- a write at one address: the row of the world is set there, all else stays -/
theorem mz_set (hD : va_D (mz_A G) (mz_ws G T I L)) {R' : mz_R} {I' : mz_I} {L' : mz_L} {a i : Nat} {h : Nat × Nat} {e' : va_E} (hi : T.1[i]? = some (a, h)) (he : mz_ent G (R' a) (I' a) (L' a) h = e')
    (ho : ∀ b, b ≠ a → R' b = T.2 b ∧ I' b = I b ∧ L' b = L b) : (mz_ws G T I L).set i (a, e') = mz_ws G (T.1, R') I' L' := by
  have hl := (List.getElem?_eq_some_iff.mp hi).1
  have hi2 : (mz_ws G T I L)[i]? = some (a, mz_ent G (T.2 a) (I a) (L a) h) := by simp [mz_ws, hi]
  apply List.ext_getElem?
  intro j
  by_cases hj : j = i
  · subst hj
    rw [List.getElem?_set_self (by simpa [mz_ws] using hl)]
    simp [mz_ws, hi, he]
  · rw [List.getElem?_set_ne (Ne.symm hj)]
    simp only [mz_ws, List.getElem?_map]
    cases hq : T.1[j]? with
    | none => rfl
    | some q =>
      obtain ⟨b, h2⟩ := q
      have hb : b ≠ a := by
        intro hba
        have hj2 : (mz_ws G T I L)[j]? = some (b, mz_ent G (T.2 b) (I b) (L b) h2) := by simp [mz_ws, hq]
        exact hj (hD.1 j i _ _ hj2 hi2 hba)
      obtain ⟨e1, e2, e3⟩ := ho b hb
      simp [e1, e2, e3]
theorem mz_push {R' : mz_R} {I' : mz_I} {L' : mz_L} {a : Nat} {h : Nat × Nat} {e' : va_E} (hn : ∀ q ∈ T.1, q.1 ≠ a) (he : mz_ent G (R' a) (I' a) (L' a) h = e')
    (ho : ∀ b, b ≠ a → R' b = T.2 b ∧ I' b = I b ∧ L' b = L b) : mz_ws G T I L ++ [(a, e')] = mz_ws G (T.1 ++ [(a, h)], R') I' L' := by
  simp only [mz_ws, List.map_append, List.map_cons, List.map_nil, he]
  congr 1
  apply List.map_congr_left
  intro q hq
  obtain ⟨e1, e2, e3⟩ := ho q.1 (hn q hq)
  simp [e1, e2, e3]
theorem mz_fresh {A : Nat → Prop} {a : Nat} {e : va_E} (hD : va_D A (mz_ws G T I L ++ [(a, e)])) : ∀ q ∈ T.1, q.1 ≠ a := by
  intro q hq hqa
  obtain ⟨i, hi, hi2⟩ := mz_at (G := G) (I := I) (L := L) (a := q.1) (h := q.2) hq
  have hl : i < (mz_ws G T I L).length := (List.getElem?_eq_some_iff.mp hi2).1
  have h1 : (mz_ws G T I L ++ [(a, e)])[i]? = some (q.1, mz_ent G (T.2 q.1) (I q.1) (L q.1) q.2) := by rw [List.getElem?_append_left hl]; exact hi2
  have h2 : (mz_ws G T I L ++ [(a, e)])[(mz_ws G T I L).length]? = some (a, e) := by simp
  have := hD.1 _ _ _ _ h1 h2 hqa
  omega
theorem mz_flds {R : Nat → Option Nat} {I : Nat → Int32} {L : Nat → Int64} {c k t : Nat} (h : (mz_tg c)[k]? = some t) : ((mz_tg c).mapIdx (fun k t => mz_fv R I L k t))[k]? = some (mz_fv R I L k t) := by
  simp [List.getElem?_mapIdx, h]
theorem mz_flds_set {R R' : Nat → Option Nat} {I I' : Nat → Int32} {L L' : Nat → Int64} {c k t : Nat} (h : (mz_tg c)[k]? = some t) (ho : ∀ j, j ≠ k → R' j = R j ∧ I' j = I j ∧ L' j = L j) :
    ((mz_tg c).mapIdx (fun k t => mz_fv R I L k t)).set k (mz_fv R' I' L' k t) = (mz_tg c).mapIdx (fun k t => mz_fv R' I' L' k t) := by
  have hl := (List.getElem?_eq_some_iff.mp h).1
  apply List.ext_getElem?
  intro j
  by_cases hj : j = k
  · subst hj
    rw [List.getElem?_set_self (by simpa using hl)]
    simp [List.getElem?_mapIdx, h]
  · rw [List.getElem?_set_ne (Ne.symm hj)]
    simp only [List.getElem?_mapIdx]
    obtain ⟨e1, e2, e3⟩ := ho j hj
    cases (mz_tg c)[j]? with
    | none => rfl
    | some t2 => 
      simp only [Option.map_some]
      unfold mz_fv
      split <;> simp [e1, e2, e3]
end MZB
section MZC
/-- what an operation makes of a state, k: what goes on -/
abbrev mz_k : Type := Nat → List (Option Value) → List Value → mz_T → mz_I → mz_L → mz_N → Prop
abbrev mz_E : Type := mz_G × mz_K × mz_X
abbrev mz_Op : Type := mz_E → Nat → List (Option Value) → List Value → mz_T → mz_I → mz_L → mz_N → mz_k → Prop
/-- an operation that goes on behind itself -/
def mz_Seq (M : mz_M) (pc len : Nat) (o : mz_Op) : Prop := ∀ (G : mz_G) (K : mz_K) (X : mz_X) (k : mz_k) lv st T I L n, o (G, K, X) pc lv st T I L n k →
  (∀ lv' st' T' I' L' n', k (pc + len) lv' st' T' I' L' n' → mz_W G M K X (pc + len) lv' st' T' I' L' n') → mz_W G M K X pc lv st T I L n
/-- one that may go anywhere, or end -/
def mz_Jmp (M : mz_M) (pc : Nat) (o : mz_Op) : Prop := ∀ (G : mz_G) (K : mz_K) (X : mz_X) (k : mz_k) lv st T I L n, o (G, K, X) pc lv st T I L n k →
  (∀ pc' lv' st' T' I' L' n', k pc' lv' st' T' I' L' n' → mz_W G M K X pc' lv' st' T' I' L' n') → mz_W G M K X pc lv st T I L n
def mz_run : List mz_Op → mz_E → mz_k → mz_k
  | [], _, k => k
  | o :: os, E, k => fun pc lv st T I L n => o E pc lv st T I L n (mz_run os E k)
theorem mz_rn0 {E : mz_E} {k : mz_k} {pc lv st T I L n} : mz_run [] E k pc lv st T I L n = k pc lv st T I L n := rfl
theorem mz_rnc {o : mz_Op} {os : List mz_Op} {E : mz_E} {k : mz_k} {pc lv st T I L n} : mz_run (o :: os) E k pc lv st T I L n = o E pc lv st T I L n (mz_run os E k) := rfl
def mz_Blk (M : mz_M) (pc : Nat) (os : List mz_Op) : Prop := ∀ (G : mz_G) (K : mz_K) (X : mz_X) (k : mz_k) lv st T I L n, mz_run os (G, K, X) k pc lv st T I L n → (∀ pc' lv' st' T' I' L' n', k pc' lv' st' T' I' L' n' → mz_W G M K X pc' lv' st' T' I' L' n') → mz_W G M K X pc lv st T I L n
theorem mz_bn {M : mz_M} {pc : Nat} : mz_Blk M pc [] := fun _ _ _ _ _ _ _ _ _ _ h hk => hk _ _ _ _ _ _ _ h
theorem mz_bs {M : mz_M} {pc len : Nat} {o : mz_Op} {os : List mz_Op} (h : mz_Seq M pc len o) (hr : mz_Blk M (pc + len) os) : mz_Blk M pc (o :: os) :=
  fun G K X k lv st T I L n hh hk => h G K X _ lv st T I L n hh (fun lv' st' T' I' L' n' h9 => hr G K X k lv' st' T' I' L' n' h9 hk)
theorem mz_bj {M : mz_M} {pc : Nat} {o : mz_Op} (h : mz_Jmp M pc o) : mz_Blk M pc [o] :=
  fun G K X k lv st T I L n hh hk => h G K X k lv st T I L n hh hk
/-- behind a call: the answer goes on the stack -/
def mz_kc (κ : mz_k) (pc : Nat) (lv : List (Option Value)) (r : List Value) (n : mz_N) : mz_K := fun v T I L => κ (pc + 3) lv (v.toList ++ r) T I L n
theorem mz_kci {κ : mz_k} {pc lv r n v T I L} : mz_kc κ pc lv r n (some v) T I L = κ (pc + 3) lv (v :: r) T I L n := rfl
theorem mz_kcv {κ : mz_k} {pc lv r n T I L} : mz_kc κ pc lv r n none T I L = κ (pc + 3) lv r T I L n := rfl
variable {M : mz_M} {pc : Nat}
def mz_kl (lv : List (Option Value)) (i : Nat) : List (Option Value) := match i with
  | 0 => lv
  | j + 1 => match lv[j]? with
    | some (some (.long _)) => lv.set j none
    | some (some (.double _)) => lv.set j none
    | _ => lv
/-- loads -/
def o_ild (i len : Nat) : mz_Op := fun _ pc lv st T I L n k => match lv[i]? with
  | some (some (.int x)) => k (pc + len) lv (.int x :: st) T I L n
  | _ => False
def o_ald (i len : Nat) : mz_Op := fun _ pc lv st T I L n k => match lv[i]? with
  | some (some (.ref x)) => k (pc + len) lv (.ref x :: st) T I L n
  | _ => False
def o_lld (i len : Nat) : mz_Op := fun _ pc lv st T I L n k => match lv[i]? with
  | some (some (.long x)) => k (pc + len) lv (.long x :: st) T I L n
  | _ => False
def o_dld (i len : Nat) : mz_Op := fun _ pc lv st T I L n k => match lv[i]? with
  | some (some (.double x)) => k (pc + len) lv (.double x :: st) T I L n
  | _ => False
/-- the rows' form: out of mz_W down to W, and a step -/
theorem mz_go {G : mz_G} {K : mz_K} {X : mz_X} {pc' : Nat} {lv' : List (Option Value)} {st' : List Value} {T : mz_T} {I : mz_I} {L : mz_L} {n : mz_N}
    (hk : mz_W G M K X pc' lv' st' T I L n) {p : Program} {e : Env} {s : State} {m : MethodId} {args : Array Value} {below : List Frame} {meth : Method} {c : Code} {Q : State → Prop} {H : Heap} {locs : List Loc} {ls : Array Slot}
    (hG : mz_OK G) (hC : mz_Cx G M p s m args meth c) (hE : mz_EndK G M p e s m args below meth c Q K) (hX : mz_EndX G M p e s m args below meth c Q X)
    (hP : mz_Pic G T I L H) (hS : va_S (mz_A G) s.heap H locs) (hl : mz_lv ls (mz_mL M) lv') (h1 : n.1 ≤ (mz_mR M).cells) (h2 : n.2 ≤ (mz_mR M).slots) :
    W p (mz_gl G) e (mz_mR M) s m args below meth c H locs n.1 n.2 Q (F0 m pc' ls st') := hk hG p e s m args below meth c Q hC hE hX H locs ls hP hS hl h1 h2
theorem ok_ild_n {i : Fin 4} (hd : decode (mz_mb M) pc = .ok (.iload_n i, 1)) : mz_Seq M pc 1 (o_ild i.val 1) := by
  intro G K X k lv st T I L n ho hk hG p e s m args below meth c Q hC hE hX H locs ls hP hS hl h1 h2
  unfold o_ild at ho
  split at ho
  · rename_i x hx
    exact lv_iload_n hC.1 hC.2.1 hd rfl (hl.2.2.2 _ _ hx) (mz_go (hk _ _ _ _ _ _ ho) hG hC hE hX hP hS hl h1 h2)
  · exact ho.elim
theorem ok_ild {i : Nat} (hd : decode (mz_mb M) pc = .ok (.iload i, 2)) : mz_Seq M pc 2 (o_ild i 2) := by
  intro G K X k lv st T I L n ho hk hG p e s m args below meth c Q hC hE hX H locs ls hP hS hl h1 h2
  unfold o_ild at ho
  split at ho
  · rename_i x hx
    exact lv_iload hC.1 hC.2.1 hd (hl.2.2.2 _ _ hx) (mz_go (hk _ _ _ _ _ _ ho) hG hC hE hX hP hS hl h1 h2)
  · exact ho.elim
theorem ok_ald_n {i : Fin 4} (hd : decode (mz_mb M) pc = .ok (.aload_n i, 1)) : mz_Seq M pc 1 (o_ald i.val 1) := by
  intro G K X k lv st T I L n ho hk hG p e s m args below meth c Q hC hE hX H locs ls hP hS hl h1 h2
  unfold o_ald at ho
  split at ho
  · rename_i x hx
    exact lv_aload_n hC.1 hC.2.1 hd rfl (hl.2.2.2 _ _ hx) (mz_go (hk _ _ _ _ _ _ ho) hG hC hE hX hP hS hl h1 h2)
  · exact ho.elim
theorem ok_ald {i : Nat} (hd : decode (mz_mb M) pc = .ok (.aload i, 2)) : mz_Seq M pc 2 (o_ald i 2) := by
  intro G K X k lv st T I L n ho hk hG p e s m args below meth c Q hC hE hX H locs ls hP hS hl h1 h2
  unfold o_ald at ho
  split at ho
  · rename_i x hx
    exact lv_aload hC.1 hC.2.1 hd (hl.2.2.2 _ _ hx) (mz_go (hk _ _ _ _ _ _ ho) hG hC hE hX hP hS hl h1 h2)
  · exact ho.elim
theorem ok_lld_n {i : Fin 4} (hd : decode (mz_mb M) pc = .ok (.lload_n i, 1)) : mz_Seq M pc 1 (o_lld i.val 1) := by
  intro G K X k lv st T I L n ho hk hG p e s m args below meth c Q hC hE hX H locs ls hP hS hl h1 h2
  unfold o_lld at ho
  split at ho
  · rename_i x hx
    exact lv_lload_n hC.1 hC.2.1 hd rfl (hl.2.2.2 _ _ hx) (mz_go (hk _ _ _ _ _ _ ho) hG hC hE hX hP hS hl h1 h2)
  · exact ho.elim
theorem ok_dld {i : Nat} (hd : decode (mz_mb M) pc = .ok (.dload i, 2)) : mz_Seq M pc 2 (o_dld i 2) := by
  intro G K X k lv st T I L n ho hk hG p e s m args below meth c Q hC hE hX H locs ls hP hS hl h1 h2
  unfold o_dld at ho
  split at ho
  · rename_i x hx
    exact lv_dload hC.1 hC.2.1 hd (hl.2.2.2 _ _ hx) (mz_go (hk _ _ _ _ _ _ ho) hG hC hE hX hP hS hl h1 h2)
  · exact ho.elim
end MZC
