/-! fields, statics, arrays -/
section MZF
variable {M : mz_M} {pc : Nat}
def mz_tt : Nat → FieldType → Bool
  | 0, .int => true
  | 1, .long => true
  | 2, .object _ => true
  | 2, .array _ => true
  | 3, .boolean => true
  | _, _ => false
/-- what the tables say of a class -/
def mz_Cl (c : Nat) (C : String) (T : u_T) (N : Nat) (ty0 : Nat → FieldType) : Prop := mz_cl[c]? = some (C, T, N) ∧ (∀ w ∈ u_ws C T N, w ∈ mz_GW) ∧ (∀ k, k < N → parseFieldDescriptor (T k).2.2.1 = some (ty0 k)) ∧
  (∀ a, a < N → ∀ b, b < N → a ≠ b → (T a).2.1 ≠ (T b).2.1) ∧ (mz_tg c).length = N ∧ (∀ k t, (mz_tg c)[k]? = some t → mz_tt t (ty0 k) = true)
abbrev mz_Lk (own : String) (idx : Nat) (f : String × String × String × Bool) : Prop := Cond.fieldLink own idx f.1 f.2.1 f.2.2.1 ∈ mz_GW
def o_gI (c k : Nat) : mz_Op := fun _ pc lv st T I L n κ => match st with
  | .ref a :: r => (a, 0, c) ∈ T.1 ∧ κ (pc + 3) lv (.int (I a k) :: r) T I L n
  | _ => False
def o_gL (c k : Nat) : mz_Op := fun _ pc lv st T I L n κ => match st with
  | .ref a :: r => (a, 0, c) ∈ T.1 ∧ κ (pc + 3) lv (.long (L a k) :: r) T I L n
  | _ => False
def o_gR (c k : Nat) : mz_Op := fun _ pc lv st T I L n κ => match st with
  | .ref a :: r => (a, 0, c) ∈ T.1 ∧ κ (pc + 3) lv (va_rf (T.2 a k) :: r) T I L n
  | _ => False
theorem mz_getf {G : mz_G} {p : Program} {e : Env} {s : State} {m : MethodId} {args : Array Value} {below : List Frame} {meth : Method} {c0 : Code} {Q : State → Prop} {H : Heap} {locs : List Loc} {ls : Array Slot} {cells slots : Nat} {r : List Value}
    {T : mz_T} {I : mz_I} {L : mz_L} {c k t idx N : Nat} {C : String} {Tc : u_T} {ty0 : Nat → FieldType} {a : Nat} (hC : mz_Cx G M p s m args meth c0) (hP : mz_Pic G T I L H) (hc : mz_Cl c C Tc N ty0) (ht : (mz_tg c)[k]? = some t) (hl : mz_Lk (mz_my M).cls idx (Tc k))
    (hd : decode (mz_mb M) pc = .ok (.getfield idx, 3)) (hm : (a, 0, c) ∈ T.1) (kk : W p (mz_gl G) e (mz_mR M) s m args below meth c0 H locs cells slots Q (F0 m (pc + 3) ls (mz_fv (T.2 a) (I a) (L a) k t :: r))) :
    W p (mz_gl G) e (mz_mR M) s m args below meth c0 H locs cells slots Q (F0 m pc ls (.ref a :: r)) := by
  obtain ⟨i, -, hi⟩ := mz_at (G := G) (I := I) (L := L) hm
  have hk : k < N := by rw [← hc.2.2.2.2.1]; exact (List.getElem?_eq_some_iff.mp ht).1
  exact va_get hC.1 hC.2.1 hC.2.2.2.2.1 hc.2.1 hC.2.2.2.2.2.1 hC.2.2.2.2.2.2.2.2.1.1 hP.1 i hi hc.1 k hk (hC.2.2.2.2.1 _ hl) (fun _ h => h) (mz_flds ht) hd kk
theorem ok_gI {c k t idx N : Nat} {C : String} {Tc : u_T} {ty0 : Nat → FieldType} (hc : mz_Cl c C Tc N ty0) (ht : (mz_tg c)[k]? = some t) (h03 : t = 0 ∨ t = 3) (hl : mz_Lk (mz_my M).cls idx (Tc k)) (hd : decode (mz_mb M) pc = .ok (.getfield idx, 3)) : mz_Seq M pc 3 (o_gI c k) := by
  intro G K X κ lv st T I L n ho hk hG p e s m args below meth c0 Q hC hE hX H locs ls hP hS hl9 h1 h2
  unfold o_gI at ho
  split at ho
  · refine mz_getf hC hP hc ht hl hd ho.1 ?_
    rw [show mz_fv (T.2 _) (I _) (L _) k t = .int (I _ k) by rcases h03 with rfl | rfl <;> rfl]
    exact mz_go (hk _ _ _ _ _ _ ho.2) hG hC hE hX hP hS hl9 h1 h2
  · exact ho.elim
theorem ok_gL {c k idx N : Nat} {C : String} {Tc : u_T} {ty0 : Nat → FieldType} (hc : mz_Cl c C Tc N ty0) (ht : (mz_tg c)[k]? = some 1) (hl : mz_Lk (mz_my M).cls idx (Tc k)) (hd : decode (mz_mb M) pc = .ok (.getfield idx, 3)) : mz_Seq M pc 3 (o_gL c k) := by
  intro G K X κ lv st T I L n ho hk hG p e s m args below meth c0 Q hC hE hX H locs ls hP hS hl9 h1 h2
  unfold o_gL at ho
  split at ho
  · exact mz_getf hC hP hc ht hl hd ho.1 (mz_go (hk _ _ _ _ _ _ ho.2) hG hC hE hX hP hS hl9 h1 h2)
  · exact ho.elim
theorem ok_gR {c k idx N : Nat} {C : String} {Tc : u_T} {ty0 : Nat → FieldType} (hc : mz_Cl c C Tc N ty0) (ht : (mz_tg c)[k]? = some 2) (hl : mz_Lk (mz_my M).cls idx (Tc k)) (hd : decode (mz_mb M) pc = .ok (.getfield idx, 3)) : mz_Seq M pc 3 (o_gR c k) := by
  intro G K X κ lv st T I L n ho hk hG p e s m args below meth c0 Q hC hE hX H locs ls hP hS hl9 h1 h2
  unfold o_gR at ho
  split at ho
  · exact mz_getf hC hP hc ht hl hd ho.1 (mz_go (hk _ _ _ _ _ _ ho.2) hG hC hE hX hP hS hl9 h1 h2)
  · exact ho.elim
/-- a field is set -/
theorem mz_putf {G : mz_G} {p : Program} {e : Env} {s : State} {m : MethodId} {args : Array Value} {below : List Frame} {meth : Method} {c0 : Code} {Q : State → Prop} {H : Heap} {locs : List Loc} {ls : Array Slot} {cells slots : Nat} {r : List Value}
    {T : mz_T} {I : mz_I} {L : mz_L} {c k t idx N : Nat} {C : String} {Tc : u_T} {ty0 : Nat → FieldType} {a : Nat} {v : Value} {R' : mz_R} {I' : mz_I} {L' : mz_L} (hC : mz_Cx G M p s m args meth c0) (hP : mz_Pic G T I L H) (hS : va_S (mz_A G) s.heap H locs) (hc : mz_Cl c C Tc N ty0) (ht : (mz_tg c)[k]? = some t) (hl : mz_Lk (mz_my M).cls idx (Tc k))
    (hfin : (Tc k).2.2.2 = false ∨ ((mz_my M).name = "<init>" ∧ (Tc k).1 = (mz_my M).cls ∧ (Tc k).2.2.2 = true)) (hd : decode (mz_mb M) pc = .ok (.putfield idx, 3)) (hm : (a, 0, c) ∈ T.1)
    (hn : narrow (ty0 k) v = v) (hf : fits (ty0 k) v = true) (hv : mz_fv (R' a) (I' a) (L' a) k t = v) (ho : ∀ b, b ≠ a → R' b = T.2 b ∧ I' b = I b ∧ L' b = L b) (hoa : ∀ j, j ≠ k → R' a j = T.2 a j ∧ I' a j = I a j ∧ L' a j = L a j) (hB : t = 3 → I' a k = 0 ∨ I' a k = 1)
    (kk : ∀ H1 locs1, mz_Pic G (T.1, R') I' L' H1 → va_S (mz_A G) s.heap H1 locs1 → W p (mz_gl G) e (mz_mR M) s m args below meth c0 H1 locs1 cells slots Q (F0 m (pc + 3) ls r)) :
    W p (mz_gl G) e (mz_mR M) s m args below meth c0 H locs cells slots Q (F0 m pc ls (v :: .ref a :: r)) := by
  obtain ⟨i, hi0, hi⟩ := mz_at (G := G) (I := I) (L := L) hm
  have hk : k < N := by rw [← hc.2.2.2.2.1]; exact (List.getElem?_eq_some_iff.mp ht).1
  have hk2 : k < ((mz_tg c).mapIdx (fun k t => mz_fv (T.2 a) (I a) (L a) k t)).length := by rw [List.length_mapIdx]; exact (List.getElem?_eq_some_iff.mp ht).1
  have he : mz_ent G (R' a) (I' a) (L' a) (0, c) = .inr (c, ((mz_tg c).mapIdx (fun k t => mz_fv (T.2 a) (I a) (L a) k t)).set k v) := by
    show (Sum.inr (c, (mz_tg c).mapIdx (fun k t => mz_fv (R' a) (I' a) (L' a) k t)) : va_E) = _
    rw [← hv, mz_flds_set ht hoa]
  have hB' : mz_B (T.1, R') I' := by
    intro b c' hb j hj
    by_cases hba : b = a
    · subst hba
      have hcc : c' = c := by
        have := mz_uniq hP.2.1 hb hm
        simpa using this
      subst hcc
      by_cases hjk : j = k
      · subst hjk
        exact hB (Option.some.inj (ht.symm.trans hj))
      · rw [(hoa j hjk).2.1]
        exact hP.2.2 b c' hm j hj
    · rw [(ho b hba).2.1]
      exact hP.2.2 b c' hb j hj
  have fin : ∀ (H1 : Heap) (locs1 : List Loc), va_P (mz_gD G) mz_cl ((mz_ws G T I L).set i (a, .inr (c, ((mz_tg c).mapIdx (fun k t => mz_fv (T.2 a) (I a) (L a) k t)).set k v))) H1 → va_D (mz_A G) ((mz_ws G T I L).set i (a, .inr (c, ((mz_tg c).mapIdx (fun k t => mz_fv (T.2 a) (I a) (L a) k t)).set k v))) → va_S (mz_A G) s.heap H1 locs1 → W p (mz_gl G) e (mz_mR M) s m args below meth c0 H1 locs1 cells slots Q (F0 m (pc + 3) ls r) := by
    intro H1 locs1 q1 q2 q3
    rw [mz_set hP.2.1 hi0 he ho] at q1 q2
    exact kk H1 locs1 ⟨q1, q2, hB'⟩ q3
  rcases hfin with hfin | ⟨hn1, hn2, hn3⟩
  · exact va_put hC.1 hC.2.1 hC.2.2.2.2.1 hc.2.1 ty0 hc.2.2.1 hc.2.2.2.1 hC.2.2.2.2.2.1 hC.2.2.2.2.2.2.2.2.1.1 hP.1 hP.2.1 hS i hi hc.1 k hk (hC.2.2.2.2.1 _ hl) (fun _ h => h) hfin (hc.2.2.1 k hk) hn hf hk2 hd fin
  · exact va_putF hC.1 hC.2.1 hC.2.2.2.2.1 hc.2.1 ty0 hc.2.2.1 hc.2.2.2.1 hC.2.2.2.2.2.1 hC.2.2.2.2.2.2.2.2.1.1 hP.1 hP.2.1 hS i hi hc.1 k hk (hC.2.2.2.2.1 _ hl) (fun _ h => h) hn3 (hC.2.2.2.2.2.2.2.1.trans hn1) hn2 (hc.2.2.1 k hk) hn hf hk2 hd fin
def o_pI (c k : Nat) : mz_Op := fun _ pc lv st T I L n κ => match st with
  | .int x :: .ref a :: r => (a, 0, c) ∈ T.1 ∧ κ (pc + 3) lv r T (mz_u I a k x) L n
  | _ => False
def o_pZ (c k : Nat) : mz_Op := fun _ pc lv st T I L n κ => match st with
  | .int x :: .ref a :: r => (a, 0, c) ∈ T.1 ∧ (x = 0 ∨ x = 1) ∧ κ (pc + 3) lv r T (mz_u I a k x) L n
  | _ => False
def o_pL (c k : Nat) : mz_Op := fun _ pc lv st T I L n κ => match st with
  | .long x :: .ref a :: r => (a, 0, c) ∈ T.1 ∧ κ (pc + 3) lv r T I (mz_u L a k x) n
  | _ => False
def o_pR (c k : Nat) : mz_Op := fun _ pc lv st T I L n κ => match st with
  | .ref x :: .ref a :: r => (a, 0, c) ∈ T.1 ∧ κ (pc + 3) lv r (T.1, mz_u T.2 a k (some x)) I L n
  | _ => False
theorem ok_pI {c k idx N : Nat} {C : String} {Tc : u_T} {ty0 : Nat → FieldType} (hc : mz_Cl c C Tc N ty0) (ht : (mz_tg c)[k]? = some 0) (hl : mz_Lk (mz_my M).cls idx (Tc k)) (hfin : (Tc k).2.2.2 = false) (hd : decode (mz_mb M) pc = .ok (.putfield idx, 3)) : mz_Seq M pc 3 (o_pI c k) := by
  intro G K X κ lv st T I L n ho hk hG p e s m args below meth c0 Q hC hE hX H locs ls hP hS hl9 h1 h2
  unfold o_pI at ho
  split at ho
  · rename_i x a r
    have hty := hc.2.2.2.2.2 k 0 ht
    have hty : ty0 k = .int := by revert hty; cases ty0 k <;> first | (intro _; rfl) | (intro h; cases h)
    exact mz_putf (R' := T.2) (I' := mz_u I a k x) (L' := L) hC hP hS hc ht hl (Or.inl hfin) hd ho.1 (by rw [hty]; rfl) (by rw [hty]; rfl) (by simp [mz_fv, mz_u]) (fun b hb => ⟨rfl, mz_u_ne hb, rfl⟩) (fun j hj => ⟨rfl, mz_u_nk hj, rfl⟩) (fun h => by cases h)
      (fun H1 locs1 q1 q2 => mz_go (hk _ _ _ _ _ _ ho.2) hG hC hE hX q1 q2 hl9 h1 h2)
  · exact ho.elim
theorem ok_pZ {c k idx N : Nat} {C : String} {Tc : u_T} {ty0 : Nat → FieldType} (hc : mz_Cl c C Tc N ty0) (ht : (mz_tg c)[k]? = some 3) (hl : mz_Lk (mz_my M).cls idx (Tc k)) (hfin : (Tc k).2.2.2 = false) (hd : decode (mz_mb M) pc = .ok (.putfield idx, 3)) : mz_Seq M pc 3 (o_pZ c k) := by
  intro G K X κ lv st T I L n ho hk hG p e s m args below meth c0 Q hC hE hX H locs ls hP hS hl9 h1 h2
  unfold o_pZ at ho
  split at ho
  · rename_i x a r
    have hty := hc.2.2.2.2.2 k 3 ht
    have hty : ty0 k = .boolean := by revert hty; cases ty0 k <;> first | (intro _; rfl) | (intro h; cases h)
    exact mz_putf (R' := T.2) (I' := mz_u I a k x) (L' := L) hC hP hS hc ht hl (Or.inl hfin) hd ho.1 (by rw [hty]; rcases ho.2.1 with h | h <;> rw [h] <;> rfl) (by rw [hty]; rcases ho.2.1 with h | h <;> rw [h] <;> rfl) (by simp [mz_fv, mz_u]) (fun b hb => ⟨rfl, mz_u_ne hb, rfl⟩) (fun j hj => ⟨rfl, mz_u_nk hj, rfl⟩) (fun _ => by rw [mz_u_eq]; exact ho.2.1)
      (fun H1 locs1 q1 q2 => mz_go (hk _ _ _ _ _ _ ho.2.2) hG hC hE hX q1 q2 hl9 h1 h2)
  · exact ho.elim
theorem ok_pL {c k idx N : Nat} {C : String} {Tc : u_T} {ty0 : Nat → FieldType} (hc : mz_Cl c C Tc N ty0) (ht : (mz_tg c)[k]? = some 1) (hl : mz_Lk (mz_my M).cls idx (Tc k)) (hfin : (Tc k).2.2.2 = false) (hd : decode (mz_mb M) pc = .ok (.putfield idx, 3)) : mz_Seq M pc 3 (o_pL c k) := by
  intro G K X κ lv st T I L n ho hk hG p e s m args below meth c0 Q hC hE hX H locs ls hP hS hl9 h1 h2
  unfold o_pL at ho
  split at ho
  · rename_i x a r
    have hty := hc.2.2.2.2.2 k 1 ht
    have hty : ty0 k = .long := by revert hty; cases ty0 k <;> first | (intro _; rfl) | (intro h; cases h)
    exact mz_putf (R' := T.2) (I' := I) (L' := mz_u L a k x) hC hP hS hc ht hl (Or.inl hfin) hd ho.1 (by rw [hty]; rfl) (by rw [hty]; rfl) (by simp [mz_fv, mz_u]) (fun b hb => ⟨rfl, rfl, mz_u_ne hb⟩) (fun j hj => ⟨rfl, rfl, mz_u_nk hj⟩) (fun h => by cases h)
      (fun H1 locs1 q1 q2 => mz_go (hk _ _ _ _ _ _ ho.2) hG hC hE hX q1 q2 hl9 h1 h2)
  · exact ho.elim
theorem ok_pR {c k idx N : Nat} {C : String} {Tc : u_T} {ty0 : Nat → FieldType} (hc : mz_Cl c C Tc N ty0) (ht : (mz_tg c)[k]? = some 2) (hl : mz_Lk (mz_my M).cls idx (Tc k)) (hfin : (mz_my M).name = "<init>" ∧ (Tc k).1 = (mz_my M).cls ∧ (Tc k).2.2.2 = true) (hd : decode (mz_mb M) pc = .ok (.putfield idx, 3)) : mz_Seq M pc 3 (o_pR c k) := by
  intro G K X κ lv st T I L n ho hk hG p e s m args below meth c0 Q hC hE hX H locs ls hP hS hl9 h1 h2
  unfold o_pR at ho
  split at ho
  · rename_i x a r
    have hty := hc.2.2.2.2.2 k 2 ht
    have hty : (∃ n, ty0 k = .object n) ∨ ∃ t, ty0 k = .array t := by revert hty; cases ty0 k <;> first | (intro _; exact Or.inl ⟨_, rfl⟩) | (intro _; exact Or.inr ⟨_, rfl⟩) | (intro h; cases h)
    exact mz_putf (R' := mz_u T.2 a k (some x)) (I' := I) (L' := L) hC hP hS hc ht hl (Or.inr hfin) hd ho.1 (by rcases hty with ⟨n, h⟩ | ⟨n, h⟩ <;> rw [h] <;> rfl) (by rcases hty with ⟨n, h⟩ | ⟨n, h⟩ <;> rw [h] <;> rfl) (by simp [mz_fv, mz_u, va_rf]) (fun b hb => ⟨mz_u_ne hb, rfl, rfl⟩) (fun j hj => ⟨mz_u_nk hj, rfl, rfl⟩) (fun h => by cases h)
      (fun H1 locs1 q1 q2 => mz_go (hk _ _ _ _ _ _ ho.2) hG hC hE hX q1 q2 hl9 h1 h2)
  · exact ho.elim
theorem mz_nw {G : mz_G} (hG : mz_OK G) {w : Cond} (h : w ∈ lw_tbl) (ho : w.onTables = true) : va_Nw w (mz_gs G) := hG.2.2.2.2.2.2.2.2.2 w h ho
/-- statics: the read-only rows -/
theorem mz_old {G : mz_G} {s : State} {H : Heap} {locs : List Loc} (hS0 : mz_S G s) (hS : va_S (mz_A G) s.heap H locs) {q : Nat} (hq : q < (mz_gs G).heap.size) : H[q]? = (mz_gs G).heap[q]? := by
  rw [hS.2.1 q (Nat.lt_of_lt_of_le hq hS0.2.2.1) (Nat.not_le.mpr hq)]
  exact hS0.2.1 q hq
def o_gs (q : Nat) : mz_Op := fun E pc lv st T I L n κ => κ (pc + 3) lv (.ref (mz_gr E.1 q) :: st) T I L n
theorem mz_Zs {G : mz_G} {s : State} (hG : mz_OK G) (hS0 : mz_S G s) {q : Nat} (hq : q < 4) : va_Z (mz_sc q) (mz_sn q) "[I" (.ref (mz_gr G q)) (mz_A G) s s.heap :=
  va_Z.moved hS0.2.2.2.alike (va_Z.kept (hG.2.2.1 q hq) (fun a ha _ => hS0.2.1 a ha))
theorem ok_gs {q idx : Nat} (hq : q < 4) (hl : Cond.fieldLink (mz_my M).cls idx (mz_sc q) (mz_sn q) "[I" ∈ mz_GW) (hd : decode (mz_mb M) pc = .ok (.getstatic idx, 3)) : mz_Seq M pc 3 (o_gs q) := by
  intro G K X κ lv st T I L n ho hk hG p e s m args below meth c0 Q hC hE hX H locs ls hP hS hl9 h1 h2
  exact va_gets hC.1 hC.2.1 (mz_Zs hG hC.2.2.2.2.2.2.2.2.1 hq) hS hC.2.2.2.2.2.1 (hC.2.2.2.2.1 _ hl) (fun _ h => h) hd (mz_go (hk _ _ _ _ _ _ ho) hG hC hE hX hP hS hl9 h1 h2)
theorem ok_gsN {q idx : Nat} {host : String} (hq : q < 4) (hl : Cond.fieldLinkNest (mz_my M).cls idx (mz_sc q) (mz_sn q) "[I" host ∈ lw_tbl) (hd : decode (mz_mb M) pc = .ok (.getstatic idx, 3)) : mz_Seq M pc 3 (o_gs q) := by
  intro G K X κ lv st T I L n ho hk hG p e s m args below meth c0 Q hC hE hX H locs ls hP hS hl9 h1 h2
  exact va_getsN hC.1 hC.2.1 (mz_Zs hG hC.2.2.2.2.2.2.2.2.1 hq) hS hC.2.2.2.2.2.1 (va_Nw.use rfl (va_Nw.warmF hC.2.2.2.2.2.2.2.2.1.2.2.2 (mz_nw hG hl rfl))) (fun _ h => h) hd (mz_go (hk _ _ _ _ _ _ ho) hG hC hE hX hP hS hl9 h1 h2)
theorem mz_ro {G : mz_G} {s : State} (hG : mz_OK G) (hS0 : mz_S G s) {q : Nat} (hq : q < 5) : va_T .int (mz_gr G q) (mz_rn G q) (fun j => .int (mz_rf G q j)) (mz_A G) s s.heap :=
  va_T.moved hS0.2.2.2.alike (va_T.kept (hG.2.1 q hq).2 (fun a ha _ => hS0.2.1 a ha))
/-- reads of a read-only row, its length -/
def o_iaR : mz_Op := fun E pc lv st T I L n κ => match st with
  | .int i :: .ref a :: r => ∃ q, q < 5 ∧ a = mz_gr E.1 q ∧ vp_in i (mz_rn E.1 q) ∧ κ (pc + 1) lv (.int (mz_rf E.1 q i.toNatClampNeg) :: r) T I L n
  | _ => False
def o_leR : mz_Op := fun E pc lv st T I L n κ => match st with
  | .ref a :: r => ∃ q, q < 5 ∧ a = mz_gr E.1 q ∧ κ (pc + 1) lv (.int (Int32.ofNat (mz_rn E.1 q)) :: r) T I L n
  | _ => False
theorem ok_iaR (hd : decode (mz_mb M) pc = .ok (.iaload, 1)) : mz_Seq M pc 1 o_iaR := by
  intro G K X κ lv st T I L n ho hk hG p e s m args below meth c0 Q hC hE hX H locs ls hP hS hl9 h1 h2
  unfold o_iaR at ho
  split at ho
  · obtain ⟨q, hq, rfl, hin, hκ⟩ := ho
    exact va_ti hC.1 hC.2.1 (mz_ro hG hC.2.2.2.2.2.2.2.2.1 hq) hS hin rfl hd (mz_go (hk _ _ _ _ _ _ hκ) hG hC hE hX hP hS hl9 h1 h2)
  · exact ho.elim
theorem ok_leR (hd : decode (mz_mb M) pc = .ok (.arraylength, 1)) : mz_Seq M pc 1 o_leR := by
  intro G K X κ lv st T I L n ho hk hG p e s m args below meth c0 Q hC hE hX H locs ls hP hS hl9 h1 h2
  unfold o_leR at ho
  split at ho
  · obtain ⟨q, hq, rfl, hκ⟩ := ho
    exact va_tlen hC.1 hC.2.1 (mz_ro hG hC.2.2.2.2.2.2.2.2.1 hq) hS rfl hd (mz_go (hk _ _ _ _ _ _ hκ) hG hC hE hX hP hS hl9 h1 h2)
  · exact ho.elim
/-- rows of the picture -/
def mz_ix (T : mz_T) (kd a : Nat) (i : Int32) : Prop := ∃ n, (a, kd, n) ∈ T.1 ∧ vp_in i n
def o_ia : mz_Op := fun _ pc lv st T I L n κ => match st with
  | .int i :: .ref a :: r => mz_ix T 1 a i ∧ κ (pc + 1) lv (.int (I a i.toNatClampNeg) :: r) T I L n
  | _ => False
def o_ca : mz_Op := fun _ pc lv st T I L n κ => match st with
  | .int i :: .ref a :: r => mz_ix T 5 a i ∧ κ (pc + 1) lv (.int (I a i.toNatClampNeg) :: r) T I L n
  | _ => False
def o_za : mz_Op := fun _ pc lv st T I L n κ => match st with
  | .int i :: .ref a :: r => mz_ix T 4 a i ∧ κ (pc + 1) lv (.int (I a i.toNatClampNeg) :: r) T I L n
  | _ => False
def o_la : mz_Op := fun _ pc lv st T I L n κ => match st with
  | .int i :: .ref a :: r => mz_ix T 2 a i ∧ κ (pc + 1) lv (.long (L a i.toNatClampNeg) :: r) T I L n
  | _ => False
def o_da : mz_Op := fun _ pc lv st T I L n κ => match st with
  | .int i :: .ref a :: r => mz_ix T 3 a i ∧ κ (pc + 1) lv (.double (L a i.toNatClampNeg).toUInt64 :: r) T I L n
  | _ => False
def o_aa : mz_Op := fun _ pc lv st T I L n κ => match st with
  | .int i :: .ref a :: r => mz_ix T 6 a i ∧ κ (pc + 1) lv (va_rf (T.2 a i.toNatClampNeg) :: r) T I L n
  | _ => False
def o_le : mz_Op := fun _ pc lv st T I L n κ => match st with
  | .ref a :: r => ∃ kd N, 1 ≤ kd ∧ kd ≤ 6 ∧ (a, kd, N) ∈ T.1 ∧ κ (pc + 1) lv (.int (Int32.ofNat N) :: r) T I L n
  | _ => False
theorem ok_ia (hd : decode (mz_mb M) pc = .ok (.iaload, 1)) : mz_Seq M pc 1 o_ia := by
  intro G K X κ lv st T I L n ho hk hG p e s m args below meth c0 Q hC hE hX H locs ls hP hS hl9 h1 h2
  unfold o_ia at ho
  split at ho
  · obtain ⟨⟨N, hm, hin⟩, hκ⟩ := ho
    obtain ⟨i, -, hi⟩ := mz_at (G := G) (I := I) (L := L) hm
    exact va_iald hC.1 hC.2.1 hC.2.2.2.2.2.2.2.2.1.1 hP.1 i 0 hi rfl hin hd (mz_go (hk _ _ _ _ _ _ hκ) hG hC hE hX hP hS hl9 h1 h2)
  · exact ho.elim
theorem ok_ca (hd : decode (mz_mb M) pc = .ok (.caload, 1)) : mz_Seq M pc 1 o_ca := by
  intro G K X κ lv st T I L n ho hk hG p e s m args below meth c0 Q hC hE hX H locs ls hP hS hl9 h1 h2
  unfold o_ca at ho
  split at ho
  · obtain ⟨⟨N, hm, hin⟩, hκ⟩ := ho
    obtain ⟨i, -, hi⟩ := mz_at (G := G) (I := I) (L := L) hm
    exact va_cald hC.1 hC.2.1 hC.2.2.2.2.2.2.2.2.1.1 hP.1 i 4 hi rfl hin hd (mz_go (hk _ _ _ _ _ _ hκ) hG hC hE hX hP hS hl9 h1 h2)
  · exact ho.elim
theorem ok_za (hd : decode (mz_mb M) pc = .ok (.baload, 1)) : mz_Seq M pc 1 o_za := by
  intro G K X κ lv st T I L n ho hk hG p e s m args below meth c0 Q hC hE hX H locs ls hP hS hl9 h1 h2
  unfold o_za at ho
  split at ho
  · obtain ⟨⟨N, hm, hin⟩, hκ⟩ := ho
    obtain ⟨i, -, hi⟩ := mz_at (G := G) (I := I) (L := L) hm
    exact va_zald hC.1 hC.2.1 hC.2.2.2.2.2.2.2.2.1.1 hP.1 i 3 hi rfl hin hd (mz_go (hk _ _ _ _ _ _ hκ) hG hC hE hX hP hS hl9 h1 h2)
  · exact ho.elim
theorem ok_la (hd : decode (mz_mb M) pc = .ok (.laload, 1)) : mz_Seq M pc 1 o_la := by
  intro G K X κ lv st T I L n ho hk hG p e s m args below meth c0 Q hC hE hX H locs ls hP hS hl9 h1 h2
  unfold o_la at ho
  split at ho
  · obtain ⟨⟨N, hm, hin⟩, hκ⟩ := ho
    obtain ⟨i, -, hi⟩ := mz_at (G := G) (I := I) (L := L) hm
    exact va_lald hC.1 hC.2.1 hC.2.2.2.2.2.2.2.2.1.1 hP.1 i 1 hi rfl hin hd (mz_go (hk _ _ _ _ _ _ hκ) hG hC hE hX hP hS hl9 h1 h2)
  · exact ho.elim
theorem ok_da (hd : decode (mz_mb M) pc = .ok (.daload, 1)) : mz_Seq M pc 1 o_da := by
  intro G K X κ lv st T I L n ho hk hG p e s m args below meth c0 Q hC hE hX H locs ls hP hS hl9 h1 h2
  unfold o_da at ho
  split at ho
  · obtain ⟨⟨N, hm, hin⟩, hκ⟩ := ho
    obtain ⟨i, -, hi⟩ := mz_at (G := G) (I := I) (L := L) hm
    exact va_dald hC.1 hC.2.1 hC.2.2.2.2.2.2.2.2.1.1 hP.1 i 2 hi rfl hin hd (mz_go (hk _ _ _ _ _ _ hκ) hG hC hE hX hP hS hl9 h1 h2)
  · exact ho.elim
theorem ok_aa (hd : decode (mz_mb M) pc = .ok (.aaload, 1)) : mz_Seq M pc 1 o_aa := by
  intro G K X κ lv st T I L n ho hk hG p e s m args below meth c0 Q hC hE hX H locs ls hP hS hl9 h1 h2
  unfold o_aa at ho
  split at ho
  · obtain ⟨⟨N, hm, hin⟩, hκ⟩ := ho
    obtain ⟨i, -, hi⟩ := mz_at (G := G) (I := I) (L := L) hm
    exact va_aldq hC.1 hC.2.1 hC.2.2.2.2.2.2.2.2.1.1 hP.1 i 5 hi rfl hin hd (mz_go (hk _ _ _ _ _ _ hκ) hG hC hE hX hP hS hl9 h1 h2)
  · exact ho.elim
theorem ok_le (hd : decode (mz_mb M) pc = .ok (.arraylength, 1)) : mz_Seq M pc 1 o_le := by
  intro G K X κ lv st T I L n ho hk hG p e s m args below meth c0 Q hC hE hX H locs ls hP hS hl9 h1 h2
  unfold o_le at ho
  split at ho
  · obtain ⟨kd, N, k1, k6, hm, hκ⟩ := ho
    obtain ⟨i, -, hi⟩ := mz_at (G := G) (I := I) (L := L) hm
    have hgo := mz_go (hk _ _ _ _ _ _ hκ) hG hC hE hX hP hS hl9 h1 h2
    rcases (show kd = 1 ∨ kd = 2 ∨ kd = 3 ∨ kd = 4 ∨ kd = 5 ∨ kd = 6 by omega) with rfl | rfl | rfl | rfl | rfl | rfl
    · exact va_alen hC.1 hC.2.1 hC.2.2.2.2.2.2.2.2.1.1 hP.1 i 0 hi (ty := .int) rfl rfl hd hgo
    · exact va_alen hC.1 hC.2.1 hC.2.2.2.2.2.2.2.2.1.1 hP.1 i 1 hi (ty := .long) rfl rfl hd hgo
    · exact va_alen hC.1 hC.2.1 hC.2.2.2.2.2.2.2.2.1.1 hP.1 i 2 hi (ty := .double) rfl rfl hd hgo
    · exact va_alen hC.1 hC.2.1 hC.2.2.2.2.2.2.2.2.1.1 hP.1 i 3 hi (ty := .boolean) rfl rfl hd hgo
    · exact va_alen hC.1 hC.2.1 hC.2.2.2.2.2.2.2.2.1.1 hP.1 i 4 hi (ty := .char) rfl rfl hd hgo
    · exact va_alen hC.1 hC.2.1 hC.2.2.2.2.2.2.2.2.1.1 hP.1 i 5 hi (ty := .object "FallingBlocks$Game") rfl rfl hd hgo
  · exact ho.elim
end MZF
