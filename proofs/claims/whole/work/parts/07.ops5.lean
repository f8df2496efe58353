/-! writes to arrays, makings, copies, ends -/
section MZH
variable {M : mz_M} {pc : Nat}
/-- a row is set -/
theorem mz_sta {G : mz_G} {s : State} {H : Heap} {locs : List Loc} {T : mz_T} {I : mz_I} {L : mz_L} {a i kd N : Nat} {e' : va_E} {R' : mz_R} {I' : mz_I} {L' : mz_L} {H1 : Heap} (hP : mz_Pic G T I L H) (hi0 : T.1[i]? = some (a, kd, N)) (hkd : kd ≠ 0) (he : mz_ent G (R' a) (I' a) (L' a) (kd, N) = e')
    (ho : ∀ b, b ≠ a → R' b = T.2 b ∧ I' b = I b ∧ L' b = L b) (q1 : va_P (mz_gD G) mz_cl ((mz_ws G T I L).set i (a, e')) H1) (q2 : va_D (mz_A G) ((mz_ws G T I L).set i (a, e'))) : mz_Pic G (T.1, R') I' L' H1 := by
  rw [mz_set hP.2.1 hi0 he ho] at q1 q2
  refine ⟨q1, q2, fun b c' hb j hj => ?_⟩
  by_cases hba : b = a
  · subst hba
    have := mz_uniq hP.2.1 hb (List.mem_of_getElem? hi0)
    exact absurd (congrArg Prod.fst this).symm hkd
  · rw [(ho b hba).2.1]
    exact hP.2.2 b c' hb j hj
def o_ias : mz_Op := fun _ pc lv st T I L n κ => match st with
  | .int x :: .int i :: .ref a :: r => mz_ix T 1 a i ∧ κ (pc + 1) lv r T (mz_u I a i.toNatClampNeg x) L n
  | _ => False
def o_cas : mz_Op := fun _ pc lv st T I L n κ => match st with
  | .int x :: .int i :: .ref a :: r => mz_ix T 5 a i ∧ κ (pc + 1) lv r T (mz_u I a i.toNatClampNeg (vp_nar .char x)) L n
  | _ => False
def o_zas : mz_Op := fun _ pc lv st T I L n κ => match st with
  | .int x :: .int i :: .ref a :: r => mz_ix T 4 a i ∧ κ (pc + 1) lv r T (mz_u I a i.toNatClampNeg (vp_nar .boolean x)) L n
  | _ => False
def o_las : mz_Op := fun _ pc lv st T I L n κ => match st with
  | .long x :: .int i :: .ref a :: r => mz_ix T 2 a i ∧ κ (pc + 1) lv r T I (mz_u L a i.toNatClampNeg x) n
  | _ => False
def o_das : mz_Op := fun _ pc lv st T I L n κ => match st with
  | .double x :: .int i :: .ref a :: r => mz_ix T 3 a i ∧ κ (pc + 1) lv r T I (mz_u L a i.toNatClampNeg x.toInt64) n
  | _ => False
/-- a game into a row of games -/
def o_aas : mz_Op := fun _ pc lv st T I L n κ => match st with
  | .ref x :: .int i :: .ref a :: r => mz_ix T 6 a i ∧ (x, 0, 4) ∈ T.1 ∧ κ (pc + 1) lv r (T.1, mz_u T.2 a i.toNatClampNeg (some x)) I L n
  | _ => False
theorem mz_u_upd {f : Nat → Nat → Int32} {a k : Nat} {x : Int32} : mz_u f a k x a = upd (f a) k x := by
  funext j
  simp [mz_u, upd]
theorem mz_u_updL {f : Nat → Nat → Int64} {a k : Nat} {x : Int64} : mz_u f a k x a = vp_updL (f a) k x := by
  funext j
  simp [mz_u, vp_updL]
theorem mz_u_updD {f : Nat → Nat → Int64} {a k : Nat} {x : UInt64} : (fun i => (mz_u f a k x.toInt64 a i).toUInt64) = vf_upd (fun i => (f a i).toUInt64) k x := by
  funext j
  by_cases h : j = k
  · subst h; simp [mz_u, vf_upd]
  · simp [mz_u, vf_upd, h]
theorem mz_u_updR {f : Nat → Nat → Option Nat} {a k x : Nat} : mz_u f a k (some x) a = va_up (f a) k (some x) := by
  funext j
  by_cases h : j = k
  · subst h; simp [mz_u, va_up]
  · simp [mz_u, va_up, h]
theorem ok_ias (hd : decode (mz_mb M) pc = .ok (.iastore, 1)) : mz_Seq M pc 1 o_ias := by
  intro G K X κ lv st T I L n ho hk hG p e s m args below meth c0 Q hC hE hX H locs ls hP hS hl9 h1 h2
  unfold o_ias at ho
  split at ho
  · rename_i x j a r
    obtain ⟨⟨N, hm, hin⟩, hκ⟩ := ho
    obtain ⟨i, hi0, hi⟩ := mz_at (G := G) (I := I) (L := L) hm
    refine va_iast hC.1 hC.2.1 hC.2.2.2.2.2.2.2.2.1.1 hP.1 hP.2.1 hS i 0 hi rfl hin hd (fun H1 locs1 q1 q2 q3 => ?_)
    exact mz_go (hk _ _ _ _ _ _ hκ) hG hC hE hX (mz_sta (s := s) (locs := locs) (R' := T.2) (I' := mz_u I a j.toNatClampNeg x) (L' := L) hP hi0 (by decide) (by rw [mz_u_upd]; rfl) (fun b hb => ⟨rfl, mz_u_ne hb, rfl⟩) q1 q2) q3 hl9 h1 h2
  · exact ho.elim
theorem ok_cas (hd : decode (mz_mb M) pc = .ok (.castore, 1)) : mz_Seq M pc 1 o_cas := by
  intro G K X κ lv st T I L n ho hk hG p e s m args below meth c0 Q hC hE hX H locs ls hP hS hl9 h1 h2
  unfold o_cas at ho
  split at ho
  · rename_i x j a r
    obtain ⟨⟨N, hm, hin⟩, hκ⟩ := ho
    obtain ⟨i, hi0, hi⟩ := mz_at (G := G) (I := I) (L := L) hm
    refine va_cast hC.1 hC.2.1 hC.2.2.2.2.2.2.2.2.1.1 hP.1 hP.2.1 hS i 4 hi rfl hin hd (fun H1 locs1 q1 q2 q3 => ?_)
    exact mz_go (hk _ _ _ _ _ _ hκ) hG hC hE hX (mz_sta (s := s) (locs := locs) (R' := T.2) (I' := mz_u I a j.toNatClampNeg (vp_nar .char x)) (L' := L) hP hi0 (by decide) (by rw [mz_u_upd]; rfl) (fun b hb => ⟨rfl, mz_u_ne hb, rfl⟩) q1 q2) q3 hl9 h1 h2
  · exact ho.elim
theorem ok_zas (hd : decode (mz_mb M) pc = .ok (.bastore, 1)) : mz_Seq M pc 1 o_zas := by
  intro G K X κ lv st T I L n ho hk hG p e s m args below meth c0 Q hC hE hX H locs ls hP hS hl9 h1 h2
  unfold o_zas at ho
  split at ho
  · rename_i x j a r
    obtain ⟨⟨N, hm, hin⟩, hκ⟩ := ho
    obtain ⟨i, hi0, hi⟩ := mz_at (G := G) (I := I) (L := L) hm
    refine va_zast hC.1 hC.2.1 hC.2.2.2.2.2.2.2.2.1.1 hP.1 hP.2.1 hS i 3 hi rfl hin hd (fun H1 locs1 q1 q2 q3 => ?_)
    exact mz_go (hk _ _ _ _ _ _ hκ) hG hC hE hX (mz_sta (s := s) (locs := locs) (R' := T.2) (I' := mz_u I a j.toNatClampNeg (vp_nar .boolean x)) (L' := L) hP hi0 (by decide) (by rw [mz_u_upd]; rfl) (fun b hb => ⟨rfl, mz_u_ne hb, rfl⟩) q1 q2) q3 hl9 h1 h2
  · exact ho.elim
theorem ok_las (hd : decode (mz_mb M) pc = .ok (.lastore, 1)) : mz_Seq M pc 1 o_las := by
  intro G K X κ lv st T I L n ho hk hG p e s m args below meth c0 Q hC hE hX H locs ls hP hS hl9 h1 h2
  unfold o_las at ho
  split at ho
  · rename_i x j a r
    obtain ⟨⟨N, hm, hin⟩, hκ⟩ := ho
    obtain ⟨i, hi0, hi⟩ := mz_at (G := G) (I := I) (L := L) hm
    refine va_last hC.1 hC.2.1 hC.2.2.2.2.2.2.2.2.1.1 hP.1 hP.2.1 hS i 1 hi rfl hin hd (fun H1 locs1 q1 q2 q3 => ?_)
    exact mz_go (hk _ _ _ _ _ _ hκ) hG hC hE hX (mz_sta (s := s) (locs := locs) (R' := T.2) (I' := I) (L' := mz_u L a j.toNatClampNeg x) hP hi0 (by decide) (by rw [mz_u_updL]; rfl) (fun b hb => ⟨rfl, rfl, mz_u_ne hb⟩) q1 q2) q3 hl9 h1 h2
  · exact ho.elim
theorem ok_das (hd : decode (mz_mb M) pc = .ok (.dastore, 1)) : mz_Seq M pc 1 o_das := by
  intro G K X κ lv st T I L n ho hk hG p e s m args below meth c0 Q hC hE hX H locs ls hP hS hl9 h1 h2
  unfold o_das at ho
  split at ho
  · rename_i x j a r
    obtain ⟨⟨N, hm, hin⟩, hκ⟩ := ho
    obtain ⟨i, hi0, hi⟩ := mz_at (G := G) (I := I) (L := L) hm
    refine va_dast hC.1 hC.2.1 hC.2.2.2.2.2.2.2.2.1.1 hP.1 hP.2.1 hS i 2 hi rfl hin hd (fun H1 locs1 q1 q2 q3 => ?_)
    refine mz_go (hk _ _ _ _ _ _ hκ) hG hC hE hX (mz_sta (s := s) (locs := locs) (R' := T.2) (I' := I) (L' := mz_u L a j.toNatClampNeg x.toInt64) hP hi0 (by decide) ?_ (fun b hb => ⟨rfl, rfl, mz_u_ne hb⟩) q1 q2) q3 hl9 h1 h2
    show (Sum.inl (mz_gc G 3, N, .inr (.inr (.inr (.inl (fun i => (mz_u L a j.toNatClampNeg x.toInt64 a i).toUInt64))))) : va_E) = _
    rw [mz_u_updD]
  · exact ho.elim
theorem ok_aas (hd : decode (mz_mb M) pc = .ok (.aastore, 1)) : mz_Seq M pc 1 o_aas := by
  intro G K X κ lv st T I L n ho hk hG p e s m args below meth c0 Q hC hE hX H locs ls hP hS hl9 h1 h2
  unfold o_aas at ho
  split at ho
  · rename_i x j a r
    obtain ⟨⟨N, hm, hin⟩, hx, hκ⟩ := ho
    obtain ⟨i, hi0, hi⟩ := mz_at (G := G) (I := I) (L := L) hm
    obtain ⟨i2, hi20, hi2⟩ := mz_at (G := G) (I := I) (L := L) hx
    refine va_astq hC.1 hC.2.1 hC.2.2.2.2.2.2.2.2.1.1 hP.1 hP.2.1 hS i 5 i2 4 hi rfl hi2 (r := (RX4, TX4, 9)) rfl hin hd (fun H1 locs1 q1 q2 q3 => ?_)
    exact mz_go (hk _ _ _ _ _ _ hκ) hG hC hE hX (mz_sta (s := s) (locs := locs) (R' := mz_u T.2 a j.toNatClampNeg (some x)) (I' := I) (L' := L) hP hi0 (by decide) (by rw [mz_u_updR]; rfl) (fun b hb => ⟨mz_u_ne hb, rfl, rfl⟩) q1 q2) q3 hl9 h1 h2
  · exact ho.elim
/-- System.arraycopy between rows of whole numbers -/
def mz_row {α : Type} (f : Nat → Nat → α) (a : Nat) (g : Nat → α) : Nat → Nat → α := fun b => if b = a then g else f b
theorem mz_row_eq {α : Type} {f : Nat → Nat → α} {a : Nat} {g : Nat → α} : mz_row f a g a = g := if_pos rfl
theorem mz_row_ne {α : Type} {f : Nat → Nat → α} {a b : Nat} {g : Nat → α} (h : b ≠ a) : mz_row f a g b = f b := if_neg h
def o_acp : mz_Op := fun _ pc lv st T I L n κ => match st with
  | .int z :: .int d :: .ref a1 :: .int s :: .ref a0 :: r => (¬ s < 0 ∧ ¬ d < 0 ∧ ¬ z < 0 ∧ ∃ n0 n1, (a0, 1, n0) ∈ T.1 ∧ (a1, 1, n1) ∈ T.1 ∧ s.toNatClampNeg + z.toNatClampNeg ≤ n0 ∧ d.toNatClampNeg + z.toNatClampNeg ≤ n1) ∧ r = [] ∧
      κ (pc + 3) lv r T (mz_row I a1 (va_cpy (I a0) (I a1) s.toNatClampNeg d.toNatClampNeg z.toNatClampNeg)) L n
  | _ => False
theorem ok_acp {idx : Nat} (hl : Cond.methodLink (mz_my M).cls idx arraycopyName ∈ mz_GW) (hn9 : Cond.native arraycopyName ∈ mz_GW) (hs9 : Cond.static arraycopyName ∈ mz_GW) (hi9 : Cond.initialized "java/lang/System" ∈ mz_GW) (hR : 1 ≤ (mz_mR M).frames ∧ nativeFrameWords "java/lang/System" "arraycopy" 5 + 11 ≤ (mz_mR M).locals) (hd : decode (mz_mb M) pc = .ok (.invokestatic idx, 3)) : mz_Seq M pc 3 o_acp := by
  intro G K X κ lv st T I L n ho hk hG p e s m args below meth c0 Q hC hE hX H locs ls hP hS hl9 h1 h2
  unfold o_acp at ho
  split at ho
  · rename_i z d a1 s0 a0 r
    obtain ⟨⟨e1, e2, e3, n0, n1, hm0, hm1, e4, e5⟩, rfl, hκ⟩ := ho
    obtain ⟨i0, -, hi0⟩ := mz_at (G := G) (I := I) (L := L) hm0
    obtain ⟨i1, hi10, hi1⟩ := mz_at (G := G) (I := I) (L := L) hm1
    refine va_copyi hC.1 hC.2.1 (by rw [hC.2.2.2.1, hl9.1]) hC.2.2.2.2.2.1 (hC.2.2.2.2.1 _ hl) (hC.2.2.2.2.1 _ hn9) (hC.2.2.2.2.1 _ hs9) (hC.2.2.2.2.1 _ hi9) hC.2.2.2.2.2.2.2.2.1.1 hP.1 hP.2.1 hS i0 i1 0 0 hi0 hi1 (ty := .int) rfl rfl rfl e1 e2 e3 e4 e5 (fun _ _ => rfl) hR.1 (by simpa using hR.2) hd (fun H1 locs1 q1 q2 q3 => ?_)
    exact mz_go (hk _ _ _ _ _ _ hκ) hG hC hE hX (mz_sta (s := s) (locs := locs) (R' := T.2) (I' := mz_row I a1 (va_cpy (I a0) (I a1) s0.toNatClampNeg d.toNatClampNeg z.toNatClampNeg)) (L' := L) hP hi10 (by decide) (by rw [mz_row_eq]; rfl) (fun b hb => ⟨rfl, mz_row_ne hb, rfl⟩) q1 q2) q3 hl9 h1 h2
  · exact ho.elim
/-- new objects and rows -/
def o_new (c N mc ms : Nat) : mz_Op := fun _ pc lv st T I L n κ => n.1 + 1 ≤ mc ∧ n.2 + N ≤ ms ∧ ∀ q, (∀ x ∈ T.1, x.1 ≠ q) → κ (pc + 3) lv (.ref q :: st) (T.1 ++ [(q, 0, c)], mz_z T.2 q none) (mz_z I q 0) (mz_z L q 0) (n.1 + 1, n.2 + N)
theorem ok_new {c N idx : Nat} {C : String} {Tc : u_T} {ty0 : Nat → FieldType} (hc : mz_Cl c C Tc N ty0) (hl : Cond.classLink (mz_my M).cls idx C ∈ mz_GW) (hi : Cond.instantiable C N ∈ mz_GW) (hn : Cond.initialized C ∈ mz_GW) (hd : decode (mz_mb M) pc = .ok (.new idx, 3)) : mz_Seq M pc 3 (o_new c N (mz_mR M).cells (mz_mR M).slots) := by
  intro G K X κ lv st T I L n ho hk hG p e s m args below meth c0 Q hC hE hX H locs ls hP hS hl9 h1 h2
  obtain ⟨e1, e2, ho⟩ := ho
  have hdef : ∀ j, j < N → defaultValue (ty0 j) = vp_V ((mz_tg c).mapIdx (fun k t => mz_fv (fun _ => none) (fun _ => 0) (fun _ => 0) k t)) j := by
    intro j hj
    have hj2 : j < (mz_tg c).length := by rw [hc.2.2.2.2.1]; exact hj
    have ht := List.getElem?_eq_getElem hj2
    have htt := hc.2.2.2.2.2 j _ ht
    unfold vp_V
    rw [List.getD_eq_getElem?_getD, mz_flds ht, Option.getD_some]
    generalize (mz_tg c)[j] = t at htt
    revert htt
    unfold mz_tt
    split <;> first | (rename_i hty; intro _; rw [hty]; rfl) | (intro h; cases h)
  refine va_new hC.1 hC.2.1 hC.2.2.2.2.1 hc.2.1 ty0 hc.2.2.1 hC.2.2.2.2.2.1 (hC.2.2.2.2.1 _ hl) (hC.2.2.2.2.1 _ hi) (hC.2.2.2.2.1 _ hn) hC.2.2.2.2.2.2.2.2.1.1 hP.1 hP.2.1 hS (fun q hq => Nat.le_trans hC.2.2.2.2.2.2.2.2.1.2.2.1 hq) hc.1 hdef e1 e2 hd (fun q H1 q1 q2 q3 => ?_)
  have hfr := mz_fresh q2
  have he : mz_ent G (mz_z T.2 q none q) (mz_z I q 0 q) (mz_z L q 0 q) (0, c) = .inr (c, (mz_tg c).mapIdx (fun k t => mz_fv (fun _ => none) (fun _ => 0) (fun _ => 0) k t)) := by
    have h1 : mz_z T.2 q none q = (fun _ => none) := funext fun j => mz_z_eq
    have h2 : mz_z I q 0 q = (fun _ => 0) := funext fun j => mz_z_eq
    have h3 : mz_z L q 0 q = (fun _ => 0) := funext fun j => mz_z_eq
    rw [h1, h2, h3]; rfl
  have hoth : ∀ b, b ≠ q → mz_z T.2 q none b = T.2 b ∧ mz_z I q 0 b = I b ∧ mz_z L q 0 b = L b := fun b hb => ⟨mz_z_ne hb, mz_z_ne hb, mz_z_ne hb⟩
  rw [mz_push hfr he hoth] at q1 q2
  refine mz_go (hk _ _ _ _ _ _ (ho q hfr)) hG hC hE hX ⟨q1, q2, fun b c' hb j hj => ?_⟩ q3 hl9 e1 e2
  by_cases hbq : b = q
  · subst hbq; left; exact mz_z_eq
  · rw [(hoth b hbq).2.1]
    refine hP.2.2 b c' ?_ j hj
    rcases List.mem_append.mp hb with h | h
    · exact h
    · simp at h; exact absurd h.1 hbq
def mz_aT : Nat → ArrayType
  | 1 => .int
  | 2 => .long
  | 3 => .double
  | 4 => .boolean
  | _ => .char
def o_nwa (kd N : Nat) (v : Int32) (mc ms : Nat) : mz_Op := fun _ pc lv st T I L n κ => match st with
  | .int x :: r => x = v ∧ n.1 + 1 ≤ mc ∧ n.2 + N ≤ ms ∧ ∀ q, (∀ y ∈ T.1, y.1 ≠ q) → κ (pc + 2) lv (.ref q :: r) (T.1 ++ [(q, kd, N)], mz_z T.2 q none) (mz_z I q 0) (mz_z L q 0) (n.1 + 1, n.2 + N)
  | _ => False
theorem mz_aTy {G : mz_G} {s : State} (hS : mz_S G s) {kd : Nat} (hkd : kd = 1 ∨ kd = 2 ∨ kd = 3 ∨ kd = 4 ∨ kd = 5) {cA : ClassId} {tys : List (ClassId × FieldType)} (h : va_K (mz_gD G) mz_cl (mz_ty G ++ [(cA, newarray.typeOf (mz_aT kd))]) s) : cA = mz_gc G kd := by
  have hlast := (h.2 6 (cA, newarray.typeOf (mz_aT kd)) rfl).2
  rcases hkd with rfl | rfl | rfl | rfl | rfl
  · have h0 : s.vm.findClass ("[" ++ (FieldType.int).toString) = some (mz_gc G 1) := (h.2 0 (mz_gc G 1, .int) rfl).2
    exact Option.some.inj ((show s.vm.findClass ("[" ++ (FieldType.int).toString) = some cA from hlast).symm.trans h0)
  · have h0 : s.vm.findClass ("[" ++ (FieldType.long).toString) = some (mz_gc G 2) := (h.2 1 (mz_gc G 2, .long) rfl).2
    exact Option.some.inj ((show s.vm.findClass ("[" ++ (FieldType.long).toString) = some cA from hlast).symm.trans h0)
  · have h0 : s.vm.findClass ("[" ++ (FieldType.double).toString) = some (mz_gc G 3) := (h.2 2 (mz_gc G 3, .double) rfl).2
    exact Option.some.inj ((show s.vm.findClass ("[" ++ (FieldType.double).toString) = some cA from hlast).symm.trans h0)
  · have h0 : s.vm.findClass ("[" ++ (FieldType.boolean).toString) = some (mz_gc G 4) := (h.2 3 (mz_gc G 4, .boolean) rfl).2
    exact Option.some.inj ((show s.vm.findClass ("[" ++ (FieldType.boolean).toString) = some cA from hlast).symm.trans h0)
  · have h0 : s.vm.findClass ("[" ++ (FieldType.char).toString) = some (mz_gc G 5) := (h.2 4 (mz_gc G 5, .char) rfl).2
    exact Option.some.inj ((show s.vm.findClass ("[" ++ (FieldType.char).toString) = some cA from hlast).symm.trans h0)
/-- the contents of a new row -/
def mz_a0 (kd N : Nat) : vp_A := match kd with
  | 1 => (N, .inl (fun _ => 0))
  | 2 => (N, .inr (.inl (fun _ => 0)))
  | 3 => (N, .inr (.inr (.inr (.inl (fun _ => 0)))))
  | _ => (N, .inl (fun _ => 0))
theorem ok_nwa {kd N : Nat} {v : Int32} (hkd : kd = 1 ∨ kd = 2 ∨ kd = 3 ∨ kd = 4 ∨ kd = 5) (hv : v.toNatClampNeg = N) (hv0 : ¬ v < 0) (hb : N * 8 ≤ 536870912) (ha : Cond.arrayClass (newarray.typeOf (mz_aT kd)) ∈ mz_GW) (hd : decode (mz_mb M) pc = .ok (.newarray (mz_aT kd), 2)) : mz_Seq M pc 2 (o_nwa kd N v (mz_mR M).cells (mz_mR M).slots) := by
  intro G K X κ lv st T I L n ho hk hG p e s m args below meth c0 Q hC hE hX H locs ls hP hS hl9 h1 h2
  unfold o_nwa at ho
  split at ho
  · rename_i x r
    obtain ⟨rfl, e1, e2, ho⟩ := ho
    have hcell : ∀ cA : ClassId, vp_cell cA (mz_a0 kd N) = arrV cA N (fun _ => defaultValue (newarray.typeOf (mz_aT kd))) := by
      rcases hkd with rfl | rfl | rfl | rfl | rfl <;> intro cA <;> rfl
    have hbytes : N * componentBytes (newarray.typeOf (mz_aT kd)) ≤ 536870912 := by
      refine Nat.le_trans (Nat.mul_le_mul_left N ?_) hb
      rcases hkd with rfl | rfl | rfl | rfl | rfl <;> decide
    refine va_newa hC.1 hC.2.1 (hC.2.2.2.2.1 _ ha) rfl hC.2.2.2.2.2.2.2.2.1.1 hP.1 hP.2.1 hS (fun q hq => Nat.le_trans hC.2.2.2.2.2.2.2.2.1.2.2.1 hq) hcell hv0 hv hbytes e1 e2 hd (fun q cA H1 qK q1 q2 q3 => ?_)
    have hcA := mz_aTy (tys := []) hC.2.2.2.2.2.2.2.2.1 hkd qK
    subst hcA
    have hfr := mz_fresh q2
    have he : mz_ent G (mz_z T.2 q none q) (mz_z I q 0 q) (mz_z L q 0 q) (kd, N) = .inl (mz_gc G kd, mz_a0 kd N) := by
      have h1 : mz_z T.2 q none q = (fun _ => none) := funext fun j => mz_z_eq
      have h2 : mz_z I q 0 q = (fun _ => 0) := funext fun j => mz_z_eq
      have h3 : mz_z L q 0 q = (fun _ => 0) := funext fun j => mz_z_eq
      rw [h1, h2, h3]
      rcases hkd with rfl | rfl | rfl | rfl | rfl <;> rfl
    have hoth : ∀ b, b ≠ q → mz_z T.2 q none b = T.2 b ∧ mz_z I q 0 b = I b ∧ mz_z L q 0 b = L b := fun b hb => ⟨mz_z_ne hb, mz_z_ne hb, mz_z_ne hb⟩
    rw [mz_push hfr he hoth] at q1 q2
    refine mz_go (hk _ _ _ _ _ _ (ho q hfr)) hG hC hE hX ⟨q1, q2, fun b c' hb j hj => ?_⟩ q3 hl9 e1 e2
    by_cases hbq : b = q
    · subst hbq; left; exact mz_z_eq
    · rw [(hoth b hbq).2.1]
      refine hP.2.2 b c' ?_ j hj
      rcases List.mem_append.mp hb with h | h
      · exact h
      · simp at h; exact absurd h.1 hbq
  · exact ho.elim
/-- ends -/
def o_ret : mz_Op := fun E _ _ st T I L _ _ => match st with
  | [] => E.2.1 none T I L
  | _ => False
def o_irt : mz_Op := fun E _ _ st T I L _ _ => match st with
  | [.int x] => E.2.1 (some (.int x)) T I L
  | _ => False
/-- of a boolean: 0 or 1 -/
def o_zrt : mz_Op := fun E _ _ st T I L _ _ => match st with
  | [.int x] => (x = 0 ∨ x = 1) ∧ E.2.1 (some (.int x)) T I L
  | _ => False
def o_lrt : mz_Op := fun E _ _ st T I L _ _ => match st with
  | [.long x] => E.2.1 (some (.long x)) T I L
  | _ => False
def o_drt : mz_Op := fun E _ _ st T I L _ _ => match st with
  | [.double x] => E.2.1 (some (.double x)) T I L
  | _ => False
def o_art : mz_Op := fun E _ _ st T I L _ _ => match st with
  | [.ref x] => E.2.1 (some (.ref x)) T I L
  | _ => False
theorem ok_ret (hd : decode (mz_mb M) pc = .ok (.return_, 1)) (hr : mz_mr M = none) : mz_Jmp M pc o_ret := by
  intro G K X κ lv st T I L n ho hk hG p e s m args below meth c0 Q hC hE hX H locs ls hP hS hl9 h1 h2
  unfold o_ret at ho
  split at ho
  · exact hE H locs pc ls none T I L n ho hP hS h1 h2 ⟨hd, hr⟩
  · exact ho.elim
theorem ok_irt (hd : decode (mz_mb M) pc = .ok (.ireturn, 1)) (hr : mz_mr M = some .int) : mz_Jmp M pc o_irt := by
  intro G K X κ lv st T I L n ho hk hG p e s m args below meth c0 Q hC hE hX H locs ls hP hS hl9 h1 h2
  unfold o_irt at ho
  split at ho
  · rename_i x
    exact hE H locs pc ls (some (.int x)) T I L n ho hP hS h1 h2 ⟨hd, _, hr, rfl⟩
  · exact ho.elim
theorem ok_zrt (hd : decode (mz_mb M) pc = .ok (.ireturn, 1)) (hr : mz_mr M = some .boolean) : mz_Jmp M pc o_zrt := by
  intro G K X κ lv st T I L n ho hk hG p e s m args below meth c0 Q hC hE hX H locs ls hP hS hl9 h1 h2
  unfold o_zrt at ho
  split at ho
  · rename_i x
    exact hE H locs pc ls (some (.int x)) T I L n ho.2 hP hS h1 h2 ⟨hd, _, hr, by rcases ho.1 with h | h <;> rw [h] <;> rfl⟩
  · exact ho.elim
theorem ok_lrt (hd : decode (mz_mb M) pc = .ok (.lreturn, 1)) (hr : mz_mr M = some .long) : mz_Jmp M pc o_lrt := by
  intro G K X κ lv st T I L n ho hk hG p e s m args below meth c0 Q hC hE hX H locs ls hP hS hl9 h1 h2
  unfold o_lrt at ho
  split at ho
  · rename_i x
    exact hE H locs pc ls (some (.long x)) T I L n ho hP hS h1 h2 ⟨hd, hr⟩
  · exact ho.elim
theorem ok_drt (hd : decode (mz_mb M) pc = .ok (.dreturn, 1)) (hr : mz_mr M = some .double) : mz_Jmp M pc o_drt := by
  intro G K X κ lv st T I L n ho hk hG p e s m args below meth c0 Q hC hE hX H locs ls hP hS hl9 h1 h2
  unfold o_drt at ho
  split at ho
  · rename_i x
    exact hE H locs pc ls (some (.double x)) T I L n ho hP hS h1 h2 ⟨hd, hr⟩
  · exact ho.elim
theorem ok_art {nm : String} (hd : decode (mz_mb M) pc = .ok (.areturn, 1)) (hr : mz_mr M = some (.object nm)) : mz_Jmp M pc o_art := by
  intro G K X κ lv st T I L n ho hk hG p e s m args below meth c0 Q hC hE hX H locs ls hP hS hl9 h1 h2
  unfold o_art at ho
  split at ho
  · rename_i x
    exact hE H locs pc ls (some (.ref x)) T I L n ho hP hS h1 h2 ⟨hd, _, hr⟩
  · exact ho.elim
/-- a throw of a new E: the method ends -/
def o_thr (E9 : String) (mc ms : Nat) : mz_Op := fun E _ _ st T I L n _ => st = [] ∧ n.1 + 1 ≤ mc ∧ n.2 + 6 ≤ ms ∧ E.2.2 E9 T I L
theorem ok_thr {E9 : String} (h : mz_Thr M pc E9) : mz_Jmp M pc (o_thr E9 (mz_mR M).cells (mz_mR M).slots) := by
  intro G K X κ lv st T I L n ho hk hG p e s m args below meth c0 Q hC hE hX H locs ls hP hS hl9 h1 h2
  obtain ⟨rfl, e1, e2, ho⟩ := ho
  exact hX.1 H locs pc ls E9 T I L n ho hP hS e1 e2 h hl9.1
end MZH
