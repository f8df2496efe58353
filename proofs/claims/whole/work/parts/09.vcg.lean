/-! from a walk to a contract; the walk by computing -/
section MZJ
variable {M : mz_M} {G : mz_G} {T : mz_T} {I : mz_I} {L : mz_L} {K : mz_K} {X : mz_X}
def mz_ar : List Value → List (Option Value)
  | [] => []
  | .long x :: vs => some (.long x) :: none :: mz_ar vs
  | .double x :: vs => some (.double x) :: none :: mz_ar vs
  | v :: vs => some v :: mz_ar vs
/-- the locals at a method's entry -/
def mz_lv0 (av : List Value) (n : Nat) : List (Option Value) := mz_ar av ++ List.replicate (n - (mz_ar av).length) none
theorem mz_ar_mem : ∀ (av : List Value) (j i : Nat) (v : Value), (mz_ar av)[i]? = some (some v) → (j + i, v) ∈ lv_args j av
  | [], _, _, _, h => by simp [mz_ar] at h
  | w :: vs, j, i, v, h => by
    have two : ∀ w : Value, w.category = 2 → (some w :: none :: mz_ar vs)[i]? = some (some v) → (j + i, v) ∈ lv_args j (w :: vs) := by
      intro w hw h
      unfold lv_args
      rw [if_pos hw]
      match i, h with
      | 0, h =>
        simp only [List.getElem?_cons_zero, Option.some.injEq] at h
        subst h
        exact List.mem_cons_self
      | 1, h => simp at h
      | i + 2, h =>
        simp only [List.getElem?_cons_succ] at h
        have := mz_ar_mem vs (j + 2) i v h
        rw [show j + 2 + i = j + (i + 2) by omega] at this
        exact List.mem_cons_of_mem _ this
    have one : ∀ w : Value, ¬ w.category = 2 → (some w :: mz_ar vs)[i]? = some (some v) → (j + i, v) ∈ lv_args j (w :: vs) := by
      intro w hw h
      unfold lv_args
      rw [if_neg hw]
      match i, h with
      | 0, h =>
        simp only [List.getElem?_cons_zero, Option.some.injEq] at h
        subst h
        exact List.mem_cons_self
      | i + 1, h =>
        simp only [List.getElem?_cons_succ] at h
        have := mz_ar_mem vs (j + 1) i v h
        rw [show j + 1 + i = j + (i + 1) by omega] at this
        exact List.mem_cons_of_mem _ this
    cases w with
    | long x => exact two _ rfl h
    | double x => exact two _ rfl h
    | int x => exact one _ (by show ¬ (1 : Nat) = 2; decide) h
    | float x => exact one _ (by show ¬ (1 : Nat) = 2; decide) h
    | ref x => exact one _ (by show ¬ (1 : Nat) = 2; decide) h
    | null => exact one _ (by show ¬ (1 : Nat) = 2; decide) h
    | retAddr x => exact one _ (by show ¬ (1 : Nat) = 2; decide) h
theorem mz_entry {av : List Value} {n : Nat} (h : (lg_sl av).length ≤ n) (h2 : (mz_ar av).length ≤ n) : mz_lv ((lg_sl av ++ List.replicate (n - (lg_sl av).length) Slot.unset).toArray) n (mz_lv0 av n) := by
  have hl := lv_entry av (n := n) h
  refine ⟨hl.1, hl.2.1, by simp [mz_lv0]; omega, fun i v hi => ?_⟩
  unfold mz_lv0 at hi
  rw [List.getElem?_append] at hi
  split at hi
  · have := mz_ar_mem av 0 i v hi
    rw [Nat.zero_add] at this
    exact hl.2.2 _ this
  · rw [List.getElem?_replicate] at hi
    split at hi <;> simp at hi
theorem mz_ends {p : Program} {e : Env} {s : State} {m : MethodId} {args : Array Value} {below : List Frame} {meth : Method} {c : Code} (hC : mz_Cx G M p s m args meth c) :
    mz_EndK G M p e s m args below meth c (MQ below (mz_Qc G K) args s (mz_mR M).cells (mz_mR M).slots (mz_A G)) K := by
  intro H locs pc ls v T I L n hK hP hS h1 h2 hr
  refine W.widen (k := (mz_mR M).cells) (n := (mz_mR M).slots) h1 h2 ?_
  have hq : ∀ t : State, t.heap = H → s.WarmedH t.vm → mz_Qc G K args s (.returned v) t := fun t ht hW => ⟨v, T, I, L, rfl, hK, by rw [ht]; exact hP, fun q hq => by rw [ht]; exact mz_old hC.2.2.2.2.2.2.2.2.1 hS hq, by rw [ht]; exact hS.1⟩
  unfold mz_Ret at hr
  split at hr
  · exact W.vret hC.1 hC.2.1 (hC.2.2.1.trans hr.2) hq hS.2.2 hr.1 hC.2.2.2.2.2.2.1
  · obtain ⟨hd, ty, hty, hn⟩ := hr
    exact W.zret hC.1 hC.2.1 (hC.2.2.1.trans hty) hn hq hS.2.2 hd hC.2.2.2.2.2.2.1
  · exact W.lret hC.1 hC.2.1 (hC.2.2.1.trans hr.2) hq hS.2.2 hr.1 hC.2.2.2.2.2.2.1
  · exact W.dret hC.1 hC.2.1 (hC.2.2.1.trans hr.2) hq hS.2.2 hr.1 hC.2.2.2.2.2.2.1
  · obtain ⟨hd, nm, hty⟩ := hr
    exact W.aret hC.1 hC.2.1 (hC.2.2.1.trans hty) (Or.inl ⟨_, rfl⟩) (Or.inr ⟨_, rfl⟩) hq hS.2.2 hd hC.2.2.2.2.2.2.1
  · exact hr.elim
theorem mz_Xno {p : Program} {e : Env} {s : State} {m : MethodId} {args : Array Value} {below : List Frame} {meth : Method} {c : Code} {Q : State → Prop} : mz_EndX G M p e s m args below meth c Q (fun _ _ _ _ => False) :=
  ⟨fun _ _ _ _ _ _ _ _ _ h => h.elim, fun _ _ _ _ _ _ _ _ _ _ _ _ h => h.elim⟩
/-- no throws -/
abbrev mz_nX : mz_X := fun _ _ _ _ => False
theorem mz_tab0 {p : Program} {S : Spec} {e : Env} {s s₁ : State} {m : MethodId} {args : Array Value} {below : List Frame} {meth : Method} {c : Code} (B : BodyLoose p (mz_gl G) (mz_my M) S (mz_mb M) (mz_mL M) (mz_mr M) e s m args below meth c s₁)
    (h : (Cond.code (mz_my M) (mz_mb M) (mz_mL M) (mz_mr M)).before args s = true) : c.exceptionTable.toList = [] := by
  obtain ⟨meth9, c9, h1, h2, -, -, -, -, h7, -⟩ := Cond.code_spec B.named h
  cases Option.some.inj (h1.symm.trans B.method)
  cases Option.some.inj (h2.symm.trans (Stand.of_body B).code)
  rw [Array.isEmpty_iff.mp h7]
/-- FROM A WALK TO A CONTRACT -/
theorem mz_of {av : List Value} (hp9 : plainFor (mz_my M) = true) (ht : mz_mt M = []) (hl1 : (lg_sl av).length ≤ mz_mL M) (hl2 : (mz_ar av).length ≤ mz_mL M) (h : mz_W G M K mz_nX 0 (mz_lv0 av (mz_mL M)) [] T I L (0, 0)) : mz_Ctr G M av T I L K := by
  intro hG
  refine MetFree.of_bodySF (code := mz_mb M) (maxLocals := mz_mL M) (ret := mz_mr M) hp9 ?_ ?_
  · intro args s m h hn
    obtain ⟨meth, c, h1, h2, h3, h4, h5, h6, -, -⟩ := Cond.code_spec hn (atoms_spec (ws := mz_w M) h _ List.mem_cons_self)
    exact ⟨meth, c, h1, h2, h3, h4, h5, h6⟩
  · intro p e s m args below meth c s₁ B hml hv _
    have hh0 : s₁.heap = s.heap := by rw [B.state]; rfl
    obtain ⟨rfl, hP, hSt⟩ := hv
    have hts := atoms_spec (ws := mz_w M) B.pre
    have hC : mz_Cx G M p s m av.toArray meth c := ⟨B.exec, B.bytes, B.returns, hml, fun w hw => hts w (List.mem_cons_of_mem _ hw), findClass_of_methodNamed B.named, B.notSynchronized, (name_of_methodNamed B.named B.method).1, hSt, by rw [ht]; exact mz_tab0 B (hts _ List.mem_cons_self)⟩
    have hW := h hG p e s m av.toArray below meth c _ hC (mz_ends hC) mz_Xno s.heap [] _ hP va_S.rf (mz_entry hl1 hl2) (Nat.zero_le _) (Nat.zero_le _)
    rw [← lg_entry_eq] at hW
    obtain ⟨t, a1, o, b1, b2, b3⟩ := hW s₁ hh0 (Stand.of_body B)
    exact ⟨t, o, a1, b1, b2, ⟨b3.1, b3.2⟩⟩
/-- the same, the locals written out -/
theorem mz_ofl {av : List Value} {n : Nat} (hk : mz_Mk M n) (ht : mz_mt M = []) (hl1 : (lg_sl av).length ≤ mz_mL M) (hl2 : (mz_ar av).length ≤ mz_mL M) (lv : List (Option Value)) (hlv : mz_lv0 av (mz_mL M) = lv) (h : mz_W G M K mz_nX 0 lv [] T I L (0, 0)) : mz_Ctr G M av T I L K :=
  mz_of hk.2.2.2 ht hl1 hl2 (by rw [hlv]; exact h)
/-- the same of a method that may throw -/
theorem mz_ofX {av : List Value} (hp9 : plainName (mz_my M).cls = true) (ht : mz_mt M = []) (hl1 : (lg_sl av).length ≤ mz_mL M) (hl2 : (mz_ar av).length ≤ mz_mL M) (h : mz_W G M K X 0 (mz_lv0 av (mz_mL M)) [] T I L (0, 0)) : mz_CtrX G M av T I L K X := by
  intro hG
  refine vx_ofW (cc := mz_mb M) (maxL := mz_mL M) (ret := mz_mr M) hp9 rfl ?_
  intro p e s m args below meth c s₁ B hml htab hv
  obtain ⟨rfl, hP, hSt⟩ := hv
  have hts := atoms_spec (ws := mz_w M) B.pre
  have hC : mz_Cx G M p s m av.toArray meth c := ⟨B.exec, B.bytes, B.returns, hml, fun w hw => hts w (List.mem_cons_of_mem _ hw), findClass_of_methodNamed B.named, B.notSynchronized, (name_of_methodNamed B.named B.method).1, hSt, by rw [ht]; exact mz_tab0 B (hts _ List.mem_cons_self)⟩
  rw [lg_entry_eq]
  refine h hG p e s m av.toArray below meth c _ hC (fun H locs pc ls v T I L n q1 q2 q3 q4 q5 q6 => vx_ret (mz_ends hC H locs pc ls v T I L n q1 q2 q3 q4 q5 q6)) ⟨?_, ?_⟩ s.heap [] _ hP va_S.rf (mz_entry hl1 hl2) (Nat.zero_le _) (Nat.zero_le _)
  · intro H locs pc ls E T I L n hX hP hS h1 h2 hthr hsz
    obtain ⟨ik, is, ic, text, names, wide, ix, rx, ⟨x0, x1, x2, x5⟩, hcls, htx, hfit, hnames, hw1, hw2, hw, d0, d3, dd, hfr, hlo, htb⟩ := hthr
    have hat : ∀ w ∈ zx_atS RX11 ic E ix rx names, vx_ot w = true ∧ w.before av.toArray s = true := by
      intro w hw9
      obtain ⟨q1, q2⟩ := List.mem_filter.mp hw9
      obtain ⟨q3, q4⟩ := hw w q1 q2
      refine ⟨q3, ?_⟩
      rcases q4 with q4 | ⟨q4, q5⟩
      · exact hC.2.2.2.2.1 _ q4
      · unfold mz_cd at q5
        split at q5
        · exact va_Nw.use rfl (va_Nw.warmC hSt.2.2.2 (mz_nw hG q4 rfl))
        · exact va_Nw.use rfl (va_Nw.warmD hSt.2.2.2 (mz_nw hG q4 rfl))
        · cases q5
    have hgd : ∀ w ∈ Cond.classLink RX11 ik E :: Cond.initialized E :: zx_atS RX11 ic E ix rx names, vx_ot w = true := by
      intro w hw9
      rcases List.mem_cons.mp hw9 with rfl | hw9
      · rfl
      · rcases List.mem_cons.mp hw9 with rfl | hw9
        · rfl
        · exact (hat w hw9).1
    obtain ⟨sa, hsa⟩ := hG.2.2.2.2.2.1 _ htx
    have hA9 : ∀ a : Nat, a < (mz_gs G).heap.size → ¬ mz_A G a → s.heap[a]? = (mz_gs G).heap[a]? := fun a ha _ => hSt.2.1 a ha
    have hU := vx_Zq.moved hSt.2.2.2.alike (vx_Zq.kept hG.2.2.2.1 hA9)
    have hN := vx_Zq.moved hSt.2.2.2.alike (vx_Zq.kept hG.2.2.2.2.1 hA9)
    have hown : s.vm.findClass RX11 = some m.cls := by rw [← hcls]; exact hC.2.2.2.2.2.1
    have hstr : vk_R RX11 is text sa s := vk_R.warm hSt.2.2.2 hsa
    have hx : ∀ t : State, s.vm.Alike t.vm → H.size ≤ t.heap.size → (∀ q : Nat, q < H.size → t.heap[q]? = H[q]?) → mz_Xc G X E s t := by
      intro t hA hle hk
      refine ⟨T, I, L, hX, ⟨hP.1.kept (fun k q hq => hk q.1 ((hP.1 k q hq).lt)), hP.2⟩, fun q hq => ?_, Nat.le_trans hS.1 hle⟩
      rw [hk q (Nat.lt_of_lt_of_le hq (Nat.le_trans hSt.2.2.1 hS.1))]
      exact mz_old hSt hS hq
    have hout : ∀ z : Nat, ∀ x ∈ c.exceptionTable.toList, covers x z = false := fun z x hx => (htab x hx).elim
    have fin : ∀ (z : Nat), decode (mz_mb M) z = .ok (.athrow, 1) → ∀ (q : Nat) (H1 : Heap) (ce : Cell), H1[q]? = some ce → ce.vm = .none → s.vm.findClass E = some ce.cls → H.size ≤ H1.size → (∀ q, q < H.size → H1[q]? = H[q]?) → va_S (mz_A G) s.heap H1 locs →
        W p (mz_gl G) e (mz_mR M) s m av.toArray below meth c H1 locs (n.1 + 1) (n.2 + 6) (vx_MQ below (mz_Qc G K) (mz_Xc G X) av.toArray s (mz_mR M).cells (mz_mR M).slots (mz_A G)) (F0 m z ls [.ref q]) := by
      intro z hz q H1 ce q1 q2 q3 q4 q5 q6
      refine vx_athrow hC.1 hC.2.1 hz ?_
      exact vx_out (hout z) hC.2.2.2.2.2.2.1 q1 q2 q3 (fun t ht hA => hx t hA (by rw [ht]; exact q4) (fun q hq => by rw [ht]; exact q5 q hq)) q6.2.2 h1 h2
    have hA : ∀ q, s.heap.size ≤ q → mz_A G q := fun q hq => Nat.le_trans hSt.2.2.1 hq
    cases wide with
    | true => exact zx_throwW hC.1 hC.2.1 hG.1 x0 x1 x2 x5 hown hfit hnames (hC.2.2.2.2.1 _ hw1) (hC.2.2.2.2.1 _ hw2) hstr (fun w hw9 => (hat w hw9).2) hgd hU hN hS (hsz.trans hC.2.2.2.1.symm) d0 d3 dd.1 dd.2.1 hA hfr (by simpa using hlo) h1 h2 (fin _ dd.2.2)
    | false => exact zx_throwS hC.1 hC.2.1 hG.1 x0 x1 x2 x5 hown hfit hnames (hC.2.2.2.2.1 _ hw1) (hC.2.2.2.2.1 _ hw2) hstr (fun w hw9 => (hat w hw9).2) hgd hU hN hS (hsz.trans hC.2.2.2.1.symm) d0 d3 dd.1 dd.2.1 hA hfr (by simpa using hlo) h1 h2 (fin _ dd.2.2)
  · intro H locs pc ls E q ce rest T I L n hX hP hS h1 h2 htb hce hvm hcl
    refine vx_out (fun x hx => (htab x hx).elim) hC.2.2.2.2.2.2.1 hce hvm hcl (fun t ht hA => ⟨T, I, L, hX, by rw [ht]; exact hP, fun q hq => by rw [ht]; exact mz_old hSt hS hq, by rw [ht]; exact hS.1⟩) hS.2.2 h1 h2
/-- the same of a method with handlers -/
theorem mz_ofH {av : List Value} (hp9 : plainName (mz_my M).cls = true) (hl1 : (lg_sl av).length ≤ mz_mL M) (hl2 : (mz_ar av).length ≤ mz_mL M) (h : mz_W G M K mz_nX 0 (mz_lv0 av (mz_mL M)) [] T I L (0, 0)) : mz_CtrW G M av T I L K := by
  intro hG
  refine MetFree.of_bodyS (code := mz_mb M) (maxLocals := mz_mL M) (ret := mz_mr M) hp9 ?_ ?_
  · intro args s m h hn
    obtain ⟨m9, meth, c, hn9, h1, h2, h3, h4, -, h5, h6, -⟩ := Cond.codeWith_spec (atoms_spec (ws := mz_wW M) h _ List.mem_cons_self)
    cases hn.symm.trans hn9
    exact ⟨meth, c, h1, h2, h3, h4, h5, h6⟩
  · intro p e s m args below meth c s₁ B hml hv _
    have hh0 : s₁.heap = s.heap := by rw [B.state]; rfl
    obtain ⟨rfl, hP, hSt⟩ := hv
    have hts := atoms_spec (ws := mz_wW M) B.pre
    have hC : mz_Cx G M p s m av.toArray meth c := ⟨B.exec, B.bytes, B.returns, hml, fun w hw => hts w (List.mem_cons_of_mem _ hw), findClass_of_methodNamed B.named, B.notSynchronized, (name_of_methodNamed B.named B.method).1, hSt, vx_table (x := mz_my M) B (hts _ List.mem_cons_self)⟩
    have hW := h hG p e s m av.toArray below meth c _ hC (mz_ends hC) mz_Xno s.heap [] _ hP va_S.rf (mz_entry hl1 hl2) (Nat.zero_le _) (Nat.zero_le _)
    rw [← lg_entry_eq] at hW
    obtain ⟨t, a1, o, b1, b2, b3⟩ := hW s₁ hh0 (Stand.of_body B)
    exact ⟨t, o, a1, b1, b2, ⟨b3.1, b3.2⟩⟩
/-! the walk by computing -/
def mz_mem (x : Nat) : List Nat → Bool
  | [] => false
  | y :: r => Nat.beq x y || mz_mem x r
/-- up to f blocks, not beyond the heads 'stops' -/
def mz_vk (cd : Nat → List mz_Op) (stops : List Nat) (E : mz_E) (w : mz_k) : List Unit → mz_k
  | [] => w
  | _ :: f => fun pc lv st T I L n => match mz_mem pc stops with
    | true => w pc lv st T I L n
    | false => mz_run (cd pc) E (mz_vk cd stops E w f) pc lv st T I L n
theorem mz_vk0 {cd stops E w pc lv st T I L n} : mz_vk cd stops E w [] pc lv st T I L n = w pc lv st T I L n := rfl
theorem mz_vkc {cd stops E w u f pc lv st T I L n} : mz_vk cd stops E w (u :: f) pc lv st T I L n = match mz_mem pc stops with
    | true => w pc lv st T I L n
    | false => mz_run (cd pc) E (mz_vk cd stops E w f) pc lv st T I L n := rfl
def mz_cdOK (M : mz_M) (cd : Nat → List mz_Op) : Prop := ∀ pc, mz_Blk M pc (cd pc)
theorem mz_vk_of {cd : Nat → List mz_Op} (h : mz_cdOK M cd) {stops : List Nat} : ∀ f pc lv st T I L n, mz_vk cd stops (G, K, X) (mz_W G M K X) f pc lv st T I L n → mz_W G M K X pc lv st T I L n
  | [], _, _, _, _, _, _, _, h9 => h9
  | _ :: f, pc, lv, st, T, I, L, n, h9 => by
    rw [mz_vkc] at h9
    split at h9
    · exact h9
    · exact h pc G K X _ lv st T I L n h9 (fun pc' lv' st' T' I' L' n' hk => mz_vk_of h f pc' lv' st' T' I' L' n' hk)
/-- a walk from a head: its own block is entered, up to the next heads -/
theorem mz_vc {cd : Nat → List mz_Op} (h : mz_cdOK M cd) (stops : List Nat) (f : List Unit) {pc : Nat} {lv : List (Option Value)} {st : List Value} {n : mz_N} (h9 : mz_run (cd pc) (G, K, X) (mz_vk cd stops (G, K, X) (mz_W G M K X) f) pc lv st T I L n) : mz_W G M K X pc lv st T I L n :=
  h pc G K X _ lv st T I L n h9 (fun pc' lv' st' T' I' L' n' hk => mz_vk_of h f pc' lv' st' T' I' L' n' hk)
/-- less known of the locals -/
def mz_le (lv' lv : List (Option Value)) : Bool := match lv', lv with
  | [], [] => true
  | none :: a, _ :: b => mz_le a b
  | some _ :: a, some _ :: b => mz_le a b
  | _, _ => false
def mz_sub (lv' lv : List (Option Value)) : Prop := ∀ (i : Nat) (v : Value), lv'[i]? = some (some v) → lv[i]? = some (some v)
theorem mz_forget {pc : Nat} {lv lv' : List (Option Value)} {st : List Value} {n : mz_N} (h : mz_W G M K X pc lv' st T I L n) (hlen : lv'.length = lv.length) (hle : mz_sub lv' lv) : mz_W G M K X pc lv st T I L n :=
  fun hG p e s m args below meth c Q hC hE hX H locs ls hP hS hl h1 h2 => h hG p e s m args below meth c Q hC hE hX H locs ls hP hS ⟨hl.1, hl.2.1, hlen.trans hl.2.2.1, fun i v hi => hl.2.2.2 i v (hle i v hi)⟩ h1 h2
theorem mz_fg_n {a : Option Value} {l l' : List (Option Value)} (h : mz_sub l' l) : mz_sub (none :: l') (a :: l) := by
  intro i v hi
  cases i with
  | zero => simp at hi
  | succ i => exact h i v hi
theorem mz_fg_s {a : Option Value} {l l' : List (Option Value)} (h : mz_sub l' l) : mz_sub (a :: l') (a :: l) := by
  intro i v hi
  cases i with
  | zero => exact hi
  | succ i => exact h i v hi
theorem mz_fg_0 : mz_sub [] [] := fun _ _ h => h
/-- booleans are 0 or 1: to be used anywhere in a walk -/
theorem mz_bool {pc : Nat} {lv : List (Option Value)} {st : List Value} {n : mz_N} (h : mz_B T I → mz_W G M K X pc lv st T I L n) : mz_W G M K X pc lv st T I L n :=
  fun hG p e s m args below meth c Q hC hE hX H locs ls hP => h hP.2.2 hG p e s m args below meth c Q hC hE hX H locs ls hP
/-- the addresses are apart: to be used anywhere in a walk -/
theorem mz_apart {pc : Nat} {lv : List (Option Value)} {st : List Value} {n : mz_N} (h : (∀ a x y, (a, x) ∈ T.1 → (a, y) ∈ T.1 → x = y) → mz_W G M K X pc lv st T I L n) : mz_W G M K X pc lv st T I L n :=
  fun hG p e s m args below meth c Q hC hE hX H locs ls hP => h (fun _ _ _ h1 h2 => mz_uniq hP.2.1 h1 h2) hG p e s m args below meth c Q hC hE hX H locs ls hP
theorem mz_bif {pc j : Nat} {a b : List mz_Op} (h1 : mz_Blk M pc a) (h2 : mz_Blk M pc b) : mz_Blk M pc (if pc < j then a else b) := by
  split
  · exact h1
  · exact h2
def o_bad : mz_Op := fun _ _ _ _ _ _ _ _ _ => False
theorem mz_ble {pc j : Nat} {a : List mz_Op} (h : mz_Blk M j a) : mz_Blk M pc (if pc = j then a else [o_bad]) := by
  split
  · rename_i e; rw [e]; exact h
  · exact fun _ _ _ _ _ _ _ _ _ _ h9 => h9.elim
end MZJ
section MZM
variable {M : mz_M} {pc : Nat}
/-- a new row of games -/
def o_nwq (N : Nat) (v : Int32) (mc ms : Nat) : mz_Op := fun _ pc lv st T I L n κ => match st with
  | .int x :: r => x = v ∧ n.1 + 1 ≤ mc ∧ n.2 + N ≤ ms ∧ ∀ q, (∀ y ∈ T.1, y.1 ≠ q) → κ (pc + 3) lv (.ref q :: r) (T.1 ++ [(q, 6, N)], mz_z T.2 q none) (mz_z I q 0) (mz_z L q 0) (n.1 + 1, n.2 + N)
  | _ => False
theorem ok_nwq {N idx : Nat} {v : Int32} (hv : v.toNatClampNeg = N) (hv0 : ¬ v < 0) (hb : N * 4 ≤ 536870912) (hl : Cond.classLink (mz_my M).cls idx "FallingBlocks$Game" ∈ mz_GW) (hd : decode (mz_mb M) pc = .ok (.anewarray idx, 3)) : mz_Seq M pc 3 (o_nwq N v (mz_mR M).cells (mz_mR M).slots) := by
  intro G K X κ lv st T I L n ho hk hG p e s m args below meth c0 Q hC hE hX H locs ls hP hS hl9 h1 h2
  unfold o_nwq at ho
  split at ho
  · rename_i x r
    obtain ⟨rfl, e1, e2, ho⟩ := ho
    have hAO : va_AO "FallingBlocks$Game" s := va_AO.moved hC.2.2.2.2.2.2.2.2.1.2.2.2.alike hG.2.2.2.2.2.2.2.2.1
    refine va_newq hC.1 hC.2.1 hC.2.2.2.2.2.1 (hC.2.2.2.2.1 _ hl) hAO hC.2.2.2.2.2.2.2.2.1.1 hP.1 hP.2.1 hS (fun q hq => Nat.le_trans hC.2.2.2.2.2.2.2.2.1.2.2.1 hq) hv0 hv hb e1 e2 hd (fun q cA H1 qK q1 q2 q3 => ?_)
    have hcA : cA = mz_gc G 6 := by
      obtain ⟨k1, c1, -, -, -, g1⟩ := (qK.2 6 (cA, .object "FallingBlocks$Game") rfl).2
      obtain ⟨k2, c2, -, -, -, g2⟩ := (qK.2 5 (mz_gc G 6, .object "FallingBlocks$Game") rfl).2
      exact Option.some.inj (g1.symm.trans g2)
    subst hcA
    have hfr := mz_fresh q2
    have he : mz_ent G (mz_z T.2 q none q) (mz_z I q 0 q) (mz_z L q 0 q) (6, N) = .inl (mz_gc G 6, N, .inr (.inr (.inr (.inr (fun _ => none))))) := by
      have h1 : mz_z T.2 q none q = (fun _ => none) := funext fun j => mz_z_eq
      rw [h1]; rfl
    have hoth : ∀ b, b ≠ q → mz_z T.2 q none b = T.2 b ∧ mz_z I q 0 b = I b ∧ mz_z L q 0 b = L b := fun b hb => ⟨mz_z_ne hb, mz_z_ne hb, mz_z_ne hb⟩
    rw [mz_push hfr he hoth] at q1 q2
    refine mz_go (hk _ _ _ _ _ _ (ho q hfr)) hG hC hE hX ⟨q1, q2, fun b c' hb j hj => ?_⟩ q3 hl9 e1 e2
    by_cases hbq : b = q
    · subst hbq; left; exact mz_z_eq
    · rw [(hoth b hbq).2.1]
      refine hP.2.2 b c' ?_ j hj
      rcases List.mem_append.mp hb with h | h
      · exact h
      · exact absurd (congrArg Prod.fst (List.mem_singleton.mp h)) hbq
  · exact ho.elim
/-! names of the operations, as the code's tables have them -/
abbrev o_iadd : mz_Op := o_i2 (fun x y => x + y)
abbrev o_isub : mz_Op := o_i2 (fun x y => x - y)
abbrev o_imul : mz_Op := o_i2 (fun x y => x * y)
abbrev o_idiv : mz_Op := o_i2z (fun x y => x / y)
abbrev o_irem : mz_Op := o_i2z (fun x y => x - x / y * y)
abbrev o_iand : mz_Op := o_i2 (fun x y => x &&& y)
abbrev o_ior : mz_Op := o_i2 (fun x y => x ||| y)
abbrev o_ixor : mz_Op := o_i2 (fun x y => x ^^^ y)
abbrev o_ishl : mz_Op := o_i2 (fun x y => x <<< (y &&& 31))
abbrev o_ishr : mz_Op := o_i2 (fun x y => x >>> (y &&& 31))
abbrev o_iushr : mz_Op := o_i2 (fun x y => (x.toUInt32 >>> (y.toUInt32 &&& Int32.toUInt32 31)).toInt32)
abbrev o_ineg : mz_Op := o_i1 (fun x => -x)
abbrev o_i2c : mz_Op := o_i1 (fun x => (x.toUInt32 % 65536).toInt32)
abbrev o_ladd : mz_Op := o_l2 (fun x y => x + y)
abbrev o_lmul : mz_Op := o_l2 (fun x y => x * y)
abbrev o_land : mz_Op := o_l2 (fun x y => x &&& y)
abbrev o_ldiv : mz_Op := o_l2z (fun x y => x / y)
abbrev o_lrem : mz_Op := o_l2z (fun x y => x - x / y * y)
abbrev o_lshl : mz_Op := o_lsh (fun x y => x <<< (y.toInt64 &&& 63))
abbrev o_lshr : mz_Op := o_lsh (fun x y => x >>> (y.toInt64 &&& 63))
abbrev o_ifeq (t : Nat) : mz_Op := o_if (fun x => x = 0) t
abbrev o_ifne (t : Nat) : mz_Op := o_if (fun x => ¬ x = 0) t
abbrev o_iflt (t : Nat) : mz_Op := o_if (fun x => x < 0) t
abbrev o_ifge (t : Nat) : mz_Op := o_if (fun x => 0 ≤ x) t
abbrev o_ifgt (t : Nat) : mz_Op := o_if (fun x => 0 < x) t
abbrev o_ifle (t : Nat) : mz_Op := o_if (fun x => x ≤ 0) t
abbrev o_iceq (t : Nat) : mz_Op := o_ic (fun x y => x = y) t
abbrev o_icne (t : Nat) : mz_Op := o_ic (fun x y => ¬ x = y) t
abbrev o_iclt (t : Nat) : mz_Op := o_ic (fun x y => x < y) t
abbrev o_icge (t : Nat) : mz_Op := o_ic (fun x y => y ≤ x) t
abbrev o_icgt (t : Nat) : mz_Op := o_ic (fun x y => y < x) t
abbrev o_icle (t : Nat) : mz_Op := o_ic (fun x y => x ≤ y) t
end MZM
