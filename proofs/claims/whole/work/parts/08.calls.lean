/-! calls; from a walk to a contract -/
section MZI
variable {M : mz_M} {pc : Nat}
theorem mz_goodIn {l : List Cond} (h : ∀ w ∈ l, w ∈ mz_GW) : GoodIn mz_GW l := fun w hw => ⟨h w hw, good_of_word (mz_good w (h w hw))⟩
theorem mz_S_calling {G : mz_G} {U : State} {g : JFrame} {mk : MethodId} {a : Array Value} (h : mz_S G U) : mz_S G (U.calling g mk a) := ⟨va_K.moved (u := U) (U := U.calling g mk a) (Vm.Alike.refl U.vm) h.1, h.2.1, h.2.2.1, h.2.2.2⟩
theorem mz_blind {G : mz_G} {av : List Value} {T : mz_T} {I : mz_I} {L : mz_L} : FrameBlind (mz_Pc G av T I L) := fun _ _ _ _ q => ⟨q.1, q.2.1, mz_S_calling q.2.2⟩
theorem mz_S_warm {G : mz_G} {s U : State} {H : Heap} {locs : List Loc} (h : mz_S G s) (hS : va_S (mz_A G) s.heap H locs) (hU : U.heap = H) (hW : s.WarmedH U.vm) : mz_S G U :=
  ⟨va_K.moved hW.alike h.1, fun q hq => by rw [hU]; exact mz_old h hS hq, by rw [hU]; exact Nat.le_trans h.2.2.1 hS.1, State.WarmedH.trans h.2.2.2 hW⟩
/-- what is decided of a method that is called: by its name, with n arguments (its receiver apart) -/
def mz_Mk (M' : mz_M) (n : Nat) : Prop := Cond.code (mz_my M') (mz_mb M') (mz_mL M') (mz_mr M') ∈ mz_GW ∧ Cond.initialized (mz_my M').cls ∈ mz_GW ∧ ((mz_my M').cls ≠ "java/lang/invoke/MethodHandle" ∧ (mz_my M').cls ≠ "java/lang/invoke/VarHandle" ∧ (parseMethodDescriptor (mz_my M').desc).map (fun d => d.parameters.length) = some n) ∧ plainFor (mz_my M') = true
def mz_MkW (M' : mz_M) (n : Nat) : Prop := Cond.codeWith (mz_my M') (mz_mb M') (mz_mL M') (mz_mr M') (mz_mt M') ∈ mz_GW ∧ Cond.initialized (mz_my M').cls ∈ mz_GW ∧ ((mz_my M').cls ≠ "java/lang/invoke/MethodHandle" ∧ (mz_my M').cls ≠ "java/lang/invoke/VarHandle" ∧ (parseMethodDescriptor (mz_my M').desc).map (fun d => d.parameters.length) = some n) ∧ plainFor (mz_my M') = true
/-- the callee's room fits -/
def mz_fit (M M' : mz_M) : Prop := (mz_mR M').frames + 1 ≤ (mz_mR M).frames ∧ 8 + (mz_mL M' + 11) + (mz_mR M').locals ≤ (mz_mR M).locals
theorem mz_back {G : mz_G} {M' : mz_M} {p : Program} {e : Env} {s : State} {m : MethodId} {args : Array Value} {below : List Frame} {meth : Method} {c0 : Code} {Q : State → Prop} {H : Heap} {locs : List Loc} {ls : Array Slot} {n : mz_N} {st0 rest : List Value} {K : mz_K} {a : Array Value}
    (hC : mz_Cx G M p s m args meth c0) (hS : va_S (mz_A G) s.heap H locs) (hr : va_Run p (mz_gl G) e (mz_mR M) s m args below meth c0 H locs n.1 n.2 (mz_mR M').cells (mz_mR M').slots (F0 m pc ls st0) rest (mz_Qc G K a) (mz_A G))
    (κ : ∀ v T I L H1 locs1, K v T I L → mz_Pic G T I L H1 → va_S (mz_A G) s.heap H1 locs1 → W p (mz_gl G) e (mz_mR M) s m args below meth c0 H1 locs1 (n.1 + (mz_mR M').cells) (n.2 + (mz_mR M').slots) Q (F0 m (pc + 3) ls (v.toList ++ rest))) :
    W p (mz_gl G) e (mz_mR M) s m args below meth c0 H locs n.1 n.2 Q (F0 m pc ls st0) := by
  intro T hT X
  obtain ⟨v, st₀, t, T', L9, h0, X', hL, e1, e2, ⟨v', T9, I9, L8, hv, hK, hP, hSt, hsz⟩, st⟩ := hr T hT X
  cases hv
  rw [h0] at hsz
  have hS1 : va_S (mz_A G) s.heap T'.heap (locs ++ L9) := by
    refine ⟨Nat.le_trans hS.1 (by rw [e1]; exact hsz), fun q h1 h2 => ?_, fun q hq => ?_⟩
    · have hq : q < (mz_gs G).heap.size := Nat.not_le.mp h2
      rw [e1, hSt q hq, hC.2.2.2.2.2.2.2.2.1.2.1 q hq]
    · rcases List.mem_append.mp hq with h | h
      · exact hS.2.2 q h
      · exact hL q h
  obtain ⟨t2, a1, b1⟩ := κ v T9 I9 L8 T'.heap (locs ++ L9) hK (by rw [e1]; exact hP) hS1 T' rfl X'
  exact ⟨t2, st t2 a1, b1⟩
theorem mz_backX {G : mz_G} {M' : mz_M} {p : Program} {e : Env} {s : State} {m : MethodId} {args : Array Value} {below : List Frame} {meth : Method} {c0 : Code} {Q : State → Prop} {H : Heap} {locs : List Loc} {ls : Array Slot} {n : mz_N} {st0 rest : List Value} {K : mz_K} {X9 : mz_X} {a : Array Value}
    (hC : mz_Cx G M p s m args meth c0) (hS : va_S (mz_A G) s.heap H locs) (hr : vx_Run p (mz_gl G) e (mz_mR M) s m args below meth c0 H locs n.1 n.2 (mz_mR M').cells (mz_mR M').slots (F0 m pc ls st0) rest (mz_Qc G K a) (mz_Xc G X9) (mz_A G))
    (κ : ∀ v T I L H1 locs1, K v T I L → mz_Pic G T I L H1 → va_S (mz_A G) s.heap H1 locs1 → W p (mz_gl G) e (mz_mR M) s m args below meth c0 H1 locs1 (n.1 + (mz_mR M').cells) (n.2 + (mz_mR M').slots) Q (F0 m (pc + 3) ls (v.toList ++ rest)))
    (κX : ∀ E q ce T I L H1 locs1, X9 E T I L → mz_Pic G T I L H1 → va_S (mz_A G) s.heap H1 locs1 → H1[q]? = some ce → ce.vm = .none → s.vm.findClass E = some ce.cls → vx_W p (mz_gl G) e (mz_mR M) s m args below meth c0 H1 locs1 (n.1 + (mz_mR M').cells) (n.2 + (mz_mR M').slots) Q (F0 m pc ls rest) q) :
    W p (mz_gl G) e (mz_mR M) s m args below meth c0 H locs n.1 n.2 Q (F0 m pc ls st0) := by
  have hS1 : ∀ {T' t : State} {L9 : List Loc} {st₀ : State}, T'.heap = t.heap → mz_O G t → H.size ≤ t.heap.size → (∀ q ∈ L9, mz_A G q.base) → va_S (mz_A G) s.heap T'.heap (locs ++ L9) := by
    intro T' t L9 st₀ e1 hSt hsz hL
    refine ⟨Nat.le_trans hS.1 (by rw [e1]; exact hsz), fun q h1 h2 => ?_, fun q hq => ?_⟩
    · have hq : q < (mz_gs G).heap.size := Nat.not_le.mp h2
      rw [e1, hSt q hq, hC.2.2.2.2.2.2.2.2.1.2.1 q hq]
    · rcases List.mem_append.mp hq with h | h
      · exact hS.2.2 q h
      · exact hL q h
  intro T hT X
  rcases hr T hT X with ⟨v, st₀, t, T', L9, h0, X', hL, e1, e2, ⟨v', T9, I9, L8, hv, hK, hP, hSt, hsz⟩, st⟩ | ⟨q, st₀, t, T', L9, E, ce, h0, X', hL, e1, e2, ⟨T9, I9, L8, hK, hP, hSt, hsz⟩, hce, hvm, hcl, st⟩
  · cases hv
    rw [h0] at hsz
    obtain ⟨t2, a1, b1⟩ := κ v T9 I9 L8 T'.heap (locs ++ L9) hK (by rw [e1]; exact hP) (hS1 (st₀ := st₀) e1 hSt hsz hL) T' rfl X'
    exact ⟨t2, st t2 a1, b1⟩
  · rw [h0] at hsz
    obtain ⟨t2, a1, b1⟩ := κX E q ce T9 I9 L8 T'.heap (locs ++ L9) hK (by rw [e1]; exact hP) (hS1 (st₀ := st₀) e1 hSt hsz hL) (by rw [e1]; exact hce) hvm hcl T' rfl X'
    exact ⟨t2, st.trans a1, b1⟩
def mz_rc (c : Nat) (av : List Value) (T : mz_T) : Prop := match av with
  | .ref b :: _ => (b, 0, c) ∈ T.1
  | _ => False
theorem mz_split {st : List Value} {n : Nat} {b : Nat} {As : List Value} (h : (st.take n).reverse = .ref b :: As) : st = As.reverse ++ .ref b :: st.drop n := by
  have h1 : st.take n = As.reverse ++ [.ref b] := by
    have := congrArg List.reverse h
    simpa using this
  calc st = st.take n ++ st.drop n := (List.take_append_drop n st).symm
    _ = _ := by rw [h1]; simp
theorem mz_cat_le {r st : List Value} {m : MethodId} {pc : Nat} {ls : Array Slot} (h : r.length ≤ 4) : 2 * (F0 m pc ls st).monitorRoom + (r.map fun v => v.category).sum ≤ 8 := by
  have hm : ∀ r : List Value, (r.map fun v => v.category).sum ≤ 2 * r.length := by
    intro r
    induction r with
    | nil => simp
    | cons v r ih =>
      have hv : v.category ≤ 2 := by cases v <;> first | exact Nat.le_refl 2 | exact Nat.le_succ 1
      simp only [List.map_cons, List.sum_cons, List.length_cons]
      omega
  have h0 : (F0 m pc ls st).monitorRoom = 0 := rfl
  rw [h0]
  have := hm r
  omega
/-- a virtual call of M' on an object of class c, with n arguments and the receiver -/
def o_cV (M' : mz_M) (c n : Nat) : mz_Op := fun E pc lv st T I L nn κ => mz_rc c (st.take (n + 1)).reverse T ∧ n + 1 ≤ st.length ∧ (st.drop (n + 1)).length ≤ 4 ∧ mz_Ctr E.1 M' (st.take (n + 1)).reverse T I L (mz_kc κ pc lv (st.drop (n + 1)) nn)
theorem ok_cV {M' : mz_M} {c n idx N : Nat} {C : String} {Tc : u_T} {ty0 : Nat → FieldType} (hc : mz_Cl c C Tc N ty0) (hy : (mz_my M').cls = C) (hk : mz_Mk M' n) (hin : Cond.instanceMethod (mz_my M') ∈ mz_GW) (hse : Cond.selects C (mz_my M') (mz_my M') ∈ mz_GW) (hl : Cond.methodLink (mz_my M).cls idx (mz_my M') ∈ mz_GW) (hf : mz_fit M M') (h0 : (mz_mR M').cells = 0 ∧ (mz_mR M').slots = 0) (hd : decode (mz_mb M) pc = .ok (.invokevirtual idx, 3)) : mz_Seq M pc 3 (o_cV M' c n) := by
  intro G K X κ lv st T I L nn ho hk9 hG p e s m args below meth c0 Q hC hE hX H locs ls hP hS hl9 h1 h2
  obtain ⟨hrc, hlen, hcat, hM⟩ := ho
  unfold mz_rc at hrc
  split at hrc
  · rename_i b As hav
    rw [hav] at hM
    obtain ⟨i, -, hi⟩ := mz_at (G := G) (I := I) (L := L) hrc
    have hAs : As.length = n := by
      have := congrArg List.length hav
      simp at this
      omega
    have hst := mz_split hav
    have hgi : GoodIn mz_GW (wsV (mz_my M).cls idx C (mz_my M') (mz_w M')) := mz_goodIn fun w hw => by
      simp only [wsV, List.cons_append, List.nil_append, List.mem_cons] at hw
      rcases hw with rfl | rfl | rfl | rfl | rfl | hw
      · exact hl
      · exact hin
      · exact hse
      · rw [← hy]; exact hk.2.1
      · exact hk.1
      · exact hw
    have hrun := va_runV (g := F0 m pc ls st) (As := As) (rest := st.drop (n + 1)) (H := H) (locs := locs) (cells := nn.1) (slots := nn.2) (C := C) (b := b) (l := mz_gl G) (e := e) (below := below) (meth := meth) ⟨hC.1, hC.2.1, hC.2.2.2.1, hC.2.2.2.2.2.1, hC.2.2.2.2.1⟩ (hM hG) (cwV n hC.2.2.2.2.1 hgi rfl rfl rfl ⟨hy, hk.2.2.1⟩ hf)
      ⟨mz_blind, va_recv hC.2.2.2.2.2.2.2.2.1.1 hP.1 hc.1 hi, fun U hU hW => ⟨rfl, by rw [hU]; exact hP, mz_S_warm hC.2.2.2.2.2.2.2.2.1 hS hU hW⟩⟩ rfl hAs (hl9.1) hst (mz_cat_le hcat) hd (by rw [h0.1, h0.2]; exact ⟨h1, h2⟩)
    refine mz_back hC hS hrun (fun v T' I' L' H1 locs1 q1 q2 q3 => ?_)
    rw [h0.1, h0.2]
    exact mz_go (hk9 _ _ _ _ _ _ q1) hG hC hE hX q2 q3 hl9 h1 h2
  · exact hrc.elim
/-- a static call -/
def o_cS (M' : mz_M) (n : Nat) : mz_Op := fun E pc lv st T I L nn κ => n ≤ st.length ∧ (st.drop n).length ≤ 4 ∧ mz_Ctr E.1 M' (st.take n).reverse T I L (mz_kc κ pc lv (st.drop n) nn)
theorem ok_cS {M' : mz_M} {n idx : Nat} (hk : mz_Mk M' n) (hst9 : Cond.static (mz_my M') ∈ mz_GW) (hl : Cond.methodLink (mz_my M).cls idx (mz_my M') ∈ mz_GW) (hf : mz_fit M M') (h0 : (mz_mR M').cells = 0 ∧ (mz_mR M').slots = 0) (hd : decode (mz_mb M) pc = .ok (.invokestatic idx, 3)) : mz_Seq M pc 3 (o_cS M' n) := by
  intro G K X κ lv st T I L nn ho hk9 hG p e s m args below meth c0 Q hC hE hX H locs ls hP hS hl9 h1 h2
  obtain ⟨hlen, hcat, hM⟩ := ho
  have hst : st = (st.take n).reverse.reverse ++ st.drop n := by rw [List.reverse_reverse, List.take_append_drop]
  have hAs : (st.take n).reverse.length = n := by simp; omega
  generalize (st.take n).reverse = As at hM hst hAs
  have hgi : GoodIn mz_GW (va_wsS (mz_my M).cls idx (mz_my M') (mz_w M')) := mz_goodIn fun w hw => by
    simp only [va_wsS, List.cons_append, List.nil_append, List.mem_cons] at hw
    rcases hw with rfl | rfl | rfl | rfl | hw
    · exact hl
    · exact hst9
    · exact hk.2.1
    · exact hk.1
    · exact hw
  have hrun := va_runS (g := F0 m pc ls st) (As := As) (rest := st.drop n) (H := H) (locs := locs) (cells := nn.1) (slots := nn.2) (l := mz_gl G) (e := e) (below := below) (meth := meth) ⟨hC.1, hC.2.1, hC.2.2.2.1, hC.2.2.2.2.2.1, hC.2.2.2.2.1⟩ (hM hG) (va_cwS n hC.2.2.2.2.1 hgi rfl rfl rfl hk.2.2.1 hf)
    ⟨mz_blind, fun U hU hW => ⟨rfl, by rw [hU]; exact hP, mz_S_warm hC.2.2.2.2.2.2.2.2.1 hS hU hW⟩⟩ rfl hAs (hl9.1) hst (mz_cat_le hcat) hd (by rw [h0.1, h0.2]; exact ⟨h1, h2⟩)
  refine mz_back hC hS hrun (fun v T' I' L' H1 locs1 q1 q2 q3 => ?_)
  rw [h0.1, h0.2]
  exact mz_go (hk9 _ _ _ _ _ _ q1) hG hC hE hX q2 q3 hl9 h1 h2
/-- a constructor's call; it may make ca cells of sa slots -/
def o_cI (M' : mz_M) (n ca sa mc ms : Nat) : mz_Op := fun E pc lv st T I L nn κ => n + 1 ≤ st.length ∧ (st.drop (n + 1)).length ≤ 4 ∧ nn.1 + ca ≤ mc ∧ nn.2 + sa ≤ ms ∧ (∃ b As, (st.take (n + 1)).reverse = .ref b :: As) ∧ mz_Ctr E.1 M' (st.take (n + 1)).reverse T I L (mz_kc κ pc lv (st.drop (n + 1)) (nn.1 + ca, nn.2 + sa))
theorem ok_cI {M' : mz_M} {n idx ca sa : Nat} (hk : mz_Mk M' n) (hret : mz_mr M' = none) (hnm : (mz_my M').name = "<init>") (hin : Cond.instanceMethod (mz_my M') ∈ mz_GW) (hl : Cond.methodLink (mz_my M).cls idx (mz_my M') ∈ mz_GW ∨ ∃ host, Cond.methodLinkNest (mz_my M).cls idx (mz_my M') host ∈ lw_tbl) (hf : mz_fit M M') (h0 : (mz_mR M').cells = ca ∧ (mz_mR M').slots = sa) (hd : decode (mz_mb M) pc = .ok (.invokespecial idx, 3)) : mz_Seq M pc 3 (o_cI M' n ca sa (mz_mR M).cells (mz_mR M).slots) := by
  intro G K X κ lv st T I L nn ho hk9 hG p e s m args below meth c0 Q hC hE hX H locs ls hP hS hl9 h1 h2
  obtain ⟨hlen, hcat, e1, e2, ⟨b, As, hav⟩, hM⟩ := ho
  rw [hav] at hM
  have hAs : As.length = n := by
    have := congrArg List.length hav
    simp at this
    omega
  have hst := mz_split hav
  have hgi : GoodIn mz_GW (mz_w M') := mz_goodIn fun w hw => by
    rcases List.mem_cons.mp hw with rfl | hw
    · exact hk.1
    · exact hw
  have hw : mz_w M' = Cond.code (mz_my M') (mz_mb M') (mz_mL M') none :: mz_GW := by unfold mz_w; rw [hret]
  have fin : va_Run p (mz_gl G) e (mz_mR M) s m args below meth c0 H locs nn.1 nn.2 (mz_mR M').cells (mz_mR M').slots (F0 m pc ls st) (st.drop (n + 1)) (mz_Qc G (mz_kc κ pc lv (st.drop (n + 1)) (nn.1 + ca, nn.2 + sa)) (Value.ref b :: As).toArray) (mz_A G) := by
    rcases hl with hl | ⟨host, hl⟩
    · exact va_runI (g := F0 m pc ls st) (As := As) (b := b) (rest := st.drop (n + 1)) ⟨hC.1, hC.2.1, hC.2.2.2.1, hC.2.2.2.2.2.1, hC.2.2.2.2.1⟩ (hM hG) (cwI n hC.2.2.2.2.1 hgi hw rfl rfl (hC.2.2.2.2.1 _ hk.2.1) (hC.2.2.2.2.1 _ hl) (hC.2.2.2.2.1 _ hin) hnm hk.2.2.1 hf)
        ⟨mz_blind, fun U hU hW => ⟨rfl, by rw [hU]; exact hP, mz_S_warm hC.2.2.2.2.2.2.2.2.1 hS hU hW⟩⟩ rfl hAs (hl9.1) hst (mz_cat_le hcat) hd (by rw [h0.1, h0.2]; exact ⟨e1, e2⟩)
    · exact va_runIN (g := F0 m pc ls st) (As := As) (b := b) (rest := st.drop (n + 1)) (host := host) ⟨hC.1, hC.2.1, hC.2.2.2.1, hC.2.2.2.2.2.1, hC.2.2.2.2.1⟩ (hM hG) ⟨va_cnB n hC.2.2.2.2.1 hgi hw rfl rfl (va_Nw.warmM hC.2.2.2.2.2.2.2.2.1.2.2.2 (mz_nw hG hl rfl)) (hC.2.2.2.2.1 _ hk.2.1) hk.2.2.1 hf, hnm, hC.2.2.2.2.1 _ hin⟩
        ⟨mz_blind, fun U hU hW => ⟨rfl, by rw [hU]; exact hP, mz_S_warm hC.2.2.2.2.2.2.2.2.1 hS hU hW⟩⟩ rfl hAs (hl9.1) hst (mz_cat_le hcat) hd (by rw [h0.1, h0.2]; exact ⟨e1, e2⟩)
  refine mz_back (M' := M') hC hS fin (fun v T' I' L' H1 locs1 q1 q2 q3 => ?_)
  rw [h0.1, h0.2]
  exact mz_go (n := (nn.1 + ca, nn.2 + sa)) (hk9 _ _ _ _ _ _ q1) hG hC hE hX q2 q3 hl9 e1 e2
/-- Object's constructor -/
def o_oi : mz_Op := fun _ pc lv st T I L n κ => match st with
  | .ref _ :: r => r.length ≤ 4 ∧ κ (pc + 3) lv r T I L n
  | _ => False
theorem ok_oi {idx : Nat} (hl : Cond.methodLink (mz_my M).cls idx Lib.objectInit ∈ mz_GW) (hin : Cond.instanceMethod Lib.objectInit ∈ mz_GW) (hco : Cond.code Lib.objectInit ⟨#[0xb1]⟩ 1 none ∈ mz_GW) (hR : 1 ≤ (mz_mR M).frames ∧ 20 ≤ (mz_mR M).locals) (hd : decode (mz_mb M) pc = .ok (.invokespecial idx, 3)) : mz_Seq M pc 3 o_oi := by
  intro G K X κ lv st T I L nn ho hk9 hG p e s m args below meth c0 Q hC hE hX H locs ls hP hS hl9 h1 h2
  unfold o_oi at ho
  split at ho
  · rename_i a r
    refine W.objInit hC.1 hC.2.1 hC.2.2.2.2.2.1 (hC.2.2.2.2.1 _ hl) (hC.2.2.2.2.1 _ hin) (hC.2.2.2.2.1 _ hco) rfl (by rw [hC.2.2.2.1]; exact hl9.1) rfl hd hR.1 ?_ ?_
    · have h9 := mz_cat_le (m := m) (pc := pc) (ls := ls) (st := .ref a :: r) ho.1
      have hR2 := hR.2
      omega
    · exact W.eq (g2 := F0 m (pc + 3) ls r) rfl (mz_go (hk9 _ _ _ _ _ _ ho.2) hG hC hE hX hP hS hl9 h1 h2)
  · exact ho.elim
/-- a virtual call that may throw; its throws leave this method too -/
def o_cX (M' : mz_M) (c n ca sa mc ms : Nat) : mz_Op := fun E pc lv st T I L nn κ => mz_rc c (st.take (n + 1)).reverse T ∧ n + 1 ≤ st.length ∧ (st.drop (n + 1)).length ≤ 4 ∧ nn.1 + ca ≤ mc ∧ nn.2 + sa ≤ ms ∧
  mz_CtrX E.1 M' (st.take (n + 1)).reverse T I L (mz_kc κ pc lv (st.drop (n + 1)) (nn.1 + ca, nn.2 + sa)) E.2.2
theorem mz_runX {G : mz_G} {M' : mz_M} {p : Program} {e : Env} {s : State} {m : MethodId} {args : Array Value} {below : List Frame} {meth : Method} {c0 : Code} {H : Heap} {locs : List Loc} {ls : Array Slot} {nn : mz_N} {st : List Value} {K : mz_K} {X9 : mz_X} {lv : List (Option Value)} {T : mz_T} {I : mz_I} {L : mz_L}
    {c n idx ca sa N : Nat} {C : String} {Tc : u_T} {ty0 : Nat → FieldType} (hG : mz_OK G) (hC : mz_Cx G M p s m args meth c0) (hP : mz_Pic G T I L H) (hS : va_S (mz_A G) s.heap H locs) (hl9 : mz_lv ls (mz_mL M) lv)
    (hc : mz_Cl c C Tc N ty0) (hy : (mz_my M').cls = C) (hk : mz_Mk M' n) (hin : Cond.instanceMethod (mz_my M') ∈ mz_GW) (hse : Cond.selects C (mz_my M') (mz_my M') ∈ mz_GW) (hl : Cond.methodLink (mz_my M).cls idx (mz_my M') ∈ mz_GW) (hf : mz_fit M M') (h0 : (mz_mR M').cells = ca ∧ (mz_mR M').slots = sa) (hd : decode (mz_mb M) pc = .ok (.invokevirtual idx, 3))
    (hrc : mz_rc c (st.take (n + 1)).reverse T) (hlen : n + 1 ≤ st.length) (hcat : (st.drop (n + 1)).length ≤ 4) (e1 : nn.1 + ca ≤ (mz_mR M).cells) (e2 : nn.2 + sa ≤ (mz_mR M).slots) (hM : mz_CtrX G M' (st.take (n + 1)).reverse T I L K X9) :
    vx_Run p (mz_gl G) e (mz_mR M) s m args below meth c0 H locs nn.1 nn.2 (mz_mR M').cells (mz_mR M').slots (F0 m pc ls st) (st.drop (n + 1)) (mz_Qc G K (st.take (n + 1)).reverse.toArray) (mz_Xc G X9) (mz_A G) := by
  unfold mz_rc at hrc
  split at hrc
  · rename_i b As hav
    rw [hav] at hM ⊢
    obtain ⟨i, -, hi⟩ := mz_at (G := G) (I := I) (L := L) hrc
    have hAs : As.length = n := by
      have := congrArg List.length hav
      simp at this
      omega
    have hst := mz_split hav
    have hgi : GoodIn mz_GW (wsV (mz_my M).cls idx C (mz_my M') (mz_w M')) := mz_goodIn fun w hw => by
      simp only [wsV, List.cons_append, List.nil_append, List.mem_cons] at hw
      rcases hw with rfl | rfl | rfl | rfl | rfl | hw
      · exact hl
      · exact hin
      · exact hse
      · rw [← hy]; exact hk.2.1
      · exact hk.1
      · exact hw
    exact vx_runV (g := F0 m pc ls st) (As := As) (rest := st.drop (n + 1)) (C := C) (b := b) ⟨hC.1, hC.2.1, hC.2.2.2.1, hC.2.2.2.2.2.1, hC.2.2.2.2.1⟩ (hM hG) (cwV n hC.2.2.2.2.1 hgi rfl rfl rfl ⟨hy, hk.2.2.1⟩ hf)
      ⟨mz_blind, va_recv hC.2.2.2.2.2.2.2.2.1.1 hP.1 hc.1 hi, fun U hU hW => ⟨rfl, by rw [hU]; exact hP, mz_S_warm hC.2.2.2.2.2.2.2.2.1 hS hU hW⟩⟩ rfl hAs (hl9.1) hst (mz_cat_le hcat) hd (by rw [h0.1, h0.2]; exact ⟨e1, e2⟩)
  · exact hrc.elim
theorem ok_cX {M' : mz_M} {c n idx ca sa N : Nat} {C : String} {Tc : u_T} {ty0 : Nat → FieldType} (hc : mz_Cl c C Tc N ty0) (hy : (mz_my M').cls = C) (hk : mz_Mk M' n) (hin : Cond.instanceMethod (mz_my M') ∈ mz_GW) (hse : Cond.selects C (mz_my M') (mz_my M') ∈ mz_GW) (hl : Cond.methodLink (mz_my M).cls idx (mz_my M') ∈ mz_GW) (hf : mz_fit M M') (h0 : (mz_mR M').cells = ca ∧ (mz_mR M').slots = sa) (htab : mz_mt M = []) (hd : decode (mz_mb M) pc = .ok (.invokevirtual idx, 3)) : mz_Seq M pc 3 (o_cX M' c n ca sa (mz_mR M).cells (mz_mR M).slots) := by
  intro G K X κ lv st T I L nn ho hk9 hG p e s m args below meth c0 Q hC hE hX H locs ls hP hS hl9 h1 h2
  obtain ⟨hrc, hlen, hcat, e1, e2, hM⟩ := ho
  have hrun := mz_runX (nn := nn) (e := e) (below := below) hG hC hP hS hl9 hc hy hk hin hse hl hf h0 hd hrc hlen hcat e1 e2 hM
  refine mz_backX (M' := M') hC hS hrun (fun v T' I' L' H1 locs1 q1 q2 q3 => ?_) (fun E9 q ce T' I' L' H1 locs1 q1 q2 q3 q4 q5 q6 => ?_)
  · rw [h0.1, h0.2]
    exact mz_go (n := (nn.1 + ca, nn.2 + sa)) (hk9 _ _ _ _ _ _ q1) hG hC hE hX q2 q3 hl9 e1 e2
  · rw [h0.1, h0.2]
    exact hX.2 H1 locs1 pc ls E9 q ce _ T' I' L' (nn.1 + ca, nn.2 + sa) q1 q2 q3 e1 e2 htab q4 q5 q6
/-- handlers by the names of their classes -/
def mz_hd (hs : List (String × Nat)) (E9 : String) (k : Nat → Prop) : Prop := match hs with
  | [] => False
  | q :: r => (E9 = q.1 → k q.2) ∧ (¬ E9 = q.1 → mz_hd r E9 k)
def mz_hl (hs : List (String × Nat)) (E9 : String) : Option Nat := match hs with
  | [] => none
  | q :: r => if E9 = q.1 then some q.2 else mz_hl r E9
theorem mz_hd_of {E9 : String} {k : Nat → Prop} : ∀ (hs : List (String × Nat)), mz_hd hs E9 k → ∃ h, mz_hl hs E9 = some h ∧ k h
  | [], h => h.elim
  | q :: r, h => by
    unfold mz_hl
    split
    · rename_i e; exact ⟨q.2, rfl, h.1 e⟩
    · rename_i e; exact mz_hd_of r (h.2 e)
/-- at pc the handlers of M are these -/
def mz_Hs (M : mz_M) (pc : Nat) (hs : List (String × Nat)) : Prop := ∀ E9 h, mz_hl hs E9 = some h → ∃ pre x suf, tableOf (mz_mt M) = pre ++ x :: suf ∧ covers x pc = true ∧ x.catchType ≠ 0 ∧ x.handlerPc = h ∧ Cond.classLink (mz_my M).cls x.catchType E9 ∈ mz_GW ∧ Cond.castable E9 E9 ∈ lw_tbl ∧
  ∀ z ∈ pre, z.catchType ≠ 0 ∧ ∃ nm, Cond.classLink (mz_my M).cls z.catchType nm ∈ mz_GW ∧ (E9, nm) ∈ mz_nc
/-- a virtual call whose throws are caught here -/
def o_cH (M' : mz_M) (c n ca sa mc ms : Nat) (hs : List (String × Nat)) : mz_Op := fun E pc lv st T I L nn κ => mz_rc c (st.take (n + 1)).reverse T ∧ n + 1 ≤ st.length ∧ (st.drop (n + 1)).length ≤ 4 ∧ nn.1 + ca ≤ mc ∧ nn.2 + sa ≤ ms ∧
  mz_CtrX E.1 M' (st.take (n + 1)).reverse T I L (mz_kc κ pc lv (st.drop (n + 1)) (nn.1 + ca, nn.2 + sa)) (fun E9 T' I' L' => mz_hd hs E9 (fun h => ∀ q, κ h lv [.ref q] T' I' L' (nn.1 + ca, nn.2 + sa)))
theorem ok_cH {M' : mz_M} {c n idx ca sa N : Nat} {C : String} {Tc : u_T} {ty0 : Nat → FieldType} {hs : List (String × Nat)} (hc : mz_Cl c C Tc N ty0) (hy : (mz_my M').cls = C) (hk : mz_Mk M' n) (hin : Cond.instanceMethod (mz_my M') ∈ mz_GW) (hse : Cond.selects C (mz_my M') (mz_my M') ∈ mz_GW) (hl : Cond.methodLink (mz_my M).cls idx (mz_my M') ∈ mz_GW) (hf : mz_fit M M') (h0 : (mz_mR M').cells = ca ∧ (mz_mR M').slots = sa) (hh : mz_Hs M pc hs) (hd : decode (mz_mb M) pc = .ok (.invokevirtual idx, 3)) : mz_Jmp M pc (o_cH M' c n ca sa (mz_mR M).cells (mz_mR M).slots hs) := by
  intro G K X κ lv st T I L nn ho hk9 hG p e s m args below meth c0 Q hC hE hX H locs ls hP hS hl9 h1 h2
  obtain ⟨hrc, hlen, hcat, e1, e2, hM⟩ := ho
  have hrun := mz_runX (nn := nn) (e := e) (below := below) hG hC hP hS hl9 hc hy hk hin hse hl hf h0 hd hrc hlen hcat e1 e2 hM
  refine mz_backX (M' := M') hC hS hrun (fun v T' I' L' H1 locs1 q1 q2 q3 => ?_) (fun E9 q ce T' I' L' H1 locs1 q1 q2 q3 q4 q5 q6 => ?_)
  · rw [h0.1, h0.2]
    exact mz_go (n := (nn.1 + ca, nn.2 + sa)) (hk9 _ _ _ _ _ _ _ q1) hG hC hE hX q2 q3 hl9 e1 e2
  · rw [h0.1, h0.2]
    obtain ⟨h, hh1, hh2⟩ := mz_hd_of hs q1
    obtain ⟨pre, x, suf, hsp, hcov, hx0, hxh, hln, hca, hpre⟩ := hh E9 h hh1
    refine vx_catch hC.2.2.2.2.2.1 pre x suf (by rw [hC.2.2.2.2.2.2.2.2.2]; exact hsp) (fun z hz => ?_) hcov hx0 (hC.2.2.2.2.1 _ hln) (va_Nw.use rfl (va_Nw.warmC hC.2.2.2.2.2.2.2.2.1.2.2.2 (mz_nw hG hca rfl))) q4 q5 q6 ?_
    · obtain ⟨z0, nm, w1, w2⟩ := hpre z hz
      exact Or.inr ⟨z0, nm, hC.2.2.2.2.1 _ w1, va_Nc.moved hC.2.2.2.2.2.2.2.2.1.2.2.2.alike (hG.2.2.2.2.2.2.2.1 _ w2)⟩
    · rw [hxh]
      exact mz_go (n := (nn.1 + ca, nn.2 + sa)) (hk9 _ _ _ _ _ _ _ (hh2 q)) hG hC hE hX q2 q3 hl9 e1 e2
/-- a static call of a method with handlers -/
def o_cW (M' : mz_M) (n ca sa mc ms : Nat) : mz_Op := fun E pc lv st T I L nn κ => n ≤ st.length ∧ (st.drop n).length ≤ 4 ∧ nn.1 + ca ≤ mc ∧ nn.2 + sa ≤ ms ∧ mz_CtrW E.1 M' (st.take n).reverse T I L (mz_kc κ pc lv (st.drop n) (nn.1 + ca, nn.2 + sa))
theorem ok_cW {M' : mz_M} {n idx ca sa : Nat} (hk : mz_MkW M' n) (hst9 : Cond.static (mz_my M') ∈ mz_GW) (hl : Cond.methodLink (mz_my M).cls idx (mz_my M') ∈ mz_GW) (hf : mz_fit M M') (h0 : (mz_mR M').cells = ca ∧ (mz_mR M').slots = sa) (hd : decode (mz_mb M) pc = .ok (.invokestatic idx, 3)) : mz_Seq M pc 3 (o_cW M' n ca sa (mz_mR M).cells (mz_mR M).slots) := by
  intro G K X κ lv st T I L nn ho hk9 hG p e s m args below meth c0 Q hC hE hX H locs ls hP hS hl9 h1 h2
  obtain ⟨hlen, hcat, e1, e2, hM⟩ := ho
  have hst : st = (st.take n).reverse.reverse ++ st.drop n := by rw [List.reverse_reverse, List.take_append_drop]
  have hAs : (st.take n).reverse.length = n := by simp; omega
  generalize (st.take n).reverse = As at hM hst hAs
  have hgi : GoodIn mz_GW (va_wsS (mz_my M).cls idx (mz_my M') (mz_wW M')) := mz_goodIn fun w hw => by
    simp only [va_wsS, List.cons_append, List.nil_append, List.mem_cons] at hw
    rcases hw with rfl | rfl | rfl | rfl | hw
    · exact hl
    · exact hst9
    · exact hk.2.1
    · exact hk.1
    · exact hw
  have hrun := vx_runSW (g := F0 m pc ls st) (As := As) (rest := st.drop n) (H := H) (locs := locs) (cells := nn.1) (slots := nn.2) (l := mz_gl G) (e := e) (below := below) (meth := meth) ⟨hC.1, hC.2.1, hC.2.2.2.1, hC.2.2.2.2.2.1, hC.2.2.2.2.1⟩ (hM hG) (vx_cwSW n hC.2.2.2.2.1 hgi rfl rfl rfl hk.2.2.1 hf)
    ⟨mz_blind, fun U hU hW => ⟨rfl, by rw [hU]; exact hP, mz_S_warm hC.2.2.2.2.2.2.2.2.1 hS hU hW⟩⟩ rfl hAs (hl9.1) hst (mz_cat_le hcat) hd (by rw [h0.1, h0.2]; exact ⟨e1, e2⟩)
  refine mz_back (M' := M') hC hS hrun (fun v T' I' L' H1 locs1 q1 q2 q3 => ?_)
  rw [h0.1, h0.2]
  exact mz_go (n := (nn.1 + ca, nn.2 + sa)) (hk9 _ _ _ _ _ _ q1) hG hC hE hX q2 q3 hl9 e1 e2
end MZI
