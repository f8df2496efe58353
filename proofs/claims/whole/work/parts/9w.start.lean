/-! THE CLAIM OUT OF ONE WALK OF THE LAW'S BODY. Your part is whole_start (and what it stands on); all else here is the same for every law, but numbers. -/
def R_law : String := "FallingBlocksLaw"
def lw_P (b : Addr) (xs : List Int32) (args : Array Value) (s : State) : Prop := args = #[.ref b] ∧ s.IntsAt b xs ∧ xs.length ≤ 2048 ∧ (Jvm.Cond.and given_1 narrow_1).before args s = true
/-- what a walk over the start with the record d0 says of its end, said of the start itself -/
theorem lw_closed {s t : State} {o : Outcome} {d0 : Drawn} {L : List Loc} {k n : Nat} (hd0 : s.drawn.sameBut d0 lw_cs) (hv : ∃ v, o = .returned v) (hW : (s.setDrawn d0).WarmedH t.vm) (hs : (s.setDrawn d0).sameButNew ({ t with vm := s.vm } : State) L k n) : State.butDraws s t lw_cs (fun t1 => Framed s o t1 L k n) := by
  have h2 : t.drawn = d0 := congrArg State.drawn hs.1
  refine ⟨⟨hv, hW, State.sameButNew.setDrawn hs s.drawn⟩, ?_, by decide⟩
  rw [h2]
  exact hd0
def lw_Q (_ : Array Value) (s : State) (o : Outcome) (t : State) : Prop := o = .returned (some (.int 1)) ∧ State.butDraws s t lw_cs (fun t1 => Framed s o t1 [] 603072 7194730)
def lw_Z (below : List Frame) (a : Array Value) (s : State) : State → Prop := fun t => ∃ o, t.status = .running ∧ Ended t below o ∧ lw_Q a s o t
theorem lw_drop {s t : State} {L : List Loc} {k n : Nat} (h : s.sameButNew t L k n) (hf : ∀ q ∈ L, s.heap.size ≤ q.base) : s.sameButNew t [] k n := by
  obtain ⟨h1, h2, h3, h4, h5, h6⟩ := h
  refine ⟨h1, h2, h3, h4, h5, fun a c hc => ?_⟩
  obtain ⟨c', g1, g2, g3, g4⟩ := h6 a c hc
  refine ⟨c', g1, g2, g3, fun i _ => g4 i (fun hm => ?_)⟩
  have q1 : a < s.heap.size := (Array.getElem?_eq_some_iff.mp hc).1
  have q2 : s.heap.size ≤ a := hf _ hm
  exact absurd (Nat.lt_of_lt_of_le q1 q2) (Nat.lt_irrefl _)
theorem lw_ret {p : Program} {l : Launch} {e : Env} {s : State} {m : MethodId} {below : List Frame} {meth : Method} {c : Code} {b : Nat} {locs : List Loc} (hf : ∀ q ∈ locs, s.heap.size ≤ q.base) (hx : p.tables.exec = Jvm.exec) (hb : c.code = code) (hr : meth.sig.returnType = ret) (hlocks : meth.locks = false) {pc : Nat} {H : Heap} {ls : Array Slot} (hdg : decode code pc = .ok (.ireturn, 1)) : W p l e room_1 s m #[Value.ref b] below meth c H locs 603072 7194730 (lw_Z below #[Value.ref b] s) (F0 m pc ls [.int 1]) := by
  intro T hT X
  obtain ⟨fs, hret, hrun, hended, hW, hframe⟩ := X.leave (v := some (.int 1)) (hlocks := hlocks) (fun h => by rw [hr] at h; cases h)
  have hmeth' : T.vm.method? m = some meth := X.method'
  refine ⟨T.setFrames fs, ?_, .returned (some (.int 1)), hrun, hended, rfl, lw_closed (d0 := s.drawn) (Drawn.sameBut.refl s.drawn lw_cs) ⟨_, rfl⟩ hW (lw_drop hframe hf)⟩
  jvm_step X.here [X.here.top, hx, hb, hdg, hmeth', hr, ret, narrow_b1]
  (try refine ⟨rfl, ?_⟩); (try refine ⟨rfl, ?_⟩)
  first | (intro acts; rw [hret _ acts rfl rfl rfl]) | rw [hret _ _ rfl rfl rfl]
  exact Steps.refl _
/-- what holds at the law's entry: the machine, the code, the tables' words (any of lw_tbl by 'hts w (by decide +kernel)'), the script of L ints xs at the cell b, what the Statement gives of the start (any of its parts by flat_of_before) -/
def lw_At (p : Program) (s : State) (m : MethodId) (meth : Method) (c : Code) (b L : Nat) (xs : Nat → Int32) : Prop :=
  p.tables.exec = Jvm.exec ∧ c.code = code ∧ meth.sig.returnType = ret ∧ c.maxLocals = 9 ∧ s.vm.findClass R_law = some m.cls ∧ (∀ w ∈ lw_tbl, w.before #[Value.ref b] s = true) ∧ va_X b L xs s s.heap ∧ b < s.heap.size ∧ meth.locks = false ∧ (Jvm.Cond.and given_1 narrow_1).before #[Value.ref b] s = true ∧ meth.name = (mz_my M_L_law).name ∧ c.exceptionTable.toList = []

/-! THE START OF THE LAW: everything that the walk takes as given, out of the Statement's words -/
theorem a_prim {args : Array Value} {s : State} {ty : FieldType} (h : (Cond.arrayClass ty).before args s = true) : ∃ cA : ClassId, ArrOfT s cA ty ∧ s.vm.findClass ("[" ++ ty.toString) = some cA := by
  obtain ⟨c, k, comp, h1, h2, h3⟩ := Cond.arrayClass_spec h
  exact ⟨c, fun n z => ⟨(fun k h => by cases h), k, h2, comp, h3⟩, h1⟩
theorem a_over {args : Array Value} {s : State} {C : String} (h : (Cond.arrayOver (.object C)).before args s = true) : ∃ cA : ClassId, ArrOfT s cA (.object C) ∧ va_RA s cA (.object C) := by
  obtain ⟨comp, c, k, h1, h2, h3, h4, h5⟩ := Cond.arrayOver_spec h
  exact ⟨c, fun n z => ⟨(fun k h => by cases h), k, h3, comp, h4⟩, k, comp, h3, h4, h1, h5⟩
theorem a_row {args : Array Value} {s : State} {C n : String} {N : Nat} {xs : Nat → Int32} {A : Nat → Prop} (hN : N < 2 ^ 31) (ha : (Cond.arrayOf (.static C n "[I") .int).before args s = true) (hl : (Cond.eq (.length (.static C n "[I")) (.int (Int32.ofNat N))).before args s = true) (he : ∀ j, j < N → (Cond.eq (.elem (.static C n "[I") (.int (Int32.ofNat j))) (.int (xs j))).before args s = true) (hA : ∀ a : Nat, a < s.heap.size → ¬ A a) : ∃ t : Nat, (Term.static C n "[I").eval args s none [] s = some (.ref t) ∧ va_T .int t N (fun j => .int (xs j)) A s s.heap :=
  va_Tof hN ha (va_eqt hl) (fun j hj => va_eqt (he j hj)) hA
theorem a_str {args : Array Value} {s : State} {C tx : String} {k : Nat} (h1 : (Cond.stringRef C k tx).before args s = true) (h2 : (Cond.exactly (.string C k) "java/lang/String").before args s = true) : ∃ a, vk_R C k tx a s := by
  obtain ⟨a, -, -, -, h3, -⟩ := Cond.exactly_spec h2
  exact ⟨a, vk_R.of h1 h3⟩
theorem lw_tab0 {p : Program} {l : Launch} {S : Spec} {e : Env} {s s₁ : State} {m : MethodId} {args : Array Value} {below : List Frame} {meth : Method} {c : Code} (B : BodyLoose p l x S code maxLocals ret e s m args below meth c s₁) (h : (Cond.code x code maxLocals ret).before args s = true) : c.exceptionTable.toList = [] := by
  obtain ⟨meth9, c9, h1, h2, -, -, -, -, h7, -⟩ := Cond.code_spec B.named h
  cases Option.some.inj (h1.symm.trans B.method)
  cases Option.some.inj (h2.symm.trans (Stand.of_body B).code)
  rw [Array.isEmpty_iff.mp h7]
set_option maxHeartbeats 4000000 in
set_option maxRecDepth 100000 in
theorem whole_start {p : Program} {e : Env} {s : State} {m : MethodId} {below : List Frame} {meth : Method} {c : Code} (l : Launch) (hflags : l.flags = flags0) {b L : Nat} {xs : Nat → Int32} (hL : L ≤ 2048) (C0 : lw_At p s m meth c b L xs) : W p l e room_1 s m #[Value.ref b] below meth c s.heap [] 0 0 (lw_Z below #[Value.ref b] s) (entryFrame m ([Value.ref b] : List Value).toArray 9) := by
  obtain ⟨hx, hb, hr, hml, hown, hts, hX, hbl, hlocks, hgv, hname, htab⟩ := id C0
  have hs := flat_of_before _ hgv
  have hA : ∀ a : Nat, a < s.heap.size → ¬ (fun q : Nat => s.heap.size ≤ q) a := fun a h => Nat.not_le.mpr h
  obtain ⟨c0, y0, k0⟩ := u_known (C := RX0) (T := TX0) (N := 3) (n := 3) hts (fun w hw => mz_tblw w (uw_0 w hw)) (hts _ (aw_cls (RX0, 3) (by simp)))
  obtain ⟨c1, y1, k1⟩ := u_known (C := RX1) (T := TX1) (N := 5) (n := 5) hts (fun w hw => mz_tblw w (uw_1 w hw)) (hts _ (aw_cls (RX1, 5) (by simp)))
  obtain ⟨c2, y2, k2⟩ := u_known (C := RX2) (T := TX2) (N := 1) (n := 1) hts (fun w hw => mz_tblw w (uw_2 w hw)) (hts _ (aw_cls (RX2, 1) (by simp)))
  obtain ⟨c3, y3, k3⟩ := u_known (C := RX3) (T := TX3) (N := 5) (n := 5) hts (fun w hw => mz_tblw w (uw_3 w hw)) (hts _ (aw_cls (RX3, 5) (by simp)))
  obtain ⟨c4, y4, k4⟩ := u_known (C := RX4) (T := TX4) (N := 9) (n := 9) hts (fun w hw => mz_tblw w (uw_4 w hw)) (hts _ (aw_cls (RX4, 9) (by simp)))
  obtain ⟨c5, y5, k5⟩ := u_known (C := RX5) (T := TX5) (N := 4) (n := 4) hts (fun w hw => mz_tblw w (uw_5 w hw)) (hts _ (aw_cls (RX5, 4) (by simp)))
  obtain ⟨c6, y6, k6⟩ := u_known (C := RX6) (T := TX6) (N := 5) (n := 5) hts (fun w hw => mz_tblw w (uw_6 w hw)) (hts _ (aw_cls (RX6, 5) (by simp)))
  obtain ⟨c7, y7, k7⟩ := u_known (C := RX7) (T := TX7) (N := 7) (n := 7) hts (fun w hw => mz_tblw w (uw_7 w hw)) (hts _ (aw_cls (RX7, 7) (by simp)))
  obtain ⟨c8, y8, k8⟩ := u_known (C := RX8) (T := TX8) (N := 4) (n := 4) hts (fun w hw => mz_tblw w (uw_8 w hw)) (hts _ (aw_cls (RX8, 4) (by simp)))
  obtain ⟨c9, y9, k9⟩ := u_known (C := RX9) (T := TX9) (N := 11) (n := 11) hts (fun w hw => mz_tblw w (uw_9 w hw)) (hts _ (aw_cls (RX9, 11) (by simp)))
  obtain ⟨c10, y10, k10⟩ := u_known (C := RX10) (T := TX10) (N := 11) (n := 11) hts (fun w hw => mz_tblw w (uw_10 w hw)) (hts _ (aw_cls (RX10, 11) (by simp)))
  obtain ⟨c11, y11, k11⟩ := u_known (C := RX11) (T := TX11) (N := 3) (n := 3) hts (fun w hw => mz_tblw w (uw_11 w hw)) (hts _ (aw_cls (RX11, 3) (by simp)))
  obtain ⟨c12, y12, k12⟩ := u_known (C := RX12) (T := TX12) (N := 26) (n := 26) hts (fun w hw => mz_tblw w (uw_12 w hw)) (hts _ (aw_cls (RX12, 26) (by simp)))
  obtain ⟨dC, dI, hKc⟩ : ∃ (dC : Nat → ClassId) (dI : Nat → Nat → Nat), ∀ (k : Nat) (q : vw_C), mz_cl[k]? = some q → u_Kn s q.1 q.2.1 q.2.2 (dC k) (dI k) := by
    refine ⟨fun k => match k with | 0 => c0 | 1 => c1 | 2 => c2 | 3 => c3 | 4 => c4 | 5 => c5 | 6 => c6 | 7 => c7 | 8 => c8 | 9 => c9 | 10 => c10 | 11 => c11 | _ => c12, fun k => match k with | 0 => y0 | 1 => y1 | 2 => y2 | 3 => y3 | 4 => y4 | 5 => y5 | 6 => y6 | 7 => y7 | 8 => y8 | 9 => y9 | 10 => y10 | 11 => y11 | _ => y12, ?_⟩
    intro k q hq
    match k, hq with
    | 0, hq => cases hq; exact k0
    | 1, hq => cases hq; exact k1
    | 2, hq => cases hq; exact k2
    | 3, hq => cases hq; exact k3
    | 4, hq => cases hq; exact k4
    | 5, hq => cases hq; exact k5
    | 6, hq => cases hq; exact k6
    | 7, hq => cases hq; exact k7
    | 8, hq => cases hq; exact k8
    | 9, hq => cases hq; exact k9
    | 10, hq => cases hq; exact k10
    | 11, hq => cases hq; exact k11
    | 12, hq => cases hq; exact k12
    | k + 13, hq => simp [mz_cl] at hq
  obtain ⟨⟨g1, r1, n1⟩, ⟨g2, r2, n2⟩, ⟨g3, r3, n3⟩, ⟨g4, r4, n4⟩, ⟨g5, r5, n5⟩, ⟨g6, r6, n6⟩⟩ := And.intro (a_prim (hts _ aw_arr.1)) (And.intro (a_prim (hts _ aw_arr.2.1)) (And.intro (a_prim (hts _ aw_arr.2.2.1)) (And.intro (a_prim (hts _ aw_arr.2.2.2.1)) (And.intro (a_prim (hts _ aw_arr.2.2.2.2.1)) (a_over (hts _ aw_arr.2.2.2.2.2))))))
  obtain ⟨a0, z0, t0⟩ := a_row (N := 112) (xs := fun j => mz_CELLS.getD j 0) (by decide) (hs _ (aw_ar 0 (by decide))) (hs _ (aw_len 0 (by decide))) (fun j hj => hs _ (aw_cells j hj)) hA
  obtain ⟨a1, z1, t1⟩ := a_row (N := 18) (xs := fun j => mz_KICKS.getD j 0) (by decide) (hs _ (aw_ar 1 (by decide))) (hs _ (aw_len 1 (by decide))) (fun j hj => hs _ (aw_kicks j hj)) hA
  obtain ⟨a2, z2, t2⟩ := a_row (N := 10) (xs := fun j => mz_LONGS.getD j 0) (by decide) (hs _ (aw_ar 2 (by decide))) (hs _ (aw_len 2 (by decide))) (fun j hj => hs _ (aw_longs j hj)) hA
  obtain ⟨a3, z3, t3⟩ := a_row (N := 15) (xs := fun j => mz_POINTS.getD j 0) (by decide) (hs _ (aw_ar 3 (by decide))) (hs _ (aw_len 3 (by decide))) (fun j hj => hs _ (aw_points j hj)) hA
  have t4 : va_T .int b L (fun j => .int (xs j)) (fun q : Nat => s.heap.size ≤ q) s s.heap := by
    obtain ⟨scr, x1, x2, x3, x4, x5⟩ := hX
    exact ⟨scr, x1, x2, x3, by rw [x4]; exact Nat.le_refl _, by rw [x4], x5, hA b hbl⟩
  have lt : ∀ {t N : Nat} {f : Nat → Value}, va_T .int t N f (fun q : Nat => s.heap.size ≤ q) s s.heap → t < s.heap.size := fun h => by
    obtain ⟨cell, y1, -⟩ := h
    exact (Array.getElem?_eq_some_iff.mp y1).1
  have hG : ∃ G : mz_G, G = (l, (dC, dI), (fun k => match k with | 1 => g1 | 2 => g2 | 3 => g3 | 4 => g4 | 5 => g5 | _ => g6), s, (fun q => match q with | 0 => a0 | 1 => a1 | 2 => a2 | 3 => a3 | _ => b), L, xs) := ⟨_, rfl⟩
  obtain ⟨G, eG⟩ := hG
  have hOK : mz_OK G := by
    rw [eG]
    refine ⟨?_, ?_, ?_, vx_Zqof (hts _ aw_zq.1.1) (hts _ aw_zq.1.2.2) (hs _ aw_zq.2.1) hA, vx_Zqof (hts _ aw_zq.1.2.1) (hts _ aw_zq.1.2.2) (hs _ aw_zq.2.2) hA, ?_, ?_, ?_, va_AO.of (hts _ aw_arr.2.2.2.2.2), fun w hw ho => va_Nw.of ho (hts w hw)⟩
    · show (!l.flags.contains noTraceFlag) = false
      rw [hflags]; decide +kernel
    · intro q hq
      match q, hq with
      | 0, _ => exact ⟨lt t0, t0⟩
      | 1, _ => exact ⟨lt t1, t1⟩
      | 2, _ => exact ⟨lt t2, t2⟩
      | 3, _ => exact ⟨lt t3, t3⟩
      | 4, _ => exact ⟨hbl, t4⟩
      | q + 5, h => exact absurd h (by omega)
    · intro q hq
      match q, hq with
      | 0, _ => exact va_Zref (hts _ (aw_lay 0 (by decide)).1) (hts _ (aw_lay 0 (by decide)).2) z0 hA
      | 1, _ => exact va_Zref (hts _ (aw_lay 1 (by decide)).1) (hts _ (aw_lay 1 (by decide)).2) z1 hA
      | 2, _ => exact va_Zref (hts _ (aw_lay 2 (by decide)).1) (hts _ (aw_lay 2 (by decide)).2) z2 hA
      | 3, _ => exact va_Zref (hts _ (aw_lay 3 (by decide)).1) (hts _ (aw_lay 3 (by decide)).2) z3 hA
      | q + 4, h => exact absurd h (by omega)
    · exact fun q hq => a_str (hts _ (aw_str q hq).1) (hs _ (aw_str q hq).2)
    · exact Nat.lt_of_le_of_lt hL (by decide)
    · exact fun q hq => va_Nc.of (hs _ (aw_nc q hq))
  have hK : va_K (mz_gD G) mz_cl (mz_ty G) s := by
    rw [eG]
    refine ⟨hKc, fun k q hq => ?_⟩
    match k, hq with
    | 0, hq => cases hq; exact ⟨r1, n1⟩
    | 1, hq => cases hq; exact ⟨r2, n2⟩
    | 2, hq => cases hq; exact ⟨r3, n3⟩
    | 3, hq => cases hq; exact ⟨r4, n4⟩
    | 4, hq => cases hq; exact ⟨r5, n5⟩
    | 5, hq => cases hq; exact ⟨r6, n6⟩
    | k + 6, hq => simp [mz_ty] at hq
  have e1 : mz_gl G = l := by rw [eG]
  have e2 : mz_gs G = s := by rw [eG]
  have e3 : mz_gr G 4 = b := by rw [eG]; rfl
  have e4 : mz_gL G = L := by rw [eG]
  have hSt : mz_S G s := ⟨hK, fun _ _ => by rw [e2], by rw [e2]; exact Nat.le_refl _, by rw [e2]; exact State.WarmedH.refl s⟩
  have hC : mz_Cx G M_L_law p s m #[Value.ref b] meth c := ⟨hx, hb, hr, hml, fun w hw => hts w (mz_tblw w hw), hown, hlocks, hname, hSt, htab⟩
  have hE : mz_EndK G M_L_law p e s m #[Value.ref b] below meth c (lw_Z below #[Value.ref b] s) (fun v _ _ _ => v = some (.int 1)) := by
    intro H locs pc ls v T I L9 n hv hP hS h1 h2 hret
    subst hv
    obtain ⟨hd, -⟩ := hret
    rw [e1]
    exact W.widen h1 h2 (lw_ret (fun q hq => by have := hS.2.2 q hq; unfold mz_A at this; rw [e2] at this; exact this) hx hb hr hlocks hd)
  have hP : mz_Pic G ([], fun _ _ => none) (fun _ _ => 0) (fun _ _ => 0) s.heap := ⟨fun k q h => by simp [mz_ws] at h, ⟨fun i j p q h => by simp [mz_ws] at h, fun k q h => by simp [mz_ws] at h⟩, fun a c h => absurd h List.not_mem_nil⟩
  have hW := w_start (G := G) (K := fun v _ _ _ => v = some (.int 1)) (T := ([], fun _ _ => none)) (I := fun _ _ => 0) (L := fun _ _ => 0) (by rw [e4]; exact hL) (fun _ _ _ => rfl) hOK p e s m #[Value.ref b] below meth c _ hC hE mz_Xno s.heap [] _ hP va_S.rf (by rw [e3]; exact mz_entry (av := [Value.ref b]) (n := 9) (Nat.le_of_ble_eq_true rfl) (Nat.le_of_ble_eq_true rfl)) (Nat.zero_le _) (Nat.zero_le _)
  rw [e1] at hW
  rw [lg_entry_eq]
  exact hW
set_option maxHeartbeats 4000000 in
theorem lw_walk (l : Launch) (hflags : l.flags = flags0) (b : Addr) (xs : List Int32) : MetFree l x (headSpec (Jvm.Cond.code x code maxLocals ret :: tables_1) room_1) (lw_P b xs) (fun _ _ _ _ _ => True) lw_Q := by
  refine MetFree.of_bodyS (code := code) (maxLocals := maxLocals) (ret := ret) (by decide) ?_ ?_
  · intro args s m h hn
    obtain ⟨meth, c, h1, h2, h3, h4, h5, h6, -, -⟩ := Cond.code_spec hn (atoms_spec (ws := Jvm.Cond.code x code maxLocals ret :: tables_1) h _ List.mem_cons_self)
    exact ⟨meth, c, h1, h2, h3, h4, h5, h6⟩
  · intro p e s m args below meth c s₁ B hml0 hP _
    obtain ⟨rfl, hx, hbd, hgv⟩ := hP
    obtain ⟨scr, harrAt, hlist, hof, hsmall⟩ := hx
    obtain ⟨hcb, hkn, -, -⟩ := State.arrayAt?_spec harrAt
    have hown : s.vm.findClass R_law = some m.cls := findClass_of_methodNamed B.named
    have hts0 : ∀ c ∈ (Jvm.Cond.code x code maxLocals ret :: tables_1), c.before #[Value.ref b] s = true := atoms_spec (ws := Jvm.Cond.code x code maxLocals ret :: tables_1) B.pre
    have hts : ∀ w ∈ lw_tbl, w.before #[Value.ref b] s = true := k2_hts_sels lw_privs (fun w hw => hts0 w (List.mem_cons_of_mem _ hw)) lw_privs_ok
    have hml : c.maxLocals = 9 := B.maxLocals_eq (hts0 _ List.mem_cons_self)
    have X₀ : Stand p l e room_1 s m #[Value.ref b] below meth c s₁ [] 0 0 := Stand.of_body B
    have hh0 : s₁.heap = s.heap := by rw [B.state]; rfl
    have hsz : scr.slots.size = xs.length := by rw [← Array.length_toList, hlist, List.length_map]
    have hval : ∀ j : Nat, j < xs.length → scr.slots[j]? = some (.int (xs.getD j 0)) := fun j hj => by
      rw [← Array.getElem?_toList, hlist]
      simp [hj]
    have hbl : b < s.heap.size := (Array.getElem?_eq_some_iff.mp hcb).1
    have hX : va_X b xs.length (fun j => xs.getD j 0) s s.heap := ⟨scr, hcb, hof, hkn, hsz, hval⟩
    have K : W p l e room_1 s m #[Value.ref b] below meth c s₁.heap [] 0 0 (lw_Z below #[Value.ref b] s) (entryFrame m ([Value.ref b] : List Value).toArray 9) := by
      rw [hh0]
      exact whole_start l hflags hbd ⟨B.exec, B.bytes, B.returns, hml, hown, hts, hX, hbl, B.notSynchronized, hgv, (name_of_methodNamed B.named B.method).1, lw_tab0 B (hts0 _ List.mem_cons_self)⟩
    obtain ⟨t, a1, o, b1, b2, b3⟩ := K s₁ rfl X₀
    exact ⟨t, o, a1, b1, b2, b3⟩
theorem lw_pre_spec {args : Array Value} {s : State} (h : (Jvm.Cond.and given_1 narrow_1).before args s = true) (hr : rest_1_c.before args s = true) : ∃ (b : Addr) (xs : List Int32), lw_P b xs args s := by
  have hs := flat_of_before _ h
  have hq := flat_of_before _ hr
  have hc : (Cond.count 1).before args s = true := hs _ (by decide +kernel)
  have harr : (Cond.arrayOf (.arg 0) .int).before args s = true := hs _ (by decide +kernel)
  have hle : (Cond.le (.length (.arg 0)) (.int 2048)).before args s = true := hs _ (by decide +kernel)
  have hlen : (Cond.isInt (.length (.arg 0))).before args s = true := hq _ (by decide +kernel)
  have hall : (Cond.all (.arg 0) (.isInt (.elem (.arg 0) (.index 0)))).before args s = true := hq _ (by decide +kernel)
  obtain ⟨b, xs, hb, hx⟩ := State.ints_of_pre rfl harr hlen hall
  have hsm : xs.length < 2 ^ 31 := hx.choose_spec.2.2.2
  have hev : (Term.length (.arg 0)).eval args s none [] s = some (.int xs.length.toInt32) := hx.length_eval hb
  have hv := Cond.le_ints hev (show (Term.int 2048).eval args s none [] s = some (.int 2048) from rfl)
  have hd : xs.length.toInt32 ≤ 2048 := by
    simpa [Cond.before, Cond.holds, hv] using hle
  have hN : xs.length ≤ 2048 := (Int32.ofNat_le_ofNat hsm (by decide)).mp (show Int32.ofNat xs.length ≤ Int32.ofNat 2048 from hd)
  exact ⟨b, xs, Cond.one_arg hc (show args[0]? = some (.ref b) from hb), hx, hN, h⟩
theorem lw_comes (l : Launch) (hflags : l.flags = flags0) : Comes l x (Jvm.Cond.code x code maxLocals ret :: tables_1) room_1 (fun tb e args s => Calls_1 tb e args s ∧ rest_1 tb e args s ∧ Pre_1 tb e args s)
    (fun _ _ args s o t => lw_Q args s o t) := by
  intro p e ha hc hk s m args below hf hfit hheap happ hpre
  obtain ⟨b, xs, hP⟩ := lw_pre_spec hpre.2.2 hpre.2.1
  obtain ⟨k, o, h1, h2, h3, hQ⟩ := lw_walk l hflags b xs p e ha hc hk s m args below hf ((Spec.applies_iff_loose hf).mp happ).1 hP trivial
  exact ⟨k, o, h1, h2, h3, hQ⟩
theorem lw_frame {s t : State} {o : Outcome} {args : Array Value} (h : State.butDraws s t lw_cs (fun t1 => Framed s o t1 [] 603072 7194730)) :
    State.butDraws s t [Jvm.Choice.named "NaN.bits"] (fun t1 => Framed s o t1 (fieldLocs frame_1_writes args s ++ arrayLocs frame_1_arrays args s ++ staticLocs frame_1_statics s) 603072 7194730) := h
theorem lw_limb (L : Cond) (hL : ∀ (args : Array Value) (s t : State), L.after args s (.returned (some (.int 1))) t = true) :
    ArmFor flags0 classFile x code maxLocals ret World_1 tables_1 room_1 Calls_1 rest_1 Pre_1
      (fun tb e a s o t => postC L tb e a s o t ∧ State.butDraws s t [Jvm.Choice.named "NaN.bits"] (fun t1 => Framed s o t1 (fieldLocs frame_1_writes a s ++ arrayLocs frame_1_arrays a s ++ staticLocs frame_1_statics s) 603072 7194730)) := by
  intro l hflags _ _ p e ha hc hk s m args below hf hfit hheap happ hpre
  obtain ⟨k, o, h1, h2, h3, rfl, hF⟩ := lw_comes l hflags p e ha hc hk s m args below hf hfit hheap happ hpre
  exact ⟨k, _, h1, h2, h3, hL args s _, lw_frame hF⟩
theorem i_vc : Claimed_1_1 ∧ Claimed_1_2 := ⟨lw_limb limb_1_1 (fun args s t => by simp [limb_1_1, Cond.after, Cond.holds, Cond.value]), lw_limb limb_1_2 (fun args s t => Cond.after_iff.mpr (by
  first | (rw [show limb_1_2 = Cond.eq .result (.int 1) from rfl, Cond.eq_ints (x := 1) (y := 1) rfl rfl]; simp; done) | (simp [limb_1_2, Cond.value, Term.eval]; done)))⟩
