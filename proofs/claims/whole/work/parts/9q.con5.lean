/-! the constructors: engine -/
section CON5
variable {G : mz_G} {K : mz_K} {X : mz_X} {T : mz_T} {I : mz_I} {L : mz_L} {T0 : mz_T} {I0 : mz_I} {L0 : mz_L}
theorem tv_nw {S : List Nat} {a f b : Nat} {x : Nat × Nat} (w : n_w T0 T I0 I L0 L S) (hm : (a, x) ∈ T0.1) (h : T0.2 a f = some b) : T.2 a f = some b := by rw [nw_T2 w hm]; exact h
theorem tv_T {o i a f b : Nat} {v : Option Nat} (hne : a ≠ o) (h : T.2 a f = some b) : mz_u T.2 o i v a f = some b := by rw [mz_u_ne hne]; exact h
def p_gj (T : mz_T) (ra : Nat) (Aj : Nat → z_A) : Prop := ∀ j, j < 6 → T.2 ra j = some (Aj j).g ∧ p_GA T (Aj j)
theorem gj_nw {S : List Nat} {ra : Nat} {x : Nat × Nat} {Aj : Nat → z_A} (w : n_w T0 T I0 I L0 L S) (hm : (ra, x) ∈ T0.1) (h : p_gj T0 ra Aj) : p_gj T ra Aj := fun j hj => ⟨tv_nw w hm (h j hj).1, ga_nw w (h j hj).2⟩
theorem gj_T {o i ra : Nat} {v : Option Nat} {Aj : Nat → z_A} (hne : ra ≠ o) (h2 : ∀ j, j < 6 → o ∉ (Aj j).all) (h : p_gj T ra Aj) : p_gj (T.1, mz_u T.2 o i v) ra Aj := fun j hj => ⟨tv_T hne (h j hj).1, ga_T (h2 j hj) (h j hj).2⟩
theorem sh_nw {S : List Nat} {Y : Nat → Nat} (w : n_w T0 T I0 I L0 L S) (h : p_Sh T0 Y) : p_Sh T Y := by
  obtain ⟨s1, ⟨r2, r3, r4, r5, r6, r7, r9⟩, ⟨t1, t2, t3, t4, t5, t6, t7⟩, s4⟩ := h
  exact ⟨nw_mem w s1, ⟨tv_nw w s1 r2, tv_nw w s1 r3, tv_nw w s1 r4, tv_nw w s1 r5, tv_nw w s1 r6, tv_nw w s1 r7, tv_nw w s1 r9⟩, ⟨fd_nw w t1, fd_nw w t2, nw_mem w t3, nw_mem w t4, nw_mem w t5, nw_mem w t6, nw_mem w t7⟩, s4⟩
theorem sh_T {o i : Nat} {v : Option Nat} {Y : Nat → Nat} (h0 : Y 0 ≠ o) (h1 : Y 1 ≠ o) (h3 : Y 3 ≠ o) (h : p_Sh T Y) : p_Sh (T.1, mz_u T.2 o i v) Y := by
  obtain ⟨s1, ⟨r2, r3, r4, r5, r6, r7, r9⟩, ⟨t1, t2, t3⟩, s4⟩ := h
  exact ⟨s1, ⟨tv_T h0 r2, tv_T h0 r3, tv_T h0 r4, tv_T h0 r5, tv_T h0 r6, tv_T h0 r7, tv_T h0 r9⟩, ⟨fd_T h1 t1, fd_T h3 t2, t3⟩, s4⟩
/-- what an engine has, and what stands in it -/
def e_W (T : mz_T) (I : mz_I) (V : Nat → Nat) (A : z_A) (Aj : Nat → z_A) (sn : z_A) (Y : Nat → Nat) : Prop :=
  (p_E T (V 1) A ∧ T.2 (V 1) 1 = some (V 2) ∧ T.2 (V 1) 2 = some (V 4) ∧ T.2 (V 1) 3 = some (Y 0) ∧ T.2 (V 1) 4 = some (V 6)) ∧
  ((V 4, 0, 3) ∈ T.1 ∧ T.2 (V 4) 0 = some (V 5) ∧ (V 5, 1, 448) ∈ T.1) ∧ p_Field T (V 6) (V 7) ∧ p_GA T A ∧ p_GA T sn ∧ ((V 2, 0, 6) ∈ T.1 ∧ (V 3, 6, 6) ∈ T.1 ∧ T.2 (V 2) 0 = some (V 3) ∧ T.2 (V 2) 3 = some (z_A.g sn)) ∧ p_gj T (V 3) Aj ∧ p_Sh T Y ∧
  ((∀ i j, i < 6 → j < 6 → i ≠ j → z_dj (Aj i) (Aj j)) ∧ (∀ j, j < 6 → z_dj (Aj j) A) ∧ z_dj A sn ∧ z_dj sn A ∧ (∀ j, j < 6 → z_dj (Aj j) sn)) ∧
  ((∀ a, a ∈ [V 7, Y 2, Y 4, Y 5, Y 6] → a ∉ z_A.all A ∧ (∀ j, j < 6 → a ∉ (Aj j).all) ∧ a ∉ z_A.all sn) ∧ (V 7 ≠ Y 2 ∧ V 7 ≠ Y 4)) ∧
  (I A.g 7 = 5 ∧ I A.g 8 = 8 ∧ (∀ i, I (V 2) i = 0) ∧ (∀ i, I (Y 0) i = 0) ∧ (∀ j, j < 448 → I (V 5) j = f_lt j))
def e_keys (V : Nat → Nat) (A : z_A) (Aj : Nat → z_A) (sn : z_A) (Y : Nat → Nat) : List Nat := [V 1, V 4, V 6, V 2, V 3, Y 0, Y 1, Y 3] ++ (z_A.all A ++ (z_A.all sn ++ z_rc Aj 6))
theorem ew_nw {S : List Nat} {V : Nat → Nat} {A : z_A} {Aj : Nat → z_A} {sn : z_A} {Y : Nat → Nat} (w : n_w T0 T I0 I L0 L S) (h : e_W T0 I0 V A Aj sn Y) : e_W T I V A Aj sn Y := by
  obtain ⟨⟨⟨a1, a2⟩, a3, a4, a5, a6⟩, ⟨b1, b2, b3⟩, c1, c2, c3, ⟨d1, d2, d3, d4⟩, d5, d6, d7, d8, ⟨i1, i2, i3, i4, i5⟩⟩ := h
  refine ⟨⟨⟨nw_mem w a1, tv_nw w a1 a2⟩, tv_nw w a1 a3, tv_nw w a1 a4, tv_nw w a1 a5, tv_nw w a1 a6⟩, ⟨nw_mem w b1, tv_nw w b1 b2, nw_mem w b3⟩, fd_nw w c1, ga_nw w c2, ga_nw w c3, ⟨nw_mem w d1, nw_mem w d2, tv_nw w d1 d3, tv_nw w d1 d4⟩, gj_nw w d2 d5, sh_nw w d6, d7, d8, ?_⟩
  rw [nw_I2 w c2.1.1, nw_I2 w d1, nw_I2 w d6.1, nw_I2 w b3]
  exact ⟨i1, i2, i3, i4, i5⟩
theorem ew_T {o i : Nat} {v : Option Nat} {V : Nat → Nat} {A : z_A} {Aj : Nat → z_A} {sn : z_A} {Y : Nat → Nat} (ho : o ∉ e_keys V A Aj sn Y) (h : e_W T I V A Aj sn Y) : e_W (T.1, mz_u T.2 o i v) I V A Aj sn Y := by
  obtain ⟨⟨⟨a1, a2⟩, a3, a4, a5, a6⟩, ⟨b1, b2, b3⟩, c1, c2, c3, ⟨d1, d2, d3, d4⟩, d5, d6, d7, d8, d9⟩ := h
  unfold e_keys at ho
  simp only [List.mem_append, List.mem_cons, List.not_mem_nil, or_false, not_or] at ho
  obtain ⟨⟨e1, e2, e3, e4, e5, e6, e7, e8⟩, e9, e10, e11⟩ := ho
  exact ⟨⟨⟨a1, tv_T (Ne.symm e1) a2⟩, tv_T (Ne.symm e1) a3, tv_T (Ne.symm e1) a4, tv_T (Ne.symm e1) a5, tv_T (Ne.symm e1) a6⟩, ⟨b1, tv_T (Ne.symm e2) b2, b3⟩, fd_T (Ne.symm e3) c1, ga_T e9 c2, ga_T e10 c3, ⟨d1, d2, tv_T (Ne.symm e4) d3, tv_T (Ne.symm e4) d4⟩, gj_T (Ne.symm e5) (fun j hj q => e11 (z_rc_mem.mpr ⟨j, hj, q⟩)) d5, sh_T (Ne.symm e6) (Ne.symm e7) (Ne.symm e8) d6, d7, d8, d9⟩
theorem c_X1i {o : Nat} (hn : n_w T0 T I0 I L0 L [o]) (ho : (o, 0, 1) ∈ T.1) (h : ∀ T' I' L' (V : Nat → Nat) A Aj sn Y, V 1 = o → n_w T0 T' I0 I' L0 L' (e_keys V A Aj sn Y) → e_W T' I' V A Aj sn Y → K none T' I' L') : mz_Ctr G M_X1_init [.ref o] T I L K := by
  refine mz_ofl mk_X1_init rfl (Nat.le_of_ble_eq_true rfl) (Nat.le_of_ble_eq_true rfl) [some (.ref o)] rfl ?_
  refine mz_vc ok_X1_init [] [(), (), (), (), (), (), (), (), (), (), (), (), (), (), (), (), (), (), (), (), (), (), (), (), (), (), (), (), (), ()] ?_
  simp only [cd_X1_init, List.mem_append, ho, r_rn0, r_rnc, r_vk0, r_vkc, r_vks, r_kci, r_kcv, r_ild, r_ald, r_lld, r_dld, r_Li, r_La, r_Ll, r_Ld, r_Ki, r_Ka, r_Kl, r_Kd, r_Kn, r_ist, r_ast, r_lst, r_dst, r_iinc, r_int, r_lng, r_dbl, r_i2, r_i1, r_l2, r_lsh, r_i2z, r_l2z, r_i2l, r_l2i, r_i2d, r_lcmp, r_ddiv, r_dcmpl, r_dup, r_dup2, r_pop, r_one_int, r_one_ref, r_go, r_if, r_ic, r_tsw, r_lsw, r_sw0, r_swc, r_lk0, r_lkc, r_kp, r_gI, r_gL, r_gR, r_pI, r_pZ, r_pL, r_pR, r_gs, r_ia, r_ca, r_za, r_la, r_da, r_aa, r_ias, r_cas, r_zas, r_las, r_das, r_aas, r_acp, r_new, r_nwa, r_nwq, r_ret, r_irt, r_zrt, r_lrt, r_drt, r_art, r_thr, r_cV0, r_cV1, r_cV2, r_cV3, r_cV4, r_cV5, r_cI0, r_cS0, r_cS1, r_cS2, r_cS3, r_cX0, r_cX1, r_cX2, r_cX3, r_rc, r_oi, r_refx, r_i10, r_i01, r_rfs, r_mem0, r_memc, r_beq, r_kl0, r_klz, r_kl1i, r_kl1r, r_kl1n, r_kl1l, r_kl1d, List.length_cons, List.length_nil, List.getElem?_cons_zero, List.getElem?_cons_succ, List.set_cons_zero, List.set_cons_succ, true_and, and_true, not_true, not_false_eq_true, false_implies, true_implies, or_true, true_or, or_false, false_or, Bool.or_false, Bool.false_or, decide_false, decide_true, Nat.reduceLT, Nat.reduceLeDiff, Nat.reduceAdd, Nat.reduceSub, ↓reduceIte, Nat.reduceEqDiff, Nat.lt_add_one]
  have s0 := st_0 hn ho
  intro g hg
  have ng : g ≠ o := Ne.symm (hg _ s0.2.2.1)
  refine c_X4i (nw_ob hg) nw_lst (fun T1 I1 L1 A eA w1 pA v7 v8 => ?_)
  have s1 := st_ob (f := 0) (q := g) s0 w1 (by simp)
  have hO1 : (o, 0, 1) ∈ T1.1 := s1.2.2.1
  have oA : o ∉ z_A.all A := fun e => w1.2.2 _ e _ s0.2.2.1 rfl
  have pA1 := ga_T (o := o) (i := 0) (v := some g) oA pA
  have gA : (A.g, 0, 4) ∈ T1.1 := pA.1.1
  simp only [cd_X1_init, List.mem_append, hO1, r_rn0, r_rnc, r_vk0, r_vkc, r_vks, r_kci, r_kcv, r_ild, r_ald, r_lld, r_dld, r_Li, r_La, r_Ll, r_Ld, r_Ki, r_Ka, r_Kl, r_Kd, r_Kn, r_ist, r_ast, r_lst, r_dst, r_iinc, r_int, r_lng, r_dbl, r_i2, r_i1, r_l2, r_lsh, r_i2z, r_l2z, r_i2l, r_l2i, r_i2d, r_lcmp, r_ddiv, r_dcmpl, r_dup, r_dup2, r_pop, r_one_int, r_one_ref, r_go, r_if, r_ic, r_tsw, r_lsw, r_sw0, r_swc, r_lk0, r_lkc, r_kp, r_gI, r_gL, r_gR, r_pI, r_pZ, r_pL, r_pR, r_gs, r_ia, r_ca, r_za, r_la, r_da, r_aa, r_ias, r_cas, r_zas, r_las, r_das, r_aas, r_acp, r_new, r_nwa, r_nwq, r_ret, r_irt, r_zrt, r_lrt, r_drt, r_art, r_thr, r_cV0, r_cV1, r_cV2, r_cV3, r_cV4, r_cV5, r_cI0, r_cS0, r_cS1, r_cS2, r_cS3, r_cX0, r_cX1, r_cX2, r_cX3, r_rc, r_oi, r_refx, r_i10, r_i01, r_rfs, r_mem0, r_memc, r_beq, r_kl0, r_klz, r_kl1i, r_kl1r, r_kl1n, r_kl1l, r_kl1d, List.length_cons, List.length_nil, List.getElem?_cons_zero, List.getElem?_cons_succ, List.set_cons_zero, List.set_cons_succ, true_and, and_true, not_true, not_false_eq_true, false_implies, true_implies, or_true, true_or, or_false, false_or, Bool.or_false, Bool.false_or, decide_false, decide_true, Nat.reduceLT, Nat.reduceLeDiff, Nat.reduceAdd, Nat.reduceSub, ↓reduceIte, Nat.reduceEqDiff, Nat.lt_add_one]
  intro me hme
  have nme : me ≠ o := Ne.symm (hme _ s1.2.2.1)
  refine c_X6i (nw_ob (T := (T1.1, mz_u T1.2 o 0 (some g))) hme) nw_lst (fun i => congrFun (if_pos rfl) i) (fun T2 I2 L2 ra sn Aj w2 m1 m2 e0 e3 pS pJ dj djs hz2 => ?_)
  have s2 := st_ob (T := (T1.1, mz_u T1.2 o 0 (some g))) (f := 1) (q := me) s1 w2 (by simp)
  have hO2 : (o, 0, 1) ∈ T2.1 := s2.2.2.1
  have fr2 : ∀ a x, (a, x) ∈ T1.1 → a ∉ (me :: ra :: (z_A.all sn ++ z_rc Aj 6)) := fun a x hx e => w2.2.2 a e (a, x) hx rfl
  have oM := fr2 o _ hO1
  simp only [List.mem_cons, List.mem_append, not_or] at oM
  obtain ⟨oM1, oM2, oM3, oM4⟩ := oM
  have djA : z_dj sn A ∧ z_dj A sn := dj_of (T0 := (T1.1, mz_u T1.2 o 0 (some g))) pA1 w2 (fun a q => by simp [q])
  have djJ : ∀ j, j < 6 → z_dj (Aj j) A := fun j hj => (dj_of (T0 := (T1.1, mz_u T1.2 o 0 (some g))) (A := Aj j) pA1 w2 (fun a q => List.mem_cons_of_mem _ (List.mem_cons_of_mem _ (List.mem_append_right _ (z_rc_mem.mpr ⟨j, hj, q⟩))))).1
  have pA2 := ga_T (o := o) (i := 1) (v := some me) oA (ga_nw (T0 := (T1.1, mz_u T1.2 o 0 (some g))) w2 pA1)
  have pS2 := ga_T (o := o) (i := 1) (v := some me) oM3 pS
  have pJ2 := gj_T (o := o) (i := 1) (v := some me) (Ne.symm oM2) (fun j hj q => oM4 (z_rc_mem.mpr ⟨j, hj, q⟩)) pJ
  have e02 := tv_T (o := o) (i := 1) (v := some me) (Ne.symm oM1) e0
  have e32 := tv_T (o := o) (i := 1) (v := some me) (Ne.symm oM1) e3
  simp only [cd_X1_init, List.mem_append, hO2, r_rn0, r_rnc, r_vk0, r_vkc, r_vks, r_kci, r_kcv, r_ild, r_ald, r_lld, r_dld, r_Li, r_La, r_Ll, r_Ld, r_Ki, r_Ka, r_Kl, r_Kd, r_Kn, r_ist, r_ast, r_lst, r_dst, r_iinc, r_int, r_lng, r_dbl, r_i2, r_i1, r_l2, r_lsh, r_i2z, r_l2z, r_i2l, r_l2i, r_i2d, r_lcmp, r_ddiv, r_dcmpl, r_dup, r_dup2, r_pop, r_one_int, r_one_ref, r_go, r_if, r_ic, r_tsw, r_lsw, r_sw0, r_swc, r_lk0, r_lkc, r_kp, r_gI, r_gL, r_gR, r_pI, r_pZ, r_pL, r_pR, r_gs, r_ia, r_ca, r_za, r_la, r_da, r_aa, r_ias, r_cas, r_zas, r_las, r_das, r_aas, r_acp, r_new, r_nwa, r_nwq, r_ret, r_irt, r_zrt, r_lrt, r_drt, r_art, r_thr, r_cV0, r_cV1, r_cV2, r_cV3, r_cV4, r_cV5, r_cI0, r_cS0, r_cS1, r_cS2, r_cS3, r_cX0, r_cX1, r_cX2, r_cX3, r_rc, r_oi, r_refx, r_i10, r_i01, r_rfs, r_mem0, r_memc, r_beq, r_kl0, r_klz, r_kl1i, r_kl1r, r_kl1n, r_kl1l, r_kl1d, List.length_cons, List.length_nil, List.getElem?_cons_zero, List.getElem?_cons_succ, List.set_cons_zero, List.set_cons_succ, true_and, and_true, not_true, not_false_eq_true, false_implies, true_implies, or_true, true_or, or_false, false_or, Bool.or_false, Bool.false_or, decide_false, decide_true, Nat.reduceLT, Nat.reduceLeDiff, Nat.reduceAdd, Nat.reduceSub, ↓reduceIte, Nat.reduceEqDiff, Nat.lt_add_one]
  intro fi hfi
  have nfi : fi ≠ o := Ne.symm (hfi _ s2.2.2.1)
  refine c_X3i (nw_ob (T := (T2.1, mz_u T2.2 o 1 (some me))) hfi) nw_lst (fun T3 I3 L3 lt w3 f1 f2 f3 f4 => ?_)
  have s3 := st_ob (T := (T2.1, mz_u T2.2 o 1 (some me))) (f := 2) (q := fi) s2 w3 (by simp)
  have hO3 : (o, 0, 1) ∈ T3.1 := s3.2.2.1
  have pA3 := ga_T (o := o) (i := 2) (v := some fi) oA (ga_nw (T0 := (T2.1, mz_u T2.2 o 1 (some me))) w3 pA2)
  have pS3 := ga_T (o := o) (i := 2) (v := some fi) oM3 (ga_nw (T0 := (T2.1, mz_u T2.2 o 1 (some me))) w3 pS2)
  have m13 := nw_mem (T0 := (T2.1, mz_u T2.2 o 1 (some me))) w3 m1
  have m23 := nw_mem (T0 := (T2.1, mz_u T2.2 o 1 (some me))) w3 m2
  have pJ3 := gj_T (o := o) (i := 2) (v := some fi) (Ne.symm oM2) (fun j hj q => oM4 (z_rc_mem.mpr ⟨j, hj, q⟩)) (gj_nw (T0 := (T2.1, mz_u T2.2 o 1 (some me))) w3 m2 pJ2)
  have e03 := tv_T (o := o) (i := 2) (v := some fi) (Ne.symm oM1) (tv_nw (T0 := (T2.1, mz_u T2.2 o 1 (some me))) w3 m1 e02)
  have e33 := tv_T (o := o) (i := 2) (v := some fi) (Ne.symm oM1) (tv_nw (T0 := (T2.1, mz_u T2.2 o 1 (some me))) w3 m1 e32)
  have f23 := tv_T (o := o) (i := 2) (v := some fi) nfi f2
  simp only [cd_X1_init, List.mem_append, hO3, r_rn0, r_rnc, r_vk0, r_vkc, r_vks, r_kci, r_kcv, r_ild, r_ald, r_lld, r_dld, r_Li, r_La, r_Ll, r_Ld, r_Ki, r_Ka, r_Kl, r_Kd, r_Kn, r_ist, r_ast, r_lst, r_dst, r_iinc, r_int, r_lng, r_dbl, r_i2, r_i1, r_l2, r_lsh, r_i2z, r_l2z, r_i2l, r_l2i, r_i2d, r_lcmp, r_ddiv, r_dcmpl, r_dup, r_dup2, r_pop, r_one_int, r_one_ref, r_go, r_if, r_ic, r_tsw, r_lsw, r_sw0, r_swc, r_lk0, r_lkc, r_kp, r_gI, r_gL, r_gR, r_pI, r_pZ, r_pL, r_pR, r_gs, r_ia, r_ca, r_za, r_la, r_da, r_aa, r_ias, r_cas, r_zas, r_las, r_das, r_aas, r_acp, r_new, r_nwa, r_nwq, r_ret, r_irt, r_zrt, r_lrt, r_drt, r_art, r_thr, r_cV0, r_cV1, r_cV2, r_cV3, r_cV4, r_cV5, r_cI0, r_cS0, r_cS1, r_cS2, r_cS3, r_cX0, r_cX1, r_cX2, r_cX3, r_rc, r_oi, r_refx, r_i10, r_i01, r_rfs, r_mem0, r_memc, r_beq, r_kl0, r_klz, r_kl1i, r_kl1r, r_kl1n, r_kl1l, r_kl1d, List.length_cons, List.length_nil, List.getElem?_cons_zero, List.getElem?_cons_succ, List.set_cons_zero, List.set_cons_succ, true_and, and_true, not_true, not_false_eq_true, false_implies, true_implies, or_true, true_or, or_false, false_or, Bool.or_false, Bool.false_or, decide_false, decide_true, Nat.reduceLT, Nat.reduceLeDiff, Nat.reduceAdd, Nat.reduceSub, ↓reduceIte, Nat.reduceEqDiff, Nat.lt_add_one]
  intro y0 hy0
  have ny0 : y0 ≠ o := Ne.symm (hy0 _ s3.2.2.1)
  refine c_X10i (nw_ob (T := (T3.1, mz_u T3.2 o 2 (some fi))) hy0) nw_lst (fun i => congrFun (if_pos rfl) i) (fun T4 I4 L4 Y eY w4 pY hz4 => ?_)
  have s4 := st_ob (T := (T3.1, mz_u T3.2 o 2 (some fi))) (f := 3) (q := y0) s3 w4 (by simp)
  have hO4 : (o, 0, 1) ∈ T4.1 := s4.2.2.1
  have fr4 : ∀ a x, (a, x) ∈ T3.1 → a ∉ [Y 0, Y 1, Y 2, Y 3, Y 4, Y 5, Y 6, Y 7, Y 8, Y 9] := fun a x hx e => w4.2.2 a e (a, x) hx rfl
  have oY := fr4 o _ hO3
  simp only [List.mem_cons, List.not_mem_nil, or_false, not_or] at oY
  obtain ⟨oY0, oY1, oY2, oY3, -⟩ := oY
  have pA4 := ga_T (o := o) (i := 3) (v := some y0) oA (ga_nw (T0 := (T3.1, mz_u T3.2 o 2 (some fi))) w4 pA3)
  have pS4 := ga_T (o := o) (i := 3) (v := some y0) oM3 (ga_nw (T0 := (T3.1, mz_u T3.2 o 2 (some fi))) w4 pS3)
  have m14 := nw_mem (T0 := (T3.1, mz_u T3.2 o 2 (some fi))) w4 m13
  have m24 := nw_mem (T0 := (T3.1, mz_u T3.2 o 2 (some fi))) w4 m23
  have pJ4 := gj_T (o := o) (i := 3) (v := some y0) (Ne.symm oM2) (fun j hj q => oM4 (z_rc_mem.mpr ⟨j, hj, q⟩)) (gj_nw (T0 := (T3.1, mz_u T3.2 o 2 (some fi))) w4 m23 pJ3)
  have e04 := tv_T (o := o) (i := 3) (v := some y0) (Ne.symm oM1) (tv_nw (T0 := (T3.1, mz_u T3.2 o 2 (some fi))) w4 m13 e03)
  have e34 := tv_T (o := o) (i := 3) (v := some y0) (Ne.symm oM1) (tv_nw (T0 := (T3.1, mz_u T3.2 o 2 (some fi))) w4 m13 e33)
  have f14 := nw_mem (T0 := (T3.1, mz_u T3.2 o 2 (some fi))) w4 f1
  have f34 := nw_mem (T0 := (T3.1, mz_u T3.2 o 2 (some fi))) w4 f3
  have f24 := tv_T (o := o) (i := 3) (v := some y0) nfi (tv_nw (T0 := (T3.1, mz_u T3.2 o 2 (some fi))) w4 f1 f23)
  have pY4 := sh_T (o := o) (i := 3) (v := some y0) (Ne.symm oY0) (Ne.symm oY1) (Ne.symm oY3) pY
  have yall : ∀ a, a ∈ [Y 2, Y 4, Y 5, Y 6] → a ∉ z_A.all A ∧ (∀ j, j < 6 → a ∉ (Aj j).all) ∧ a ∉ z_A.all sn := fun a ha => by
    have ha2 : a ∈ [Y 0, Y 1, Y 2, Y 3, Y 4, Y 5, Y 6, Y 7, Y 8, Y 9] := by simp at ha ⊢; omega
    refine ⟨fun q => ?_, fun j hj q => ?_, fun q => ?_⟩
    · obtain ⟨x, -, hx⟩ := z_mem pA3 a q
      exact fr4 a x hx ha2
    · obtain ⟨x, -, hx⟩ := z_mem (pJ3 j hj).2 a q
      exact fr4 a x hx ha2
    · obtain ⟨x, -, hx⟩ := z_mem pS3 a q
      exact fr4 a x hx ha2
  simp only [cd_X1_init, List.mem_append, hO4, r_rn0, r_rnc, r_vk0, r_vkc, r_vks, r_kci, r_kcv, r_ild, r_ald, r_lld, r_dld, r_Li, r_La, r_Ll, r_Ld, r_Ki, r_Ka, r_Kl, r_Kd, r_Kn, r_ist, r_ast, r_lst, r_dst, r_iinc, r_int, r_lng, r_dbl, r_i2, r_i1, r_l2, r_lsh, r_i2z, r_l2z, r_i2l, r_l2i, r_i2d, r_lcmp, r_ddiv, r_dcmpl, r_dup, r_dup2, r_pop, r_one_int, r_one_ref, r_go, r_if, r_ic, r_tsw, r_lsw, r_sw0, r_swc, r_lk0, r_lkc, r_kp, r_gI, r_gL, r_gR, r_pI, r_pZ, r_pL, r_pR, r_gs, r_ia, r_ca, r_za, r_la, r_da, r_aa, r_ias, r_cas, r_zas, r_las, r_das, r_aas, r_acp, r_new, r_nwa, r_nwq, r_ret, r_irt, r_zrt, r_lrt, r_drt, r_art, r_thr, r_cV0, r_cV1, r_cV2, r_cV3, r_cV4, r_cV5, r_cI0, r_cS0, r_cS1, r_cS2, r_cS3, r_cX0, r_cX1, r_cX2, r_cX3, r_rc, r_oi, r_refx, r_i10, r_i01, r_rfs, r_mem0, r_memc, r_beq, r_kl0, r_klz, r_kl1i, r_kl1r, r_kl1n, r_kl1l, r_kl1d, List.length_cons, List.length_nil, List.getElem?_cons_zero, List.getElem?_cons_succ, List.set_cons_zero, List.set_cons_succ, true_and, and_true, not_true, not_false_eq_true, false_implies, true_implies, or_true, true_or, or_false, false_or, Bool.or_false, Bool.false_or, decide_false, decide_true, Nat.reduceLT, Nat.reduceLeDiff, Nat.reduceAdd, Nat.reduceSub, ↓reduceIte, Nat.reduceEqDiff, Nat.lt_add_one]
  intro f6 hf6
  have nf6 : f6 ≠ o := Ne.symm (hf6 _ s4.2.2.1)
  refine c_X2i (nw_ob (T := (T4.1, mz_u T4.2 o 3 (some y0))) hf6) nw_lst (fun T5 I5 L5 f7 w5 pF _ => ?_)
  have s5 := st_ob (T := (T4.1, mz_u T4.2 o 3 (some y0))) (f := 4) (q := f6) s4 w5 (by simp)
  have hO5 : (o, 0, 1) ∈ T5.1 := s5.2.2.1
  have fr5 : ∀ a x, (a, x) ∈ T4.1 → a ∉ [f6, f7] := fun a x hx e => w5.2.2 a e (a, x) hx rfl
  have pA5 := ga_T (o := o) (i := 4) (v := some f6) oA (ga_nw (T0 := (T4.1, mz_u T4.2 o 3 (some y0))) w5 pA4)
  have pS5 := ga_T (o := o) (i := 4) (v := some f6) oM3 (ga_nw (T0 := (T4.1, mz_u T4.2 o 3 (some y0))) w5 pS4)
  have m15 := nw_mem (T0 := (T4.1, mz_u T4.2 o 3 (some y0))) w5 m14
  have m25 := nw_mem (T0 := (T4.1, mz_u T4.2 o 3 (some y0))) w5 m24
  have pJ5 := gj_T (o := o) (i := 4) (v := some f6) (Ne.symm oM2) (fun j hj q => oM4 (z_rc_mem.mpr ⟨j, hj, q⟩)) (gj_nw (T0 := (T4.1, mz_u T4.2 o 3 (some y0))) w5 m24 pJ4)
  have e05 := tv_T (o := o) (i := 4) (v := some f6) (Ne.symm oM1) (tv_nw (T0 := (T4.1, mz_u T4.2 o 3 (some y0))) w5 m14 e04)
  have e35 := tv_T (o := o) (i := 4) (v := some f6) (Ne.symm oM1) (tv_nw (T0 := (T4.1, mz_u T4.2 o 3 (some y0))) w5 m14 e34)
  have f15 := nw_mem (T0 := (T4.1, mz_u T4.2 o 3 (some y0))) w5 f14
  have f35 := nw_mem (T0 := (T4.1, mz_u T4.2 o 3 (some y0))) w5 f34
  have f25 := tv_T (o := o) (i := 4) (v := some f6) nfi (tv_nw (T0 := (T4.1, mz_u T4.2 o 3 (some y0))) w5 f14 f24)
  have pY5 := sh_T (o := o) (i := 4) (v := some f6) (Ne.symm oY0) (Ne.symm oY1) (Ne.symm oY3) (sh_nw (T0 := (T4.1, mz_u T4.2 o 3 (some y0))) w5 pY4)
  have pF5 := fd_T (o := o) (i := 4) (v := some f6) nf6 pF
  simp only [cd_X1_init, List.mem_append, hO5, r_rn0, r_rnc, r_vk0, r_vkc, r_vks, r_kci, r_kcv, r_ild, r_ald, r_lld, r_dld, r_Li, r_La, r_Ll, r_Ld, r_Ki, r_Ka, r_Kl, r_Kd, r_Kn, r_ist, r_ast, r_lst, r_dst, r_iinc, r_int, r_lng, r_dbl, r_i2, r_i1, r_l2, r_lsh, r_i2z, r_l2z, r_i2l, r_l2i, r_i2d, r_lcmp, r_ddiv, r_dcmpl, r_dup, r_dup2, r_pop, r_one_int, r_one_ref, r_go, r_if, r_ic, r_tsw, r_lsw, r_sw0, r_swc, r_lk0, r_lkc, r_kp, r_gI, r_gL, r_gR, r_pI, r_pZ, r_pL, r_pR, r_gs, r_ia, r_ca, r_za, r_la, r_da, r_aa, r_ias, r_cas, r_zas, r_las, r_das, r_aas, r_acp, r_new, r_nwa, r_nwq, r_ret, r_irt, r_zrt, r_lrt, r_drt, r_art, r_thr, r_cV0, r_cV1, r_cV2, r_cV3, r_cV4, r_cV5, r_cI0, r_cS0, r_cS1, r_cS2, r_cS3, r_cX0, r_cX1, r_cX2, r_cX3, r_rc, r_oi, r_refx, r_i10, r_i01, r_rfs, r_mem0, r_memc, r_beq, r_kl0, r_klz, r_kl1i, r_kl1r, r_kl1n, r_kl1l, r_kl1d, List.length_cons, List.length_nil, List.getElem?_cons_zero, List.getElem?_cons_succ, List.set_cons_zero, List.set_cons_succ, true_and, and_true, not_true, not_false_eq_true, false_implies, true_implies, or_true, true_or, or_false, false_or, Bool.or_false, Bool.false_or, decide_false, decide_true, Nat.reduceLT, Nat.reduceLeDiff, Nat.reduceAdd, Nat.reduceSub, ↓reduceIte, Nat.reduceEqDiff, Nat.lt_add_one]
  have i7 : I5 A.g = I1 A.g := by
    rw [nw_I2 (T0 := (T4.1, mz_u T4.2 o 3 (some y0))) w5 pA4.1.1, nw_I2 (T0 := (T3.1, mz_u T3.2 o 2 (some fi))) w4 pA3.1.1, nw_I2 (T0 := (T2.1, mz_u T2.2 o 1 (some me))) w3 pA2.1.1, nw_I2 (T0 := (T1.1, mz_u T1.2 o 0 (some g))) w2 pA1.1.1]
  have i2 : I5 me = I2 me := by
    rw [nw_I2 (T0 := (T4.1, mz_u T4.2 o 3 (some y0))) w5 m14, nw_I2 (T0 := (T3.1, mz_u T3.2 o 2 (some fi))) w4 m13, nw_I2 (T0 := (T2.1, mz_u T2.2 o 1 (some me))) w3 m1]
  have i0 : I5 y0 = I4 y0 := by
    rw [← eY, nw_I2 (T0 := (T4.1, mz_u T4.2 o 3 (some y0))) w5 pY4.1]
  have il : I5 lt = I3 lt := by
    rw [nw_I2 (T0 := (T4.1, mz_u T4.2 o 3 (some y0))) w5 f34, nw_I2 (T0 := (T3.1, mz_u T3.2 o 2 (some fi))) w4 f3]
  refine h _ _ _ (fun j => [0, o, me, ra, fi, lt, f6, f7].getD j 0) A Aj sn Y rfl ?_ ⟨⟨⟨hO5, ?_⟩, s5.2.2.2.1 (1, me) (by simp), s5.2.2.2.1 (2, fi) (by simp), ?_, s5.2.2.2.1 (4, f6) (by simp)⟩, ⟨f15, f25, f35⟩, pF5, pA5, pS5, ⟨m15, m25, e05, e35⟩, pJ5, pY5, ⟨dj, djJ, djA.2, djA.1, djs⟩, ⟨fun a ha => ?_, ?_, ?_⟩, ⟨?_, ?_, fun i => ?_, fun i => ?_, fun j hj => ?_⟩⟩
  · refine nw_sub s5.1 (fun a ha => ?_)
    unfold e_keys at ha
    simp only [List.getD_cons_zero, List.getD_cons_succ, List.mem_append, List.mem_cons, List.not_mem_nil, or_false] at ha ⊢
    rcases ha with (e | e | e | e | e | e | e | e) | e | e | e
    · simp [e]
    · simp [e]
    · simp [e]
    · simp [e]
    · simp [e]
    · simp [e]
    · simp [e]
    · simp [e]
    · simp [e]
    · simp [e]
    · simp [e]
  · rw [eA]; exact s5.2.2.2.1 (0, g) (by simp)
  · rw [eY]; exact s5.2.2.2.1 (3, y0) (by simp)
  · have ha : a = f7 ∨ a ∈ [Y 2, Y 4, Y 5, Y 6] := by
      rcases List.mem_cons.mp ha with e | e
      · exact Or.inl e
      · exact Or.inr e
    rcases ha with e | e
    · subst e
      refine ⟨fun q => ?_, fun j hj q => ?_, fun q => ?_⟩
      · obtain ⟨x, -, hx⟩ := z_mem pA4 a q
        exact fr5 a x hx (by simp)
      · obtain ⟨x, -, hx⟩ := z_mem (pJ4 j hj).2 a q
        exact fr5 a x hx (by simp)
      · obtain ⟨x, -, hx⟩ := z_mem pS4 a q
        exact fr5 a x hx (by simp)
    · exact yall a e
  · exact fun e => fr5 _ _ pY4.2.2.1.1.2.1 (by rw [← e]; simp)
  · exact fun e => fr5 _ _ pY4.2.2.1.2.1.2.1 (by rw [← e]; simp)
  · rw [i7, eA]; exact v7
  · rw [i7, eA]; exact v8
  · show I5 me i = 0
    rw [i2]; exact hz2 i
  · rw [eY, i0]; exact hz4 i
  · show I5 lt j = f_lt j
    rw [il]; exact f4 j hj
end CON5
