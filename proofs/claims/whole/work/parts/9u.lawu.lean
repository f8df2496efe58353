/-! the law from its beginning -/
section LAWU
variable {G : mz_G} {K : mz_K} {X : mz_X} {T : mz_T} {I : mz_I} {L : mz_L}
variable {V : Nat → Nat} {A : z_A} {Aj : Nat → z_A} {sn : z_A} {Y D : Nat → Nat} {B many n : Nat} {m : Nat → Int32} {rr : Nat → Nat → Int32} {has : Bool} {ms : Nat → Int32} {s0 s1 dly lim : Int32} {cs : Nat → Int32} {fl : Int32}

variable {T0 : mz_T} {I0 : mz_I} {L0 : mz_L}
theorem mz_apW {M : mz_M} {pc : Nat} {lv : List (Option Value)} {s : List Value} {c : mz_N} (h : (∀ a x y, (a, x) ∈ T.1 → (a, y) ∈ T.1 → x = y) → mz_W G M K X pc lv s T I L c) : mz_W G M K X pc lv s T I L c := by
  intro hG p e s m args below meth c Q hc hk hx H locs ls hP
  exact h (fun _ _ _ h1 h2 => mz_uniq hP.2.1 h1 h2) hG p e s m args below meth c Q hc hk hx H locs ls hP
theorem pR_nw {S : List Nat} (w : n_w T0 T I0 I L0 L S) (h : p_R T0 I0 L0 A B m) : p_R T I L A B m := by
  have e : ∀ a, a ∈ z_A.all A → I a = I0 a ∧ L a = L0 a := fun a ha => by
    obtain ⟨x, -, hx⟩ := z_mem h.sh a ha
    exact (w.2.1 a x hx).2
  have hT := ga_nw w h.sh
  have h2 := p_R_fr h (fun a ha => (e a ha).1) (e _ z_bm).2
  refine ⟨hT, h2.fld, h2.nof, h2.over, h2.held, h2.used, ?_, h2.live, ?_, h2.sc, h2.lev, h2.hard, h2.pcs, h2.cnt, h2.lat⟩
  · obtain ⟨kd, s, c, r, ⟨p1, p2⟩, ho⟩ := h2.pos
    exact ⟨kd, s, c, r, ⟨nw_mem w p1, p2⟩, ho⟩
  · obtain ⟨z, z1, z2, z3, z4⟩ := h2.bags
    exact ⟨z, z1, z2, hT.2.2.2.1, z4⟩
theorem pM_nw {S : List Nat} {me ra nw : Nat} (w : n_w T0 T I0 I L0 L S) (h : p_M T0 I0 L0 me ra Aj nw many B rr) : p_M T I L me ra Aj nw many B rr := by
  obtain ⟨⟨h1, h2, h3, h4, h5⟩, ⟨h6, h7, h8, h9⟩, h10⟩ := h
  exact ⟨⟨nw_mem w h1, nw_mem w h2, tv_nw w h1 h3, gj_nw w h2 h4, h5⟩, ⟨by rw [nw_I2 w h1]; exact h6, h7, by rw [nw_I2 w h1]; exact h8, h9⟩, fun i hi => pR_nw w (h10 i hi)⟩
theorem w_C_nw {S : List Nat} (w : n_w T0 T I0 I L0 L S) (hS : w_Sc T0 V A Aj sn Y) (hy : I0 (Y 0) 1 = 0) (h : w_C T0 I0 L0 V A Aj sn Y B m many rr false ms s0 s1 dly lim n cs fl) : w_C T I L V A Aj sn Y B m many rr false ms s0 s1 dly lim n cs fl := by
  obtain ⟨c1, ⟨nw, c2⟩, ⟨⟨c3, c31, c32⟩, c33, c34⟩, ⟨c4, c4'⟩, c5, ⟨c6, -⟩, ⟨c7, c8, c9, c10, c11⟩⟩ := h
  obtain ⟨-, -, ⟨v1, v2, v3⟩, -, ⟨t1, t2, t3⟩, -⟩ := hS
  refine ⟨pR_nw w c1, ⟨nw, pM_nw w c2⟩, ⟨⟨nw_mem w c3, tv_nw w c3 c31, ga_nw w c32⟩, by rw [nw_I2 w c3]; exact c33, fun q => absurd q (by decide)⟩, ⟨by rw [nw_I2 w c1.sh.1.1]; exact c4, by rw [nw_I2 w c1.sh.1.1]; exact c4'⟩, by rw [nw_I2 w v3]; exact c5, ⟨sh_nw w c6, Or.inl (by rw [nw_I2 w c6.1]; exact hy)⟩, ⟨by rw [nw_I2 w t1]; exact c7, c8, by rw [nw_I2 w t1]; exact c9, by rw [nw_I2 w t3]; exact c10, by rw [nw_I2 w t1]; exact c11⟩⟩
theorem mo_nw {S : List Nat} (w : n_w T0 T I0 I L0 L S) (h : p_Mo T0 D) : p_Mo T D := by
  obtain ⟨h0, ⟨r1, r2, r3, r5, r6, r8, r9, r10, r11, r12, r13, r14, r16, r17, r19, r20, r22, r23⟩, ⟨t1, t2, t3, t5, t6, t8, t9, t10, t11, t12, t13, t14, t16, t17, t19, t20, t22, t23⟩, u⟩ := h
  exact ⟨nw_mem w h0, ⟨tv_nw w h0 r1, tv_nw w h0 r2, tv_nw w h0 r3, tv_nw w h0 r5, tv_nw w h0 r6, tv_nw w h0 r8, tv_nw w h0 r9, tv_nw w h0 r10, tv_nw w h0 r11, tv_nw w h0 r12, tv_nw w h0 r13, tv_nw w h0 r14, tv_nw w h0 r16, tv_nw w h0 r17, tv_nw w h0 r19, tv_nw w h0 r20, tv_nw w h0 r22, tv_nw w h0 r23⟩, ⟨nw_mem w t1, nw_mem w t2, nw_mem w t3, nw_mem w t5, nw_mem w t6, nw_mem w t8, nw_mem w t9, nw_mem w t10, nw_mem w t11, nw_mem w t12, nw_mem w t13, nw_mem w t14, nw_mem w t16, nw_mem w t17, nw_mem w t19, nw_mem w t20, nw_mem w t22, nw_mem w t23⟩, u⟩
theorem mo_mem {a : Nat} (h : p_Mo T D) (ha : a ∈ w_MA D) : ∃ x, (a, x) ∈ T.1 := by
  obtain ⟨h0, -, ⟨t1, t2, t3, t5, t6, t8, t9, t10, t11, t12, t13, t14, t16, t17, t19, t20, t22, t23⟩, -⟩ := h
  unfold w_MA at ha
  simp only [List.mem_cons, List.not_mem_nil, or_false] at ha
  rcases ha with e | e | e | e | e | e | e | e | e | e | e | e | e | e | e | e | e | e | e <;> subst e <;> exact ⟨_, by assumption⟩
theorem sc_mem {a : Nat} (hS : w_Sc T V A Aj sn Y) (h : w_C T I L V A Aj sn Y B m many rr has ms s0 s1 dly lim n cs fl) (ha : a ∈ w_CA V A Aj sn Y) : ∃ x, (a, x) ∈ T.1 ∧ (x = (0, 6) ∨ x = (1, 220) ∨ x = (0, 5) ∨ x = (5, 60) ∨ x = (0, 10) ∨ x = (0, 8) ∨ x = (1, 2048) ∨ x ∈ z_sh) := by
  obtain ⟨c1, ⟨nw, c2⟩, ⟨⟨c3, c31, c32⟩, -⟩, -, -, ⟨⟨y1, -, ⟨⟨ya, yb, yc⟩, ⟨yd, ye, yf⟩, y5, y6, y7, y8, y9⟩, -⟩, -⟩, -⟩ := h
  obtain ⟨-, -, -, ⟨f1, f2, f3⟩, ⟨t1, t2, t3⟩, -⟩ := hS
  unfold w_CA at ha
  rcases List.mem_append.mp ha with q | q
  · simp only [List.mem_cons, List.not_mem_nil, or_false] at q
    rcases q with e | e | e | e | e | e | e | e | e | e | e <;> subst e
    · exact ⟨_, c3, by simp⟩
    · exact ⟨_, f2, by simp⟩
    · exact ⟨_, t1, by simp⟩
    · exact ⟨_, t3, by simp⟩
    · exact ⟨_, y1, by simp⟩
    · exact ⟨_, yb, by simp⟩
    · exact ⟨_, ye, by simp⟩
    · exact ⟨_, y5, by simp⟩
    · exact ⟨_, y6, by simp⟩
    · exact ⟨_, y7, by simp⟩
    · exact ⟨_, y8, by simp⟩
  · have key : ∀ {A : z_A}, p_GA T A → a ∈ z_A.all A → ∃ x, (a, x) ∈ T.1 ∧ (x = (0, 6) ∨ x = (1, 220) ∨ x = (0, 5) ∨ x = (5, 60) ∨ x = (0, 10) ∨ x = (0, 8) ∨ x = (1, 2048) ∨ x ∈ z_sh) := fun p q => by
      obtain ⟨x, hx, hm⟩ := z_mem p a q
      exact ⟨x, hm, by simp [hx]⟩
    rcases List.mem_append.mp q with q | q
    · exact key c1.sh q
    · rcases List.mem_append.mp q with q | q
      · obtain ⟨j, hj, q⟩ := z_rec_mem.mp q
        exact key (c2.1.2.2.2.1 j hj).2 q
      · exact key c32 q
set_option maxRecDepth 100000 in
theorem w_start (hL : mz_gL G ≤ 2048) (hK : ∀ T I L, K (some (.int 1)) T I L) : mz_W G M_L_law K mz_nX 0 [some (.ref (mz_gr G 4)), none, none, none, none, none, none, none, none] [] T I L (0, 0) := by
  refine mz_vc ok_L_law [28] [(), (), (), (), (), (), (), (), (), (), (), (), (), (), (), (), (), (), (), (), (), (), (), (), (), (), (), (), (), ()] ?_
  simp only [cd_L_law, List.mem_append, r_rn0, r_rnc, r_vk0, r_vkc, r_vks, r_kci, r_kcv, r_ild, r_ald, r_lld, r_dld, r_Li, r_La, r_Ll, r_Ld, r_Ki, r_Ka, r_Kl, r_Kd, r_Kn, r_ist, r_ast, r_lst, r_dst, r_iinc, r_int, r_lng, r_dbl, r_i2, r_i1, r_l2, r_lsh, r_i2z, r_l2z, r_i2l, r_l2i, r_i2d, r_lcmp, r_ddiv, r_dcmpl, r_dup, r_dup2, r_pop, r_one_int, r_one_ref, r_go, r_if, r_ic, r_tsw, r_lsw, r_sw0, r_swc, r_lk0, r_lkc, r_kp, r_gI, r_gL, r_gR, r_pI, r_pZ, r_pL, r_pR, r_gs, r_ia, r_ca, r_za, r_la, r_da, r_aa, r_ias, r_cas, r_zas, r_las, r_das, r_aas, r_acp, r_new, r_nwa, r_nwq, r_ret, r_irt, r_zrt, r_lrt, r_drt, r_art, r_thr, r_cV0, r_cV1, r_cV2, r_cV3, r_cV4, r_cV5, r_cI0, r_cS0, r_cS1, r_cS2, r_cS3, r_cX0, r_cX1, r_cX2, r_cX3, r_rc, r_oi, r_refx, r_i10, r_i01, r_rfs, r_mem0, r_memc, r_beq, r_kl0, r_klz, r_kl1i, r_kl1r, r_kl1n, r_kl1l, r_kl1d, List.length_cons, List.length_nil, List.getElem?_cons_zero, List.getElem?_cons_succ, List.set_cons_zero, List.set_cons_succ, true_and, and_true, not_true, not_false_eq_true, false_implies, true_implies, or_true, true_or, or_false, false_or, Bool.or_false, Bool.false_or, decide_false, decide_true, Nat.reduceLT, Nat.reduceLeDiff, Nat.reduceAdd, Nat.reduceSub, ↓reduceIte, Nat.reduceEqDiff, Nat.lt_add_one]
  intro v hv
  refine c_X11i (nw_ob hv) nw_lst (fun T1 I1 L1 V A Aj sn Y cs eV n1 sc wc hy => ?_)
  simp only [cd_L_law, List.mem_append, r_rn0, r_rnc, r_vk0, r_vkc, r_vks, r_kci, r_kcv, r_ild, r_ald, r_lld, r_dld, r_Li, r_La, r_Ll, r_Ld, r_Ki, r_Ka, r_Kl, r_Kd, r_Kn, r_ist, r_ast, r_lst, r_dst, r_iinc, r_int, r_lng, r_dbl, r_i2, r_i1, r_l2, r_lsh, r_i2z, r_l2z, r_i2l, r_l2i, r_i2d, r_lcmp, r_ddiv, r_dcmpl, r_dup, r_dup2, r_pop, r_one_int, r_one_ref, r_go, r_if, r_ic, r_tsw, r_lsw, r_sw0, r_swc, r_lk0, r_lkc, r_kp, r_gI, r_gL, r_gR, r_pI, r_pZ, r_pL, r_pR, r_gs, r_ia, r_ca, r_za, r_la, r_da, r_aa, r_ias, r_cas, r_zas, r_las, r_das, r_aas, r_acp, r_new, r_nwa, r_nwq, r_ret, r_irt, r_zrt, r_lrt, r_drt, r_art, r_thr, r_cV0, r_cV1, r_cV2, r_cV3, r_cV4, r_cV5, r_cI0, r_cS0, r_cS1, r_cS2, r_cS3, r_cX0, r_cX1, r_cX2, r_cX3, r_rc, r_oi, r_refx, r_i10, r_i01, r_rfs, r_mem0, r_memc, r_beq, r_kl0, r_klz, r_kl1i, r_kl1r, r_kl1n, r_kl1l, r_kl1d, List.length_cons, List.length_nil, List.getElem?_cons_zero, List.getElem?_cons_succ, List.set_cons_zero, List.set_cons_succ, true_and, and_true, not_true, not_false_eq_true, false_implies, true_implies, or_true, true_or, or_false, false_or, Bool.or_false, Bool.false_or, decide_false, decide_true, Nat.reduceLT, Nat.reduceLeDiff, Nat.reduceAdd, Nat.reduceSub, ↓reduceIte, Nat.reduceEqDiff, Nat.lt_add_one]
  intro d hd
  refine c_X12i (nw_ob (T := T1) hd) nw_lst (fun i => congrFun (if_pos rfl) i) (fun T2 I2 L2 D m rr ms s0 s1 eD n2 hM hr => ?_)
  simp only [cd_L_law, List.mem_append, r_rn0, r_rnc, r_vk0, r_vkc, r_vks, r_kci, r_kcv, r_ild, r_ald, r_lld, r_dld, r_Li, r_La, r_Ll, r_Ld, r_Ki, r_Ka, r_Kl, r_Kd, r_Kn, r_ist, r_ast, r_lst, r_dst, r_iinc, r_int, r_lng, r_dbl, r_i2, r_i1, r_l2, r_lsh, r_i2z, r_l2z, r_i2l, r_l2i, r_i2d, r_lcmp, r_ddiv, r_dcmpl, r_dup, r_dup2, r_pop, r_one_int, r_one_ref, r_go, r_if, r_ic, r_tsw, r_lsw, r_sw0, r_swc, r_lk0, r_lkc, r_kp, r_gI, r_gL, r_gR, r_pI, r_pZ, r_pL, r_pR, r_gs, r_ia, r_ca, r_za, r_la, r_da, r_aa, r_ias, r_cas, r_zas, r_las, r_das, r_aas, r_acp, r_new, r_nwa, r_nwq, r_ret, r_irt, r_zrt, r_lrt, r_drt, r_art, r_thr, r_cV0, r_cV1, r_cV2, r_cV3, r_cV4, r_cV5, r_cI0, r_cS0, r_cS1, r_cS2, r_cS3, r_cX0, r_cX1, r_cX2, r_cX3, r_rc, r_oi, r_refx, r_i10, r_i01, r_rfs, r_mem0, r_memc, r_beq, r_kl0, r_klz, r_kl1i, r_kl1r, r_kl1n, r_kl1l, r_kl1d, List.length_cons, List.length_nil, List.getElem?_cons_zero, List.getElem?_cons_succ, List.set_cons_zero, List.set_cons_succ, true_and, and_true, not_true, not_false_eq_true, false_implies, true_implies, or_true, true_or, or_false, false_or, Bool.or_false, Bool.false_or, decide_false, decide_true, Nat.reduceLT, Nat.reduceLeDiff, Nat.reduceAdd, Nat.reduceSub, ↓reduceIte, Nat.reduceEqDiff, Nat.lt_add_one]
  intro l3 h3 l4 h40
  have h4 : ∀ x ∈ T2.1 ++ [(l3, 2, 1)], x.1 ≠ l4 := fun x hx => h40 x (List.mem_append.mp hx)
  have n3 := nw_new (T0 := T2) (x := (3, 1)) (v := 0) (w := 0) (nw_new (T0 := T2) (T := T2) (I0 := I2) (I := I2) (L0 := L2) (L := L2) (x := (2, 1)) (v := 0) (w := 0) nw_0 h3) h4
  have n4 := nw_tr n2 n3
  have wcs := wc rr ms s0 s1
  have hfresh : ∀ a, a ∈ w_CA V A Aj sn Y → a ∉ w_MA D := fun a ha hq => by
    obtain ⟨x, hx, -⟩ := sc_mem sc wcs ha
    exact n2.2.2 a hq (a, x) hx rfl
  have hf5 : V 5 ∉ w_MA D := fun hq => n2.2.2 _ hq (V 5, 1, 448) sc.2.2.1.2.2 rfl
  have m10 : (l3, 2, 1) ∈ T2.1 ++ [(l3, 2, 1)] ++ [(l4, 3, 1)] := List.mem_append_left _ nw_lst
  have m11 : (l4, 3, 1) ∈ T2.1 ++ [(l3, 2, 1)] ++ [(l4, 3, 1)] := nw_lst
  have hMr : ∀ cs, r_S (mz_z (mz_z I2 l3 0) l4 0) D (r_begun m rr 1) false ms s0 s1 5 8 0 cs (-1) := fun cs => r_S_K (hr cs) (fun a ha => by
    obtain ⟨x, hx⟩ := mo_mem hM ha
    exact nw_I2 n3 hx)
  have hM4 := mo_nw n3 hM
  have wc4 := w_C_nw n4 sc hy wcs
  have sc4 := sc_nw n4 sc
  have wc5 := w_C_x wc4 (re_begun (m := m) (rr := rr) (n0 := 1) (by decide)).1
  refine mz_apW fun hU => ?_
  have hf5' : V 5 ∉ w_CA V A Aj sn Y := fun hq => by
    obtain ⟨x, hx, hc⟩ := sc_mem sc4 wc4 hq
    have e := hU _ _ _ hx sc4.2.2.1.2.2
    subst e
    revert hc
    decide
  obtain ⟨q1, q2, q3, q4, q5, q6, q7, q8⟩ := sc4
  subst eV
  subst eD
  exact w_law (V := fun j => match j with | 10 => l3 | 11 => l4 | j => V j) (A := A) (Aj := Aj) (sn := sn) (Y := Y) (D := D) ⟨q1, q2, q3, q4, q5, ⟨m10, m11⟩, hM4, q6, q7, q8, hfresh, hf5', hf5⟩ hL (hK _) 2048 0 0 _ _ _ _ _ _ (by omega) (by decide) (by decide) (by decide) (by decide) ⟨r_begun m rr 1, false, ms, s0, s1, 5, 8, 0, cs, -1, wc5, hMr cs⟩
end LAWU
