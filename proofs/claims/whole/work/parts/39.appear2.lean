/-! the engine: appear -/
section APPEAR2
variable {G : mz_G} {K : mz_K} {T : mz_T} {I : mz_I} {L : mz_L}
theorem fl_of {k : Nat} {m : Nat → Int32} (h : ∀ i, i < 220 → I k i = m i - 1) : ∀ i, i < 220 → s_fl (I k) i = s_fm m i := by
  intro i hi
  unfold s_fl s_fm
  rw [h i hi]
  by_cases q : m i = 0
  · simp [q, hi]
  · have : ¬ m i - 1 = -1 := fun e => q ((z_m1 _).mp e)
    simp [q, hi, this]
theorem c_appearE {en me ra nw many B kd : Nat} {A : z_A} {Aj : Nat → z_A} {m : Nat → Int32} {rr : Nat → Nat → Int32} (hE : p_E T en A) (hE1 : T.2 en 1 = some me) (h : p_Q T I L A B m) (hM : p_M T I L me ra Aj nw many B rr) (hdj : ∀ j, j < 6 → z_dj (Aj j) A) (hk : kd < 7)
    (ht : o_fits m kd = true → ∀ I' L' nw', fr I I' (A.x :: A.p :: me :: z_rec Aj) → fr L L' (z_rec Aj) → p_R T I' L' A B (o_app m kd) → p_M T I' L' me ra Aj nw' (s_mn many) B (s_push many rr (o_app m kd)) → (∀ i, 3 ≤ i → I' me i = I me i) → K none T I' L')
    (hn : o_fits m kd = false → ∀ I', fr I I' [A.x, A.p, A.g] → p_R T I' L A B (m_u (o_app m kd) 221 1) → (∀ i, 7 ≤ i → I' A.g i = I A.g i) → K none T I' L) : mz_Ctr G M_X1_appear [.ref en, .int (zI kd)] T I L K := by
  refine mz_apartC fun hU => ?_
  obtain ⟨e1, e2⟩ := id hE
  obtain ⟨⟨hA, hfld, hnof⟩, ⟨ho1, ho2⟩, hh, ⟨hu1, hu2⟩, -⟩ := id h
  obtain ⟨⟨g1, g2, g3, g4, g5⟩, hF, hX, hB9, hS⟩ := id hA
  obtain ⟨f1, f2, f3⟩ := id hF
  obtain ⟨x1, x2, x3⟩ := id hX
  obtain ⟨⟨m1, m2, m3, m4, m5⟩, ⟨m6, m7, m8, m9⟩, m10⟩ := id hM
  have hkx : A.k ≠ A.x := mz_ne hU f2 x1 (by decide)
  have hkp : A.k ≠ A.p := mz_ne hU f2 x3 (by decide)
  have hmx : me ≠ A.x := mz_ne hU m1 x1 (by decide)
  have hmp : me ≠ A.p := mz_ne hU m1 x3 (by decide)
  have hgx : A.g ≠ A.x := mz_ne hU g1 x1 (by decide)
  have hgp : A.g ≠ A.p := mz_ne hU g1 x3 (by decide)
  have hpg : A.p ≠ A.g := Ne.symm hgp
  refine mz_ofl mk_X1_appear rfl (Nat.le_of_ble_eq_true rfl) (Nat.le_of_ble_eq_true rfl) [some (.ref en), some (.int (zI kd))] rfl ?_
  refine mz_vc ok_X1_appear [] [(), (), (), (), (), (), (), (), (), (), (), (), (), (), (), (), (), (), (), (), (), (), (), (), (), (), (), (), (), ()] ?_
  simp only [cd_X1_appear, e1, e2, hE1, g1, g2, g3, f1, x1, x2, x3, m1, r_rn0, r_rnc, r_vk0, r_vkc, r_vks, r_kci, r_kcv, r_ild, r_ald, r_lld, r_dld, r_Li, r_La, r_Ll, r_Ld, r_Ki, r_Ka, r_Kl, r_Kd, r_Kn, r_ist, r_ast, r_lst, r_dst, r_iinc, r_int, r_lng, r_dbl, r_i2, r_i1, r_l2, r_lsh, r_i2z, r_l2z, r_i2l, r_l2i, r_i2d, r_lcmp, r_ddiv, r_dcmpl, r_dup, r_dup2, r_pop, r_one_int, r_one_ref, r_go, r_if, r_ic, r_tsw, r_lsw, r_sw0, r_swc, r_lk0, r_lkc, r_kp, r_gI, r_gL, r_gR, r_pI, r_pZ, r_pL, r_pR, r_gs, r_ia, r_ca, r_za, r_la, r_da, r_aa, r_ias, r_cas, r_zas, r_las, r_das, r_aas, r_acp, r_new, r_nwa, r_nwq, r_ret, r_irt, r_zrt, r_lrt, r_drt, r_art, r_thr, r_cV0, r_cV1, r_cV2, r_cV3, r_cV4, r_cV5, r_cI0, r_cS0, r_cS1, r_cS2, r_cS3, r_cX0, r_cX1, r_cX2, r_cX3, r_rc, r_oi, r_refx, r_i10, r_i01, r_rfs, r_mem0, r_memc, r_beq, r_kl0, r_klz, r_kl1i, r_kl1r, r_kl1n, r_kl1l, r_kl1d, List.length_cons, List.length_nil, List.getElem?_cons_zero, List.getElem?_cons_succ, List.set_cons_zero, List.set_cons_succ, true_and, and_true, not_true, not_false_eq_true, false_implies, true_implies, or_true, true_or, or_false, false_or, Bool.or_false, Bool.false_or, decide_false, decide_true, Nat.reduceLT, Nat.reduceLeDiff, Nat.reduceAdd, Nat.reduceSub, ↓reduceIte, Nat.reduceEqDiff, Nat.lt_add_one]
  refine c_appearX hX hk (fun I1 q1 hp1 hx1 => ?_)
  simp only [cd_X1_appear, e1, e2, hE1, g1, g2, g3, f1, x1, x2, x3, m1, r_rn0, r_rnc, r_vk0, r_vkc, r_vks, r_kci, r_kcv, r_ild, r_ald, r_lld, r_dld, r_Li, r_La, r_Ll, r_Ld, r_Ki, r_Ka, r_Kl, r_Kd, r_Kn, r_ist, r_ast, r_lst, r_dst, r_iinc, r_int, r_lng, r_dbl, r_i2, r_i1, r_l2, r_lsh, r_i2z, r_l2z, r_i2l, r_l2i, r_i2d, r_lcmp, r_ddiv, r_dcmpl, r_dup, r_dup2, r_pop, r_one_int, r_one_ref, r_go, r_if, r_ic, r_tsw, r_lsw, r_sw0, r_swc, r_lk0, r_lkc, r_kp, r_gI, r_gL, r_gR, r_pI, r_pZ, r_pL, r_pR, r_gs, r_ia, r_ca, r_za, r_la, r_da, r_aa, r_ias, r_cas, r_zas, r_las, r_das, r_aas, r_acp, r_new, r_nwa, r_nwq, r_ret, r_irt, r_zrt, r_lrt, r_drt, r_art, r_thr, r_cV0, r_cV1, r_cV2, r_cV3, r_cV4, r_cV5, r_cI0, r_cS0, r_cS1, r_cS2, r_cS3, r_cX0, r_cX1, r_cX2, r_cX3, r_rc, r_oi, r_refx, r_i10, r_i01, r_rfs, r_mem0, r_memc, r_beq, r_kl0, r_klz, r_kl1i, r_kl1r, r_kl1n, r_kl1l, r_kl1d, List.length_cons, List.length_nil, List.getElem?_cons_zero, List.getElem?_cons_succ, List.set_cons_zero, List.set_cons_succ, true_and, and_true, not_true, not_false_eq_true, false_implies, true_implies, or_true, true_or, or_false, false_or, Bool.or_false, Bool.false_or, decide_false, decide_true, Nat.reduceLT, Nat.reduceLeDiff, Nat.reduceAdd, Nat.reduceSub, ↓reduceIte, Nat.reduceEqDiff, Nat.lt_add_one]
  refine c_fits hp1 hF ?_
  have ek : I1 A.k = I A.k := q1 _ (by simp; exact ⟨hkx, hkp⟩)
  have ef : s_fit (s_fl (I1 A.k)) kd 0 (s_c0 kd) (s_r0 kd) = o_fits m kd := by rw [ek, s_fit_cg (fl_of hfld)]; rfl
  rw [ef]
  simp only [cd_X1_appear, e1, e2, hE1, g1, g2, g3, f1, x1, x2, x3, m1, b2i_0, r_rn0, r_rnc, r_vk0, r_vkc, r_vks, r_kci, r_kcv, r_ild, r_ald, r_lld, r_dld, r_Li, r_La, r_Ll, r_Ld, r_Ki, r_Ka, r_Kl, r_Kd, r_Kn, r_ist, r_ast, r_lst, r_dst, r_iinc, r_int, r_lng, r_dbl, r_i2, r_i1, r_l2, r_lsh, r_i2z, r_l2z, r_i2l, r_l2i, r_i2d, r_lcmp, r_ddiv, r_dcmpl, r_dup, r_dup2, r_pop, r_one_int, r_one_ref, r_go, r_if, r_ic, r_tsw, r_lsw, r_sw0, r_swc, r_lk0, r_lkc, r_kp, r_gI, r_gL, r_gR, r_pI, r_pZ, r_pL, r_pR, r_gs, r_ia, r_ca, r_za, r_la, r_da, r_aa, r_ias, r_cas, r_zas, r_las, r_das, r_aas, r_acp, r_new, r_nwa, r_nwq, r_ret, r_irt, r_zrt, r_lrt, r_drt, r_art, r_thr, r_cV0, r_cV1, r_cV2, r_cV3, r_cV4, r_cV5, r_cI0, r_cS0, r_cS1, r_cS2, r_cS3, r_cX0, r_cX1, r_cX2, r_cX3, r_rc, r_oi, r_refx, r_i10, r_i01, r_rfs, r_mem0, r_memc, r_beq, r_kl0, r_klz, r_kl1i, r_kl1r, r_kl1n, r_kl1l, r_kl1d, List.length_cons, List.length_nil, List.getElem?_cons_zero, List.getElem?_cons_succ, List.set_cons_zero, List.set_cons_succ, true_and, and_true, not_true, not_false_eq_true, false_implies, true_implies, or_true, true_or, or_false, false_or, Bool.or_false, Bool.false_or, decide_false, decide_true, Nat.reduceLT, Nat.reduceLeDiff, Nat.reduceAdd, Nat.reduceSub, ↓reduceIte, Nat.reduceEqDiff, Nat.lt_add_one]
  refine ⟨fun q => ?_, fun q => ?_⟩
  · -- no room: the game is over
    have q2 : fr I (mz_u I1 A.g 6 1) [A.x, A.p, A.g] := fr_u2 (fr_tr q1 fr_refl (by simp) (fun _ q => q)) (by simp)
    have eg : I1 A.g = I A.g := q1 _ (by simp; exact ⟨hgx, hgp⟩)
    refine hn q _ q2 (dead_R hU h q2 ⟨kd, 0, s_c0 kd, s_r0 kd, ?_⟩ ⟨?_, ?_, mz_u_eq⟩ (fun j hj => ?_) m_u_eq) (fun i hi => ?_)
    · obtain ⟨p1, p2, p3, p4, p5, p6⟩ := hp1
      exact ⟨p1, by rw [mz_u_ne hpg]; exact p2, by rw [mz_u_ne hpg]; exact p3, by rw [mz_u_ne hpg]; exact p4, by rw [mz_u_ne hpg]; exact p5, p6⟩
    · rw [mz_u_nk (by decide), eg]
    · rw [mz_u_nk (by decide), eg]; exact hu1
    · rw [m_u_ne (by omega), app_out (by omega)]
    · rw [mz_u_nk (by omega), eg]
  · have q : o_fits m kd = true := by simpa using q
    have hR1 := live_R hU h q1 hp1 hx1 q
    have hn1 : ∀ j, j < 6 → ∀ a, a ∈ (Aj j).all → a ∉ [A.x, A.p] := by
      intro j hj a ha e
      have := hdj j hj a ha
      simp at e
      rcases e with e | e <;> exact this (by simp [z_A.all, e])
    have hM1 : p_M T I1 L me ra Aj nw many B rr := p_M_fr hM (q1 _ (by simp; exact ⟨hmx, hmp⟩)) (fun j hj a ha => ⟨q1 _ (hn1 j hj a ha), rfl⟩)
    refine c_nextRec hM1 ?_
    simp only [cd_X1_appear, e1, e2, hE1, g1, g2, g3, f1, x1, x2, x3, m1, r_rn0, r_rnc, r_vk0, r_vkc, r_vks, r_kci, r_kcv, r_ild, r_ald, r_lld, r_dld, r_Li, r_La, r_Ll, r_Ld, r_Ki, r_Ka, r_Kl, r_Kd, r_Kn, r_ist, r_ast, r_lst, r_dst, r_iinc, r_int, r_lng, r_dbl, r_i2, r_i1, r_l2, r_lsh, r_i2z, r_l2z, r_i2l, r_l2i, r_i2d, r_lcmp, r_ddiv, r_dcmpl, r_dup, r_dup2, r_pop, r_one_int, r_one_ref, r_go, r_if, r_ic, r_tsw, r_lsw, r_sw0, r_swc, r_lk0, r_lkc, r_kp, r_gI, r_gL, r_gR, r_pI, r_pZ, r_pL, r_pR, r_gs, r_ia, r_ca, r_za, r_la, r_da, r_aa, r_ias, r_cas, r_zas, r_las, r_das, r_aas, r_acp, r_new, r_nwa, r_nwq, r_ret, r_irt, r_zrt, r_lrt, r_drt, r_art, r_thr, r_cV0, r_cV1, r_cV2, r_cV3, r_cV4, r_cV5, r_cI0, r_cS0, r_cS1, r_cS2, r_cS3, r_cX0, r_cX1, r_cX2, r_cX3, r_rc, r_oi, r_refx, r_i10, r_i01, r_rfs, r_mem0, r_memc, r_beq, r_kl0, r_klz, r_kl1i, r_kl1r, r_kl1n, r_kl1l, r_kl1d, List.length_cons, List.length_nil, List.getElem?_cons_zero, List.getElem?_cons_succ, List.set_cons_zero, List.set_cons_succ, true_and, and_true, not_true, not_false_eq_true, false_implies, true_implies, or_true, true_or, or_false, false_or, Bool.or_false, Bool.false_or, decide_false, decide_true, Nat.reduceLT, Nat.reduceLeDiff, Nat.reduceAdd, Nat.reduceSub, ↓reduceIte, Nat.reduceEqDiff, Nat.lt_add_one]
    have hnw : s_nw nw < 6 := Nat.mod_lt _ (by decide)
    have hAj := (m4 _ hnw).2
    have gj : ((Aj (s_nw nw)).g, 0, 4) ∈ T.1 := hAj.1.1
    have f2' : fr I1 (mz_u (mz_u I1 me 1 (zI (s_nw nw))) me 2 (zI (s_mn many))) [me] := fr_u2 fr_u (by simp)
    have hR2 : p_R T (mz_u (mz_u I1 me 1 (zI (s_nw nw))) me 2 (zI (s_mn many))) L A B (o_app m kd) := p_R_fr hR1 (fun a ha => fr_ne1 f2' (fun e => z_out hU hA m1 (by decide) (e ▸ ha))) rfl
    simp only [cd_X1_appear, e1, e2, hE1, g1, g2, g3, f1, x1, x2, x3, m1, gj, r_rn0, r_rnc, r_vk0, r_vkc, r_vks, r_kci, r_kcv, r_ild, r_ald, r_lld, r_dld, r_Li, r_La, r_Ll, r_Ld, r_Ki, r_Ka, r_Kl, r_Kd, r_Kn, r_ist, r_ast, r_lst, r_dst, r_iinc, r_int, r_lng, r_dbl, r_i2, r_i1, r_l2, r_lsh, r_i2z, r_l2z, r_i2l, r_l2i, r_i2d, r_lcmp, r_ddiv, r_dcmpl, r_dup, r_dup2, r_pop, r_one_int, r_one_ref, r_go, r_if, r_ic, r_tsw, r_lsw, r_sw0, r_swc, r_lk0, r_lkc, r_kp, r_gI, r_gL, r_gR, r_pI, r_pZ, r_pL, r_pR, r_gs, r_ia, r_ca, r_za, r_la, r_da, r_aa, r_ias, r_cas, r_zas, r_las, r_das, r_aas, r_acp, r_new, r_nwa, r_nwq, r_ret, r_irt, r_zrt, r_lrt, r_drt, r_art, r_thr, r_cV0, r_cV1, r_cV2, r_cV3, r_cV4, r_cV5, r_cI0, r_cS0, r_cS1, r_cS2, r_cS3, r_cX0, r_cX1, r_cX2, r_cX3, r_rc, r_oi, r_refx, r_i10, r_i01, r_rfs, r_mem0, r_memc, r_beq, r_kl0, r_klz, r_kl1i, r_kl1r, r_kl1n, r_kl1l, r_kl1d, List.length_cons, List.length_nil, List.getElem?_cons_zero, List.getElem?_cons_succ, List.set_cons_zero, List.set_cons_succ, true_and, and_true, not_true, not_false_eq_true, false_implies, true_implies, or_true, true_or, or_false, false_or, Bool.or_false, Bool.false_or, decide_false, decide_true, Nat.reduceLT, Nat.reduceLeDiff, Nat.reduceAdd, Nat.reduceSub, ↓reduceIte, Nat.reduceEqDiff, Nat.lt_add_one]
    refine c_copyG hAj hR2 (fun I3 L3 q3 ql3 hR3 hg3 => ?_)
    simp only [cd_X1_appear, e1, e2, hE1, g1, g2, g3, f1, x1, x2, x3, m1, r_rn0, r_rnc, r_vk0, r_vkc, r_vks, r_kci, r_kcv, r_ild, r_ald, r_lld, r_dld, r_Li, r_La, r_Ll, r_Ld, r_Ki, r_Ka, r_Kl, r_Kd, r_Kn, r_ist, r_ast, r_lst, r_dst, r_iinc, r_int, r_lng, r_dbl, r_i2, r_i1, r_l2, r_lsh, r_i2z, r_l2z, r_i2l, r_l2i, r_i2d, r_lcmp, r_ddiv, r_dcmpl, r_dup, r_dup2, r_pop, r_one_int, r_one_ref, r_go, r_if, r_ic, r_tsw, r_lsw, r_sw0, r_swc, r_lk0, r_lkc, r_kp, r_gI, r_gL, r_gR, r_pI, r_pZ, r_pL, r_pR, r_gs, r_ia, r_ca, r_za, r_la, r_da, r_aa, r_ias, r_cas, r_zas, r_las, r_das, r_aas, r_acp, r_new, r_nwa, r_nwq, r_ret, r_irt, r_zrt, r_lrt, r_drt, r_art, r_thr, r_cV0, r_cV1, r_cV2, r_cV3, r_cV4, r_cV5, r_cI0, r_cS0, r_cS1, r_cS2, r_cS3, r_cX0, r_cX1, r_cX2, r_cX3, r_rc, r_oi, r_refx, r_i10, r_i01, r_rfs, r_mem0, r_memc, r_beq, r_kl0, r_klz, r_kl1i, r_kl1r, r_kl1n, r_kl1l, r_kl1d, List.length_cons, List.length_nil, List.getElem?_cons_zero, List.getElem?_cons_succ, List.set_cons_zero, List.set_cons_succ, true_and, and_true, not_true, not_false_eq_true, false_implies, true_implies, or_true, true_or, or_false, false_or, Bool.or_false, Bool.false_or, decide_false, decide_true, Nat.reduceLT, Nat.reduceLeDiff, Nat.reduceAdd, Nat.reduceSub, ↓reduceIte, Nat.reduceEqDiff, Nat.lt_add_one]
    have hme : me ∉ (Aj (s_nw nw)).all := z_out hU hAj m1 (by decide)
    have eme : I3 me = mz_u (mz_u I1 me 1 (zI (s_nw nw))) me 2 (zI (s_mn many)) me := q3 _ hme
    have hA3 : ∀ a, a ∈ A.all → a ∉ (Aj (s_nw nw)).all := fun a ha hb => hdj _ hnw a hb ha
    have sub : ∀ a, a ∈ (Aj (s_nw nw)).all → a ∈ z_rec Aj := fun a ha => z_rec_mem.mpr ⟨_, hnw, ha⟩
    have bsub : ∀ a, a ∈ [(Aj (s_nw nw)).b] → a ∈ z_rec Aj := fun a ha => sub a (by rw [List.mem_singleton.mp ha]; exact z_bm)
    refine ht q I3 L3 (s_nw nw) ?_ (fr_tr ql3 fr_refl bsub (fun _ q => q)) (p_R_fr hR2 (fun a ha => q3 a (hA3 a ha)) (ql3 _ (fun e => hA3 _ z_bm (by rw [List.mem_singleton.mp e]; exact z_bm)))) (p_M_push hM1 hR3 (fun a ha hne => ?_) (fun a ha => ql3 a (fun e => ha (by rw [List.mem_singleton.mp e]; exact z_bm))) hU ?_ ?_) (fun i hi => ?_)
    · exact fr_tr (fr_tr q1 f2' (by simp) (by simp) : fr I _ (A.x :: A.p :: me :: z_rec Aj)) q3 (fun _ q => q) (fun a ha => by simp [sub a ha])
    · rw [q3 a ha, fr_ne1 f2' hne]
    · rw [eme, mz_u_nk (by decide), mz_u_eq]
    · rw [eme, mz_u_eq]
    · rw [eme, mz_u_nk (by omega), mz_u_nk (by omega), q1 _ (by simp; exact ⟨hmx, hmp⟩)]
end APPEAR2
