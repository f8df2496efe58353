/-! the engine: falling -/
section ENG3
variable {G : mz_G} {K : mz_K} {T : mz_T} {I : mz_I} {L : mz_L}
theorem w_lv_le {x : Int32} : (w_lv x).toInt ≤ 10 := by
  unfold w_lv
  split
  · rename_i h
    rw [Int32.lt_iff_toInt_lt] at h
    have : (10 : Int32).toInt = 10 := rfl
    omega
  · have : (10 : Int32).toInt = 10 := rfl
    omega
/-- the points, the ticks -/
theorem p_R_pt {A : z_A} {B : Nat} {m : Nat → Int32} {v : Int32} (hU : ∀ a x y, (a, x) ∈ T.1 → (a, y) ∈ T.1 → x = y) (h : p_R T I L A B m) : p_R T (mz_u I A.s 0 v) L A B (m_u m 234 v) := by
  obtain ⟨⟨g1, g2, g3, g4, g5⟩, ⟨f1, f2, f3⟩, ⟨x1, x2, x3⟩, ⟨b1, b2, b3⟩, ⟨s1, s2, s3, s4, s5⟩⟩ := id h.sh
  have n0 : ∀ {a : Nat} {x : Nat × Nat}, (a, x) ∈ T.1 → x ≠ (0, 9) → mz_u I A.s 0 v a = I a := fun q e => mz_u_ne (mz_ne hU q s1 e)
  have hm : ∀ j, j ≠ 234 → m_u m 234 v j = m j := fun j e => m_u_ne e
  have em : s_fm (m_u m 234 v) = s_fm m := s_fm_eq (fun i hi => hm i (by omega))
  have ek := n0 f2 (by decide)
  have eg := n0 g1 (by decide)
  have eb := n0 b1 (by decide)
  have ev := n0 b2 (by decide)
  have ex := n0 x1 (by decide)
  have ep := n0 x3 (by decide)
  have ec := n0 s2 (by decide)
  have el := n0 s3 (by decide)
  refine ⟨h.sh, ?_, ?_, ?_, ?_, ?_, ?_, ?_, ?_, ?_, ?_, ?_, ?_, ?_, ?_⟩
  · intro i hi; rw [ek, hm i (by omega)]; exact h.fld i hi
  · rw [em]; exact h.nof
  · rw [eg, hm 221 (by decide)]; exact h.over
  · rw [eg, hm 232 (by decide)]; exact h.held
  · rw [eg]; exact h.used
  · obtain ⟨kd, s, c, r, ⟨p1, p2, p3, p4, p5, p6⟩, ho⟩ := h.pos
    exact ⟨kd, s, c, r, ⟨p1, by rw [ep]; exact p2, by rw [ep]; exact p3, by rw [ep]; exact p4, by rw [ep]; exact p5, p6⟩, by rw [em, hm 221 (by decide), hm 222 (by decide), hm 223 (by decide), hm 224 (by decide), hm 225 (by decide)]; exact ho⟩
  · rw [hm 221 (by decide)]
    intro q
    obtain ⟨h1, h2, h3, h4⟩ := h.live q
    exact ⟨fun i a b => by rw [ex, hm _ (by omega)]; exact h1 i a b, by rw [eg, hm 233 (by decide)]; exact h2, by rw [hm 229 (by decide)]; exact h3, by rw [hm 226 (by decide), hm 235 (by decide)]; exact h4⟩
  · obtain ⟨z, h1, h2, h3, h4, h5, h6, h7⟩ := h.bags
    exact ⟨z, by rw [hm 267 (by decide)]; exact h1, by rw [hm 220 (by decide)]; exact h2, h3, by rw [ev]; exact h4, h5, by rw [eb]; exact h6, h7⟩
  · obtain ⟨h0, h1⟩ := h.sc
    rw [mz_u_eq, m_u_eq, mz_u_nk (show (1 : Nat) ≠ 0 by decide), mz_u_nk (show (2 : Nat) ≠ 0 by decide), mz_u_nk (show (3 : Nat) ≠ 0 by decide), mz_u_nk (show (4 : Nat) ≠ 0 by decide), mz_u_nk (show (5 : Nat) ≠ 0 by decide), mz_u_nk (show (6 : Nat) ≠ 0 by decide), mz_u_nk (show (7 : Nat) ≠ 0 by decide), mz_u_nk (show (8 : Nat) ≠ 0 by decide), hm 236 (by decide), hm 237 (by decide), hm 238 (by decide), hm 239 (by decide), hm 240 (by decide), hm 241 (by decide), hm 242 (by decide), hm 266 (by decide)]
    exact ⟨rfl, h1⟩
  · rw [hm 235 (by decide), hm 236 (by decide)]; exact h.lev
  · rw [hm 266 (by decide)]; exact h.hard
  · rw [hm 237 (by decide), hm 265 (by decide)]; exact h.pcs
  · intro sp n a b
    rw [ec, hm _ (by omega)]; exact h.cnt sp n a b
  · rw [hm 265 (by decide), el]
    intro q w hw
    rw [hm _ (by omega)]; exact h.lat q w hw
theorem fall_R {A : z_A} {B : Nat} {m : Nat → Int32} {J : mz_I} (hU : ∀ a x y, (a, x) ∈ T.1 → (a, y) ∈ T.1 → x = y) (h : p_R T I L A B m) (hl : m 221 = 0) (hf : fr I J [A.x, A.p]) (hp : p_Pos T J A.p (m_kd m) (m_st m) (m_c m) (m_r m - 1)) (hfit : m_fit m 0 (-1) = true) (hJ : ∀ i, 2 ≤ i → i ≤ 5 → J A.x i = I A.x i) :
    fr I (w_nr (mz_u (mz_u J A.x 1 0) A.x 6 (-1)) A.x A.p) [A.x, A.p] ∧ p_R T (w_nr (mz_u (mz_u J A.x 1 0) A.x 6 (-1)) A.x A.p) L A B (o_falls m) := by
  obtain ⟨⟨g1, g2, g3, g4, g5⟩, ⟨f1, f2, f3⟩, ⟨x1, x2, x3⟩, ⟨b1, b2, b3⟩, ⟨s1, s2, s3, s4, s5⟩⟩ := id h.sh
  have hne : A.p ≠ A.x := mz_ne hU x3 x1 (by decide)
  obtain ⟨hp0, ⟨q1, q2, q3, q4⟩, -⟩ := h.now hl
  obtain ⟨hpc, hus, hin, hfa⟩ := h.live hl
  obtain ⟨p1, p2, p3, p4, p5, p6⟩ := id hp
  have f2' : fr I (mz_u (mz_u J A.x 1 0) A.x 6 (-1)) [A.x, A.p] := fr_u2 (fr_u2 hf (by simp)) (by simp)
  have hw : fr I (w_nr (mz_u (mz_u J A.x 1 0) A.x 6 (-1)) A.x A.p) [A.x, A.p] := fr_tr1 f2' (fun a ha => nr_ne (by simpa using ha)) (by simp : ∀ a, a ∈ [A.x] → a ∈ [A.x, A.p])
  have e0 : (mz_u (mz_u J A.x 1 0) A.x 6 (-1)) A.p = J A.p := by rw [mz_u_ne hne, mz_u_ne hne]
  have er : m 225 - 1 = zI (m_r m - 1) := by rw [q4, l_1, z_sub]
  have out : ∀ j, j ≠ 225 → j ≠ 226 → j ≠ 227 → j ≠ 228 → j ≠ 230 → j ≠ 231 → o_falls m j = m j := by
    intro j a b c d e f
    unfold o_falls
    rw [set2_out ⟨c, d, e⟩, m_u_ne f, m_u_ne b, m_u_ne a]
  refine ⟨hw, p_R_pc hU h (Nat.le_refl B) (fun j hj => out j (by omega) (by omega) (by omega) (by omega) (by omega) (by omega)) hw ⟨p1, by rw [nr_ne hne, e0]; exact p2, by rw [nr_ne hne, e0]; exact p3, by rw [nr_ne hne, e0]; exact p4, by rw [nr_ne hne, e0]; exact p5, p6⟩ hl ⟨?_, ?_, ?_, ?_⟩ ?_ (pc_nr ?_ ?_) ?_ ?_⟩
  · rw [out _ (by decide) (by decide) (by decide) (by decide) (by decide) (by decide)]; exact q1
  · rw [out _ (by decide) (by decide) (by decide) (by decide) (by decide) (by decide)]; exact q2
  · rw [out _ (by decide) (by decide) (by decide) (by decide) (by decide) (by decide)]; exact q3
  · unfold o_falls
    rw [set2_out (by decide), m_u_ne (by decide), m_u_ne (by decide), m_u_eq, er]
  · have := hfit
    unfold m_fit at this
    rw [Int.add_zero] at this
    exact this
  · intro i a b
    have : i = 1 ∨ i = 2 ∨ i = 3 ∨ i = 4 ∨ i = 5 ∨ i = 6 := by omega
    rcases this with e | e | e | e | e | e <;> subst e <;> simp [mz_u_at, m_u, hJ 2 (by decide) (by decide), hJ 3 (by decide) (by decide), hJ 4 (by decide) (by decide), hJ 5 (by decide) (by decide), hpc 2 (by decide) (by decide), hpc 3 (by decide) (by decide), hpc 4 (by decide) (by decide), hpc 5 (by decide) (by decide)]
  · rw [e0, p5, m_u_ne (by decide), m_u_ne (by decide), m_u_eq, er]
  · rw [out _ (by decide) (by decide) (by decide) (by decide) (by decide) (by decide)]; exact hin
  · have e9 : o_falls m 226 = 0 := by
      unfold o_falls
      rw [set2_out (by decide), m_u_ne (by decide), m_u_eq]
    rw [e9, h.lev]
    have := w_lv_le (x := m 236)
    have e8 : (0 : Int32).toInt = 0 := rfl
    omega
theorem c_sinkE {en : Nat} {A : z_A} {B : Nat} {m : Nat → Int32} (hE : p_E T en A) (h : p_R T I L A B m) (hl : m 221 = 0)
    (ht : m_fit m 0 (-1) = true → ∀ I', fr I I' [A.x, A.p, A.s] → p_R T I' L A B (o_sink m) → K (some (.int 1)) T I' L) (hn : m_fit m 0 (-1) = false → K (some (.int 0)) T I L) : mz_Ctr G M_X1_sinkPiece [.ref en] T I L K := by
  refine mz_apartC fun hU => ?_
  obtain ⟨e1, e2⟩ := hE
  obtain ⟨⟨g1, g2, g3, g4, g5⟩, hF, hX, hB9, hS⟩ := id h.sh
  obtain ⟨f1, f2, f3⟩ := id hF
  obtain ⟨x1, x2, x3⟩ := id hX
  obtain ⟨s1, s2, s3, s4, s5⟩ := id hS
  obtain ⟨hp, hq, hfit⟩ := h.now hl
  have hkd : m_kd m < 7 ∧ m_st m < 4 := ⟨hp.2.2.2.2.2.1, hp.2.2.2.2.2.2.1⟩
  have hb := s_fit_b hkd.1 hkd.2 hfit
  refine mz_ofl mk_X1_sinkPiece rfl (Nat.le_of_ble_eq_true rfl) (Nat.le_of_ble_eq_true rfl) [some (.ref en), none] rfl ?_
  refine mz_vc ok_X1_sinkPiece [] [(), (), (), (), (), (), (), (), (), (), (), (), (), (), (), (), (), (), (), (), (), (), (), (), (), (), (), (), (), ()] ?_
  simp only [cd_X1_sinkPiece, e1, e2, g1, g2, g3, g5, x1, x2, x3, s1, r_rn0, r_rnc, r_vk0, r_vkc, r_vks, r_kci, r_kcv, r_ild, r_ald, r_lld, r_dld, r_Li, r_La, r_Ll, r_Ld, r_Ki, r_Ka, r_Kl, r_Kd, r_Kn, r_ist, r_ast, r_lst, r_dst, r_iinc, r_int, r_lng, r_dbl, r_i2, r_i1, r_l2, r_lsh, r_i2z, r_l2z, r_i2l, r_l2i, r_i2d, r_lcmp, r_ddiv, r_dcmpl, r_dup, r_dup2, r_pop, r_one_int, r_one_ref, r_go, r_if, r_ic, r_tsw, r_lsw, r_sw0, r_swc, r_lk0, r_lkc, r_kp, r_gI, r_gL, r_gR, r_pI, r_pZ, r_pL, r_pR, r_gs, r_ia, r_ca, r_za, r_la, r_da, r_aa, r_ias, r_cas, r_zas, r_las, r_das, r_aas, r_acp, r_new, r_nwa, r_nwq, r_ret, r_irt, r_zrt, r_lrt, r_drt, r_art, r_thr, r_cV0, r_cV1, r_cV2, r_cV3, r_cV4, r_cV5, r_cI0, r_cS0, r_cS1, r_cS2, r_cS3, r_cX0, r_cX1, r_cX2, r_cX3, r_rc, r_oi, r_refx, r_i10, r_i01, r_rfs, r_mem0, r_memc, r_beq, r_kl0, r_klz, r_kl1i, r_kl1r, r_kl1n, r_kl1l, r_kl1d, List.length_cons, List.length_nil, List.getElem?_cons_zero, List.getElem?_cons_succ, List.set_cons_zero, List.set_cons_succ, true_and, and_true, not_true, not_false_eq_true, false_implies, true_implies, or_true, true_or, or_false, false_or, Bool.or_false, Bool.false_or, decide_false, decide_true, Nat.reduceLT, Nat.reduceLeDiff, Nat.reduceAdd, Nat.reduceSub, ↓reduceIte, Nat.reduceEqDiff, Nat.lt_add_one]
  have ef : s_fit (s_fl (I A.k)) (m_kd m) (m_st m) (m_c m + 0) (m_r m + -1) = m_fit m 0 (-1) := by rw [s_fit_cg h.fl]; rfl
  refine c_moveBy (dc := 0) (dr := -1) hp hF (by omega) (by omega) (fun q => ?_) (fun q => ?_)
  · rw [ef] at q
    simp only [cd_X1_sinkPiece, e1, e2, g1, g2, g3, g5, x1, x2, x3, s1, r_rn0, r_rnc, r_vk0, r_vkc, r_vks, r_kci, r_kcv, r_ild, r_ald, r_lld, r_dld, r_Li, r_La, r_Ll, r_Ld, r_Ki, r_Ka, r_Kl, r_Kd, r_Kn, r_ist, r_ast, r_lst, r_dst, r_iinc, r_int, r_lng, r_dbl, r_i2, r_i1, r_l2, r_lsh, r_i2z, r_l2z, r_i2l, r_l2i, r_i2d, r_lcmp, r_ddiv, r_dcmpl, r_dup, r_dup2, r_pop, r_one_int, r_one_ref, r_go, r_if, r_ic, r_tsw, r_lsw, r_sw0, r_swc, r_lk0, r_lkc, r_kp, r_gI, r_gL, r_gR, r_pI, r_pZ, r_pL, r_pR, r_gs, r_ia, r_ca, r_za, r_la, r_da, r_aa, r_ias, r_cas, r_zas, r_las, r_das, r_aas, r_acp, r_new, r_nwa, r_nwq, r_ret, r_irt, r_zrt, r_lrt, r_drt, r_art, r_thr, r_cV0, r_cV1, r_cV2, r_cV3, r_cV4, r_cV5, r_cI0, r_cS0, r_cS1, r_cS2, r_cS3, r_cX0, r_cX1, r_cX2, r_cX3, r_rc, r_oi, r_refx, r_i10, r_i01, r_rfs, r_mem0, r_memc, r_beq, r_kl0, r_klz, r_kl1i, r_kl1r, r_kl1n, r_kl1l, r_kl1d, List.length_cons, List.length_nil, List.getElem?_cons_zero, List.getElem?_cons_succ, List.set_cons_zero, List.set_cons_succ, true_and, and_true, not_true, not_false_eq_true, false_implies, true_implies, or_true, true_or, or_false, false_or, Bool.or_false, Bool.false_or, decide_false, decide_true, Nat.reduceLT, Nat.reduceLeDiff, Nat.reduceAdd, Nat.reduceSub, ↓reduceIte, Nat.reduceEqDiff, Nat.lt_add_one]
    have hsp : A.s ≠ A.p := mz_ne hU s1 x3 (by decide)
    have hsx : A.x ≠ A.s := mz_ne hU x1 s1 (by decide)
    have hps : A.p ≠ A.s := Ne.symm hsp
    have hxp : A.x ≠ A.p := mz_ne hU x1 x3 (by decide)
    have es : s_mv I A.p (m_c m + 0) (m_r m + -1) A.s 0 = m 234 := by unfold s_mv; rw [mz_u_ne hsp, mz_u_ne hsp]; exact h.sc.1
    rw [es]
    refine c_noteFall hX ?_
    simp only [cd_X1_sinkPiece, e1, e2, g1, g2, g3, g5, x1, x2, x3, s1, r_rn0, r_rnc, r_vk0, r_vkc, r_vks, r_kci, r_kcv, r_ild, r_ald, r_lld, r_dld, r_Li, r_La, r_Ll, r_Ld, r_Ki, r_Ka, r_Kl, r_Kd, r_Kn, r_ist, r_ast, r_lst, r_dst, r_iinc, r_int, r_lng, r_dbl, r_i2, r_i1, r_l2, r_lsh, r_i2z, r_l2z, r_i2l, r_l2i, r_i2d, r_lcmp, r_ddiv, r_dcmpl, r_dup, r_dup2, r_pop, r_one_int, r_one_ref, r_go, r_if, r_ic, r_tsw, r_lsw, r_sw0, r_swc, r_lk0, r_lkc, r_kp, r_gI, r_gL, r_gR, r_pI, r_pZ, r_pL, r_pR, r_gs, r_ia, r_ca, r_za, r_la, r_da, r_aa, r_ias, r_cas, r_zas, r_las, r_das, r_aas, r_acp, r_new, r_nwa, r_nwq, r_ret, r_irt, r_zrt, r_lrt, r_drt, r_art, r_thr, r_cV0, r_cV1, r_cV2, r_cV3, r_cV4, r_cV5, r_cI0, r_cS0, r_cS1, r_cS2, r_cS3, r_cX0, r_cX1, r_cX2, r_cX3, r_rc, r_oi, r_refx, r_i10, r_i01, r_rfs, r_mem0, r_memc, r_beq, r_kl0, r_klz, r_kl1i, r_kl1r, r_kl1n, r_kl1l, r_kl1d, List.length_cons, List.length_nil, List.getElem?_cons_zero, List.getElem?_cons_succ, List.set_cons_zero, List.set_cons_succ, true_and, and_true, not_true, not_false_eq_true, false_implies, true_implies, or_true, true_or, or_false, false_or, Bool.or_false, Bool.false_or, decide_false, decide_true, Nat.reduceLT, Nat.reduceLeDiff, Nat.reduceAdd, Nat.reduceSub, ↓reduceIte, Nat.reduceEqDiff, Nat.lt_add_one]
    have hp2 := p_Pos_mv (c' := m_c m + 0) (r' := m_r m + -1) hp (by omega) (by omega)
    have hR := p_R_pt (v := m 234 + 1) hU h
    have fj : fr (mz_u I A.s 0 (m 234 + 1)) (mz_u (s_mv I A.p (m_c m + 0) (m_r m + -1)) A.s 0 (m 234 + 1)) [A.x, A.p] := by
      intro a ha
      have ha2 : a ≠ A.p := fun e => ha (by simp [e])
      unfold s_mv
      funext j
      by_cases e9 : a = A.s ∧ j = 0
      · obtain ⟨e8, e7⟩ := e9; subst e8; subst e7; rw [mz_u_eq, mz_u_eq]
      · rw [mz_u_at, if_neg e9, mz_u_at, if_neg (fun e => ha2 e.1), mz_u_at, if_neg (fun e => ha2 e.1), mz_u_at, if_neg e9]
    have k0 : ∀ j, j ≠ 234 → m_u m 234 (m 234 + 1) j = m j := fun j e => m_u_ne e
    have ek : s_fm (m_u m 234 (m 234 + 1)) = s_fm m := s_fm_eq (fun i hi => k0 i (by omega))
    have em : m_kd (m_u m 234 (m 234 + 1)) = m_kd m ∧ m_st (m_u m 234 (m 234 + 1)) = m_st m ∧ m_c (m_u m 234 (m 234 + 1)) = m_c m ∧ m_r (m_u m 234 (m 234 + 1)) = m_r m := by
      unfold m_kd m_st m_c m_r
      rw [k0 222 (by decide), k0 223 (by decide), k0 224 (by decide), k0 225 (by decide)]
      exact ⟨rfl, rfl, rfl, rfl⟩
    have hp3 : p_Pos T (mz_u (s_mv I A.p (m_c m + 0) (m_r m + -1)) A.s 0 (m 234 + 1)) A.p (m_kd m) (m_st m) (m_c m) (m_r m - 1) := by
      obtain ⟨p1, p2, p3, p4, p5, p6⟩ := hp2
      rw [Int.add_zero] at p4 p6
      exact ⟨p1, by rw [mz_u_ne hps]; exact p2, by rw [mz_u_ne hps]; exact p3, by rw [mz_u_ne hps, Int.add_zero]; exact p4, by rw [mz_u_ne hps]; exact p5, p6⟩
    have key := fall_R hU hR (by rw [k0 221 (by decide)]; exact hl) fj (by rw [em.1, em.2.1, em.2.2.1, em.2.2.2]; exact hp3) (by unfold m_fit; rw [ek, em.1, em.2.1, em.2.2.1, em.2.2.2]; exact q) (fun i a b => by unfold s_mv; rw [mz_u_ne hsx, mz_u_ne hxp, mz_u_ne hxp, mz_u_ne hsx])
    refine ht q _ ?_ key.2
    exact fr_tr (fr_u : fr I (mz_u I A.s 0 (m 234 + 1)) [A.s]) key.1 (by simp) (by simp)
  · rw [ef] at q
    simp only [cd_X1_sinkPiece, e1, e2, g1, g2, g3, g5, x1, x2, x3, s1, r_rn0, r_rnc, r_vk0, r_vkc, r_vks, r_kci, r_kcv, r_ild, r_ald, r_lld, r_dld, r_Li, r_La, r_Ll, r_Ld, r_Ki, r_Ka, r_Kl, r_Kd, r_Kn, r_ist, r_ast, r_lst, r_dst, r_iinc, r_int, r_lng, r_dbl, r_i2, r_i1, r_l2, r_lsh, r_i2z, r_l2z, r_i2l, r_l2i, r_i2d, r_lcmp, r_ddiv, r_dcmpl, r_dup, r_dup2, r_pop, r_one_int, r_one_ref, r_go, r_if, r_ic, r_tsw, r_lsw, r_sw0, r_swc, r_lk0, r_lkc, r_kp, r_gI, r_gL, r_gR, r_pI, r_pZ, r_pL, r_pR, r_gs, r_ia, r_ca, r_za, r_la, r_da, r_aa, r_ias, r_cas, r_zas, r_las, r_das, r_aas, r_acp, r_new, r_nwa, r_nwq, r_ret, r_irt, r_zrt, r_lrt, r_drt, r_art, r_thr, r_cV0, r_cV1, r_cV2, r_cV3, r_cV4, r_cV5, r_cI0, r_cS0, r_cS1, r_cS2, r_cS3, r_cX0, r_cX1, r_cX2, r_cX3, r_rc, r_oi, r_refx, r_i10, r_i01, r_rfs, r_mem0, r_memc, r_beq, r_kl0, r_klz, r_kl1i, r_kl1r, r_kl1n, r_kl1l, r_kl1d, List.length_cons, List.length_nil, List.getElem?_cons_zero, List.getElem?_cons_succ, List.set_cons_zero, List.set_cons_succ, true_and, and_true, not_true, not_false_eq_true, false_implies, true_implies, or_true, true_or, or_false, false_or, Bool.or_false, Bool.false_or, decide_false, decide_true, Nat.reduceLT, Nat.reduceLeDiff, Nat.reduceAdd, Nat.reduceSub, ↓reduceIte, Nat.reduceEqDiff, Nat.lt_add_one]
    exact hn q
end ENG3
