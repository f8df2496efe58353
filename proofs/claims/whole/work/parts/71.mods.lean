/-! the reference: scores -/
section MODS
variable {G : mz_G} {K : mz_K} {T : mz_T} {I : mz_I} {L : mz_L}
theorem lv_eq {x : Int32} : (9 ≤ x / 10) ↔ ¬ (1 + x / 10 < 10) := by
  have hd : -214748365 ≤ (x / 10).toInt ∧ (x / 10).toInt ≤ 214748365 := by
    have hx := z_rng x
    have e10 : (10 : Int32).toInt = 10 := rfl
    rw [Int32.toInt_div_of_ne_right _ _ (by decide : (10 : Int32) ≠ -1), e10]
    have h2 := Int.mul_tdiv_add_tmod x.toInt 10
    have h3 := Int.tmod_lt_of_pos x.toInt (b := 10) (by decide)
    have h4 := Int.lt_tmod_of_pos x.toInt (b := 10) (by decide)
    omega
  generalize x / 10 = y at hd ⊢
  rw [z_of y]
  rw [l_1, show (9 : Int32) = zI 9 from rfl, l_10, z_add, z_le (by omega) (by omega), z_lt (by omega) (by omega)]
  omega
def sc_2 (g : Nat → Int32) (n : Nat) : Nat → Int32 := m_u (m_u g 238 (w_cb (g 238) n)) 239 (if g 239 < w_cb (g 238) n then w_cb (g 238) n else g 239)
def sc_3 (g : Nat → Int32) (n sp : Nat) : Nat → Int32 := if 0 < n then m_u (sc_2 g n) 266 (b2i (w_hard n sp)) else sc_2 g n
def sc_6 (g : Nat → Int32) (n sp : Nat) (won : Int32) : Nat → Int32 := m_u (m_u (m_u (sc_3 g n sp) 234 (g 234 + won)) 236 (g 236 + zI n)) 235 (w_lv (g 236 + zI n))
def sc_10 (g : Nat → Int32) (n sp : Nat) (won le : Int32) : Nat → Int32 := m_u (m_u (m_u (m_u (sc_6 g n sp won) 237 (g 237 + 1)) 240 (g 240 + w_flt (g 229) le)) 241 (g 241 + g 229)) (243 + 3 * n + sp) (g (243 + 3 * n + sp) + 1)
def sc_11 (g : Nat → Int32) (n sp : Nat) (won le : Int32) : Nat → Int32 := m_u (m_u (m_u (m_u (m_u (m_u (sc_10 g n sp won le) 258 (g 222)) 259 (zI n)) 260 (zI sp)) 261 won) 262 (g 229)) 263 le
theorem sc_3o {g : Nat → Int32} {n sp j : Nat} (h : j ≠ 238 ∧ j ≠ 239 ∧ j ≠ 266) : sc_3 g n sp j = g j := by
  unfold sc_3 sc_2
  split
  · rw [m_u_ne h.2.2, m_u_ne h.2.1, m_u_ne h.1]
  · rw [m_u_ne h.2.1, m_u_ne h.1]
theorem sc_6o {g : Nat → Int32} {n sp j : Nat} {won : Int32} (h : j ≠ 234 ∧ j ≠ 235 ∧ j ≠ 236 ∧ j ≠ 238 ∧ j ≠ 239 ∧ j ≠ 266) : sc_6 g n sp won j = g j := by
  unfold sc_6
  rw [m_u_ne h.2.1, m_u_ne h.2.2.1, m_u_ne h.1, sc_3o h.2.2.2]
theorem sc_end {g : Nat → Int32} {n sp : Nat} {em : Bool} {le : Int32} (hn : n ≤ 4) (hsp : sp ≤ 2) : m_u (m_u (sc_11 g n sp (w_w2 n sp (w_hard n sp && decide (g 266 = 1)) (w_cb (g 238) n) em * g 235) le) 264 (b2i (w_hard n sp && decide (g 266 = 1)))) 265 1 = o_score g n sp em le := by
  funext j
  unfold o_score sc_11 sc_10 sc_6 sc_3 sc_2
  by_cases c : 0 < n
  · rw [if_pos c]
    simp only [m_u_at]
    by_cases c1 : j = 265
    · subst c1; simp; omega
    by_cases c2 : j = 264
    · subst c2; simp; omega
    by_cases c3 : j = 263
    · subst c3; simp; omega
    by_cases c4 : j = 262
    · subst c4; simp; omega
    by_cases c5 : j = 261
    · subst c5; simp; omega
    by_cases c6 : j = 260
    · subst c6; simp; omega
    by_cases c7 : j = 259
    · subst c7; simp; omega
    by_cases c8 : j = 258
    · subst c8; simp; omega
    by_cases c9 : j = 243 + 3 * n + sp
    · rw [if_neg c1, if_neg c2, if_neg c3, if_neg c4, if_neg c5, if_neg c6, if_neg c7, if_neg c8, if_pos c9, if_neg (by omega), if_neg (by omega), if_neg (by omega), if_neg (by omega), if_neg (by omega), if_neg (by omega), if_neg (by omega), if_neg (by omega), if_pos c9, c9]
    · simp only [if_neg c1, if_neg c2, if_neg c3, if_neg c4, if_neg c5, if_neg c6, if_neg c7, if_neg c8, if_neg c9, if_pos c]
      by_cases d1 : j = 234
      · subst d1; simp
      by_cases d2 : j = 235
      · subst d2; simp
      by_cases d3 : j = 236
      · subst d3; simp
      by_cases d4 : j = 237
      · subst d4; simp
      by_cases d5 : j = 238
      · subst d5; simp
      by_cases d6 : j = 239
      · subst d6; simp
      by_cases d7 : j = 240
      · subst d7; simp
      by_cases d8 : j = 241
      · subst d8; simp
      simp only [if_neg d1, if_neg d2, if_neg d3, if_neg d4, if_neg d5, if_neg d6, if_neg d7, if_neg d8]
  · rw [if_neg c]
    simp only [m_u_at]
    by_cases c1 : j = 265
    · subst c1; simp; omega
    by_cases c2 : j = 264
    · subst c2; simp; omega
    by_cases c3 : j = 263
    · subst c3; simp; omega
    by_cases c4 : j = 262
    · subst c4; simp; omega
    by_cases c5 : j = 261
    · subst c5; simp; omega
    by_cases c6 : j = 260
    · subst c6; simp; omega
    by_cases c7 : j = 259
    · subst c7; simp; omega
    by_cases c8 : j = 258
    · subst c8; simp; omega
    by_cases c9 : j = 243 + 3 * n + sp
    · rw [if_neg c1, if_neg c2, if_neg c3, if_neg c4, if_neg c5, if_neg c6, if_neg c7, if_neg c8, if_pos c9, if_neg (by omega), if_neg (by omega), if_neg (by omega), if_neg (by omega), if_neg (by omega), if_neg (by omega), if_neg (by omega), if_neg (by omega), if_pos c9, c9]
    · simp only [if_neg c1, if_neg c2, if_neg c3, if_neg c4, if_neg c5, if_neg c6, if_neg c7, if_neg c8, if_neg c9, if_neg c]
      by_cases d1 : j = 234
      · subst d1; simp
      by_cases d2 : j = 235
      · subst d2; simp
      by_cases d3 : j = 236
      · subst d3; simp
      by_cases d4 : j = 237
      · subst d4; simp
      by_cases d5 : j = 238
      · subst d5; simp
      by_cases d6 : j = 239
      · subst d6; simp
      by_cases d7 : j = 240
      · subst d7; simp
      by_cases d8 : j = 241
      · subst d8; simp
      simp only [if_neg d1, if_neg d2, if_neg d3, if_neg d4, if_neg d5, if_neg d6, if_neg d7, if_neg d8]
      by_cases d9 : j = 266
      · subst d9; simp
      · rw [if_neg d9]
theorem c_scoresM {D : Nat → Nat} {n sp : Nat} {le : Int32} (hM : p_Mo T D) (hC : p_Mc I D) (hn : n ≤ 4) (hsp : sp ≤ 2) (hflt : (I (D 1) 229 ≤ le) ↔ ¬ (0 < I (D 1) 229 - le))
    (h : ∀ I', fr I I' [D 1] → I' (D 1) = o_score (I (D 1)) n sp (decide (s_fc (s_fm (I (D 1))) 22 = 0)) le → K none T I' L) : mz_Ctr G M_X12_scores [.ref (D 0), .int (zI n), .int (zI sp), .int le] T I L K := by
  refine mz_apartC fun hU => ?_
  obtain ⟨h0, ⟨r1, r2, r3, r5, r6, r8, r9, r10, r11, r12, -⟩, ⟨t1, t2, t3, t5, t6, t8, t9, t10, t11, t12, -⟩, -⟩ := id hM
  obtain ⟨-, -, -, -, hpt⟩ := id hC
  generalize hg : I (D 1) = g at h hflt
  generalize hem : decide (s_fc (s_fm g) 22 = 0) = em at h
  rw [← sc_end hn hsp] at h
  have hfc := s_fc_le (e := s_fm g) 22
  have hnz : (0 < n) ↔ ¬ (zI (n : Int) ≤ 0) := by rw [l_0, z_le (by omega) (by omega)]; omega
  have hspz : (0 < sp) ↔ ¬ (zI (sp : Int) ≤ 0) := by rw [l_0, z_le (by omega) (by omega)]; omega
  have hn4 : (n = 4) ↔ (zI (n : Int) = 4) := by rw [l_4, z_eq (by omega) (by omega)]; omega
  generalize hhd : w_hard n sp = hd at h
  generalize hmo : (hd && decide (g 266 = 1)) = mo at h
  generalize hcb : w_cb (g 238) n = cb at h
  generalize hwn : w_w2 n sp mo cb em * g 235 = won at h
  have w451 : ∀ J : mz_I, fr I J [D 1] → J (D 1) = sc_11 g n sp won le → mz_W G M_X12_scores K mz_nX 451 [some (.ref (D 0)), some (.int (zI n)), some (.int (zI sp)), some (.int le), some (.int won), some (.int (b2i hd)), some (.int (b2i mo))] [.int (b2i mo), .int 264, .ref (D 1)] T J L (0, 0) := by
    intro J f1 e1
    refine mz_vc ok_X12_scores [] [(), (), (), (), (), (), (), (), (), (), (), (), (), (), (), (), (), (), (), (), (), (), (), (), (), (), (), (), (), ()] ?_
    simp only [cd_X12_scores, h0, r1, r12, ix_222 t1, n_222, ix_229 t1, n_229, ix_234 t1, n_234, ix_235 t1, n_235, ix_236 t1, n_236, ix_237 t1, n_237, ix_238 t1, n_238, ix_239 t1, n_239, ix_240 t1, n_240, ix_241 t1, n_241, ix_243 t1, n_243, ix_258 t1, n_258, ix_259 t1, n_259, ix_260 t1, n_260, ix_261 t1, n_261, ix_262 t1, n_262, ix_263 t1, n_263, ix_264 t1, n_264, ix_265 t1, n_265, ix_266 t1, n_266, r_rn0, r_rnc, r_vk0, r_vkc, r_vks, r_kci, r_kcv, r_ild, r_ald, r_lld, r_dld, r_Li, r_La, r_Ll, r_Ld, r_Ki, r_Ka, r_Kl, r_Kd, r_Kn, r_ist, r_ast, r_lst, r_dst, r_iinc, r_int, r_lng, r_dbl, r_i2, r_i1, r_l2, r_lsh, r_i2z, r_l2z, r_i2l, r_l2i, r_i2d, r_lcmp, r_ddiv, r_dcmpl, r_dup, r_dup2, r_pop, r_one_int, r_one_ref, r_go, r_if, r_ic, r_tsw, r_lsw, r_sw0, r_swc, r_lk0, r_lkc, r_kp, r_gI, r_gL, r_gR, r_pI, r_pZ, r_pL, r_pR, r_gs, r_ia, r_ca, r_za, r_la, r_da, r_aa, r_ias, r_cas, r_zas, r_las, r_das, r_aas, r_acp, r_new, r_nwa, r_nwq, r_ret, r_irt, r_zrt, r_lrt, r_drt, r_art, r_thr, r_cV0, r_cV1, r_cV2, r_cV3, r_cV4, r_cV5, r_cI0, r_cS0, r_cS1, r_cS2, r_cS3, r_cX0, r_cX1, r_cX2, r_cX3, r_rc, r_oi, r_refx, r_i10, r_i01, r_rfs, r_mem0, r_memc, r_beq, r_kl0, r_klz, r_kl1i, r_kl1r, r_kl1n, r_kl1l, r_kl1d, List.length_cons, List.length_nil, List.getElem?_cons_zero, List.getElem?_cons_succ, List.set_cons_zero, List.set_cons_succ, true_and, and_true, not_true, not_false_eq_true, false_implies, true_implies, or_true, true_or, or_false, false_or, Bool.or_false, Bool.false_or, decide_false, decide_true, Nat.reduceLT, Nat.reduceLeDiff, Nat.reduceAdd, Nat.reduceSub, ↓reduceIte, Nat.reduceEqDiff, Nat.lt_add_one]
    refine h _ ?_ ?_
    · exact fr_u2 (fr_u2 f1 (by simp)) (by simp)
    · rw [mz_u_row, mz_u_row, e1]
  have w326 : ∀ J : mz_I, fr I J [D 1] → J (D 1) = m_u (sc_6 g n sp won) 237 (g 237 + 1) → mz_W G M_X12_scores K mz_nX 326 [some (.ref (D 0)), some (.int (zI n)), some (.int (zI sp)), some (.int le), some (.int won), some (.int (b2i hd)), some (.int (b2i mo))] [.int (w_flt (g 229) le), .int (g 240), .int 240, .ref (D 1)] T J L (0, 0) := by
    intro J f1 e1
    have v222 : J (D 1) 222 = g 222 := by rw [e1, m_u_ne (by decide), sc_6o (by decide)]
    have v229 : J (D 1) 229 = g 229 := by rw [e1, m_u_ne (by decide), sc_6o (by decide)]
    have v241 : J (D 1) 241 = g 241 := by rw [e1, m_u_ne (by decide), sc_6o (by decide)]
    have hidx : (243 : Int32) + 3 * zI n + zI sp = zI ((243 + 3 * n + sp : Nat) : Int) := by
      rw [l_3, show (243 : Int32) = zI 243 from rfl, z_mul, z_add, z_add]; congr 1
    have hto : (zI ((243 + 3 * n + sp : Nat) : Int)).toNatClampNeg = 243 + 3 * n + sp := by rw [z_nat (by omega)]; rfl
    have x1 : (222 = 243 + 3 * n + sp) = False := eq_false (by omega)
    have x2 : (229 = 243 + 3 * n + sp) = False := eq_false (by omega)
    have x3 : (243 + 3 * n + sp = 241) = False := eq_false (by omega)
    have x4 : (243 + 3 * n + sp = 240) = False := eq_false (by omega)
    have vx : J (D 1) (243 + 3 * n + sp) = g (243 + 3 * n + sp) := by rw [e1, m_u_ne (by omega), sc_6o (by omega)]
    refine mz_vc ok_X12_scores [451] [(), (), (), (), (), (), (), (), (), (), (), (), (), (), (), (), (), (), (), (), (), (), (), (), (), (), (), (), (), ()] ?_
    simp only [cd_X12_scores, h0, r1, r12, ix_222 t1, n_222, ix_229 t1, n_229, ix_234 t1, n_234, ix_235 t1, n_235, ix_236 t1, n_236, ix_237 t1, n_237, ix_238 t1, n_238, ix_239 t1, n_239, ix_240 t1, n_240, ix_241 t1, n_241, ix_243 t1, n_243, ix_258 t1, n_258, ix_259 t1, n_259, ix_260 t1, n_260, ix_261 t1, n_261, ix_262 t1, n_262, ix_263 t1, n_263, ix_264 t1, n_264, ix_265 t1, n_265, ix_266 t1, n_266, mz_u_row, m_u_at, hidx, hto, v222, v229, v241, x1, x2, x3, x4, vx, b2i_0, r_rn0, r_rnc, r_vk0, r_vkc, r_vks, r_kci, r_kcv, r_ild, r_ald, r_lld, r_dld, r_Li, r_La, r_Ll, r_Ld, r_Ki, r_Ka, r_Kl, r_Kd, r_Kn, r_ist, r_ast, r_lst, r_dst, r_iinc, r_int, r_lng, r_dbl, r_i2, r_i1, r_l2, r_lsh, r_i2z, r_l2z, r_i2l, r_l2i, r_i2d, r_lcmp, r_ddiv, r_dcmpl, r_dup, r_dup2, r_pop, r_one_int, r_one_ref, r_go, r_if, r_ic, r_tsw, r_lsw, r_sw0, r_swc, r_lk0, r_lkc, r_kp, r_gI, r_gL, r_gR, r_pI, r_pZ, r_pL, r_pR, r_gs, r_ia, r_ca, r_za, r_la, r_da, r_aa, r_ias, r_cas, r_zas, r_las, r_das, r_aas, r_acp, r_new, r_nwa, r_nwq, r_ret, r_irt, r_zrt, r_lrt, r_drt, r_art, r_thr, r_cV0, r_cV1, r_cV2, r_cV3, r_cV4, r_cV5, r_cI0, r_cS0, r_cS1, r_cS2, r_cS3, r_cX0, r_cX1, r_cX2, r_cX3, r_rc, r_oi, r_refx, r_i10, r_i01, r_rfs, r_mem0, r_memc, r_beq, r_kl0, r_klz, r_kl1i, r_kl1r, r_kl1n, r_kl1l, r_kl1d, List.length_cons, List.length_nil, List.getElem?_cons_zero, List.getElem?_cons_succ, List.set_cons_zero, List.set_cons_succ, true_and, and_true, not_true, not_false_eq_true, false_implies, true_implies, or_true, true_or, or_false, false_or, Bool.or_false, Bool.false_or, decide_false, decide_true, Nat.reduceLT, Nat.reduceLeDiff, Nat.reduceAdd, Nat.reduceSub, ↓reduceIte, Nat.reduceEqDiff, Nat.lt_add_one]
    refine ⟨n_ix _ t1 (by omega) (by decide), n_ix _ t1 (by omega) (by decide), ?_⟩
    have f2 : fr I (mz_u (mz_u (mz_u (mz_u (mz_u (mz_u (mz_u (mz_u (mz_u J (D 1) 240 (g 240 + w_flt (g 229) le)) (D 1) 241 (g 241 + g 229)) (D 1) (243 + 3 * n + sp) (g (243 + 3 * n + sp) + 1)) (D 1) 258 (g 222)) (D 1) 259 (zI n)) (D 1) 260 (zI sp)) (D 1) 261 won) (D 1) 262 (g 229)) (D 1) 263 le) [D 1] := fr_u2 (fr_u2 (fr_u2 (fr_u2 (fr_u2 (fr_u2 (fr_u2 (fr_u2 (fr_u2 f1 (by simp)) (by simp)) (by simp)) (by simp)) (by simp)) (by simp)) (by simp)) (by simp)) (by simp)
    have w := w451 _ f2 (by rw [mz_u_row, mz_u_row, mz_u_row, mz_u_row, mz_u_row, mz_u_row, mz_u_row, mz_u_row, mz_u_row, e1]; rfl)
    refine ⟨fun q => ?_, fun q => ?_⟩
    · subst q; exact w
    · have q : mo = true := by simpa using q
      subst q; exact w
  have w278 : ∀ J : mz_I, fr I J [D 1] → J (D 1) = m_u (m_u (sc_3 g n sp) 234 (g 234 + won)) 236 (g 236 + zI n) → mz_W G M_X12_scores K mz_nX 278 [some (.ref (D 0)), some (.int (zI n)), some (.int (zI sp)), some (.int le), some (.int won), some (.int (b2i hd)), some (.int (b2i mo))] [.int (w_lv (g 236 + zI n)), .int 235, .ref (D 1)] T J L (0, 0) := by
    intro J f1 e1
    have v229 : J (D 1) 229 = g 229 := by rw [e1, m_u_ne (by decide), m_u_ne (by decide), sc_3o (by decide)]
    have v237 : J (D 1) 237 = g 237 := by rw [e1, m_u_ne (by decide), m_u_ne (by decide), sc_3o (by decide)]
    have v240 : J (D 1) 240 = g 240 := by rw [e1, m_u_ne (by decide), m_u_ne (by decide), sc_3o (by decide)]
    refine mz_vc ok_X12_scores [326] [(), (), (), (), (), (), (), (), (), (), (), (), (), (), (), (), (), (), (), (), (), (), (), (), (), (), (), (), (), ()] ?_
    simp only [cd_X12_scores, h0, r1, r12, ix_222 t1, n_222, ix_229 t1, n_229, ix_234 t1, n_234, ix_235 t1, n_235, ix_236 t1, n_236, ix_237 t1, n_237, ix_238 t1, n_238, ix_239 t1, n_239, ix_240 t1, n_240, ix_241 t1, n_241, ix_243 t1, n_243, ix_258 t1, n_258, ix_259 t1, n_259, ix_260 t1, n_260, ix_261 t1, n_261, ix_262 t1, n_262, ix_263 t1, n_263, ix_264 t1, n_264, ix_265 t1, n_265, ix_266 t1, n_266, mz_u_row, m_u_at, v229, v237, v240, r_rn0, r_rnc, r_vk0, r_vkc, r_vks, r_kci, r_kcv, r_ild, r_ald, r_lld, r_dld, r_Li, r_La, r_Ll, r_Ld, r_Ki, r_Ka, r_Kl, r_Kd, r_Kn, r_ist, r_ast, r_lst, r_dst, r_iinc, r_int, r_lng, r_dbl, r_i2, r_i1, r_l2, r_lsh, r_i2z, r_l2z, r_i2l, r_l2i, r_i2d, r_lcmp, r_ddiv, r_dcmpl, r_dup, r_dup2, r_pop, r_one_int, r_one_ref, r_go, r_if, r_ic, r_tsw, r_lsw, r_sw0, r_swc, r_lk0, r_lkc, r_kp, r_gI, r_gL, r_gR, r_pI, r_pZ, r_pL, r_pR, r_gs, r_ia, r_ca, r_za, r_la, r_da, r_aa, r_ias, r_cas, r_zas, r_las, r_das, r_aas, r_acp, r_new, r_nwa, r_nwq, r_ret, r_irt, r_zrt, r_lrt, r_drt, r_art, r_thr, r_cV0, r_cV1, r_cV2, r_cV3, r_cV4, r_cV5, r_cI0, r_cS0, r_cS1, r_cS2, r_cS3, r_cX0, r_cX1, r_cX2, r_cX3, r_rc, r_oi, r_refx, r_i10, r_i01, r_rfs, r_mem0, r_memc, r_beq, r_kl0, r_klz, r_kl1i, r_kl1r, r_kl1n, r_kl1l, r_kl1d, List.length_cons, List.length_nil, List.getElem?_cons_zero, List.getElem?_cons_succ, List.set_cons_zero, List.set_cons_succ, true_and, and_true, not_true, not_false_eq_true, false_implies, true_implies, or_true, true_or, or_false, false_or, Bool.or_false, Bool.false_or, decide_false, decide_true, Nat.reduceLT, Nat.reduceLeDiff, Nat.reduceAdd, Nat.reduceSub, ↓reduceIte, Nat.reduceEqDiff, Nat.lt_add_one]
    have f2 : fr I (mz_u (mz_u J (D 1) 235 (w_lv (g 236 + zI n))) (D 1) 237 (g 237 + 1)) [D 1] := fr_u2 (fr_u2 f1 (by simp)) (by simp)
    have w := w326 _ f2 (by rw [mz_u_row, mz_u_row, e1]; rfl)
    unfold w_flt at w
    refine ⟨fun q => ?_, fun q => ?_⟩
    · rw [if_neg (hflt.mp q)] at w; exact w
    · rw [if_pos (Decidable.byContradiction (fun e => q (hflt.mpr e)))] at w; exact w
  have w199 : ∀ J : mz_I, fr I J [D 1] → J (D 1) = sc_3 g n sp → mz_W G M_X12_scores K mz_nX 199 [some (.ref (D 0)), some (.int (zI n)), some (.int (zI sp)), some (.int le), some (.int (w_w2 n sp mo cb em)), some (.int (b2i hd)), some (.int (b2i mo))] [] T J L (0, 0) := by
    intro J f1 e1
    have v234 : J (D 1) 234 = g 234 := by rw [e1, sc_3o (by decide)]
    have v235 : J (D 1) 235 = g 235 := by rw [e1, sc_3o (by decide)]
    have v236 : J (D 1) 236 = g 236 := by rw [e1, sc_3o (by decide)]
    refine mz_vc ok_X12_scores [278] [(), (), (), (), (), (), (), (), (), (), (), (), (), (), (), (), (), (), (), (), (), (), (), (), (), (), (), (), (), ()] ?_
    simp only [cd_X12_scores, h0, r1, r12, ix_222 t1, n_222, ix_229 t1, n_229, ix_234 t1, n_234, ix_235 t1, n_235, ix_236 t1, n_236, ix_237 t1, n_237, ix_238 t1, n_238, ix_239 t1, n_239, ix_240 t1, n_240, ix_241 t1, n_241, ix_243 t1, n_243, ix_258 t1, n_258, ix_259 t1, n_259, ix_260 t1, n_260, ix_261 t1, n_261, ix_262 t1, n_262, ix_263 t1, n_263, ix_264 t1, n_264, ix_265 t1, n_265, ix_266 t1, n_266, mz_u_row, m_u_at, v234, v235, v236, r_rn0, r_rnc, r_vk0, r_vkc, r_vks, r_kci, r_kcv, r_ild, r_ald, r_lld, r_dld, r_Li, r_La, r_Ll, r_Ld, r_Ki, r_Ka, r_Kl, r_Kd, r_Kn, r_ist, r_ast, r_lst, r_dst, r_iinc, r_int, r_lng, r_dbl, r_i2, r_i1, r_l2, r_lsh, r_i2z, r_l2z, r_i2l, r_l2i, r_i2d, r_lcmp, r_ddiv, r_dcmpl, r_dup, r_dup2, r_pop, r_one_int, r_one_ref, r_go, r_if, r_ic, r_tsw, r_lsw, r_sw0, r_swc, r_lk0, r_lkc, r_kp, r_gI, r_gL, r_gR, r_pI, r_pZ, r_pL, r_pR, r_gs, r_ia, r_ca, r_za, r_la, r_da, r_aa, r_ias, r_cas, r_zas, r_las, r_das, r_aas, r_acp, r_new, r_nwa, r_nwq, r_ret, r_irt, r_zrt, r_lrt, r_drt, r_art, r_thr, r_cV0, r_cV1, r_cV2, r_cV3, r_cV4, r_cV5, r_cI0, r_cS0, r_cS1, r_cS2, r_cS3, r_cX0, r_cX1, r_cX2, r_cX3, r_rc, r_oi, r_refx, r_i10, r_i01, r_rfs, r_mem0, r_memc, r_beq, r_kl0, r_klz, r_kl1i, r_kl1r, r_kl1n, r_kl1l, r_kl1d, List.length_cons, List.length_nil, List.getElem?_cons_zero, List.getElem?_cons_succ, List.set_cons_zero, List.set_cons_succ, true_and, and_true, not_true, not_false_eq_true, false_implies, true_implies, or_true, true_or, or_false, false_or, Bool.or_false, Bool.false_or, decide_false, decide_true, Nat.reduceLT, Nat.reduceLeDiff, Nat.reduceAdd, Nat.reduceSub, ↓reduceIte, Nat.reduceEqDiff, Nat.lt_add_one]
    rw [hwn]
    refine ⟨by decide, ?_⟩
    have f2 : fr I (mz_u (mz_u J (D 1) 234 (g 234 + won)) (D 1) 236 (g 236 + zI n)) [D 1] := fr_u2 (fr_u2 f1 (by simp)) (by simp)
    have w := w278 _ f2 (by rw [mz_u_row, mz_u_row, e1])
    unfold w_lv at w
    refine ⟨fun q => ?_, fun q => ⟨by decide, ?_⟩⟩
    · rw [if_neg (lv_eq.mp q)] at w; exact w
    · rw [if_pos (Decidable.byContradiction (fun e => q (lv_eq.mpr e)))] at w; exact w
  have w145 : ∀ J : mz_I, fr I J [D 1] → J (D 1) = m_u g 238 cb → mz_W G M_X12_scores K mz_nX 145 [some (.ref (D 0)), some (.int (zI n)), some (.int (zI sp)), some (.int le), some (.int (w_w1 n sp mo)), some (.int (b2i hd)), some (.int (b2i mo))] [.int (if g 239 < cb then cb else g 239), .int 239, .ref (D 1)] T J L (0, 0) := by
    intro J f1 e1
    have f2 : fr I (mz_u J (D 1) 239 (if g 239 < cb then cb else g 239)) [D 1] := fr_u2 f1 (by simp)
    have e2 : (mz_u J (D 1) 239 (if g 239 < cb then cb else g 239)) (D 1) = sc_2 g n := by rw [mz_u_row, e1]; unfold sc_2; rw [hcb]
    have v238 : J (D 1) 238 = cb := by rw [e1, m_u_eq]
    by_cases c : 0 < n
    · have e3 : ∀ v, (mz_u (mz_u J (D 1) 239 (if g 239 < cb then cb else g 239)) (D 1) 266 v) (D 1) = m_u (sc_2 g n) 266 v := fun v => by rw [mz_u_row, e2]
      have efc : ∀ v, s_fm (m_u (sc_2 g n) 266 v) = s_fm g := fun v => s_fm_eq (fun i hi => by unfold sc_2; rw [m_u_ne (by omega), m_u_ne (by omega), m_u_ne (by omega)])
      have w167 : mz_W G M_X12_scores K mz_nX 167 [some (.ref (D 0)), some (.int (zI n)), some (.int (zI sp)), some (.int le), some (.int (w_w1 n sp mo)), some (.int (b2i hd)), some (.int (b2i mo))] [.int (b2i hd), .int 266, .ref (D 1)] T (mz_u J (D 1) 239 (if g 239 < cb then cb else g 239)) L (0, 0) := by
        refine mz_vc ok_X12_scores [199] [(), (), (), (), (), (), (), (), (), (), (), (), (), (), (), (), (), (), (), (), (), (), (), (), (), (), (), (), (), ()] ?_
        simp only [cd_X12_scores, h0, r1, r12, ix_222 t1, n_222, ix_229 t1, n_229, ix_234 t1, n_234, ix_235 t1, n_235, ix_236 t1, n_236, ix_237 t1, n_237, ix_238 t1, n_238, ix_239 t1, n_239, ix_240 t1, n_240, ix_241 t1, n_241, ix_243 t1, n_243, ix_258 t1, n_258, ix_259 t1, n_259, ix_260 t1, n_260, ix_261 t1, n_261, ix_262 t1, n_262, ix_263 t1, n_263, ix_264 t1, n_264, ix_265 t1, n_265, ix_266 t1, n_266, mz_u_row, m_u_at, v238, r_rn0, r_rnc, r_vk0, r_vkc, r_vks, r_kci, r_kcv, r_ild, r_ald, r_lld, r_dld, r_Li, r_La, r_Ll, r_Ld, r_Ki, r_Ka, r_Kl, r_Kd, r_Kn, r_ist, r_ast, r_lst, r_dst, r_iinc, r_int, r_lng, r_dbl, r_i2, r_i1, r_l2, r_lsh, r_i2z, r_l2z, r_i2l, r_l2i, r_i2d, r_lcmp, r_ddiv, r_dcmpl, r_dup, r_dup2, r_pop, r_one_int, r_one_ref, r_go, r_if, r_ic, r_tsw, r_lsw, r_sw0, r_swc, r_lk0, r_lkc, r_kp, r_gI, r_gL, r_gR, r_pI, r_pZ, r_pL, r_pR, r_gs, r_ia, r_ca, r_za, r_la, r_da, r_aa, r_ias, r_cas, r_zas, r_las, r_das, r_aas, r_acp, r_new, r_nwa, r_nwq, r_ret, r_irt, r_zrt, r_lrt, r_drt, r_art, r_thr, r_cV0, r_cV1, r_cV2, r_cV3, r_cV4, r_cV5, r_cI0, r_cS0, r_cS1, r_cS2, r_cS3, r_cX0, r_cX1, r_cX2, r_cX3, r_rc, r_oi, r_refx, r_i10, r_i01, r_rfs, r_mem0, r_memc, r_beq, r_kl0, r_klz, r_kl1i, r_kl1r, r_kl1n, r_kl1l, r_kl1d, List.length_cons, List.length_nil, List.getElem?_cons_zero, List.getElem?_cons_succ, List.set_cons_zero, List.set_cons_succ, true_and, and_true, not_true, not_false_eq_true, false_implies, true_implies, or_true, true_or, or_false, false_or, Bool.or_false, Bool.false_or, decide_false, decide_true, Nat.reduceLT, Nat.reduceLeDiff, Nat.reduceAdd, Nat.reduceSub, ↓reduceIte, Nat.reduceEqDiff, Nat.lt_add_one]
        refine c_filledM hM ?_
        rw [e3, efc]
        simp only [cd_X12_scores, h0, r1, r12, ix_222 t1, n_222, ix_229 t1, n_229, ix_234 t1, n_234, ix_235 t1, n_235, ix_236 t1, n_236, ix_237 t1, n_237, ix_238 t1, n_238, ix_239 t1, n_239, ix_240 t1, n_240, ix_241 t1, n_241, ix_243 t1, n_243, ix_258 t1, n_258, ix_259 t1, n_259, ix_260 t1, n_260, ix_261 t1, n_261, ix_262 t1, n_262, ix_263 t1, n_263, ix_264 t1, n_264, ix_265 t1, n_265, ix_266 t1, n_266, r_rn0, r_rnc, r_vk0, r_vkc, r_vks, r_kci, r_kcv, r_ild, r_ald, r_lld, r_dld, r_Li, r_La, r_Ll, r_Ld, r_Ki, r_Ka, r_Kl, r_Kd, r_Kn, r_ist, r_ast, r_lst, r_dst, r_iinc, r_int, r_lng, r_dbl, r_i2, r_i1, r_l2, r_lsh, r_i2z, r_l2z, r_i2l, r_l2i, r_i2d, r_lcmp, r_ddiv, r_dcmpl, r_dup, r_dup2, r_pop, r_one_int, r_one_ref, r_go, r_if, r_ic, r_tsw, r_lsw, r_sw0, r_swc, r_lk0, r_lkc, r_kp, r_gI, r_gL, r_gR, r_pI, r_pZ, r_pL, r_pR, r_gs, r_ia, r_ca, r_za, r_la, r_da, r_aa, r_ias, r_cas, r_zas, r_las, r_das, r_aas, r_acp, r_new, r_nwa, r_nwq, r_ret, r_irt, r_zrt, r_lrt, r_drt, r_art, r_thr, r_cV0, r_cV1, r_cV2, r_cV3, r_cV4, r_cV5, r_cI0, r_cS0, r_cS1, r_cS2, r_cS3, r_cX0, r_cX1, r_cX2, r_cX3, r_rc, r_oi, r_refx, r_i10, r_i01, r_rfs, r_mem0, r_memc, r_beq, r_kl0, r_klz, r_kl1i, r_kl1r, r_kl1n, r_kl1l, r_kl1d, List.length_cons, List.length_nil, List.getElem?_cons_zero, List.getElem?_cons_succ, List.set_cons_zero, List.set_cons_succ, true_and, and_true, not_true, not_false_eq_true, false_implies, true_implies, or_true, true_or, or_false, false_or, Bool.or_false, Bool.false_or, decide_false, decide_true, Nat.reduceLT, Nat.reduceLeDiff, Nat.reduceAdd, Nat.reduceSub, ↓reduceIte, Nat.reduceEqDiff, Nat.lt_add_one]
        have w := w199 _ (fr_u2 f2 (by simp) : fr I (mz_u (mz_u J (D 1) 239 (if g 239 < cb then cb else g 239)) (D 1) 266 (b2i hd)) [D 1]) (by rw [e3]; unfold sc_3; rw [if_pos c, hhd])
        unfold w_w2 at w
        rw [if_pos c] at w
        rw [l_0, z_eq (by omega) (by omega), ← l_0]
        refine ⟨fun q => ?_, fun q => ?_⟩
        · have : em = false := by rw [← hem]; exact decide_eq_false (by omega)
          rw [this] at w; exact w
        · have : em = true := by rw [← hem]; exact decide_eq_true (by omega)
          rw [this] at w; exact w
      refine mz_vc ok_X12_scores [167, 199] [(), (), (), (), (), (), (), (), (), (), (), (), (), (), (), (), (), (), (), (), (), (), (), (), (), (), (), (), (), ()] ?_
      simp only [cd_X12_scores, h0, r1, r12, ix_222 t1, n_222, ix_229 t1, n_229, ix_234 t1, n_234, ix_235 t1, n_235, ix_236 t1, n_236, ix_237 t1, n_237, ix_238 t1, n_238, ix_239 t1, n_239, ix_240 t1, n_240, ix_241 t1, n_241, ix_243 t1, n_243, ix_258 t1, n_258, ix_259 t1, n_259, ix_260 t1, n_260, ix_261 t1, n_261, ix_262 t1, n_262, ix_263 t1, n_263, ix_264 t1, n_264, ix_265 t1, n_265, ix_266 t1, n_266, b2i_0, r_rn0, r_rnc, r_vk0, r_vkc, r_vks, r_kci, r_kcv, r_ild, r_ald, r_lld, r_dld, r_Li, r_La, r_Ll, r_Ld, r_Ki, r_Ka, r_Kl, r_Kd, r_Kn, r_ist, r_ast, r_lst, r_dst, r_iinc, r_int, r_lng, r_dbl, r_i2, r_i1, r_l2, r_lsh, r_i2z, r_l2z, r_i2l, r_l2i, r_i2d, r_lcmp, r_ddiv, r_dcmpl, r_dup, r_dup2, r_pop, r_one_int, r_one_ref, r_go, r_if, r_ic, r_tsw, r_lsw, r_sw0, r_swc, r_lk0, r_lkc, r_kp, r_gI, r_gL, r_gR, r_pI, r_pZ, r_pL, r_pR, r_gs, r_ia, r_ca, r_za, r_la, r_da, r_aa, r_ias, r_cas, r_zas, r_las, r_das, r_aas, r_acp, r_new, r_nwa, r_nwq, r_ret, r_irt, r_zrt, r_lrt, r_drt, r_art, r_thr, r_cV0, r_cV1, r_cV2, r_cV3, r_cV4, r_cV5, r_cI0, r_cS0, r_cS1, r_cS2, r_cS3, r_cX0, r_cX1, r_cX2, r_cX3, r_rc, r_oi, r_refx, r_i10, r_i01, r_rfs, r_mem0, r_memc, r_beq, r_kl0, r_klz, r_kl1i, r_kl1r, r_kl1n, r_kl1l, r_kl1d, List.length_cons, List.length_nil, List.getElem?_cons_zero, List.getElem?_cons_succ, List.set_cons_zero, List.set_cons_succ, true_and, and_true, not_true, not_false_eq_true, false_implies, true_implies, or_true, true_or, or_false, false_or, Bool.or_false, Bool.false_or, decide_false, decide_true, Nat.reduceLT, Nat.reduceLeDiff, Nat.reduceAdd, Nat.reduceSub, ↓reduceIte, Nat.reduceEqDiff, Nat.lt_add_one]
      refine ⟨fun q => absurd c (by rw [hnz]; exact fun e => e q), fun _ => ⟨fun q => ?_, fun q => ?_⟩⟩
      · subst q; exact w167
      · have q : hd = true := by simpa using q
        subst q; exact w167
    · refine mz_vc ok_X12_scores [167, 199] [(), (), (), (), (), (), (), (), (), (), (), (), (), (), (), (), (), (), (), (), (), (), (), (), (), (), (), (), (), ()] ?_
      simp only [cd_X12_scores, h0, r1, r12, ix_222 t1, n_222, ix_229 t1, n_229, ix_234 t1, n_234, ix_235 t1, n_235, ix_236 t1, n_236, ix_237 t1, n_237, ix_238 t1, n_238, ix_239 t1, n_239, ix_240 t1, n_240, ix_241 t1, n_241, ix_243 t1, n_243, ix_258 t1, n_258, ix_259 t1, n_259, ix_260 t1, n_260, ix_261 t1, n_261, ix_262 t1, n_262, ix_263 t1, n_263, ix_264 t1, n_264, ix_265 t1, n_265, ix_266 t1, n_266, b2i_0, r_rn0, r_rnc, r_vk0, r_vkc, r_vks, r_kci, r_kcv, r_ild, r_ald, r_lld, r_dld, r_Li, r_La, r_Ll, r_Ld, r_Ki, r_Ka, r_Kl, r_Kd, r_Kn, r_ist, r_ast, r_lst, r_dst, r_iinc, r_int, r_lng, r_dbl, r_i2, r_i1, r_l2, r_lsh, r_i2z, r_l2z, r_i2l, r_l2i, r_i2d, r_lcmp, r_ddiv, r_dcmpl, r_dup, r_dup2, r_pop, r_one_int, r_one_ref, r_go, r_if, r_ic, r_tsw, r_lsw, r_sw0, r_swc, r_lk0, r_lkc, r_kp, r_gI, r_gL, r_gR, r_pI, r_pZ, r_pL, r_pR, r_gs, r_ia, r_ca, r_za, r_la, r_da, r_aa, r_ias, r_cas, r_zas, r_las, r_das, r_aas, r_acp, r_new, r_nwa, r_nwq, r_ret, r_irt, r_zrt, r_lrt, r_drt, r_art, r_thr, r_cV0, r_cV1, r_cV2, r_cV3, r_cV4, r_cV5, r_cI0, r_cS0, r_cS1, r_cS2, r_cS3, r_cX0, r_cX1, r_cX2, r_cX3, r_rc, r_oi, r_refx, r_i10, r_i01, r_rfs, r_mem0, r_memc, r_beq, r_kl0, r_klz, r_kl1i, r_kl1r, r_kl1n, r_kl1l, r_kl1d, List.length_cons, List.length_nil, List.getElem?_cons_zero, List.getElem?_cons_succ, List.set_cons_zero, List.set_cons_succ, true_and, and_true, not_true, not_false_eq_true, false_implies, true_implies, or_true, true_or, or_false, false_or, Bool.or_false, Bool.false_or, decide_false, decide_true, Nat.reduceLT, Nat.reduceLeDiff, Nat.reduceAdd, Nat.reduceSub, ↓reduceIte, Nat.reduceEqDiff, Nat.lt_add_one]
      refine ⟨fun _ => ?_, fun q => absurd (hnz.mpr q) c⟩
      have w := w199 _ f2 (by rw [e2]; unfold sc_3; rw [if_neg c])
      unfold w_w2 at w
      rw [if_neg c] at w
      exact w
  have w99 : mz_W G M_X12_scores K mz_nX 99 [some (.ref (D 0)), some (.int (zI n)), some (.int (zI sp)), some (.int le), some (.int (w_w1 n sp mo)), some (.int (b2i hd)), some (.int (b2i mo))] [.int cb, .int 238, .ref (D 1)] T I L (0, 0) := by
    have v239 : I (D 1) 239 = g 239 := by rw [hg]
    refine mz_vc ok_X12_scores [145] [(), (), (), (), (), (), (), (), (), (), (), (), (), (), (), (), (), (), (), (), (), (), (), (), (), (), (), (), (), ()] ?_
    simp only [cd_X12_scores, h0, r1, r12, ix_222 t1, n_222, ix_229 t1, n_229, ix_234 t1, n_234, ix_235 t1, n_235, ix_236 t1, n_236, ix_237 t1, n_237, ix_238 t1, n_238, ix_239 t1, n_239, ix_240 t1, n_240, ix_241 t1, n_241, ix_243 t1, n_243, ix_258 t1, n_258, ix_259 t1, n_259, ix_260 t1, n_260, ix_261 t1, n_261, ix_262 t1, n_262, ix_263 t1, n_263, ix_264 t1, n_264, ix_265 t1, n_265, ix_266 t1, n_266, mz_u_row, m_u_at, v239, r_rn0, r_rnc, r_vk0, r_vkc, r_vks, r_kci, r_kcv, r_ild, r_ald, r_lld, r_dld, r_Li, r_La, r_Ll, r_Ld, r_Ki, r_Ka, r_Kl, r_Kd, r_Kn, r_ist, r_ast, r_lst, r_dst, r_iinc, r_int, r_lng, r_dbl, r_i2, r_i1, r_l2, r_lsh, r_i2z, r_l2z, r_i2l, r_l2i, r_i2d, r_lcmp, r_ddiv, r_dcmpl, r_dup, r_dup2, r_pop, r_one_int, r_one_ref, r_go, r_if, r_ic, r_tsw, r_lsw, r_sw0, r_swc, r_lk0, r_lkc, r_kp, r_gI, r_gL, r_gR, r_pI, r_pZ, r_pL, r_pR, r_gs, r_ia, r_ca, r_za, r_la, r_da, r_aa, r_ias, r_cas, r_zas, r_las, r_das, r_aas, r_acp, r_new, r_nwa, r_nwq, r_ret, r_irt, r_zrt, r_lrt, r_drt, r_art, r_thr, r_cV0, r_cV1, r_cV2, r_cV3, r_cV4, r_cV5, r_cI0, r_cS0, r_cS1, r_cS2, r_cS3, r_cX0, r_cX1, r_cX2, r_cX3, r_rc, r_oi, r_refx, r_i10, r_i01, r_rfs, r_mem0, r_memc, r_beq, r_kl0, r_klz, r_kl1i, r_kl1r, r_kl1n, r_kl1l, r_kl1d, List.length_cons, List.length_nil, List.getElem?_cons_zero, List.getElem?_cons_succ, List.set_cons_zero, List.set_cons_succ, true_and, and_true, not_true, not_false_eq_true, false_implies, true_implies, or_true, true_or, or_false, false_or, Bool.or_false, Bool.false_or, decide_false, decide_true, Nat.reduceLT, Nat.reduceLeDiff, Nat.reduceAdd, Nat.reduceSub, ↓reduceIte, Nat.reduceEqDiff, Nat.lt_add_one]
    have w := w145 _ (fr_u : fr I (mz_u I (D 1) 238 cb) [D 1]) (by rw [mz_u_row, hg])
    refine ⟨fun q => ?_, fun q => ?_⟩
    · rw [if_neg (Int32.not_lt.mpr q)] at w; exact w
    · rw [if_pos (Int32.not_le.mp q)] at w; exact w
  have w72 : mz_W G M_X12_scores K mz_nX 72 [some (.ref (D 0)), some (.int (zI n)), some (.int (zI sp)), some (.int le), some (.int (w_pt n sp)), some (.int (b2i hd)), some (.int (b2i mo))] [.int (w_w1 n sp mo)] T I L (0, 0) := by
    have v238 : I (D 1) 238 = g 238 := by rw [hg]
    refine mz_vc ok_X12_scores [99] [(), (), (), (), (), (), (), (), (), (), (), (), (), (), (), (), (), (), (), (), (), (), (), (), (), (), (), (), (), ()] ?_
    simp only [cd_X12_scores, h0, r1, r12, ix_222 t1, n_222, ix_229 t1, n_229, ix_234 t1, n_234, ix_235 t1, n_235, ix_236 t1, n_236, ix_237 t1, n_237, ix_238 t1, n_238, ix_239 t1, n_239, ix_240 t1, n_240, ix_241 t1, n_241, ix_243 t1, n_243, ix_258 t1, n_258, ix_259 t1, n_259, ix_260 t1, n_260, ix_261 t1, n_261, ix_262 t1, n_262, ix_263 t1, n_263, ix_264 t1, n_264, ix_265 t1, n_265, ix_266 t1, n_266, v238, r_rn0, r_rnc, r_vk0, r_vkc, r_vks, r_kci, r_kcv, r_ild, r_ald, r_lld, r_dld, r_Li, r_La, r_Ll, r_Ld, r_Ki, r_Ka, r_Kl, r_Kd, r_Kn, r_ist, r_ast, r_lst, r_dst, r_iinc, r_int, r_lng, r_dbl, r_i2, r_i1, r_l2, r_lsh, r_i2z, r_l2z, r_i2l, r_l2i, r_i2d, r_lcmp, r_ddiv, r_dcmpl, r_dup, r_dup2, r_pop, r_one_int, r_one_ref, r_go, r_if, r_ic, r_tsw, r_lsw, r_sw0, r_swc, r_lk0, r_lkc, r_kp, r_gI, r_gL, r_gR, r_pI, r_pZ, r_pL, r_pR, r_gs, r_ia, r_ca, r_za, r_la, r_da, r_aa, r_ias, r_cas, r_zas, r_las, r_das, r_aas, r_acp, r_new, r_nwa, r_nwq, r_ret, r_irt, r_zrt, r_lrt, r_drt, r_art, r_thr, r_cV0, r_cV1, r_cV2, r_cV3, r_cV4, r_cV5, r_cI0, r_cS0, r_cS1, r_cS2, r_cS3, r_cX0, r_cX1, r_cX2, r_cX3, r_rc, r_oi, r_refx, r_i10, r_i01, r_rfs, r_mem0, r_memc, r_beq, r_kl0, r_klz, r_kl1i, r_kl1r, r_kl1n, r_kl1l, r_kl1d, List.length_cons, List.length_nil, List.getElem?_cons_zero, List.getElem?_cons_succ, List.set_cons_zero, List.set_cons_succ, true_and, and_true, not_true, not_false_eq_true, false_implies, true_implies, or_true, true_or, or_false, false_or, Bool.or_false, Bool.false_or, decide_false, decide_true, Nat.reduceLT, Nat.reduceLeDiff, Nat.reduceAdd, Nat.reduceSub, ↓reduceIte, Nat.reduceEqDiff, Nat.lt_add_one]
    have w := w99
    rw [← hcb] at w
    unfold w_cb at w
    refine ⟨fun q => ?_, fun q => ?_⟩
    · rw [if_neg (fun e => hnz.mp e q)] at w; exact w
    · rw [if_pos (hnz.mpr q)] at w; exact w
  have w54 : mz_W G M_X12_scores K mz_nX 54 [some (.ref (D 0)), some (.int (zI n)), some (.int (zI sp)), some (.int le), some (.int (w_pt n sp)), some (.int (b2i hd)), none] [.int (b2i mo)] T I L (0, 0) := by
    refine mz_vc ok_X12_scores [72] [(), (), (), (), (), (), (), (), (), (), (), (), (), (), (), (), (), (), (), (), (), (), (), (), (), (), (), (), (), ()] ?_
    simp only [cd_X12_scores, h0, r1, r12, ix_222 t1, n_222, ix_229 t1, n_229, ix_234 t1, n_234, ix_235 t1, n_235, ix_236 t1, n_236, ix_237 t1, n_237, ix_238 t1, n_238, ix_239 t1, n_239, ix_240 t1, n_240, ix_241 t1, n_241, ix_243 t1, n_243, ix_258 t1, n_258, ix_259 t1, n_259, ix_260 t1, n_260, ix_261 t1, n_261, ix_262 t1, n_262, ix_263 t1, n_263, ix_264 t1, n_264, ix_265 t1, n_265, ix_266 t1, n_266, b2i_0, r_rn0, r_rnc, r_vk0, r_vkc, r_vks, r_kci, r_kcv, r_ild, r_ald, r_lld, r_dld, r_Li, r_La, r_Ll, r_Ld, r_Ki, r_Ka, r_Kl, r_Kd, r_Kn, r_ist, r_ast, r_lst, r_dst, r_iinc, r_int, r_lng, r_dbl, r_i2, r_i1, r_l2, r_lsh, r_i2z, r_l2z, r_i2l, r_l2i, r_i2d, r_lcmp, r_ddiv, r_dcmpl, r_dup, r_dup2, r_pop, r_one_int, r_one_ref, r_go, r_if, r_ic, r_tsw, r_lsw, r_sw0, r_swc, r_lk0, r_lkc, r_kp, r_gI, r_gL, r_gR, r_pI, r_pZ, r_pL, r_pR, r_gs, r_ia, r_ca, r_za, r_la, r_da, r_aa, r_ias, r_cas, r_zas, r_las, r_das, r_aas, r_acp, r_new, r_nwa, r_nwq, r_ret, r_irt, r_zrt, r_lrt, r_drt, r_art, r_thr, r_cV0, r_cV1, r_cV2, r_cV3, r_cV4, r_cV5, r_cI0, r_cS0, r_cS1, r_cS2, r_cS3, r_cX0, r_cX1, r_cX2, r_cX3, r_rc, r_oi, r_refx, r_i10, r_i01, r_rfs, r_mem0, r_memc, r_beq, r_kl0, r_klz, r_kl1i, r_kl1r, r_kl1n, r_kl1l, r_kl1d, List.length_cons, List.length_nil, List.getElem?_cons_zero, List.getElem?_cons_succ, List.set_cons_zero, List.set_cons_succ, true_and, and_true, not_true, not_false_eq_true, false_implies, true_implies, or_true, true_or, or_false, false_or, Bool.or_false, Bool.false_or, decide_false, decide_true, Nat.reduceLT, Nat.reduceLeDiff, Nat.reduceAdd, Nat.reduceSub, ↓reduceIte, Nat.reduceEqDiff, Nat.lt_add_one]
    have w := w72
    unfold w_w1 at w
    refine ⟨fun q => ?_, fun q => ⟨by decide, ?_⟩⟩
    · rw [q] at w ⊢; exact w
    · have q : mo = true := by simpa using q
      rw [q] at w ⊢; exact w
  have w30 : mz_W G M_X12_scores K mz_nX 30 [some (.ref (D 0)), some (.int (zI n)), some (.int (zI sp)), some (.int le), some (.int (w_pt n sp)), none, none] [.int (b2i hd)] T I L (0, 0) := by
    have v266 : I (D 1) 266 = g 266 := by rw [hg]
    refine mz_vc ok_X12_scores [54] [(), (), (), (), (), (), (), (), (), (), (), (), (), (), (), (), (), (), (), (), (), (), (), (), (), (), (), (), (), ()] ?_
    simp only [cd_X12_scores, h0, r1, r12, ix_222 t1, n_222, ix_229 t1, n_229, ix_234 t1, n_234, ix_235 t1, n_235, ix_236 t1, n_236, ix_237 t1, n_237, ix_238 t1, n_238, ix_239 t1, n_239, ix_240 t1, n_240, ix_241 t1, n_241, ix_243 t1, n_243, ix_258 t1, n_258, ix_259 t1, n_259, ix_260 t1, n_260, ix_261 t1, n_261, ix_262 t1, n_262, ix_263 t1, n_263, ix_264 t1, n_264, ix_265 t1, n_265, ix_266 t1, n_266, b2i_0, v266, r_rn0, r_rnc, r_vk0, r_vkc, r_vks, r_kci, r_kcv, r_ild, r_ald, r_lld, r_dld, r_Li, r_La, r_Ll, r_Ld, r_Ki, r_Ka, r_Kl, r_Kd, r_Kn, r_ist, r_ast, r_lst, r_dst, r_iinc, r_int, r_lng, r_dbl, r_i2, r_i1, r_l2, r_lsh, r_i2z, r_l2z, r_i2l, r_l2i, r_i2d, r_lcmp, r_ddiv, r_dcmpl, r_dup, r_dup2, r_pop, r_one_int, r_one_ref, r_go, r_if, r_ic, r_tsw, r_lsw, r_sw0, r_swc, r_lk0, r_lkc, r_kp, r_gI, r_gL, r_gR, r_pI, r_pZ, r_pL, r_pR, r_gs, r_ia, r_ca, r_za, r_la, r_da, r_aa, r_ias, r_cas, r_zas, r_las, r_das, r_aas, r_acp, r_new, r_nwa, r_nwq, r_ret, r_irt, r_zrt, r_lrt, r_drt, r_art, r_thr, r_cV0, r_cV1, r_cV2, r_cV3, r_cV4, r_cV5, r_cI0, r_cS0, r_cS1, r_cS2, r_cS3, r_cX0, r_cX1, r_cX2, r_cX3, r_rc, r_oi, r_refx, r_i10, r_i01, r_rfs, r_mem0, r_memc, r_beq, r_kl0, r_klz, r_kl1i, r_kl1r, r_kl1n, r_kl1l, r_kl1d, List.length_cons, List.length_nil, List.getElem?_cons_zero, List.getElem?_cons_succ, List.set_cons_zero, List.set_cons_succ, true_and, and_true, not_true, not_false_eq_true, false_implies, true_implies, or_true, true_or, or_false, false_or, Bool.or_false, Bool.false_or, decide_false, decide_true, Nat.reduceLT, Nat.reduceLeDiff, Nat.reduceAdd, Nat.reduceSub, ↓reduceIte, Nat.reduceEqDiff, Nat.lt_add_one]
    have w := w54
    rw [← hmo] at w
    refine ⟨fun q => ?_, fun q => ⟨fun q2 => ?_, fun q2 => ?_⟩⟩
    · rw [q] at w ⊢; exact w
    · have q : hd = true := by simpa using q
      rw [decide_eq_false q2, Bool.and_false] at w; exact w
    · have q : hd = true := by simpa using q
      rw [q, decide_eq_true (by simpa using q2)] at w
      rw [q]; exact w
  refine mz_ofl mk_X12_scores rfl (Nat.le_of_ble_eq_true rfl) (Nat.le_of_ble_eq_true rfl) [some (.ref (D 0)), some (.int (zI n)), some (.int (zI sp)), some (.int le), none, none, none] rfl ?_
  refine mz_vc ok_X12_scores [30] [(), (), (), (), (), (), (), (), (), (), (), (), (), (), (), (), (), (), (), (), (), (), (), (), (), (), (), (), (), ()] ?_
  simp only [cd_X12_scores, h0, r1, r12, ix_222 t1, n_222, ix_229 t1, n_229, ix_234 t1, n_234, ix_235 t1, n_235, ix_236 t1, n_236, ix_237 t1, n_237, ix_238 t1, n_238, ix_239 t1, n_239, ix_240 t1, n_240, ix_241 t1, n_241, ix_243 t1, n_243, ix_258 t1, n_258, ix_259 t1, n_259, ix_260 t1, n_260, ix_261 t1, n_261, ix_262 t1, n_262, ix_263 t1, n_263, ix_264 t1, n_264, ix_265 t1, n_265, ix_266 t1, n_266, r_rn0, r_rnc, r_vk0, r_vkc, r_vks, r_kci, r_kcv, r_ild, r_ald, r_lld, r_dld, r_Li, r_La, r_Ll, r_Ld, r_Ki, r_Ka, r_Kl, r_Kd, r_Kn, r_ist, r_ast, r_lst, r_dst, r_iinc, r_int, r_lng, r_dbl, r_i2, r_i1, r_l2, r_lsh, r_i2z, r_l2z, r_i2l, r_l2i, r_i2d, r_lcmp, r_ddiv, r_dcmpl, r_dup, r_dup2, r_pop, r_one_int, r_one_ref, r_go, r_if, r_ic, r_tsw, r_lsw, r_sw0, r_swc, r_lk0, r_lkc, r_kp, r_gI, r_gL, r_gR, r_pI, r_pZ, r_pL, r_pR, r_gs, r_ia, r_ca, r_za, r_la, r_da, r_aa, r_ias, r_cas, r_zas, r_las, r_das, r_aas, r_acp, r_new, r_nwa, r_nwq, r_ret, r_irt, r_zrt, r_lrt, r_drt, r_art, r_thr, r_cV0, r_cV1, r_cV2, r_cV3, r_cV4, r_cV5, r_cI0, r_cS0, r_cS1, r_cS2, r_cS3, r_cX0, r_cX1, r_cX2, r_cX3, r_rc, r_oi, r_refx, r_i10, r_i01, r_rfs, r_mem0, r_memc, r_beq, r_kl0, r_klz, r_kl1i, r_kl1r, r_kl1n, r_kl1l, r_kl1d, List.length_cons, List.length_nil, List.getElem?_cons_zero, List.getElem?_cons_succ, List.set_cons_zero, List.set_cons_succ, true_and, and_true, not_true, not_false_eq_true, false_implies, true_implies, or_true, true_or, or_false, false_or, Bool.or_false, Bool.false_or, decide_false, decide_true, Nat.reduceLT, Nat.reduceLeDiff, Nat.reduceAdd, Nat.reduceSub, ↓reduceIte, Nat.reduceEqDiff, Nat.lt_add_one]
  have hidx : (5 : Int32) * zI sp + zI n = zI ((5 * sp + n : Nat) : Int) := by
    rw [show (5 : Int32) = zI 5 from rfl, z_mul, z_add]; congr 1
  rw [hidx, z_nat (by omega), Int.toNat_natCast, hpt _ (by omega)]
  refine ⟨n_ix _ t12 (by omega) (by decide), ?_⟩
  have w := w30
  rw [← hhd] at w
  unfold w_hard at w
  refine ⟨fun q => ?_, fun q => ⟨fun q2 => ?_, fun q2 => ⟨fun q3 => ?_, fun q3 => ?_⟩⟩⟩
  · have c : ¬ 0 < n := fun e => hnz.mp e q
    rw [decide_eq_false c, decide_eq_false (show ¬ n = 4 by omega)] at w; exact w
  · rw [decide_eq_true (hn4.mpr q2)] at w; exact w
  · have c : ¬ 0 < sp := fun e => hspz.mp e q3
    rw [decide_eq_false (fun e => q2 (hn4.mp e)), decide_eq_false c, Bool.and_false] at w; exact w
  · rw [decide_eq_true (hnz.mpr q), decide_eq_true (hspz.mpr q3), Bool.and_self, Bool.or_true] at w; exact w
end MODS
