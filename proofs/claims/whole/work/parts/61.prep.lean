/-! the search for placements: what is kept of it -/
section PREP
variable {G : mz_G} {K : mz_K} {T : mz_T} {I : mz_I} {L : mz_L}
def x_norm (m : Nat → Int32) : Nat → Int32 := fun j => if j < 220 ∨ (222 ≤ j ∧ j ≤ 225) then m j else 0
theorem x_norm_at {m : Nat → Int32} {j : Nat} (h : j < 220 ∨ (222 ≤ j ∧ j ≤ 225)) : x_norm m j = m j := if_pos h
theorem x_norm_eq {m m' : Nat → Int32} (h : ∀ j, j < 220 ∨ (222 ≤ j ∧ j ≤ 225) → m j = m' j) : x_norm m = x_norm m' := by
  funext j
  unfold x_norm
  by_cases c : j < 220 ∨ (222 ≤ j ∧ j ≤ 225)
  · rw [if_pos c, if_pos c, h j c]
  · rw [if_neg c, if_neg c]
theorem x_norm_m {m : Nat → Int32} : m_kd (x_norm m) = m_kd m ∧ m_st (x_norm m) = m_st m ∧ m_c (x_norm m) = m_c m ∧ m_r (x_norm m) = m_r m ∧ s_fm (x_norm m) = s_fm m := m_same (fun j hj => x_norm_at hj)
/-- what a search keeps: the row that it was made for, and its outcome -/
def x_Kn (T : mz_T) (I : mz_I) (L : mz_L) (Y : Nat → Nat) (m : Nat → Int32) (n : Nat) (a : Nat → Nat) (b : s_P) : Prop :=
  I (Y 0) 1 = 1 ∧ m = x_norm m ∧ m_kd m < 7 ∧ (m 222 = zI (m_kd m) ∧ m 223 = zI (m_st m) ∧ m 224 = zI (m_c m) ∧ m 225 = zI (m_r m)) ∧ (∀ i, i < 220 → I (Y 2) i = m i - 1) ∧ p_Pos T I (Y 5) (m_kd m) (m_st m) (m_c m) (m_r m) ∧ x_K I L Y n a ∧ x_res m n a b ∧ I (Y 0) 10 = zI (x_e b : Nat)
def p_Se (T : mz_T) (I : mz_I) (L : mz_L) (Y : Nat → Nat) : Prop := p_Sh T Y ∧ (I (Y 0) 1 = 0 ∨ ∃ m n a b, x_Kn T I L Y m n a b)
theorem c_prepS {Y : Nat → Nat} {A : z_A} {B : Nat} {m : Nat → Int32} (hSe : p_Se T I L Y) (h : p_R T I L A B m) (hl : m 221 = 0) (hd : Y 2 ≠ A.k ∧ Y 5 ≠ A.p)
    (hK : ∀ I' L' n a b, fr I I' [Y 0, Y 2, Y 4, Y 5, Y 6, Y 7, Y 8] → fr L L' [Y 9] → x_Kn T I' L' Y (x_norm m) n a b → K none T I' L') : mz_Ctr G M_X10_prepare [.ref (Y 0), .ref A.g] T I L K := by
  refine mz_apartC fun hU => ?_
  obtain ⟨hS, hkn⟩ := hSe
  have hn := x_ne_of hU hS
  obtain ⟨s1, ⟨r2, r3, r4, r5, r6, r7, r9⟩, ⟨t1, t2, t3, t4, t5, t6, t7⟩, -⟩ := id hS
  have hA := h.sh
  obtain ⟨⟨g1, g2, g3, g4, g5⟩, hF, hX, -, -⟩ := id hA
  obtain ⟨x1, x2, x3⟩ := id hX
  obtain ⟨hp, hq, hfit⟩ := h.now hl
  obtain ⟨v1, v2, v3, v4, v5⟩ := x_norm_m (m := m)
  have hk : m_kd m < 7 := hp.2.2.2.2.2.1
  have ne : ∀ {a b : Nat} {x y : Nat × Nat}, (a, x) ∈ T.1 → (b, y) ∈ T.1 → x ≠ y → a ≠ b := fun a b c => mz_ne hU a b c
  have hx0 : x_in (x_norm m) (x_0 (x_norm m)) := by
    refine ⟨?_, ?_⟩
    · show m_st (x_norm m) < 4; rw [v2]; exact hp.2.2.2.2.2.2.1
    · show s_fit (s_fm (x_norm m)) (m_kd (x_norm m)) (m_st (x_norm m)) (m_c (x_norm m)) (m_r (x_norm m)) = true
      rw [v1, v2, v3, v4, v5]; exact hfit
  have e222 : x_norm m 222 = zI (m_kd (x_norm m)) := by rw [x_norm_at (by decide), v1]; exact hq.1
  obtain ⟨⟨a1, a2, a3, a4⟩, ⟨b1, b2, b3, b4, b5⟩, ⟨c1, c2, c3, c4, c5⟩, ⟨d1, d2, d3, d4, d5⟩⟩ := id hn
  have t11 := t1.1
  have w41 : mz_W G M_X10_prepare K mz_nX 41 [some (.ref (Y 0)), some (.ref A.g), some (.ref A.p)] [] T I L (0, 0) := by
    refine mz_vc ok_X10_prepare [] [(), (), (), (), (), (), (), (), (), (), (), (), (), (), (), (), (), (), (), (), (), (), (), (), (), (), (), (), (), ()] ?_
    simp only [cd_X10_prepare, s1, r2, r4, g1, g2, g3, x2, x1, t3, t11, r_rn0, r_rnc, r_vk0, r_vkc, r_vks, r_kci, r_kcv, r_ild, r_ald, r_lld, r_dld, r_Li, r_La, r_Ll, r_Ld, r_Ki, r_Ka, r_Kl, r_Kd, r_Kn, r_ist, r_ast, r_lst, r_dst, r_iinc, r_int, r_lng, r_dbl, r_i2, r_i1, r_l2, r_lsh, r_i2z, r_l2z, r_i2l, r_l2i, r_i2d, r_lcmp, r_ddiv, r_dcmpl, r_dup, r_dup2, r_pop, r_one_int, r_one_ref, r_go, r_if, r_ic, r_tsw, r_lsw, r_sw0, r_swc, r_lk0, r_lkc, r_kp, r_gI, r_gL, r_gR, r_pI, r_pZ, r_pL, r_pR, r_gs, r_ia, r_ca, r_za, r_la, r_da, r_aa, r_ias, r_cas, r_zas, r_las, r_das, r_aas, r_acp, r_new, r_nwa, r_nwq, r_ret, r_irt, r_zrt, r_lrt, r_drt, r_art, r_thr, r_cV0, r_cV1, r_cV2, r_cV3, r_cV4, r_cV5, r_cI0, r_cS0, r_cS1, r_cS2, r_cS3, r_cX0, r_cX1, r_cX2, r_cX3, r_rc, r_oi, r_refx, r_i10, r_i01, r_rfs, r_mem0, r_memc, r_beq, r_kl0, r_klz, r_kl1i, r_kl1r, r_kl1n, r_kl1l, r_kl1d, List.length_cons, List.length_nil, List.getElem?_cons_zero, List.getElem?_cons_succ, List.set_cons_zero, List.set_cons_succ, true_and, and_true, not_true, not_false_eq_true, false_implies, true_implies, or_true, true_or, or_false, false_or, Bool.or_false, Bool.false_or, decide_false, decide_true, Nat.reduceLT, Nat.reduceLeDiff, Nat.reduceAdd, Nat.reduceSub, ↓reduceIte, Nat.reduceEqDiff, Nat.lt_add_one]
    have hp1 : p_Pos T (mz_u I (Y 0) 1 1) A.p (m_kd m) (m_st m) (m_c m) (m_r m) := by
      obtain ⟨w1, w2, w3, w4, w5, w6⟩ := id hp
      have e : mz_u I (Y 0) 1 1 A.p = I A.p := mz_u_ne (ne x3 s1 (by decide))
      exact ⟨w1, by rw [e]; exact w2, by rw [e]; exact w3, by rw [e]; exact w4, by rw [e]; exact w5, w6⟩
    refine c_copyP t3 hp1 (fun J2 f2 hp2 => ?_)
    simp only [cd_X10_prepare, s1, r2, r4, g1, g2, g3, x2, x1, t3, t11, r_rn0, r_rnc, r_vk0, r_vkc, r_vks, r_kci, r_kcv, r_ild, r_ald, r_lld, r_dld, r_Li, r_La, r_Ll, r_Ld, r_Ki, r_Ka, r_Kl, r_Kd, r_Kn, r_ist, r_ast, r_lst, r_dst, r_iinc, r_int, r_lng, r_dbl, r_i2, r_i1, r_l2, r_lsh, r_i2z, r_l2z, r_i2l, r_l2i, r_i2d, r_lcmp, r_ddiv, r_dcmpl, r_dup, r_dup2, r_pop, r_one_int, r_one_ref, r_go, r_if, r_ic, r_tsw, r_lsw, r_sw0, r_swc, r_lk0, r_lkc, r_kp, r_gI, r_gL, r_gR, r_pI, r_pZ, r_pL, r_pR, r_gs, r_ia, r_ca, r_za, r_la, r_da, r_aa, r_ias, r_cas, r_zas, r_las, r_das, r_aas, r_acp, r_new, r_nwa, r_nwq, r_ret, r_irt, r_zrt, r_lrt, r_drt, r_art, r_thr, r_cV0, r_cV1, r_cV2, r_cV3, r_cV4, r_cV5, r_cI0, r_cS0, r_cS1, r_cS2, r_cS3, r_cX0, r_cX1, r_cX2, r_cX3, r_rc, r_oi, r_refx, r_i10, r_i01, r_rfs, r_mem0, r_memc, r_beq, r_kl0, r_klz, r_kl1i, r_kl1r, r_kl1n, r_kl1l, r_kl1d, List.length_cons, List.length_nil, List.getElem?_cons_zero, List.getElem?_cons_succ, List.set_cons_zero, List.set_cons_succ, true_and, and_true, not_true, not_false_eq_true, false_implies, true_implies, or_true, true_or, or_false, false_or, Bool.or_false, Bool.false_or, decide_false, decide_true, Nat.reduceLT, Nat.reduceLeDiff, Nat.reduceAdd, Nat.reduceSub, ↓reduceIte, Nat.reduceEqDiff, Nat.lt_add_one]
    refine c_copyF t1 hF ?_
    simp only [cd_X10_prepare, s1, r2, r4, g1, g2, g3, x2, x1, t3, t11, r_rn0, r_rnc, r_vk0, r_vkc, r_vks, r_kci, r_kcv, r_ild, r_ald, r_lld, r_dld, r_Li, r_La, r_Ll, r_Ld, r_Ki, r_Ka, r_Kl, r_Kd, r_Kn, r_ist, r_ast, r_lst, r_dst, r_iinc, r_int, r_lng, r_dbl, r_i2, r_i1, r_l2, r_lsh, r_i2z, r_l2z, r_i2l, r_l2i, r_i2d, r_lcmp, r_ddiv, r_dcmpl, r_dup, r_dup2, r_pop, r_one_int, r_one_ref, r_go, r_if, r_ic, r_tsw, r_lsw, r_sw0, r_swc, r_lk0, r_lkc, r_kp, r_gI, r_gL, r_gR, r_pI, r_pZ, r_pL, r_pR, r_gs, r_ia, r_ca, r_za, r_la, r_da, r_aa, r_ias, r_cas, r_zas, r_las, r_das, r_aas, r_acp, r_new, r_nwa, r_nwq, r_ret, r_irt, r_zrt, r_lrt, r_drt, r_art, r_thr, r_cV0, r_cV1, r_cV2, r_cV3, r_cV4, r_cV5, r_cI0, r_cS0, r_cS1, r_cS2, r_cS3, r_cX0, r_cX1, r_cX2, r_cX3, r_rc, r_oi, r_refx, r_i10, r_i01, r_rfs, r_mem0, r_memc, r_beq, r_kl0, r_klz, r_kl1i, r_kl1r, r_kl1n, r_kl1l, r_kl1d, List.length_cons, List.length_nil, List.getElem?_cons_zero, List.getElem?_cons_succ, List.set_cons_zero, List.set_cons_succ, true_and, and_true, not_true, not_false_eq_true, false_implies, true_implies, or_true, true_or, or_false, false_or, Bool.or_false, Bool.false_or, decide_false, decide_true, Nat.reduceLT, Nat.reduceLeDiff, Nat.reduceAdd, Nat.reduceSub, ↓reduceIte, Nat.reduceEqDiff, Nat.lt_add_one]
    have f3 : fr I (mz_row J2 (Y 2) (va_cpy (J2 A.k) (J2 (Y 2)) 0 0 220)) [Y 0, Y 5, Y 2] := by
      refine fr_row2 (fr_tr (fr_u : fr I (mz_u I (Y 0) 1 1) [Y 0]) f2 (by simp) (by simp)) (by simp)
    have hY25 : Y 2 ≠ Y 5 := ne t1.2.1 t3 (by decide)
    have ek : J2 A.k = I A.k := by rw [fr_ne1 f2 (ne hF.2.1 t3 (by decide)), mz_u_ne (ne hF.2.1 s1 (by decide))]
    refine c_exploreS (m := x_norm m) hS (by rw [v1]; exact hk) e222 ?_ (by rw [v5]; exact h.nof) ?_ hx0 (fun I' L' n a b q1 q2 q3 q4 q5 q6 => ?_)
    · intro i hi
      rw [mz_row_eq, ek]
      unfold va_cpy
      rw [if_pos (by omega), x_norm_at (Or.inl hi), ← h.fld i hi]
      congr 1; omega
    · obtain ⟨w1, w2, w3, w4, w5, w6⟩ := id hp2
      have e : mz_row J2 (Y 2) (va_cpy (J2 A.k) (J2 (Y 2)) 0 0 220) (Y 5) = J2 (Y 5) := mz_row_ne (Ne.symm hY25)
      show p_Pos T _ (Y 5) (m_kd (x_norm m)) (m_st (x_norm m)) (m_c (x_norm m)) (m_r (x_norm m))
      rw [v1, v2, v3, v4]
      exact ⟨w1, by rw [e]; exact w2, by rw [e]; exact w3, by rw [e]; exact w4, by rw [e]; exact w5, w6⟩
    · simp only [cd_X10_prepare, s1, r2, r4, g1, g2, g3, x2, x1, t3, t11, r_rn0, r_rnc, r_vk0, r_vkc, r_vks, r_kci, r_kcv, r_ild, r_ald, r_lld, r_dld, r_Li, r_La, r_Ll, r_Ld, r_Ki, r_Ka, r_Kl, r_Kd, r_Kn, r_ist, r_ast, r_lst, r_dst, r_iinc, r_int, r_lng, r_dbl, r_i2, r_i1, r_l2, r_lsh, r_i2z, r_l2z, r_i2l, r_l2i, r_i2d, r_lcmp, r_ddiv, r_dcmpl, r_dup, r_dup2, r_pop, r_one_int, r_one_ref, r_go, r_if, r_ic, r_tsw, r_lsw, r_sw0, r_swc, r_lk0, r_lkc, r_kp, r_gI, r_gL, r_gR, r_pI, r_pZ, r_pL, r_pR, r_gs, r_ia, r_ca, r_za, r_la, r_da, r_aa, r_ias, r_cas, r_zas, r_las, r_das, r_aas, r_acp, r_new, r_nwa, r_nwq, r_ret, r_irt, r_zrt, r_lrt, r_drt, r_art, r_thr, r_cV0, r_cV1, r_cV2, r_cV3, r_cV4, r_cV5, r_cI0, r_cS0, r_cS1, r_cS2, r_cS3, r_cX0, r_cX1, r_cX2, r_cX3, r_rc, r_oi, r_refx, r_i10, r_i01, r_rfs, r_mem0, r_memc, r_beq, r_kl0, r_klz, r_kl1i, r_kl1r, r_kl1n, r_kl1l, r_kl1d, List.length_cons, List.length_nil, List.getElem?_cons_zero, List.getElem?_cons_succ, List.set_cons_zero, List.set_cons_succ, true_and, and_true, not_true, not_false_eq_true, false_implies, true_implies, or_true, true_or, or_false, false_or, Bool.or_false, Bool.false_or, decide_false, decide_true, Nat.reduceLT, Nat.reduceLeDiff, Nat.reduceAdd, Nat.reduceSub, ↓reduceIte, Nat.reduceEqDiff, Nat.lt_add_one]
      refine hK I' L' n a b (fr_tr f3 q1 (by simp) (by simp)) q2 ⟨?_, ?_, by rw [v1]; exact hk, ?_, ?_, ?_, q3, q4, q5⟩
      · rw [q6, mz_row_ne (Ne.symm c1), fr_ne1 f2 (Ne.symm d1), mz_u_eq]
      · exact x_norm_eq (fun j hj => (x_norm_at hj).symm)
      · rw [v1, v2, v3, v4, x_norm_at (by decide), x_norm_at (by decide), x_norm_at (by decide), x_norm_at (by decide)]; exact hq
      · intro i hi
        rw [q1 _ (by simp; exact ⟨c1, c2, c3, c4, c5⟩), mz_row_eq, ek]
        unfold va_cpy
        rw [if_pos (by omega), x_norm_at (Or.inl hi), ← h.fld i hi]
        congr 1; omega
      · obtain ⟨w1, w2, w3, w4, w5, w6⟩ := id hp2
        have e : I' (Y 5) = J2 (Y 5) := by rw [q1 _ (by simp; exact ⟨d1, d2, d3, d4, d5⟩), mz_row_ne (Ne.symm hY25)]
        rw [v1, v2, v3, v4]
        exact ⟨w1, by rw [e]; exact w2, by rw [e]; exact w3, by rw [e]; exact w4, by rw [e]; exact w5, w6⟩
  refine mz_ofl mk_X10_prepare rfl (Nat.le_of_ble_eq_true rfl) (Nat.le_of_ble_eq_true rfl) [some (.ref (Y 0)), some (.ref A.g), none] rfl ?_
  rcases hkn with hkn | ⟨m', n, a, b, hkn⟩
  · refine mz_vc ok_X10_prepare [41] [(), (), (), (), (), (), (), (), (), (), (), (), (), (), (), (), (), (), (), (), (), (), (), (), (), (), (), (), (), ()] ?_
    simp only [cd_X10_prepare, s1, r2, r4, g1, g2, g3, x2, x1, t3, t11, hkn, r_rn0, r_rnc, r_vk0, r_vkc, r_vks, r_kci, r_kcv, r_ild, r_ald, r_lld, r_dld, r_Li, r_La, r_Ll, r_Ld, r_Ki, r_Ka, r_Kl, r_Kd, r_Kn, r_ist, r_ast, r_lst, r_dst, r_iinc, r_int, r_lng, r_dbl, r_i2, r_i1, r_l2, r_lsh, r_i2z, r_l2z, r_i2l, r_l2i, r_i2d, r_lcmp, r_ddiv, r_dcmpl, r_dup, r_dup2, r_pop, r_one_int, r_one_ref, r_go, r_if, r_ic, r_tsw, r_lsw, r_sw0, r_swc, r_lk0, r_lkc, r_kp, r_gI, r_gL, r_gR, r_pI, r_pZ, r_pL, r_pR, r_gs, r_ia, r_ca, r_za, r_la, r_da, r_aa, r_ias, r_cas, r_zas, r_las, r_das, r_aas, r_acp, r_new, r_nwa, r_nwq, r_ret, r_irt, r_zrt, r_lrt, r_drt, r_art, r_thr, r_cV0, r_cV1, r_cV2, r_cV3, r_cV4, r_cV5, r_cI0, r_cS0, r_cS1, r_cS2, r_cS3, r_cX0, r_cX1, r_cX2, r_cX3, r_rc, r_oi, r_refx, r_i10, r_i01, r_rfs, r_mem0, r_memc, r_beq, r_kl0, r_klz, r_kl1i, r_kl1r, r_kl1n, r_kl1l, r_kl1d, List.length_cons, List.length_nil, List.getElem?_cons_zero, List.getElem?_cons_succ, List.set_cons_zero, List.set_cons_succ, true_and, and_true, not_true, not_false_eq_true, false_implies, true_implies, or_true, true_or, or_false, false_or, Bool.or_false, Bool.false_or, decide_false, decide_true, Nat.reduceLT, Nat.reduceLeDiff, Nat.reduceAdd, Nat.reduceSub, ↓reduceIte, Nat.reduceEqDiff, Nat.lt_add_one]
    exact w41
  · obtain ⟨k1, k2, k3, k4, k5, k6, k7, k8, k9⟩ := id hkn
    refine mz_vc ok_X10_prepare [41] [(), (), (), (), (), (), (), (), (), (), (), (), (), (), (), (), (), (), (), (), (), (), (), (), (), (), (), (), (), ()] ?_
    simp only [cd_X10_prepare, s1, r2, r4, g1, g2, g3, x2, x1, t3, t11, k1, r_rn0, r_rnc, r_vk0, r_vkc, r_vks, r_kci, r_kcv, r_ild, r_ald, r_lld, r_dld, r_Li, r_La, r_Ll, r_Ld, r_Ki, r_Ka, r_Kl, r_Kd, r_Kn, r_ist, r_ast, r_lst, r_dst, r_iinc, r_int, r_lng, r_dbl, r_i2, r_i1, r_l2, r_lsh, r_i2z, r_l2z, r_i2l, r_l2i, r_i2d, r_lcmp, r_ddiv, r_dcmpl, r_dup, r_dup2, r_pop, r_one_int, r_one_ref, r_go, r_if, r_ic, r_tsw, r_lsw, r_sw0, r_swc, r_lk0, r_lkc, r_kp, r_gI, r_gL, r_gR, r_pI, r_pZ, r_pL, r_pR, r_gs, r_ia, r_ca, r_za, r_la, r_da, r_aa, r_ias, r_cas, r_zas, r_las, r_das, r_aas, r_acp, r_new, r_nwa, r_nwq, r_ret, r_irt, r_zrt, r_lrt, r_drt, r_art, r_thr, r_cV0, r_cV1, r_cV2, r_cV3, r_cV4, r_cV5, r_cI0, r_cS0, r_cS1, r_cS2, r_cS3, r_cX0, r_cX1, r_cX2, r_cX3, r_rc, r_oi, r_refx, r_i10, r_i01, r_rfs, r_mem0, r_memc, r_beq, r_kl0, r_klz, r_kl1i, r_kl1r, r_kl1n, r_kl1l, r_kl1d, List.length_cons, List.length_nil, List.getElem?_cons_zero, List.getElem?_cons_succ, List.set_cons_zero, List.set_cons_succ, true_and, and_true, not_true, not_false_eq_true, false_implies, true_implies, or_true, true_or, or_false, false_or, Bool.or_false, Bool.false_or, decide_false, decide_true, Nat.reduceLT, Nat.reduceLeDiff, Nat.reduceAdd, Nat.reduceSub, ↓reduceIte, Nat.reduceEqDiff, Nat.lt_add_one]
    refine c_sameP k6 hp (fun e1 e2 e3 e4 => ?_) (fun e => ?_)
    · simp only [cd_X10_prepare, s1, r2, r4, g1, g2, g3, x2, x1, t3, t11, r_rn0, r_rnc, r_vk0, r_vkc, r_vks, r_kci, r_kcv, r_ild, r_ald, r_lld, r_dld, r_Li, r_La, r_Ll, r_Ld, r_Ki, r_Ka, r_Kl, r_Kd, r_Kn, r_ist, r_ast, r_lst, r_dst, r_iinc, r_int, r_lng, r_dbl, r_i2, r_i1, r_l2, r_lsh, r_i2z, r_l2z, r_i2l, r_l2i, r_i2d, r_lcmp, r_ddiv, r_dcmpl, r_dup, r_dup2, r_pop, r_one_int, r_one_ref, r_go, r_if, r_ic, r_tsw, r_lsw, r_sw0, r_swc, r_lk0, r_lkc, r_kp, r_gI, r_gL, r_gR, r_pI, r_pZ, r_pL, r_pR, r_gs, r_ia, r_ca, r_za, r_la, r_da, r_aa, r_ias, r_cas, r_zas, r_las, r_das, r_aas, r_acp, r_new, r_nwa, r_nwq, r_ret, r_irt, r_zrt, r_lrt, r_drt, r_art, r_thr, r_cV0, r_cV1, r_cV2, r_cV3, r_cV4, r_cV5, r_cI0, r_cS0, r_cS1, r_cS2, r_cS3, r_cX0, r_cX1, r_cX2, r_cX3, r_rc, r_oi, r_refx, r_i10, r_i01, r_rfs, r_mem0, r_memc, r_beq, r_kl0, r_klz, r_kl1i, r_kl1r, r_kl1n, r_kl1l, r_kl1d, List.length_cons, List.length_nil, List.getElem?_cons_zero, List.getElem?_cons_succ, List.set_cons_zero, List.set_cons_succ, true_and, and_true, not_true, not_false_eq_true, false_implies, true_implies, or_true, true_or, or_false, false_or, Bool.or_false, Bool.false_or, decide_false, decide_true, Nat.reduceLT, Nat.reduceLeDiff, Nat.reduceAdd, Nat.reduceSub, ↓reduceIte, Nat.reduceEqDiff, Nat.lt_add_one]
      refine c_sameF t1 hF (fun hs => ?_) (fun hs => ?_)
      · simp only [cd_X10_prepare, s1, r2, r4, g1, g2, g3, x2, x1, t3, t11, r_rn0, r_rnc, r_vk0, r_vkc, r_vks, r_kci, r_kcv, r_ild, r_ald, r_lld, r_dld, r_Li, r_La, r_Ll, r_Ld, r_Ki, r_Ka, r_Kl, r_Kd, r_Kn, r_ist, r_ast, r_lst, r_dst, r_iinc, r_int, r_lng, r_dbl, r_i2, r_i1, r_l2, r_lsh, r_i2z, r_l2z, r_i2l, r_l2i, r_i2d, r_lcmp, r_ddiv, r_dcmpl, r_dup, r_dup2, r_pop, r_one_int, r_one_ref, r_go, r_if, r_ic, r_tsw, r_lsw, r_sw0, r_swc, r_lk0, r_lkc, r_kp, r_gI, r_gL, r_gR, r_pI, r_pZ, r_pL, r_pR, r_gs, r_ia, r_ca, r_za, r_la, r_da, r_aa, r_ias, r_cas, r_zas, r_las, r_das, r_aas, r_acp, r_new, r_nwa, r_nwq, r_ret, r_irt, r_zrt, r_lrt, r_drt, r_art, r_thr, r_cV0, r_cV1, r_cV2, r_cV3, r_cV4, r_cV5, r_cI0, r_cS0, r_cS1, r_cS2, r_cS3, r_cX0, r_cX1, r_cX2, r_cX3, r_rc, r_oi, r_refx, r_i10, r_i01, r_rfs, r_mem0, r_memc, r_beq, r_kl0, r_klz, r_kl1i, r_kl1r, r_kl1n, r_kl1l, r_kl1d, List.length_cons, List.length_nil, List.getElem?_cons_zero, List.getElem?_cons_succ, List.set_cons_zero, List.set_cons_succ, true_and, and_true, not_true, not_false_eq_true, false_implies, true_implies, or_true, true_or, or_false, false_or, Bool.or_false, Bool.false_or, decide_false, decide_true, Nat.reduceLT, Nat.reduceLeDiff, Nat.reduceAdd, Nat.reduceSub, ↓reduceIte, Nat.reduceEqDiff, Nat.lt_add_one]
        have : x_norm m = m' := by
          rw [k2]
          refine x_norm_eq (fun j hj => ?_)
          rcases hj with hj | hj
          · have h1 := k5 j hj
            rw [hs j hj, h.fld j hj] at h1
            have h2 : m j - 1 + 1 = m' j - 1 + 1 := by rw [h1]
            rwa [Int32.sub_add_cancel, Int32.sub_add_cancel] at h2
          · have : j = 222 ∨ j = 223 ∨ j = 224 ∨ j = 225 := by omega
            rcases this with e | e | e | e <;> subst e
            · rw [hq.1, k4.1, e1]
            · rw [hq.2.1, k4.2.1, e2]
            · rw [hq.2.2.1, k4.2.2.1, e3]
            · rw [hq.2.2.2, k4.2.2.2, e4]
        exact hK I L n a b fr_refl fr_refl (by rw [this]; exact hkn)
      · simp only [cd_X10_prepare, s1, r2, r4, g1, g2, g3, x2, x1, t3, t11, r_rn0, r_rnc, r_vk0, r_vkc, r_vks, r_kci, r_kcv, r_ild, r_ald, r_lld, r_dld, r_Li, r_La, r_Ll, r_Ld, r_Ki, r_Ka, r_Kl, r_Kd, r_Kn, r_ist, r_ast, r_lst, r_dst, r_iinc, r_int, r_lng, r_dbl, r_i2, r_i1, r_l2, r_lsh, r_i2z, r_l2z, r_i2l, r_l2i, r_i2d, r_lcmp, r_ddiv, r_dcmpl, r_dup, r_dup2, r_pop, r_one_int, r_one_ref, r_go, r_if, r_ic, r_tsw, r_lsw, r_sw0, r_swc, r_lk0, r_lkc, r_kp, r_gI, r_gL, r_gR, r_pI, r_pZ, r_pL, r_pR, r_gs, r_ia, r_ca, r_za, r_la, r_da, r_aa, r_ias, r_cas, r_zas, r_las, r_das, r_aas, r_acp, r_new, r_nwa, r_nwq, r_ret, r_irt, r_zrt, r_lrt, r_drt, r_art, r_thr, r_cV0, r_cV1, r_cV2, r_cV3, r_cV4, r_cV5, r_cI0, r_cS0, r_cS1, r_cS2, r_cS3, r_cX0, r_cX1, r_cX2, r_cX3, r_rc, r_oi, r_refx, r_i10, r_i01, r_rfs, r_mem0, r_memc, r_beq, r_kl0, r_klz, r_kl1i, r_kl1r, r_kl1n, r_kl1l, r_kl1d, List.length_cons, List.length_nil, List.getElem?_cons_zero, List.getElem?_cons_succ, List.set_cons_zero, List.set_cons_succ, true_and, and_true, not_true, not_false_eq_true, false_implies, true_implies, or_true, true_or, or_false, false_or, Bool.or_false, Bool.false_or, decide_false, decide_true, Nat.reduceLT, Nat.reduceLeDiff, Nat.reduceAdd, Nat.reduceSub, ↓reduceIte, Nat.reduceEqDiff, Nat.lt_add_one]
        exact w41
    · simp only [cd_X10_prepare, s1, r2, r4, g1, g2, g3, x2, x1, t3, t11, r_rn0, r_rnc, r_vk0, r_vkc, r_vks, r_kci, r_kcv, r_ild, r_ald, r_lld, r_dld, r_Li, r_La, r_Ll, r_Ld, r_Ki, r_Ka, r_Kl, r_Kd, r_Kn, r_ist, r_ast, r_lst, r_dst, r_iinc, r_int, r_lng, r_dbl, r_i2, r_i1, r_l2, r_lsh, r_i2z, r_l2z, r_i2l, r_l2i, r_i2d, r_lcmp, r_ddiv, r_dcmpl, r_dup, r_dup2, r_pop, r_one_int, r_one_ref, r_go, r_if, r_ic, r_tsw, r_lsw, r_sw0, r_swc, r_lk0, r_lkc, r_kp, r_gI, r_gL, r_gR, r_pI, r_pZ, r_pL, r_pR, r_gs, r_ia, r_ca, r_za, r_la, r_da, r_aa, r_ias, r_cas, r_zas, r_las, r_das, r_aas, r_acp, r_new, r_nwa, r_nwq, r_ret, r_irt, r_zrt, r_lrt, r_drt, r_art, r_thr, r_cV0, r_cV1, r_cV2, r_cV3, r_cV4, r_cV5, r_cI0, r_cS0, r_cS1, r_cS2, r_cS3, r_cX0, r_cX1, r_cX2, r_cX3, r_rc, r_oi, r_refx, r_i10, r_i01, r_rfs, r_mem0, r_memc, r_beq, r_kl0, r_klz, r_kl1i, r_kl1r, r_kl1n, r_kl1l, r_kl1d, List.length_cons, List.length_nil, List.getElem?_cons_zero, List.getElem?_cons_succ, List.set_cons_zero, List.set_cons_succ, true_and, and_true, not_true, not_false_eq_true, false_implies, true_implies, or_true, true_or, or_false, false_or, Bool.or_false, Bool.false_or, decide_false, decide_true, Nat.reduceLT, Nat.reduceLeDiff, Nat.reduceAdd, Nat.reduceSub, ↓reduceIte, Nat.reduceEqDiff, Nat.lt_add_one]
      exact w41
def x_num (k w : Nat) : Int := if w = 0 then 4 - (k / 256 ^ 7 % 256 : Nat) else (k / 256 ^ (7 - w) % 256 : Nat)
theorem x_nsh : ∀ w : Nat, w < 8 → (((8 * (7 - zI w) : Int32).toInt64 &&& 63).toBitVec.smod 64).toNat = 8 * (7 - w) := by decide
theorem c_numS {Y : Nat → Nat} {n r w : Nat} {a : Nat → Nat} (hS : p_Sh T Y) (hn : n < 512) (hK : x_K I L Y n a) (hr : r < n) (hw : w < 8) (h : K (some (.int (zI (x_num (a r) w)))) T I L) : mz_Ctr G M_X10_numberAbout [.ref (Y 0), .int (zI r), .int (zI w)] T I L K := by
  obtain ⟨s1, ⟨r2, r3, r4, r5, r6, r7, r9⟩, ⟨t1, t2, t3, t4, t5, t6, t7⟩, -⟩ := id hS
  obtain ⟨k1, k2, k3, k4⟩ := id hK
  have hb := k3 r hr
  refine mz_ofl mk_X10_numberAbout rfl (Nat.le_of_ble_eq_true rfl) (Nat.le_of_ble_eq_true rfl) [some (.ref (Y 0)), some (.int (zI r)), some (.int (zI w)), none] rfl ?_
  refine mz_vc ok_X10_numberAbout [] [(), (), (), (), (), (), (), (), (), (), (), (), (), (), (), (), (), (), (), (), (), (), (), (), (), (), (), (), (), ()] ?_
  simp only [cd_X10_numberAbout, s1, r9, r_rn0, r_rnc, r_vk0, r_vkc, r_vks, r_kci, r_kcv, r_ild, r_ald, r_lld, r_dld, r_Li, r_La, r_Ll, r_Ld, r_Ki, r_Ka, r_Kl, r_Kd, r_Kn, r_ist, r_ast, r_lst, r_dst, r_iinc, r_int, r_lng, r_dbl, r_i2, r_i1, r_l2, r_lsh, r_i2z, r_l2z, r_i2l, r_l2i, r_i2d, r_lcmp, r_ddiv, r_dcmpl, r_dup, r_dup2, r_pop, r_one_int, r_one_ref, r_go, r_if, r_ic, r_tsw, r_lsw, r_sw0, r_swc, r_lk0, r_lkc, r_kp, r_gI, r_gL, r_gR, r_pI, r_pZ, r_pL, r_pR, r_gs, r_ia, r_ca, r_za, r_la, r_da, r_aa, r_ias, r_cas, r_zas, r_las, r_das, r_aas, r_acp, r_new, r_nwa, r_nwq, r_ret, r_irt, r_zrt, r_lrt, r_drt, r_art, r_thr, r_cV0, r_cV1, r_cV2, r_cV3, r_cV4, r_cV5, r_cI0, r_cS0, r_cS1, r_cS2, r_cS3, r_cX0, r_cX1, r_cX2, r_cX3, r_rc, r_oi, r_refx, r_i10, r_i01, r_rfs, r_mem0, r_memc, r_beq, r_kl0, r_klz, r_kl1i, r_kl1r, r_kl1n, r_kl1l, r_kl1d, List.length_cons, List.length_nil, List.getElem?_cons_zero, List.getElem?_cons_succ, List.set_cons_zero, List.set_cons_succ, true_and, and_true, not_true, not_false_eq_true, false_implies, true_implies, or_true, true_or, or_false, false_or, Bool.or_false, Bool.false_or, decide_false, decide_true, Nat.reduceLT, Nat.reduceLeDiff, Nat.reduceAdd, Nat.reduceSub, ↓reduceIte, Nat.reduceEqDiff, Nat.lt_add_one]
  refine ⟨fun q => absurd q ?_, fun _ => ⟨fun _ => ?_, fun q => absurd ?_ q⟩⟩
  · rw [l_0, z_lt (by omega) (by omega)]; omega
  rotate_left
  · rw [show (512 : Int32) = zI 512 from rfl, z_lt (by omega) (by omega)]; omega
  rw [z_nat (by omega), Int.toNat_natCast, k2 r hr, w_shr (by omega) (x_nsh w hw), w_32, z_255]
  have e2 : 2 ^ (8 * (7 - w)) = 256 ^ (7 - w) := by rw [Nat.pow_mul]
  rw [e2]
  refine ⟨⟨512, t7, z_in (by omega) (by omega) (by decide)⟩, fun q => ?_, fun q => ?_⟩
  · have : ¬ w = 0 := fun e => q (by rw [e]; rfl)
    unfold x_num at h
    rw [if_neg this] at h
    exact h
  · have e : w = 0 := by
      have q : zI (w : Int) = 0 := by simpa using q
      rw [l_0, z_eq (by omega) (by omega)] at q; omega
    subst e
    unfold x_num at h
    rw [if_pos rfl] at h
    rw [l_4, z_sub]
    exact h
theorem c_bestS {Y : Nat → Nat} {p kd n : Nat} {b : s_P} {m : Nat → Int32} (hS : p_Sh T Y) (h1 : (p, 0, 8) ∈ T.1) (hk : kd < 7) (hkd : I p 0 = zI kd) (hn : I (Y 0) 0 = zI n) (hn9 : 0 < n ∧ n < 512) (hmk : m_kd m < 7) (hb : x_in m b) (h10 : I (Y 0) 10 = zI (x_e b : Nat))
    (h : ∀ I', fr I I' [p] → p_Pos T I' p kd b.1 b.2.1 b.2.2 → K none T I' L) : mz_Ctr G M_X10_moveToBest [.ref (Y 0), .ref p] T I L K := by
  obtain ⟨s1, -⟩ := id hS
  refine mz_ofl mk_X10_moveToBest rfl (Nat.le_of_ble_eq_true rfl) (Nat.le_of_ble_eq_true rfl) [some (.ref (Y 0)), some (.ref p)] rfl ?_
  refine mz_vc ok_X10_moveToBest [] [(), (), (), (), (), (), (), (), (), (), (), (), (), (), (), (), (), (), (), (), (), (), (), (), (), (), (), (), (), ()] ?_
  simp only [cd_X10_moveToBest, s1, hn, h10, r_rn0, r_rnc, r_vk0, r_vkc, r_vks, r_kci, r_kcv, r_ild, r_ald, r_lld, r_dld, r_Li, r_La, r_Ll, r_Ld, r_Ki, r_Ka, r_Kl, r_Kd, r_Kn, r_ist, r_ast, r_lst, r_dst, r_iinc, r_int, r_lng, r_dbl, r_i2, r_i1, r_l2, r_lsh, r_i2z, r_l2z, r_i2l, r_l2i, r_i2d, r_lcmp, r_ddiv, r_dcmpl, r_dup, r_dup2, r_pop, r_one_int, r_one_ref, r_go, r_if, r_ic, r_tsw, r_lsw, r_sw0, r_swc, r_lk0, r_lkc, r_kp, r_gI, r_gL, r_gR, r_pI, r_pZ, r_pL, r_pR, r_gs, r_ia, r_ca, r_za, r_la, r_da, r_aa, r_ias, r_cas, r_zas, r_las, r_das, r_aas, r_acp, r_new, r_nwa, r_nwq, r_ret, r_irt, r_zrt, r_lrt, r_drt, r_art, r_thr, r_cV0, r_cV1, r_cV2, r_cV3, r_cV4, r_cV5, r_cI0, r_cS0, r_cS1, r_cS2, r_cS3, r_cX0, r_cX1, r_cX2, r_cX3, r_rc, r_oi, r_refx, r_i10, r_i01, r_rfs, r_mem0, r_memc, r_beq, r_kl0, r_klz, r_kl1i, r_kl1r, r_kl1n, r_kl1l, r_kl1d, List.length_cons, List.length_nil, List.getElem?_cons_zero, List.getElem?_cons_succ, List.set_cons_zero, List.set_cons_succ, true_and, and_true, not_true, not_false_eq_true, false_implies, true_implies, or_true, true_or, or_false, false_or, Bool.or_false, Bool.false_or, decide_false, decide_true, Nat.reduceLT, Nat.reduceLeDiff, Nat.reduceAdd, Nat.reduceSub, ↓reduceIte, Nat.reduceEqDiff, Nat.lt_add_one]
  refine ⟨fun q => absurd q ?_, fun _ => ?_⟩
  · rw [l_0, z_le (by omega) (by omega)]; omega
  refine c_goToS h1 hk hkd (x_e_lt hmk hb) (fun I' q hp => ?_)
  rw [x_de hmk hb] at hp
  simp only [cd_X10_moveToBest, s1, hn, h10, r_rn0, r_rnc, r_vk0, r_vkc, r_vks, r_kci, r_kcv, r_ild, r_ald, r_lld, r_dld, r_Li, r_La, r_Ll, r_Ld, r_Ki, r_Ka, r_Kl, r_Kd, r_Kn, r_ist, r_ast, r_lst, r_dst, r_iinc, r_int, r_lng, r_dbl, r_i2, r_i1, r_l2, r_lsh, r_i2z, r_l2z, r_i2l, r_l2i, r_i2d, r_lcmp, r_ddiv, r_dcmpl, r_dup, r_dup2, r_pop, r_one_int, r_one_ref, r_go, r_if, r_ic, r_tsw, r_lsw, r_sw0, r_swc, r_lk0, r_lkc, r_kp, r_gI, r_gL, r_gR, r_pI, r_pZ, r_pL, r_pR, r_gs, r_ia, r_ca, r_za, r_la, r_da, r_aa, r_ias, r_cas, r_zas, r_las, r_das, r_aas, r_acp, r_new, r_nwa, r_nwq, r_ret, r_irt, r_zrt, r_lrt, r_drt, r_art, r_thr, r_cV0, r_cV1, r_cV2, r_cV3, r_cV4, r_cV5, r_cI0, r_cS0, r_cS1, r_cS2, r_cS3, r_cX0, r_cX1, r_cX2, r_cX3, r_rc, r_oi, r_refx, r_i10, r_i01, r_rfs, r_mem0, r_memc, r_beq, r_kl0, r_klz, r_kl1i, r_kl1r, r_kl1n, r_kl1l, r_kl1d, List.length_cons, List.length_nil, List.getElem?_cons_zero, List.getElem?_cons_succ, List.set_cons_zero, List.set_cons_succ, true_and, and_true, not_true, not_false_eq_true, false_implies, true_implies, or_true, true_or, or_false, false_or, Bool.or_false, Bool.false_or, decide_false, decide_true, Nat.reduceLT, Nat.reduceLeDiff, Nat.reduceAdd, Nat.reduceSub, ↓reduceIte, Nat.reduceEqDiff, Nat.lt_add_one]
  exact h I' q hp
end PREP
