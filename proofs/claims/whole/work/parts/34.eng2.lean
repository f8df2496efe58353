/-! the engine: slides and turns -/
section ENG2
variable {G : mz_G} {K : mz_K} {T : mz_T} {I : mz_I} {L : mz_L}
theorem s_sl_cg {e e' : Nat → Bool} (h : ∀ i, i < 220 → e i = e' i) {kd s : Nat} {r d : Int} : ∀ n c, s_sl e kd s r d n c = s_sl e' kd s r d n c
  | 0, _ => rfl
  | n + 1, c => by unfold s_sl; rw [s_fit_cg h, s_sl_cg h n]
theorem s_sl_le {e : Nat → Bool} {kd s : Nat} {r d : Int} : ∀ n c, s_sl e kd s r d n c ≤ n
  | 0, _ => Nat.le_refl 0
  | n + 1, c => by unfold s_sl; have := s_sl_le (e := e) (kd := kd) (s := s) (r := r) (d := d) n (c + d); split <;> omega
theorem s_sl_fitn {e : Nat → Bool} {kd s : Nat} {r d : Int} : ∀ n c, 0 < s_sl e kd s r d n c → s_fit e kd s (c + d * (s_sl e kd s r d n c : Nat)) r = true := by
  intro n
  induction n with
  | zero => intro c h; exact absurd h (Nat.lt_irrefl 0)
  | succ n ih =>
    intro c h
    unfold s_sl at h ⊢
    by_cases q : s_fit e kd s (c + d) r = true
    · rw [if_pos q]
      by_cases q2 : 0 < s_sl e kd s r d n (c + d)
      · have := ih (c + d) q2
        rw [show c + d * ((s_sl e kd s r d n (c + d) + 1 : Nat) : Int) = c + d + d * (s_sl e kd s r d n (c + d) : Nat) by rw [Int.natCast_add, Int.mul_add]; omega]
        exact this
      · rw [show s_sl e kd s r d n (c + d) = 0 by omega]
        simpa using q
    · rw [if_neg q] at h; exact absurd h (Nat.lt_irrefl 0)
theorem s_sl_fit {m : Nat → Int32} {d : Int} (h : 0 < m_sl m d) : s_fit (s_fm m) (m_kd m) (m_st m) (m_c m + d * (m_sl m d : Nat)) (m_r m) = true := s_sl_fitn 10 (m_c m) h
theorem c_slideE {en : Nat} {A : z_A} {B : Nat} {m : Nat → Int32} {d : Int} (hE : p_E T en A) (h : p_R T I L A B m) (hl : m 221 = 0) (hd : d = -1 ∨ d = 1) (hB : B < 1000000000)
    (hk : ∀ I', fr I I' [A.x, A.p] → p_R T I' L A (B + 1) (o_slide m d (I A.g 8)) → K (some (.int (zI (m_sl m d)))) T I' L) : mz_Ctr G M_X1_slidePiece [.ref en, .int (zI d)] T I L K := by
  refine mz_apartC fun hU => ?_
  obtain ⟨e1, e2⟩ := hE
  obtain ⟨⟨g1, g2, g3, g4, g5⟩, hF, hX, hB9, hS⟩ := id h.sh
  obtain ⟨f1, f2, f3⟩ := id hF
  obtain ⟨x1, x2, x3⟩ := id hX
  obtain ⟨hp, hq, hfit⟩ := h.now hl
  obtain ⟨q1, q2, q3, q4⟩ := hq
  obtain ⟨hpc, -, -, -⟩ := h.live hl
  have hne : A.p ≠ A.x := mz_ne hU x3 x1 (by decide)
  have hkx : A.k ≠ A.x := mz_ne hU f2 x1 (by decide)
  have hkp : A.k ≠ A.p := mz_ne hU f2 x3 (by decide)
  have hgx : A.g ≠ A.x := mz_ne hU g1 x1 (by decide)
  have hgp : A.g ≠ A.p := mz_ne hU g1 x3 (by decide)
  have hkd : m_kd m < 7 ∧ m_st m < 4 := ⟨hp.2.2.2.2.2.1, hp.2.2.2.2.2.2.1⟩
  have hb := s_fit_b hkd.1 hkd.2 hfit
  refine mz_ofl mk_X1_slidePiece rfl (Nat.le_of_ble_eq_true rfl) (Nat.le_of_ble_eq_true rfl) [some (.ref en), some (.int (zI d)), none, none, none] rfl ?_
  refine mz_vc ok_X1_slidePiece [] [(), (), (), (), (), (), (), (), (), (), (), (), (), (), (), (), (), (), (), (), (), (), (), (), (), (), (), (), (), ()] ?_
  simp only [cd_X1_slidePiece, e1, e2, g1, g2, g3, x1, x2, x3, r_rn0, r_rnc, r_vk0, r_vkc, r_vks, r_kci, r_kcv, r_ild, r_ald, r_lld, r_dld, r_Li, r_La, r_Ll, r_Ld, r_Ki, r_Ka, r_Kl, r_Kd, r_Kn, r_ist, r_ast, r_lst, r_dst, r_iinc, r_int, r_lng, r_dbl, r_i2, r_i1, r_l2, r_lsh, r_i2z, r_l2z, r_i2l, r_l2i, r_i2d, r_lcmp, r_ddiv, r_dcmpl, r_dup, r_dup2, r_pop, r_one_int, r_one_ref, r_go, r_if, r_ic, r_tsw, r_lsw, r_sw0, r_swc, r_lk0, r_lkc, r_kp, r_gI, r_gL, r_gR, r_pI, r_pZ, r_pL, r_pR, r_gs, r_ia, r_ca, r_za, r_la, r_da, r_aa, r_ias, r_cas, r_zas, r_las, r_das, r_aas, r_acp, r_new, r_nwa, r_nwq, r_ret, r_irt, r_zrt, r_lrt, r_drt, r_art, r_thr, r_cV0, r_cV1, r_cV2, r_cV3, r_cV4, r_cV5, r_cI0, r_cS0, r_cS1, r_cS2, r_cS3, r_cX0, r_cX1, r_cX2, r_cX3, r_rc, r_oi, r_refx, r_i10, r_i01, r_rfs, r_mem0, r_memc, r_beq, r_kl0, r_klz, r_kl1i, r_kl1r, r_kl1n, r_kl1l, r_kl1d, List.length_cons, List.length_nil, List.getElem?_cons_zero, List.getElem?_cons_succ, List.set_cons_zero, List.set_cons_succ, true_and, and_true, not_true, not_false_eq_true, false_implies, true_implies, or_true, true_or, or_false, false_or, Bool.or_false, Bool.false_or, decide_false, decide_true, Nat.reduceLT, Nat.reduceLeDiff, Nat.reduceAdd, Nat.reduceSub, ↓reduceIte, Nat.reduceEqDiff, Nat.lt_add_one]
  refine c_canFall hp hF (by omega) ?_
  rw [s_fit_cg h.fl]
  simp only [cd_X1_slidePiece, e1, e2, g1, g2, g3, x1, x2, x3, r_rn0, r_rnc, r_vk0, r_vkc, r_vks, r_kci, r_kcv, r_ild, r_ald, r_lld, r_dld, r_Li, r_La, r_Ll, r_Ld, r_Ki, r_Ka, r_Kl, r_Kd, r_Kn, r_ist, r_ast, r_lst, r_dst, r_iinc, r_int, r_lng, r_dbl, r_i2, r_i1, r_l2, r_lsh, r_i2z, r_l2z, r_i2l, r_l2i, r_i2d, r_lcmp, r_ddiv, r_dcmpl, r_dup, r_dup2, r_pop, r_one_int, r_one_ref, r_go, r_if, r_ic, r_tsw, r_lsw, r_sw0, r_swc, r_lk0, r_lkc, r_kp, r_gI, r_gL, r_gR, r_pI, r_pZ, r_pL, r_pR, r_gs, r_ia, r_ca, r_za, r_la, r_da, r_aa, r_ias, r_cas, r_zas, r_las, r_das, r_aas, r_acp, r_new, r_nwa, r_nwq, r_ret, r_irt, r_zrt, r_lrt, r_drt, r_art, r_thr, r_cV0, r_cV1, r_cV2, r_cV3, r_cV4, r_cV5, r_cI0, r_cS0, r_cS1, r_cS2, r_cS3, r_cX0, r_cX1, r_cX2, r_cX3, r_rc, r_oi, r_refx, r_i10, r_i01, r_rfs, r_mem0, r_memc, r_beq, r_kl0, r_klz, r_kl1i, r_kl1r, r_kl1n, r_kl1l, r_kl1d, List.length_cons, List.length_nil, List.getElem?_cons_zero, List.getElem?_cons_succ, List.set_cons_zero, List.set_cons_succ, true_and, and_true, not_true, not_false_eq_true, false_implies, true_implies, or_true, true_or, or_false, false_or, Bool.or_false, Bool.false_or, decide_false, decide_true, Nat.reduceLT, Nat.reduceLeDiff, Nat.reduceAdd, Nat.reduceSub, ↓reduceIte, Nat.reduceEqDiff, Nat.lt_add_one]
  have em : s_fit (s_fm m) (m_kd m) (m_st m) (m_c m) (m_r m - 1) = m_fit m 0 (-1) := by unfold m_fit; rw [Int.add_zero, Int.sub_eq_add_neg]
  rw [em]
  -- the input is counted
  have f1' : fr I (mz_u I A.x 4 (I A.x 4 + 1)) [A.x, A.p] := fr_u2 fr_refl (by simp)
  have hp1 : p_Pos T (mz_u I A.x 4 (I A.x 4 + 1)) A.p (m_kd m) (m_st m) (m_c m) (m_r m) := by
    obtain ⟨p1, p2, p3, p4, p5, p6⟩ := id hp
    exact ⟨p1, by rw [mz_u_ne hne]; exact p2, by rw [mz_u_ne hne]; exact p3, by rw [mz_u_ne hne]; exact p4, by rw [mz_u_ne hne]; exact p5, p6⟩
  have e4 : I A.x 4 = m 229 := hpc 4 (by decide) (by decide)
  refine c_slide hp1 hF hd (by omega) (fun I' f2' hp2 => ?_)
  have esl : s_sl (s_fl (mz_u I A.x 4 (I A.x 4 + 1) A.k)) (m_kd m) (m_st m) (m_r m) d 10 (m_c m) = m_sl m d := by
    rw [mz_u_ne hkx, s_sl_cg h.fl]; rfl
  rw [esl] at hp2 ⊢
  simp only [cd_X1_slidePiece, e1, e2, g1, g2, g3, x1, x2, x3, r_rn0, r_rnc, r_vk0, r_vkc, r_vks, r_kci, r_kcv, r_ild, r_ald, r_lld, r_dld, r_Li, r_La, r_Ll, r_Ld, r_Ki, r_Ka, r_Kl, r_Kd, r_Kn, r_ist, r_ast, r_lst, r_dst, r_iinc, r_int, r_lng, r_dbl, r_i2, r_i1, r_l2, r_lsh, r_i2z, r_l2z, r_i2l, r_l2i, r_i2d, r_lcmp, r_ddiv, r_dcmpl, r_dup, r_dup2, r_pop, r_one_int, r_one_ref, r_go, r_if, r_ic, r_tsw, r_lsw, r_sw0, r_swc, r_lk0, r_lkc, r_kp, r_gI, r_gL, r_gR, r_pI, r_pZ, r_pL, r_pR, r_gs, r_ia, r_ca, r_za, r_la, r_da, r_aa, r_ias, r_cas, r_zas, r_las, r_das, r_aas, r_acp, r_new, r_nwa, r_nwq, r_ret, r_irt, r_zrt, r_lrt, r_drt, r_art, r_thr, r_cV0, r_cV1, r_cV2, r_cV3, r_cV4, r_cV5, r_cI0, r_cS0, r_cS1, r_cS2, r_cS3, r_cX0, r_cX1, r_cX2, r_cX3, r_rc, r_oi, r_refx, r_i10, r_i01, r_rfs, r_mem0, r_memc, r_beq, r_kl0, r_klz, r_kl1i, r_kl1r, r_kl1n, r_kl1l, r_kl1d, List.length_cons, List.length_nil, List.getElem?_cons_zero, List.getElem?_cons_succ, List.set_cons_zero, List.set_cons_succ, true_and, and_true, not_true, not_false_eq_true, false_implies, true_implies, or_true, true_or, or_false, false_or, Bool.or_false, Bool.false_or, decide_false, decide_true, Nat.reduceLT, Nat.reduceLeDiff, Nat.reduceAdd, Nat.reduceSub, ↓reduceIte, Nat.reduceEqDiff, Nat.lt_add_one]
  have hsl := s_sl_le (e := s_fm m) (kd := m_kd m) (s := m_st m) (r := m_r m) (d := d) 10 (m_c m)
  have hsl2 : m_sl m d ≤ 10 := hsl
  have hpx : A.x ≠ A.p := Ne.symm hne
  have ex : I' A.x = mz_u I A.x 4 (I A.x 4 + 1) A.x := fr_ne1 f2' hpx
  have eg : I' A.g = I A.g := by rw [fr_ne1 f2' hgp, mz_u_ne hgx]
  have fj : fr I I' [A.x, A.p] := fr_tr1 f1' f2' (by simp)
  rw [l_0, z_le (by omega) (by omega), eg]
  refine ⟨fun q => ?_, fun q => ?_⟩
  · have hs0 : m_sl m d = 0 := by omega
    refine hk _ fj ?_
    unfold o_slide
    rw [if_neg (by omega)]
    rw [hs0] at hp2
    refine in_R hU h hl fj (by simpa using hp2) (fun i a b => ?_)
    rw [ex]
    unfold o_in
    by_cases e : i = 4
    · subst e; rw [mz_u_eq, m_u_eq, e4]
    · rw [mz_u_nk e, m_u_ne (by omega)]; exact hpc i a b
  · refine c_noteInput hX ?_
    simp only [cd_X1_slidePiece, e1, e2, g1, g2, g3, x1, x2, x3, r_rn0, r_rnc, r_vk0, r_vkc, r_vks, r_kci, r_kcv, r_ild, r_ald, r_lld, r_dld, r_Li, r_La, r_Ll, r_Ld, r_Ki, r_Ka, r_Kl, r_Kd, r_Kn, r_ist, r_ast, r_lst, r_dst, r_iinc, r_int, r_lng, r_dbl, r_i2, r_i1, r_l2, r_lsh, r_i2z, r_l2z, r_i2l, r_l2i, r_i2d, r_lcmp, r_ddiv, r_dcmpl, r_dup, r_dup2, r_pop, r_one_int, r_one_ref, r_go, r_if, r_ic, r_tsw, r_lsw, r_sw0, r_swc, r_lk0, r_lkc, r_kp, r_gI, r_gL, r_gR, r_pI, r_pZ, r_pL, r_pR, r_gs, r_ia, r_ca, r_za, r_la, r_da, r_aa, r_ias, r_cas, r_zas, r_las, r_das, r_aas, r_acp, r_new, r_nwa, r_nwq, r_ret, r_irt, r_zrt, r_lrt, r_drt, r_art, r_thr, r_cV0, r_cV1, r_cV2, r_cV3, r_cV4, r_cV5, r_cI0, r_cS0, r_cS1, r_cS2, r_cS3, r_cX0, r_cX1, r_cX2, r_cX3, r_rc, r_oi, r_refx, r_i10, r_i01, r_rfs, r_mem0, r_memc, r_beq, r_kl0, r_klz, r_kl1i, r_kl1r, r_kl1n, r_kl1l, r_kl1d, List.length_cons, List.length_nil, List.getElem?_cons_zero, List.getElem?_cons_succ, List.set_cons_zero, List.set_cons_succ, true_and, and_true, not_true, not_false_eq_true, false_implies, true_implies, or_true, true_or, or_false, false_or, Bool.or_false, Bool.false_or, decide_false, decide_true, Nat.reduceLT, Nat.reduceLeDiff, Nat.reduceAdd, Nat.reduceSub, ↓reduceIte, Nat.reduceEqDiff, Nat.lt_add_one]
    have hm : s_fit (s_fm m) (m_kd m) (m_st m) (m_c m + d * (m_sl m d : Nat)) (m_r m) = true := s_sl_fit (by omega : 0 < m_sl m d)
    have key := settle_R (M := m_u (m_u (o_in m) 224 (zI (m_c m + d * m_sl m d))) 231 (-1)) (could := m_fit m 0 (-1)) (lim := I A.g 8) (kk := -1) hU h hl fj hp2 hm ?_ ?_ ?_ ?_ ?_ hB
    · refine hk _ key.1 ?_
      unfold o_slide
      rw [if_pos (show 0 < m_sl m d by omega)]
      exact key.2
    · intro i a b c
      rw [ex]
      by_cases e : i = 4
      · subst e; rw [mz_u_eq, m_u_ne (by decide), m_u_ne (by decide)]; unfold o_in; rw [m_u_eq, e4]
      · rw [mz_u_nk e, m_u_ne (by omega), m_u_ne (by omega)]; unfold o_in; rw [m_u_ne (by omega)]; exact hpc i a b
    · intro j hj
      rw [m_u_ne (by omega), m_u_ne (by omega)]; unfold o_in; rw [m_u_ne (by omega)]
    · refine ⟨?_, ?_, ?_, ?_⟩
      · rw [m_u_ne (by decide), m_u_ne (by decide)]; unfold o_in; rw [m_u_ne (by decide)]; exact q1
      · rw [m_u_ne (by decide), m_u_ne (by decide)]; unfold o_in; rw [m_u_ne (by decide)]; exact q2
      · rw [m_u_ne (by decide), m_u_eq]
      · rw [m_u_ne (by decide), m_u_ne (by decide)]; unfold o_in; rw [m_u_ne (by decide)]; exact q4
    · rw [m_u_ne (by decide), m_u_ne (by decide)]; unfold o_in; rw [m_u_eq]
    · exact m_u_eq
theorem c_turnE {en : Nat} {A : z_A} {B : Nat} {m : Nat → Int32} {d : Int} (hE : p_E T en A) (h : p_R T I L A B m) (hl : m 221 = 0) (hd : d = -1 ∨ d = 1) (hB : B < 1000000000)
    (hk : ∀ i, i < s_km (m_kd m) → m_kf m d i = true → (∀ j, j < i → m_kf m d j = false) → ∀ I', fr I I' [A.x, A.p] → p_R T I' L A (B + 1) (o_turned m d (I A.g 8) i) → K (some (.int (zI i))) T I' L)
    (hk2 : (∀ j, j < s_km (m_kd m) → m_kf m d j = false) → ∀ I', fr I I' [A.x, A.p] → p_R T I' L A (B + 1) (o_in m) → K (some (.int (-1))) T I' L) : mz_Ctr G M_X1_turnPiece [.ref en, .int (zI d)] T I L K := by
  refine mz_apartC fun hU => ?_
  obtain ⟨e1, e2⟩ := hE
  obtain ⟨⟨g1, g2, g3, g4, g5⟩, hF, hX, hB9, hS⟩ := id h.sh
  obtain ⟨f1, f2, f3⟩ := id hF
  obtain ⟨x1, x2, x3⟩ := id hX
  obtain ⟨hp, hq, hfit⟩ := h.now hl
  obtain ⟨q1, q2, q3, q4⟩ := hq
  obtain ⟨hpc, -, -, -⟩ := h.live hl
  have hne : A.p ≠ A.x := mz_ne hU x3 x1 (by decide)
  have hkx : A.k ≠ A.x := mz_ne hU f2 x1 (by decide)
  have hkp : A.k ≠ A.p := mz_ne hU f2 x3 (by decide)
  have hgx : A.g ≠ A.x := mz_ne hU g1 x1 (by decide)
  have hgp : A.g ≠ A.p := mz_ne hU g1 x3 (by decide)
  have hkd : m_kd m < 7 ∧ m_st m < 4 := ⟨hp.2.2.2.2.2.1, hp.2.2.2.2.2.2.1⟩
  have hb := s_fit_b hkd.1 hkd.2 hfit
  refine mz_ofl mk_X1_turnPiece rfl (Nat.le_of_ble_eq_true rfl) (Nat.le_of_ble_eq_true rfl) [some (.ref en), some (.int (zI d)), none, none, none] rfl ?_
  refine mz_vc ok_X1_turnPiece [] [(), (), (), (), (), (), (), (), (), (), (), (), (), (), (), (), (), (), (), (), (), (), (), (), (), (), (), (), (), ()] ?_
  simp only [cd_X1_turnPiece, e1, e2, g1, g2, g3, x1, x2, x3, r_rn0, r_rnc, r_vk0, r_vkc, r_vks, r_kci, r_kcv, r_ild, r_ald, r_lld, r_dld, r_Li, r_La, r_Ll, r_Ld, r_Ki, r_Ka, r_Kl, r_Kd, r_Kn, r_ist, r_ast, r_lst, r_dst, r_iinc, r_int, r_lng, r_dbl, r_i2, r_i1, r_l2, r_lsh, r_i2z, r_l2z, r_i2l, r_l2i, r_i2d, r_lcmp, r_ddiv, r_dcmpl, r_dup, r_dup2, r_pop, r_one_int, r_one_ref, r_go, r_if, r_ic, r_tsw, r_lsw, r_sw0, r_swc, r_lk0, r_lkc, r_kp, r_gI, r_gL, r_gR, r_pI, r_pZ, r_pL, r_pR, r_gs, r_ia, r_ca, r_za, r_la, r_da, r_aa, r_ias, r_cas, r_zas, r_las, r_das, r_aas, r_acp, r_new, r_nwa, r_nwq, r_ret, r_irt, r_zrt, r_lrt, r_drt, r_art, r_thr, r_cV0, r_cV1, r_cV2, r_cV3, r_cV4, r_cV5, r_cI0, r_cS0, r_cS1, r_cS2, r_cS3, r_cX0, r_cX1, r_cX2, r_cX3, r_rc, r_oi, r_refx, r_i10, r_i01, r_rfs, r_mem0, r_memc, r_beq, r_kl0, r_klz, r_kl1i, r_kl1r, r_kl1n, r_kl1l, r_kl1d, List.length_cons, List.length_nil, List.getElem?_cons_zero, List.getElem?_cons_succ, List.set_cons_zero, List.set_cons_succ, true_and, and_true, not_true, not_false_eq_true, false_implies, true_implies, or_true, true_or, or_false, false_or, Bool.or_false, Bool.false_or, decide_false, decide_true, Nat.reduceLT, Nat.reduceLeDiff, Nat.reduceAdd, Nat.reduceSub, ↓reduceIte, Nat.reduceEqDiff, Nat.lt_add_one]
  refine c_canFall hp hF (by omega) ?_
  rw [s_fit_cg h.fl]
  simp only [cd_X1_turnPiece, e1, e2, g1, g2, g3, x1, x2, x3, r_rn0, r_rnc, r_vk0, r_vkc, r_vks, r_kci, r_kcv, r_ild, r_ald, r_lld, r_dld, r_Li, r_La, r_Ll, r_Ld, r_Ki, r_Ka, r_Kl, r_Kd, r_Kn, r_ist, r_ast, r_lst, r_dst, r_iinc, r_int, r_lng, r_dbl, r_i2, r_i1, r_l2, r_lsh, r_i2z, r_l2z, r_i2l, r_l2i, r_i2d, r_lcmp, r_ddiv, r_dcmpl, r_dup, r_dup2, r_pop, r_one_int, r_one_ref, r_go, r_if, r_ic, r_tsw, r_lsw, r_sw0, r_swc, r_lk0, r_lkc, r_kp, r_gI, r_gL, r_gR, r_pI, r_pZ, r_pL, r_pR, r_gs, r_ia, r_ca, r_za, r_la, r_da, r_aa, r_ias, r_cas, r_zas, r_las, r_das, r_aas, r_acp, r_new, r_nwa, r_nwq, r_ret, r_irt, r_zrt, r_lrt, r_drt, r_art, r_thr, r_cV0, r_cV1, r_cV2, r_cV3, r_cV4, r_cV5, r_cI0, r_cS0, r_cS1, r_cS2, r_cS3, r_cX0, r_cX1, r_cX2, r_cX3, r_rc, r_oi, r_refx, r_i10, r_i01, r_rfs, r_mem0, r_memc, r_beq, r_kl0, r_klz, r_kl1i, r_kl1r, r_kl1n, r_kl1l, r_kl1d, List.length_cons, List.length_nil, List.getElem?_cons_zero, List.getElem?_cons_succ, List.set_cons_zero, List.set_cons_succ, true_and, and_true, not_true, not_false_eq_true, false_implies, true_implies, or_true, true_or, or_false, false_or, Bool.or_false, Bool.false_or, decide_false, decide_true, Nat.reduceLT, Nat.reduceLeDiff, Nat.reduceAdd, Nat.reduceSub, ↓reduceIte, Nat.reduceEqDiff, Nat.lt_add_one]
  have em : s_fit (s_fm m) (m_kd m) (m_st m) (m_c m) (m_r m - 1) = m_fit m 0 (-1) := by unfold m_fit; rw [Int.add_zero, Int.sub_eq_add_neg]
  rw [em]
  -- the input is counted
  have f1' : fr I (mz_u I A.x 4 (I A.x 4 + 1)) [A.x, A.p] := fr_u2 fr_refl (by simp)
  have hp1 : p_Pos T (mz_u I A.x 4 (I A.x 4 + 1)) A.p (m_kd m) (m_st m) (m_c m) (m_r m) := by
    obtain ⟨p1, p2, p3, p4, p5, p6⟩ := id hp
    exact ⟨p1, by rw [mz_u_ne hne]; exact p2, by rw [mz_u_ne hne]; exact p3, by rw [mz_u_ne hne]; exact p4, by rw [mz_u_ne hne]; exact p5, p6⟩
  have e4 : I A.x 4 = m 229 := hpc 4 (by decide) (by decide)
  have ekf : ∀ i, s_kf (s_fl (mz_u I A.x 4 (I A.x 4 + 1) A.k)) (m_kd m) (m_st m) (m_c m) (m_r m) d i = m_kf m d i := by
    intro i
    unfold m_kf s_kf
    rw [mz_u_ne hkx, s_fit_cg h.fl]
  have hpx : A.x ≠ A.p := Ne.symm hne
  refine c_turn hp1 hF hd (by omega) (by omega) ?_ ?_
  · intro i hi hm0 hmin I' f2' hp2
    rw [ekf] at hm0
    have hmin : ∀ j, j < i → m_kf m d j = false := fun j hj => by rw [← ekf]; exact hmin j hj
    have ex : I' A.x = mz_u I A.x 4 (I A.x 4 + 1) A.x := fr_ne1 f2' hpx
    have eg : I' A.g = I A.g := by rw [fr_ne1 f2' hgp, mz_u_ne hgx]
    have fj : fr I I' [A.x, A.p] := fr_tr1 f1' f2' (by simp)
    have hkm := s_km_le (kd := m_kd m)
    simp only [cd_X1_turnPiece, e1, e2, g1, g2, g3, x1, x2, x3, r_rn0, r_rnc, r_vk0, r_vkc, r_vks, r_kci, r_kcv, r_ild, r_ald, r_lld, r_dld, r_Li, r_La, r_Ll, r_Ld, r_Ki, r_Ka, r_Kl, r_Kd, r_Kn, r_ist, r_ast, r_lst, r_dst, r_iinc, r_int, r_lng, r_dbl, r_i2, r_i1, r_l2, r_lsh, r_i2z, r_l2z, r_i2l, r_l2i, r_i2d, r_lcmp, r_ddiv, r_dcmpl, r_dup, r_dup2, r_pop, r_one_int, r_one_ref, r_go, r_if, r_ic, r_tsw, r_lsw, r_sw0, r_swc, r_lk0, r_lkc, r_kp, r_gI, r_gL, r_gR, r_pI, r_pZ, r_pL, r_pR, r_gs, r_ia, r_ca, r_za, r_la, r_da, r_aa, r_ias, r_cas, r_zas, r_las, r_das, r_aas, r_acp, r_new, r_nwa, r_nwq, r_ret, r_irt, r_zrt, r_lrt, r_drt, r_art, r_thr, r_cV0, r_cV1, r_cV2, r_cV3, r_cV4, r_cV5, r_cI0, r_cS0, r_cS1, r_cS2, r_cS3, r_cX0, r_cX1, r_cX2, r_cX3, r_rc, r_oi, r_refx, r_i10, r_i01, r_rfs, r_mem0, r_memc, r_beq, r_kl0, r_klz, r_kl1i, r_kl1r, r_kl1n, r_kl1l, r_kl1d, List.length_cons, List.length_nil, List.getElem?_cons_zero, List.getElem?_cons_succ, List.set_cons_zero, List.set_cons_succ, true_and, and_true, not_true, not_false_eq_true, false_implies, true_implies, or_true, true_or, or_false, false_or, Bool.or_false, Bool.false_or, decide_false, decide_true, Nat.reduceLT, Nat.reduceLeDiff, Nat.reduceAdd, Nat.reduceSub, ↓reduceIte, Nat.reduceEqDiff, Nat.lt_add_one]
    rw [l_m1, z_eq (by omega) (by omega), eg]
    refine ⟨fun q => absurd q (by omega), fun _ => ?_⟩
    refine c_noteInput hX ?_
    simp only [cd_X1_turnPiece, e1, e2, g1, g2, g3, x1, x2, x3, r_rn0, r_rnc, r_vk0, r_vkc, r_vks, r_kci, r_kcv, r_ild, r_ald, r_lld, r_dld, r_Li, r_La, r_Ll, r_Ld, r_Ki, r_Ka, r_Kl, r_Kd, r_Kn, r_ist, r_ast, r_lst, r_dst, r_iinc, r_int, r_lng, r_dbl, r_i2, r_i1, r_l2, r_lsh, r_i2z, r_l2z, r_i2l, r_l2i, r_i2d, r_lcmp, r_ddiv, r_dcmpl, r_dup, r_dup2, r_pop, r_one_int, r_one_ref, r_go, r_if, r_ic, r_tsw, r_lsw, r_sw0, r_swc, r_lk0, r_lkc, r_kp, r_gI, r_gL, r_gR, r_pI, r_pZ, r_pL, r_pR, r_gs, r_ia, r_ca, r_za, r_la, r_da, r_aa, r_ias, r_cas, r_zas, r_las, r_das, r_aas, r_acp, r_new, r_nwa, r_nwq, r_ret, r_irt, r_zrt, r_lrt, r_drt, r_art, r_thr, r_cV0, r_cV1, r_cV2, r_cV3, r_cV4, r_cV5, r_cI0, r_cS0, r_cS1, r_cS2, r_cS3, r_cX0, r_cX1, r_cX2, r_cX3, r_rc, r_oi, r_refx, r_i10, r_i01, r_rfs, r_mem0, r_memc, r_beq, r_kl0, r_klz, r_kl1i, r_kl1r, r_kl1n, r_kl1l, r_kl1d, List.length_cons, List.length_nil, List.getElem?_cons_zero, List.getElem?_cons_succ, List.set_cons_zero, List.set_cons_succ, true_and, and_true, not_true, not_false_eq_true, false_implies, true_implies, or_true, true_or, or_false, false_or, Bool.or_false, Bool.false_or, decide_false, decide_true, Nat.reduceLT, Nat.reduceLeDiff, Nat.reduceAdd, Nat.reduceSub, ↓reduceIte, Nat.reduceEqDiff, Nat.lt_add_one]
    have key := settle_R (M := m_u (m_u (m_u (m_u (o_in m) 223 (zI (s_rot (m_st m) d))) 224 (zI (m_c m + d * s_kt (m_kd m) (2 * i)))) 225 (zI (m_r m + s_kt (m_kd m) (2 * i + 1)))) 231 (zI i)) (could := m_fit m 0 (-1)) (lim := I A.g 8) (kk := zI i) hU h hl fj hp2 hm0 ?_ ?_ ?_ ?_ ?_ hB
    · exact hk i hi hm0 hmin _ key.1 key.2
    · intro i a b c
      rw [ex]
      by_cases e : i = 4
      · subst e; rw [mz_u_eq, m_u_ne (by decide), m_u_ne (by decide), m_u_ne (by decide), m_u_ne (by decide)]; unfold o_in; rw [m_u_eq, e4]
      · rw [mz_u_nk e, m_u_ne (by omega), m_u_ne (by omega), m_u_ne (by omega), m_u_ne (by omega)]; unfold o_in; rw [m_u_ne (by omega)]; exact hpc i a b
    · intro j hj
      rw [m_u_ne (by omega), m_u_ne (by omega), m_u_ne (by omega), m_u_ne (by omega)]; unfold o_in; rw [m_u_ne (by omega)]
    · refine ⟨?_, ?_, ?_, ?_⟩
      · rw [m_u_ne (by decide), m_u_ne (by decide), m_u_ne (by decide), m_u_ne (by decide)]; unfold o_in; rw [m_u_ne (by decide)]; exact q1
      · rw [m_u_ne (by decide), m_u_ne (by decide), m_u_ne (by decide), m_u_eq]
      · rw [m_u_ne (by decide), m_u_ne (by decide), m_u_eq]
      · rw [m_u_ne (by decide), m_u_eq]
    · rw [m_u_ne (by decide), m_u_ne (by decide), m_u_ne (by decide), m_u_ne (by decide)]; unfold o_in; rw [m_u_eq]
    · exact m_u_eq
  · intro hmin I' f2' hp2
    have ex : I' A.x = mz_u I A.x 4 (I A.x 4 + 1) A.x := fr_ne1 f2' hpx
    have fj : fr I I' [A.x, A.p] := fr_tr1 f1' f2' (by simp)
    simp only [cd_X1_turnPiece, e1, e2, g1, g2, g3, x1, x2, x3, r_rn0, r_rnc, r_vk0, r_vkc, r_vks, r_kci, r_kcv, r_ild, r_ald, r_lld, r_dld, r_Li, r_La, r_Ll, r_Ld, r_Ki, r_Ka, r_Kl, r_Kd, r_Kn, r_ist, r_ast, r_lst, r_dst, r_iinc, r_int, r_lng, r_dbl, r_i2, r_i1, r_l2, r_lsh, r_i2z, r_l2z, r_i2l, r_l2i, r_i2d, r_lcmp, r_ddiv, r_dcmpl, r_dup, r_dup2, r_pop, r_one_int, r_one_ref, r_go, r_if, r_ic, r_tsw, r_lsw, r_sw0, r_swc, r_lk0, r_lkc, r_kp, r_gI, r_gL, r_gR, r_pI, r_pZ, r_pL, r_pR, r_gs, r_ia, r_ca, r_za, r_la, r_da, r_aa, r_ias, r_cas, r_zas, r_las, r_das, r_aas, r_acp, r_new, r_nwa, r_nwq, r_ret, r_irt, r_zrt, r_lrt, r_drt, r_art, r_thr, r_cV0, r_cV1, r_cV2, r_cV3, r_cV4, r_cV5, r_cI0, r_cS0, r_cS1, r_cS2, r_cS3, r_cX0, r_cX1, r_cX2, r_cX3, r_rc, r_oi, r_refx, r_i10, r_i01, r_rfs, r_mem0, r_memc, r_beq, r_kl0, r_klz, r_kl1i, r_kl1r, r_kl1n, r_kl1l, r_kl1d, List.length_cons, List.length_nil, List.getElem?_cons_zero, List.getElem?_cons_succ, List.set_cons_zero, List.set_cons_succ, true_and, and_true, not_true, not_false_eq_true, false_implies, true_implies, or_true, true_or, or_false, false_or, Bool.or_false, Bool.false_or, decide_false, decide_true, Nat.reduceLT, Nat.reduceLeDiff, Nat.reduceAdd, Nat.reduceSub, ↓reduceIte, Nat.reduceEqDiff, Nat.lt_add_one]
    refine hk2 (fun j hj => by rw [← ekf]; exact hmin j hj) _ fj ?_
    refine in_R hU h hl fj hp2 (fun i a b => ?_)
    rw [ex]
    unfold o_in
    by_cases e : i = 4
    · subst e; rw [mz_u_eq, m_u_eq, e4]
    · rw [mz_u_nk e, m_u_ne (by omega)]; exact hpc i a b
end ENG2
