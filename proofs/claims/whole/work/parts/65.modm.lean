/-! the reference: moves -/
section MODM
variable {G : mz_G} {K : mz_K} {T : mz_T} {I : mz_I} {L : mz_L}
theorem mz_u_row {I : mz_I} {a k : Nat} {v : Int32} : mz_u I a k v a = m_u (I a) k v := by
  funext j
  unfold mz_u m_u
  rw [if_pos rfl]
def d_pos (g : Nat → Int32) : Prop := (g 222 = zI (m_kd g) ∧ g 223 = zI (m_st g) ∧ g 224 = zI (m_c g) ∧ g 225 = zI (m_r g)) ∧ m_kd g < 7 ∧ m_st g < 4 ∧ (-50 ≤ m_c g ∧ m_c g ≤ 50) ∧ (-50 ≤ m_r g ∧ m_r g ≤ 50)
def d_ok (g : Nat → Int32) : Prop := d_pos g ∧ s_fit (s_fm g) (m_kd g) (m_st g) (m_c g) (m_r g) = true
theorem d_ok_R {A : z_A} {B : Nat} {m : Nat → Int32} (h : p_R T I L A B m) (hl : m 221 = 0) : d_ok m := by
  obtain ⟨hp, hq, hf⟩ := h.now hl
  have hb := s_fit_b hp.2.2.2.2.2.1 hp.2.2.2.2.2.2.1 hf
  exact ⟨⟨hq, hp.2.2.2.2.2.1, hp.2.2.2.2.2.2.1, by omega, by omega⟩, hf⟩
theorem d_pos_cg {g g' : Nat → Int32} (h : d_pos g) (he : ∀ j, 222 ≤ j → j ≤ 225 → g' j = g j) : d_pos g' := by
  have e1 : m_kd g' = m_kd g := by unfold m_kd; rw [he 222 (by decide) (by decide)]
  have e2 : m_st g' = m_st g := by unfold m_st; rw [he 223 (by decide) (by decide)]
  have e3 : m_c g' = m_c g := by unfold m_c; rw [he 224 (by decide) (by decide)]
  have e4 : m_r g' = m_r g := by unfold m_r; rw [he 225 (by decide) (by decide)]
  unfold d_pos
  rw [e1, e2, e3, e4, he 222 (by decide) (by decide), he 223 (by decide) (by decide), he 224 (by decide) (by decide), he 225 (by decide) (by decide)]
  exact h
theorem s_fit_w {e : Nat → Bool} {kd s : Nat} {c r : Int} (hk : kd < 7) (hs : s < 4) (h : s_fit e kd s c r = true) : (0 ≤ c + (f_LO.getD (kd * 4 + s) 0 : Nat) ∧ c + (f_LO.getD (kd * 4 + s) 0 : Nat) ≤ 9) ∧ (0 ≤ r + (f_RO.getD (kd * 4 + s) 0 : Nat) ∧ r + (f_RO.getD (kd * 4 + s) 0 : Nat) ≤ 21) := by
  obtain ⟨-, ⟨j1, h1, e1⟩, -⟩ := f_ext kd hk s hs
  obtain ⟨j2, h2, e2⟩ := f_rext kd hk s hs
  have q1 := s_fit_t.mp h j1 h1
  have q2 := s_fit_t.mp h j2 h2
  rw [e1] at q1
  rw [e2] at q2
  constructor
  · by_cases z : 0 ≤ c + (f_LO.getD (kd * 4 + s) 0 : Nat) ∧ c + (f_LO.getD (kd * 4 + s) 0 : Nat) ≤ 9
    · exact z
    · rw [s_at_out (by omega)] at q1; cases q1
  · by_cases z : 0 ≤ r + (f_RO.getD (kd * 4 + s) 0 : Nat) ∧ r + (f_RO.getD (kd * 4 + s) 0 : Nat) ≤ 21
    · exact z
    · rw [s_at_out (by omega)] at q2; cases q2
theorem c_fitsAtM {D : Nat → Nat} {c r : Int} (hM : p_Mo T D) (hC : p_Mc I D) (hp : d_pos (I (D 1))) (hc : -100 ≤ c ∧ c ≤ 100) (hr : -100 ≤ r ∧ r ≤ 100) (h : K (some (.int (b2i (s_fit (s_fm (I (D 1))) (m_kd (I (D 1))) (m_st (I (D 1))) c r)))) T I L) : mz_Ctr G M_X12_fitsAt [.ref (D 0), .int (zI c), .int (zI r)] T I L K := by
  obtain ⟨h0, ⟨r1, -⟩, ⟨t1, -⟩, -⟩ := id hM
  obtain ⟨⟨q1, q2, -, -⟩, hk, hs, -⟩ := id hp
  refine mz_ofl mk_X12_fitsAt rfl (Nat.le_of_ble_eq_true rfl) (Nat.le_of_ble_eq_true rfl) [some (.ref (D 0)), some (.int (zI c)), some (.int (zI r))] rfl ?_
  refine mz_vc ok_X12_fitsAt [] [(), (), (), (), (), (), (), (), (), (), (), (), (), (), (), (), (), (), (), (), (), (), (), (), (), (), (), (), (), ()] ?_
  simp only [cd_X12_fitsAt, h0, r1, r_rn0, r_rnc, r_vk0, r_vkc, r_vks, r_kci, r_kcv, r_ild, r_ald, r_lld, r_dld, r_Li, r_La, r_Ll, r_Ld, r_Ki, r_Ka, r_Kl, r_Kd, r_Kn, r_ist, r_ast, r_lst, r_dst, r_iinc, r_int, r_lng, r_dbl, r_i2, r_i1, r_l2, r_lsh, r_i2z, r_l2z, r_i2l, r_l2i, r_i2d, r_lcmp, r_ddiv, r_dcmpl, r_dup, r_dup2, r_pop, r_one_int, r_one_ref, r_go, r_if, r_ic, r_tsw, r_lsw, r_sw0, r_swc, r_lk0, r_lkc, r_kp, r_gI, r_gL, r_gR, r_pI, r_pZ, r_pL, r_pR, r_gs, r_ia, r_ca, r_za, r_la, r_da, r_aa, r_ias, r_cas, r_zas, r_las, r_das, r_aas, r_acp, r_new, r_nwa, r_nwq, r_ret, r_irt, r_zrt, r_lrt, r_drt, r_art, r_thr, r_cV0, r_cV1, r_cV2, r_cV3, r_cV4, r_cV5, r_cI0, r_cS0, r_cS1, r_cS2, r_cS3, r_cX0, r_cX1, r_cX2, r_cX3, r_rc, r_oi, r_refx, r_i10, r_i01, r_rfs, r_mem0, r_memc, r_beq, r_kl0, r_klz, r_kl1i, r_kl1r, r_kl1n, r_kl1l, r_kl1d, List.length_cons, List.length_nil, List.getElem?_cons_zero, List.getElem?_cons_succ, List.set_cons_zero, List.set_cons_succ, true_and, and_true, not_true, not_false_eq_true, false_implies, true_implies, or_true, true_or, or_false, false_or, Bool.or_false, Bool.false_or, decide_false, decide_true, Nat.reduceLT, Nat.reduceLeDiff, Nat.reduceAdd, Nat.reduceSub, ↓reduceIte, Nat.reduceEqDiff, Nat.lt_add_one]
  refine ⟨⟨268, t1, z_in (a := 222) (by decide) (by decide) (by decide)⟩, ⟨268, t1, z_in (a := 223) (by decide) (by decide) (by decide)⟩, ?_⟩
  have e1 : I (D 1) (222 : Int32).toNatClampNeg = zI (m_kd (I (D 1))) := q1
  have e2 : I (D 1) (223 : Int32).toNatClampNeg = zI (m_st (I (D 1))) := q2
  rw [e1, e2]
  refine c_fitsM hM hC hk hs hc hr ?_
  simp only [cd_X12_fitsAt, h0, r1, b2i_or, r_rn0, r_rnc, r_vk0, r_vkc, r_vks, r_kci, r_kcv, r_ild, r_ald, r_lld, r_dld, r_Li, r_La, r_Ll, r_Ld, r_Ki, r_Ka, r_Kl, r_Kd, r_Kn, r_ist, r_ast, r_lst, r_dst, r_iinc, r_int, r_lng, r_dbl, r_i2, r_i1, r_l2, r_lsh, r_i2z, r_l2z, r_i2l, r_l2i, r_i2d, r_lcmp, r_ddiv, r_dcmpl, r_dup, r_dup2, r_pop, r_one_int, r_one_ref, r_go, r_if, r_ic, r_tsw, r_lsw, r_sw0, r_swc, r_lk0, r_lkc, r_kp, r_gI, r_gL, r_gR, r_pI, r_pZ, r_pL, r_pR, r_gs, r_ia, r_ca, r_za, r_la, r_da, r_aa, r_ias, r_cas, r_zas, r_las, r_das, r_aas, r_acp, r_new, r_nwa, r_nwq, r_ret, r_irt, r_zrt, r_lrt, r_drt, r_art, r_thr, r_cV0, r_cV1, r_cV2, r_cV3, r_cV4, r_cV5, r_cI0, r_cS0, r_cS1, r_cS2, r_cS3, r_cX0, r_cX1, r_cX2, r_cX3, r_rc, r_oi, r_refx, r_i10, r_i01, r_rfs, r_mem0, r_memc, r_beq, r_kl0, r_klz, r_kl1i, r_kl1r, r_kl1n, r_kl1l, r_kl1d, List.length_cons, List.length_nil, List.getElem?_cons_zero, List.getElem?_cons_succ, List.set_cons_zero, List.set_cons_succ, true_and, and_true, not_true, not_false_eq_true, false_implies, true_implies, or_true, true_or, or_false, false_or, Bool.or_false, Bool.false_or, decide_false, decide_true, Nat.reduceLT, Nat.reduceLeDiff, Nat.reduceAdd, Nat.reduceSub, ↓reduceIte, Nat.reduceEqDiff, Nat.lt_add_one]
  exact h
theorem c_canFallM {D : Nat → Nat} (hM : p_Mo T D) (hC : p_Mc I D) (hp : d_pos (I (D 1))) (h : K (some (.int (b2i (m_fit (I (D 1)) 0 (-1))))) T I L) : mz_Ctr G M_X12_canFall [.ref (D 0)] T I L K := by
  obtain ⟨h0, ⟨r1, -⟩, ⟨t1, -⟩, -⟩ := id hM
  obtain ⟨⟨q1, q2, q3, q4⟩, hk, hs, hc, hr⟩ := id hp
  refine mz_ofl mk_X12_canFall rfl (Nat.le_of_ble_eq_true rfl) (Nat.le_of_ble_eq_true rfl) [some (.ref (D 0))] rfl ?_
  refine mz_vc ok_X12_canFall [] [(), (), (), (), (), (), (), (), (), (), (), (), (), (), (), (), (), (), (), (), (), (), (), (), (), (), (), (), (), ()] ?_
  simp only [cd_X12_canFall, h0, r1, r_rn0, r_rnc, r_vk0, r_vkc, r_vks, r_kci, r_kcv, r_ild, r_ald, r_lld, r_dld, r_Li, r_La, r_Ll, r_Ld, r_Ki, r_Ka, r_Kl, r_Kd, r_Kn, r_ist, r_ast, r_lst, r_dst, r_iinc, r_int, r_lng, r_dbl, r_i2, r_i1, r_l2, r_lsh, r_i2z, r_l2z, r_i2l, r_l2i, r_i2d, r_lcmp, r_ddiv, r_dcmpl, r_dup, r_dup2, r_pop, r_one_int, r_one_ref, r_go, r_if, r_ic, r_tsw, r_lsw, r_sw0, r_swc, r_lk0, r_lkc, r_kp, r_gI, r_gL, r_gR, r_pI, r_pZ, r_pL, r_pR, r_gs, r_ia, r_ca, r_za, r_la, r_da, r_aa, r_ias, r_cas, r_zas, r_las, r_das, r_aas, r_acp, r_new, r_nwa, r_nwq, r_ret, r_irt, r_zrt, r_lrt, r_drt, r_art, r_thr, r_cV0, r_cV1, r_cV2, r_cV3, r_cV4, r_cV5, r_cI0, r_cS0, r_cS1, r_cS2, r_cS3, r_cX0, r_cX1, r_cX2, r_cX3, r_rc, r_oi, r_refx, r_i10, r_i01, r_rfs, r_mem0, r_memc, r_beq, r_kl0, r_klz, r_kl1i, r_kl1r, r_kl1n, r_kl1l, r_kl1d, List.length_cons, List.length_nil, List.getElem?_cons_zero, List.getElem?_cons_succ, List.set_cons_zero, List.set_cons_succ, true_and, and_true, not_true, not_false_eq_true, false_implies, true_implies, or_true, true_or, or_false, false_or, Bool.or_false, Bool.false_or, decide_false, decide_true, Nat.reduceLT, Nat.reduceLeDiff, Nat.reduceAdd, Nat.reduceSub, ↓reduceIte, Nat.reduceEqDiff, Nat.lt_add_one]
  refine ⟨⟨268, t1, z_in (a := 224) (by decide) (by decide) (by decide)⟩, ⟨268, t1, z_in (a := 225) (by decide) (by decide) (by decide)⟩, ?_⟩
  have e1 : I (D 1) (224 : Int32).toNatClampNeg = zI (m_c (I (D 1))) := q3
  have e2 : I (D 1) (225 : Int32).toNatClampNeg = zI (m_r (I (D 1))) := q4
  rw [e1, e2, l_1, z_sub]
  refine c_fitsAtM hM hC hp (by omega) (by omega) ?_
  simp only [cd_X12_canFall, h0, r1, b2i_or, r_rn0, r_rnc, r_vk0, r_vkc, r_vks, r_kci, r_kcv, r_ild, r_ald, r_lld, r_dld, r_Li, r_La, r_Ll, r_Ld, r_Ki, r_Ka, r_Kl, r_Kd, r_Kn, r_ist, r_ast, r_lst, r_dst, r_iinc, r_int, r_lng, r_dbl, r_i2, r_i1, r_l2, r_lsh, r_i2z, r_l2z, r_i2l, r_l2i, r_i2d, r_lcmp, r_ddiv, r_dcmpl, r_dup, r_dup2, r_pop, r_one_int, r_one_ref, r_go, r_if, r_ic, r_tsw, r_lsw, r_sw0, r_swc, r_lk0, r_lkc, r_kp, r_gI, r_gL, r_gR, r_pI, r_pZ, r_pL, r_pR, r_gs, r_ia, r_ca, r_za, r_la, r_da, r_aa, r_ias, r_cas, r_zas, r_las, r_das, r_aas, r_acp, r_new, r_nwa, r_nwq, r_ret, r_irt, r_zrt, r_lrt, r_drt, r_art, r_thr, r_cV0, r_cV1, r_cV2, r_cV3, r_cV4, r_cV5, r_cI0, r_cS0, r_cS1, r_cS2, r_cS3, r_cX0, r_cX1, r_cX2, r_cX3, r_rc, r_oi, r_refx, r_i10, r_i01, r_rfs, r_mem0, r_memc, r_beq, r_kl0, r_klz, r_kl1i, r_kl1r, r_kl1n, r_kl1l, r_kl1d, List.length_cons, List.length_nil, List.getElem?_cons_zero, List.getElem?_cons_succ, List.set_cons_zero, List.set_cons_succ, true_and, and_true, not_true, not_false_eq_true, false_implies, true_implies, or_true, true_or, or_false, false_or, Bool.or_false, Bool.false_or, decide_false, decide_true, Nat.reduceLT, Nat.reduceLeDiff, Nat.reduceAdd, Nat.reduceSub, ↓reduceIte, Nat.reduceEqDiff, Nat.lt_add_one]
  unfold m_fit at h
  rw [Int.add_zero] at h
  exact h
theorem c_kickManyM {D : Nat → Nat} {kd : Nat} (hk : kd < 7) (h : K (some (.int (zI (s_km kd)))) T I L) : mz_Ctr G M_X12_kickMany [.ref (D 0), .int (zI kd)] T I L K := by
  refine mz_ofl mk_X12_kickMany rfl (Nat.le_of_ble_eq_true rfl) (Nat.le_of_ble_eq_true rfl) [some (.ref (D 0)), some (.int (zI kd))] rfl ?_
  refine mz_vc ok_X12_kickMany [] [(), (), (), (), (), (), (), (), (), (), (), (), (), (), (), (), (), (), (), (), (), (), (), (), (), (), (), (), (), ()] ?_
  simp only [cd_X12_kickMany, r_rn0, r_rnc, r_vk0, r_vkc, r_vks, r_kci, r_kcv, r_ild, r_ald, r_lld, r_dld, r_Li, r_La, r_Ll, r_Ld, r_Ki, r_Ka, r_Kl, r_Kd, r_Kn, r_ist, r_ast, r_lst, r_dst, r_iinc, r_int, r_lng, r_dbl, r_i2, r_i1, r_l2, r_lsh, r_i2z, r_l2z, r_i2l, r_l2i, r_i2d, r_lcmp, r_ddiv, r_dcmpl, r_dup, r_dup2, r_pop, r_one_int, r_one_ref, r_go, r_if, r_ic, r_tsw, r_lsw, r_sw0, r_swc, r_lk0, r_lkc, r_kp, r_gI, r_gL, r_gR, r_pI, r_pZ, r_pL, r_pR, r_gs, r_ia, r_ca, r_za, r_la, r_da, r_aa, r_ias, r_cas, r_zas, r_las, r_das, r_aas, r_acp, r_new, r_nwa, r_nwq, r_ret, r_irt, r_zrt, r_lrt, r_drt, r_art, r_thr, r_cV0, r_cV1, r_cV2, r_cV3, r_cV4, r_cV5, r_cI0, r_cS0, r_cS1, r_cS2, r_cS3, r_cX0, r_cX1, r_cX2, r_cX3, r_rc, r_oi, r_refx, r_i10, r_i01, r_rfs, r_mem0, r_memc, r_beq, r_kl0, r_klz, r_kl1i, r_kl1r, r_kl1n, r_kl1l, r_kl1d, List.length_cons, List.length_nil, List.getElem?_cons_zero, List.getElem?_cons_succ, List.set_cons_zero, List.set_cons_succ, true_and, and_true, not_true, not_false_eq_true, false_implies, true_implies, or_true, true_or, or_false, false_or, Bool.or_false, Bool.false_or, decide_false, decide_true, Nat.reduceLT, Nat.reduceLeDiff, Nat.reduceAdd, Nat.reduceSub, ↓reduceIte, Nat.reduceEqDiff, Nat.lt_add_one]
  unfold s_km at h
  rw [l_0, l_1, z_eq (by omega) (by omega), z_eq (by omega) (by omega)]
  refine ⟨fun q => ⟨fun q2 => ?_, fun q2 => ?_⟩, fun q => ?_⟩
  · rw [if_neg (by omega), if_neg (by omega)] at h; exact h
  · rw [if_neg (by omega), if_pos (by omega)] at h; exact h
  · rw [if_pos (by omega)] at h; exact h
theorem c_kickM {D : Nat → Nat} {kd i : Nat} {d : Int} {w : Nat} (hM : p_Mo T D) (hC : p_Mc I D) (hk : kd < 7) (hi : i < s_km kd) (hw : w < 2) (h : K (some (.int (zI (if w = 0 then d * s_kt kd (2 * i) else s_kt kd (2 * i + 1))))) T I L) : mz_Ctr G M_X12_kick [.ref (D 0), .int (zI kd), .int (zI i), .int (zI d), .int (zI w)] T I L K := by
  obtain ⟨h0, ⟨r1, r2, r3, r5, r6, r8, r9, r10, r11, -⟩, ⟨t1, t2, t3, t5, t6, t8, t9, t10, t11, -⟩, -⟩ := id hM
  obtain ⟨c1, c2, c3, c4, -⟩ := id hC
  have hi9 := s_km_le (kd := kd)
  have w29 : mz_W G M_X12_kick K mz_nX 29 [some (.ref (D 0)), some (.int (zI kd)), some (.int (zI i)), some (.int (zI d)), some (.int (zI w)), none] [.int (zI (s_kt kd (2 * i + w)))] T I L (0, 0) := by
    refine mz_vc ok_X12_kick [] [(), (), (), (), (), (), (), (), (), (), (), (), (), (), (), (), (), (), (), (), (), (), (), (), (), (), (), (), (), ()] ?_
    simp only [cd_X12_kick, h0, r10, r11, r_rn0, r_rnc, r_vk0, r_vkc, r_vks, r_kci, r_kcv, r_ild, r_ald, r_lld, r_dld, r_Li, r_La, r_Ll, r_Ld, r_Ki, r_Ka, r_Kl, r_Kd, r_Kn, r_ist, r_ast, r_lst, r_dst, r_iinc, r_int, r_lng, r_dbl, r_i2, r_i1, r_l2, r_lsh, r_i2z, r_l2z, r_i2l, r_l2i, r_i2d, r_lcmp, r_ddiv, r_dcmpl, r_dup, r_dup2, r_pop, r_one_int, r_one_ref, r_go, r_if, r_ic, r_tsw, r_lsw, r_sw0, r_swc, r_lk0, r_lkc, r_kp, r_gI, r_gL, r_gR, r_pI, r_pZ, r_pL, r_pR, r_gs, r_ia, r_ca, r_za, r_la, r_da, r_aa, r_ias, r_cas, r_zas, r_las, r_das, r_aas, r_acp, r_new, r_nwa, r_nwq, r_ret, r_irt, r_zrt, r_lrt, r_drt, r_art, r_thr, r_cV0, r_cV1, r_cV2, r_cV3, r_cV4, r_cV5, r_cI0, r_cS0, r_cS1, r_cS2, r_cS3, r_cX0, r_cX1, r_cX2, r_cX3, r_rc, r_oi, r_refx, r_i10, r_i01, r_rfs, r_mem0, r_memc, r_beq, r_kl0, r_klz, r_kl1i, r_kl1r, r_kl1n, r_kl1l, r_kl1d, List.length_cons, List.length_nil, List.getElem?_cons_zero, List.getElem?_cons_succ, List.set_cons_zero, List.set_cons_succ, true_and, and_true, not_true, not_false_eq_true, false_implies, true_implies, or_true, true_or, or_false, false_or, Bool.or_false, Bool.false_or, decide_false, decide_true, Nat.reduceLT, Nat.reduceLeDiff, Nat.reduceAdd, Nat.reduceSub, ↓reduceIte, Nat.reduceEqDiff, Nat.lt_add_one]
    rw [l_0, z_eq (by omega) (by omega)]
    refine ⟨fun q => ?_, fun q => ?_⟩
    · have e : w = 1 := by omega
      subst e
      rw [if_neg (by decide)] at h; exact h
    · have e : w = 0 := by omega
      subst e
      rw [if_pos rfl] at h
      rw [z_mul]; exact h
  refine mz_ofl mk_X12_kick rfl (Nat.le_of_ble_eq_true rfl) (Nat.le_of_ble_eq_true rfl) [some (.ref (D 0)), some (.int (zI kd)), some (.int (zI i)), some (.int (zI d)), some (.int (zI w)), none] rfl ?_
  refine mz_vc ok_X12_kick [29] [(), (), (), (), (), (), (), (), (), (), (), (), (), (), (), (), (), (), (), (), (), (), (), (), (), (), (), (), (), ()] ?_
  simp only [cd_X12_kick, h0, r10, r11, r_rn0, r_rnc, r_vk0, r_vkc, r_vks, r_kci, r_kcv, r_ild, r_ald, r_lld, r_dld, r_Li, r_La, r_Ll, r_Ld, r_Ki, r_Ka, r_Kl, r_Kd, r_Kn, r_ist, r_ast, r_lst, r_dst, r_iinc, r_int, r_lng, r_dbl, r_i2, r_i1, r_l2, r_lsh, r_i2z, r_l2z, r_i2l, r_l2i, r_i2d, r_lcmp, r_ddiv, r_dcmpl, r_dup, r_dup2, r_pop, r_one_int, r_one_ref, r_go, r_if, r_ic, r_tsw, r_lsw, r_sw0, r_swc, r_lk0, r_lkc, r_kp, r_gI, r_gL, r_gR, r_pI, r_pZ, r_pL, r_pR, r_gs, r_ia, r_ca, r_za, r_la, r_da, r_aa, r_ias, r_cas, r_zas, r_las, r_das, r_aas, r_acp, r_new, r_nwa, r_nwq, r_ret, r_irt, r_zrt, r_lrt, r_drt, r_art, r_thr, r_cV0, r_cV1, r_cV2, r_cV3, r_cV4, r_cV5, r_cI0, r_cS0, r_cS1, r_cS2, r_cS3, r_cX0, r_cX1, r_cX2, r_cX3, r_rc, r_oi, r_refx, r_i10, r_i01, r_rfs, r_mem0, r_memc, r_beq, r_kl0, r_klz, r_kl1i, r_kl1r, r_kl1n, r_kl1l, r_kl1d, List.length_cons, List.length_nil, List.getElem?_cons_zero, List.getElem?_cons_succ, List.set_cons_zero, List.set_cons_succ, true_and, and_true, not_true, not_false_eq_true, false_implies, true_implies, or_true, true_or, or_false, false_or, Bool.or_false, Bool.false_or, decide_false, decide_true, Nat.reduceLT, Nat.reduceLeDiff, Nat.reduceAdd, Nat.reduceSub, ↓reduceIte, Nat.reduceEqDiff, Nat.lt_add_one]
  have e1 : (2 : Int32) * zI i + zI w = zI ((2 * i + w : Nat) : Int) := by rw [l_2, z_mul, z_add]; congr 1
  rw [e1, z_nat (by omega), Int.toNat_natCast, l_0, z_eq (by omega) (by omega)]
  refine ⟨fun q => ⟨⟨18, t10, z_in (by omega) (by omega) (by decide)⟩, ?_⟩, fun q => ⟨⟨10, t11, z_in (by omega) ?_ (by decide)⟩, ?_⟩⟩
  · have e : s_kt kd (2 * i + w) = (mz_KICKS.getD (2 * i + w) 0).toInt := by unfold s_kt; rw [if_neg (by omega)]
    rw [e, ← z_of] at w29
    rw [c3 _ (by omega)]; exact w29
  · have : kd = 0 := by omega
    subst this
    have : s_km 0 = 5 := rfl
    omega
  · have e0 : kd = 0 := by omega
    subst e0
    have : s_km 0 = 5 := rfl
    have e : s_kt 0 (2 * i + w) = (mz_LONGS.getD (2 * i + w) 0).toInt := rfl
    rw [e, ← z_of] at w29
    rw [c4 _ (by omega)]; exact w29
theorem n_220 : (220 : Int32).toNatClampNeg = 220 := rfl
theorem n_221 : (221 : Int32).toNatClampNeg = 221 := rfl
theorem n_222 : (222 : Int32).toNatClampNeg = 222 := rfl
theorem n_223 : (223 : Int32).toNatClampNeg = 223 := rfl
theorem n_224 : (224 : Int32).toNatClampNeg = 224 := rfl
theorem n_225 : (225 : Int32).toNatClampNeg = 225 := rfl
theorem n_226 : (226 : Int32).toNatClampNeg = 226 := rfl
theorem n_227 : (227 : Int32).toNatClampNeg = 227 := rfl
theorem n_228 : (228 : Int32).toNatClampNeg = 228 := rfl
theorem n_229 : (229 : Int32).toNatClampNeg = 229 := rfl
theorem n_230 : (230 : Int32).toNatClampNeg = 230 := rfl
theorem n_231 : (231 : Int32).toNatClampNeg = 231 := rfl
theorem n_232 : (232 : Int32).toNatClampNeg = 232 := rfl
theorem n_233 : (233 : Int32).toNatClampNeg = 233 := rfl
theorem n_234 : (234 : Int32).toNatClampNeg = 234 := rfl
theorem n_235 : (235 : Int32).toNatClampNeg = 235 := rfl
theorem n_236 : (236 : Int32).toNatClampNeg = 236 := rfl
theorem n_237 : (237 : Int32).toNatClampNeg = 237 := rfl
theorem n_238 : (238 : Int32).toNatClampNeg = 238 := rfl
theorem n_239 : (239 : Int32).toNatClampNeg = 239 := rfl
theorem n_240 : (240 : Int32).toNatClampNeg = 240 := rfl
theorem n_241 : (241 : Int32).toNatClampNeg = 241 := rfl
theorem n_242 : (242 : Int32).toNatClampNeg = 242 := rfl
theorem n_243 : (243 : Int32).toNatClampNeg = 243 := rfl
theorem n_244 : (244 : Int32).toNatClampNeg = 244 := rfl
theorem n_245 : (245 : Int32).toNatClampNeg = 245 := rfl
theorem n_246 : (246 : Int32).toNatClampNeg = 246 := rfl
theorem n_247 : (247 : Int32).toNatClampNeg = 247 := rfl
theorem n_248 : (248 : Int32).toNatClampNeg = 248 := rfl
theorem n_249 : (249 : Int32).toNatClampNeg = 249 := rfl
theorem n_250 : (250 : Int32).toNatClampNeg = 250 := rfl
theorem n_251 : (251 : Int32).toNatClampNeg = 251 := rfl
theorem n_252 : (252 : Int32).toNatClampNeg = 252 := rfl
theorem n_253 : (253 : Int32).toNatClampNeg = 253 := rfl
theorem n_254 : (254 : Int32).toNatClampNeg = 254 := rfl
theorem n_255 : (255 : Int32).toNatClampNeg = 255 := rfl
theorem n_256 : (256 : Int32).toNatClampNeg = 256 := rfl
theorem n_257 : (257 : Int32).toNatClampNeg = 257 := rfl
theorem n_258 : (258 : Int32).toNatClampNeg = 258 := rfl
theorem n_259 : (259 : Int32).toNatClampNeg = 259 := rfl
theorem n_260 : (260 : Int32).toNatClampNeg = 260 := rfl
theorem n_261 : (261 : Int32).toNatClampNeg = 261 := rfl
theorem n_262 : (262 : Int32).toNatClampNeg = 262 := rfl
theorem n_263 : (263 : Int32).toNatClampNeg = 263 := rfl
theorem n_264 : (264 : Int32).toNatClampNeg = 264 := rfl
theorem n_265 : (265 : Int32).toNatClampNeg = 265 := rfl
theorem n_266 : (266 : Int32).toNatClampNeg = 266 := rfl
theorem n_267 : (267 : Int32).toNatClampNeg = 267 := rfl
theorem n_ix {T : mz_T} {a n kd : Nat} (i : Nat) (h : (a, kd, n) ∈ T.1) (hi : i < n) (hn : n < 1073741824) : mz_ix T kd a (zI (i : Int)) := ⟨n, h, z_in (by omega) (by omega) hn⟩
theorem ix_220 {T : mz_T} {a : Nat} (h : (a, 1, 268) ∈ T.1) : mz_ix T 1 a 220 = True := eq_true (n_ix 220 h (by decide) (by decide))
theorem ix_221 {T : mz_T} {a : Nat} (h : (a, 1, 268) ∈ T.1) : mz_ix T 1 a 221 = True := eq_true (n_ix 221 h (by decide) (by decide))
theorem ix_222 {T : mz_T} {a : Nat} (h : (a, 1, 268) ∈ T.1) : mz_ix T 1 a 222 = True := eq_true (n_ix 222 h (by decide) (by decide))
theorem ix_223 {T : mz_T} {a : Nat} (h : (a, 1, 268) ∈ T.1) : mz_ix T 1 a 223 = True := eq_true (n_ix 223 h (by decide) (by decide))
theorem ix_224 {T : mz_T} {a : Nat} (h : (a, 1, 268) ∈ T.1) : mz_ix T 1 a 224 = True := eq_true (n_ix 224 h (by decide) (by decide))
theorem ix_225 {T : mz_T} {a : Nat} (h : (a, 1, 268) ∈ T.1) : mz_ix T 1 a 225 = True := eq_true (n_ix 225 h (by decide) (by decide))
theorem ix_226 {T : mz_T} {a : Nat} (h : (a, 1, 268) ∈ T.1) : mz_ix T 1 a 226 = True := eq_true (n_ix 226 h (by decide) (by decide))
theorem ix_227 {T : mz_T} {a : Nat} (h : (a, 1, 268) ∈ T.1) : mz_ix T 1 a 227 = True := eq_true (n_ix 227 h (by decide) (by decide))
theorem ix_228 {T : mz_T} {a : Nat} (h : (a, 1, 268) ∈ T.1) : mz_ix T 1 a 228 = True := eq_true (n_ix 228 h (by decide) (by decide))
theorem ix_229 {T : mz_T} {a : Nat} (h : (a, 1, 268) ∈ T.1) : mz_ix T 1 a 229 = True := eq_true (n_ix 229 h (by decide) (by decide))
theorem ix_230 {T : mz_T} {a : Nat} (h : (a, 1, 268) ∈ T.1) : mz_ix T 1 a 230 = True := eq_true (n_ix 230 h (by decide) (by decide))
theorem ix_231 {T : mz_T} {a : Nat} (h : (a, 1, 268) ∈ T.1) : mz_ix T 1 a 231 = True := eq_true (n_ix 231 h (by decide) (by decide))
theorem ix_232 {T : mz_T} {a : Nat} (h : (a, 1, 268) ∈ T.1) : mz_ix T 1 a 232 = True := eq_true (n_ix 232 h (by decide) (by decide))
theorem ix_233 {T : mz_T} {a : Nat} (h : (a, 1, 268) ∈ T.1) : mz_ix T 1 a 233 = True := eq_true (n_ix 233 h (by decide) (by decide))
theorem ix_234 {T : mz_T} {a : Nat} (h : (a, 1, 268) ∈ T.1) : mz_ix T 1 a 234 = True := eq_true (n_ix 234 h (by decide) (by decide))
theorem ix_235 {T : mz_T} {a : Nat} (h : (a, 1, 268) ∈ T.1) : mz_ix T 1 a 235 = True := eq_true (n_ix 235 h (by decide) (by decide))
theorem ix_236 {T : mz_T} {a : Nat} (h : (a, 1, 268) ∈ T.1) : mz_ix T 1 a 236 = True := eq_true (n_ix 236 h (by decide) (by decide))
theorem ix_237 {T : mz_T} {a : Nat} (h : (a, 1, 268) ∈ T.1) : mz_ix T 1 a 237 = True := eq_true (n_ix 237 h (by decide) (by decide))
theorem ix_238 {T : mz_T} {a : Nat} (h : (a, 1, 268) ∈ T.1) : mz_ix T 1 a 238 = True := eq_true (n_ix 238 h (by decide) (by decide))
theorem ix_239 {T : mz_T} {a : Nat} (h : (a, 1, 268) ∈ T.1) : mz_ix T 1 a 239 = True := eq_true (n_ix 239 h (by decide) (by decide))
theorem ix_240 {T : mz_T} {a : Nat} (h : (a, 1, 268) ∈ T.1) : mz_ix T 1 a 240 = True := eq_true (n_ix 240 h (by decide) (by decide))
theorem ix_241 {T : mz_T} {a : Nat} (h : (a, 1, 268) ∈ T.1) : mz_ix T 1 a 241 = True := eq_true (n_ix 241 h (by decide) (by decide))
theorem ix_242 {T : mz_T} {a : Nat} (h : (a, 1, 268) ∈ T.1) : mz_ix T 1 a 242 = True := eq_true (n_ix 242 h (by decide) (by decide))
theorem ix_243 {T : mz_T} {a : Nat} (h : (a, 1, 268) ∈ T.1) : mz_ix T 1 a 243 = True := eq_true (n_ix 243 h (by decide) (by decide))
theorem ix_244 {T : mz_T} {a : Nat} (h : (a, 1, 268) ∈ T.1) : mz_ix T 1 a 244 = True := eq_true (n_ix 244 h (by decide) (by decide))
theorem ix_245 {T : mz_T} {a : Nat} (h : (a, 1, 268) ∈ T.1) : mz_ix T 1 a 245 = True := eq_true (n_ix 245 h (by decide) (by decide))
theorem ix_246 {T : mz_T} {a : Nat} (h : (a, 1, 268) ∈ T.1) : mz_ix T 1 a 246 = True := eq_true (n_ix 246 h (by decide) (by decide))
theorem ix_247 {T : mz_T} {a : Nat} (h : (a, 1, 268) ∈ T.1) : mz_ix T 1 a 247 = True := eq_true (n_ix 247 h (by decide) (by decide))
theorem ix_248 {T : mz_T} {a : Nat} (h : (a, 1, 268) ∈ T.1) : mz_ix T 1 a 248 = True := eq_true (n_ix 248 h (by decide) (by decide))
theorem ix_249 {T : mz_T} {a : Nat} (h : (a, 1, 268) ∈ T.1) : mz_ix T 1 a 249 = True := eq_true (n_ix 249 h (by decide) (by decide))
theorem ix_250 {T : mz_T} {a : Nat} (h : (a, 1, 268) ∈ T.1) : mz_ix T 1 a 250 = True := eq_true (n_ix 250 h (by decide) (by decide))
theorem ix_251 {T : mz_T} {a : Nat} (h : (a, 1, 268) ∈ T.1) : mz_ix T 1 a 251 = True := eq_true (n_ix 251 h (by decide) (by decide))
theorem ix_252 {T : mz_T} {a : Nat} (h : (a, 1, 268) ∈ T.1) : mz_ix T 1 a 252 = True := eq_true (n_ix 252 h (by decide) (by decide))
theorem ix_253 {T : mz_T} {a : Nat} (h : (a, 1, 268) ∈ T.1) : mz_ix T 1 a 253 = True := eq_true (n_ix 253 h (by decide) (by decide))
theorem ix_254 {T : mz_T} {a : Nat} (h : (a, 1, 268) ∈ T.1) : mz_ix T 1 a 254 = True := eq_true (n_ix 254 h (by decide) (by decide))
theorem ix_255 {T : mz_T} {a : Nat} (h : (a, 1, 268) ∈ T.1) : mz_ix T 1 a 255 = True := eq_true (n_ix 255 h (by decide) (by decide))
theorem ix_256 {T : mz_T} {a : Nat} (h : (a, 1, 268) ∈ T.1) : mz_ix T 1 a 256 = True := eq_true (n_ix 256 h (by decide) (by decide))
theorem ix_257 {T : mz_T} {a : Nat} (h : (a, 1, 268) ∈ T.1) : mz_ix T 1 a 257 = True := eq_true (n_ix 257 h (by decide) (by decide))
theorem ix_258 {T : mz_T} {a : Nat} (h : (a, 1, 268) ∈ T.1) : mz_ix T 1 a 258 = True := eq_true (n_ix 258 h (by decide) (by decide))
theorem ix_259 {T : mz_T} {a : Nat} (h : (a, 1, 268) ∈ T.1) : mz_ix T 1 a 259 = True := eq_true (n_ix 259 h (by decide) (by decide))
theorem ix_260 {T : mz_T} {a : Nat} (h : (a, 1, 268) ∈ T.1) : mz_ix T 1 a 260 = True := eq_true (n_ix 260 h (by decide) (by decide))
theorem ix_261 {T : mz_T} {a : Nat} (h : (a, 1, 268) ∈ T.1) : mz_ix T 1 a 261 = True := eq_true (n_ix 261 h (by decide) (by decide))
theorem ix_262 {T : mz_T} {a : Nat} (h : (a, 1, 268) ∈ T.1) : mz_ix T 1 a 262 = True := eq_true (n_ix 262 h (by decide) (by decide))
theorem ix_263 {T : mz_T} {a : Nat} (h : (a, 1, 268) ∈ T.1) : mz_ix T 1 a 263 = True := eq_true (n_ix 263 h (by decide) (by decide))
theorem ix_264 {T : mz_T} {a : Nat} (h : (a, 1, 268) ∈ T.1) : mz_ix T 1 a 264 = True := eq_true (n_ix 264 h (by decide) (by decide))
theorem ix_265 {T : mz_T} {a : Nat} (h : (a, 1, 268) ∈ T.1) : mz_ix T 1 a 265 = True := eq_true (n_ix 265 h (by decide) (by decide))
theorem ix_266 {T : mz_T} {a : Nat} (h : (a, 1, 268) ∈ T.1) : mz_ix T 1 a 266 = True := eq_true (n_ix 266 h (by decide) (by decide))
theorem ix_267 {T : mz_T} {a : Nat} (h : (a, 1, 268) ∈ T.1) : mz_ix T 1 a 267 = True := eq_true (n_ix 267 h (by decide) (by decide))
theorem m_u_at {m : Nat → Int32} {k j : Nat} {v : Int32} : m_u m k v j = if j = k then v else m j := rfl
theorem c_settlesM {D : Nat → Nat} {could : Bool} (hM : p_Mo T D) (h : ∀ I', fr I I' [D 1] → I' (D 1) = o_settles (I (D 1)) could (I (D 2) 1) → K none T I' L) : mz_Ctr G M_X12_settles [.ref (D 0), .int (b2i could)] T I L K := by
  refine mz_apartC fun hU => ?_
  obtain ⟨h0, ⟨r1, r2, -⟩, ⟨t1, t2, -⟩, -⟩ := id hM
  have ne : D 2 ≠ D 1 := mz_ne hU t2 t1 (by decide)
  have w42 : ∀ (I1 : mz_I), fr I I1 [D 1] → I1 (D 1) = o_set1 (I (D 1)) could (I (D 2) 1) → mz_W G M_X12_settles K mz_nX 42 [some (.ref (D 0)), some (.int (b2i could))] [] T I1 L (0, 0) := by
    intro I1 f1 e1
    refine mz_vc ok_X12_settles [] [(), (), (), (), (), (), (), (), (), (), (), (), (), (), (), (), (), (), (), (), (), (), (), (), (), (), (), (), (), ()] ?_
    simp only [cd_X12_settles, h0, r1, r2, ix_225 t1, n_225, ix_227 t1, n_227, ix_228 t1, n_228, ix_230 t1, n_230, tn_1, r_rn0, r_rnc, r_vk0, r_vkc, r_vks, r_kci, r_kcv, r_ild, r_ald, r_lld, r_dld, r_Li, r_La, r_Ll, r_Ld, r_Ki, r_Ka, r_Kl, r_Kd, r_Kn, r_ist, r_ast, r_lst, r_dst, r_iinc, r_int, r_lng, r_dbl, r_i2, r_i1, r_l2, r_lsh, r_i2z, r_l2z, r_i2l, r_l2i, r_i2d, r_lcmp, r_ddiv, r_dcmpl, r_dup, r_dup2, r_pop, r_one_int, r_one_ref, r_go, r_if, r_ic, r_tsw, r_lsw, r_sw0, r_swc, r_lk0, r_lkc, r_kp, r_gI, r_gL, r_gR, r_pI, r_pZ, r_pL, r_pR, r_gs, r_ia, r_ca, r_za, r_la, r_da, r_aa, r_ias, r_cas, r_zas, r_las, r_das, r_aas, r_acp, r_new, r_nwa, r_nwq, r_ret, r_irt, r_zrt, r_lrt, r_drt, r_art, r_thr, r_cV0, r_cV1, r_cV2, r_cV3, r_cV4, r_cV5, r_cI0, r_cS0, r_cS1, r_cS2, r_cS3, r_cX0, r_cX1, r_cX2, r_cX3, r_rc, r_oi, r_refx, r_i10, r_i01, r_rfs, r_mem0, r_memc, r_beq, r_kl0, r_klz, r_kl1i, r_kl1r, r_kl1n, r_kl1l, r_kl1d, List.length_cons, List.length_nil, List.getElem?_cons_zero, List.getElem?_cons_succ, List.set_cons_zero, List.set_cons_succ, true_and, and_true, not_true, not_false_eq_true, false_implies, true_implies, or_true, true_or, or_false, false_or, Bool.or_false, Bool.false_or, decide_false, decide_true, Nat.reduceLT, Nat.reduceLeDiff, Nat.reduceAdd, Nat.reduceSub, ↓reduceIte, Nat.reduceEqDiff, Nat.lt_add_one]
    refine ⟨fun q => ?_, fun q => ?_⟩
    · refine h I1 f1 ?_
      unfold o_settles o_set2
      rw [← e1, if_neg (Int32.not_lt.mpr q)]
    · refine h _ ?_ ?_
      · exact fr_u2 (fr_u2 (fr_u2 f1 (by simp)) (by simp)) (by simp)
      · unfold o_settles o_set2
        rw [← e1, if_pos (Int32.not_le.mp q), mz_u_row, mz_u_row, mz_u_row]
  refine mz_ofl mk_X12_settles rfl (Nat.le_of_ble_eq_true rfl) (Nat.le_of_ble_eq_true rfl) [some (.ref (D 0)), some (.int (b2i could))] rfl ?_
  refine mz_vc ok_X12_settles [42] [(), (), (), (), (), (), (), (), (), (), (), (), (), (), (), (), (), (), (), (), (), (), (), (), (), (), (), (), (), ()] ?_
  simp only [cd_X12_settles, h0, r1, r2, ix_225 t1, n_225, ix_227 t1, n_227, ix_228 t1, n_228, ix_230 t1, n_230, tn_1, b2i_0, r_rn0, r_rnc, r_vk0, r_vkc, r_vks, r_kci, r_kcv, r_ild, r_ald, r_lld, r_dld, r_Li, r_La, r_Ll, r_Ld, r_Ki, r_Ka, r_Kl, r_Kd, r_Kn, r_ist, r_ast, r_lst, r_dst, r_iinc, r_int, r_lng, r_dbl, r_i2, r_i1, r_l2, r_lsh, r_i2z, r_l2z, r_i2l, r_l2i, r_i2d, r_lcmp, r_ddiv, r_dcmpl, r_dup, r_dup2, r_pop, r_one_int, r_one_ref, r_go, r_if, r_ic, r_tsw, r_lsw, r_sw0, r_swc, r_lk0, r_lkc, r_kp, r_gI, r_gL, r_gR, r_pI, r_pZ, r_pL, r_pR, r_gs, r_ia, r_ca, r_za, r_la, r_da, r_aa, r_ias, r_cas, r_zas, r_las, r_das, r_aas, r_acp, r_new, r_nwa, r_nwq, r_ret, r_irt, r_zrt, r_lrt, r_drt, r_art, r_thr, r_cV0, r_cV1, r_cV2, r_cV3, r_cV4, r_cV5, r_cI0, r_cS0, r_cS1, r_cS2, r_cS3, r_cX0, r_cX1, r_cX2, r_cX3, r_rc, r_oi, r_refx, r_i10, r_i01, r_rfs, r_mem0, r_memc, r_beq, r_kl0, r_klz, r_kl1i, r_kl1r, r_kl1n, r_kl1l, r_kl1d, List.length_cons, List.length_nil, List.getElem?_cons_zero, List.getElem?_cons_succ, List.set_cons_zero, List.set_cons_succ, true_and, and_true, not_true, not_false_eq_true, false_implies, true_implies, or_true, true_or, or_false, false_or, Bool.or_false, Bool.false_or, decide_false, decide_true, Nat.reduceLT, Nat.reduceLeDiff, Nat.reduceAdd, Nat.reduceSub, ↓reduceIte, Nat.reduceEqDiff, Nat.lt_add_one]
  refine ⟨fun q => ?_, fun q => ?_⟩
  · refine w42 I fr_refl ?_
    unfold o_set1
    rw [if_neg (fun e => q e.1)]
  · have q : could = false := by simpa using q
    refine ⟨n_ix 1 t2 (by decide) (by decide), fun q2 => ?_, fun q2 => ?_⟩
    · refine w42 I fr_refl ?_
      unfold o_set1
      rw [if_neg (fun e => Int32.not_lt.mpr q2 e.2)]
    · refine w42 _ ?_ ?_
      · exact fr_u2 (fr_u2 fr_refl (by simp)) (by simp)
      · unfold o_set1
        rw [if_pos ⟨q, Int32.not_le.mp q2⟩, mz_u_row, mz_u_row, m_u_ne (by decide)]
theorem in_pos {g : Nat → Int32} (h : d_pos g) : d_pos (o_in g) ∧ ∀ dc dr, m_fit (o_in g) dc dr = m_fit g dc dr := by
  have e : ∀ j, j ≠ 229 → o_in g j = g j := fun j q => m_u_ne q
  obtain ⟨e1, e2, e3, e4, e5⟩ := m_same (m := g) (m' := o_in g) (fun j hj => e j (by omega))
  exact ⟨d_pos_cg h (fun j a b => e j (by omega)), fun dc dr => by unfold m_fit; rw [e1, e2, e3, e4, e5]⟩
theorem p_Mc_fr {I' : mz_I} {D : Nat → Nat} {S : List Nat} (h : p_Mc I D) (hf : fr I I' S) (h1 : D 8 ∉ S ∧ D 9 ∉ S ∧ D 10 ∉ S ∧ D 11 ∉ S ∧ D 12 ∉ S) : p_Mc I' D := by
  obtain ⟨a, b, c, d, e⟩ := h1
  unfold p_Mc
  rw [hf _ a, hf _ b, hf _ c, hf _ d, hf _ e]
  exact h
theorem Mc_ne {D : Nat → Nat} (hU : ∀ a x y, (a, x) ∈ T.1 → (a, y) ∈ T.1 → x = y) (hM : p_Mo T D) {S : List Nat} (hS : ∀ a, a ∈ S → ∃ x, (a, x) ∈ T.1 ∧ x ≠ (1, 7) ∧ x ≠ (1, 56) ∧ x ≠ (1, 18) ∧ x ≠ (1, 10) ∧ x ≠ (1, 15)) : D 8 ∉ S ∧ D 9 ∉ S ∧ D 10 ∉ S ∧ D 11 ∉ S ∧ D 12 ∉ S := by
  obtain ⟨-, -, ⟨t1, t2, t3, t5, t6, t8, t9, t10, t11, t12, -⟩, -⟩ := hM
  refine ⟨fun q => ?_, fun q => ?_, fun q => ?_, fun q => ?_, fun q => ?_⟩
  · obtain ⟨x, hx, n1, n2, n3, n4, n5⟩ := hS _ q; exact n1 (hU _ _ _ hx t8)
  · obtain ⟨x, hx, n1, n2, n3, n4, n5⟩ := hS _ q; exact n2 (hU _ _ _ hx t9)
  · obtain ⟨x, hx, n1, n2, n3, n4, n5⟩ := hS _ q; exact n3 (hU _ _ _ hx t10)
  · obtain ⟨x, hx, n1, n2, n3, n4, n5⟩ := hS _ q; exact n4 (hU _ _ _ hx t11)
  · obtain ⟨x, hx, n1, n2, n3, n4, n5⟩ := hS _ q; exact n5 (hU _ _ _ hx t12)
theorem Mc_1 {D : Nat → Nat} {I' : mz_I} (hU : ∀ a x y, (a, x) ∈ T.1 → (a, y) ∈ T.1 → x = y) (hM : p_Mo T D) (h : p_Mc I D) (hf : fr I I' [D 1]) : p_Mc I' D := p_Mc_fr h hf (Mc_ne hU hM (fun a ha => by
  rw [List.mem_singleton.mp ha]
  exact ⟨_, hM.2.2.1.1, by decide, by decide, by decide, by decide, by decide⟩))
theorem c_shiftsM {D : Nat → Nat} {d : Int} (hM : p_Mo T D) (hC : p_Mc I D) (hp : d_pos (I (D 1))) (hd : d = -1 ∨ d = 1) (h : ∀ I', fr I I' [D 1] → I' (D 1) = o_shift (I (D 1)) d (I (D 2) 1) → K (some (.int (b2i (m_fit (I (D 1)) d 0)))) T I' L) : mz_Ctr G M_X12_shifts [.ref (D 0), .int (zI d)] T I L K := by
  refine mz_apartC fun hU => ?_
  obtain ⟨h0, ⟨r1, r2, -⟩, ⟨t1, t2, -⟩, -⟩ := id hM
  have ne : D 2 ≠ D 1 := mz_ne hU t2 t1 (by decide)
  obtain ⟨hp1, hfi⟩ := in_pos hp
  obtain ⟨⟨q1, q2, q3, q4⟩, hk, hs, hc, hr⟩ := id hp
  refine mz_ofl mk_X12_shifts rfl (Nat.le_of_ble_eq_true rfl) (Nat.le_of_ble_eq_true rfl) [some (.ref (D 0)), some (.int (zI d)), none] rfl ?_
  refine mz_vc ok_X12_shifts [] [(), (), (), (), (), (), (), (), (), (), (), (), (), (), (), (), (), (), (), (), (), (), (), (), (), (), (), (), (), ()] ?_
  simp only [cd_X12_shifts, h0, r1, ix_224 t1, n_224, ix_225 t1, n_225, ix_229 t1, n_229, ix_231 t1, n_231, r_rn0, r_rnc, r_vk0, r_vkc, r_vks, r_kci, r_kcv, r_ild, r_ald, r_lld, r_dld, r_Li, r_La, r_Ll, r_Ld, r_Ki, r_Ka, r_Kl, r_Kd, r_Kn, r_ist, r_ast, r_lst, r_dst, r_iinc, r_int, r_lng, r_dbl, r_i2, r_i1, r_l2, r_lsh, r_i2z, r_l2z, r_i2l, r_l2i, r_i2d, r_lcmp, r_ddiv, r_dcmpl, r_dup, r_dup2, r_pop, r_one_int, r_one_ref, r_go, r_if, r_ic, r_tsw, r_lsw, r_sw0, r_swc, r_lk0, r_lkc, r_kp, r_gI, r_gL, r_gR, r_pI, r_pZ, r_pL, r_pR, r_gs, r_ia, r_ca, r_za, r_la, r_da, r_aa, r_ias, r_cas, r_zas, r_las, r_das, r_aas, r_acp, r_new, r_nwa, r_nwq, r_ret, r_irt, r_zrt, r_lrt, r_drt, r_art, r_thr, r_cV0, r_cV1, r_cV2, r_cV3, r_cV4, r_cV5, r_cI0, r_cS0, r_cS1, r_cS2, r_cS3, r_cX0, r_cX1, r_cX2, r_cX3, r_rc, r_oi, r_refx, r_i10, r_i01, r_rfs, r_mem0, r_memc, r_beq, r_kl0, r_klz, r_kl1i, r_kl1r, r_kl1n, r_kl1l, r_kl1d, List.length_cons, List.length_nil, List.getElem?_cons_zero, List.getElem?_cons_succ, List.set_cons_zero, List.set_cons_succ, true_and, and_true, not_true, not_false_eq_true, false_implies, true_implies, or_true, true_or, or_false, false_or, Bool.or_false, Bool.false_or, decide_false, decide_true, Nat.reduceLT, Nat.reduceLeDiff, Nat.reduceAdd, Nat.reduceSub, ↓reduceIte, Nat.reduceEqDiff, Nat.lt_add_one]
  have er : mz_u I (D 1) 229 (I (D 1) 229 + 1) (D 1) = o_in (I (D 1)) := mz_u_row
  have f1 : fr I (mz_u I (D 1) 229 (I (D 1) 229 + 1)) [D 1] := fr_u
  have hC1 := Mc_1 hU hM hC f1
  refine c_canFallM hM hC1 (by rw [er]; exact hp1) ?_
  rw [er, hfi]
  have e5 := m_same (m := I (D 1)) (m' := o_in (I (D 1))) (fun j hj => m_u_ne (by omega))
  simp only [cd_X12_shifts, h0, r1, ix_224 t1, n_224, ix_225 t1, n_225, ix_229 t1, n_229, ix_231 t1, n_231, er, r_rn0, r_rnc, r_vk0, r_vkc, r_vks, r_kci, r_kcv, r_ild, r_ald, r_lld, r_dld, r_Li, r_La, r_Ll, r_Ld, r_Ki, r_Ka, r_Kl, r_Kd, r_Kn, r_ist, r_ast, r_lst, r_dst, r_iinc, r_int, r_lng, r_dbl, r_i2, r_i1, r_l2, r_lsh, r_i2z, r_l2z, r_i2l, r_l2i, r_i2d, r_lcmp, r_ddiv, r_dcmpl, r_dup, r_dup2, r_pop, r_one_int, r_one_ref, r_go, r_if, r_ic, r_tsw, r_lsw, r_sw0, r_swc, r_lk0, r_lkc, r_kp, r_gI, r_gL, r_gR, r_pI, r_pZ, r_pL, r_pR, r_gs, r_ia, r_ca, r_za, r_la, r_da, r_aa, r_ias, r_cas, r_zas, r_las, r_das, r_aas, r_acp, r_new, r_nwa, r_nwq, r_ret, r_irt, r_zrt, r_lrt, r_drt, r_art, r_thr, r_cV0, r_cV1, r_cV2, r_cV3, r_cV4, r_cV5, r_cI0, r_cS0, r_cS1, r_cS2, r_cS3, r_cX0, r_cX1, r_cX2, r_cX3, r_rc, r_oi, r_refx, r_i10, r_i01, r_rfs, r_mem0, r_memc, r_beq, r_kl0, r_klz, r_kl1i, r_kl1r, r_kl1n, r_kl1l, r_kl1d, List.length_cons, List.length_nil, List.getElem?_cons_zero, List.getElem?_cons_succ, List.set_cons_zero, List.set_cons_succ, true_and, and_true, not_true, not_false_eq_true, false_implies, true_implies, or_true, true_or, or_false, false_or, Bool.or_false, Bool.false_or, decide_false, decide_true, Nat.reduceLT, Nat.reduceLeDiff, Nat.reduceAdd, Nat.reduceSub, ↓reduceIte, Nat.reduceEqDiff, Nat.lt_add_one]
  rw [show o_in (I (D 1)) 224 = zI (m_c (I (D 1))) from q3, show o_in (I (D 1)) 225 = zI (m_r (I (D 1))) from q4, z_add]
  refine c_fitsAtM hM hC1 (by rw [er]; exact hp1) (by omega) (by omega) ?_
  rw [er, e5.1, e5.2.1, e5.2.2.2.2]
  have em : s_fit (s_fm (I (D 1))) (m_kd (I (D 1))) (m_st (I (D 1))) (m_c (I (D 1)) + d) (m_r (I (D 1))) = m_fit (I (D 1)) d 0 := by unfold m_fit; rw [Int.add_zero]
  rw [em]
  unfold o_shift at h
  simp only [cd_X12_shifts, h0, r1, ix_224 t1, n_224, ix_225 t1, n_225, ix_229 t1, n_229, ix_231 t1, n_231, b2i_0, er, r_rn0, r_rnc, r_vk0, r_vkc, r_vks, r_kci, r_kcv, r_ild, r_ald, r_lld, r_dld, r_Li, r_La, r_Ll, r_Ld, r_Ki, r_Ka, r_Kl, r_Kd, r_Kn, r_ist, r_ast, r_lst, r_dst, r_iinc, r_int, r_lng, r_dbl, r_i2, r_i1, r_l2, r_lsh, r_i2z, r_l2z, r_i2l, r_l2i, r_i2d, r_lcmp, r_ddiv, r_dcmpl, r_dup, r_dup2, r_pop, r_one_int, r_one_ref, r_go, r_if, r_ic, r_tsw, r_lsw, r_sw0, r_swc, r_lk0, r_lkc, r_kp, r_gI, r_gL, r_gR, r_pI, r_pZ, r_pL, r_pR, r_gs, r_ia, r_ca, r_za, r_la, r_da, r_aa, r_ias, r_cas, r_zas, r_las, r_das, r_aas, r_acp, r_new, r_nwa, r_nwq, r_ret, r_irt, r_zrt, r_lrt, r_drt, r_art, r_thr, r_cV0, r_cV1, r_cV2, r_cV3, r_cV4, r_cV5, r_cI0, r_cS0, r_cS1, r_cS2, r_cS3, r_cX0, r_cX1, r_cX2, r_cX3, r_rc, r_oi, r_refx, r_i10, r_i01, r_rfs, r_mem0, r_memc, r_beq, r_kl0, r_klz, r_kl1i, r_kl1r, r_kl1n, r_kl1l, r_kl1d, List.length_cons, List.length_nil, List.getElem?_cons_zero, List.getElem?_cons_succ, List.set_cons_zero, List.set_cons_succ, true_and, and_true, not_true, not_false_eq_true, false_implies, true_implies, or_true, true_or, or_false, false_or, Bool.or_false, Bool.false_or, decide_false, decide_true, Nat.reduceLT, Nat.reduceLeDiff, Nat.reduceAdd, Nat.reduceSub, ↓reduceIte, Nat.reduceEqDiff, Nat.lt_add_one]
  refine ⟨fun q => ?_, fun q => ?_⟩
  · have q : m_fit (I (D 1)) d 0 = true := by simpa using q
    rw [if_pos q, q] at h
    refine c_settlesM hM (fun I' f2 e2 => ?_)
    simp only [cd_X12_shifts, h0, r1, ix_224 t1, n_224, ix_225 t1, n_225, ix_229 t1, n_229, ix_231 t1, n_231, r_rn0, r_rnc, r_vk0, r_vkc, r_vks, r_kci, r_kcv, r_ild, r_ald, r_lld, r_dld, r_Li, r_La, r_Ll, r_Ld, r_Ki, r_Ka, r_Kl, r_Kd, r_Kn, r_ist, r_ast, r_lst, r_dst, r_iinc, r_int, r_lng, r_dbl, r_i2, r_i1, r_l2, r_lsh, r_i2z, r_l2z, r_i2l, r_l2i, r_i2d, r_lcmp, r_ddiv, r_dcmpl, r_dup, r_dup2, r_pop, r_one_int, r_one_ref, r_go, r_if, r_ic, r_tsw, r_lsw, r_sw0, r_swc, r_lk0, r_lkc, r_kp, r_gI, r_gL, r_gR, r_pI, r_pZ, r_pL, r_pR, r_gs, r_ia, r_ca, r_za, r_la, r_da, r_aa, r_ias, r_cas, r_zas, r_las, r_das, r_aas, r_acp, r_new, r_nwa, r_nwq, r_ret, r_irt, r_zrt, r_lrt, r_drt, r_art, r_thr, r_cV0, r_cV1, r_cV2, r_cV3, r_cV4, r_cV5, r_cI0, r_cS0, r_cS1, r_cS2, r_cS3, r_cX0, r_cX1, r_cX2, r_cX3, r_rc, r_oi, r_refx, r_i10, r_i01, r_rfs, r_mem0, r_memc, r_beq, r_kl0, r_klz, r_kl1i, r_kl1r, r_kl1n, r_kl1l, r_kl1d, List.length_cons, List.length_nil, List.getElem?_cons_zero, List.getElem?_cons_succ, List.set_cons_zero, List.set_cons_succ, true_and, and_true, not_true, not_false_eq_true, false_implies, true_implies, or_true, true_or, or_false, false_or, Bool.or_false, Bool.false_or, decide_false, decide_true, Nat.reduceLT, Nat.reduceLeDiff, Nat.reduceAdd, Nat.reduceSub, ↓reduceIte, Nat.reduceEqDiff, Nat.lt_add_one]
    refine h I' ?_ ?_
    · exact fr_tr1 (fr_u2 (fr_u2 f1 (by simp)) (by simp)) f2 (fun _ q => q)
    · rw [e2, mz_u_row, mz_u_row, er, mz_u_ne ne, mz_u_ne ne, mz_u_ne ne]
      rw [show o_in (I (D 1)) 224 = I (D 1) 224 from m_u_ne (by decide)]
  · have q : m_fit (I (D 1)) d 0 = false := by simpa using q
    rw [if_neg (by rw [q]; decide), q] at h
    exact h _ f1 er
end MODM
