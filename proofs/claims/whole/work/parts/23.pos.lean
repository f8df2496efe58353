/-! Position: where a piece stands -/
section POS
variable {G : mz_G} {K : mz_K} {T : mz_T} {I : mz_I} {L : mz_L}
/-- the j-th cell of a kind in a state, as 10 times the row plus the column in its box -/
def s_cell (kd s j : Nat) : Nat := (mz_CELLS.getD ((kd * 4 + s) * 4 + j) 0).toNatClampNeg
theorem s_cells : ∀ n, n < 112 → mz_CELLS.getD n 0 = zI ((mz_CELLS.getD n 0).toNatClampNeg : Int) ∧ (mz_CELLS.getD n 0).toNatClampNeg < 33 ∧ (mz_CELLS.getD n 0).toNatClampNeg % 10 < 4 := by decide +kernel
theorem s_cell_lt {kd s j : Nat} (hk : kd < 7) (hs : s < 4) (hj : j < 4) : s_cell kd s j < 33 ∧ s_cell kd s j % 10 < 4 := ⟨(s_cells _ (by omega)).2.1, (s_cells _ (by omega)).2.2⟩
/-- a position: an object, kind, state, column, row -/
def p_Pos (T : mz_T) (I : mz_I) (p kd s : Nat) (c r : Int) : Prop := (p, 0, 8) ∈ T.1 ∧ I p 0 = zI kd ∧ I p 1 = zI s ∧ I p 2 = zI c ∧ I p 3 = zI r ∧ kd < 7 ∧ s < 4 ∧ (-100 ≤ c ∧ c ≤ 100) ∧ (-100 ≤ r ∧ r ≤ 100)
/-- the piece fits -/
def s_fit (e : Nat → Bool) (kd s : Nat) (c r : Int) : Bool := (List.range 4).all (fun j => !s_at e (c + (s_cell kd s j % 10 : Nat)) (r + (s_cell kd s j / 10 : Nat)))
theorem s_fit_t {e : Nat → Bool} {kd s : Nat} {c r : Int} : s_fit e kd s c r = true ↔ ∀ j, j < 4 → s_at e (c + (s_cell kd s j % 10 : Nat)) (r + (s_cell kd s j / 10 : Nat)) = false := by
  simp [s_fit]
theorem s_fit_f {e : Nat → Bool} {kd s : Nat} {c r : Int} (j : Nat) (hj : j < 4) (h : s_at e (c + (s_cell kd s j % 10 : Nat)) (r + (s_cell kd s j / 10 : Nat)) = true) : s_fit e kd s c r = false := by
  cases hq : s_fit e kd s c r with
  | false => rfl
  | true => rw [s_fit_t.mp hq j hj] at h; cases h
theorem z_at0 {G : mz_G} {n : Nat} (hn : n < 112) : mz_rf G 0 (zI (n : Int)).toNatClampNeg = zI ((mz_CELLS.getD n 0).toNatClampNeg : Int) := by
  rw [z_nat (by omega), show ((n : Nat) : Int).toNat = n from rfl]
  exact (s_cells n hn).1
theorem z_in0 {G : mz_G} {n : Nat} (hn : n < 112) : vp_in (zI (n : Int)) (mz_rn G 0) := show vp_in (zI (n : Int)) 112 from z_in (by omega) (by omega) (by decide)
theorem c_cellOf {kd s j : Nat} (hk : kd < 7) (hs : s < 4) (hj : j < 4) (h : K (some (.int (zI (s_cell kd s j : Nat)))) T I L) : mz_Ctr G M_X8_cellOf [.int (zI kd), .int (zI s), .int (zI j)] T I L K := by
  refine mz_ofl mk_X8_cellOf rfl (Nat.le_of_ble_eq_true rfl) (Nat.le_of_ble_eq_true rfl) [some (.int (zI kd)), some (.int (zI s)), some (.int (zI j)), none] rfl ?_
  refine mz_vc ok_X8_cellOf [] [(), (), (), (), (), (), (), (), (), (), (), (), (), (), (), (), (), (), (), (), (), (), (), (), (), (), (), (), (), ()] ?_
  simp only [cd_X8_cellOf, r_rn0, r_rnc, r_vk0, r_vkc, r_vks, r_kci, r_kcv, r_ild, r_ald, r_lld, r_dld, r_Li, r_La, r_Ll, r_Ld, r_Ki, r_Ka, r_Kl, r_Kd, r_Kn, r_ist, r_ast, r_lst, r_dst, r_iinc, r_int, r_lng, r_dbl, r_i2, r_i1, r_l2, r_lsh, r_i2z, r_l2z, r_i2l, r_l2i, r_i2d, r_lcmp, r_ddiv, r_dcmpl, r_dup, r_dup2, r_pop, r_one_int, r_one_ref, r_go, r_if, r_ic, r_tsw, r_lsw, r_sw0, r_swc, r_lk0, r_lkc, r_kp, r_gI, r_gL, r_gR, r_pI, r_pZ, r_pL, r_pR, r_gs, r_ia, r_ca, r_za, r_la, r_da, r_aa, r_ias, r_cas, r_zas, r_las, r_das, r_aas, r_acp, r_new, r_nwa, r_nwq, r_ret, r_irt, r_zrt, r_lrt, r_drt, r_art, r_thr, r_cV0, r_cV1, r_cV2, r_cV3, r_cV4, r_cV5, r_cI0, r_cS0, r_cS1, r_cS2, r_cS3, r_cX0, r_cX1, r_cX2, r_cX3, r_rc, r_oi, r_refx, r_i10, r_i01, r_rfs, r_mem0, r_memc, r_beq, r_kl0, r_klz, r_kl1i, r_kl1r, r_kl1n, r_kl1l, r_kl1d, List.length_cons, List.length_nil, List.getElem?_cons_zero, List.getElem?_cons_succ, List.set_cons_zero, List.set_cons_succ, true_and, and_true, not_true, not_false_eq_true, false_implies, true_implies, or_true, true_or, or_false, false_or, Bool.or_false, Bool.false_or, decide_false, decide_true, Nat.reduceLT, Nat.reduceLeDiff, Nat.reduceAdd, Nat.reduceSub, ↓reduceIte, Nat.reduceEqDiff, Nat.lt_add_one]
  rw [show ((zI kd * 4 + zI s) * 4 + zI j) = zI (((kd * 4 + s) * 4 + j : Nat) : Int) by rw [l_4, z_mul, z_add, z_mul, z_add]; rfl]
  refine ⟨fun q => ?_, fun _ => ?_⟩
  · rw [l_0, z_lt (by omega) (by omega)] at q; omega
  refine r_leq (q := 0) (by decide) ?_
  simp only [cd_X8_cellOf, r_rn0, r_rnc, r_vk0, r_vkc, r_vks, r_kci, r_kcv, r_ild, r_ald, r_lld, r_dld, r_Li, r_La, r_Ll, r_Ld, r_Ki, r_Ka, r_Kl, r_Kd, r_Kn, r_ist, r_ast, r_lst, r_dst, r_iinc, r_int, r_lng, r_dbl, r_i2, r_i1, r_l2, r_lsh, r_i2z, r_l2z, r_i2l, r_l2i, r_i2d, r_lcmp, r_ddiv, r_dcmpl, r_dup, r_dup2, r_pop, r_one_int, r_one_ref, r_go, r_if, r_ic, r_tsw, r_lsw, r_sw0, r_swc, r_lk0, r_lkc, r_kp, r_gI, r_gL, r_gR, r_pI, r_pZ, r_pL, r_pR, r_gs, r_ia, r_ca, r_za, r_la, r_da, r_aa, r_ias, r_cas, r_zas, r_las, r_das, r_aas, r_acp, r_new, r_nwa, r_nwq, r_ret, r_irt, r_zrt, r_lrt, r_drt, r_art, r_thr, r_cV0, r_cV1, r_cV2, r_cV3, r_cV4, r_cV5, r_cI0, r_cS0, r_cS1, r_cS2, r_cS3, r_cX0, r_cX1, r_cX2, r_cX3, r_rc, r_oi, r_refx, r_i10, r_i01, r_rfs, r_mem0, r_memc, r_beq, r_kl0, r_klz, r_kl1i, r_kl1r, r_kl1n, r_kl1l, r_kl1d, List.length_cons, List.length_nil, List.getElem?_cons_zero, List.getElem?_cons_succ, List.set_cons_zero, List.set_cons_succ, true_and, and_true, not_true, not_false_eq_true, false_implies, true_implies, or_true, true_or, or_false, false_or, Bool.or_false, Bool.false_or, decide_false, decide_true, Nat.reduceLT, Nat.reduceLeDiff, Nat.reduceAdd, Nat.reduceSub, ↓reduceIte, Nat.reduceEqDiff, Nat.lt_add_one]
  rw [show Int32.ofNat (mz_rn G 0) = zI (112 : Int) from rfl]
  refine ⟨fun q => ?_, fun _ => ?_⟩
  · rw [z_le (by omega) (by omega)] at q; omega
  refine r_iaq (q := 0) (by decide) ⟨z_in0 (by omega), ?_⟩
  simp only [cd_X8_cellOf, r_rn0, r_rnc, r_vk0, r_vkc, r_vks, r_kci, r_kcv, r_ild, r_ald, r_lld, r_dld, r_Li, r_La, r_Ll, r_Ld, r_Ki, r_Ka, r_Kl, r_Kd, r_Kn, r_ist, r_ast, r_lst, r_dst, r_iinc, r_int, r_lng, r_dbl, r_i2, r_i1, r_l2, r_lsh, r_i2z, r_l2z, r_i2l, r_l2i, r_i2d, r_lcmp, r_ddiv, r_dcmpl, r_dup, r_dup2, r_pop, r_one_int, r_one_ref, r_go, r_if, r_ic, r_tsw, r_lsw, r_sw0, r_swc, r_lk0, r_lkc, r_kp, r_gI, r_gL, r_gR, r_pI, r_pZ, r_pL, r_pR, r_gs, r_ia, r_ca, r_za, r_la, r_da, r_aa, r_ias, r_cas, r_zas, r_las, r_das, r_aas, r_acp, r_new, r_nwa, r_nwq, r_ret, r_irt, r_zrt, r_lrt, r_drt, r_art, r_thr, r_cV0, r_cV1, r_cV2, r_cV3, r_cV4, r_cV5, r_cI0, r_cS0, r_cS1, r_cS2, r_cS3, r_cX0, r_cX1, r_cX2, r_cX3, r_rc, r_oi, r_refx, r_i10, r_i01, r_rfs, r_mem0, r_memc, r_beq, r_kl0, r_klz, r_kl1i, r_kl1r, r_kl1n, r_kl1l, r_kl1d, List.length_cons, List.length_nil, List.getElem?_cons_zero, List.getElem?_cons_succ, List.set_cons_zero, List.set_cons_succ, true_and, and_true, not_true, not_false_eq_true, false_implies, true_implies, or_true, true_or, or_false, false_or, Bool.or_false, Bool.false_or, decide_false, decide_true, Nat.reduceLT, Nat.reduceLeDiff, Nat.reduceAdd, Nat.reduceSub, ↓reduceIte, Nat.reduceEqDiff, Nat.lt_add_one]
  rw [z_at0 (by omega)]
  exact h
theorem c_cell0 {kd s : Nat} (hk : kd < 7) (hs : s < 4) (h : K (some (.int (zI (s_cell kd s 0 : Nat)))) T I L) : mz_Ctr G M_X8_cellOf [.int (zI kd), .int (zI s), .int 0] T I L K := c_cellOf (j := 0) hk hs (by decide) h
theorem c_cellAt {p kd s j : Nat} {c r : Int} (hp : p_Pos T I p kd s c r) (hj : j < 4) (h : K (some (.int (zI (r * 10 + c + s_cell kd s j)))) T I L) : mz_Ctr G M_X8_cellAt [.ref p, .int (zI j)] T I L K := by
  refine mz_ofl mk_X8_cellAt rfl (Nat.le_of_ble_eq_true rfl) (Nat.le_of_ble_eq_true rfl) [some (.ref p), some (.int (zI j))] rfl ?_
  obtain ⟨h1, h2, h3, h4, h5, hk, hs, hc, hr⟩ := id hp
  refine mz_vc ok_X8_cellAt [] [(), (), (), (), (), (), (), (), (), (), (), (), (), (), (), (), (), (), (), (), (), (), (), (), (), (), (), (), (), ()] ?_
  simp only [cd_X8_cellAt, h1, h2, h3, h4, h5, r_rn0, r_rnc, r_vk0, r_vkc, r_vks, r_kci, r_kcv, r_ild, r_ald, r_lld, r_dld, r_Li, r_La, r_Ll, r_Ld, r_Ki, r_Ka, r_Kl, r_Kd, r_Kn, r_ist, r_ast, r_lst, r_dst, r_iinc, r_int, r_lng, r_dbl, r_i2, r_i1, r_l2, r_lsh, r_i2z, r_l2z, r_i2l, r_l2i, r_i2d, r_lcmp, r_ddiv, r_dcmpl, r_dup, r_dup2, r_pop, r_one_int, r_one_ref, r_go, r_if, r_ic, r_tsw, r_lsw, r_sw0, r_swc, r_lk0, r_lkc, r_kp, r_gI, r_gL, r_gR, r_pI, r_pZ, r_pL, r_pR, r_gs, r_ia, r_ca, r_za, r_la, r_da, r_aa, r_ias, r_cas, r_zas, r_las, r_das, r_aas, r_acp, r_new, r_nwa, r_nwq, r_ret, r_irt, r_zrt, r_lrt, r_drt, r_art, r_thr, r_cV0, r_cV1, r_cV2, r_cV3, r_cV4, r_cV5, r_cI0, r_cS0, r_cS1, r_cS2, r_cS3, r_cX0, r_cX1, r_cX2, r_cX3, r_rc, r_oi, r_refx, r_i10, r_i01, r_rfs, r_mem0, r_memc, r_beq, r_kl0, r_klz, r_kl1i, r_kl1r, r_kl1n, r_kl1l, r_kl1d, List.length_cons, List.length_nil, List.getElem?_cons_zero, List.getElem?_cons_succ, List.set_cons_zero, List.set_cons_succ, true_and, and_true, not_true, not_false_eq_true, false_implies, true_implies, or_true, true_or, or_false, false_or, Bool.or_false, Bool.false_or, decide_false, decide_true, Nat.reduceLT, Nat.reduceLeDiff, Nat.reduceAdd, Nat.reduceSub, ↓reduceIte, Nat.reduceEqDiff, Nat.lt_add_one]
  refine c_cellOf hk hs hj ?_
  simp only [cd_X8_cellAt, h1, h2, h3, h4, h5, r_rn0, r_rnc, r_vk0, r_vkc, r_vks, r_kci, r_kcv, r_ild, r_ald, r_lld, r_dld, r_Li, r_La, r_Ll, r_Ld, r_Ki, r_Ka, r_Kl, r_Kd, r_Kn, r_ist, r_ast, r_lst, r_dst, r_iinc, r_int, r_lng, r_dbl, r_i2, r_i1, r_l2, r_lsh, r_i2z, r_l2z, r_i2l, r_l2i, r_i2d, r_lcmp, r_ddiv, r_dcmpl, r_dup, r_dup2, r_pop, r_one_int, r_one_ref, r_go, r_if, r_ic, r_tsw, r_lsw, r_sw0, r_swc, r_lk0, r_lkc, r_kp, r_gI, r_gL, r_gR, r_pI, r_pZ, r_pL, r_pR, r_gs, r_ia, r_ca, r_za, r_la, r_da, r_aa, r_ias, r_cas, r_zas, r_las, r_das, r_aas, r_acp, r_new, r_nwa, r_nwq, r_ret, r_irt, r_zrt, r_lrt, r_drt, r_art, r_thr, r_cV0, r_cV1, r_cV2, r_cV3, r_cV4, r_cV5, r_cI0, r_cS0, r_cS1, r_cS2, r_cS3, r_cX0, r_cX1, r_cX2, r_cX3, r_rc, r_oi, r_refx, r_i10, r_i01, r_rfs, r_mem0, r_memc, r_beq, r_kl0, r_klz, r_kl1i, r_kl1r, r_kl1n, r_kl1l, r_kl1d, List.length_cons, List.length_nil, List.getElem?_cons_zero, List.getElem?_cons_succ, List.set_cons_zero, List.set_cons_succ, true_and, and_true, not_true, not_false_eq_true, false_implies, true_implies, or_true, true_or, or_false, false_or, Bool.or_false, Bool.false_or, decide_false, decide_true, Nat.reduceLT, Nat.reduceLeDiff, Nat.reduceAdd, Nat.reduceSub, ↓reduceIte, Nat.reduceEqDiff, Nat.lt_add_one]
  rw [l_10, z_mul, z_add, z_add]
  exact h
theorem c_fits {p kd s f k : Nat} {c r : Int} (hp : p_Pos T I p kd s c r) (hf : p_Field T f k) (h : K (some (.int (b2i (s_fit (s_fl (I k)) kd s c r)))) T I L) : mz_Ctr G M_X8_fits [.ref p, .ref f] T I L K := by
  refine mz_ofl mk_X8_fits rfl (Nat.le_of_ble_eq_true rfl) (Nat.le_of_ble_eq_true rfl) [some (.ref p), some (.ref f), none, none] rfl ?_
  obtain ⟨h1, h2, h3, h4, h5, hk, hs, hc, hr⟩ := id hp
  obtain ⟨f1, f2, f3⟩ := id hf
  have key := mz_loop (N := 4) (fun n => (∀ j, j < n → s_at (s_fl (I k)) (c + (s_cell kd s j % 10 : Nat)) (r + (s_cell kd s j / 10 : Nat)) = false) → mz_W G M_X8_fits K mz_nX 2 [some (.ref p), some (.ref f), some (.int (zI (n : Nat))), none] [] T I L (0, 0)) ?_ ?_ 0 (Nat.zero_le _)
  · refine mz_vc ok_X8_fits [2] [(), (), (), (), (), (), (), (), (), (), (), (), (), (), (), (), (), (), (), (), (), (), (), (), (), (), (), (), (), ()] ?_
    simp only [cd_X8_fits, h1, h2, h3, f1, r_rn0, r_rnc, r_vk0, r_vkc, r_vks, r_kci, r_kcv, r_ild, r_ald, r_lld, r_dld, r_Li, r_La, r_Ll, r_Ld, r_Ki, r_Ka, r_Kl, r_Kd, r_Kn, r_ist, r_ast, r_lst, r_dst, r_iinc, r_int, r_lng, r_dbl, r_i2, r_i1, r_l2, r_lsh, r_i2z, r_l2z, r_i2l, r_l2i, r_i2d, r_lcmp, r_ddiv, r_dcmpl, r_dup, r_dup2, r_pop, r_one_int, r_one_ref, r_go, r_if, r_ic, r_tsw, r_lsw, r_sw0, r_swc, r_lk0, r_lkc, r_kp, r_gI, r_gL, r_gR, r_pI, r_pZ, r_pL, r_pR, r_gs, r_ia, r_ca, r_za, r_la, r_da, r_aa, r_ias, r_cas, r_zas, r_las, r_das, r_aas, r_acp, r_new, r_nwa, r_nwq, r_ret, r_irt, r_zrt, r_lrt, r_drt, r_art, r_thr, r_cV0, r_cV1, r_cV2, r_cV3, r_cV4, r_cV5, r_cI0, r_cS0, r_cS1, r_cS2, r_cS3, r_cX0, r_cX1, r_cX2, r_cX3, r_rc, r_oi, r_refx, r_i10, r_i01, r_rfs, r_mem0, r_memc, r_beq, r_kl0, r_klz, r_kl1i, r_kl1r, r_kl1n, r_kl1l, r_kl1d, List.length_cons, List.length_nil, List.getElem?_cons_zero, List.getElem?_cons_succ, List.set_cons_zero, List.set_cons_succ, true_and, and_true, not_true, not_false_eq_true, false_implies, true_implies, or_true, true_or, or_false, false_or, Bool.or_false, Bool.false_or, decide_false, decide_true, Nat.reduceLT, Nat.reduceLeDiff, Nat.reduceAdd, Nat.reduceSub, ↓reduceIte, Nat.reduceEqDiff, Nat.lt_add_one]
    exact key (fun i hi => absurd hi (Nat.not_lt_zero i))
  · intro hall
    refine mz_vc ok_X8_fits [2] [(), (), (), (), (), (), (), (), (), (), (), (), (), (), (), (), (), (), (), (), (), (), (), (), (), (), (), (), (), ()] ?_
    simp only [cd_X8_fits, h1, h2, h3, f1, r_rn0, r_rnc, r_vk0, r_vkc, r_vks, r_kci, r_kcv, r_ild, r_ald, r_lld, r_dld, r_Li, r_La, r_Ll, r_Ld, r_Ki, r_Ka, r_Kl, r_Kd, r_Kn, r_ist, r_ast, r_lst, r_dst, r_iinc, r_int, r_lng, r_dbl, r_i2, r_i1, r_l2, r_lsh, r_i2z, r_l2z, r_i2l, r_l2i, r_i2d, r_lcmp, r_ddiv, r_dcmpl, r_dup, r_dup2, r_pop, r_one_int, r_one_ref, r_go, r_if, r_ic, r_tsw, r_lsw, r_sw0, r_swc, r_lk0, r_lkc, r_kp, r_gI, r_gL, r_gR, r_pI, r_pZ, r_pL, r_pR, r_gs, r_ia, r_ca, r_za, r_la, r_da, r_aa, r_ias, r_cas, r_zas, r_las, r_das, r_aas, r_acp, r_new, r_nwa, r_nwq, r_ret, r_irt, r_zrt, r_lrt, r_drt, r_art, r_thr, r_cV0, r_cV1, r_cV2, r_cV3, r_cV4, r_cV5, r_cI0, r_cS0, r_cS1, r_cS2, r_cS3, r_cX0, r_cX1, r_cX2, r_cX3, r_rc, r_oi, r_refx, r_i10, r_i01, r_rfs, r_mem0, r_memc, r_beq, r_kl0, r_klz, r_kl1i, r_kl1r, r_kl1n, r_kl1l, r_kl1d, List.length_cons, List.length_nil, List.getElem?_cons_zero, List.getElem?_cons_succ, List.set_cons_zero, List.set_cons_succ, true_and, and_true, not_true, not_false_eq_true, false_implies, true_implies, or_true, true_or, or_false, false_or, Bool.or_false, Bool.false_or, decide_false, decide_true, Nat.reduceLT, Nat.reduceLeDiff, Nat.reduceAdd, Nat.reduceSub, ↓reduceIte, Nat.reduceEqDiff, Nat.lt_add_one]
    refine ⟨fun _ => ?_, fun q => absurd (by decide) q⟩
    rw [s_fit_t.mpr hall] at h; exact h
  · intro n hn ih hpre
    refine mz_vc ok_X8_fits [2] [(), (), (), (), (), (), (), (), (), (), (), (), (), (), (), (), (), (), (), (), (), (), (), (), (), (), (), (), (), ()] ?_
    simp only [cd_X8_fits, h1, h2, h3, h4, h5, f1, r_rn0, r_rnc, r_vk0, r_vkc, r_vks, r_kci, r_kcv, r_ild, r_ald, r_lld, r_dld, r_Li, r_La, r_Ll, r_Ld, r_Ki, r_Ka, r_Kl, r_Kd, r_Kn, r_ist, r_ast, r_lst, r_dst, r_iinc, r_int, r_lng, r_dbl, r_i2, r_i1, r_l2, r_lsh, r_i2z, r_l2z, r_i2l, r_l2i, r_i2d, r_lcmp, r_ddiv, r_dcmpl, r_dup, r_dup2, r_pop, r_one_int, r_one_ref, r_go, r_if, r_ic, r_tsw, r_lsw, r_sw0, r_swc, r_lk0, r_lkc, r_kp, r_gI, r_gL, r_gR, r_pI, r_pZ, r_pL, r_pR, r_gs, r_ia, r_ca, r_za, r_la, r_da, r_aa, r_ias, r_cas, r_zas, r_las, r_das, r_aas, r_acp, r_new, r_nwa, r_nwq, r_ret, r_irt, r_zrt, r_lrt, r_drt, r_art, r_thr, r_cV0, r_cV1, r_cV2, r_cV3, r_cV4, r_cV5, r_cI0, r_cS0, r_cS1, r_cS2, r_cS3, r_cX0, r_cX1, r_cX2, r_cX3, r_rc, r_oi, r_refx, r_i10, r_i01, r_rfs, r_mem0, r_memc, r_beq, r_kl0, r_klz, r_kl1i, r_kl1r, r_kl1n, r_kl1l, r_kl1d, List.length_cons, List.length_nil, List.getElem?_cons_zero, List.getElem?_cons_succ, List.set_cons_zero, List.set_cons_succ, true_and, and_true, not_true, not_false_eq_true, false_implies, true_implies, or_true, true_or, or_false, false_or, Bool.or_false, Bool.false_or, decide_false, decide_true, Nat.reduceLT, Nat.reduceLeDiff, Nat.reduceAdd, Nat.reduceSub, ↓reduceIte, Nat.reduceEqDiff, Nat.lt_add_one]
    refine ⟨z_no (b := 4) (by omega) (by omega) hn, fun _ => c_cellOf hk hs hn ?_⟩
    simp only [cd_X8_fits, h1, h2, h3, h4, h5, f1, r_rn0, r_rnc, r_vk0, r_vkc, r_vks, r_kci, r_kcv, r_ild, r_ald, r_lld, r_dld, r_Li, r_La, r_Ll, r_Ld, r_Ki, r_Ka, r_Kl, r_Kd, r_Kn, r_ist, r_ast, r_lst, r_dst, r_iinc, r_int, r_lng, r_dbl, r_i2, r_i1, r_l2, r_lsh, r_i2z, r_l2z, r_i2l, r_l2i, r_i2d, r_lcmp, r_ddiv, r_dcmpl, r_dup, r_dup2, r_pop, r_one_int, r_one_ref, r_go, r_if, r_ic, r_tsw, r_lsw, r_sw0, r_swc, r_lk0, r_lkc, r_kp, r_gI, r_gL, r_gR, r_pI, r_pZ, r_pL, r_pR, r_gs, r_ia, r_ca, r_za, r_la, r_da, r_aa, r_ias, r_cas, r_zas, r_las, r_das, r_aas, r_acp, r_new, r_nwa, r_nwq, r_ret, r_irt, r_zrt, r_lrt, r_drt, r_art, r_thr, r_cV0, r_cV1, r_cV2, r_cV3, r_cV4, r_cV5, r_cI0, r_cS0, r_cS1, r_cS2, r_cS3, r_cX0, r_cX1, r_cX2, r_cX3, r_rc, r_oi, r_refx, r_i10, r_i01, r_rfs, r_mem0, r_memc, r_beq, r_kl0, r_klz, r_kl1i, r_kl1r, r_kl1n, r_kl1l, r_kl1d, List.length_cons, List.length_nil, List.getElem?_cons_zero, List.getElem?_cons_succ, List.set_cons_zero, List.set_cons_succ, true_and, and_true, not_true, not_false_eq_true, false_implies, true_implies, or_true, true_or, or_false, false_or, Bool.or_false, Bool.false_or, decide_false, decide_true, Nat.reduceLT, Nat.reduceLeDiff, Nat.reduceAdd, Nat.reduceSub, ↓reduceIte, Nat.reduceEqDiff, Nat.lt_add_one]
    have hce := s_cell_lt (kd := kd) (s := s) (j := n) hk hs hn
    have e10 : ¬ (10 : Int32) = 0 := by decide
    refine ⟨e10, e10, ?_⟩
    rw [l_10, z_mod (by omega) (by omega), z_div (by omega) (by omega), z_add, z_add]
    rw [show ((s_cell kd s n : Nat) : Int) % 10 = ((s_cell kd s n % 10 : Nat) : Int) by omega, show ((s_cell kd s n : Nat) : Int) / 10 = ((s_cell kd s n / 10 : Nat) : Int) by omega]
    refine c_isFilled hf ?_ ?_ ?_
    · omega
    · omega
    simp only [cd_X8_fits, h1, b2i_0, r_rn0, r_rnc, r_vk0, r_vkc, r_vks, r_kci, r_kcv, r_ild, r_ald, r_lld, r_dld, r_Li, r_La, r_Ll, r_Ld, r_Ki, r_Ka, r_Kl, r_Kd, r_Kn, r_ist, r_ast, r_lst, r_dst, r_iinc, r_int, r_lng, r_dbl, r_i2, r_i1, r_l2, r_lsh, r_i2z, r_l2z, r_i2l, r_l2i, r_i2d, r_lcmp, r_ddiv, r_dcmpl, r_dup, r_dup2, r_pop, r_one_int, r_one_ref, r_go, r_if, r_ic, r_tsw, r_lsw, r_sw0, r_swc, r_lk0, r_lkc, r_kp, r_gI, r_gL, r_gR, r_pI, r_pZ, r_pL, r_pR, r_gs, r_ia, r_ca, r_za, r_la, r_da, r_aa, r_ias, r_cas, r_zas, r_las, r_das, r_aas, r_acp, r_new, r_nwa, r_nwq, r_ret, r_irt, r_zrt, r_lrt, r_drt, r_art, r_thr, r_cV0, r_cV1, r_cV2, r_cV3, r_cV4, r_cV5, r_cI0, r_cS0, r_cS1, r_cS2, r_cS3, r_cX0, r_cX1, r_cX2, r_cX3, r_rc, r_oi, r_refx, r_i10, r_i01, r_rfs, r_mem0, r_memc, r_beq, r_kl0, r_klz, r_kl1i, r_kl1r, r_kl1n, r_kl1l, r_kl1d, List.length_cons, List.length_nil, List.getElem?_cons_zero, List.getElem?_cons_succ, List.set_cons_zero, List.set_cons_succ, true_and, and_true, not_true, not_false_eq_true, false_implies, true_implies, or_true, true_or, or_false, false_or, Bool.or_false, Bool.false_or, decide_false, decide_true, Nat.reduceLT, Nat.reduceLeDiff, Nat.reduceAdd, Nat.reduceSub, ↓reduceIte, Nat.reduceEqDiff, Nat.lt_add_one]
    refine ⟨fun q => ?_, fun q => ?_⟩
    · rw [z_1]
      refine mz_forget (ih (fun j hj => ?_)) rfl (mz_fg_s (mz_fg_s (mz_fg_s (mz_fg_n mz_fg_0))))
      by_cases e : j = n
      · rw [e]; exact q
      · exact hpre j (by omega)
    · have q : s_at (s_fl (I k)) (c + (s_cell kd s n % 10 : Nat)) (r + (s_cell kd s n / 10 : Nat)) = true := by simpa using q
      rw [s_fit_f n hn q] at h; exact h
end POS
section POS2
variable {G : mz_G} {K : mz_K} {T : mz_T} {I : mz_I} {L : mz_L}
/-- addresses of unlike shapes are unlike -/
theorem mz_ne {T : mz_T} (hU : ∀ a x y, (a, x) ∈ T.1 → (a, y) ∈ T.1 → x = y) {a b : Nat} {x y : Nat × Nat} (ha : (a, x) ∈ T.1) (hb : (b, y) ∈ T.1) (h : x ≠ y) : a ≠ b := fun e => h (hU a x y ha (by rw [e]; exact hb))
theorem mz_apartC {M : mz_M} {av : List Value} (h : (∀ a x y, (a, x) ∈ T.1 → (a, y) ∈ T.1 → x = y) → mz_Ctr G M av T I L K) : mz_Ctr G M av T I L K := by
  intro hG p e ha hc hk s m args below hf happ hP hK
  exact h (fun _ _ _ h1 h2 => mz_uniq hP.2.1.2.1 h1 h2) hG p e ha hc hk s m args below hf happ hP hK
theorem p_Field_u {T : mz_T} {f k : Nat} (hf : p_Field T f k) : p_Field T f k := hf
/-- a position's number is set: it is one with that number -/
theorem p_Pos_c {p kd s : Nat} {c c' r : Int} (hp : p_Pos T I p kd s c r) (hc : -100 ≤ c' ∧ c' ≤ 100) : p_Pos T (mz_u I p 2 (zI c')) p kd s c' r := by
  obtain ⟨h1, h2, h3, h4, h5, hk, hs, _, hr⟩ := hp
  exact ⟨h1, by rw [mz_u_nk (by decide)]; exact h2, by rw [mz_u_nk (by decide)]; exact h3, mz_u_eq, by rw [mz_u_nk (by decide)]; exact h5, hk, hs, hc, hr⟩
theorem p_Pos_r {p kd s : Nat} {c r r' : Int} (hp : p_Pos T I p kd s c r) (hr : -100 ≤ r' ∧ r' ≤ 100) : p_Pos T (mz_u I p 3 (zI r')) p kd s c r' := by
  obtain ⟨h1, h2, h3, h4, h5, hk, hs, hc, _⟩ := hp
  exact ⟨h1, by rw [mz_u_nk (by decide)]; exact h2, by rw [mz_u_nk (by decide)]; exact h3, by rw [mz_u_nk (by decide)]; exact h4, mz_u_eq, hk, hs, hc, hr⟩
theorem p_Pos_s {p kd s s' : Nat} {c r : Int} (hp : p_Pos T I p kd s c r) (hs : s' < 4) : p_Pos T (mz_u I p 1 (zI s')) p kd s' c r := by
  obtain ⟨h1, h2, h3, h4, h5, hk, _, hc, hr⟩ := hp
  exact ⟨h1, by rw [mz_u_nk (by decide)]; exact h2, mz_u_eq, by rw [mz_u_nk (by decide)]; exact h4, by rw [mz_u_nk (by decide)]; exact h5, hk, hs, hc, hr⟩
/-- writes that come back -/
theorem mz_u_u {α : Type} {f : Nat → Nat → α} {a k : Nat} {v w : α} : mz_u (mz_u f a k v) a k w = mz_u f a k w := by
  funext b j
  rw [mz_u_at, mz_u_at, mz_u_at]
  by_cases h : b = a ∧ j = k <;> simp [h]
theorem mz_u_sw {α : Type} {f : Nat → Nat → α} {a b k l : Nat} {v w : α} (h : a ≠ b ∨ k ≠ l) : mz_u (mz_u f a k v) b l w = mz_u (mz_u f b l w) a k v := by
  funext x j
  rw [mz_u_at, mz_u_at, mz_u_at, mz_u_at]
  by_cases h1 : x = b ∧ j = l
  · have h2 : ¬(x = a ∧ j = k) := by
      rintro ⟨e1, e2⟩
      rcases h with h | h
      · exact h (e1.symm.trans h1.1)
      · exact h (e2.symm.trans h1.2)
    rw [if_pos h1, if_neg h2, if_pos h1]
  · rw [if_neg h1, if_neg h1]
theorem mz_u_id {α : Type} {f : Nat → Nat → α} {a k : Nat} {v : α} (h : f a k = v) : mz_u f a k v = f := by
  funext x j
  rw [mz_u_at]
  by_cases h1 : x = a ∧ j = k
  · obtain ⟨rfl, rfl⟩ := h1; simp [h]
  · simp [h1]
theorem c_canFall {p kd s f k : Nat} {c r : Int} (hp : p_Pos T I p kd s c r) (hf : p_Field T f k) (hr : -99 ≤ r) (h : K (some (.int (b2i (s_fit (s_fl (I k)) kd s c (r - 1))))) T I L) : mz_Ctr G M_X8_canFall [.ref p, .ref f] T I L K := by
  refine mz_apartC fun hU => ?_
  refine mz_ofl mk_X8_canFall rfl (Nat.le_of_ble_eq_true rfl) (Nat.le_of_ble_eq_true rfl) [some (.ref p), some (.ref f), none] rfl ?_
  obtain ⟨h1, h2, h3, h4, h5, hk, hs, hc, hr2⟩ := id hp
  obtain ⟨f1, f2, f3⟩ := id hf
  refine mz_vc ok_X8_canFall [] [(), (), (), (), (), (), (), (), (), (), (), (), (), (), (), (), (), (), (), (), (), (), (), (), (), (), (), (), (), ()] ?_
  simp only [cd_X8_canFall, h1, h5, r_rn0, r_rnc, r_vk0, r_vkc, r_vks, r_kci, r_kcv, r_ild, r_ald, r_lld, r_dld, r_Li, r_La, r_Ll, r_Ld, r_Ki, r_Ka, r_Kl, r_Kd, r_Kn, r_ist, r_ast, r_lst, r_dst, r_iinc, r_int, r_lng, r_dbl, r_i2, r_i1, r_l2, r_lsh, r_i2z, r_l2z, r_i2l, r_l2i, r_i2d, r_lcmp, r_ddiv, r_dcmpl, r_dup, r_dup2, r_pop, r_one_int, r_one_ref, r_go, r_if, r_ic, r_tsw, r_lsw, r_sw0, r_swc, r_lk0, r_lkc, r_kp, r_gI, r_gL, r_gR, r_pI, r_pZ, r_pL, r_pR, r_gs, r_ia, r_ca, r_za, r_la, r_da, r_aa, r_ias, r_cas, r_zas, r_las, r_das, r_aas, r_acp, r_new, r_nwa, r_nwq, r_ret, r_irt, r_zrt, r_lrt, r_drt, r_art, r_thr, r_cV0, r_cV1, r_cV2, r_cV3, r_cV4, r_cV5, r_cI0, r_cS0, r_cS1, r_cS2, r_cS3, r_cX0, r_cX1, r_cX2, r_cX3, r_rc, r_oi, r_refx, r_i10, r_i01, r_rfs, r_mem0, r_memc, r_beq, r_kl0, r_klz, r_kl1i, r_kl1r, r_kl1n, r_kl1l, r_kl1d, List.length_cons, List.length_nil, List.getElem?_cons_zero, List.getElem?_cons_succ, List.set_cons_zero, List.set_cons_succ, true_and, and_true, not_true, not_false_eq_true, false_implies, true_implies, or_true, true_or, or_false, false_or, Bool.or_false, Bool.false_or, decide_false, decide_true, Nat.reduceLT, Nat.reduceLeDiff, Nat.reduceAdd, Nat.reduceSub, ↓reduceIte, Nat.reduceEqDiff, Nat.lt_add_one]
  rw [l_1, z_sub]
  refine c_fits (p_Pos_r hp (by omega)) hf ?_
  have hne : k ≠ p := mz_ne hU f2 h1 (by decide)
  rw [mz_u_ne hne]
  simp only [cd_X8_canFall, h1, b2i_or, r_rn0, r_rnc, r_vk0, r_vkc, r_vks, r_kci, r_kcv, r_ild, r_ald, r_lld, r_dld, r_Li, r_La, r_Ll, r_Ld, r_Ki, r_Ka, r_Kl, r_Kd, r_Kn, r_ist, r_ast, r_lst, r_dst, r_iinc, r_int, r_lng, r_dbl, r_i2, r_i1, r_l2, r_lsh, r_i2z, r_l2z, r_i2l, r_l2i, r_i2d, r_lcmp, r_ddiv, r_dcmpl, r_dup, r_dup2, r_pop, r_one_int, r_one_ref, r_go, r_if, r_ic, r_tsw, r_lsw, r_sw0, r_swc, r_lk0, r_lkc, r_kp, r_gI, r_gL, r_gR, r_pI, r_pZ, r_pL, r_pR, r_gs, r_ia, r_ca, r_za, r_la, r_da, r_aa, r_ias, r_cas, r_zas, r_las, r_das, r_aas, r_acp, r_new, r_nwa, r_nwq, r_ret, r_irt, r_zrt, r_lrt, r_drt, r_art, r_thr, r_cV0, r_cV1, r_cV2, r_cV3, r_cV4, r_cV5, r_cI0, r_cS0, r_cS1, r_cS2, r_cS3, r_cX0, r_cX1, r_cX2, r_cX3, r_rc, r_oi, r_refx, r_i10, r_i01, r_rfs, r_mem0, r_memc, r_beq, r_kl0, r_klz, r_kl1i, r_kl1r, r_kl1n, r_kl1l, r_kl1d, List.length_cons, List.length_nil, List.getElem?_cons_zero, List.getElem?_cons_succ, List.set_cons_zero, List.set_cons_succ, true_and, and_true, not_true, not_false_eq_true, false_implies, true_implies, or_true, true_or, or_false, false_or, Bool.or_false, Bool.false_or, decide_false, decide_true, Nat.reduceLT, Nat.reduceLeDiff, Nat.reduceAdd, Nat.reduceSub, ↓reduceIte, Nat.reduceEqDiff, Nat.lt_add_one]
  rw [mz_u_eq, z_add, mz_u_u, show r - 1 + 1 = r by omega, mz_u_id h5]
  exact h
/-- the picture with a position moved -/
def s_mv (I : mz_I) (p : Nat) (c r : Int) : mz_I := mz_u (mz_u I p 2 (zI c)) p 3 (zI r)
theorem p_Pos_mv {p kd s : Nat} {c r c' r' : Int} (hp : p_Pos T I p kd s c r) (hc : -100 ≤ c' ∧ c' ≤ 100) (hr : -100 ≤ r' ∧ r' ≤ 100) : p_Pos T (s_mv I p c' r') p kd s c' r' := p_Pos_r (p_Pos_c hp hc) hr
theorem c_moveBy {p kd s f k : Nat} {c r dc dr : Int} (hp : p_Pos T I p kd s c r) (hf : p_Field T f k) (hc : -100 ≤ c + dc ∧ c + dc ≤ 100) (hr : -100 ≤ r + dr ∧ r + dr ≤ 100)
    (ht : s_fit (s_fl (I k)) kd s (c + dc) (r + dr) = true → K (some (.int 1)) T (s_mv I p (c + dc) (r + dr)) L) (hn : s_fit (s_fl (I k)) kd s (c + dc) (r + dr) = false → K (some (.int 0)) T I L) : mz_Ctr G M_X8_moveBy [.ref p, .int (zI dc), .int (zI dr), .ref f] T I L K := by
  refine mz_apartC fun hU => ?_
  refine mz_ofl mk_X8_moveBy rfl (Nat.le_of_ble_eq_true rfl) (Nat.le_of_ble_eq_true rfl) [some (.ref p), some (.int (zI dc)), some (.int (zI dr)), some (.ref f)] rfl ?_
  obtain ⟨h1, h2, h3, h4, h5, hk, hs, hc2, hr2⟩ := id hp
  obtain ⟨f1, f2, f3⟩ := id hf
  refine mz_vc ok_X8_moveBy [] [(), (), (), (), (), (), (), (), (), (), (), (), (), (), (), (), (), (), (), (), (), (), (), (), (), (), (), (), (), ()] ?_
  simp only [cd_X8_moveBy, h1, h4, r_rn0, r_rnc, r_vk0, r_vkc, r_vks, r_kci, r_kcv, r_ild, r_ald, r_lld, r_dld, r_Li, r_La, r_Ll, r_Ld, r_Ki, r_Ka, r_Kl, r_Kd, r_Kn, r_ist, r_ast, r_lst, r_dst, r_iinc, r_int, r_lng, r_dbl, r_i2, r_i1, r_l2, r_lsh, r_i2z, r_l2z, r_i2l, r_l2i, r_i2d, r_lcmp, r_ddiv, r_dcmpl, r_dup, r_dup2, r_pop, r_one_int, r_one_ref, r_go, r_if, r_ic, r_tsw, r_lsw, r_sw0, r_swc, r_lk0, r_lkc, r_kp, r_gI, r_gL, r_gR, r_pI, r_pZ, r_pL, r_pR, r_gs, r_ia, r_ca, r_za, r_la, r_da, r_aa, r_ias, r_cas, r_zas, r_las, r_das, r_aas, r_acp, r_new, r_nwa, r_nwq, r_ret, r_irt, r_zrt, r_lrt, r_drt, r_art, r_thr, r_cV0, r_cV1, r_cV2, r_cV3, r_cV4, r_cV5, r_cI0, r_cS0, r_cS1, r_cS2, r_cS3, r_cX0, r_cX1, r_cX2, r_cX3, r_rc, r_oi, r_refx, r_i10, r_i01, r_rfs, r_mem0, r_memc, r_beq, r_kl0, r_klz, r_kl1i, r_kl1r, r_kl1n, r_kl1l, r_kl1d, List.length_cons, List.length_nil, List.getElem?_cons_zero, List.getElem?_cons_succ, List.set_cons_zero, List.set_cons_succ, true_and, and_true, not_true, not_false_eq_true, false_implies, true_implies, or_true, true_or, or_false, false_or, Bool.or_false, Bool.false_or, decide_false, decide_true, Nat.reduceLT, Nat.reduceLeDiff, Nat.reduceAdd, Nat.reduceSub, ↓reduceIte, Nat.reduceEqDiff, Nat.lt_add_one]
  rw [mz_u_nk (show (3 : Nat) ≠ 2 by decide), h5, z_add, z_add]
  refine c_fits (p_Pos_mv hp hc hr) hf ?_
  have hne : k ≠ p := mz_ne hU f2 h1 (by decide)
  rw [mz_u_ne hne, mz_u_ne hne]
  simp only [cd_X8_moveBy, h1, b2i_0, r_rn0, r_rnc, r_vk0, r_vkc, r_vks, r_kci, r_kcv, r_ild, r_ald, r_lld, r_dld, r_Li, r_La, r_Ll, r_Ld, r_Ki, r_Ka, r_Kl, r_Kd, r_Kn, r_ist, r_ast, r_lst, r_dst, r_iinc, r_int, r_lng, r_dbl, r_i2, r_i1, r_l2, r_lsh, r_i2z, r_l2z, r_i2l, r_l2i, r_i2d, r_lcmp, r_ddiv, r_dcmpl, r_dup, r_dup2, r_pop, r_one_int, r_one_ref, r_go, r_if, r_ic, r_tsw, r_lsw, r_sw0, r_swc, r_lk0, r_lkc, r_kp, r_gI, r_gL, r_gR, r_pI, r_pZ, r_pL, r_pR, r_gs, r_ia, r_ca, r_za, r_la, r_da, r_aa, r_ias, r_cas, r_zas, r_las, r_das, r_aas, r_acp, r_new, r_nwa, r_nwq, r_ret, r_irt, r_zrt, r_lrt, r_drt, r_art, r_thr, r_cV0, r_cV1, r_cV2, r_cV3, r_cV4, r_cV5, r_cI0, r_cS0, r_cS1, r_cS2, r_cS3, r_cX0, r_cX1, r_cX2, r_cX3, r_rc, r_oi, r_refx, r_i10, r_i01, r_rfs, r_mem0, r_memc, r_beq, r_kl0, r_klz, r_kl1i, r_kl1r, r_kl1n, r_kl1l, r_kl1d, List.length_cons, List.length_nil, List.getElem?_cons_zero, List.getElem?_cons_succ, List.set_cons_zero, List.set_cons_succ, true_and, and_true, not_true, not_false_eq_true, false_implies, true_implies, or_true, true_or, or_false, false_or, Bool.or_false, Bool.false_or, decide_false, decide_true, Nat.reduceLT, Nat.reduceLeDiff, Nat.reduceAdd, Nat.reduceSub, ↓reduceIte, Nat.reduceEqDiff, Nat.lt_add_one]
  refine ⟨fun q => ?_, fun q => ht (by simpa using q)⟩
  have e : mz_u (mz_u (mz_u (mz_u I p 2 (zI (c + dc))) p 3 (zI (r + dr))) p 2 (mz_u (mz_u I p 2 (zI (c + dc))) p 3 (zI (r + dr)) p 2 - zI dc)) p 3 (mz_u (mz_u (mz_u I p 2 (zI (c + dc))) p 3 (zI (r + dr))) p 2 (mz_u (mz_u I p 2 (zI (c + dc))) p 3 (zI (r + dr)) p 2 - zI dc) p 3 - zI dr) = I := by
    rw [mz_u_nk (show (2 : Nat) ≠ 3 by decide), mz_u_eq, z_sub, mz_u_nk (show (3 : Nat) ≠ 2 by decide), mz_u_eq, z_sub, show c + dc - dc = c by omega, show r + dr - dr = r by omega]
    funext x j
    rw [mz_u_at, mz_u_at, mz_u_at, mz_u_at]
    by_cases h3 : x = p ∧ j = 3
    · rw [if_pos h3, h3.1, h3.2, h5]
    · rw [if_neg h3]
      by_cases h2 : x = p ∧ j = 2
      · rw [if_pos h2, h2.1, h2.2, h4]
      · rw [if_neg h2, if_neg h3, if_neg h2]
  rw [e]
  exact hn q
end POS2
