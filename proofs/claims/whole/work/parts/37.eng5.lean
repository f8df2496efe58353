/-! the engine: spins, and a piece moved -/
section ENG5
variable {G : mz_G} {K : mz_K} {T : mz_T} {I : mz_I} {L : mz_L}
def m_cc (m : Nat → Int32) : Nat → Nat
  | 0 => 0
  | n + 1 => m_cc m n + (if m_co m n then 1 else 0)
theorem m_cc_le {m : Nat → Int32} : ∀ n, m_cc m n ≤ n
  | 0 => Nat.le_refl 0
  | n + 1 => by unfold m_cc; have := m_cc_le (m := m) n; split <;> omega
def m_front (m : Nat → Int32) : Bool := m_co m (m_st m) && m_co m ((m_st m + 1) % 4)
def m_spin (m : Nat → Int32) : Nat := if m_kd m = 2 ∧ m 231 ≠ -1 then (if m_cc m 4 < 3 then 0 else if m_front m = true ∨ 4 ≤ m 231 then 2 else 1) else 0
theorem m_spin_le {m : Nat → Int32} : m_spin m ≤ 2 := by
  unfold m_spin
  split
  · split
    · omega
    · split <;> omega
  · omega
theorem c_findSpin {en : Nat} {A : z_A} {B : Nat} {m : Nat → Int32} (hE : p_E T en A) (h : p_R T I L A B m) (hl : m 221 = 0)
    (hk : K (some (.int (zI (m_spin m)))) T I L) : mz_Ctr G M_X1_findSpin [.ref en] T I L K := by
  obtain ⟨e1, e2⟩ := id hE
  obtain ⟨⟨g1, g2, g3, g4, g5⟩, hF, hX, hB9, hS⟩ := id h.sh
  obtain ⟨x1, x2, x3⟩ := id hX
  obtain ⟨hp, hq, hfit⟩ := h.now hl
  obtain ⟨p1, p2, p3, p4, p5, p6⟩ := id hp
  obtain ⟨hpc, -, -, -⟩ := h.live hl
  have hkd : m_kd m < 7 ∧ m_st m < 4 := ⟨p6.1, p6.2.1⟩
  have ek : I A.x 6 = m 231 := hpc 6 (by decide) (by decide)
  refine mz_ofl mk_X1_findSpin rfl (Nat.le_of_ble_eq_true rfl) (Nat.le_of_ble_eq_true rfl) [some (.ref en), none, none, none, none] rfl ?_
  by_cases hs : m_kd m = 2 ∧ m 231 ≠ -1
  · have esp : m_spin m = if m_cc m 4 < 3 then 0 else if m_front m = true ∨ 4 ≤ m 231 then 2 else 1 := if_pos hs
    have key := mz_loop (N := 4) (fun n => mz_W G M_X1_findSpin K mz_nX 33 [some (.ref en), some (.ref A.x), some (.int (zI (m_cc m n))), some (.int (zI n)), none] [] T I L (0, 0)) ?_ ?_ 0 (Nat.zero_le _)
    · refine mz_vc ok_X1_findSpin [33] [(), (), (), (), (), (), (), (), (), (), (), (), (), (), (), (), (), (), (), (), (), (), (), (), (), (), (), (), (), ()] ?_
      simp only [cd_X1_findSpin, e1, e2, g1, g3, x1, x2, x3, p2, p3, ek, r_rn0, r_rnc, r_vk0, r_vkc, r_vks, r_kci, r_kcv, r_ild, r_ald, r_lld, r_dld, r_Li, r_La, r_Ll, r_Ld, r_Ki, r_Ka, r_Kl, r_Kd, r_Kn, r_ist, r_ast, r_lst, r_dst, r_iinc, r_int, r_lng, r_dbl, r_i2, r_i1, r_l2, r_lsh, r_i2z, r_l2z, r_i2l, r_l2i, r_i2d, r_lcmp, r_ddiv, r_dcmpl, r_dup, r_dup2, r_pop, r_one_int, r_one_ref, r_go, r_if, r_ic, r_tsw, r_lsw, r_sw0, r_swc, r_lk0, r_lkc, r_kp, r_gI, r_gL, r_gR, r_pI, r_pZ, r_pL, r_pR, r_gs, r_ia, r_ca, r_za, r_la, r_da, r_aa, r_ias, r_cas, r_zas, r_las, r_das, r_aas, r_acp, r_new, r_nwa, r_nwq, r_ret, r_irt, r_zrt, r_lrt, r_drt, r_art, r_thr, r_cV0, r_cV1, r_cV2, r_cV3, r_cV4, r_cV5, r_cI0, r_cS0, r_cS1, r_cS2, r_cS3, r_cX0, r_cX1, r_cX2, r_cX3, r_rc, r_oi, r_refx, r_i10, r_i01, r_rfs, r_mem0, r_memc, r_beq, r_kl0, r_klz, r_kl1i, r_kl1r, r_kl1n, r_kl1l, r_kl1d, List.length_cons, List.length_nil, List.getElem?_cons_zero, List.getElem?_cons_succ, List.set_cons_zero, List.set_cons_succ, true_and, and_true, not_true, not_false_eq_true, false_implies, true_implies, or_true, true_or, or_false, false_or, Bool.or_false, Bool.false_or, decide_false, decide_true, Nat.reduceLT, Nat.reduceLeDiff, Nat.reduceAdd, Nat.reduceSub, ↓reduceIte, Nat.reduceEqDiff, Nat.lt_add_one]
      rw [l_2, z_eq (by omega) (by omega)]
      exact ⟨fun q => absurd q (by omega), fun _ => ⟨fun _ => key, fun q => absurd hs.2 q⟩⟩
    · have hc4 := m_cc_le (m := m) 4
      have fin : ∀ f : Bool, f = m_front m → ¬ m_cc m 4 < 3 → mz_W G M_X1_findSpin K mz_nX 95 [some (.ref en), some (.ref A.x), some (.int (zI (m_cc m 4))), some (.int (zI (m_st m))), none] [.int (b2i f)] T I L (0, 0) := by
        intro f hf h3
        rw [if_neg h3, ← hf] at esp
        refine mz_vc ok_X1_findSpin [33] [(), (), (), (), (), (), (), (), (), (), (), (), (), (), (), (), (), (), (), (), (), (), (), (), (), (), (), (), (), ()] ?_
        simp only [cd_X1_findSpin, e1, e2, g1, g3, x1, x2, x3, p2, p3, ek, b2i_0, r_rn0, r_rnc, r_vk0, r_vkc, r_vks, r_kci, r_kcv, r_ild, r_ald, r_lld, r_dld, r_Li, r_La, r_Ll, r_Ld, r_Ki, r_Ka, r_Kl, r_Kd, r_Kn, r_ist, r_ast, r_lst, r_dst, r_iinc, r_int, r_lng, r_dbl, r_i2, r_i1, r_l2, r_lsh, r_i2z, r_l2z, r_i2l, r_l2i, r_i2d, r_lcmp, r_ddiv, r_dcmpl, r_dup, r_dup2, r_pop, r_one_int, r_one_ref, r_go, r_if, r_ic, r_tsw, r_lsw, r_sw0, r_swc, r_lk0, r_lkc, r_kp, r_gI, r_gL, r_gR, r_pI, r_pZ, r_pL, r_pR, r_gs, r_ia, r_ca, r_za, r_la, r_da, r_aa, r_ias, r_cas, r_zas, r_las, r_das, r_aas, r_acp, r_new, r_nwa, r_nwq, r_ret, r_irt, r_zrt, r_lrt, r_drt, r_art, r_thr, r_cV0, r_cV1, r_cV2, r_cV3, r_cV4, r_cV5, r_cI0, r_cS0, r_cS1, r_cS2, r_cS3, r_cX0, r_cX1, r_cX2, r_cX3, r_rc, r_oi, r_refx, r_i10, r_i01, r_rfs, r_mem0, r_memc, r_beq, r_kl0, r_klz, r_kl1i, r_kl1r, r_kl1n, r_kl1l, r_kl1d, List.length_cons, List.length_nil, List.getElem?_cons_zero, List.getElem?_cons_succ, List.set_cons_zero, List.set_cons_succ, true_and, and_true, not_true, not_false_eq_true, false_implies, true_implies, or_true, true_or, or_false, false_or, Bool.or_false, Bool.false_or, decide_false, decide_true, Nat.reduceLT, Nat.reduceLeDiff, Nat.reduceAdd, Nat.reduceSub, ↓reduceIte, Nat.reduceEqDiff, Nat.lt_add_one]
        refine ⟨fun q => ?_, fun q => ⟨fun q2 => ?_, fun q2 => ?_⟩⟩
        · rw [esp, if_pos (Or.inl (by simpa using q))] at hk; exact hk
        · rw [esp, if_neg (fun e => by rcases e with e | e; exact q (by rw [e]; decide); rw [← Int32.not_lt] at e; exact e q2)] at hk; exact hk
        · rw [esp, if_pos (Or.inr (by rw [← Int32.not_lt]; exact q2))] at hk; exact hk
      refine mz_vc ok_X1_findSpin [33, 95] [(), (), (), (), (), (), (), (), (), (), (), (), (), (), (), (), (), (), (), (), (), (), (), (), (), (), (), (), (), ()] ?_
      simp only [cd_X1_findSpin, e1, e2, g1, g3, x1, x2, x3, p2, p3, ek, r_rn0, r_rnc, r_vk0, r_vkc, r_vks, r_kci, r_kcv, r_ild, r_ald, r_lld, r_dld, r_Li, r_La, r_Ll, r_Ld, r_Ki, r_Ka, r_Kl, r_Kd, r_Kn, r_ist, r_ast, r_lst, r_dst, r_iinc, r_int, r_lng, r_dbl, r_i2, r_i1, r_l2, r_lsh, r_i2z, r_l2z, r_i2l, r_l2i, r_i2d, r_lcmp, r_ddiv, r_dcmpl, r_dup, r_dup2, r_pop, r_one_int, r_one_ref, r_go, r_if, r_ic, r_tsw, r_lsw, r_sw0, r_swc, r_lk0, r_lkc, r_kp, r_gI, r_gL, r_gR, r_pI, r_pZ, r_pL, r_pR, r_gs, r_ia, r_ca, r_za, r_la, r_da, r_aa, r_ias, r_cas, r_zas, r_las, r_das, r_aas, r_acp, r_new, r_nwa, r_nwq, r_ret, r_irt, r_zrt, r_lrt, r_drt, r_art, r_thr, r_cV0, r_cV1, r_cV2, r_cV3, r_cV4, r_cV5, r_cI0, r_cS0, r_cS1, r_cS2, r_cS3, r_cX0, r_cX1, r_cX2, r_cX3, r_rc, r_oi, r_refx, r_i10, r_i01, r_rfs, r_mem0, r_memc, r_beq, r_kl0, r_klz, r_kl1i, r_kl1r, r_kl1n, r_kl1l, r_kl1d, List.length_cons, List.length_nil, List.getElem?_cons_zero, List.getElem?_cons_succ, List.set_cons_zero, List.set_cons_succ, true_and, and_true, not_true, not_false_eq_true, false_implies, true_implies, or_true, true_or, or_false, false_or, Bool.or_false, Bool.false_or, decide_false, decide_true, Nat.reduceLT, Nat.reduceLeDiff, Nat.reduceAdd, Nat.reduceSub, ↓reduceIte, Nat.reduceEqDiff, Nat.lt_add_one]
      refine ⟨fun _ => ?_, fun q => absurd (by decide) q⟩
      rw [l_3, z_le (by omega) (by omega)]
      refine ⟨fun q => ?_, fun q => ?_⟩
      · refine c_corner hE h hl hkd.2 ?_
        simp only [cd_X1_findSpin, e1, e2, g1, g3, x1, x2, x3, p2, p3, ek, b2i_0, r_rn0, r_rnc, r_vk0, r_vkc, r_vks, r_kci, r_kcv, r_ild, r_ald, r_lld, r_dld, r_Li, r_La, r_Ll, r_Ld, r_Ki, r_Ka, r_Kl, r_Kd, r_Kn, r_ist, r_ast, r_lst, r_dst, r_iinc, r_int, r_lng, r_dbl, r_i2, r_i1, r_l2, r_lsh, r_i2z, r_l2z, r_i2l, r_l2i, r_i2d, r_lcmp, r_ddiv, r_dcmpl, r_dup, r_dup2, r_pop, r_one_int, r_one_ref, r_go, r_if, r_ic, r_tsw, r_lsw, r_sw0, r_swc, r_lk0, r_lkc, r_kp, r_gI, r_gL, r_gR, r_pI, r_pZ, r_pL, r_pR, r_gs, r_ia, r_ca, r_za, r_la, r_da, r_aa, r_ias, r_cas, r_zas, r_las, r_das, r_aas, r_acp, r_new, r_nwa, r_nwq, r_ret, r_irt, r_zrt, r_lrt, r_drt, r_art, r_thr, r_cV0, r_cV1, r_cV2, r_cV3, r_cV4, r_cV5, r_cI0, r_cS0, r_cS1, r_cS2, r_cS3, r_cX0, r_cX1, r_cX2, r_cX3, r_rc, r_oi, r_refx, r_i10, r_i01, r_rfs, r_mem0, r_memc, r_beq, r_kl0, r_klz, r_kl1i, r_kl1r, r_kl1n, r_kl1l, r_kl1d, List.length_cons, List.length_nil, List.getElem?_cons_zero, List.getElem?_cons_succ, List.set_cons_zero, List.set_cons_succ, true_and, and_true, not_true, not_false_eq_true, false_implies, true_implies, or_true, true_or, or_false, false_or, Bool.or_false, Bool.false_or, decide_false, decide_true, Nat.reduceLT, Nat.reduceLeDiff, Nat.reduceAdd, Nat.reduceSub, ↓reduceIte, Nat.reduceEqDiff, Nat.lt_add_one]
        refine ⟨fun q2 => fin false (by unfold m_front; rw [q2]; rfl) (by omega), fun q2 => ⟨by decide, ?_⟩⟩
        rw [z_1, l_4, z_mod (by omega) (by omega), show ((m_st m + 1 : Nat) : Int) % 4 = ((m_st m + 1) % 4 : Nat) by omega]
        refine c_corner hE h hl (Nat.mod_lt _ (by decide)) ?_
        simp only [cd_X1_findSpin, e1, e2, g1, g3, x1, x2, x3, p2, p3, ek, b2i_0, r_rn0, r_rnc, r_vk0, r_vkc, r_vks, r_kci, r_kcv, r_ild, r_ald, r_lld, r_dld, r_Li, r_La, r_Ll, r_Ld, r_Ki, r_Ka, r_Kl, r_Kd, r_Kn, r_ist, r_ast, r_lst, r_dst, r_iinc, r_int, r_lng, r_dbl, r_i2, r_i1, r_l2, r_lsh, r_i2z, r_l2z, r_i2l, r_l2i, r_i2d, r_lcmp, r_ddiv, r_dcmpl, r_dup, r_dup2, r_pop, r_one_int, r_one_ref, r_go, r_if, r_ic, r_tsw, r_lsw, r_sw0, r_swc, r_lk0, r_lkc, r_kp, r_gI, r_gL, r_gR, r_pI, r_pZ, r_pL, r_pR, r_gs, r_ia, r_ca, r_za, r_la, r_da, r_aa, r_ias, r_cas, r_zas, r_las, r_das, r_aas, r_acp, r_new, r_nwa, r_nwq, r_ret, r_irt, r_zrt, r_lrt, r_drt, r_art, r_thr, r_cV0, r_cV1, r_cV2, r_cV3, r_cV4, r_cV5, r_cI0, r_cS0, r_cS1, r_cS2, r_cS3, r_cX0, r_cX1, r_cX2, r_cX3, r_rc, r_oi, r_refx, r_i10, r_i01, r_rfs, r_mem0, r_memc, r_beq, r_kl0, r_klz, r_kl1i, r_kl1r, r_kl1n, r_kl1l, r_kl1d, List.length_cons, List.length_nil, List.getElem?_cons_zero, List.getElem?_cons_succ, List.set_cons_zero, List.set_cons_succ, true_and, and_true, not_true, not_false_eq_true, false_implies, true_implies, or_true, true_or, or_false, false_or, Bool.or_false, Bool.false_or, decide_false, decide_true, Nat.reduceLT, Nat.reduceLeDiff, Nat.reduceAdd, Nat.reduceSub, ↓reduceIte, Nat.reduceEqDiff, Nat.lt_add_one]
        have q2 : m_co m (m_st m) = true := by simpa using q2
        exact ⟨fun q3 => fin false (by unfold m_front; rw [q3, Bool.and_false]) (by omega), fun q3 => fin true (by unfold m_front; rw [q2, show m_co m ((m_st m + 1) % 4) = true by simpa using q3]; rfl) (by omega)⟩
      · rw [esp, if_pos (by omega)] at hk; exact hk
    · intro n hn ih
      refine mz_vc ok_X1_findSpin [33] [(), (), (), (), (), (), (), (), (), (), (), (), (), (), (), (), (), (), (), (), (), (), (), (), (), (), (), (), (), ()] ?_
      simp only [cd_X1_findSpin, e1, e2, g1, g3, x1, x2, x3, p2, p3, ek, r_rn0, r_rnc, r_vk0, r_vkc, r_vks, r_kci, r_kcv, r_ild, r_ald, r_lld, r_dld, r_Li, r_La, r_Ll, r_Ld, r_Ki, r_Ka, r_Kl, r_Kd, r_Kn, r_ist, r_ast, r_lst, r_dst, r_iinc, r_int, r_lng, r_dbl, r_i2, r_i1, r_l2, r_lsh, r_i2z, r_l2z, r_i2l, r_l2i, r_i2d, r_lcmp, r_ddiv, r_dcmpl, r_dup, r_dup2, r_pop, r_one_int, r_one_ref, r_go, r_if, r_ic, r_tsw, r_lsw, r_sw0, r_swc, r_lk0, r_lkc, r_kp, r_gI, r_gL, r_gR, r_pI, r_pZ, r_pL, r_pR, r_gs, r_ia, r_ca, r_za, r_la, r_da, r_aa, r_ias, r_cas, r_zas, r_las, r_das, r_aas, r_acp, r_new, r_nwa, r_nwq, r_ret, r_irt, r_zrt, r_lrt, r_drt, r_art, r_thr, r_cV0, r_cV1, r_cV2, r_cV3, r_cV4, r_cV5, r_cI0, r_cS0, r_cS1, r_cS2, r_cS3, r_cX0, r_cX1, r_cX2, r_cX3, r_rc, r_oi, r_refx, r_i10, r_i01, r_rfs, r_mem0, r_memc, r_beq, r_kl0, r_klz, r_kl1i, r_kl1r, r_kl1n, r_kl1l, r_kl1d, List.length_cons, List.length_nil, List.getElem?_cons_zero, List.getElem?_cons_succ, List.set_cons_zero, List.set_cons_succ, true_and, and_true, not_true, not_false_eq_true, false_implies, true_implies, or_true, true_or, or_false, false_or, Bool.or_false, Bool.false_or, decide_false, decide_true, Nat.reduceLT, Nat.reduceLeDiff, Nat.reduceAdd, Nat.reduceSub, ↓reduceIte, Nat.reduceEqDiff, Nat.lt_add_one]
      refine ⟨z_no (b := 4) (by omega) (by omega) hn, fun _ => c_corner hE h hl hn ?_⟩
      simp only [cd_X1_findSpin, e1, e2, g1, g3, x1, x2, x3, p2, p3, ek, b2i_0, r_rn0, r_rnc, r_vk0, r_vkc, r_vks, r_kci, r_kcv, r_ild, r_ald, r_lld, r_dld, r_Li, r_La, r_Ll, r_Ld, r_Ki, r_Ka, r_Kl, r_Kd, r_Kn, r_ist, r_ast, r_lst, r_dst, r_iinc, r_int, r_lng, r_dbl, r_i2, r_i1, r_l2, r_lsh, r_i2z, r_l2z, r_i2l, r_l2i, r_i2d, r_lcmp, r_ddiv, r_dcmpl, r_dup, r_dup2, r_pop, r_one_int, r_one_ref, r_go, r_if, r_ic, r_tsw, r_lsw, r_sw0, r_swc, r_lk0, r_lkc, r_kp, r_gI, r_gL, r_gR, r_pI, r_pZ, r_pL, r_pR, r_gs, r_ia, r_ca, r_za, r_la, r_da, r_aa, r_ias, r_cas, r_zas, r_las, r_das, r_aas, r_acp, r_new, r_nwa, r_nwq, r_ret, r_irt, r_zrt, r_lrt, r_drt, r_art, r_thr, r_cV0, r_cV1, r_cV2, r_cV3, r_cV4, r_cV5, r_cI0, r_cS0, r_cS1, r_cS2, r_cS3, r_cX0, r_cX1, r_cX2, r_cX3, r_rc, r_oi, r_refx, r_i10, r_i01, r_rfs, r_mem0, r_memc, r_beq, r_kl0, r_klz, r_kl1i, r_kl1r, r_kl1n, r_kl1l, r_kl1d, List.length_cons, List.length_nil, List.getElem?_cons_zero, List.getElem?_cons_succ, List.set_cons_zero, List.set_cons_succ, true_and, and_true, not_true, not_false_eq_true, false_implies, true_implies, or_true, true_or, or_false, false_or, Bool.or_false, Bool.false_or, decide_false, decide_true, Nat.reduceLT, Nat.reduceLeDiff, Nat.reduceAdd, Nat.reduceSub, ↓reduceIte, Nat.reduceEqDiff, Nat.lt_add_one]
      rw [z_1, z_1]
      refine ⟨fun q => ?_, fun q => ?_⟩
      · rw [show m_cc m (n + 1) = m_cc m n by simp [m_cc, q]] at ih; exact ih
      · rw [show m_cc m (n + 1) = m_cc m n + 1 by simp [m_cc, show m_co m n = true by simpa using q]] at ih; exact ih
  · have esp : m_spin m = 0 := if_neg hs
    rw [esp] at hk
    refine mz_vc ok_X1_findSpin [33] [(), (), (), (), (), (), (), (), (), (), (), (), (), (), (), (), (), (), (), (), (), (), (), (), (), (), (), (), (), ()] ?_
    simp only [cd_X1_findSpin, e1, e2, g1, g3, x1, x2, x3, p2, p3, ek, r_rn0, r_rnc, r_vk0, r_vkc, r_vks, r_kci, r_kcv, r_ild, r_ald, r_lld, r_dld, r_Li, r_La, r_Ll, r_Ld, r_Ki, r_Ka, r_Kl, r_Kd, r_Kn, r_ist, r_ast, r_lst, r_dst, r_iinc, r_int, r_lng, r_dbl, r_i2, r_i1, r_l2, r_lsh, r_i2z, r_l2z, r_i2l, r_l2i, r_i2d, r_lcmp, r_ddiv, r_dcmpl, r_dup, r_dup2, r_pop, r_one_int, r_one_ref, r_go, r_if, r_ic, r_tsw, r_lsw, r_sw0, r_swc, r_lk0, r_lkc, r_kp, r_gI, r_gL, r_gR, r_pI, r_pZ, r_pL, r_pR, r_gs, r_ia, r_ca, r_za, r_la, r_da, r_aa, r_ias, r_cas, r_zas, r_las, r_das, r_aas, r_acp, r_new, r_nwa, r_nwq, r_ret, r_irt, r_zrt, r_lrt, r_drt, r_art, r_thr, r_cV0, r_cV1, r_cV2, r_cV3, r_cV4, r_cV5, r_cI0, r_cS0, r_cS1, r_cS2, r_cS3, r_cX0, r_cX1, r_cX2, r_cX3, r_rc, r_oi, r_refx, r_i10, r_i01, r_rfs, r_mem0, r_memc, r_beq, r_kl0, r_klz, r_kl1i, r_kl1r, r_kl1n, r_kl1l, r_kl1d, List.length_cons, List.length_nil, List.getElem?_cons_zero, List.getElem?_cons_succ, List.set_cons_zero, List.set_cons_succ, true_and, and_true, not_true, not_false_eq_true, false_implies, true_implies, or_true, true_or, or_false, false_or, Bool.or_false, Bool.false_or, decide_false, decide_true, Nat.reduceLT, Nat.reduceLeDiff, Nat.reduceAdd, Nat.reduceSub, ↓reduceIte, Nat.reduceEqDiff, Nat.lt_add_one]
    rw [l_2, z_eq (by omega) (by omega)]
    exact ⟨fun _ => hk, fun q => ⟨fun q2 => absurd ⟨by omega, q2⟩ hs, fun _ => hk⟩⟩
/-- the piece at another place, as by a fall -/
def o_moved (m : Nat → Int32) (s : Nat) (c r : Int) : Nat → Int32 := o_set2 (m_u (m_u (m_u (m_u (m_u m 223 (zI s)) 224 (zI c)) 225 (zI r)) 226 0) 231 (-1))
theorem moved_R {A : z_A} {B s : Nat} {c r : Int} {m : Nat → Int32} {J : mz_I} (hU : ∀ a x y, (a, x) ∈ T.1 → (a, y) ∈ T.1 → x = y) (h : p_R T I L A B m) (hl : m 221 = 0) (hf : fr I J [A.x, A.p]) (hp : p_Pos T J A.p (m_kd m) s c r) (hfit : s_fit (s_fm m) (m_kd m) s c r = true) (hJ : ∀ i, 2 ≤ i → i ≤ 5 → J A.x i = I A.x i) :
    fr I (w_nr (mz_u (mz_u J A.x 1 0) A.x 6 (-1)) A.x A.p) [A.x, A.p] ∧ p_R T (w_nr (mz_u (mz_u J A.x 1 0) A.x 6 (-1)) A.x A.p) L A B (o_moved m s c r) := by
  obtain ⟨⟨g1, g2, g3, g4, g5⟩, ⟨f1, f2, f3⟩, ⟨x1, x2, x3⟩, ⟨b1, b2, b3⟩, ⟨s1, s2, s3, s4, s5⟩⟩ := id h.sh
  have hne : A.p ≠ A.x := mz_ne hU x3 x1 (by decide)
  obtain ⟨hp0, ⟨q1, q2, q3, q4⟩, -⟩ := h.now hl
  obtain ⟨hpc, hus, hin, hfa⟩ := h.live hl
  obtain ⟨p1, p2, p3, p4, p5, p6⟩ := id hp
  have f2' : fr I (mz_u (mz_u J A.x 1 0) A.x 6 (-1)) [A.x, A.p] := fr_u2 (fr_u2 hf (by simp)) (by simp)
  have hw : fr I (w_nr (mz_u (mz_u J A.x 1 0) A.x 6 (-1)) A.x A.p) [A.x, A.p] := fr_tr1 f2' (fun a ha => nr_ne (by simpa using ha)) (by simp : ∀ a, a ∈ [A.x] → a ∈ [A.x, A.p])
  have e0 : (mz_u (mz_u J A.x 1 0) A.x 6 (-1)) A.p = J A.p := by rw [mz_u_ne hne, mz_u_ne hne]
  have out : ∀ j, j ≠ 223 → j ≠ 224 → j ≠ 225 → j ≠ 226 → j ≠ 227 → j ≠ 228 → j ≠ 230 → j ≠ 231 → o_moved m s c r j = m j := by
    intro j a0 a1 a b c d e f
    unfold o_moved
    rw [set2_out ⟨c, d, e⟩, m_u_ne f, m_u_ne b, m_u_ne a, m_u_ne a1, m_u_ne a0]
  refine ⟨hw, p_R_pc hU h (Nat.le_refl B) (fun j hj => out j (by omega) (by omega) (by omega) (by omega) (by omega) (by omega) (by omega) (by omega)) hw ⟨p1, by rw [nr_ne hne, e0]; exact p2, by rw [nr_ne hne, e0]; exact p3, by rw [nr_ne hne, e0]; exact p4, by rw [nr_ne hne, e0]; exact p5, p6⟩ hl ⟨?_, ?_, ?_, ?_⟩ hfit (pc_nr ?_ ?_) ?_ ?_⟩
  · rw [out _ (by decide) (by decide) (by decide) (by decide) (by decide) (by decide) (by decide) (by decide)]; exact q1
  · unfold o_moved
    rw [set2_out (by decide), m_u_ne (by decide), m_u_ne (by decide), m_u_ne (by decide), m_u_ne (by decide), m_u_eq]
  · unfold o_moved
    rw [set2_out (by decide), m_u_ne (by decide), m_u_ne (by decide), m_u_ne (by decide), m_u_eq]
  · unfold o_moved
    rw [set2_out (by decide), m_u_ne (by decide), m_u_ne (by decide), m_u_eq]
  · intro i a b
    have : i = 1 ∨ i = 2 ∨ i = 3 ∨ i = 4 ∨ i = 5 ∨ i = 6 := by omega
    rcases this with e | e | e | e | e | e <;> subst e <;> simp [mz_u_at, m_u, hJ 2 (by decide) (by decide), hJ 3 (by decide) (by decide), hJ 4 (by decide) (by decide), hJ 5 (by decide) (by decide), hpc 2 (by decide) (by decide), hpc 3 (by decide) (by decide), hpc 4 (by decide) (by decide), hpc 5 (by decide) (by decide)]
  · rw [e0, p5, m_u_ne (by decide), m_u_ne (by decide), m_u_eq]
  · rw [out _ (by decide) (by decide) (by decide) (by decide) (by decide) (by decide) (by decide) (by decide)]; exact hin
  · have e9 : o_moved m s c r 226 = 0 := by
      unfold o_moved
      rw [set2_out (by decide), m_u_ne (by decide), m_u_eq]
    rw [e9, h.lev]
    have := w_lv_le (x := m 236)
    have e8 : (0 : Int32).toInt = 0 := rfl
    omega
end ENG5
