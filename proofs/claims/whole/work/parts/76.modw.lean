/-! the reference: drops and ticks; rows that come to the same behind a lock -/
section MODW
variable {G : mz_G} {K : mz_K} {T : mz_T} {I : mz_I} {L : mz_L}
/-- the row of a piece that the reference drops, ahead of its lock -/
def o_dropM (g : Nat → Int32) : Nat → Int32 := if 0 < m_room g then m_u (m_u (m_u g 225 (g 225 - zI (m_room g))) 231 (-1)) 234 (g 234 + 2 * zI (m_room g)) else g
theorem dropM_ok {g : Nat → Int32} (hp : d_ok g) : d_ok (o_dropM g) ∧ (∀ j, j ≠ 225 → j ≠ 231 → j ≠ 234 → o_dropM g j = g j) ∧ m_r (o_dropM g) = m_r g - (m_room g : Nat) := by
  have hN := m_room_lt hp
  obtain ⟨⟨⟨q1, q2, q3, q4⟩, hk, hs, hc, hr⟩, hf⟩ := hp
  by_cases c : 0 < m_room g
  · have e : o_dropM g = m_u (m_u (m_u g 225 (g 225 - zI (m_room g))) 231 (-1)) 234 (g 234 + 2 * zI (m_room g)) := if_pos c
    have hfit := s_rm_fit (e := s_fm g) (kd := m_kd g) (s := m_st g) (c := m_c g) 22 (m_r g) c
    have hfit : s_fit (s_fm g) (m_kd g) (m_st g) (m_c g) (m_r g - (m_room g : Nat)) = true := hfit
    have hb := s_fit_b hk hs hfit
    have out : ∀ j, j ≠ 225 → j ≠ 231 → j ≠ 234 → o_dropM g j = g j := fun j a b d => by rw [e, m_u_ne d, m_u_ne b, m_u_ne a]
    have er : m_r (o_dropM g) = m_r g - (m_room g : Nat) := by
      show (o_dropM g 225).toInt = _
      rw [e, m_u_ne (by decide), m_u_ne (by decide), m_u_eq, q4, z_sub, z_toInt (by omega)]
    have ek : m_kd (o_dropM g) = m_kd g := by unfold m_kd; rw [out 222 (by decide) (by decide) (by decide)]
    have es : m_st (o_dropM g) = m_st g := by unfold m_st; rw [out 223 (by decide) (by decide) (by decide)]
    have ec : m_c (o_dropM g) = m_c g := by unfold m_c; rw [out 224 (by decide) (by decide) (by decide)]
    have ef : s_fm (o_dropM g) = s_fm g := s_fm_eq (fun i hi => out i (by omega) (by omega) (by omega))
    refine ⟨⟨⟨⟨?_, ?_, ?_, ?_⟩, by rw [ek]; exact hk, by rw [es]; exact hs, by rw [ec]; exact hc, by rw [er]; omega⟩, by rw [ef, ek, es, ec, er]; exact hfit⟩, out, er⟩
    · rw [ek, out 222 (by decide) (by decide) (by decide)]; exact q1
    · rw [es, out 223 (by decide) (by decide) (by decide)]; exact q2
    · rw [ec, out 224 (by decide) (by decide) (by decide)]; exact q3
    · rw [er, e, m_u_ne (by decide), m_u_ne (by decide), m_u_eq, q4, z_sub]
  · have e : o_dropM g = g := if_neg c
    rw [e]
    exact ⟨⟨⟨⟨q1, q2, q3, q4⟩, hk, hs, hc, hr⟩, hf⟩, fun _ _ _ _ => rfl, by rw [show m_room g = 0 by omega]; simp⟩
theorem c_dropsM {D : Nat → Nat} {many : Nat} (hM : p_Mo T D) (hC : p_Mc I D) (hp : d_ok (I (D 1))) (hz : d_z (I (D 1))) (hnf : ∀ r, r < 22 → s_full (s_fm (I (D 1))) r = false) (hm : I (D 0) 4 = zI many) (hm6 : many ≤ 6) (hSp : d_Sp I D) (hus : ∃ u : Nat, u < 1000000000 ∧ I (D 1) 229 = zI u)
    (h : ∀ I' g le, g = o_dropM (I (D 1)) → le = f_le (m_kd g) (m_st g) (m_c g) → d_G2 I I' D (w_mn (m_lfit g le) many) (o_lockM g le) (w_rr (m_lfit g le) many (d_rr I D) (o_app (o_draw (o_lock1 g le)) (m_dk (o_lock1 g le)))) → K (some (.int (zI (m_n (o_fill g))))) T I' L) : mz_Ctr G M_X12_drops [.ref (D 0)] T I L K := by
  refine mz_apartC fun hU => ?_
  obtain ⟨h0, ⟨r1, r2, r3, r5, r6, r8, r9, r10, r11, r12, r13, r14, -⟩, ⟨t1, t2, t3, t5, t6, t8, t9, t10, t11, t12, t13, t14, -⟩, -⟩ := id hM
  have n1 : D 1 ≠ D 3 := mz_ne hU t1 t3 (by decide)
  have n3 : D 0 ≠ D 1 := mz_ne hU h0 t1 (by decide)
  have n4 : D 3 ≠ D 1 := Ne.symm n1
  have n8 : D 14 ≠ D 1 := mz_ne hU t14 t1 (by decide)
  have hN := m_room_lt hp
  obtain ⟨hp2, out, er⟩ := dropM_ok hp
  have hK := fun I' le => h I' _ le rfl
  clear h
  refine mz_ofl mk_X12_drops rfl (Nat.le_of_ble_eq_true rfl) (Nat.le_of_ble_eq_true rfl) [some (.ref (D 0)), none] rfl ?_
  refine mz_vc ok_X12_drops [] [(), (), (), (), (), (), (), (), (), (), (), (), (), (), (), (), (), (), (), (), (), (), (), (), (), (), (), (), (), ()] ?_
  simp only [cd_X12_drops, h0, r1, ix_225 t1, n_225, ix_231 t1, n_231, ix_234 t1, n_234, r_rn0, r_rnc, r_vk0, r_vkc, r_vks, r_kci, r_kcv, r_ild, r_ald, r_lld, r_dld, r_Li, r_La, r_Ll, r_Ld, r_Ki, r_Ka, r_Kl, r_Kd, r_Kn, r_ist, r_ast, r_lst, r_dst, r_iinc, r_int, r_lng, r_dbl, r_i2, r_i1, r_l2, r_lsh, r_i2z, r_l2z, r_i2l, r_l2i, r_i2d, r_lcmp, r_ddiv, r_dcmpl, r_dup, r_dup2, r_pop, r_one_int, r_one_ref, r_go, r_if, r_ic, r_tsw, r_lsw, r_sw0, r_swc, r_lk0, r_lkc, r_kp, r_gI, r_gL, r_gR, r_pI, r_pZ, r_pL, r_pR, r_gs, r_ia, r_ca, r_za, r_la, r_da, r_aa, r_ias, r_cas, r_zas, r_las, r_das, r_aas, r_acp, r_new, r_nwa, r_nwq, r_ret, r_irt, r_zrt, r_lrt, r_drt, r_art, r_thr, r_cV0, r_cV1, r_cV2, r_cV3, r_cV4, r_cV5, r_cI0, r_cS0, r_cS1, r_cS2, r_cS3, r_cX0, r_cX1, r_cX2, r_cX3, r_rc, r_oi, r_refx, r_i10, r_i01, r_rfs, r_mem0, r_memc, r_beq, r_kl0, r_klz, r_kl1i, r_kl1r, r_kl1n, r_kl1l, r_kl1d, List.length_cons, List.length_nil, List.getElem?_cons_zero, List.getElem?_cons_succ, List.set_cons_zero, List.set_cons_succ, true_and, and_true, not_true, not_false_eq_true, false_implies, true_implies, or_true, true_or, or_false, false_or, Bool.or_false, Bool.false_or, decide_false, decide_true, Nat.reduceLT, Nat.reduceLeDiff, Nat.reduceAdd, Nat.reduceSub, ↓reduceIte, Nat.reduceEqDiff, Nat.lt_add_one]
  refine c_roomM hM hC hp ?_
  simp only [cd_X12_drops, h0, r1, ix_225 t1, n_225, ix_231 t1, n_231, ix_234 t1, n_234, r_rn0, r_rnc, r_vk0, r_vkc, r_vks, r_kci, r_kcv, r_ild, r_ald, r_lld, r_dld, r_Li, r_La, r_Ll, r_Ld, r_Ki, r_Ka, r_Kl, r_Kd, r_Kn, r_ist, r_ast, r_lst, r_dst, r_iinc, r_int, r_lng, r_dbl, r_i2, r_i1, r_l2, r_lsh, r_i2z, r_l2z, r_i2l, r_l2i, r_i2d, r_lcmp, r_ddiv, r_dcmpl, r_dup, r_dup2, r_pop, r_one_int, r_one_ref, r_go, r_if, r_ic, r_tsw, r_lsw, r_sw0, r_swc, r_lk0, r_lkc, r_kp, r_gI, r_gL, r_gR, r_pI, r_pZ, r_pL, r_pR, r_gs, r_ia, r_ca, r_za, r_la, r_da, r_aa, r_ias, r_cas, r_zas, r_las, r_das, r_aas, r_acp, r_new, r_nwa, r_nwq, r_ret, r_irt, r_zrt, r_lrt, r_drt, r_art, r_thr, r_cV0, r_cV1, r_cV2, r_cV3, r_cV4, r_cV5, r_cI0, r_cS0, r_cS1, r_cS2, r_cS3, r_cX0, r_cX1, r_cX2, r_cX3, r_rc, r_oi, r_refx, r_i10, r_i01, r_rfs, r_mem0, r_memc, r_beq, r_kl0, r_klz, r_kl1i, r_kl1r, r_kl1n, r_kl1l, r_kl1d, List.length_cons, List.length_nil, List.getElem?_cons_zero, List.getElem?_cons_succ, List.set_cons_zero, List.set_cons_succ, true_and, and_true, not_true, not_false_eq_true, false_implies, true_implies, or_true, true_or, or_false, false_or, Bool.or_false, Bool.false_or, decide_false, decide_true, Nat.reduceLT, Nat.reduceLeDiff, Nat.reduceAdd, Nat.reduceSub, ↓reduceIte, Nat.reduceEqDiff, Nat.lt_add_one]
  rw [l_0, z_le (by omega) (by omega)]
  refine ⟨fun q => ?_, fun q => ?_⟩
  · have e : o_dropM (I (D 1)) = I (D 1) := if_neg (by omega)
    rw [e] at hK
    refine c_locksM hM hC hp hz hnf hm hm6 hSp hus (fun I' le hle hGo => ?_)
    simp only [cd_X12_drops, h0, r1, ix_225 t1, n_225, ix_231 t1, n_231, ix_234 t1, n_234, r_rn0, r_rnc, r_vk0, r_vkc, r_vks, r_kci, r_kcv, r_ild, r_ald, r_lld, r_dld, r_Li, r_La, r_Ll, r_Ld, r_Ki, r_Ka, r_Kl, r_Kd, r_Kn, r_ist, r_ast, r_lst, r_dst, r_iinc, r_int, r_lng, r_dbl, r_i2, r_i1, r_l2, r_lsh, r_i2z, r_l2z, r_i2l, r_l2i, r_i2d, r_lcmp, r_ddiv, r_dcmpl, r_dup, r_dup2, r_pop, r_one_int, r_one_ref, r_go, r_if, r_ic, r_tsw, r_lsw, r_sw0, r_swc, r_lk0, r_lkc, r_kp, r_gI, r_gL, r_gR, r_pI, r_pZ, r_pL, r_pR, r_gs, r_ia, r_ca, r_za, r_la, r_da, r_aa, r_ias, r_cas, r_zas, r_las, r_das, r_aas, r_acp, r_new, r_nwa, r_nwq, r_ret, r_irt, r_zrt, r_lrt, r_drt, r_art, r_thr, r_cV0, r_cV1, r_cV2, r_cV3, r_cV4, r_cV5, r_cI0, r_cS0, r_cS1, r_cS2, r_cS3, r_cX0, r_cX1, r_cX2, r_cX3, r_rc, r_oi, r_refx, r_i10, r_i01, r_rfs, r_mem0, r_memc, r_beq, r_kl0, r_klz, r_kl1i, r_kl1r, r_kl1n, r_kl1l, r_kl1d, List.length_cons, List.length_nil, List.getElem?_cons_zero, List.getElem?_cons_succ, List.set_cons_zero, List.set_cons_succ, true_and, and_true, not_true, not_false_eq_true, false_implies, true_implies, or_true, true_or, or_false, false_or, Bool.or_false, Bool.false_or, decide_false, decide_true, Nat.reduceLT, Nat.reduceLeDiff, Nat.reduceAdd, Nat.reduceSub, ↓reduceIte, Nat.reduceEqDiff, Nat.lt_add_one]
    exact hK I' le hle hGo
  · have e : o_dropM (I (D 1)) = m_u (m_u (m_u (I (D 1)) 225 (I (D 1) 225 - zI (m_room (I (D 1))))) 231 (-1)) 234 (I (D 1) 234 + 2 * zI (m_room (I (D 1)))) := if_pos (by omega)
    have v : mz_u (mz_u I (D 1) 225 (I (D 1) 225 - zI (m_room (I (D 1))))) (D 1) 231 (-1) (D 1) 234 = I (D 1) 234 := by rw [mz_u_row, mz_u_row, m_u_ne (by decide), m_u_ne (by decide)]
    rw [v]
    have f1 : fr I (mz_u (mz_u (mz_u I (D 1) 225 (I (D 1) 225 - zI (m_room (I (D 1))))) (D 1) 231 (-1)) (D 1) 234 (I (D 1) 234 + 2 * zI (m_room (I (D 1))))) [D 1] := fr_u2 (fr_u2 (fr_u2 fr_refl (by simp)) (by simp)) (by simp)
    have e1 : (mz_u (mz_u (mz_u I (D 1) 225 (I (D 1) 225 - zI (m_room (I (D 1))))) (D 1) 231 (-1)) (D 1) 234 (I (D 1) 234 + 2 * zI (m_room (I (D 1))))) (D 1) = o_dropM (I (D 1)) := by rw [mz_u_row, mz_u_row, mz_u_row, e]
    generalize mz_u (mz_u (mz_u I (D 1) 225 (I (D 1) 225 - zI (m_room (I (D 1))))) (D 1) 231 (-1)) (D 1) 234 (I (D 1) 234 + 2 * zI (m_room (I (D 1)))) = I1 at f1 e1 ⊢
    obtain ⟨z1, z2, z3⟩ := id hz
    obtain ⟨hz2, hmz⟩ := d_z_of (g := o_dropM (I (D 1))) (z := m_z (I (D 1))) (by rw [out 267 (by decide) (by decide) (by decide)]; exact z1) (by rw [out 220 (by decide) (by decide) (by decide)]; exact z2) z3
    have ef : s_fm (o_dropM (I (D 1))) = s_fm (I (D 1)) := s_fm_eq (fun i hi => out i (by omega) (by omega) (by omega))
    refine c_locksM hM (Mc_1 hU hM hC f1) (by rw [e1]; exact hp2) (by rw [e1]; exact hz2) (by rw [e1, ef]; exact hnf) (by rw [fr_ne1 f1 n3]; exact hm) hm6 (d_Sp_fr hSp (by rw [fr_ne1 f1 n3]) (fr_ne1 f1 n8)) (by rw [e1, out 229 (by decide) (by decide) (by decide)]; exact hus) (fun I' le hle hGo => ?_)
    simp only [cd_X12_drops, h0, r1, ix_225 t1, n_225, ix_231 t1, n_231, ix_234 t1, n_234, r_rn0, r_rnc, r_vk0, r_vkc, r_vks, r_kci, r_kcv, r_ild, r_ald, r_lld, r_dld, r_Li, r_La, r_Ll, r_Ld, r_Ki, r_Ka, r_Kl, r_Kd, r_Kn, r_ist, r_ast, r_lst, r_dst, r_iinc, r_int, r_lng, r_dbl, r_i2, r_i1, r_l2, r_lsh, r_i2z, r_l2z, r_i2l, r_l2i, r_i2d, r_lcmp, r_ddiv, r_dcmpl, r_dup, r_dup2, r_pop, r_one_int, r_one_ref, r_go, r_if, r_ic, r_tsw, r_lsw, r_sw0, r_swc, r_lk0, r_lkc, r_kp, r_gI, r_gL, r_gR, r_pI, r_pZ, r_pL, r_pR, r_gs, r_ia, r_ca, r_za, r_la, r_da, r_aa, r_ias, r_cas, r_zas, r_las, r_das, r_aas, r_acp, r_new, r_nwa, r_nwq, r_ret, r_irt, r_zrt, r_lrt, r_drt, r_art, r_thr, r_cV0, r_cV1, r_cV2, r_cV3, r_cV4, r_cV5, r_cI0, r_cS0, r_cS1, r_cS2, r_cS3, r_cX0, r_cX1, r_cX2, r_cX3, r_rc, r_oi, r_refx, r_i10, r_i01, r_rfs, r_mem0, r_memc, r_beq, r_kl0, r_klz, r_kl1i, r_kl1r, r_kl1n, r_kl1l, r_kl1d, List.length_cons, List.length_nil, List.getElem?_cons_zero, List.getElem?_cons_succ, List.set_cons_zero, List.set_cons_succ, true_and, and_true, not_true, not_false_eq_true, false_implies, true_implies, or_true, true_or, or_false, false_or, Bool.or_false, Bool.false_or, decide_false, decide_true, Nat.reduceLT, Nat.reduceLeDiff, Nat.reduceAdd, Nat.reduceSub, ↓reduceIte, Nat.reduceEqDiff, Nat.lt_add_one]
    rw [e1] at hle hGo
    have err : d_rr I1 D = d_rr I D := by unfold d_rr; rw [fr_ne1 f1 n4]
    rw [err] at hGo
    obtain ⟨w1, w2, w3, w4, w5, w6⟩ := hGo
    rw [e1]
    exact hK I' le hle ⟨fr_tr f1 w1 (by simp) (fun _ q => q), fun i a b => by rw [w2 i a b, fr_ne1 f1 n3], w3, w4, w5, w6⟩
noncomputable def o_tickM (m : Nat → Int32) (le dly : Int32) : Nat → Int32 :=
  if m_fit m 0 (-1) then (if 11 - m 235 ≤ m 226 + 1 then o_falls (o_tk m) else m_u (o_tk m) 226 (m 226 + 1))
  else if dly ≤ m 227 + 1 then o_lockM (o_rest m) le else o_rest m
theorem c_ticksM {D : Nat → Nat} {many : Nat} (hM : p_Mo T D) (hC : p_Mc I D) (hp : d_ok (I (D 1))) (hz : d_z (I (D 1))) (hnf : ∀ r, r < 22 → s_full (s_fm (I (D 1))) r = false) (hm : I (D 0) 4 = zI many) (hm6 : many ≤ 6) (hSp : d_Sp I D) (hus : ∃ u : Nat, u < 1000000000 ∧ I (D 1) 229 = zI u)
    (hlv : I (D 1) 235 = w_lv (I (D 1) 236)) (hfa : (I (D 1) 226).toInt < 11 - (I (D 1) 235).toInt)
    (h : ∀ I' le, le = f_le (m_kd (I (D 1))) (m_st (I (D 1))) (m_c (I (D 1))) → d_G2 I I' D (if m_tlock (I (D 1)) (I (D 2) 0) then w_mn (m_lfit (o_rest (I (D 1))) le) many else many) (o_tickM (I (D 1)) le (I (D 2) 0)) (if m_tlock (I (D 1)) (I (D 2) 0) then w_rr (m_lfit (o_rest (I (D 1))) le) many (d_rr I D) (o_app (o_draw (o_lock1 (o_rest (I (D 1))) le)) (m_dk (o_lock1 (o_rest (I (D 1))) le))) else d_rr I D) → K (some (.int (b2i (m_tlock (I (D 1)) (I (D 2) 0))))) T I' L) : mz_Ctr G M_X12_ticksOnce [.ref (D 0)] T I L K := by
  refine mz_apartC fun hU => ?_
  obtain ⟨h0, ⟨r1, r2, r3, r5, r6, r8, r9, r10, r11, r12, r13, r14, -⟩, ⟨t1, t2, t3, t5, t6, t8, t9, t10, t11, t12, t13, t14, -⟩, -⟩ := id hM
  have n1 : D 1 ≠ D 3 := mz_ne hU t1 t3 (by decide)
  have n3 : D 0 ≠ D 1 := mz_ne hU h0 t1 (by decide)
  have n4 : D 3 ≠ D 1 := Ne.symm n1
  have n8 : D 14 ≠ D 1 := mz_ne hU t14 t1 (by decide)
  have n2 : D 2 ≠ D 1 := mz_ne hU t2 t1 (by decide)
  have kt : ∀ j, j ≠ 242 → o_tk (I (D 1)) j = I (D 1) j := fun j e => m_u_ne e
  have hptk : d_pos (o_tk (I (D 1))) := d_pos_cg hp.1 (fun j a b => kt j (by omega))
  obtain ⟨s1, s2, s3, s4, s5⟩ := m_same (m := I (D 1)) (m' := o_tk (I (D 1))) (fun j hj => kt j (by omega))
  have efit : m_fit (o_tk (I (D 1))) 0 (-1) = m_fit (I (D 1)) 0 (-1) := by unfold m_fit; rw [s1, s2, s3, s4, s5]
  have hlv1 := w_lv_le (x := I (D 1) 236)
  have hlv2 := w_lv_ge (x := I (D 1) 236)
  rw [← hlv] at hlv1 hlv2
  have h26 := z_rng (I (D 1) 226)
  have same : (I (D 1) 226 + 1 = 11 - I (D 1) 235) ↔ (11 - I (D 1) 235 ≤ I (D 1) 226 + 1) := by
    have e11 : ((11 : Int32) - I (D 1) 235).toInt = 11 - (I (D 1) 235).toInt := by
      rw [z_of (I (D 1) 235), show (11 : Int32) = zI 11 from rfl, z_sub, z_toF (by omega), ← z_of]
    have e26 : (I (D 1) 226 + 1).toInt = (I (D 1) 226).toInt + 1 := by
      rw [z_of (I (D 1) 226), l_1, z_add, z_toF (by omega), ← z_of]
    rw [z_leF, ← Int32.toInt_inj, e11, e26]
    omega
  have hK := fun I' => h I' _ rfl
  clear h
  refine mz_ofl mk_X12_ticksOnce rfl (Nat.le_of_ble_eq_true rfl) (Nat.le_of_ble_eq_true rfl) [some (.ref (D 0)), none] rfl ?_
  refine mz_vc ok_X12_ticksOnce [] [(), (), (), (), (), (), (), (), (), (), (), (), (), (), (), (), (), (), (), (), (), (), (), (), (), (), (), (), (), ()] ?_
  simp only [cd_X12_ticksOnce, h0, r1, r2, ix_226 t1, n_226, ix_227 t1, n_227, ix_235 t1, n_235, ix_242 t1, n_242, mz_u_row, m_u_at, tn_0, r_rn0, r_rnc, r_vk0, r_vkc, r_vks, r_kci, r_kcv, r_ild, r_ald, r_lld, r_dld, r_Li, r_La, r_Ll, r_Ld, r_Ki, r_Ka, r_Kl, r_Kd, r_Kn, r_ist, r_ast, r_lst, r_dst, r_iinc, r_int, r_lng, r_dbl, r_i2, r_i1, r_l2, r_lsh, r_i2z, r_l2z, r_i2l, r_l2i, r_i2d, r_lcmp, r_ddiv, r_dcmpl, r_dup, r_dup2, r_pop, r_one_int, r_one_ref, r_go, r_if, r_ic, r_tsw, r_lsw, r_sw0, r_swc, r_lk0, r_lkc, r_kp, r_gI, r_gL, r_gR, r_pI, r_pZ, r_pL, r_pR, r_gs, r_ia, r_ca, r_za, r_la, r_da, r_aa, r_ias, r_cas, r_zas, r_las, r_das, r_aas, r_acp, r_new, r_nwa, r_nwq, r_ret, r_irt, r_zrt, r_lrt, r_drt, r_art, r_thr, r_cV0, r_cV1, r_cV2, r_cV3, r_cV4, r_cV5, r_cI0, r_cS0, r_cS1, r_cS2, r_cS3, r_cX0, r_cX1, r_cX2, r_cX3, r_rc, r_oi, r_refx, r_i10, r_i01, r_rfs, r_mem0, r_memc, r_beq, r_kl0, r_klz, r_kl1i, r_kl1r, r_kl1n, r_kl1l, r_kl1d, List.length_cons, List.length_nil, List.getElem?_cons_zero, List.getElem?_cons_succ, List.set_cons_zero, List.set_cons_succ, true_and, and_true, not_true, not_false_eq_true, false_implies, true_implies, or_true, true_or, or_false, false_or, Bool.or_false, Bool.false_or, decide_false, decide_true, Nat.reduceLT, Nat.reduceLeDiff, Nat.reduceAdd, Nat.reduceSub, ↓reduceIte, Nat.reduceEqDiff, Nat.lt_add_one]
  have f1 : fr I (mz_u I (D 1) 242 (I (D 1) 242 + 1)) [D 1] := fr_u
  have e1 : (mz_u I (D 1) 242 (I (D 1) 242 + 1)) (D 1) = o_tk (I (D 1)) := mz_u_row
  refine c_canFallM hM (Mc_1 hU hM hC f1) (by rw [e1]; exact hptk) ?_
  rw [e1, efit]
  simp only [cd_X12_ticksOnce, h0, r1, r2, ix_226 t1, n_226, ix_227 t1, n_227, ix_235 t1, n_235, ix_242 t1, n_242, mz_u_row, m_u_at, tn_0, b2i_0, r_rn0, r_rnc, r_vk0, r_vkc, r_vks, r_kci, r_kcv, r_ild, r_ald, r_lld, r_dld, r_Li, r_La, r_Ll, r_Ld, r_Ki, r_Ka, r_Kl, r_Kd, r_Kn, r_ist, r_ast, r_lst, r_dst, r_iinc, r_int, r_lng, r_dbl, r_i2, r_i1, r_l2, r_lsh, r_i2z, r_l2z, r_i2l, r_l2i, r_i2d, r_lcmp, r_ddiv, r_dcmpl, r_dup, r_dup2, r_pop, r_one_int, r_one_ref, r_go, r_if, r_ic, r_tsw, r_lsw, r_sw0, r_swc, r_lk0, r_lkc, r_kp, r_gI, r_gL, r_gR, r_pI, r_pZ, r_pL, r_pR, r_gs, r_ia, r_ca, r_za, r_la, r_da, r_aa, r_ias, r_cas, r_zas, r_las, r_das, r_aas, r_acp, r_new, r_nwa, r_nwq, r_ret, r_irt, r_zrt, r_lrt, r_drt, r_art, r_thr, r_cV0, r_cV1, r_cV2, r_cV3, r_cV4, r_cV5, r_cI0, r_cS0, r_cS1, r_cS2, r_cS3, r_cX0, r_cX1, r_cX2, r_cX3, r_rc, r_oi, r_refx, r_i10, r_i01, r_rfs, r_mem0, r_memc, r_beq, r_kl0, r_klz, r_kl1i, r_kl1r, r_kl1n, r_kl1l, r_kl1d, List.length_cons, List.length_nil, List.getElem?_cons_zero, List.getElem?_cons_succ, List.set_cons_zero, List.set_cons_succ, true_and, and_true, not_true, not_false_eq_true, false_implies, true_implies, or_true, true_or, or_false, false_or, Bool.or_false, Bool.false_or, decide_false, decide_true, Nat.reduceLT, Nat.reduceLeDiff, Nat.reduceAdd, Nat.reduceSub, ↓reduceIte, Nat.reduceEqDiff, Nat.lt_add_one]
  refine ⟨fun q => ?_, fun q => ?_⟩
  · -- it rests
    have v2 : mz_u (mz_u I (D 1) 242 (I (D 1) 242 + 1)) (D 1) 227 (I (D 1) 227 + 1) (D 2) 0 = I (D 2) 0 := by rw [mz_u_ne n2, mz_u_ne n2]
    rw [v2]
    have f2 : fr I (mz_u (mz_u I (D 1) 242 (I (D 1) 242 + 1)) (D 1) 227 (I (D 1) 227 + 1)) [D 1] := fr_u2 f1 (by simp)
    have e2 : (mz_u (mz_u I (D 1) 242 (I (D 1) 242 + 1)) (D 1) 227 (I (D 1) 227 + 1)) (D 1) = o_rest (I (D 1)) := by rw [mz_u_row, mz_u_row]; rfl
    generalize mz_u (mz_u I (D 1) 242 (I (D 1) 242 + 1)) (D 1) 227 (I (D 1) 227 + 1) = I2 at f2 e2 ⊢
    have kr : ∀ j, j ≠ 242 → j ≠ 227 → o_rest (I (D 1)) j = I (D 1) j := fun j a b => by unfold o_rest; rw [m_u_ne b, kt j a]
    obtain ⟨u1, u2, u3, u4, u5⟩ := m_same (m := I (D 1)) (m' := o_rest (I (D 1))) (fun j hj => kr j (by omega) (by omega))
    have err : d_rr I2 D = d_rr I D := by unfold d_rr; rw [fr_ne1 f2 n4]
    refine ⟨n_ix 0 t2 (by decide) (by decide), fun q2 => ?_, fun q2 => ?_⟩
    · have q3 : ¬ I (D 2) 0 ≤ I (D 1) 227 + 1 := Int32.not_le.mpr q2
      have et : m_tlock (I (D 1)) (I (D 2) 0) = false := by unfold m_tlock; rw [q, decide_eq_false q3]; rfl
      rw [et] at hK
      refine hK I2 ⟨fr_tr f2 fr_refl (by simp) (fun _ q => q), fun i a b => by rw [fr_ne1 f2 n3], by rw [fr_ne1 f2 n3]; exact hm, ?_, fun i j hi hj => ?_, d_Sp_fr hSp (by rw [fr_ne1 f2 n3]) (fr_ne1 f2 n8)⟩
      · rw [e2]; unfold o_tickM; rw [if_neg (by rw [q]; decide), if_neg q3]
      · rw [fr_ne1 f2 n4]; rfl
    · have q3 : I (D 2) 0 ≤ I (D 1) 227 + 1 := Int32.not_lt.mp q2
      have et : m_tlock (I (D 1)) (I (D 2) 0) = true := by unfold m_tlock; rw [q, decide_eq_true q3]; rfl
      rw [et] at hK
      have hp2 : d_ok (o_rest (I (D 1))) := ⟨d_pos_cg hp.1 (fun j a b => kr j (by omega) (by omega)), by rw [u1, u2, u3, u4, u5]; exact hp.2⟩
      obtain ⟨z1, z2, z3⟩ := id hz
      obtain ⟨hz2, hmz⟩ := d_z_of (g := o_rest (I (D 1))) (z := m_z (I (D 1))) (by rw [kr 267 (by decide) (by decide)]; exact z1) (by rw [kr 220 (by decide) (by decide)]; exact z2) z3
      refine c_locksM hM (Mc_1 hU hM hC f2) (by rw [e2]; exact hp2) (by rw [e2]; exact hz2) (by rw [e2, u5]; exact hnf) (by rw [fr_ne1 f2 n3]; exact hm) hm6 (d_Sp_fr hSp (by rw [fr_ne1 f2 n3]) (fr_ne1 f2 n8)) (by rw [e2, kr 229 (by decide) (by decide)]; exact hus) (fun I' le hle hGo => ?_)
      simp only [cd_X12_ticksOnce, h0, r1, r2, ix_226 t1, n_226, ix_227 t1, n_227, ix_235 t1, n_235, ix_242 t1, n_242, mz_u_row, m_u_at, tn_0, r_rn0, r_rnc, r_vk0, r_vkc, r_vks, r_kci, r_kcv, r_ild, r_ald, r_lld, r_dld, r_Li, r_La, r_Ll, r_Ld, r_Ki, r_Ka, r_Kl, r_Kd, r_Kn, r_ist, r_ast, r_lst, r_dst, r_iinc, r_int, r_lng, r_dbl, r_i2, r_i1, r_l2, r_lsh, r_i2z, r_l2z, r_i2l, r_l2i, r_i2d, r_lcmp, r_ddiv, r_dcmpl, r_dup, r_dup2, r_pop, r_one_int, r_one_ref, r_go, r_if, r_ic, r_tsw, r_lsw, r_sw0, r_swc, r_lk0, r_lkc, r_kp, r_gI, r_gL, r_gR, r_pI, r_pZ, r_pL, r_pR, r_gs, r_ia, r_ca, r_za, r_la, r_da, r_aa, r_ias, r_cas, r_zas, r_las, r_das, r_aas, r_acp, r_new, r_nwa, r_nwq, r_ret, r_irt, r_zrt, r_lrt, r_drt, r_art, r_thr, r_cV0, r_cV1, r_cV2, r_cV3, r_cV4, r_cV5, r_cI0, r_cS0, r_cS1, r_cS2, r_cS3, r_cX0, r_cX1, r_cX2, r_cX3, r_rc, r_oi, r_refx, r_i10, r_i01, r_rfs, r_mem0, r_memc, r_beq, r_kl0, r_klz, r_kl1i, r_kl1r, r_kl1n, r_kl1l, r_kl1d, List.length_cons, List.length_nil, List.getElem?_cons_zero, List.getElem?_cons_succ, List.set_cons_zero, List.set_cons_succ, true_and, and_true, not_true, not_false_eq_true, false_implies, true_implies, or_true, true_or, or_false, false_or, Bool.or_false, Bool.false_or, decide_false, decide_true, Nat.reduceLT, Nat.reduceLeDiff, Nat.reduceAdd, Nat.reduceSub, ↓reduceIte, Nat.reduceEqDiff, Nat.lt_add_one]
      rw [e2] at hle hGo
      rw [u1, u2, u3] at hle
      rw [← hle] at hK
      rw [err] at hGo
      obtain ⟨w1, w2, w3, w4, w5, w6⟩ := hGo
      refine hK I' ⟨fr_tr f2 w1 (by simp) (fun _ q => q), fun i a b => by rw [w2 i a b, fr_ne1 f2 n3], w3, ?_, w5, w6⟩
      rw [w4]; unfold o_tickM; rw [if_neg (by rw [q]; decide), if_pos q3]
  · have q : m_fit (I (D 1)) 0 (-1) = true := by simpa using q
    have et : m_tlock (I (D 1)) (I (D 2) 0) = false := by unfold m_tlock; rw [q]; rfl
    rw [et] at hK
    have f2 : fr I (mz_u (mz_u I (D 1) 242 (I (D 1) 242 + 1)) (D 1) 226 (I (D 1) 226 + 1)) [D 1] := fr_u2 f1 (by simp)
    have e2 : (mz_u (mz_u I (D 1) 242 (I (D 1) 242 + 1)) (D 1) 226 (I (D 1) 226 + 1)) (D 1) = m_u (o_tk (I (D 1))) 226 (I (D 1) 226 + 1) := by rw [mz_u_row, mz_u_row]; rfl
    generalize mz_u (mz_u I (D 1) 242 (I (D 1) 242 + 1)) (D 1) 226 (I (D 1) 226 + 1) = I2 at f2 e2 ⊢
    rw [same]
    refine ⟨fun q2 => ?_, fun q2 => ?_⟩
    · refine hK I2 ⟨fr_tr f2 fr_refl (by simp) (fun _ q => q), fun i a b => by rw [fr_ne1 f2 n3], by rw [fr_ne1 f2 n3]; exact hm, ?_, fun i j hi hj => ?_, d_Sp_fr hSp (by rw [fr_ne1 f2 n3]) (fr_ne1 f2 n8)⟩
      · rw [e2]; unfold o_tickM; rw [if_pos q, if_neg q2]
      · rw [fr_ne1 f2 n4]; rfl
    · have q2 : 11 - I (D 1) 235 ≤ I (D 1) 226 + 1 := by simpa using q2
      refine c_fallsM hM (fun I3 f3 e3 => ?_)
      simp only [cd_X12_ticksOnce, h0, r1, r2, ix_226 t1, n_226, ix_227 t1, n_227, ix_235 t1, n_235, ix_242 t1, n_242, mz_u_row, m_u_at, tn_0, r_rn0, r_rnc, r_vk0, r_vkc, r_vks, r_kci, r_kcv, r_ild, r_ald, r_lld, r_dld, r_Li, r_La, r_Ll, r_Ld, r_Ki, r_Ka, r_Kl, r_Kd, r_Kn, r_ist, r_ast, r_lst, r_dst, r_iinc, r_int, r_lng, r_dbl, r_i2, r_i1, r_l2, r_lsh, r_i2z, r_l2z, r_i2l, r_l2i, r_i2d, r_lcmp, r_ddiv, r_dcmpl, r_dup, r_dup2, r_pop, r_one_int, r_one_ref, r_go, r_if, r_ic, r_tsw, r_lsw, r_sw0, r_swc, r_lk0, r_lkc, r_kp, r_gI, r_gL, r_gR, r_pI, r_pZ, r_pL, r_pR, r_gs, r_ia, r_ca, r_za, r_la, r_da, r_aa, r_ias, r_cas, r_zas, r_las, r_das, r_aas, r_acp, r_new, r_nwa, r_nwq, r_ret, r_irt, r_zrt, r_lrt, r_drt, r_art, r_thr, r_cV0, r_cV1, r_cV2, r_cV3, r_cV4, r_cV5, r_cI0, r_cS0, r_cS1, r_cS2, r_cS3, r_cX0, r_cX1, r_cX2, r_cX3, r_rc, r_oi, r_refx, r_i10, r_i01, r_rfs, r_mem0, r_memc, r_beq, r_kl0, r_klz, r_kl1i, r_kl1r, r_kl1n, r_kl1l, r_kl1d, List.length_cons, List.length_nil, List.getElem?_cons_zero, List.getElem?_cons_succ, List.set_cons_zero, List.set_cons_succ, true_and, and_true, not_true, not_false_eq_true, false_implies, true_implies, or_true, true_or, or_false, false_or, Bool.or_false, Bool.false_or, decide_false, decide_true, Nat.reduceLT, Nat.reduceLeDiff, Nat.reduceAdd, Nat.reduceSub, ↓reduceIte, Nat.reduceEqDiff, Nat.lt_add_one]
      have f13 : fr I I3 [D 1] := fr_tr1 f2 f3 (fun _ q => q)
      refine hK I3 ⟨fr_tr f13 fr_refl (by simp) (fun _ q => q), fun i a b => by rw [fr_ne1 f13 n3], by rw [fr_ne1 f13 n3]; exact hm, ?_, fun i j hi hj => ?_, d_Sp_fr hSp (by rw [fr_ne1 f13 n3]) (fr_ne1 f13 n8)⟩
      · rw [e3, e2]; unfold o_tickM; rw [if_pos q, if_pos q2]
        unfold o_falls
        congr 1
        funext j
        simp only [m_u_at]
        by_cases c1 : j = 231
        · simp [c1]
        by_cases c2 : j = 226
        · simp [c2]
        simp [c1, c2]
      · rw [fr_ne1 f13 n4]; rfl
end MODW
