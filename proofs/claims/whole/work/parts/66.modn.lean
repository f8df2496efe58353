/-! the reference: slides, turns, falls -/
section MODN
variable {G : mz_G} {K : mz_K} {T : mz_T} {I : mz_I} {L : mz_L}
theorem s_sl_go {e : Nat → Bool} {kd s : Nat} {r d : Int} : ∀ n c k, k < s_sl e kd s r d n c → s_fit e kd s (c + d * ((k + 1 : Nat) : Int)) r = true
  | 0, _, _, h => absurd h (Nat.not_lt_zero _)
  | n + 1, c, k, h => by
    unfold s_sl at h
    split at h
    · rename_i q
      cases k with
      | zero => simpa using q
      | succ k =>
        have := s_sl_go (e := e) (kd := kd) (s := s) (r := r) (d := d) n (c + d) k (by omega)
        have e2 : c + d * ((k + 1 + 1 : Nat) : Int) = c + d + d * ((k + 1 : Nat) : Int) := by
          rw [Int.natCast_add (k + 1), Int.mul_add]; simp; omega
        rw [e2]; exact this
    · exact absurd h (Nat.not_lt_zero _)
theorem s_sl_stop {e : Nat → Bool} {kd s : Nat} {r d : Int} : ∀ n c, s_sl e kd s r d n c < n → s_fit e kd s (c + d * ((s_sl e kd s r d n c + 1 : Nat) : Int)) r = false
  | 0, _, h => absurd h (Nat.not_lt_zero _)
  | n + 1, c, h => by
    unfold s_sl at h ⊢
    split
    · rename_i q
      rw [if_pos q] at h
      have := s_sl_stop (e := e) (kd := kd) (s := s) (r := r) (d := d) n (c + d) (by omega)
      have e2 : c + d * ((s_sl e kd s r d n (c + d) + 1 + 1 : Nat) : Int) = c + d + d * ((s_sl e kd s r d n (c + d) + 1 : Nat) : Int) := by
        rw [Int.natCast_add (s_sl e kd s r d n (c + d) + 1), Int.mul_add]; simp; omega
      rw [e2]; exact this
    · rename_i q
      simpa using q
theorem s_sl_lt {e : Nat → Bool} {kd s : Nat} {r d c : Int} (hk : kd < 7) (hs : s < 4) (hd : d = -1 ∨ d = 1) (h0 : s_fit e kd s c r = true) : s_sl e kd s r d 10 c < 10 := by
  have h1 := s_sl_le (e := e) (kd := kd) (s := s) (r := r) (d := d) 10 c
  by_cases q : s_sl e kd s r d 10 c = 10
  · have h2 := s_sl_go (e := e) (kd := kd) (s := s) (r := r) (d := d) 10 c 9 (by omega)
    have h3 := (s_fit_w hk hs h0).1
    have h4 := (s_fit_w hk hs h2).1
    rcases hd with e | e <;> subst e <;> omega
  · omega
theorem c_slidesM {D : Nat → Nat} {d : Int} (hM : p_Mo T D) (hC : p_Mc I D) (hp : d_ok (I (D 1))) (hd : d = -1 ∨ d = 1) (h : ∀ I', fr I I' [D 1] → I' (D 1) = o_slide (I (D 1)) d (I (D 2) 1) → K (some (.int (zI (m_sl (I (D 1)) d)))) T I' L) : mz_Ctr G M_X12_slides [.ref (D 0), .int (zI d)] T I L K := by
  refine mz_apartC fun hU => ?_
  obtain ⟨hp, hfit⟩ := hp
  obtain ⟨h0, ⟨r1, r2, -⟩, ⟨t1, t2, -⟩, -⟩ := id hM
  have ne : D 2 ≠ D 1 := mz_ne hU t2 t1 (by decide)
  obtain ⟨hp1, hfi⟩ := in_pos hp
  obtain ⟨⟨q1, q2, q3, q4⟩, hk, hs, hc, hr⟩ := id hp
  have hN : m_sl (I (D 1)) d < 10 := s_sl_lt hk hs hd hfit
  have hgo := s_sl_go (e := s_fm (I (D 1))) (kd := m_kd (I (D 1))) (s := m_st (I (D 1))) (r := m_r (I (D 1))) (d := d) 10 (m_c (I (D 1)))
  have hst := s_sl_stop (e := s_fm (I (D 1))) (kd := m_kd (I (D 1))) (s := m_st (I (D 1))) (r := m_r (I (D 1))) (d := d) 10 (m_c (I (D 1))) hN
  have hgo : ∀ k, k < m_sl (I (D 1)) d → s_fit (s_fm (I (D 1))) (m_kd (I (D 1))) (m_st (I (D 1))) (m_c (I (D 1)) + d * ((k + 1 : Nat) : Int)) (m_r (I (D 1))) = true := hgo
  have hst : s_fit (s_fm (I (D 1))) (m_kd (I (D 1))) (m_st (I (D 1))) (m_c (I (D 1)) + d * ((m_sl (I (D 1)) d + 1 : Nat) : Int)) (m_r (I (D 1))) = false := hst
  generalize hNe : m_sl (I (D 1)) d = N at hN hgo hst h
  have rowk : ∀ k : Nat, k ≤ N → d_pos (m_u (o_in (I (D 1))) 224 (zI (m_c (I (D 1)) + d * (k : Nat)))) ∧ m_kd (m_u (o_in (I (D 1))) 224 (zI (m_c (I (D 1)) + d * (k : Nat)))) = m_kd (I (D 1)) ∧ m_st (m_u (o_in (I (D 1))) 224 (zI (m_c (I (D 1)) + d * (k : Nat)))) = m_st (I (D 1)) ∧ s_fm (m_u (o_in (I (D 1))) 224 (zI (m_c (I (D 1)) + d * (k : Nat)))) = s_fm (I (D 1)) ∧ m_u (o_in (I (D 1))) 224 (zI (m_c (I (D 1)) + d * (k : Nat))) 225 = zI (m_r (I (D 1))) := by
    intro k hk9
    have e : ∀ j, j ≠ 229 → j ≠ 224 → m_u (o_in (I (D 1))) 224 (zI (m_c (I (D 1)) + d * (k : Nat))) j = I (D 1) j := fun j a b => by rw [m_u_ne b]; exact m_u_ne a
    have e1 : m_kd (m_u (o_in (I (D 1))) 224 (zI (m_c (I (D 1)) + d * (k : Nat)))) = m_kd (I (D 1)) := by unfold m_kd; rw [e 222 (by decide) (by decide)]
    have e2 : m_st (m_u (o_in (I (D 1))) 224 (zI (m_c (I (D 1)) + d * (k : Nat)))) = m_st (I (D 1)) := by unfold m_st; rw [e 223 (by decide) (by decide)]
    have hcb : -50 ≤ m_c (I (D 1)) + d * (k : Nat) ∧ m_c (I (D 1)) + d * (k : Nat) ≤ 50 := by
      by_cases k0 : k = 0
      · subst k0; simp; omega
      · have := s_fit_b hk hs (hgo (k - 1) (by omega))
        rw [show k - 1 + 1 = k by omega] at this
        omega
    have e3 : m_c (m_u (o_in (I (D 1))) 224 (zI (m_c (I (D 1)) + d * (k : Nat)))) = m_c (I (D 1)) + d * (k : Nat) := by
      show (m_u (o_in (I (D 1))) 224 (zI (m_c (I (D 1)) + d * (k : Nat))) 224).toInt = _
      rw [m_u_eq, z_toInt (by omega)]
    have e4 : m_r (m_u (o_in (I (D 1))) 224 (zI (m_c (I (D 1)) + d * (k : Nat)))) = m_r (I (D 1)) := by unfold m_r; rw [e 225 (by decide) (by decide)]
    refine ⟨⟨⟨?_, ?_, ?_, ?_⟩, ?_, ?_, ?_, ?_⟩, e1, e2, s_fm_eq (fun i hi => e i (by omega) (by omega)), ?_⟩
    · rw [e1, e 222 (by decide) (by decide)]; exact q1
    · rw [e2, e 223 (by decide) (by decide)]; exact q2
    · rw [e3, m_u_eq]
    · rw [e4, e 225 (by decide) (by decide)]; exact q4
    · rw [e1]; exact hk
    · rw [e2]; exact hs
    · rw [e3]; exact hcb
    · rw [e4]; exact hr
    · rw [e 225 (by decide) (by decide)]; exact q4
  have done : ∀ (I1 : mz_I), fr I I1 [D 1] → I1 (D 1) = m_u (o_in (I (D 1))) 224 (zI (m_c (I (D 1)) + d * (N : Nat))) → mz_W G M_X12_slides K mz_nX 62 [some (.ref (D 0)), some (.int (zI d)), some (.int (b2i (m_fit (I (D 1)) 0 (-1)))), some (.int (zI N))] [] T I1 L (0, 0) := by
    intro I1 f1 e1
    refine mz_vc ok_X12_slides [] [(), (), (), (), (), (), (), (), (), (), (), (), (), (), (), (), (), (), (), (), (), (), (), (), (), (), (), (), (), ()] ?_
    simp only [cd_X12_slides, h0, r1, ix_224 t1, n_224, ix_225 t1, n_225, ix_229 t1, n_229, ix_231 t1, n_231, r_rn0, r_rnc, r_vk0, r_vkc, r_vks, r_kci, r_kcv, r_ild, r_ald, r_lld, r_dld, r_Li, r_La, r_Ll, r_Ld, r_Ki, r_Ka, r_Kl, r_Kd, r_Kn, r_ist, r_ast, r_lst, r_dst, r_iinc, r_int, r_lng, r_dbl, r_i2, r_i1, r_l2, r_lsh, r_i2z, r_l2z, r_i2l, r_l2i, r_i2d, r_lcmp, r_ddiv, r_dcmpl, r_dup, r_dup2, r_pop, r_one_int, r_one_ref, r_go, r_if, r_ic, r_tsw, r_lsw, r_sw0, r_swc, r_lk0, r_lkc, r_kp, r_gI, r_gL, r_gR, r_pI, r_pZ, r_pL, r_pR, r_gs, r_ia, r_ca, r_za, r_la, r_da, r_aa, r_ias, r_cas, r_zas, r_las, r_das, r_aas, r_acp, r_new, r_nwa, r_nwq, r_ret, r_irt, r_zrt, r_lrt, r_drt, r_art, r_thr, r_cV0, r_cV1, r_cV2, r_cV3, r_cV4, r_cV5, r_cI0, r_cS0, r_cS1, r_cS2, r_cS3, r_cX0, r_cX1, r_cX2, r_cX3, r_rc, r_oi, r_refx, r_i10, r_i01, r_rfs, r_mem0, r_memc, r_beq, r_kl0, r_klz, r_kl1i, r_kl1r, r_kl1n, r_kl1l, r_kl1d, List.length_cons, List.length_nil, List.getElem?_cons_zero, List.getElem?_cons_succ, List.set_cons_zero, List.set_cons_succ, true_and, and_true, not_true, not_false_eq_true, false_implies, true_implies, or_true, true_or, or_false, false_or, Bool.or_false, Bool.false_or, decide_false, decide_true, Nat.reduceLT, Nat.reduceLeDiff, Nat.reduceAdd, Nat.reduceSub, ↓reduceIte, Nat.reduceEqDiff, Nat.lt_add_one]
    rw [l_0, z_le (by omega) (by omega)]
    refine ⟨fun q => ?_, fun q => ?_⟩
    · have e0 : N = 0 := by omega
      have eo : o_slide (I (D 1)) d (I (D 2) 1) = o_in (I (D 1)) := by unfold o_slide; rw [if_neg (by omega)]
      rw [eo] at h
      subst e0
      refine h I1 f1 ?_
      rw [e1]
      funext j
      by_cases c : j = 224
      · subst c
        rw [m_u_eq, show o_in (I (D 1)) 224 = I (D 1) 224 from m_u_ne (by decide), q3]
        simp
      · rw [m_u_ne c]
    · have eo : o_slide (I (D 1)) d (I (D 2) 1) = o_settles (m_u (m_u (o_in (I (D 1))) 224 (zI (m_c (I (D 1)) + d * (N : Nat)))) 231 (-1)) (m_fit (I (D 1)) 0 (-1)) (I (D 2) 1) := by
        unfold o_slide
        rw [hNe, if_pos (by omega)]
      rw [eo] at h
      refine c_settlesM hM (fun I' f2 e2 => ?_)
      simp only [cd_X12_slides, h0, r1, ix_224 t1, n_224, ix_225 t1, n_225, ix_229 t1, n_229, ix_231 t1, n_231, r_rn0, r_rnc, r_vk0, r_vkc, r_vks, r_kci, r_kcv, r_ild, r_ald, r_lld, r_dld, r_Li, r_La, r_Ll, r_Ld, r_Ki, r_Ka, r_Kl, r_Kd, r_Kn, r_ist, r_ast, r_lst, r_dst, r_iinc, r_int, r_lng, r_dbl, r_i2, r_i1, r_l2, r_lsh, r_i2z, r_l2z, r_i2l, r_l2i, r_i2d, r_lcmp, r_ddiv, r_dcmpl, r_dup, r_dup2, r_pop, r_one_int, r_one_ref, r_go, r_if, r_ic, r_tsw, r_lsw, r_sw0, r_swc, r_lk0, r_lkc, r_kp, r_gI, r_gL, r_gR, r_pI, r_pZ, r_pL, r_pR, r_gs, r_ia, r_ca, r_za, r_la, r_da, r_aa, r_ias, r_cas, r_zas, r_las, r_das, r_aas, r_acp, r_new, r_nwa, r_nwq, r_ret, r_irt, r_zrt, r_lrt, r_drt, r_art, r_thr, r_cV0, r_cV1, r_cV2, r_cV3, r_cV4, r_cV5, r_cI0, r_cS0, r_cS1, r_cS2, r_cS3, r_cX0, r_cX1, r_cX2, r_cX3, r_rc, r_oi, r_refx, r_i10, r_i01, r_rfs, r_mem0, r_memc, r_beq, r_kl0, r_klz, r_kl1i, r_kl1r, r_kl1n, r_kl1l, r_kl1d, List.length_cons, List.length_nil, List.getElem?_cons_zero, List.getElem?_cons_succ, List.set_cons_zero, List.set_cons_succ, true_and, and_true, not_true, not_false_eq_true, false_implies, true_implies, or_true, true_or, or_false, false_or, Bool.or_false, Bool.false_or, decide_false, decide_true, Nat.reduceLT, Nat.reduceLeDiff, Nat.reduceAdd, Nat.reduceSub, ↓reduceIte, Nat.reduceEqDiff, Nat.lt_add_one]
      refine h I' ?_ ?_
      · exact fr_tr1 (fr_u2 f1 (by simp)) f2 (fun _ q => q)
      · rw [e2, mz_u_row, e1, mz_u_ne ne, fr_ne1 f1 ne]
  have loop : ∀ k (I1 : mz_I), k ≤ N → fr I I1 [D 1] → I1 (D 1) = m_u (o_in (I (D 1))) 224 (zI (m_c (I (D 1)) + d * ((N - k : Nat) : Int))) → mz_W G M_X12_slides K mz_nX 19 [some (.ref (D 0)), some (.int (zI d)), some (.int (b2i (m_fit (I (D 1)) 0 (-1)))), some (.int (zI (N - k : Nat)))] [] T I1 L (0, 0) := by
    intro k
    induction k with
    | zero =>
      intro I1 _ f1 e1
      rw [Nat.sub_zero] at e1 ⊢
      obtain ⟨w1, w2, w3, w4, w5⟩ := rowk N (Nat.le_refl _)
      have hC1 := Mc_1 hU hM hC f1
      have e224 : I1 (D 1) 224 = zI (m_c (I (D 1)) + d * (N : Nat)) := by rw [e1, m_u_eq]
      have e225 : I1 (D 1) 225 = zI (m_r (I (D 1))) := by rw [e1]; exact w5
      have eq : m_c (I (D 1)) + d * (N : Nat) + d = m_c (I (D 1)) + d * ((N + 1 : Nat) : Int) := by
        rw [Int.natCast_add, Int.mul_add]; simp; omega
      have hcN := w1.2.2.2.1
      have e3 : m_c (m_u (o_in (I (D 1))) 224 (zI (m_c (I (D 1)) + d * (N : Nat)))) = m_c (I (D 1)) + d * (N : Nat) := by
        show (m_u (o_in (I (D 1))) 224 (zI (m_c (I (D 1)) + d * (N : Nat))) 224).toInt = _
        rw [m_u_eq, z_toInt (by rcases hd with e | e <;> subst e <;> omega)]
      rw [e3] at hcN
      refine mz_vc ok_X12_slides [19, 62] [(), (), (), (), (), (), (), (), (), (), (), (), (), (), (), (), (), (), (), (), (), (), (), (), (), (), (), (), (), ()] ?_
      simp only [cd_X12_slides, h0, r1, ix_224 t1, n_224, ix_225 t1, n_225, ix_229 t1, n_229, ix_231 t1, n_231, e224, e225, r_rn0, r_rnc, r_vk0, r_vkc, r_vks, r_kci, r_kcv, r_ild, r_ald, r_lld, r_dld, r_Li, r_La, r_Ll, r_Ld, r_Ki, r_Ka, r_Kl, r_Kd, r_Kn, r_ist, r_ast, r_lst, r_dst, r_iinc, r_int, r_lng, r_dbl, r_i2, r_i1, r_l2, r_lsh, r_i2z, r_l2z, r_i2l, r_l2i, r_i2d, r_lcmp, r_ddiv, r_dcmpl, r_dup, r_dup2, r_pop, r_one_int, r_one_ref, r_go, r_if, r_ic, r_tsw, r_lsw, r_sw0, r_swc, r_lk0, r_lkc, r_kp, r_gI, r_gL, r_gR, r_pI, r_pZ, r_pL, r_pR, r_gs, r_ia, r_ca, r_za, r_la, r_da, r_aa, r_ias, r_cas, r_zas, r_las, r_das, r_aas, r_acp, r_new, r_nwa, r_nwq, r_ret, r_irt, r_zrt, r_lrt, r_drt, r_art, r_thr, r_cV0, r_cV1, r_cV2, r_cV3, r_cV4, r_cV5, r_cI0, r_cS0, r_cS1, r_cS2, r_cS3, r_cX0, r_cX1, r_cX2, r_cX3, r_rc, r_oi, r_refx, r_i10, r_i01, r_rfs, r_mem0, r_memc, r_beq, r_kl0, r_klz, r_kl1i, r_kl1r, r_kl1n, r_kl1l, r_kl1d, List.length_cons, List.length_nil, List.getElem?_cons_zero, List.getElem?_cons_succ, List.set_cons_zero, List.set_cons_succ, true_and, and_true, not_true, not_false_eq_true, false_implies, true_implies, or_true, true_or, or_false, false_or, Bool.or_false, Bool.false_or, decide_false, decide_true, Nat.reduceLT, Nat.reduceLeDiff, Nat.reduceAdd, Nat.reduceSub, ↓reduceIte, Nat.reduceEqDiff, Nat.lt_add_one]
      rw [z_add]
      refine c_fitsAtM hM hC1 (by rw [e1]; exact w1) (by rcases hd with e | e <;> subst e <;> omega) (by omega) ?_
      rw [e1, w2, w3, w4, eq, hst]
      simp only [cd_X12_slides, h0, r1, ix_224 t1, n_224, ix_225 t1, n_225, ix_229 t1, n_229, ix_231 t1, n_231, b2i_f, r_rn0, r_rnc, r_vk0, r_vkc, r_vks, r_kci, r_kcv, r_ild, r_ald, r_lld, r_dld, r_Li, r_La, r_Ll, r_Ld, r_Ki, r_Ka, r_Kl, r_Kd, r_Kn, r_ist, r_ast, r_lst, r_dst, r_iinc, r_int, r_lng, r_dbl, r_i2, r_i1, r_l2, r_lsh, r_i2z, r_l2z, r_i2l, r_l2i, r_i2d, r_lcmp, r_ddiv, r_dcmpl, r_dup, r_dup2, r_pop, r_one_int, r_one_ref, r_go, r_if, r_ic, r_tsw, r_lsw, r_sw0, r_swc, r_lk0, r_lkc, r_kp, r_gI, r_gL, r_gR, r_pI, r_pZ, r_pL, r_pR, r_gs, r_ia, r_ca, r_za, r_la, r_da, r_aa, r_ias, r_cas, r_zas, r_las, r_das, r_aas, r_acp, r_new, r_nwa, r_nwq, r_ret, r_irt, r_zrt, r_lrt, r_drt, r_art, r_thr, r_cV0, r_cV1, r_cV2, r_cV3, r_cV4, r_cV5, r_cI0, r_cS0, r_cS1, r_cS2, r_cS3, r_cX0, r_cX1, r_cX2, r_cX3, r_rc, r_oi, r_refx, r_i10, r_i01, r_rfs, r_mem0, r_memc, r_beq, r_kl0, r_klz, r_kl1i, r_kl1r, r_kl1n, r_kl1l, r_kl1d, List.length_cons, List.length_nil, List.getElem?_cons_zero, List.getElem?_cons_succ, List.set_cons_zero, List.set_cons_succ, true_and, and_true, not_true, not_false_eq_true, false_implies, true_implies, or_true, true_or, or_false, false_or, Bool.or_false, Bool.false_or, decide_false, decide_true, Nat.reduceLT, Nat.reduceLeDiff, Nat.reduceAdd, Nat.reduceSub, ↓reduceIte, Nat.reduceEqDiff, Nat.lt_add_one]
      exact done I1 f1 e1
    | succ k ih =>
      intro I1 hk9 f1 e1
      obtain ⟨w1, w2, w3, w4, w5⟩ := rowk (N - (k + 1)) (by omega)
      have hC1 := Mc_1 hU hM hC f1
      have e224 : I1 (D 1) 224 = zI (m_c (I (D 1)) + d * ((N - (k + 1) : Nat) : Int)) := by rw [e1, m_u_eq]
      have e225 : I1 (D 1) 225 = zI (m_r (I (D 1))) := by rw [e1]; exact w5
      have eq : m_c (I (D 1)) + d * ((N - (k + 1) : Nat) : Int) + d = m_c (I (D 1)) + d * ((N - k : Nat) : Int) := by
        rw [show N - k = N - (k + 1) + 1 by omega, Int.natCast_add, Int.mul_add]; simp; omega
      have hy := hgo (N - (k + 1)) (by omega)
      rw [show N - (k + 1) + 1 = N - k by omega] at hy
      have hyb := s_fit_b hk hs hy
      refine mz_vc ok_X12_slides [19, 62] [(), (), (), (), (), (), (), (), (), (), (), (), (), (), (), (), (), (), (), (), (), (), (), (), (), (), (), (), (), ()] ?_
      simp only [cd_X12_slides, h0, r1, ix_224 t1, n_224, ix_225 t1, n_225, ix_229 t1, n_229, ix_231 t1, n_231, e224, e225, r_rn0, r_rnc, r_vk0, r_vkc, r_vks, r_kci, r_kcv, r_ild, r_ald, r_lld, r_dld, r_Li, r_La, r_Ll, r_Ld, r_Ki, r_Ka, r_Kl, r_Kd, r_Kn, r_ist, r_ast, r_lst, r_dst, r_iinc, r_int, r_lng, r_dbl, r_i2, r_i1, r_l2, r_lsh, r_i2z, r_l2z, r_i2l, r_l2i, r_i2d, r_lcmp, r_ddiv, r_dcmpl, r_dup, r_dup2, r_pop, r_one_int, r_one_ref, r_go, r_if, r_ic, r_tsw, r_lsw, r_sw0, r_swc, r_lk0, r_lkc, r_kp, r_gI, r_gL, r_gR, r_pI, r_pZ, r_pL, r_pR, r_gs, r_ia, r_ca, r_za, r_la, r_da, r_aa, r_ias, r_cas, r_zas, r_las, r_das, r_aas, r_acp, r_new, r_nwa, r_nwq, r_ret, r_irt, r_zrt, r_lrt, r_drt, r_art, r_thr, r_cV0, r_cV1, r_cV2, r_cV3, r_cV4, r_cV5, r_cI0, r_cS0, r_cS1, r_cS2, r_cS3, r_cX0, r_cX1, r_cX2, r_cX3, r_rc, r_oi, r_refx, r_i10, r_i01, r_rfs, r_mem0, r_memc, r_beq, r_kl0, r_klz, r_kl1i, r_kl1r, r_kl1n, r_kl1l, r_kl1d, List.length_cons, List.length_nil, List.getElem?_cons_zero, List.getElem?_cons_succ, List.set_cons_zero, List.set_cons_succ, true_and, and_true, not_true, not_false_eq_true, false_implies, true_implies, or_true, true_or, or_false, false_or, Bool.or_false, Bool.false_or, decide_false, decide_true, Nat.reduceLT, Nat.reduceLeDiff, Nat.reduceAdd, Nat.reduceSub, ↓reduceIte, Nat.reduceEqDiff, Nat.lt_add_one]
      rw [z_add, eq]
      refine c_fitsAtM hM hC1 (by rw [e1]; exact w1) (by omega) (by omega) ?_
      rw [e1, w2, w3, w4, hy]
      simp only [cd_X12_slides, h0, r1, ix_224 t1, n_224, ix_225 t1, n_225, ix_229 t1, n_229, ix_231 t1, n_231, b2i_t, e224, r_rn0, r_rnc, r_vk0, r_vkc, r_vks, r_kci, r_kcv, r_ild, r_ald, r_lld, r_dld, r_Li, r_La, r_Ll, r_Ld, r_Ki, r_Ka, r_Kl, r_Kd, r_Kn, r_ist, r_ast, r_lst, r_dst, r_iinc, r_int, r_lng, r_dbl, r_i2, r_i1, r_l2, r_lsh, r_i2z, r_l2z, r_i2l, r_l2i, r_i2d, r_lcmp, r_ddiv, r_dcmpl, r_dup, r_dup2, r_pop, r_one_int, r_one_ref, r_go, r_if, r_ic, r_tsw, r_lsw, r_sw0, r_swc, r_lk0, r_lkc, r_kp, r_gI, r_gL, r_gR, r_pI, r_pZ, r_pL, r_pR, r_gs, r_ia, r_ca, r_za, r_la, r_da, r_aa, r_ias, r_cas, r_zas, r_las, r_das, r_aas, r_acp, r_new, r_nwa, r_nwq, r_ret, r_irt, r_zrt, r_lrt, r_drt, r_art, r_thr, r_cV0, r_cV1, r_cV2, r_cV3, r_cV4, r_cV5, r_cI0, r_cS0, r_cS1, r_cS2, r_cS3, r_cX0, r_cX1, r_cX2, r_cX3, r_rc, r_oi, r_refx, r_i10, r_i01, r_rfs, r_mem0, r_memc, r_beq, r_kl0, r_klz, r_kl1i, r_kl1r, r_kl1n, r_kl1l, r_kl1d, List.length_cons, List.length_nil, List.getElem?_cons_zero, List.getElem?_cons_succ, List.set_cons_zero, List.set_cons_succ, true_and, and_true, not_true, not_false_eq_true, false_implies, true_implies, or_true, true_or, or_false, false_or, Bool.or_false, Bool.false_or, decide_false, decide_true, Nat.reduceLT, Nat.reduceLeDiff, Nat.reduceAdd, Nat.reduceSub, ↓reduceIte, Nat.reduceEqDiff, Nat.lt_add_one]
      rw [z_add, eq, z_1, show N - (k + 1) + 1 = N - k by omega]
      refine ih _ (by omega) (fr_u2 f1 (by simp)) ?_
      rw [mz_u_row, e1]
      funext j
      by_cases c : j = 224
      · subst c; rw [m_u_eq, m_u_eq]
      · rw [m_u_ne c, m_u_ne c, m_u_ne c]
  refine mz_ofl mk_X12_slides rfl (Nat.le_of_ble_eq_true rfl) (Nat.le_of_ble_eq_true rfl) [some (.ref (D 0)), some (.int (zI d)), none, none] rfl ?_
  refine mz_vc ok_X12_slides [19] [(), (), (), (), (), (), (), (), (), (), (), (), (), (), (), (), (), (), (), (), (), (), (), (), (), (), (), (), (), ()] ?_
  simp only [cd_X12_slides, h0, r1, ix_224 t1, n_224, ix_225 t1, n_225, ix_229 t1, n_229, ix_231 t1, n_231, r_rn0, r_rnc, r_vk0, r_vkc, r_vks, r_kci, r_kcv, r_ild, r_ald, r_lld, r_dld, r_Li, r_La, r_Ll, r_Ld, r_Ki, r_Ka, r_Kl, r_Kd, r_Kn, r_ist, r_ast, r_lst, r_dst, r_iinc, r_int, r_lng, r_dbl, r_i2, r_i1, r_l2, r_lsh, r_i2z, r_l2z, r_i2l, r_l2i, r_i2d, r_lcmp, r_ddiv, r_dcmpl, r_dup, r_dup2, r_pop, r_one_int, r_one_ref, r_go, r_if, r_ic, r_tsw, r_lsw, r_sw0, r_swc, r_lk0, r_lkc, r_kp, r_gI, r_gL, r_gR, r_pI, r_pZ, r_pL, r_pR, r_gs, r_ia, r_ca, r_za, r_la, r_da, r_aa, r_ias, r_cas, r_zas, r_las, r_das, r_aas, r_acp, r_new, r_nwa, r_nwq, r_ret, r_irt, r_zrt, r_lrt, r_drt, r_art, r_thr, r_cV0, r_cV1, r_cV2, r_cV3, r_cV4, r_cV5, r_cI0, r_cS0, r_cS1, r_cS2, r_cS3, r_cX0, r_cX1, r_cX2, r_cX3, r_rc, r_oi, r_refx, r_i10, r_i01, r_rfs, r_mem0, r_memc, r_beq, r_kl0, r_klz, r_kl1i, r_kl1r, r_kl1n, r_kl1l, r_kl1d, List.length_cons, List.length_nil, List.getElem?_cons_zero, List.getElem?_cons_succ, List.set_cons_zero, List.set_cons_succ, true_and, and_true, not_true, not_false_eq_true, false_implies, true_implies, or_true, true_or, or_false, false_or, Bool.or_false, Bool.false_or, decide_false, decide_true, Nat.reduceLT, Nat.reduceLeDiff, Nat.reduceAdd, Nat.reduceSub, ↓reduceIte, Nat.reduceEqDiff, Nat.lt_add_one]
  have er : mz_u I (D 1) 229 (I (D 1) 229 + 1) (D 1) = o_in (I (D 1)) := mz_u_row
  have f1 : fr I (mz_u I (D 1) 229 (I (D 1) 229 + 1)) [D 1] := fr_u
  refine c_canFallM hM (Mc_1 hU hM hC f1) (by rw [er]; exact hp1) ?_
  rw [er, hfi]
  simp only [cd_X12_slides, h0, r1, ix_224 t1, n_224, ix_225 t1, n_225, ix_229 t1, n_229, ix_231 t1, n_231, r_rn0, r_rnc, r_vk0, r_vkc, r_vks, r_kci, r_kcv, r_ild, r_ald, r_lld, r_dld, r_Li, r_La, r_Ll, r_Ld, r_Ki, r_Ka, r_Kl, r_Kd, r_Kn, r_ist, r_ast, r_lst, r_dst, r_iinc, r_int, r_lng, r_dbl, r_i2, r_i1, r_l2, r_lsh, r_i2z, r_l2z, r_i2l, r_l2i, r_i2d, r_lcmp, r_ddiv, r_dcmpl, r_dup, r_dup2, r_pop, r_one_int, r_one_ref, r_go, r_if, r_ic, r_tsw, r_lsw, r_sw0, r_swc, r_lk0, r_lkc, r_kp, r_gI, r_gL, r_gR, r_pI, r_pZ, r_pL, r_pR, r_gs, r_ia, r_ca, r_za, r_la, r_da, r_aa, r_ias, r_cas, r_zas, r_las, r_das, r_aas, r_acp, r_new, r_nwa, r_nwq, r_ret, r_irt, r_zrt, r_lrt, r_drt, r_art, r_thr, r_cV0, r_cV1, r_cV2, r_cV3, r_cV4, r_cV5, r_cI0, r_cS0, r_cS1, r_cS2, r_cS3, r_cX0, r_cX1, r_cX2, r_cX3, r_rc, r_oi, r_refx, r_i10, r_i01, r_rfs, r_mem0, r_memc, r_beq, r_kl0, r_klz, r_kl1i, r_kl1r, r_kl1n, r_kl1l, r_kl1d, List.length_cons, List.length_nil, List.getElem?_cons_zero, List.getElem?_cons_succ, List.set_cons_zero, List.set_cons_succ, true_and, and_true, not_true, not_false_eq_true, false_implies, true_implies, or_true, true_or, or_false, false_or, Bool.or_false, Bool.false_or, decide_false, decide_true, Nat.reduceLT, Nat.reduceLeDiff, Nat.reduceAdd, Nat.reduceSub, ↓reduceIte, Nat.reduceEqDiff, Nat.lt_add_one]
  have := loop N _ (Nat.le_refl _) f1 (by
    rw [er, Nat.sub_self]
    funext j
    by_cases c : j = 224
    · subst c
      rw [m_u_eq, show o_in (I (D 1)) 224 = I (D 1) 224 from m_u_ne (by decide), q3]
      simp
    · rw [m_u_ne c])
  rw [Nat.sub_self] at this
  exact this
theorem z_rot3 : ∀ s : Nat, s < 4 → (zI s + zI 1 + 4) &&& 3 = zI (s_rot s 1) ∧ (zI s + zI (-1) + 4) &&& 3 = zI (s_rot s (-1)) := by decide
theorem c_rotatesM {D : Nat → Nat} {d : Int} (hM : p_Mo T D) (hC : p_Mc I D) (hp : d_ok (I (D 1))) (hd : d = -1 ∨ d = 1)
    (h1 : ∀ i, i < s_km (m_kd (I (D 1))) → m_kf (I (D 1)) d i = true → (∀ j, j < i → m_kf (I (D 1)) d j = false) → ∀ I', fr I I' [D 1] → I' (D 1) = o_turned (I (D 1)) d (I (D 2) 1) i → K (some (.int (zI i))) T I' L)
    (h2 : (∀ j, j < s_km (m_kd (I (D 1))) → m_kf (I (D 1)) d j = false) → ∀ I', fr I I' [D 1] → I' (D 1) = o_in (I (D 1)) → K (some (.int (-1))) T I' L) : mz_Ctr G M_X12_rotates [.ref (D 0), .int (zI d)] T I L K := by
  refine mz_apartC fun hU => ?_
  obtain ⟨hp, hfit⟩ := hp
  obtain ⟨h0, ⟨r1, r2, -⟩, ⟨t1, t2, -⟩, -⟩ := id hM
  have ne : D 2 ≠ D 1 := mz_ne hU t2 t1 (by decide)
  obtain ⟨hp1, hfi⟩ := in_pos hp
  obtain ⟨⟨q1, q2, q3, q4⟩, hk, hs, hc, hr⟩ := id hp
  have hb := s_fit_b hk hs hfit
  have hkm := s_km_le (kd := m_kd (I (D 1)))
  have er : mz_u I (D 1) 229 (I (D 1) 229 + 1) (D 1) = o_in (I (D 1)) := mz_u_row
  have f1 : fr I (mz_u I (D 1) 229 (I (D 1) 229 + 1)) [D 1] := fr_u
  have hC1 := Mc_1 hU hM hC f1
  have i222 : o_in (I (D 1)) 222 = zI (m_kd (I (D 1))) := by rw [show o_in (I (D 1)) 222 = I (D 1) 222 from m_u_ne (by decide)]; exact q1
  have i223 : o_in (I (D 1)) 223 = zI (m_st (I (D 1))) := by rw [show o_in (I (D 1)) 223 = I (D 1) 223 from m_u_ne (by decide)]; exact q2
  have i224 : o_in (I (D 1)) 224 = zI (m_c (I (D 1))) := by rw [show o_in (I (D 1)) 224 = I (D 1) 224 from m_u_ne (by decide)]; exact q3
  have i225 : o_in (I (D 1)) 225 = zI (m_r (I (D 1))) := by rw [show o_in (I (D 1)) 225 = I (D 1) 225 from m_u_ne (by decide)]; exact q4
  have e5 := m_same (m := I (D 1)) (m' := o_in (I (D 1))) (fun j hj => m_u_ne (by omega))
  have hrot := s_rot_lt (s := m_st (I (D 1))) (d := d)
  have loop := mz_loop (N := s_km (m_kd (I (D 1)))) (fun i => (∀ j, j < i → m_kf (I (D 1)) d j = false) → mz_W G M_X12_rotates K mz_nX 35 [some (.ref (D 0)), some (.int (zI d)), some (.int (b2i (m_fit (I (D 1)) 0 (-1)))), some (.int (zI (s_rot (m_st (I (D 1))) d))), some (.int (zI i)), none, none] [] T (mz_u I (D 1) 229 (I (D 1) 229 + 1)) L (0, 0)) ?_ ?_ 0 (Nat.zero_le _) (fun j hj => absurd hj (Nat.not_lt_zero _))
  · refine mz_ofl mk_X12_rotates rfl (Nat.le_of_ble_eq_true rfl) (Nat.le_of_ble_eq_true rfl) [some (.ref (D 0)), some (.int (zI d)), none, none, none, none, none] rfl ?_
    refine mz_vc ok_X12_rotates [35] [(), (), (), (), (), (), (), (), (), (), (), (), (), (), (), (), (), (), (), (), (), (), (), (), (), (), (), (), (), ()] ?_
    simp only [cd_X12_rotates, h0, r1, ix_222 t1, n_222, ix_223 t1, n_223, ix_224 t1, n_224, ix_225 t1, n_225, ix_229 t1, n_229, ix_231 t1, n_231, er, i222, i223, i224, i225, r_rn0, r_rnc, r_vk0, r_vkc, r_vks, r_kci, r_kcv, r_ild, r_ald, r_lld, r_dld, r_Li, r_La, r_Ll, r_Ld, r_Ki, r_Ka, r_Kl, r_Kd, r_Kn, r_ist, r_ast, r_lst, r_dst, r_iinc, r_int, r_lng, r_dbl, r_i2, r_i1, r_l2, r_lsh, r_i2z, r_l2z, r_i2l, r_l2i, r_i2d, r_lcmp, r_ddiv, r_dcmpl, r_dup, r_dup2, r_pop, r_one_int, r_one_ref, r_go, r_if, r_ic, r_tsw, r_lsw, r_sw0, r_swc, r_lk0, r_lkc, r_kp, r_gI, r_gL, r_gR, r_pI, r_pZ, r_pL, r_pR, r_gs, r_ia, r_ca, r_za, r_la, r_da, r_aa, r_ias, r_cas, r_zas, r_las, r_das, r_aas, r_acp, r_new, r_nwa, r_nwq, r_ret, r_irt, r_zrt, r_lrt, r_drt, r_art, r_thr, r_cV0, r_cV1, r_cV2, r_cV3, r_cV4, r_cV5, r_cI0, r_cS0, r_cS1, r_cS2, r_cS3, r_cX0, r_cX1, r_cX2, r_cX3, r_rc, r_oi, r_refx, r_i10, r_i01, r_rfs, r_mem0, r_memc, r_beq, r_kl0, r_klz, r_kl1i, r_kl1r, r_kl1n, r_kl1l, r_kl1d, List.length_cons, List.length_nil, List.getElem?_cons_zero, List.getElem?_cons_succ, List.set_cons_zero, List.set_cons_succ, true_and, and_true, not_true, not_false_eq_true, false_implies, true_implies, or_true, true_or, or_false, false_or, Bool.or_false, Bool.false_or, decide_false, decide_true, Nat.reduceLT, Nat.reduceLeDiff, Nat.reduceAdd, Nat.reduceSub, ↓reduceIte, Nat.reduceEqDiff, Nat.lt_add_one]
    refine c_canFallM hM hC1 (by rw [er]; exact hp1) ?_
    rw [er, hfi]
    simp only [cd_X12_rotates, h0, r1, ix_222 t1, n_222, ix_223 t1, n_223, ix_224 t1, n_224, ix_225 t1, n_225, ix_229 t1, n_229, ix_231 t1, n_231, er, i222, i223, i224, i225, r_rn0, r_rnc, r_vk0, r_vkc, r_vks, r_kci, r_kcv, r_ild, r_ald, r_lld, r_dld, r_Li, r_La, r_Ll, r_Ld, r_Ki, r_Ka, r_Kl, r_Kd, r_Kn, r_ist, r_ast, r_lst, r_dst, r_iinc, r_int, r_lng, r_dbl, r_i2, r_i1, r_l2, r_lsh, r_i2z, r_l2z, r_i2l, r_l2i, r_i2d, r_lcmp, r_ddiv, r_dcmpl, r_dup, r_dup2, r_pop, r_one_int, r_one_ref, r_go, r_if, r_ic, r_tsw, r_lsw, r_sw0, r_swc, r_lk0, r_lkc, r_kp, r_gI, r_gL, r_gR, r_pI, r_pZ, r_pL, r_pR, r_gs, r_ia, r_ca, r_za, r_la, r_da, r_aa, r_ias, r_cas, r_zas, r_las, r_das, r_aas, r_acp, r_new, r_nwa, r_nwq, r_ret, r_irt, r_zrt, r_lrt, r_drt, r_art, r_thr, r_cV0, r_cV1, r_cV2, r_cV3, r_cV4, r_cV5, r_cI0, r_cS0, r_cS1, r_cS2, r_cS3, r_cX0, r_cX1, r_cX2, r_cX3, r_rc, r_oi, r_refx, r_i10, r_i01, r_rfs, r_mem0, r_memc, r_beq, r_kl0, r_klz, r_kl1i, r_kl1r, r_kl1n, r_kl1l, r_kl1d, List.length_cons, List.length_nil, List.getElem?_cons_zero, List.getElem?_cons_succ, List.set_cons_zero, List.set_cons_succ, true_and, and_true, not_true, not_false_eq_true, false_implies, true_implies, or_true, true_or, or_false, false_or, Bool.or_false, Bool.false_or, decide_false, decide_true, Nat.reduceLT, Nat.reduceLeDiff, Nat.reduceAdd, Nat.reduceSub, ↓reduceIte, Nat.reduceEqDiff, Nat.lt_add_one]
    have ez : (zI (m_st (I (D 1)) : Nat) + zI d + 4) &&& 3 = zI (s_rot (m_st (I (D 1))) d) := by
      rcases hd with e | e <;> subst e
      · exact (z_rot3 _ hs).2
      · exact (z_rot3 _ hs).1
    rw [ez]
    exact loop
  · intro hall
    refine mz_vc ok_X12_rotates [35] [(), (), (), (), (), (), (), (), (), (), (), (), (), (), (), (), (), (), (), (), (), (), (), (), (), (), (), (), (), ()] ?_
    simp only [cd_X12_rotates, h0, r1, ix_222 t1, n_222, ix_223 t1, n_223, ix_224 t1, n_224, ix_225 t1, n_225, ix_229 t1, n_229, ix_231 t1, n_231, er, i222, i223, i224, i225, r_rn0, r_rnc, r_vk0, r_vkc, r_vks, r_kci, r_kcv, r_ild, r_ald, r_lld, r_dld, r_Li, r_La, r_Ll, r_Ld, r_Ki, r_Ka, r_Kl, r_Kd, r_Kn, r_ist, r_ast, r_lst, r_dst, r_iinc, r_int, r_lng, r_dbl, r_i2, r_i1, r_l2, r_lsh, r_i2z, r_l2z, r_i2l, r_l2i, r_i2d, r_lcmp, r_ddiv, r_dcmpl, r_dup, r_dup2, r_pop, r_one_int, r_one_ref, r_go, r_if, r_ic, r_tsw, r_lsw, r_sw0, r_swc, r_lk0, r_lkc, r_kp, r_gI, r_gL, r_gR, r_pI, r_pZ, r_pL, r_pR, r_gs, r_ia, r_ca, r_za, r_la, r_da, r_aa, r_ias, r_cas, r_zas, r_las, r_das, r_aas, r_acp, r_new, r_nwa, r_nwq, r_ret, r_irt, r_zrt, r_lrt, r_drt, r_art, r_thr, r_cV0, r_cV1, r_cV2, r_cV3, r_cV4, r_cV5, r_cI0, r_cS0, r_cS1, r_cS2, r_cS3, r_cX0, r_cX1, r_cX2, r_cX3, r_rc, r_oi, r_refx, r_i10, r_i01, r_rfs, r_mem0, r_memc, r_beq, r_kl0, r_klz, r_kl1i, r_kl1r, r_kl1n, r_kl1l, r_kl1d, List.length_cons, List.length_nil, List.getElem?_cons_zero, List.getElem?_cons_succ, List.set_cons_zero, List.set_cons_succ, true_and, and_true, not_true, not_false_eq_true, false_implies, true_implies, or_true, true_or, or_false, false_or, Bool.or_false, Bool.false_or, decide_false, decide_true, Nat.reduceLT, Nat.reduceLeDiff, Nat.reduceAdd, Nat.reduceSub, ↓reduceIte, Nat.reduceEqDiff, Nat.lt_add_one]
    refine c_kickManyM hk ?_
    simp only [cd_X12_rotates, h0, r1, ix_222 t1, n_222, ix_223 t1, n_223, ix_224 t1, n_224, ix_225 t1, n_225, ix_229 t1, n_229, ix_231 t1, n_231, er, i222, i223, i224, i225, r_rn0, r_rnc, r_vk0, r_vkc, r_vks, r_kci, r_kcv, r_ild, r_ald, r_lld, r_dld, r_Li, r_La, r_Ll, r_Ld, r_Ki, r_Ka, r_Kl, r_Kd, r_Kn, r_ist, r_ast, r_lst, r_dst, r_iinc, r_int, r_lng, r_dbl, r_i2, r_i1, r_l2, r_lsh, r_i2z, r_l2z, r_i2l, r_l2i, r_i2d, r_lcmp, r_ddiv, r_dcmpl, r_dup, r_dup2, r_pop, r_one_int, r_one_ref, r_go, r_if, r_ic, r_tsw, r_lsw, r_sw0, r_swc, r_lk0, r_lkc, r_kp, r_gI, r_gL, r_gR, r_pI, r_pZ, r_pL, r_pR, r_gs, r_ia, r_ca, r_za, r_la, r_da, r_aa, r_ias, r_cas, r_zas, r_las, r_das, r_aas, r_acp, r_new, r_nwa, r_nwq, r_ret, r_irt, r_zrt, r_lrt, r_drt, r_art, r_thr, r_cV0, r_cV1, r_cV2, r_cV3, r_cV4, r_cV5, r_cI0, r_cS0, r_cS1, r_cS2, r_cS3, r_cX0, r_cX1, r_cX2, r_cX3, r_rc, r_oi, r_refx, r_i10, r_i01, r_rfs, r_mem0, r_memc, r_beq, r_kl0, r_klz, r_kl1i, r_kl1r, r_kl1n, r_kl1l, r_kl1d, List.length_cons, List.length_nil, List.getElem?_cons_zero, List.getElem?_cons_succ, List.set_cons_zero, List.set_cons_succ, true_and, and_true, not_true, not_false_eq_true, false_implies, true_implies, or_true, true_or, or_false, false_or, Bool.or_false, Bool.false_or, decide_false, decide_true, Nat.reduceLT, Nat.reduceLeDiff, Nat.reduceAdd, Nat.reduceSub, ↓reduceIte, Nat.reduceEqDiff, Nat.lt_add_one]
    refine ⟨fun _ => ?_, fun q => absurd (Int32.le_refl _) q⟩
    exact h2 hall _ f1 er
  · intro i hi ih hall
    have k1 := s_kt_lt (kd := m_kd (I (D 1))) (i := 2 * i) (by omega)
    have k2 := s_kt_lt (kd := m_kd (I (D 1))) (i := 2 * i + 1) (by omega)
    have k3 : -2 ≤ d * s_kt (m_kd (I (D 1))) (2 * i) ∧ d * s_kt (m_kd (I (D 1))) (2 * i) ≤ 2 := by rcases hd with e | e <;> subst e <;> omega
    refine mz_vc ok_X12_rotates [35] [(), (), (), (), (), (), (), (), (), (), (), (), (), (), (), (), (), (), (), (), (), (), (), (), (), (), (), (), (), ()] ?_
    simp only [cd_X12_rotates, h0, r1, ix_222 t1, n_222, ix_223 t1, n_223, ix_224 t1, n_224, ix_225 t1, n_225, ix_229 t1, n_229, ix_231 t1, n_231, er, i222, i223, i224, i225, r_rn0, r_rnc, r_vk0, r_vkc, r_vks, r_kci, r_kcv, r_ild, r_ald, r_lld, r_dld, r_Li, r_La, r_Ll, r_Ld, r_Ki, r_Ka, r_Kl, r_Kd, r_Kn, r_ist, r_ast, r_lst, r_dst, r_iinc, r_int, r_lng, r_dbl, r_i2, r_i1, r_l2, r_lsh, r_i2z, r_l2z, r_i2l, r_l2i, r_i2d, r_lcmp, r_ddiv, r_dcmpl, r_dup, r_dup2, r_pop, r_one_int, r_one_ref, r_go, r_if, r_ic, r_tsw, r_lsw, r_sw0, r_swc, r_lk0, r_lkc, r_kp, r_gI, r_gL, r_gR, r_pI, r_pZ, r_pL, r_pR, r_gs, r_ia, r_ca, r_za, r_la, r_da, r_aa, r_ias, r_cas, r_zas, r_las, r_das, r_aas, r_acp, r_new, r_nwa, r_nwq, r_ret, r_irt, r_zrt, r_lrt, r_drt, r_art, r_thr, r_cV0, r_cV1, r_cV2, r_cV3, r_cV4, r_cV5, r_cI0, r_cS0, r_cS1, r_cS2, r_cS3, r_cX0, r_cX1, r_cX2, r_cX3, r_rc, r_oi, r_refx, r_i10, r_i01, r_rfs, r_mem0, r_memc, r_beq, r_kl0, r_klz, r_kl1i, r_kl1r, r_kl1n, r_kl1l, r_kl1d, List.length_cons, List.length_nil, List.getElem?_cons_zero, List.getElem?_cons_succ, List.set_cons_zero, List.set_cons_succ, true_and, and_true, not_true, not_false_eq_true, false_implies, true_implies, or_true, true_or, or_false, false_or, Bool.or_false, Bool.false_or, decide_false, decide_true, Nat.reduceLT, Nat.reduceLeDiff, Nat.reduceAdd, Nat.reduceSub, ↓reduceIte, Nat.reduceEqDiff, Nat.lt_add_one]
    refine c_kickManyM hk ?_
    simp only [cd_X12_rotates, h0, r1, ix_222 t1, n_222, ix_223 t1, n_223, ix_224 t1, n_224, ix_225 t1, n_225, ix_229 t1, n_229, ix_231 t1, n_231, er, i222, i223, i224, i225, r_rn0, r_rnc, r_vk0, r_vkc, r_vks, r_kci, r_kcv, r_ild, r_ald, r_lld, r_dld, r_Li, r_La, r_Ll, r_Ld, r_Ki, r_Ka, r_Kl, r_Kd, r_Kn, r_ist, r_ast, r_lst, r_dst, r_iinc, r_int, r_lng, r_dbl, r_i2, r_i1, r_l2, r_lsh, r_i2z, r_l2z, r_i2l, r_l2i, r_i2d, r_lcmp, r_ddiv, r_dcmpl, r_dup, r_dup2, r_pop, r_one_int, r_one_ref, r_go, r_if, r_ic, r_tsw, r_lsw, r_sw0, r_swc, r_lk0, r_lkc, r_kp, r_gI, r_gL, r_gR, r_pI, r_pZ, r_pL, r_pR, r_gs, r_ia, r_ca, r_za, r_la, r_da, r_aa, r_ias, r_cas, r_zas, r_las, r_das, r_aas, r_acp, r_new, r_nwa, r_nwq, r_ret, r_irt, r_zrt, r_lrt, r_drt, r_art, r_thr, r_cV0, r_cV1, r_cV2, r_cV3, r_cV4, r_cV5, r_cI0, r_cS0, r_cS1, r_cS2, r_cS3, r_cX0, r_cX1, r_cX2, r_cX3, r_rc, r_oi, r_refx, r_i10, r_i01, r_rfs, r_mem0, r_memc, r_beq, r_kl0, r_klz, r_kl1i, r_kl1r, r_kl1n, r_kl1l, r_kl1d, List.length_cons, List.length_nil, List.getElem?_cons_zero, List.getElem?_cons_succ, List.set_cons_zero, List.set_cons_succ, true_and, and_true, not_true, not_false_eq_true, false_implies, true_implies, or_true, true_or, or_false, false_or, Bool.or_false, Bool.false_or, decide_false, decide_true, Nat.reduceLT, Nat.reduceLeDiff, Nat.reduceAdd, Nat.reduceSub, ↓reduceIte, Nat.reduceEqDiff, Nat.lt_add_one]
    refine ⟨z_no (by omega) (by omega) hi, fun _ => ?_⟩
    refine c_kickM (w := 0) hM hC1 hk hi (by decide) ?_
    rw [if_pos rfl]
    simp only [cd_X12_rotates, h0, r1, ix_222 t1, n_222, ix_223 t1, n_223, ix_224 t1, n_224, ix_225 t1, n_225, ix_229 t1, n_229, ix_231 t1, n_231, er, i222, i223, i224, i225, r_rn0, r_rnc, r_vk0, r_vkc, r_vks, r_kci, r_kcv, r_ild, r_ald, r_lld, r_dld, r_Li, r_La, r_Ll, r_Ld, r_Ki, r_Ka, r_Kl, r_Kd, r_Kn, r_ist, r_ast, r_lst, r_dst, r_iinc, r_int, r_lng, r_dbl, r_i2, r_i1, r_l2, r_lsh, r_i2z, r_l2z, r_i2l, r_l2i, r_i2d, r_lcmp, r_ddiv, r_dcmpl, r_dup, r_dup2, r_pop, r_one_int, r_one_ref, r_go, r_if, r_ic, r_tsw, r_lsw, r_sw0, r_swc, r_lk0, r_lkc, r_kp, r_gI, r_gL, r_gR, r_pI, r_pZ, r_pL, r_pR, r_gs, r_ia, r_ca, r_za, r_la, r_da, r_aa, r_ias, r_cas, r_zas, r_las, r_das, r_aas, r_acp, r_new, r_nwa, r_nwq, r_ret, r_irt, r_zrt, r_lrt, r_drt, r_art, r_thr, r_cV0, r_cV1, r_cV2, r_cV3, r_cV4, r_cV5, r_cI0, r_cS0, r_cS1, r_cS2, r_cS3, r_cX0, r_cX1, r_cX2, r_cX3, r_rc, r_oi, r_refx, r_i10, r_i01, r_rfs, r_mem0, r_memc, r_beq, r_kl0, r_klz, r_kl1i, r_kl1r, r_kl1n, r_kl1l, r_kl1d, List.length_cons, List.length_nil, List.getElem?_cons_zero, List.getElem?_cons_succ, List.set_cons_zero, List.set_cons_succ, true_and, and_true, not_true, not_false_eq_true, false_implies, true_implies, or_true, true_or, or_false, false_or, Bool.or_false, Bool.false_or, decide_false, decide_true, Nat.reduceLT, Nat.reduceLeDiff, Nat.reduceAdd, Nat.reduceSub, ↓reduceIte, Nat.reduceEqDiff, Nat.lt_add_one]
    rw [z_add]
    refine c_kickM (w := 1) hM hC1 hk hi (by decide) ?_
    rw [if_neg (by decide)]
    simp only [cd_X12_rotates, h0, r1, ix_222 t1, n_222, ix_223 t1, n_223, ix_224 t1, n_224, ix_225 t1, n_225, ix_229 t1, n_229, ix_231 t1, n_231, er, i222, i223, i224, i225, r_rn0, r_rnc, r_vk0, r_vkc, r_vks, r_kci, r_kcv, r_ild, r_ald, r_lld, r_dld, r_Li, r_La, r_Ll, r_Ld, r_Ki, r_Ka, r_Kl, r_Kd, r_Kn, r_ist, r_ast, r_lst, r_dst, r_iinc, r_int, r_lng, r_dbl, r_i2, r_i1, r_l2, r_lsh, r_i2z, r_l2z, r_i2l, r_l2i, r_i2d, r_lcmp, r_ddiv, r_dcmpl, r_dup, r_dup2, r_pop, r_one_int, r_one_ref, r_go, r_if, r_ic, r_tsw, r_lsw, r_sw0, r_swc, r_lk0, r_lkc, r_kp, r_gI, r_gL, r_gR, r_pI, r_pZ, r_pL, r_pR, r_gs, r_ia, r_ca, r_za, r_la, r_da, r_aa, r_ias, r_cas, r_zas, r_las, r_das, r_aas, r_acp, r_new, r_nwa, r_nwq, r_ret, r_irt, r_zrt, r_lrt, r_drt, r_art, r_thr, r_cV0, r_cV1, r_cV2, r_cV3, r_cV4, r_cV5, r_cI0, r_cS0, r_cS1, r_cS2, r_cS3, r_cX0, r_cX1, r_cX2, r_cX3, r_rc, r_oi, r_refx, r_i10, r_i01, r_rfs, r_mem0, r_memc, r_beq, r_kl0, r_klz, r_kl1i, r_kl1r, r_kl1n, r_kl1l, r_kl1d, List.length_cons, List.length_nil, List.getElem?_cons_zero, List.getElem?_cons_succ, List.set_cons_zero, List.set_cons_succ, true_and, and_true, not_true, not_false_eq_true, false_implies, true_implies, or_true, true_or, or_false, false_or, Bool.or_false, Bool.false_or, decide_false, decide_true, Nat.reduceLT, Nat.reduceLeDiff, Nat.reduceAdd, Nat.reduceSub, ↓reduceIte, Nat.reduceEqDiff, Nat.lt_add_one]
    rw [z_add]
    refine c_fitsM hM hC1 hk hrot (by omega) (by omega) ?_
    rw [er, e5.2.2.2.2]
    have em : s_fit (s_fm (I (D 1))) (m_kd (I (D 1))) (s_rot (m_st (I (D 1))) d) (m_c (I (D 1)) + d * s_kt (m_kd (I (D 1))) (2 * i)) (m_r (I (D 1)) + s_kt (m_kd (I (D 1))) (2 * i + 1)) = m_kf (I (D 1)) d i := rfl
    rw [em]
    simp only [cd_X12_rotates, h0, r1, ix_222 t1, n_222, ix_223 t1, n_223, ix_224 t1, n_224, ix_225 t1, n_225, ix_229 t1, n_229, ix_231 t1, n_231, er, i222, i223, i224, i225, b2i_0, r_rn0, r_rnc, r_vk0, r_vkc, r_vks, r_kci, r_kcv, r_ild, r_ald, r_lld, r_dld, r_Li, r_La, r_Ll, r_Ld, r_Ki, r_Ka, r_Kl, r_Kd, r_Kn, r_ist, r_ast, r_lst, r_dst, r_iinc, r_int, r_lng, r_dbl, r_i2, r_i1, r_l2, r_lsh, r_i2z, r_l2z, r_i2l, r_l2i, r_i2d, r_lcmp, r_ddiv, r_dcmpl, r_dup, r_dup2, r_pop, r_one_int, r_one_ref, r_go, r_if, r_ic, r_tsw, r_lsw, r_sw0, r_swc, r_lk0, r_lkc, r_kp, r_gI, r_gL, r_gR, r_pI, r_pZ, r_pL, r_pR, r_gs, r_ia, r_ca, r_za, r_la, r_da, r_aa, r_ias, r_cas, r_zas, r_las, r_das, r_aas, r_acp, r_new, r_nwa, r_nwq, r_ret, r_irt, r_zrt, r_lrt, r_drt, r_art, r_thr, r_cV0, r_cV1, r_cV2, r_cV3, r_cV4, r_cV5, r_cI0, r_cS0, r_cS1, r_cS2, r_cS3, r_cX0, r_cX1, r_cX2, r_cX3, r_rc, r_oi, r_refx, r_i10, r_i01, r_rfs, r_mem0, r_memc, r_beq, r_kl0, r_klz, r_kl1i, r_kl1r, r_kl1n, r_kl1l, r_kl1d, List.length_cons, List.length_nil, List.getElem?_cons_zero, List.getElem?_cons_succ, List.set_cons_zero, List.set_cons_succ, true_and, and_true, not_true, not_false_eq_true, false_implies, true_implies, or_true, true_or, or_false, false_or, Bool.or_false, Bool.false_or, decide_false, decide_true, Nat.reduceLT, Nat.reduceLeDiff, Nat.reduceAdd, Nat.reduceSub, ↓reduceIte, Nat.reduceEqDiff, Nat.lt_add_one]
    refine ⟨fun q => ?_, fun q => ?_⟩
    · rw [z_1]
      exact mz_forget (ih (fun j hj => by
        by_cases c : j = i
        · rw [c]; exact q
        · exact hall j (by omega))) rfl (mz_fg_s (mz_fg_s (mz_fg_s (mz_fg_s (mz_fg_s (mz_fg_n (mz_fg_n mz_fg_0)))))))
    · have q : m_kf (I (D 1)) d i = true := by simpa using q
      refine c_settlesM hM (fun I' f2 e2 => ?_)
      simp only [cd_X12_rotates, h0, r1, ix_222 t1, n_222, ix_223 t1, n_223, ix_224 t1, n_224, ix_225 t1, n_225, ix_229 t1, n_229, ix_231 t1, n_231, er, i222, i223, i224, i225, r_rn0, r_rnc, r_vk0, r_vkc, r_vks, r_kci, r_kcv, r_ild, r_ald, r_lld, r_dld, r_Li, r_La, r_Ll, r_Ld, r_Ki, r_Ka, r_Kl, r_Kd, r_Kn, r_ist, r_ast, r_lst, r_dst, r_iinc, r_int, r_lng, r_dbl, r_i2, r_i1, r_l2, r_lsh, r_i2z, r_l2z, r_i2l, r_l2i, r_i2d, r_lcmp, r_ddiv, r_dcmpl, r_dup, r_dup2, r_pop, r_one_int, r_one_ref, r_go, r_if, r_ic, r_tsw, r_lsw, r_sw0, r_swc, r_lk0, r_lkc, r_kp, r_gI, r_gL, r_gR, r_pI, r_pZ, r_pL, r_pR, r_gs, r_ia, r_ca, r_za, r_la, r_da, r_aa, r_ias, r_cas, r_zas, r_las, r_das, r_aas, r_acp, r_new, r_nwa, r_nwq, r_ret, r_irt, r_zrt, r_lrt, r_drt, r_art, r_thr, r_cV0, r_cV1, r_cV2, r_cV3, r_cV4, r_cV5, r_cI0, r_cS0, r_cS1, r_cS2, r_cS3, r_cX0, r_cX1, r_cX2, r_cX3, r_rc, r_oi, r_refx, r_i10, r_i01, r_rfs, r_mem0, r_memc, r_beq, r_kl0, r_klz, r_kl1i, r_kl1r, r_kl1n, r_kl1l, r_kl1d, List.length_cons, List.length_nil, List.getElem?_cons_zero, List.getElem?_cons_succ, List.set_cons_zero, List.set_cons_succ, true_and, and_true, not_true, not_false_eq_true, false_implies, true_implies, or_true, true_or, or_false, false_or, Bool.or_false, Bool.false_or, decide_false, decide_true, Nat.reduceLT, Nat.reduceLeDiff, Nat.reduceAdd, Nat.reduceSub, ↓reduceIte, Nat.reduceEqDiff, Nat.lt_add_one]
      refine h1 i hi q hall I' ?_ ?_
      · exact fr_tr1 (fr_u2 (fr_u2 (fr_u2 (fr_u2 f1 (by simp)) (by simp)) (by simp)) (by simp)) f2 (fun _ q => q)
      · rw [e2, mz_u_row, mz_u_row, mz_u_row, mz_u_row, er, mz_u_ne ne, mz_u_ne ne, mz_u_ne ne, mz_u_ne ne, mz_u_ne ne]
        rfl
end MODN
