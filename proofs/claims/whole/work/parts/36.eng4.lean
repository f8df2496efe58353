/-! the engine: rows to fall, spins -/
section ENG4
variable {G : mz_G} {K : mz_K} {T : mz_T} {I : mz_I} {L : mz_L}
def s_rm (e : Nat → Bool) (kd s : Nat) (c : Int) : Nat → Int → Nat
  | 0, _ => 0
  | n + 1, r => if s_fit e kd s c (r - 1) then s_rm e kd s c n (r - 1) + 1 else 0
theorem s_rm_cg {e e' : Nat → Bool} (h : ∀ i, i < 220 → e i = e' i) {kd s : Nat} {c : Int} : ∀ n r, s_rm e kd s c n r = s_rm e' kd s c n r
  | 0, _ => rfl
  | n + 1, r => by unfold s_rm; rw [s_fit_cg h, s_rm_cg h n]
theorem s_rm_le {e : Nat → Bool} {kd s : Nat} {c : Int} : ∀ n r, s_rm e kd s c n r ≤ n
  | 0, _ => Nat.le_refl 0
  | n + 1, r => by unfold s_rm; have := s_rm_le (e := e) (kd := kd) (s := s) (c := c) n (r - 1); split <;> omega
theorem s_rm_fit {e : Nat → Bool} {kd s : Nat} {c : Int} : ∀ n r, 0 < s_rm e kd s c n r → s_fit e kd s c (r - (s_rm e kd s c n r : Nat)) = true := by
  intro n
  induction n with
  | zero => intro r h; exact absurd h (Nat.lt_irrefl 0)
  | succ n ih =>
    intro r h
    unfold s_rm at h ⊢
    by_cases q : s_fit e kd s c (r - 1) = true
    · rw [if_pos q]
      by_cases q2 : 0 < s_rm e kd s c n (r - 1)
      · have := ih (r - 1) q2
        rw [show r - ((s_rm e kd s c n (r - 1) + 1 : Nat) : Int) = r - 1 - (s_rm e kd s c n (r - 1) : Nat) by omega]
        exact this
      · rw [show s_rm e kd s c n (r - 1) = 0 by omega]
        simpa using q
    · rw [if_neg q] at h; exact absurd h (Nat.lt_irrefl 0)
def m_room (m : Nat → Int32) : Nat := s_rm (s_fm m) (m_kd m) (m_st m) (m_c m) 22 (m_r m)
theorem c_sinkFar {en : Nat} {A : z_A} {B : Nat} {m : Nat → Int32} (hE : p_E T en A) (h : p_R T I L A B m) (hl : m 221 = 0)
    (hk : ∀ I', fr I I' [A.p] → p_Pos T I' A.p (m_kd m) (m_st m) (m_c m) (m_r m - (m_room m : Nat)) → K (some (.int (zI (m_room m)))) T I' L) : mz_Ctr G M_X1_sinkAsFarAsPossible [.ref en] T I L K := by
  refine mz_apartC fun hU => ?_
  obtain ⟨e1, e2⟩ := hE
  obtain ⟨⟨g1, g2, g3, g4, g5⟩, hF, hX, hB9, hS⟩ := id h.sh
  obtain ⟨f1, f2, f3⟩ := id hF
  obtain ⟨x1, x2, x3⟩ := id hX
  obtain ⟨hp, hq, hfit⟩ := h.now hl
  have hkd : m_kd m < 7 ∧ m_st m < 4 := ⟨hp.2.2.2.2.2.1, hp.2.2.2.2.2.2.1⟩
  have hb := s_fit_b hkd.1 hkd.2 hfit
  have hkp : A.k ≠ A.p := mz_ne hU f2 x3 (by decide)
  refine mz_ofl mk_X1_sinkAsFarAsPossible rfl (Nat.le_of_ble_eq_true rfl) (Nat.le_of_ble_eq_true rfl) [some (.ref en), none] rfl ?_
  have key := mz_loop (N := 22) (fun n => ∀ I', fr I I' [A.p] → p_Pos T I' A.p (m_kd m) (m_st m) (m_c m) (m_r m - n) → m_room m = n + s_rm (s_fm m) (m_kd m) (m_st m) (m_c m) (22 - n) (m_r m - n) → mz_W G M_X1_sinkAsFarAsPossible K mz_nX 2 [some (.ref en), some (.int (zI n))] [] T I' L (0, 0)) ?_ ?_ 0 (Nat.zero_le _)
  · refine mz_vc ok_X1_sinkAsFarAsPossible [2] [(), (), (), (), (), (), (), (), (), (), (), (), (), (), (), (), (), (), (), (), (), (), (), (), (), (), (), (), (), ()] ?_
    simp only [cd_X1_sinkAsFarAsPossible, e1, e2, g1, g2, g3, x1, x2, x3, r_rn0, r_rnc, r_vk0, r_vkc, r_vks, r_kci, r_kcv, r_ild, r_ald, r_lld, r_dld, r_Li, r_La, r_Ll, r_Ld, r_Ki, r_Ka, r_Kl, r_Kd, r_Kn, r_ist, r_ast, r_lst, r_dst, r_iinc, r_int, r_lng, r_dbl, r_i2, r_i1, r_l2, r_lsh, r_i2z, r_l2z, r_i2l, r_l2i, r_i2d, r_lcmp, r_ddiv, r_dcmpl, r_dup, r_dup2, r_pop, r_one_int, r_one_ref, r_go, r_if, r_ic, r_tsw, r_lsw, r_sw0, r_swc, r_lk0, r_lkc, r_kp, r_gI, r_gL, r_gR, r_pI, r_pZ, r_pL, r_pR, r_gs, r_ia, r_ca, r_za, r_la, r_da, r_aa, r_ias, r_cas, r_zas, r_las, r_das, r_aas, r_acp, r_new, r_nwa, r_nwq, r_ret, r_irt, r_zrt, r_lrt, r_drt, r_art, r_thr, r_cV0, r_cV1, r_cV2, r_cV3, r_cV4, r_cV5, r_cI0, r_cS0, r_cS1, r_cS2, r_cS3, r_cX0, r_cX1, r_cX2, r_cX3, r_rc, r_oi, r_refx, r_i10, r_i01, r_rfs, r_mem0, r_memc, r_beq, r_kl0, r_klz, r_kl1i, r_kl1r, r_kl1n, r_kl1l, r_kl1d, List.length_cons, List.length_nil, List.getElem?_cons_zero, List.getElem?_cons_succ, List.set_cons_zero, List.set_cons_succ, true_and, and_true, not_true, not_false_eq_true, false_implies, true_implies, or_true, true_or, or_false, false_or, Bool.or_false, Bool.false_or, decide_false, decide_true, Nat.reduceLT, Nat.reduceLeDiff, Nat.reduceAdd, Nat.reduceSub, ↓reduceIte, Nat.reduceEqDiff, Nat.lt_add_one]
    exact key I fr_refl (by simpa using hp) (by unfold m_room; simp)
  · intro I' hf' hp' he
    refine mz_vc ok_X1_sinkAsFarAsPossible [2] [(), (), (), (), (), (), (), (), (), (), (), (), (), (), (), (), (), (), (), (), (), (), (), (), (), (), (), (), (), ()] ?_
    simp only [cd_X1_sinkAsFarAsPossible, e1, e2, g1, g2, g3, x1, x2, x3, r_rn0, r_rnc, r_vk0, r_vkc, r_vks, r_kci, r_kcv, r_ild, r_ald, r_lld, r_dld, r_Li, r_La, r_Ll, r_Ld, r_Ki, r_Ka, r_Kl, r_Kd, r_Kn, r_ist, r_ast, r_lst, r_dst, r_iinc, r_int, r_lng, r_dbl, r_i2, r_i1, r_l2, r_lsh, r_i2z, r_l2z, r_i2l, r_l2i, r_i2d, r_lcmp, r_ddiv, r_dcmpl, r_dup, r_dup2, r_pop, r_one_int, r_one_ref, r_go, r_if, r_ic, r_tsw, r_lsw, r_sw0, r_swc, r_lk0, r_lkc, r_kp, r_gI, r_gL, r_gR, r_pI, r_pZ, r_pL, r_pR, r_gs, r_ia, r_ca, r_za, r_la, r_da, r_aa, r_ias, r_cas, r_zas, r_las, r_das, r_aas, r_acp, r_new, r_nwa, r_nwq, r_ret, r_irt, r_zrt, r_lrt, r_drt, r_art, r_thr, r_cV0, r_cV1, r_cV2, r_cV3, r_cV4, r_cV5, r_cI0, r_cS0, r_cS1, r_cS2, r_cS3, r_cX0, r_cX1, r_cX2, r_cX3, r_rc, r_oi, r_refx, r_i10, r_i01, r_rfs, r_mem0, r_memc, r_beq, r_kl0, r_klz, r_kl1i, r_kl1r, r_kl1n, r_kl1l, r_kl1d, List.length_cons, List.length_nil, List.getElem?_cons_zero, List.getElem?_cons_succ, List.set_cons_zero, List.set_cons_succ, true_and, and_true, not_true, not_false_eq_true, false_implies, true_implies, or_true, true_or, or_false, false_or, Bool.or_false, Bool.false_or, decide_false, decide_true, Nat.reduceLT, Nat.reduceLeDiff, Nat.reduceAdd, Nat.reduceSub, ↓reduceIte, Nat.reduceEqDiff, Nat.lt_add_one]
    refine ⟨fun _ => ?_, fun q => absurd (by decide) q⟩
    have e : m_room m = 22 := by rw [he]; rfl
    rw [e] at hk
    exact hk I' hf' hp'
  · intro n hn ih I' hf' hp' he
    refine mz_vc ok_X1_sinkAsFarAsPossible [2] [(), (), (), (), (), (), (), (), (), (), (), (), (), (), (), (), (), (), (), (), (), (), (), (), (), (), (), (), (), ()] ?_
    simp only [cd_X1_sinkAsFarAsPossible, e1, e2, g1, g2, g3, x1, x2, x3, r_rn0, r_rnc, r_vk0, r_vkc, r_vks, r_kci, r_kcv, r_ild, r_ald, r_lld, r_dld, r_Li, r_La, r_Ll, r_Ld, r_Ki, r_Ka, r_Kl, r_Kd, r_Kn, r_ist, r_ast, r_lst, r_dst, r_iinc, r_int, r_lng, r_dbl, r_i2, r_i1, r_l2, r_lsh, r_i2z, r_l2z, r_i2l, r_l2i, r_i2d, r_lcmp, r_ddiv, r_dcmpl, r_dup, r_dup2, r_pop, r_one_int, r_one_ref, r_go, r_if, r_ic, r_tsw, r_lsw, r_sw0, r_swc, r_lk0, r_lkc, r_kp, r_gI, r_gL, r_gR, r_pI, r_pZ, r_pL, r_pR, r_gs, r_ia, r_ca, r_za, r_la, r_da, r_aa, r_ias, r_cas, r_zas, r_las, r_das, r_aas, r_acp, r_new, r_nwa, r_nwq, r_ret, r_irt, r_zrt, r_lrt, r_drt, r_art, r_thr, r_cV0, r_cV1, r_cV2, r_cV3, r_cV4, r_cV5, r_cI0, r_cS0, r_cS1, r_cS2, r_cS3, r_cX0, r_cX1, r_cX2, r_cX3, r_rc, r_oi, r_refx, r_i10, r_i01, r_rfs, r_mem0, r_memc, r_beq, r_kl0, r_klz, r_kl1i, r_kl1r, r_kl1n, r_kl1l, r_kl1d, List.length_cons, List.length_nil, List.getElem?_cons_zero, List.getElem?_cons_succ, List.set_cons_zero, List.set_cons_succ, true_and, and_true, not_true, not_false_eq_true, false_implies, true_implies, or_true, true_or, or_false, false_or, Bool.or_false, Bool.false_or, decide_false, decide_true, Nat.reduceLT, Nat.reduceLeDiff, Nat.reduceAdd, Nat.reduceSub, ↓reduceIte, Nat.reduceEqDiff, Nat.lt_add_one]
    refine ⟨z_no (b := 22) (by omega) (by omega) hn, fun _ => ?_⟩
    obtain ⟨k, hk9⟩ : ∃ k, 22 - n = k + 1 := ⟨21 - n, by omega⟩
    have hk2 : 22 - (n + 1) = k := by omega
    rw [hk9] at he
    have er : m_r m - n + -1 = m_r m - (n + 1 : Nat) := by omega
    have ef : s_fit (s_fl (I' A.k)) (m_kd m) (m_st m) (m_c m + 0) (m_r m - n + -1) = s_fit (s_fm m) (m_kd m) (m_st m) (m_c m) (m_r m - n - 1) := by
      rw [fr_ne1 hf' hkp, s_fit_cg h.fl, Int.add_zero, show m_r m - (n : Int) + -1 = m_r m - n - 1 by omega]
    refine c_moveBy (dc := 0) (dr := -1) hp' hF (by omega) (by omega) (fun q => ?_) (fun q => ?_)
    · rw [ef] at q
      simp only [cd_X1_sinkAsFarAsPossible, e1, e2, g1, g2, g3, x1, x2, x3, r_rn0, r_rnc, r_vk0, r_vkc, r_vks, r_kci, r_kcv, r_ild, r_ald, r_lld, r_dld, r_Li, r_La, r_Ll, r_Ld, r_Ki, r_Ka, r_Kl, r_Kd, r_Kn, r_ist, r_ast, r_lst, r_dst, r_iinc, r_int, r_lng, r_dbl, r_i2, r_i1, r_l2, r_lsh, r_i2z, r_l2z, r_i2l, r_l2i, r_i2d, r_lcmp, r_ddiv, r_dcmpl, r_dup, r_dup2, r_pop, r_one_int, r_one_ref, r_go, r_if, r_ic, r_tsw, r_lsw, r_sw0, r_swc, r_lk0, r_lkc, r_kp, r_gI, r_gL, r_gR, r_pI, r_pZ, r_pL, r_pR, r_gs, r_ia, r_ca, r_za, r_la, r_da, r_aa, r_ias, r_cas, r_zas, r_las, r_das, r_aas, r_acp, r_new, r_nwa, r_nwq, r_ret, r_irt, r_zrt, r_lrt, r_drt, r_art, r_thr, r_cV0, r_cV1, r_cV2, r_cV3, r_cV4, r_cV5, r_cI0, r_cS0, r_cS1, r_cS2, r_cS3, r_cX0, r_cX1, r_cX2, r_cX3, r_rc, r_oi, r_refx, r_i10, r_i01, r_rfs, r_mem0, r_memc, r_beq, r_kl0, r_klz, r_kl1i, r_kl1r, r_kl1n, r_kl1l, r_kl1d, List.length_cons, List.length_nil, List.getElem?_cons_zero, List.getElem?_cons_succ, List.set_cons_zero, List.set_cons_succ, true_and, and_true, not_true, not_false_eq_true, false_implies, true_implies, or_true, true_or, or_false, false_or, Bool.or_false, Bool.false_or, decide_false, decide_true, Nat.reduceLT, Nat.reduceLeDiff, Nat.reduceAdd, Nat.reduceSub, ↓reduceIte, Nat.reduceEqDiff, Nat.lt_add_one]
      rw [z_1]
      have hp2 := p_Pos_mv (c' := m_c m + 0) (r' := m_r m - n + -1) hp' (by omega) (by omega)
      rw [er, Int.add_zero] at hp2 ⊢
      refine ih _ (fr_u2 (fr_u2 hf' (by simp)) (by simp)) hp2 ?_
      rw [hk2, he]
      unfold s_rm
      rw [if_pos q, show m_r m - (n : Int) - 1 = m_r m - (n + 1 : Nat) by omega]
      cases k <;> simp [s_rm] <;> omega
    · rw [ef] at q
      simp only [cd_X1_sinkAsFarAsPossible, e1, e2, g1, g2, g3, x1, x2, x3, r_rn0, r_rnc, r_vk0, r_vkc, r_vks, r_kci, r_kcv, r_ild, r_ald, r_lld, r_dld, r_Li, r_La, r_Ll, r_Ld, r_Ki, r_Ka, r_Kl, r_Kd, r_Kn, r_ist, r_ast, r_lst, r_dst, r_iinc, r_int, r_lng, r_dbl, r_i2, r_i1, r_l2, r_lsh, r_i2z, r_l2z, r_i2l, r_l2i, r_i2d, r_lcmp, r_ddiv, r_dcmpl, r_dup, r_dup2, r_pop, r_one_int, r_one_ref, r_go, r_if, r_ic, r_tsw, r_lsw, r_sw0, r_swc, r_lk0, r_lkc, r_kp, r_gI, r_gL, r_gR, r_pI, r_pZ, r_pL, r_pR, r_gs, r_ia, r_ca, r_za, r_la, r_da, r_aa, r_ias, r_cas, r_zas, r_las, r_das, r_aas, r_acp, r_new, r_nwa, r_nwq, r_ret, r_irt, r_zrt, r_lrt, r_drt, r_art, r_thr, r_cV0, r_cV1, r_cV2, r_cV3, r_cV4, r_cV5, r_cI0, r_cS0, r_cS1, r_cS2, r_cS3, r_cX0, r_cX1, r_cX2, r_cX3, r_rc, r_oi, r_refx, r_i10, r_i01, r_rfs, r_mem0, r_memc, r_beq, r_kl0, r_klz, r_kl1i, r_kl1r, r_kl1n, r_kl1l, r_kl1d, List.length_cons, List.length_nil, List.getElem?_cons_zero, List.getElem?_cons_succ, List.set_cons_zero, List.set_cons_succ, true_and, and_true, not_true, not_false_eq_true, false_implies, true_implies, or_true, true_or, or_false, false_or, Bool.or_false, Bool.false_or, decide_false, decide_true, Nat.reduceLT, Nat.reduceLeDiff, Nat.reduceAdd, Nat.reduceSub, ↓reduceIte, Nat.reduceEqDiff, Nat.lt_add_one]
      have e : m_room m = n := by rw [he]; unfold s_rm; rw [if_neg (by rw [q]; decide)]; rfl
      rw [e] at hk
      exact hk I' hf' hp'
theorem p_R_pos {A : z_A} {B : Nat} {m : Nat → Int32} {I' : mz_I} (hU : ∀ a x y, (a, x) ∈ T.1 → (a, y) ∈ T.1 → x = y) (h : p_R T I L A B m) (hf : fr I I' [A.p]) (he : ∀ i, i < 4 → I' A.p i = I A.p i) : p_R T I' L A B m := by
  obtain ⟨⟨g1, g2, g3, g4, g5⟩, ⟨f1, f2, f3⟩, ⟨x1, x2, x3⟩, ⟨b1, b2, b3⟩, ⟨s1, s2, s3, s4, s5⟩⟩ := id h.sh
  have n0 : ∀ {a : Nat} {x : Nat × Nat}, (a, x) ∈ T.1 → x ≠ (0, 8) → I' a = I a := fun q e => fr_ne1 hf (mz_ne hU q x3 e)
  exact p_R_of h h.sh (fun i _ => by rw [n0 f2 (by decide)]) he (fun i _ _ => by rw [n0 x1 (by decide)]) (fun i _ => by rw [n0 b2 (by decide)]) rfl (by rw [n0 b1 (by decide)]) (fun i _ => by rw [n0 s1 (by decide)]) (fun i _ => by rw [n0 s2 (by decide)]) (fun i _ => by rw [n0 s3 (by decide)]) (fun i _ _ => by rw [n0 g1 (by decide)])
theorem c_rowsToFall {en : Nat} {A : z_A} {B : Nat} {m : Nat → Int32} (hE : p_E T en A) (h : p_R T I L A B m) (hl : m 221 = 0)
    (hk : ∀ I', fr I I' [A.p] → p_R T I' L A B m → K (some (.int (zI (m_room m)))) T I' L) : mz_Ctr G M_X1_rowsToFall [.ref en] T I L K := by
  refine mz_apartC fun hU => ?_
  obtain ⟨e1, e2⟩ := id hE
  obtain ⟨⟨g1, g2, g3, g4, g5⟩, hF, hX, hB9, hS⟩ := id h.sh
  obtain ⟨x1, x2, x3⟩ := id hX
  obtain ⟨hp, hq, hfit⟩ := h.now hl
  obtain ⟨p1, p2, p3, p4, p5, p6⟩ := id hp
  refine mz_ofl mk_X1_rowsToFall rfl (Nat.le_of_ble_eq_true rfl) (Nat.le_of_ble_eq_true rfl) [some (.ref en), none, none, none] rfl ?_
  refine mz_vc ok_X1_rowsToFall [] [(), (), (), (), (), (), (), (), (), (), (), (), (), (), (), (), (), (), (), (), (), (), (), (), (), (), (), (), (), ()] ?_
  simp only [cd_X1_rowsToFall, e1, e2, g1, g3, x1, x2, x3, r_rn0, r_rnc, r_vk0, r_vkc, r_vks, r_kci, r_kcv, r_ild, r_ald, r_lld, r_dld, r_Li, r_La, r_Ll, r_Ld, r_Ki, r_Ka, r_Kl, r_Kd, r_Kn, r_ist, r_ast, r_lst, r_dst, r_iinc, r_int, r_lng, r_dbl, r_i2, r_i1, r_l2, r_lsh, r_i2z, r_l2z, r_i2l, r_l2i, r_i2d, r_lcmp, r_ddiv, r_dcmpl, r_dup, r_dup2, r_pop, r_one_int, r_one_ref, r_go, r_if, r_ic, r_tsw, r_lsw, r_sw0, r_swc, r_lk0, r_lkc, r_kp, r_gI, r_gL, r_gR, r_pI, r_pZ, r_pL, r_pR, r_gs, r_ia, r_ca, r_za, r_la, r_da, r_aa, r_ias, r_cas, r_zas, r_las, r_das, r_aas, r_acp, r_new, r_nwa, r_nwq, r_ret, r_irt, r_zrt, r_lrt, r_drt, r_art, r_thr, r_cV0, r_cV1, r_cV2, r_cV3, r_cV4, r_cV5, r_cI0, r_cS0, r_cS1, r_cS2, r_cS3, r_cX0, r_cX1, r_cX2, r_cX3, r_rc, r_oi, r_refx, r_i10, r_i01, r_rfs, r_mem0, r_memc, r_beq, r_kl0, r_klz, r_kl1i, r_kl1r, r_kl1n, r_kl1l, r_kl1d, List.length_cons, List.length_nil, List.getElem?_cons_zero, List.getElem?_cons_succ, List.set_cons_zero, List.set_cons_succ, true_and, and_true, not_true, not_false_eq_true, false_implies, true_implies, or_true, true_or, or_false, false_or, Bool.or_false, Bool.false_or, decide_false, decide_true, Nat.reduceLT, Nat.reduceLeDiff, Nat.reduceAdd, Nat.reduceSub, ↓reduceIte, Nat.reduceEqDiff, Nat.lt_add_one]
  refine c_sinkFar hE h hl (fun I' hf' hp' => ?_)
  simp only [cd_X1_rowsToFall, e1, e2, g1, g3, x1, x2, x3, r_rn0, r_rnc, r_vk0, r_vkc, r_vks, r_kci, r_kcv, r_ild, r_ald, r_lld, r_dld, r_Li, r_La, r_Ll, r_Ld, r_Ki, r_Ka, r_Kl, r_Kd, r_Kn, r_ist, r_ast, r_lst, r_dst, r_iinc, r_int, r_lng, r_dbl, r_i2, r_i1, r_l2, r_lsh, r_i2z, r_l2z, r_i2l, r_l2i, r_i2d, r_lcmp, r_ddiv, r_dcmpl, r_dup, r_dup2, r_pop, r_one_int, r_one_ref, r_go, r_if, r_ic, r_tsw, r_lsw, r_sw0, r_swc, r_lk0, r_lkc, r_kp, r_gI, r_gL, r_gR, r_pI, r_pZ, r_pL, r_pR, r_gs, r_ia, r_ca, r_za, r_la, r_da, r_aa, r_ias, r_cas, r_zas, r_las, r_das, r_aas, r_acp, r_new, r_nwa, r_nwq, r_ret, r_irt, r_zrt, r_lrt, r_drt, r_art, r_thr, r_cV0, r_cV1, r_cV2, r_cV3, r_cV4, r_cV5, r_cI0, r_cS0, r_cS1, r_cS2, r_cS3, r_cX0, r_cX1, r_cX2, r_cX3, r_rc, r_oi, r_refx, r_i10, r_i01, r_rfs, r_mem0, r_memc, r_beq, r_kl0, r_klz, r_kl1i, r_kl1r, r_kl1n, r_kl1l, r_kl1d, List.length_cons, List.length_nil, List.getElem?_cons_zero, List.getElem?_cons_succ, List.set_cons_zero, List.set_cons_succ, true_and, and_true, not_true, not_false_eq_true, false_implies, true_implies, or_true, true_or, or_false, false_or, Bool.or_false, Bool.false_or, decide_false, decide_true, Nat.reduceLT, Nat.reduceLeDiff, Nat.reduceAdd, Nat.reduceSub, ↓reduceIte, Nat.reduceEqDiff, Nat.lt_add_one]
  obtain ⟨w1, w2, w3, w4, w5, w6⟩ := id hp'
  have f2 : fr I (mz_u I' A.p 3 (I A.p 3)) [A.p] := fr_u2 hf' (by simp)
  refine hk _ f2 (p_R_pos hU h f2 (fun i hi => ?_))
  have : i = 0 ∨ i = 1 ∨ i = 2 ∨ i = 3 := by omega
  rcases this with e | e | e | e <;> subst e
  · rw [mz_u_nk (by decide), w2, p2]
  · rw [mz_u_nk (by decide), w3, p3]
  · rw [mz_u_nk (by decide), w4, p4]
  · rw [mz_u_eq]
def s_cx (i : Nat) : Int := if i = 1 ∨ i = 2 then 2 else 0
def s_cy (i : Nat) : Int := if i < 2 then 2 else 0
def m_co (m : Nat → Int32) (i : Nat) : Bool := s_at (s_fm m) (m_c m + s_cx i) (m_r m + s_cy i)
theorem c_corner {en i : Nat} {A : z_A} {B : Nat} {m : Nat → Int32} (hE : p_E T en A) (h : p_R T I L A B m) (hl : m 221 = 0) (hi : i < 4)
    (hk : K (some (.int (b2i (m_co m i)))) T I L) : mz_Ctr G M_X1_isCornerFilled [.ref en, .int (zI i)] T I L K := by
  obtain ⟨e1, e2⟩ := id hE
  obtain ⟨⟨g1, g2, g3, g4, g5⟩, hF, hX, hB9, hS⟩ := id h.sh
  obtain ⟨f1, f2, f3⟩ := id hF
  obtain ⟨x1, x2, x3⟩ := id hX
  obtain ⟨hp, hq, hfit⟩ := h.now hl
  obtain ⟨p1, p2, p3, p4, p5, p6⟩ := id hp
  have hkd : m_kd m < 7 ∧ m_st m < 4 := ⟨p6.1, p6.2.1⟩
  have hb := s_fit_b hkd.1 hkd.2 hfit
  refine mz_ofl mk_X1_isCornerFilled rfl (Nat.le_of_ble_eq_true rfl) (Nat.le_of_ble_eq_true rfl) [some (.ref en), some (.int (zI i)), none, none] rfl ?_
  have go : ∀ a b : Int, a = s_cx i → b = s_cy i → mz_W G M_X1_isCornerFilled K mz_nX 26 [some (.ref en), some (.int (zI i)), some (.int (zI a)), none] [.int (zI b)] T I L (0, 0) := by
    intro a b ha hb2
    have ba : 0 ≤ a ∧ a ≤ 2 := by rw [ha]; unfold s_cx; split <;> omega
    have bb : 0 ≤ b ∧ b ≤ 2 := by rw [hb2]; unfold s_cy; split <;> omega
    refine mz_vc ok_X1_isCornerFilled [] [(), (), (), (), (), (), (), (), (), (), (), (), (), (), (), (), (), (), (), (), (), (), (), (), (), (), (), (), (), ()] ?_
    simp only [cd_X1_isCornerFilled, e1, e2, g1, g2, g3, f1, x1, x2, x3, p4, p5, r_rn0, r_rnc, r_vk0, r_vkc, r_vks, r_kci, r_kcv, r_ild, r_ald, r_lld, r_dld, r_Li, r_La, r_Ll, r_Ld, r_Ki, r_Ka, r_Kl, r_Kd, r_Kn, r_ist, r_ast, r_lst, r_dst, r_iinc, r_int, r_lng, r_dbl, r_i2, r_i1, r_l2, r_lsh, r_i2z, r_l2z, r_i2l, r_l2i, r_i2d, r_lcmp, r_ddiv, r_dcmpl, r_dup, r_dup2, r_pop, r_one_int, r_one_ref, r_go, r_if, r_ic, r_tsw, r_lsw, r_sw0, r_swc, r_lk0, r_lkc, r_kp, r_gI, r_gL, r_gR, r_pI, r_pZ, r_pL, r_pR, r_gs, r_ia, r_ca, r_za, r_la, r_da, r_aa, r_ias, r_cas, r_zas, r_las, r_das, r_aas, r_acp, r_new, r_nwa, r_nwq, r_ret, r_irt, r_zrt, r_lrt, r_drt, r_art, r_thr, r_cV0, r_cV1, r_cV2, r_cV3, r_cV4, r_cV5, r_cI0, r_cS0, r_cS1, r_cS2, r_cS3, r_cX0, r_cX1, r_cX2, r_cX3, r_rc, r_oi, r_refx, r_i10, r_i01, r_rfs, r_mem0, r_memc, r_beq, r_kl0, r_klz, r_kl1i, r_kl1r, r_kl1n, r_kl1l, r_kl1d, List.length_cons, List.length_nil, List.getElem?_cons_zero, List.getElem?_cons_succ, List.set_cons_zero, List.set_cons_succ, true_and, and_true, not_true, not_false_eq_true, false_implies, true_implies, or_true, true_or, or_false, false_or, Bool.or_false, Bool.false_or, decide_false, decide_true, Nat.reduceLT, Nat.reduceLeDiff, Nat.reduceAdd, Nat.reduceSub, ↓reduceIte, Nat.reduceEqDiff, Nat.lt_add_one]
    rw [z_add, z_add]
    refine c_isFilled hF (by omega) (by omega) ?_
    simp only [cd_X1_isCornerFilled, e1, e2, g1, g2, g3, f1, x1, x2, x3, p4, p5, r_rn0, r_rnc, r_vk0, r_vkc, r_vks, r_kci, r_kcv, r_ild, r_ald, r_lld, r_dld, r_Li, r_La, r_Ll, r_Ld, r_Ki, r_Ka, r_Kl, r_Kd, r_Kn, r_ist, r_ast, r_lst, r_dst, r_iinc, r_int, r_lng, r_dbl, r_i2, r_i1, r_l2, r_lsh, r_i2z, r_l2z, r_i2l, r_l2i, r_i2d, r_lcmp, r_ddiv, r_dcmpl, r_dup, r_dup2, r_pop, r_one_int, r_one_ref, r_go, r_if, r_ic, r_tsw, r_lsw, r_sw0, r_swc, r_lk0, r_lkc, r_kp, r_gI, r_gL, r_gR, r_pI, r_pZ, r_pL, r_pR, r_gs, r_ia, r_ca, r_za, r_la, r_da, r_aa, r_ias, r_cas, r_zas, r_las, r_das, r_aas, r_acp, r_new, r_nwa, r_nwq, r_ret, r_irt, r_zrt, r_lrt, r_drt, r_art, r_thr, r_cV0, r_cV1, r_cV2, r_cV3, r_cV4, r_cV5, r_cI0, r_cS0, r_cS1, r_cS2, r_cS3, r_cX0, r_cX1, r_cX2, r_cX3, r_rc, r_oi, r_refx, r_i10, r_i01, r_rfs, r_mem0, r_memc, r_beq, r_kl0, r_klz, r_kl1i, r_kl1r, r_kl1n, r_kl1l, r_kl1d, List.length_cons, List.length_nil, List.getElem?_cons_zero, List.getElem?_cons_succ, List.set_cons_zero, List.set_cons_succ, true_and, and_true, not_true, not_false_eq_true, false_implies, true_implies, or_true, true_or, or_false, false_or, Bool.or_false, Bool.false_or, decide_false, decide_true, Nat.reduceLT, Nat.reduceLeDiff, Nat.reduceAdd, Nat.reduceSub, ↓reduceIte, Nat.reduceEqDiff, Nat.lt_add_one]
    rw [s_at_cg h.fl, ha, hb2]
    exact ⟨b2i_01 _, hk⟩
  have mid : ∀ a : Int, a = s_cx i → mz_W G M_X1_isCornerFilled K mz_nX 15 [some (.ref en), some (.int (zI i)), none, none] [.int (zI a)] T I L (0, 0) := by
    intro a ha
    refine mz_vc ok_X1_isCornerFilled [26] [(), (), (), (), (), (), (), (), (), (), (), (), (), (), (), (), (), (), (), (), (), (), (), (), (), (), (), (), (), ()] ?_
    simp only [cd_X1_isCornerFilled, e1, e2, g1, g2, g3, f1, x1, x2, x3, p4, p5, r_rn0, r_rnc, r_vk0, r_vkc, r_vks, r_kci, r_kcv, r_ild, r_ald, r_lld, r_dld, r_Li, r_La, r_Ll, r_Ld, r_Ki, r_Ka, r_Kl, r_Kd, r_Kn, r_ist, r_ast, r_lst, r_dst, r_iinc, r_int, r_lng, r_dbl, r_i2, r_i1, r_l2, r_lsh, r_i2z, r_l2z, r_i2l, r_l2i, r_i2d, r_lcmp, r_ddiv, r_dcmpl, r_dup, r_dup2, r_pop, r_one_int, r_one_ref, r_go, r_if, r_ic, r_tsw, r_lsw, r_sw0, r_swc, r_lk0, r_lkc, r_kp, r_gI, r_gL, r_gR, r_pI, r_pZ, r_pL, r_pR, r_gs, r_ia, r_ca, r_za, r_la, r_da, r_aa, r_ias, r_cas, r_zas, r_las, r_das, r_aas, r_acp, r_new, r_nwa, r_nwq, r_ret, r_irt, r_zrt, r_lrt, r_drt, r_art, r_thr, r_cV0, r_cV1, r_cV2, r_cV3, r_cV4, r_cV5, r_cI0, r_cS0, r_cS1, r_cS2, r_cS3, r_cX0, r_cX1, r_cX2, r_cX3, r_rc, r_oi, r_refx, r_i10, r_i01, r_rfs, r_mem0, r_memc, r_beq, r_kl0, r_klz, r_kl1i, r_kl1r, r_kl1n, r_kl1l, r_kl1d, List.length_cons, List.length_nil, List.getElem?_cons_zero, List.getElem?_cons_succ, List.set_cons_zero, List.set_cons_succ, true_and, and_true, not_true, not_false_eq_true, false_implies, true_implies, or_true, true_or, or_false, false_or, Bool.or_false, Bool.false_or, decide_false, decide_true, Nat.reduceLT, Nat.reduceLeDiff, Nat.reduceAdd, Nat.reduceSub, ↓reduceIte, Nat.reduceEqDiff, Nat.lt_add_one]
    rw [l_2, z_le (by omega) (by omega)]
    exact ⟨fun q => go a 0 ha (by unfold s_cy; rw [if_neg (by omega)]), fun q => go a 2 ha (by unfold s_cy; rw [if_pos (by omega)])⟩
  refine mz_vc ok_X1_isCornerFilled [15] [(), (), (), (), (), (), (), (), (), (), (), (), (), (), (), (), (), (), (), (), (), (), (), (), (), (), (), (), (), ()] ?_
  simp only [cd_X1_isCornerFilled, e1, e2, g1, g2, g3, f1, x1, x2, x3, p4, p5, r_rn0, r_rnc, r_vk0, r_vkc, r_vks, r_kci, r_kcv, r_ild, r_ald, r_lld, r_dld, r_Li, r_La, r_Ll, r_Ld, r_Ki, r_Ka, r_Kl, r_Kd, r_Kn, r_ist, r_ast, r_lst, r_dst, r_iinc, r_int, r_lng, r_dbl, r_i2, r_i1, r_l2, r_lsh, r_i2z, r_l2z, r_i2l, r_l2i, r_i2d, r_lcmp, r_ddiv, r_dcmpl, r_dup, r_dup2, r_pop, r_one_int, r_one_ref, r_go, r_if, r_ic, r_tsw, r_lsw, r_sw0, r_swc, r_lk0, r_lkc, r_kp, r_gI, r_gL, r_gR, r_pI, r_pZ, r_pL, r_pR, r_gs, r_ia, r_ca, r_za, r_la, r_da, r_aa, r_ias, r_cas, r_zas, r_las, r_das, r_aas, r_acp, r_new, r_nwa, r_nwq, r_ret, r_irt, r_zrt, r_lrt, r_drt, r_art, r_thr, r_cV0, r_cV1, r_cV2, r_cV3, r_cV4, r_cV5, r_cI0, r_cS0, r_cS1, r_cS2, r_cS3, r_cX0, r_cX1, r_cX2, r_cX3, r_rc, r_oi, r_refx, r_i10, r_i01, r_rfs, r_mem0, r_memc, r_beq, r_kl0, r_klz, r_kl1i, r_kl1r, r_kl1n, r_kl1l, r_kl1d, List.length_cons, List.length_nil, List.getElem?_cons_zero, List.getElem?_cons_succ, List.set_cons_zero, List.set_cons_succ, true_and, and_true, not_true, not_false_eq_true, false_implies, true_implies, or_true, true_or, or_false, false_or, Bool.or_false, Bool.false_or, decide_false, decide_true, Nat.reduceLT, Nat.reduceLeDiff, Nat.reduceAdd, Nat.reduceSub, ↓reduceIte, Nat.reduceEqDiff, Nat.lt_add_one]
  rw [l_1, l_2, z_eq (by omega) (by omega), z_eq (by omega) (by omega)]
  exact ⟨fun q => mid 2 (by unfold s_cx; rw [if_pos (by omega)]), fun q => ⟨fun q2 => mid 0 (by unfold s_cx; rw [if_neg (by omega)]), fun q2 => mid 2 (by unfold s_cx; rw [if_pos (by omega)])⟩⟩
end ENG4
