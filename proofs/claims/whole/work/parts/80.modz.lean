/-! the reference's search: placements -/
section MODZ
variable {G : mz_G} {K : mz_K} {T : mz_T} {I : mz_I} {L : mz_L}
def y_in (a : List Int) (v : Int) : Nat → List Int
  | 0 => a.set 0 v
  | k + 1 => if v < a.getD k 0 then y_in (a.set (k + 1) (a.getD k 0)) v k else a.set (k + 1) v
def y_w (kd s i : Nat) : Int := 10 * (d_b kd i s).2 + (d_b kd i s).1
def y_so (kd s : Nat) : Nat → List Int
  | 0 => [0, 0, 0, 0]
  | i + 1 => y_in (y_so kd s i) (y_w kd s i) i
theorem y_soT : ∀ kd, kd < 7 → ∀ s, s < 4 → (∀ j, j < 4 → (y_so kd s 4).getD j 0 = (s_cell kd s j : Nat)) ∧ (∀ i, i < 5 → (y_so kd s i).length = 4) ∧ (∀ i, i < 5 → ∀ j, j < 4 → 0 ≤ (y_so kd s i).getD j 0 ∧ (y_so kd s i).getD j 0 < 100) := by decide +kernel
theorem i_set_get {S : List Int} {k j : Nat} {n : Int} (hk : k < S.length) : (S.set k n).getD j 0 = if j = k then n else S.getD j 0 := by
  rw [List.getD_eq_getElem?_getD, List.getD_eq_getElem?_getD, List.getElem?_set]
  by_cases q : k = j
  · subst q; rw [if_pos rfl, if_pos hk, if_pos rfl]; rfl
  · rw [if_neg q, if_neg (fun e => q e.symm)]
theorem c_sortsM {D : Nat → Nat} {m : Nat → Int32} {x : s_P} (hM : p_Mo T D) (hC : p_Mc I D) (hm : I (D 1) = m) (hp : d_pos m) (hx : x_in m x)
    (h : ∀ I', fr I I' [D 22] → (∀ j, j < 4 → I' (D 22) j = zI (x_ce m x j : Nat)) → K none T I' L) : mz_Ctr G M_X12_sorts [.ref (D 0), .int (zI x.1), .int (zI x.2.1), .int (zI x.2.2)] T I L K := by
  refine mz_apartC fun hU => ?_
  obtain ⟨h0, ⟨r1, r2, r3, r5, r6, r8, r9, r10, r11, r12, r13, r14, r16, r17, r19, r20, r22, -⟩, ⟨t1, t2, t3, t5, t6, t8, t9, t10, t11, t12, t13, t14, t16, t17, t19, t20, t22, -⟩, -⟩ := id hM
  obtain ⟨⟨q1, q2, q3, q4⟩, hk, -, -, -⟩ := id hp
  have hs := hx.1
  have hb := x_in_b hk hx
  have n1 : D 1 ≠ D 22 := mz_ne hU t1 t22 (by decide)
  obtain ⟨so1, so2, so3⟩ := y_soT (m_kd m) hk x.1 hs
  have hMc : ∀ I1 : mz_I, fr I I1 [D 22] → p_Mc I1 D := fun I1 f1 => p_Mc_fr hC f1 (Mc_ne hU hM (fun a ha => by
    rw [List.mem_singleton.mp ha]
    exact ⟨_, t22, by decide, by decide, by decide, by decide, by decide⟩))
  generalize hB : 10 * x.2.2 + x.2.1 = B
  have hBb : -40 ≤ B ∧ B ≤ 300 := by omega
  have inner : ∀ i, i < 4 → (∀ I2 : mz_I, fr I I2 [D 22] → (∀ j, j < i + 1 → I2 (D 22) j = zI (B + (y_so (m_kd m) x.1 (i + 1)).getD j 0)) → mz_W G M_X12_sorts K mz_nX 3 [some (.ref (D 0)), some (.int (zI x.1)), some (.int (zI x.2.1)), some (.int (zI x.2.2)), some (.int (zI (i + 1 : Nat))), none, none] [] T I2 L (0, 0)) → ∀ k (I1 : mz_I) (a : List Int), k ≤ i → a.length = 4 → (∀ j, j < 4 → 0 ≤ a.getD j 0 ∧ a.getD j 0 < 100) → fr I I1 [D 22] → (∀ j, j < k → I1 (D 22) j = zI (B + a.getD j 0)) → (∀ j, k < j → j ≤ i → I1 (D 22) j = zI (B + a.getD j 0)) → y_in a (y_w (m_kd m) x.1 i) k = y_so (m_kd m) x.1 (i + 1) → mz_W G M_X12_sorts K mz_nX 55 [some (.ref (D 0)), some (.int (zI x.1)), some (.int (zI x.2.1)), some (.int (zI x.2.2)), some (.int (zI i)), some (.int (zI (B + y_w (m_kd m) x.1 i))), some (.int (zI k))] [] T I1 L (0, 0) := by
    intro i hi k9 k
    have hw := d_b_le (m_kd m) hk i hi x.1 hs
    have hwb : 0 ≤ y_w (m_kd m) x.1 i ∧ y_w (m_kd m) x.1 i < 100 := by unfold y_w; omega
    induction k with
    | zero =>
      intro I1 a hki ha hab f1 hlo hhi e
      unfold y_in at e
      refine mz_vc ok_X12_sorts [55, 3] [(), (), (), (), (), (), (), (), (), (), (), (), (), (), (), (), (), (), (), (), (), (), (), (), (), (), (), (), (), ()] ?_
      simp only [cd_X12_sorts, h0, r1, r22, ix_222 t1, n_222, r_rn0, r_rnc, r_vk0, r_vkc, r_vks, r_kci, r_kcv, r_ild, r_ald, r_lld, r_dld, r_Li, r_La, r_Ll, r_Ld, r_Ki, r_Ka, r_Kl, r_Kd, r_Kn, r_ist, r_ast, r_lst, r_dst, r_iinc, r_int, r_lng, r_dbl, r_i2, r_i1, r_l2, r_lsh, r_i2z, r_l2z, r_i2l, r_l2i, r_i2d, r_lcmp, r_ddiv, r_dcmpl, r_dup, r_dup2, r_pop, r_one_int, r_one_ref, r_go, r_if, r_ic, r_tsw, r_lsw, r_sw0, r_swc, r_lk0, r_lkc, r_kp, r_gI, r_gL, r_gR, r_pI, r_pZ, r_pL, r_pR, r_gs, r_ia, r_ca, r_za, r_la, r_da, r_aa, r_ias, r_cas, r_zas, r_las, r_das, r_aas, r_acp, r_new, r_nwa, r_nwq, r_ret, r_irt, r_zrt, r_lrt, r_drt, r_art, r_thr, r_cV0, r_cV1, r_cV2, r_cV3, r_cV4, r_cV5, r_cI0, r_cS0, r_cS1, r_cS2, r_cS3, r_cX0, r_cX1, r_cX2, r_cX3, r_rc, r_oi, r_refx, r_i10, r_i01, r_rfs, r_mem0, r_memc, r_beq, r_kl0, r_klz, r_kl1i, r_kl1r, r_kl1n, r_kl1l, r_kl1d, List.length_cons, List.length_nil, List.getElem?_cons_zero, List.getElem?_cons_succ, List.set_cons_zero, List.set_cons_succ, true_and, and_true, not_true, not_false_eq_true, false_implies, true_implies, or_true, true_or, or_false, false_or, Bool.or_false, Bool.false_or, decide_false, decide_true, Nat.reduceLT, Nat.reduceLeDiff, Nat.reduceAdd, Nat.reduceSub, ↓reduceIte, Nat.reduceEqDiff, Nat.lt_add_one]
      rw [z_nat (by omega), z_1]
      refine ⟨fun _ => ⟨n_ix 0 t22 (by decide) (by decide), ?_⟩, fun q => absurd (by decide) q⟩
      refine mz_forget (k9 _ (fr_u2 f1 (by simp)) (fun j hj => ?_)) rfl (mz_fg_s (mz_fg_s (mz_fg_s (mz_fg_s (mz_fg_s (mz_fg_n (mz_fg_n mz_fg_0)))))))
      rw [← e, i_set_get (by omega), mz_u_at]
      by_cases c : j = 0
      · subst c; simp
      · rw [if_neg (fun e => c e.2), if_neg c]; exact hhi j (by omega) (by omega)
    | succ k ih =>
      intro I1 a hki ha hab f1 hlo hhi e
      have hak := hab k (by omega)
      rw [y_in] at e
      refine mz_vc ok_X12_sorts [55, 3] [(), (), (), (), (), (), (), (), (), (), (), (), (), (), (), (), (), (), (), (), (), (), (), (), (), (), (), (), (), ()] ?_
      simp only [cd_X12_sorts, h0, r1, r22, ix_222 t1, n_222, r_rn0, r_rnc, r_vk0, r_vkc, r_vks, r_kci, r_kcv, r_ild, r_ald, r_lld, r_dld, r_Li, r_La, r_Ll, r_Ld, r_Ki, r_Ka, r_Kl, r_Kd, r_Kn, r_ist, r_ast, r_lst, r_dst, r_iinc, r_int, r_lng, r_dbl, r_i2, r_i1, r_l2, r_lsh, r_i2z, r_l2z, r_i2l, r_l2i, r_i2d, r_lcmp, r_ddiv, r_dcmpl, r_dup, r_dup2, r_pop, r_one_int, r_one_ref, r_go, r_if, r_ic, r_tsw, r_lsw, r_sw0, r_swc, r_lk0, r_lkc, r_kp, r_gI, r_gL, r_gR, r_pI, r_pZ, r_pL, r_pR, r_gs, r_ia, r_ca, r_za, r_la, r_da, r_aa, r_ias, r_cas, r_zas, r_las, r_das, r_aas, r_acp, r_new, r_nwa, r_nwq, r_ret, r_irt, r_zrt, r_lrt, r_drt, r_art, r_thr, r_cV0, r_cV1, r_cV2, r_cV3, r_cV4, r_cV5, r_cI0, r_cS0, r_cS1, r_cS2, r_cS3, r_cX0, r_cX1, r_cX2, r_cX3, r_rc, r_oi, r_refx, r_i10, r_i01, r_rfs, r_mem0, r_memc, r_beq, r_kl0, r_klz, r_kl1i, r_kl1r, r_kl1n, r_kl1l, r_kl1d, List.length_cons, List.length_nil, List.getElem?_cons_zero, List.getElem?_cons_succ, List.set_cons_zero, List.set_cons_succ, true_and, and_true, not_true, not_false_eq_true, false_implies, true_implies, or_true, true_or, or_false, false_or, Bool.or_false, Bool.false_or, decide_false, decide_true, Nat.reduceLT, Nat.reduceLeDiff, Nat.reduceAdd, Nat.reduceSub, ↓reduceIte, Nat.reduceEqDiff, Nat.lt_add_one]
      have e1 : zI ((k + 1 : Nat) : Int) - 1 = zI (k : Nat) := by rw [l_1, z_sub]; congr 1; omega
      have e2 : zI ((k + 1 : Nat) : Int) + -1 = zI (k : Nat) := by rw [l_m1, z_add]; congr 1; omega
      rw [e1, e2, z_nat (by omega), Int.toNat_natCast, z_nat (by omega), Int.toNat_natCast, hlo k (by omega), z_le (a := B + a.getD k 0) (by omega) (by omega), z_1]
      refine ⟨fun q => absurd q (by rw [l_0, z_le (by omega) (by omega)]; omega), fun _ => ⟨n_ix k t22 (by omega) (by decide), fun q => ⟨n_ix (k + 1) t22 (by omega) (by decide), ?_⟩, fun q => ⟨n_ix k t22 (by omega) (by decide), n_ix (k + 1) t22 (by omega) (by decide), ?_⟩⟩⟩
      · rw [if_neg (by omega)] at e
        refine mz_forget (k9 _ (fr_u2 f1 (by simp)) (fun j hj => ?_)) rfl (mz_fg_s (mz_fg_s (mz_fg_s (mz_fg_s (mz_fg_s (mz_fg_n (mz_fg_n mz_fg_0)))))))
        rw [← e, i_set_get (by omega), mz_u_at]
        by_cases c : j = k + 1
        · subst c; simp
        · rw [if_neg (fun e => c e.2), if_neg c]
          by_cases c2 : j < k + 1
          · exact hlo j c2
          · exact hhi j (by omega) (by omega)
      · rw [if_pos (by omega)] at e
        refine ih _ (a.set (k + 1) (a.getD k 0)) (by omega) (by rw [List.length_set]; exact ha) (fun j hj => ?_) (fr_u2 f1 (by simp)) (fun j hj => ?_) (fun j a1 a2 => ?_) e
        · rw [i_set_get (by omega)]
          split
          · exact hak
          · exact hab j hj
        · rw [i_set_get (by omega), if_neg (by omega), mz_u_nk (by omega)]; exact hlo j (by omega)
        · rw [i_set_get (by omega), mz_u_at]
          by_cases c : j = k + 1
          · subst c; simp
          · rw [if_neg (fun e => c e.2), if_neg c]; exact hhi j (by omega) a2
  have loop : ∀ k (I1 : mz_I), k ≤ 4 → fr I I1 [D 22] → (∀ j, j < 4 - k → I1 (D 22) j = zI (B + (y_so (m_kd m) x.1 (4 - k)).getD j 0)) → mz_W G M_X12_sorts K mz_nX 3 [some (.ref (D 0)), some (.int (zI x.1)), some (.int (zI x.2.1)), some (.int (zI x.2.2)), some (.int (zI (4 - k : Nat))), none, none] [] T I1 L (0, 0) := by
    intro k
    induction k with
    | zero =>
      intro I1 _ f1 e1
      refine mz_vc ok_X12_sorts [3] [(), (), (), (), (), (), (), (), (), (), (), (), (), (), (), (), (), (), (), (), (), (), (), (), (), (), (), (), (), ()] ?_
      simp only [cd_X12_sorts, h0, r1, r22, ix_222 t1, n_222, r_rn0, r_rnc, r_vk0, r_vkc, r_vks, r_kci, r_kcv, r_ild, r_ald, r_lld, r_dld, r_Li, r_La, r_Ll, r_Ld, r_Ki, r_Ka, r_Kl, r_Kd, r_Kn, r_ist, r_ast, r_lst, r_dst, r_iinc, r_int, r_lng, r_dbl, r_i2, r_i1, r_l2, r_lsh, r_i2z, r_l2z, r_i2l, r_l2i, r_i2d, r_lcmp, r_ddiv, r_dcmpl, r_dup, r_dup2, r_pop, r_one_int, r_one_ref, r_go, r_if, r_ic, r_tsw, r_lsw, r_sw0, r_swc, r_lk0, r_lkc, r_kp, r_gI, r_gL, r_gR, r_pI, r_pZ, r_pL, r_pR, r_gs, r_ia, r_ca, r_za, r_la, r_da, r_aa, r_ias, r_cas, r_zas, r_las, r_das, r_aas, r_acp, r_new, r_nwa, r_nwq, r_ret, r_irt, r_zrt, r_lrt, r_drt, r_art, r_thr, r_cV0, r_cV1, r_cV2, r_cV3, r_cV4, r_cV5, r_cI0, r_cS0, r_cS1, r_cS2, r_cS3, r_cX0, r_cX1, r_cX2, r_cX3, r_rc, r_oi, r_refx, r_i10, r_i01, r_rfs, r_mem0, r_memc, r_beq, r_kl0, r_klz, r_kl1i, r_kl1r, r_kl1n, r_kl1l, r_kl1d, List.length_cons, List.length_nil, List.getElem?_cons_zero, List.getElem?_cons_succ, List.set_cons_zero, List.set_cons_succ, true_and, and_true, not_true, not_false_eq_true, false_implies, true_implies, or_true, true_or, or_false, false_or, Bool.or_false, Bool.false_or, decide_false, decide_true, Nat.reduceLT, Nat.reduceLeDiff, Nat.reduceAdd, Nat.reduceSub, ↓reduceIte, Nat.reduceEqDiff, Nat.lt_add_one]
      refine ⟨fun _ => ?_, fun q => absurd (by decide) q⟩
      refine h I1 f1 (fun j hj => ?_)
      rw [e1 j (by omega), Nat.sub_zero, so1 j hj]
      congr 1
      have := (x_cell hk hx hj).1
      omega
    | succ k ih =>
      intro I1 hk4 f1 e1
      have v222 : I1 (D 1) 222 = zI (m_kd m) := by rw [fr_ne1 f1 n1, hm]; exact q1
      have hC1 := hMc I1 f1
      have hi : 4 - (k + 1) < 4 := by omega
      have ei : 4 - k = 4 - (k + 1) + 1 := by omega
      refine mz_vc ok_X12_sorts [3, 55] [(), (), (), (), (), (), (), (), (), (), (), (), (), (), (), (), (), (), (), (), (), (), (), (), (), (), (), (), (), ()] ?_
      simp only [cd_X12_sorts, h0, r1, r22, ix_222 t1, n_222, v222, r_rn0, r_rnc, r_vk0, r_vkc, r_vks, r_kci, r_kcv, r_ild, r_ald, r_lld, r_dld, r_Li, r_La, r_Ll, r_Ld, r_Ki, r_Ka, r_Kl, r_Kd, r_Kn, r_ist, r_ast, r_lst, r_dst, r_iinc, r_int, r_lng, r_dbl, r_i2, r_i1, r_l2, r_lsh, r_i2z, r_l2z, r_i2l, r_l2i, r_i2d, r_lcmp, r_ddiv, r_dcmpl, r_dup, r_dup2, r_pop, r_one_int, r_one_ref, r_go, r_if, r_ic, r_tsw, r_lsw, r_sw0, r_swc, r_lk0, r_lkc, r_kp, r_gI, r_gL, r_gR, r_pI, r_pZ, r_pL, r_pR, r_gs, r_ia, r_ca, r_za, r_la, r_da, r_aa, r_ias, r_cas, r_zas, r_las, r_das, r_aas, r_acp, r_new, r_nwa, r_nwq, r_ret, r_irt, r_zrt, r_lrt, r_drt, r_art, r_thr, r_cV0, r_cV1, r_cV2, r_cV3, r_cV4, r_cV5, r_cI0, r_cS0, r_cS1, r_cS2, r_cS3, r_cX0, r_cX1, r_cX2, r_cX3, r_rc, r_oi, r_refx, r_i10, r_i01, r_rfs, r_mem0, r_memc, r_beq, r_kl0, r_klz, r_kl1i, r_kl1r, r_kl1n, r_kl1l, r_kl1d, List.length_cons, List.length_nil, List.getElem?_cons_zero, List.getElem?_cons_succ, List.set_cons_zero, List.set_cons_succ, true_and, and_true, not_true, not_false_eq_true, false_implies, true_implies, or_true, true_or, or_false, false_or, Bool.or_false, Bool.false_or, decide_false, decide_true, Nat.reduceLT, Nat.reduceLeDiff, Nat.reduceAdd, Nat.reduceSub, ↓reduceIte, Nat.reduceEqDiff, Nat.lt_add_one]
      refine ⟨z_no (b := 4) (by omega) (by omega) (by omega), fun _ => c_boxedM hM hC1 hk hs hi ?_⟩
      simp only [cd_X12_sorts, h0, r1, r22, ix_222 t1, n_222, v222, r_rn0, r_rnc, r_vk0, r_vkc, r_vks, r_kci, r_kcv, r_ild, r_ald, r_lld, r_dld, r_Li, r_La, r_Ll, r_Ld, r_Ki, r_Ka, r_Kl, r_Kd, r_Kn, r_ist, r_ast, r_lst, r_dst, r_iinc, r_int, r_lng, r_dbl, r_i2, r_i1, r_l2, r_lsh, r_i2z, r_l2z, r_i2l, r_l2i, r_i2d, r_lcmp, r_ddiv, r_dcmpl, r_dup, r_dup2, r_pop, r_one_int, r_one_ref, r_go, r_if, r_ic, r_tsw, r_lsw, r_sw0, r_swc, r_lk0, r_lkc, r_kp, r_gI, r_gL, r_gR, r_pI, r_pZ, r_pL, r_pR, r_gs, r_ia, r_ca, r_za, r_la, r_da, r_aa, r_ias, r_cas, r_zas, r_las, r_das, r_aas, r_acp, r_new, r_nwa, r_nwq, r_ret, r_irt, r_zrt, r_lrt, r_drt, r_art, r_thr, r_cV0, r_cV1, r_cV2, r_cV3, r_cV4, r_cV5, r_cI0, r_cS0, r_cS1, r_cS2, r_cS3, r_cX0, r_cX1, r_cX2, r_cX3, r_rc, r_oi, r_refx, r_i10, r_i01, r_rfs, r_mem0, r_memc, r_beq, r_kl0, r_klz, r_kl1i, r_kl1r, r_kl1n, r_kl1l, r_kl1d, List.length_cons, List.length_nil, List.getElem?_cons_zero, List.getElem?_cons_succ, List.set_cons_zero, List.set_cons_succ, true_and, and_true, not_true, not_false_eq_true, false_implies, true_implies, or_true, true_or, or_false, false_or, Bool.or_false, Bool.false_or, decide_false, decide_true, Nat.reduceLT, Nat.reduceLeDiff, Nat.reduceAdd, Nat.reduceSub, ↓reduceIte, Nat.reduceEqDiff, Nat.lt_add_one]
      refine c_boxedM hM hC1 hk hs hi ?_
      simp only [cd_X12_sorts, h0, r1, r22, ix_222 t1, n_222, r_rn0, r_rnc, r_vk0, r_vkc, r_vks, r_kci, r_kcv, r_ild, r_ald, r_lld, r_dld, r_Li, r_La, r_Ll, r_Ld, r_Ki, r_Ka, r_Kl, r_Kd, r_Kn, r_ist, r_ast, r_lst, r_dst, r_iinc, r_int, r_lng, r_dbl, r_i2, r_i1, r_l2, r_lsh, r_i2z, r_l2z, r_i2l, r_l2i, r_i2d, r_lcmp, r_ddiv, r_dcmpl, r_dup, r_dup2, r_pop, r_one_int, r_one_ref, r_go, r_if, r_ic, r_tsw, r_lsw, r_sw0, r_swc, r_lk0, r_lkc, r_kp, r_gI, r_gL, r_gR, r_pI, r_pZ, r_pL, r_pR, r_gs, r_ia, r_ca, r_za, r_la, r_da, r_aa, r_ias, r_cas, r_zas, r_las, r_das, r_aas, r_acp, r_new, r_nwa, r_nwq, r_ret, r_irt, r_zrt, r_lrt, r_drt, r_art, r_thr, r_cV0, r_cV1, r_cV2, r_cV3, r_cV4, r_cV5, r_cI0, r_cS0, r_cS1, r_cS2, r_cS3, r_cX0, r_cX1, r_cX2, r_cX3, r_rc, r_oi, r_refx, r_i10, r_i01, r_rfs, r_mem0, r_memc, r_beq, r_kl0, r_klz, r_kl1i, r_kl1r, r_kl1n, r_kl1l, r_kl1d, List.length_cons, List.length_nil, List.getElem?_cons_zero, List.getElem?_cons_succ, List.set_cons_zero, List.set_cons_succ, true_and, and_true, not_true, not_false_eq_true, false_implies, true_implies, or_true, true_or, or_false, false_or, Bool.or_false, Bool.false_or, decide_false, decide_true, Nat.reduceLT, Nat.reduceLeDiff, Nat.reduceAdd, Nat.reduceSub, ↓reduceIte, Nat.reduceEqDiff, Nat.lt_add_one]
      have ev : (10 : Int32) * (zI x.2.2 + zI (d_bw (m_kd m) x.1 (4 - (k + 1)) 1)) + zI x.2.1 + zI (d_bw (m_kd m) x.1 (4 - (k + 1)) 0) = zI (B + y_w (m_kd m) x.1 (4 - (k + 1))) := by
        rw [l_10, z_add, z_mul, z_add, z_add]
        congr 1
        show 10 * (x.2.2 + (d_b (m_kd m) (4 - (k + 1)) x.1).2) + x.2.1 + (d_b (m_kd m) (4 - (k + 1)) x.1).1 = _
        unfold y_w; omega
      rw [ev]
      refine inner (4 - (k + 1)) hi (fun I2 f2 e2 => ?_) (4 - (k + 1)) I1 (y_so (m_kd m) x.1 (4 - (k + 1))) (Nat.le_refl _) (so2 _ (by omega)) (fun j hj => so3 _ (by omega) j hj) f1 (fun j hj => e1 j hj) (fun j a b => absurd b (by omega)) rfl
      rw [← ei] at e2 ⊢
      exact ih I2 (by omega) f2 e2
  refine mz_ofl mk_X12_sorts rfl (Nat.le_of_ble_eq_true rfl) (Nat.le_of_ble_eq_true rfl) [some (.ref (D 0)), some (.int (zI x.1)), some (.int (zI x.2.1)), some (.int (zI x.2.2)), none, none, none] rfl ?_
  refine mz_vc ok_X12_sorts [3] [(), (), (), (), (), (), (), (), (), (), (), (), (), (), (), (), (), (), (), (), (), (), (), (), (), (), (), (), (), ()] ?_
  simp only [cd_X12_sorts, h0, r1, r22, ix_222 t1, n_222, r_rn0, r_rnc, r_vk0, r_vkc, r_vks, r_kci, r_kcv, r_ild, r_ald, r_lld, r_dld, r_Li, r_La, r_Ll, r_Ld, r_Ki, r_Ka, r_Kl, r_Kd, r_Kn, r_ist, r_ast, r_lst, r_dst, r_iinc, r_int, r_lng, r_dbl, r_i2, r_i1, r_l2, r_lsh, r_i2z, r_l2z, r_i2l, r_l2i, r_i2d, r_lcmp, r_ddiv, r_dcmpl, r_dup, r_dup2, r_pop, r_one_int, r_one_ref, r_go, r_if, r_ic, r_tsw, r_lsw, r_sw0, r_swc, r_lk0, r_lkc, r_kp, r_gI, r_gL, r_gR, r_pI, r_pZ, r_pL, r_pR, r_gs, r_ia, r_ca, r_za, r_la, r_da, r_aa, r_ias, r_cas, r_zas, r_las, r_das, r_aas, r_acp, r_new, r_nwa, r_nwq, r_ret, r_irt, r_zrt, r_lrt, r_drt, r_art, r_thr, r_cV0, r_cV1, r_cV2, r_cV3, r_cV4, r_cV5, r_cI0, r_cS0, r_cS1, r_cS2, r_cS3, r_cX0, r_cX1, r_cX2, r_cX3, r_rc, r_oi, r_refx, r_i10, r_i01, r_rfs, r_mem0, r_memc, r_beq, r_kl0, r_klz, r_kl1i, r_kl1r, r_kl1n, r_kl1l, r_kl1d, List.length_cons, List.length_nil, List.getElem?_cons_zero, List.getElem?_cons_succ, List.set_cons_zero, List.set_cons_succ, true_and, and_true, not_true, not_false_eq_true, false_implies, true_implies, or_true, true_or, or_false, false_or, Bool.or_false, Bool.false_or, decide_false, decide_true, Nat.reduceLT, Nat.reduceLeDiff, Nat.reduceAdd, Nat.reduceSub, ↓reduceIte, Nat.reduceEqDiff, Nat.lt_add_one]
  exact loop 4 I (Nat.le_refl _) fr_refl (fun j hj => absurd hj (by omega))
/-- same cells -/
def y_sm (m : Nat → Int32) (x y : s_P) : Bool := (List.range 4).all (fun i => decide (x_ce m y i = x_ce m x i))
theorem y_sm_t {m : Nat → Int32} {x y : s_P} : y_sm m x y = true ↔ ∀ i, i < 4 → x_ce m y i = x_ce m x i := by
  unfold y_sm
  rw [List.all_eq_true]
  constructor
  · intro h i hi
    exact of_decide_eq_true (h i (List.mem_range.mpr hi))
  · intro h i hi
    exact decide_eq_true (h i (List.mem_range.mp hi))
def y_pt (m : Nat → Int32) (x : s_P) (w : Nat) : Nat := if w = 0 then x_n m x else x_pt m x w
/-- the placements found -/
def y_P (m : Nat → Int32) (I : mz_I) (D : Nat → Nat) (P : List s_P) : Prop := I (D 0) 21 = zI (P.length : Nat) ∧ P.length ≤ 440 ∧ (∀ x, x ∈ P → x_in m x) ∧ (∀ p w, p < P.length → w < 8 → I (D 19) (8 * p + w) = zI (y_pt m (P.getD p (0, 0, 0)) w : Nat)) ∧ (∀ p, p < P.length → I (D 20) (3 * p) = zI ((P.getD p (0, 0, 0)).1 : Nat) ∧ I (D 20) (3 * p + 1) = zI (P.getD p (0, 0, 0)).2.1 ∧ I (D 20) (3 * p + 2) = zI (P.getD p (0, 0, 0)).2.2)
theorem c_placedM {D : Nat → Nat} {m : Nat → Int32} {P : List s_P} {x : s_P} (hM : p_Mo T D) (hk : m_kd m < 7) (hx : x_in m x) (hP : y_P m I D P) (hso : ∀ j, j < 4 → I (D 22) j = zI (x_ce m x j : Nat)) (h : K (some (.int (b2i (P.any (y_sm m x))))) T I L) : mz_Ctr G M_X12_isPlaced [.ref (D 0)] T I L K := by
  obtain ⟨h0, ⟨r1, r2, r3, r5, r6, r8, r9, r10, r11, r12, r13, r14, r16, r17, r19, r20, r22, -⟩, ⟨t1, t2, t3, t5, t6, t8, t9, t10, t11, t12, t13, t14, t16, t17, t19, t20, t22, -⟩, -⟩ := id hM
  obtain ⟨p1, p2, p3, p4, p5⟩ := id hP
  have hcx := fun j hj => (x_cell (j := j) hk hx hj).2
  have inner : ∀ p, p < P.length → (y_sm m x (P.getD p (0, 0, 0)) = false → mz_W G M_X12_isPlaced K mz_nX 2 [some (.ref (D 0)), some (.int (zI (p + 1 : Nat))), none, none] [] T I L (0, 0)) → (y_sm m x (P.getD p (0, 0, 0)) = true → K (some (.int 1)) T I L) → ∀ k, k ≤ 4 → mz_W G M_X12_isPlaced K mz_nX 14 [some (.ref (D 0)), some (.int (zI p)), some (.int (b2i ((List.range k).all (fun i => decide (x_ce m (P.getD p (0, 0, 0)) i = x_ce m x i))))), some (.int (zI k))] [] T I L (0, 0) := by
    intro p hp k9 k8
    refine mz_loop (N := 4) (fun k => mz_W G M_X12_isPlaced K mz_nX 14 [some (.ref (D 0)), some (.int (zI p)), some (.int (b2i ((List.range k).all (fun i => decide (x_ce m (P.getD p (0, 0, 0)) i = x_ce m x i))))), some (.int (zI k))] [] T I L (0, 0)) ?_ ?_
    · have e : (List.range 4).all (fun i => decide (x_ce m (P.getD p (0, 0, 0)) i = x_ce m x i)) = y_sm m x (P.getD p (0, 0, 0)) := rfl
      rw [e]
      refine mz_vc ok_X12_isPlaced [14, 2] [(), (), (), (), (), (), (), (), (), (), (), (), (), (), (), (), (), (), (), (), (), (), (), (), (), (), (), (), (), ()] ?_
      simp only [cd_X12_isPlaced, h0, r19, r22, p1, b2i_0, r_rn0, r_rnc, r_vk0, r_vkc, r_vks, r_kci, r_kcv, r_ild, r_ald, r_lld, r_dld, r_Li, r_La, r_Ll, r_Ld, r_Ki, r_Ka, r_Kl, r_Kd, r_Kn, r_ist, r_ast, r_lst, r_dst, r_iinc, r_int, r_lng, r_dbl, r_i2, r_i1, r_l2, r_lsh, r_i2z, r_l2z, r_i2l, r_l2i, r_i2d, r_lcmp, r_ddiv, r_dcmpl, r_dup, r_dup2, r_pop, r_one_int, r_one_ref, r_go, r_if, r_ic, r_tsw, r_lsw, r_sw0, r_swc, r_lk0, r_lkc, r_kp, r_gI, r_gL, r_gR, r_pI, r_pZ, r_pL, r_pR, r_gs, r_ia, r_ca, r_za, r_la, r_da, r_aa, r_ias, r_cas, r_zas, r_las, r_das, r_aas, r_acp, r_new, r_nwa, r_nwq, r_ret, r_irt, r_zrt, r_lrt, r_drt, r_art, r_thr, r_cV0, r_cV1, r_cV2, r_cV3, r_cV4, r_cV5, r_cI0, r_cS0, r_cS1, r_cS2, r_cS3, r_cX0, r_cX1, r_cX2, r_cX3, r_rc, r_oi, r_refx, r_i10, r_i01, r_rfs, r_mem0, r_memc, r_beq, r_kl0, r_klz, r_kl1i, r_kl1r, r_kl1n, r_kl1l, r_kl1d, List.length_cons, List.length_nil, List.getElem?_cons_zero, List.getElem?_cons_succ, List.set_cons_zero, List.set_cons_succ, true_and, and_true, not_true, not_false_eq_true, false_implies, true_implies, or_true, true_or, or_false, false_or, Bool.or_false, Bool.false_or, decide_false, decide_true, Nat.reduceLT, Nat.reduceLeDiff, Nat.reduceAdd, Nat.reduceSub, ↓reduceIte, Nat.reduceEqDiff, Nat.lt_add_one]
      rw [z_1]
      refine ⟨fun _ => ⟨fun q => ?_, fun q => k8 (by simpa using q)⟩, fun q => absurd (by decide) q⟩
      exact mz_forget (k9 q) rfl (mz_fg_s (mz_fg_s (mz_fg_n (mz_fg_n mz_fg_0))))
    · intro k hk4 ih
      have hcy := (x_cell (j := k) hk (p3 _ (x_get hp)) hk4).2
      rw [List.range_succ, List.all_append] at ih
      simp only [List.all_cons, List.all_nil, Bool.and_true] at ih
      have hcx2 := hcx k hk4
      refine mz_vc ok_X12_isPlaced [14, 2] [(), (), (), (), (), (), (), (), (), (), (), (), (), (), (), (), (), (), (), (), (), (), (), (), (), (), (), (), (), ()] ?_
      simp only [cd_X12_isPlaced, h0, r19, r22, p1, b2i_0, r_rn0, r_rnc, r_vk0, r_vkc, r_vks, r_kci, r_kcv, r_ild, r_ald, r_lld, r_dld, r_Li, r_La, r_Ll, r_Ld, r_Ki, r_Ka, r_Kl, r_Kd, r_Kn, r_ist, r_ast, r_lst, r_dst, r_iinc, r_int, r_lng, r_dbl, r_i2, r_i1, r_l2, r_lsh, r_i2z, r_l2z, r_i2l, r_l2i, r_i2d, r_lcmp, r_ddiv, r_dcmpl, r_dup, r_dup2, r_pop, r_one_int, r_one_ref, r_go, r_if, r_ic, r_tsw, r_lsw, r_sw0, r_swc, r_lk0, r_lkc, r_kp, r_gI, r_gL, r_gR, r_pI, r_pZ, r_pL, r_pR, r_gs, r_ia, r_ca, r_za, r_la, r_da, r_aa, r_ias, r_cas, r_zas, r_las, r_das, r_aas, r_acp, r_new, r_nwa, r_nwq, r_ret, r_irt, r_zrt, r_lrt, r_drt, r_art, r_thr, r_cV0, r_cV1, r_cV2, r_cV3, r_cV4, r_cV5, r_cI0, r_cS0, r_cS1, r_cS2, r_cS3, r_cX0, r_cX1, r_cX2, r_cX3, r_rc, r_oi, r_refx, r_i10, r_i01, r_rfs, r_mem0, r_memc, r_beq, r_kl0, r_klz, r_kl1i, r_kl1r, r_kl1n, r_kl1l, r_kl1d, List.length_cons, List.length_nil, List.getElem?_cons_zero, List.getElem?_cons_succ, List.set_cons_zero, List.set_cons_succ, true_and, and_true, not_true, not_false_eq_true, false_implies, true_implies, or_true, true_or, or_false, false_or, Bool.or_false, Bool.false_or, decide_false, decide_true, Nat.reduceLT, Nat.reduceLeDiff, Nat.reduceAdd, Nat.reduceSub, ↓reduceIte, Nat.reduceEqDiff, Nat.lt_add_one]
      rw [z_1 k]
      refine ⟨z_no (b := 4) (by omega) (by omega) hk4, fun _ => ⟨fun q => ?_, fun q => ?_⟩⟩
      · rw [q, Bool.false_and] at ih; exact ih
      · have q : (List.range k).all (fun i => decide (x_ce m (P.getD p (0, 0, 0)) i = x_ce m x i)) = true := by simpa using q
        rw [q, Bool.true_and] at ih
        have ei : (8 : Int32) * zI p + 4 + zI k = zI ((8 * p + (4 + k) : Nat) : Int) := by
          rw [l_4, show (8 : Int32) = zI 8 from rfl, z_mul, z_add, z_add]; congr 1; omega
        have e4 : y_pt m (P.getD p (0, 0, 0)) (4 + k) = x_ce m (P.getD p (0, 0, 0)) k := by
          unfold y_pt x_pt
          rw [if_neg (by omega), if_neg (by omega), if_neg (by omega), if_neg (by omega), if_neg (by omega), Nat.add_sub_cancel_left]
        rw [ei, z_nat (by omega), Int.toNat_natCast, z_nat (by omega), Int.toNat_natCast, p4 p (4 + k) hp (by omega), e4, hso k hk4, z_eq (by omega) (by omega)]
        refine ⟨n_ix _ t19 (by omega) (by decide), n_ix _ t22 hk4 (by decide), fun q2 => ?_, fun q2 => ?_⟩
        · rw [decide_eq_false (fun e => q2 (by rw [e]))] at ih; exact ih
        · rw [decide_eq_true (by omega)] at ih; exact ih
  have loop : ∀ f p, f + p = P.length → (∀ j, j < p → y_sm m x (P.getD j (0, 0, 0)) = false) → mz_W G M_X12_isPlaced K mz_nX 2 [some (.ref (D 0)), some (.int (zI p)), none, none] [] T I L (0, 0) := by
    intro f
    induction f with
    | zero =>
      intro p hp hall
      have hp : p = P.length := by omega
      subst hp
      have e : P.any (y_sm m x) = false := by
        rw [List.any_eq_false]
        intro y hy
        obtain ⟨j, hj, e⟩ := List.getElem_of_mem hy
        have := hall j hj
        rw [List.getD_eq_getElem?_getD, List.getElem?_eq_getElem hj, Option.getD_some, e] at this
        rw [this]; decide
      rw [e] at h
      refine mz_vc ok_X12_isPlaced [2, 14] [(), (), (), (), (), (), (), (), (), (), (), (), (), (), (), (), (), (), (), (), (), (), (), (), (), (), (), (), (), ()] ?_
      simp only [cd_X12_isPlaced, h0, r19, r22, p1, r_rn0, r_rnc, r_vk0, r_vkc, r_vks, r_kci, r_kcv, r_ild, r_ald, r_lld, r_dld, r_Li, r_La, r_Ll, r_Ld, r_Ki, r_Ka, r_Kl, r_Kd, r_Kn, r_ist, r_ast, r_lst, r_dst, r_iinc, r_int, r_lng, r_dbl, r_i2, r_i1, r_l2, r_lsh, r_i2z, r_l2z, r_i2l, r_l2i, r_i2d, r_lcmp, r_ddiv, r_dcmpl, r_dup, r_dup2, r_pop, r_one_int, r_one_ref, r_go, r_if, r_ic, r_tsw, r_lsw, r_sw0, r_swc, r_lk0, r_lkc, r_kp, r_gI, r_gL, r_gR, r_pI, r_pZ, r_pL, r_pR, r_gs, r_ia, r_ca, r_za, r_la, r_da, r_aa, r_ias, r_cas, r_zas, r_las, r_das, r_aas, r_acp, r_new, r_nwa, r_nwq, r_ret, r_irt, r_zrt, r_lrt, r_drt, r_art, r_thr, r_cV0, r_cV1, r_cV2, r_cV3, r_cV4, r_cV5, r_cI0, r_cS0, r_cS1, r_cS2, r_cS3, r_cX0, r_cX1, r_cX2, r_cX3, r_rc, r_oi, r_refx, r_i10, r_i01, r_rfs, r_mem0, r_memc, r_beq, r_kl0, r_klz, r_kl1i, r_kl1r, r_kl1n, r_kl1l, r_kl1d, List.length_cons, List.length_nil, List.getElem?_cons_zero, List.getElem?_cons_succ, List.set_cons_zero, List.set_cons_succ, true_and, and_true, not_true, not_false_eq_true, false_implies, true_implies, or_true, true_or, or_false, false_or, Bool.or_false, Bool.false_or, decide_false, decide_true, Nat.reduceLT, Nat.reduceLeDiff, Nat.reduceAdd, Nat.reduceSub, ↓reduceIte, Nat.reduceEqDiff, Nat.lt_add_one]
      exact ⟨fun _ => h, fun q => absurd (Int32.le_refl _) q⟩
    | succ f ih =>
      intro p hp hall
      refine mz_vc ok_X12_isPlaced [2, 14] [(), (), (), (), (), (), (), (), (), (), (), (), (), (), (), (), (), (), (), (), (), (), (), (), (), (), (), (), (), ()] ?_
      simp only [cd_X12_isPlaced, h0, r19, r22, p1, r_rn0, r_rnc, r_vk0, r_vkc, r_vks, r_kci, r_kcv, r_ild, r_ald, r_lld, r_dld, r_Li, r_La, r_Ll, r_Ld, r_Ki, r_Ka, r_Kl, r_Kd, r_Kn, r_ist, r_ast, r_lst, r_dst, r_iinc, r_int, r_lng, r_dbl, r_i2, r_i1, r_l2, r_lsh, r_i2z, r_l2z, r_i2l, r_l2i, r_i2d, r_lcmp, r_ddiv, r_dcmpl, r_dup, r_dup2, r_pop, r_one_int, r_one_ref, r_go, r_if, r_ic, r_tsw, r_lsw, r_sw0, r_swc, r_lk0, r_lkc, r_kp, r_gI, r_gL, r_gR, r_pI, r_pZ, r_pL, r_pR, r_gs, r_ia, r_ca, r_za, r_la, r_da, r_aa, r_ias, r_cas, r_zas, r_las, r_das, r_aas, r_acp, r_new, r_nwa, r_nwq, r_ret, r_irt, r_zrt, r_lrt, r_drt, r_art, r_thr, r_cV0, r_cV1, r_cV2, r_cV3, r_cV4, r_cV5, r_cI0, r_cS0, r_cS1, r_cS2, r_cS3, r_cX0, r_cX1, r_cX2, r_cX3, r_rc, r_oi, r_refx, r_i10, r_i01, r_rfs, r_mem0, r_memc, r_beq, r_kl0, r_klz, r_kl1i, r_kl1r, r_kl1n, r_kl1l, r_kl1d, List.length_cons, List.length_nil, List.getElem?_cons_zero, List.getElem?_cons_succ, List.set_cons_zero, List.set_cons_succ, true_and, and_true, not_true, not_false_eq_true, false_implies, true_implies, or_true, true_or, or_false, false_or, Bool.or_false, Bool.false_or, decide_false, decide_true, Nat.reduceLT, Nat.reduceLeDiff, Nat.reduceAdd, Nat.reduceSub, ↓reduceIte, Nat.reduceEqDiff, Nat.lt_add_one]
      refine ⟨z_no (by omega) (by omega) (by omega), fun _ => ?_⟩
      refine inner p (by omega) (fun q => ?_) (fun q => ?_) 0 (Nat.zero_le _)
      · refine ih (p + 1) (by omega) (fun j hj => ?_)
        by_cases c : j = p
        · rw [c]; exact q
        · exact hall j (by omega)
      · have e : P.any (y_sm m x) = true := List.any_eq_true.mpr ⟨_, x_get (by omega), q⟩
        rw [e] at h; exact h
  refine mz_ofl mk_X12_isPlaced rfl (Nat.le_of_ble_eq_true rfl) (Nat.le_of_ble_eq_true rfl) [some (.ref (D 0)), none, none, none] rfl ?_
  refine mz_vc ok_X12_isPlaced [2] [(), (), (), (), (), (), (), (), (), (), (), (), (), (), (), (), (), (), (), (), (), (), (), (), (), (), (), (), (), ()] ?_
  simp only [cd_X12_isPlaced, h0, r19, r22, p1, r_rn0, r_rnc, r_vk0, r_vkc, r_vks, r_kci, r_kcv, r_ild, r_ald, r_lld, r_dld, r_Li, r_La, r_Ll, r_Ld, r_Ki, r_Ka, r_Kl, r_Kd, r_Kn, r_ist, r_ast, r_lst, r_dst, r_iinc, r_int, r_lng, r_dbl, r_i2, r_i1, r_l2, r_lsh, r_i2z, r_l2z, r_i2l, r_l2i, r_i2d, r_lcmp, r_ddiv, r_dcmpl, r_dup, r_dup2, r_pop, r_one_int, r_one_ref, r_go, r_if, r_ic, r_tsw, r_lsw, r_sw0, r_swc, r_lk0, r_lkc, r_kp, r_gI, r_gL, r_gR, r_pI, r_pZ, r_pL, r_pR, r_gs, r_ia, r_ca, r_za, r_la, r_da, r_aa, r_ias, r_cas, r_zas, r_las, r_das, r_aas, r_acp, r_new, r_nwa, r_nwq, r_ret, r_irt, r_zrt, r_lrt, r_drt, r_art, r_thr, r_cV0, r_cV1, r_cV2, r_cV3, r_cV4, r_cV5, r_cI0, r_cS0, r_cS1, r_cS2, r_cS3, r_cX0, r_cX1, r_cX2, r_cX3, r_rc, r_oi, r_refx, r_i10, r_i01, r_rfs, r_mem0, r_memc, r_beq, r_kl0, r_klz, r_kl1i, r_kl1r, r_kl1n, r_kl1l, r_kl1d, List.length_cons, List.length_nil, List.getElem?_cons_zero, List.getElem?_cons_succ, List.set_cons_zero, List.set_cons_succ, true_and, and_true, not_true, not_false_eq_true, false_implies, true_implies, or_true, true_or, or_false, false_or, Bool.or_false, Bool.false_or, decide_false, decide_true, Nat.reduceLT, Nat.reduceLeDiff, Nat.reduceAdd, Nat.reduceSub, ↓reduceIte, Nat.reduceEqDiff, Nat.lt_add_one]
  exact loop P.length 0 rfl (fun j hj => absurd hj (Nat.not_lt_zero _))
end MODZ
