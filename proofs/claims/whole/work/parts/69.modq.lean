/-! the reference: records, new pieces, beginning, holding -/
section MODQ
variable {G : mz_G} {K : mz_K} {T : mz_T} {I : mz_I} {L : mz_L}
def d_rr (I : mz_I) (D : Nat → Nat) : Nat → Nat → Int32 := fun i j => I (D 3) (268 * i + j)
theorem c_recordsM {D : Nat → Nat} {many : Nat} (hM : p_Mo T D) (hm : I (D 0) 4 = zI many) (hm6 : many ≤ 6)
    (h : ∀ I', fr I I' [D 0, D 3] → (∀ i, i ≠ 4 → I' (D 0) i = I (D 0) i) → I' (D 0) 4 = zI (s_mn many) → (∀ i j, i < s_mn many → j < 268 → I' (D 3) (268 * i + j) = s_push many (d_rr I D) (I (D 1)) i j) → K none T I' L) : mz_Ctr G M_X12_records [.ref (D 0)] T I L K := by
  refine mz_apartC fun hU => ?_
  obtain ⟨h0, ⟨r1, r2, r3, -⟩, ⟨t1, t2, t3, -⟩, -⟩ := id hM
  have n1 : D 1 ≠ D 3 := mz_ne hU t1 t3 (by decide)
  have n2 : D 0 ≠ D 3 := mz_ne hU h0 t3 (by decide)
  have n3 : D 1 ≠ D 0 := mz_ne hU t1 h0 (by decide)
  -- the row is written at place p
  have w50 : ∀ (I1 : mz_I) (p : Nat), p ≤ 5 → fr I I1 [D 0, D 3] → (∀ i, i ≠ 4 → I1 (D 0) i = I (D 0) i) → I1 (D 0) 4 = zI p → s_mn many = p + 1 → (∀ i j, i < p → j < 268 → I1 (D 3) (268 * i + j) = s_push many (d_rr I D) (I (D 1)) i j) → (∀ j, I (D 1) j = s_push many (d_rr I D) (I (D 1)) p j) → mz_W G M_X12_records K mz_nX 50 [some (.ref (D 0)), none] [] T I1 L (0, 0) := by
    intro I1 p hp f1 o1 e1 hmn hlo hat
    have key : ∀ k (I2 : mz_I), k ≤ 268 → fr I I2 [D 0, D 3] → (∀ i, I2 (D 0) i = I1 (D 0) i) → (∀ i j, i < p → j < 268 → I2 (D 3) (268 * i + j) = s_push many (d_rr I D) (I (D 1)) i j) → (∀ j, j < 268 - k → I2 (D 3) (268 * p + j) = I (D 1) j) → mz_W G M_X12_records K mz_nX 52 [some (.ref (D 0)), some (.int (zI (268 - k : Nat)))] [] T I2 L (0, 0) := by
      intro k
      induction k with
      | zero =>
        intro I2 _ f2 o2 hlo2 hat2
        have e4 : I2 (D 0) 4 = zI p := by rw [o2, e1]
        refine mz_vc ok_X12_records [52] [(), (), (), (), (), (), (), (), (), (), (), (), (), (), (), (), (), (), (), (), (), (), (), (), (), (), (), (), (), ()] ?_
        simp only [cd_X12_records, h0, r1, r3, e4, r_rn0, r_rnc, r_vk0, r_vkc, r_vks, r_kci, r_kcv, r_ild, r_ald, r_lld, r_dld, r_Li, r_La, r_Ll, r_Ld, r_Ki, r_Ka, r_Kl, r_Kd, r_Kn, r_ist, r_ast, r_lst, r_dst, r_iinc, r_int, r_lng, r_dbl, r_i2, r_i1, r_l2, r_lsh, r_i2z, r_l2z, r_i2l, r_l2i, r_i2d, r_lcmp, r_ddiv, r_dcmpl, r_dup, r_dup2, r_pop, r_one_int, r_one_ref, r_go, r_if, r_ic, r_tsw, r_lsw, r_sw0, r_swc, r_lk0, r_lkc, r_kp, r_gI, r_gL, r_gR, r_pI, r_pZ, r_pL, r_pR, r_gs, r_ia, r_ca, r_za, r_la, r_da, r_aa, r_ias, r_cas, r_zas, r_las, r_das, r_aas, r_acp, r_new, r_nwa, r_nwq, r_ret, r_irt, r_zrt, r_lrt, r_drt, r_art, r_thr, r_cV0, r_cV1, r_cV2, r_cV3, r_cV4, r_cV5, r_cI0, r_cS0, r_cS1, r_cS2, r_cS3, r_cX0, r_cX1, r_cX2, r_cX3, r_rc, r_oi, r_refx, r_i10, r_i01, r_rfs, r_mem0, r_memc, r_beq, r_kl0, r_klz, r_kl1i, r_kl1r, r_kl1n, r_kl1l, r_kl1d, List.length_cons, List.length_nil, List.getElem?_cons_zero, List.getElem?_cons_succ, List.set_cons_zero, List.set_cons_succ, true_and, and_true, not_true, not_false_eq_true, false_implies, true_implies, or_true, true_or, or_false, false_or, Bool.or_false, Bool.false_or, decide_false, decide_true, Nat.reduceLT, Nat.reduceLeDiff, Nat.reduceAdd, Nat.reduceSub, ↓reduceIte, Nat.reduceEqDiff, Nat.lt_add_one]
        refine ⟨fun _ => ?_, fun q => absurd (by decide) q⟩
        rw [z_1]
        refine h _ ?_ ?_ ?_ ?_
        · exact fr_u2 f2 (by simp)
        · intro i hi; rw [mz_u_nk hi, o2, o1 i hi]
        · rw [mz_u_eq, hmn]
        · intro i j hi hj
          rw [mz_u_ne (Ne.symm n2)]
          by_cases c : i = p
          · subst c; rw [hat2 j (by omega), ← hat]
          · exact hlo2 i j (by omega) hj
      | succ k ih =>
        intro I2 hk f2 o2 hlo2 hat2
        have e4 : I2 (D 0) 4 = zI p := by rw [o2, e1]
        have e1' : I2 (D 1) = I (D 1) := f2 _ (by simp; exact ⟨n3, n1⟩)
        refine mz_vc ok_X12_records [52] [(), (), (), (), (), (), (), (), (), (), (), (), (), (), (), (), (), (), (), (), (), (), (), (), (), (), (), (), (), ()] ?_
        simp only [cd_X12_records, h0, r1, r3, e4, r_rn0, r_rnc, r_vk0, r_vkc, r_vks, r_kci, r_kcv, r_ild, r_ald, r_lld, r_dld, r_Li, r_La, r_Ll, r_Ld, r_Ki, r_Ka, r_Kl, r_Kd, r_Kn, r_ist, r_ast, r_lst, r_dst, r_iinc, r_int, r_lng, r_dbl, r_i2, r_i1, r_l2, r_lsh, r_i2z, r_l2z, r_i2l, r_l2i, r_i2d, r_lcmp, r_ddiv, r_dcmpl, r_dup, r_dup2, r_pop, r_one_int, r_one_ref, r_go, r_if, r_ic, r_tsw, r_lsw, r_sw0, r_swc, r_lk0, r_lkc, r_kp, r_gI, r_gL, r_gR, r_pI, r_pZ, r_pL, r_pR, r_gs, r_ia, r_ca, r_za, r_la, r_da, r_aa, r_ias, r_cas, r_zas, r_las, r_das, r_aas, r_acp, r_new, r_nwa, r_nwq, r_ret, r_irt, r_zrt, r_lrt, r_drt, r_art, r_thr, r_cV0, r_cV1, r_cV2, r_cV3, r_cV4, r_cV5, r_cI0, r_cS0, r_cS1, r_cS2, r_cS3, r_cX0, r_cX1, r_cX2, r_cX3, r_rc, r_oi, r_refx, r_i10, r_i01, r_rfs, r_mem0, r_memc, r_beq, r_kl0, r_klz, r_kl1i, r_kl1r, r_kl1n, r_kl1l, r_kl1d, List.length_cons, List.length_nil, List.getElem?_cons_zero, List.getElem?_cons_succ, List.set_cons_zero, List.set_cons_succ, true_and, and_true, not_true, not_false_eq_true, false_implies, true_implies, or_true, true_or, or_false, false_or, Bool.or_false, Bool.false_or, decide_false, decide_true, Nat.reduceLT, Nat.reduceLeDiff, Nat.reduceAdd, Nat.reduceSub, ↓reduceIte, Nat.reduceEqDiff, Nat.lt_add_one]
        have ea : (268 : Int32) * zI p + zI ((268 - (k + 1) : Nat) : Int) = zI ((268 * p + (268 - (k + 1)) : Nat) : Int) := by
          rw [show (268 : Int32) = zI 268 from rfl, z_mul, z_add]; congr 1
        rw [ea, z_nat (by omega), Int.toNat_natCast, z_nat (by omega), Int.toNat_natCast, e1', z_1 (268 - (k + 1)), show 268 - (k + 1) + 1 = 268 - k by omega]
        refine ⟨z_no (b := 268) (by omega) (by omega) (by omega), fun _ => ⟨⟨268, t1, z_in (by omega) (by omega) (by decide)⟩, ⟨1608, t3, z_in (by omega) (by omega) (by decide)⟩, ?_⟩⟩
        refine ih _ (by omega) (fr_u2 f2 (by simp)) (fun i => ?_) (fun i j hi hj => ?_) (fun j hj => ?_)
        · rw [mz_u_ne n2]; exact o2 i
        · rw [mz_u_nk (by omega)]; exact hlo2 i j hi hj
        · by_cases c : j = 268 - (k + 1)
          · subst c; rw [mz_u_eq]
          · rw [mz_u_nk (by omega)]; exact hat2 j (by omega)
    refine mz_vc ok_X12_records [52] [(), (), (), (), (), (), (), (), (), (), (), (), (), (), (), (), (), (), (), (), (), (), (), (), (), (), (), (), (), ()] ?_
    simp only [cd_X12_records, h0, r1, r3, r_rn0, r_rnc, r_vk0, r_vkc, r_vks, r_kci, r_kcv, r_ild, r_ald, r_lld, r_dld, r_Li, r_La, r_Ll, r_Ld, r_Ki, r_Ka, r_Kl, r_Kd, r_Kn, r_ist, r_ast, r_lst, r_dst, r_iinc, r_int, r_lng, r_dbl, r_i2, r_i1, r_l2, r_lsh, r_i2z, r_l2z, r_i2l, r_l2i, r_i2d, r_lcmp, r_ddiv, r_dcmpl, r_dup, r_dup2, r_pop, r_one_int, r_one_ref, r_go, r_if, r_ic, r_tsw, r_lsw, r_sw0, r_swc, r_lk0, r_lkc, r_kp, r_gI, r_gL, r_gR, r_pI, r_pZ, r_pL, r_pR, r_gs, r_ia, r_ca, r_za, r_la, r_da, r_aa, r_ias, r_cas, r_zas, r_las, r_das, r_aas, r_acp, r_new, r_nwa, r_nwq, r_ret, r_irt, r_zrt, r_lrt, r_drt, r_art, r_thr, r_cV0, r_cV1, r_cV2, r_cV3, r_cV4, r_cV5, r_cI0, r_cS0, r_cS1, r_cS2, r_cS3, r_cX0, r_cX1, r_cX2, r_cX3, r_rc, r_oi, r_refx, r_i10, r_i01, r_rfs, r_mem0, r_memc, r_beq, r_kl0, r_klz, r_kl1i, r_kl1r, r_kl1n, r_kl1l, r_kl1d, List.length_cons, List.length_nil, List.getElem?_cons_zero, List.getElem?_cons_succ, List.set_cons_zero, List.set_cons_succ, true_and, and_true, not_true, not_false_eq_true, false_implies, true_implies, or_true, true_or, or_false, false_or, Bool.or_false, Bool.false_or, decide_false, decide_true, Nat.reduceLT, Nat.reduceLeDiff, Nat.reduceAdd, Nat.reduceSub, ↓reduceIte, Nat.reduceEqDiff, Nat.lt_add_one]
    exact key 268 I1 (Nat.le_refl _) f1 (fun _ => rfl) hlo (fun j hj => absurd hj (by omega))
  have w11 : many = 6 → ∀ k (I2 : mz_I), k ≤ 1340 → fr I I2 [D 3] → (∀ t, t < 1340 - k → I2 (D 3) t = I (D 3) (t + 268)) → (∀ t, 1340 - k ≤ t → I2 (D 3) t = I (D 3) t) → mz_W G M_X12_records K mz_nX 11 [some (.ref (D 0)), some (.int (zI (1340 - k : Nat)))] [] T I2 L (0, 0) := by
    intro hm9 k
    induction k with
    | zero =>
      intro I2 _ f2 hlo hhi
      have e4 : I2 (D 0) 4 = zI 6 := by rw [fr_ne1 f2 n2, hm, hm9]; rfl
      refine mz_vc ok_X12_records [11, 50] [(), (), (), (), (), (), (), (), (), (), (), (), (), (), (), (), (), (), (), (), (), (), (), (), (), (), (), (), (), ()] ?_
      simp only [cd_X12_records, h0, r1, r3, e4, r_rn0, r_rnc, r_vk0, r_vkc, r_vks, r_kci, r_kcv, r_ild, r_ald, r_lld, r_dld, r_Li, r_La, r_Ll, r_Ld, r_Ki, r_Ka, r_Kl, r_Kd, r_Kn, r_ist, r_ast, r_lst, r_dst, r_iinc, r_int, r_lng, r_dbl, r_i2, r_i1, r_l2, r_lsh, r_i2z, r_l2z, r_i2l, r_l2i, r_i2d, r_lcmp, r_ddiv, r_dcmpl, r_dup, r_dup2, r_pop, r_one_int, r_one_ref, r_go, r_if, r_ic, r_tsw, r_lsw, r_sw0, r_swc, r_lk0, r_lkc, r_kp, r_gI, r_gL, r_gR, r_pI, r_pZ, r_pL, r_pR, r_gs, r_ia, r_ca, r_za, r_la, r_da, r_aa, r_ias, r_cas, r_zas, r_las, r_das, r_aas, r_acp, r_new, r_nwa, r_nwq, r_ret, r_irt, r_zrt, r_lrt, r_drt, r_art, r_thr, r_cV0, r_cV1, r_cV2, r_cV3, r_cV4, r_cV5, r_cI0, r_cS0, r_cS1, r_cS2, r_cS3, r_cX0, r_cX1, r_cX2, r_cX3, r_rc, r_oi, r_refx, r_i10, r_i01, r_rfs, r_mem0, r_memc, r_beq, r_kl0, r_klz, r_kl1i, r_kl1r, r_kl1n, r_kl1l, r_kl1d, List.length_cons, List.length_nil, List.getElem?_cons_zero, List.getElem?_cons_succ, List.set_cons_zero, List.set_cons_succ, true_and, and_true, not_true, not_false_eq_true, false_implies, true_implies, or_true, true_or, or_false, false_or, Bool.or_false, Bool.false_or, decide_false, decide_true, Nat.reduceLT, Nat.reduceLeDiff, Nat.reduceAdd, Nat.reduceSub, ↓reduceIte, Nat.reduceEqDiff, Nat.lt_add_one]
      refine ⟨fun _ => ?_, fun q => absurd (by decide) q⟩
      have e5 : zI 6 - 1 = zI ((5 : Nat) : Int) := rfl
      rw [e5]
      refine mz_forget (w50 _ 5 (by decide) ?_ ?_ mz_u_eq (by rw [hm9]; rfl) ?_ ?_) rfl (mz_fg_s (mz_fg_n mz_fg_0))
      · exact fr_u2 (fr_tr f2 fr_refl (by simp) (fun _ q => q)) (by simp)
      · intro i hi; rw [mz_u_nk hi, fr_ne1 f2 n2]
      · intro i j hi hj
        rw [mz_u_ne (Ne.symm n2), hlo _ (by omega)]
        unfold s_push d_rr
        rw [hm9, if_neg (by decide), if_neg (by omega)]
        congr 1; omega
      · intro j
        unfold s_push
        rw [hm9, if_neg (by decide), if_pos rfl]
    | succ k ih =>
      intro I2 hk f2 hlo hhi
      refine mz_vc ok_X12_records [11, 50] [(), (), (), (), (), (), (), (), (), (), (), (), (), (), (), (), (), (), (), (), (), (), (), (), (), (), (), (), (), ()] ?_
      simp only [cd_X12_records, h0, r1, r3, r_rn0, r_rnc, r_vk0, r_vkc, r_vks, r_kci, r_kcv, r_ild, r_ald, r_lld, r_dld, r_Li, r_La, r_Ll, r_Ld, r_Ki, r_Ka, r_Kl, r_Kd, r_Kn, r_ist, r_ast, r_lst, r_dst, r_iinc, r_int, r_lng, r_dbl, r_i2, r_i1, r_l2, r_lsh, r_i2z, r_l2z, r_i2l, r_l2i, r_i2d, r_lcmp, r_ddiv, r_dcmpl, r_dup, r_dup2, r_pop, r_one_int, r_one_ref, r_go, r_if, r_ic, r_tsw, r_lsw, r_sw0, r_swc, r_lk0, r_lkc, r_kp, r_gI, r_gL, r_gR, r_pI, r_pZ, r_pL, r_pR, r_gs, r_ia, r_ca, r_za, r_la, r_da, r_aa, r_ias, r_cas, r_zas, r_las, r_das, r_aas, r_acp, r_new, r_nwa, r_nwq, r_ret, r_irt, r_zrt, r_lrt, r_drt, r_art, r_thr, r_cV0, r_cV1, r_cV2, r_cV3, r_cV4, r_cV5, r_cI0, r_cS0, r_cS1, r_cS2, r_cS3, r_cX0, r_cX1, r_cX2, r_cX3, r_rc, r_oi, r_refx, r_i10, r_i01, r_rfs, r_mem0, r_memc, r_beq, r_kl0, r_klz, r_kl1i, r_kl1r, r_kl1n, r_kl1l, r_kl1d, List.length_cons, List.length_nil, List.getElem?_cons_zero, List.getElem?_cons_succ, List.set_cons_zero, List.set_cons_succ, true_and, and_true, not_true, not_false_eq_true, false_implies, true_implies, or_true, true_or, or_false, false_or, Bool.or_false, Bool.false_or, decide_false, decide_true, Nat.reduceLT, Nat.reduceLeDiff, Nat.reduceAdd, Nat.reduceSub, ↓reduceIte, Nat.reduceEqDiff, Nat.lt_add_one]
      have ea : zI ((1340 - (k + 1) : Nat) : Int) + 268 = zI ((1340 - (k + 1) + 268 : Nat) : Int) := by
        rw [show (268 : Int32) = zI 268 from rfl, z_add]; rfl
      rw [ea, z_nat (by omega), Int.toNat_natCast, z_nat (by omega), Int.toNat_natCast, z_1, show 1340 - (k + 1) + 1 = 1340 - k by omega]
      refine ⟨z_no (b := 1340) (by omega) (by omega) (by omega), fun _ => ⟨⟨1608, t3, z_in (by omega) (by omega) (by decide)⟩, ⟨1608, t3, z_in (by omega) (by omega) (by decide)⟩, ?_⟩⟩
      refine ih _ (by omega) (fr_u2 f2 (by simp)) (fun t ht => ?_) (fun t ht => ?_)
      · by_cases c : t = 1340 - (k + 1)
        · subst c; rw [mz_u_eq, hhi _ (by omega)]
        · rw [mz_u_nk c]; exact hlo t (by omega)
      · rw [mz_u_nk (by omega)]; exact hhi t (by omega)
  refine mz_ofl mk_X12_records rfl (Nat.le_of_ble_eq_true rfl) (Nat.le_of_ble_eq_true rfl) [some (.ref (D 0)), none] rfl ?_
  refine mz_vc ok_X12_records [50, 11] [(), (), (), (), (), (), (), (), (), (), (), (), (), (), (), (), (), (), (), (), (), (), (), (), (), (), (), (), (), ()] ?_
  simp only [cd_X12_records, h0, r1, r3, hm, r_rn0, r_rnc, r_vk0, r_vkc, r_vks, r_kci, r_kcv, r_ild, r_ald, r_lld, r_dld, r_Li, r_La, r_Ll, r_Ld, r_Ki, r_Ka, r_Kl, r_Kd, r_Kn, r_ist, r_ast, r_lst, r_dst, r_iinc, r_int, r_lng, r_dbl, r_i2, r_i1, r_l2, r_lsh, r_i2z, r_l2z, r_i2l, r_l2i, r_i2d, r_lcmp, r_ddiv, r_dcmpl, r_dup, r_dup2, r_pop, r_one_int, r_one_ref, r_go, r_if, r_ic, r_tsw, r_lsw, r_sw0, r_swc, r_lk0, r_lkc, r_kp, r_gI, r_gL, r_gR, r_pI, r_pZ, r_pL, r_pR, r_gs, r_ia, r_ca, r_za, r_la, r_da, r_aa, r_ias, r_cas, r_zas, r_las, r_das, r_aas, r_acp, r_new, r_nwa, r_nwq, r_ret, r_irt, r_zrt, r_lrt, r_drt, r_art, r_thr, r_cV0, r_cV1, r_cV2, r_cV3, r_cV4, r_cV5, r_cI0, r_cS0, r_cS1, r_cS2, r_cS3, r_cX0, r_cX1, r_cX2, r_cX3, r_rc, r_oi, r_refx, r_i10, r_i01, r_rfs, r_mem0, r_memc, r_beq, r_kl0, r_klz, r_kl1i, r_kl1r, r_kl1n, r_kl1l, r_kl1d, List.length_cons, List.length_nil, List.getElem?_cons_zero, List.getElem?_cons_succ, List.set_cons_zero, List.set_cons_succ, true_and, and_true, not_true, not_false_eq_true, false_implies, true_implies, or_true, true_or, or_false, false_or, Bool.or_false, Bool.false_or, decide_false, decide_true, Nat.reduceLT, Nat.reduceLeDiff, Nat.reduceAdd, Nat.reduceSub, ↓reduceIte, Nat.reduceEqDiff, Nat.lt_add_one]
  rw [show (6 : Int32) = zI 6 from rfl, z_eq (by omega) (by omega)]
  refine ⟨fun q => ?_, fun q => ?_⟩
  · have hm5 : many ≤ 5 := by omega
    have hs : s_mn many = many + 1 := by unfold s_mn; rw [if_pos (by omega)]
    refine w50 I many hm5 fr_refl (fun _ _ => rfl) hm hs (fun i j hi hj => ?_) (fun j => ?_)
    · unfold s_push d_rr; rw [if_pos (by omega), if_neg (by omega)]
    · unfold s_push; rw [if_pos (by omega), if_pos rfl]
  · exact w11 (by omega) 1340 I (Nat.le_refl _) fr_refl (fun t ht => absurd ht (by omega)) (fun _ _ => rfl)
theorem c_firstColM {kd : Nat} (hk : kd < 7) (h : K (some (.int (zI (s_c0 kd)))) T I L) : mz_Ctr G M_X12_firstColumn [.int (zI kd)] T I L K := by
  refine mz_ofl mk_X12_firstColumn rfl (Nat.le_of_ble_eq_true rfl) (Nat.le_of_ble_eq_true rfl) [some (.int (zI kd))] rfl ?_
  refine mz_vc ok_X12_firstColumn [] [(), (), (), (), (), (), (), (), (), (), (), (), (), (), (), (), (), (), (), (), (), (), (), (), (), (), (), (), (), ()] ?_
  simp only [cd_X12_firstColumn, r_rn0, r_rnc, r_vk0, r_vkc, r_vks, r_kci, r_kcv, r_ild, r_ald, r_lld, r_dld, r_Li, r_La, r_Ll, r_Ld, r_Ki, r_Ka, r_Kl, r_Kd, r_Kn, r_ist, r_ast, r_lst, r_dst, r_iinc, r_int, r_lng, r_dbl, r_i2, r_i1, r_l2, r_lsh, r_i2z, r_l2z, r_i2l, r_l2i, r_i2d, r_lcmp, r_ddiv, r_dcmpl, r_dup, r_dup2, r_pop, r_one_int, r_one_ref, r_go, r_if, r_ic, r_tsw, r_lsw, r_sw0, r_swc, r_lk0, r_lkc, r_kp, r_gI, r_gL, r_gR, r_pI, r_pZ, r_pL, r_pR, r_gs, r_ia, r_ca, r_za, r_la, r_da, r_aa, r_ias, r_cas, r_zas, r_las, r_das, r_aas, r_acp, r_new, r_nwa, r_nwq, r_ret, r_irt, r_zrt, r_lrt, r_drt, r_art, r_thr, r_cV0, r_cV1, r_cV2, r_cV3, r_cV4, r_cV5, r_cI0, r_cS0, r_cS1, r_cS2, r_cS3, r_cX0, r_cX1, r_cX2, r_cX3, r_rc, r_oi, r_refx, r_i10, r_i01, r_rfs, r_mem0, r_memc, r_beq, r_kl0, r_klz, r_kl1i, r_kl1r, r_kl1n, r_kl1l, r_kl1d, List.length_cons, List.length_nil, List.getElem?_cons_zero, List.getElem?_cons_succ, List.set_cons_zero, List.set_cons_succ, true_and, and_true, not_true, not_false_eq_true, false_implies, true_implies, or_true, true_or, or_false, false_or, Bool.or_false, Bool.false_or, decide_false, decide_true, Nat.reduceLT, Nat.reduceLeDiff, Nat.reduceAdd, Nat.reduceSub, ↓reduceIte, Nat.reduceEqDiff, Nat.lt_add_one]
  rw [l_1, z_eq (by omega) (by omega)]
  unfold s_c0 at h
  refine ⟨fun q => ?_, fun q => ?_⟩
  · rw [if_neg (by omega)] at h; exact h
  · rw [if_pos (by omega)] at h; exact h
/-- a step of the reference that may record -/
def d_Go (I I' : mz_I) (D : Nat → Nat) (many' : Nat) (g' : Nat → Int32) (rr' : Nat → Nat → Int32) : Prop :=
  fr I I' [D 0, D 1, D 3] ∧ (∀ i, i ≠ 4 → I' (D 0) i = I (D 0) i) ∧ I' (D 0) 4 = zI many' ∧ I' (D 1) = g' ∧ (∀ i j, i < many' → j < 268 → I' (D 3) (268 * i + j) = rr' i j)
theorem c_appearsM {D : Nat → Nat} {many kd : Nat} (hM : p_Mo T D) (hC : p_Mc I D) (hm : I (D 0) 4 = zI many) (hm6 : many ≤ 6) (hk : kd < 7)
    (h : ∀ I', d_Go I I' D (w_mn (o_fits (I (D 1)) kd) many) (o_put (I (D 1)) kd) (w_rr (o_fits (I (D 1)) kd) many (d_rr I D) (o_app (I (D 1)) kd)) → K none T I' L) : mz_Ctr G M_X12_appears [.ref (D 0), .int (zI kd)] T I L K := by
  refine mz_apartC fun hU => ?_
  obtain ⟨h0, ⟨r1, r2, r3, -⟩, ⟨t1, t2, t3, -⟩, -⟩ := id hM
  have n1 : D 1 ≠ D 3 := mz_ne hU t1 t3 (by decide)
  have n3 : D 0 ≠ D 1 := mz_ne hU h0 t1 (by decide)
  have n4 : D 3 ≠ D 1 := Ne.symm n1
  obtain ⟨a1, a2, a3, a4, a5, a6, a7, a8, a9, a10⟩ := app_in (m := I (D 1)) (kd := kd)
  have hb := s_0b (kd := kd)
  have ao : ∀ j, j < 222 → o_app (I (D 1)) kd j = I (D 1) j := fun j hj => app_out (Or.inl hj)
  have efm : s_fm (o_app (I (D 1)) kd) = s_fm (I (D 1)) := s_fm_eq (fun i hi => ao i (by omega))
  have ekd : m_kd (o_app (I (D 1)) kd) = kd := by unfold m_kd; rw [a1, z_nat (by omega)]; rfl
  have est : m_st (o_app (I (D 1)) kd) = 0 := by unfold m_st; rw [a2]; rfl
  have ec : m_c (o_app (I (D 1)) kd) = s_c0 kd := by unfold m_c; rw [a3, z_toInt (by omega)]
  have err : m_r (o_app (I (D 1)) kd) = s_r0 kd := by unfold m_r; rw [a4, z_toInt (by omega)]
  have hpos : d_pos (o_app (I (D 1)) kd) := by
    unfold d_pos
    rw [ekd, est, ec, err, a1, a2, a3, a4]
    exact ⟨⟨rfl, rfl, rfl, rfl⟩, hk, by decide, by omega, by omega⟩
  have wEnd : ∀ I1 : mz_I, fr I I1 [D 1] → I1 (D 1) = m_u (m_u (m_u (I (D 1)) 222 (zI kd)) 223 0) 224 (zI (s_c0 kd)) → mz_W G M_X12_appears K mz_nX 58 [some (.ref (D 0)), some (.int (zI kd))] [.int (zI (s_r0 kd)), .int 225, .ref (D 1)] T I1 L (0, 0) := by
    intro I1 f1 e1
    refine mz_vc ok_X12_appears [] [(), (), (), (), (), (), (), (), (), (), (), (), (), (), (), (), (), (), (), (), (), (), (), (), (), (), (), (), (), ()] ?_
    simp only [cd_X12_appears, h0, r1, ix_221 t1, n_221, ix_222 t1, n_222, ix_223 t1, n_223, ix_224 t1, n_224, ix_225 t1, n_225, ix_226 t1, n_226, ix_227 t1, n_227, ix_228 t1, n_228, ix_229 t1, n_229, ix_230 t1, n_230, ix_231 t1, n_231, mz_u_row, e1, m_u_at, r_rn0, r_rnc, r_vk0, r_vkc, r_vks, r_kci, r_kcv, r_ild, r_ald, r_lld, r_dld, r_Li, r_La, r_Ll, r_Ld, r_Ki, r_Ka, r_Kl, r_Kd, r_Kn, r_ist, r_ast, r_lst, r_dst, r_iinc, r_int, r_lng, r_dbl, r_i2, r_i1, r_l2, r_lsh, r_i2z, r_l2z, r_i2l, r_l2i, r_i2d, r_lcmp, r_ddiv, r_dcmpl, r_dup, r_dup2, r_pop, r_one_int, r_one_ref, r_go, r_if, r_ic, r_tsw, r_lsw, r_sw0, r_swc, r_lk0, r_lkc, r_kp, r_gI, r_gL, r_gR, r_pI, r_pZ, r_pL, r_pR, r_gs, r_ia, r_ca, r_za, r_la, r_da, r_aa, r_ias, r_cas, r_zas, r_las, r_das, r_aas, r_acp, r_new, r_nwa, r_nwq, r_ret, r_irt, r_zrt, r_lrt, r_drt, r_art, r_thr, r_cV0, r_cV1, r_cV2, r_cV3, r_cV4, r_cV5, r_cI0, r_cS0, r_cS1, r_cS2, r_cS3, r_cX0, r_cX1, r_cX2, r_cX3, r_rc, r_oi, r_refx, r_i10, r_i01, r_rfs, r_mem0, r_memc, r_beq, r_kl0, r_klz, r_kl1i, r_kl1r, r_kl1n, r_kl1l, r_kl1d, List.length_cons, List.length_nil, List.getElem?_cons_zero, List.getElem?_cons_succ, List.set_cons_zero, List.set_cons_succ, true_and, and_true, not_true, not_false_eq_true, false_implies, true_implies, or_true, true_or, or_false, false_or, Bool.or_false, Bool.false_or, decide_false, decide_true, Nat.reduceLT, Nat.reduceLeDiff, Nat.reduceAdd, Nat.reduceSub, ↓reduceIte, Nat.reduceEqDiff, Nat.lt_add_one]
    have f2 : fr I (mz_u (mz_u (mz_u (mz_u (mz_u (mz_u (mz_u I1 (D 1) 225 (zI (s_r0 kd))) (D 1) 226 0) (D 1) 227 0) (D 1) 228 0) (D 1) 229 0) (D 1) 230 (zI (s_r0 kd))) (D 1) 231 (-1)) [D 1] := fr_u2 (fr_u2 (fr_u2 (fr_u2 (fr_u2 (fr_u2 (fr_u2 f1 (by simp)) (by simp)) (by simp)) (by simp)) (by simp)) (by simp)) (by simp)
    have e2 : (mz_u (mz_u (mz_u (mz_u (mz_u (mz_u (mz_u I1 (D 1) 225 (zI (s_r0 kd))) (D 1) 226 0) (D 1) 227 0) (D 1) 228 0) (D 1) 229 0) (D 1) 230 (zI (s_r0 kd))) (D 1) 231 (-1)) (D 1) = o_app (I (D 1)) kd := by
      rw [mz_u_row, mz_u_row, mz_u_row, mz_u_row, mz_u_row, mz_u_row, mz_u_row, e1]; rfl
    generalize mz_u (mz_u (mz_u (mz_u (mz_u (mz_u (mz_u I1 (D 1) 225 (zI (s_r0 kd))) (D 1) 226 0) (D 1) 227 0) (D 1) 228 0) (D 1) 229 0) (D 1) 230 (zI (s_r0 kd))) (D 1) 231 (-1) = I2 at f2 e2 ⊢
    have hC2 := Mc_1 hU hM hC f2
    refine c_fitsAtM (c := s_c0 kd) (r := s_r0 kd) hM hC2 (by rw [e2]; exact hpos) (by omega) (by omega) ?_
    rw [e2, ekd, est, efm]
    have em : s_fit (s_fm (I (D 1))) kd 0 (s_c0 kd) (s_r0 kd) = o_fits (I (D 1)) kd := rfl
    rw [em]
    simp only [cd_X12_appears, h0, r1, ix_221 t1, n_221, ix_222 t1, n_222, ix_223 t1, n_223, ix_224 t1, n_224, ix_225 t1, n_225, ix_226 t1, n_226, ix_227 t1, n_227, ix_228 t1, n_228, ix_229 t1, n_229, ix_230 t1, n_230, ix_231 t1, n_231, b2i_0, r_rn0, r_rnc, r_vk0, r_vkc, r_vks, r_kci, r_kcv, r_ild, r_ald, r_lld, r_dld, r_Li, r_La, r_Ll, r_Ld, r_Ki, r_Ka, r_Kl, r_Kd, r_Kn, r_ist, r_ast, r_lst, r_dst, r_iinc, r_int, r_lng, r_dbl, r_i2, r_i1, r_l2, r_lsh, r_i2z, r_l2z, r_i2l, r_l2i, r_i2d, r_lcmp, r_ddiv, r_dcmpl, r_dup, r_dup2, r_pop, r_one_int, r_one_ref, r_go, r_if, r_ic, r_tsw, r_lsw, r_sw0, r_swc, r_lk0, r_lkc, r_kp, r_gI, r_gL, r_gR, r_pI, r_pZ, r_pL, r_pR, r_gs, r_ia, r_ca, r_za, r_la, r_da, r_aa, r_ias, r_cas, r_zas, r_las, r_das, r_aas, r_acp, r_new, r_nwa, r_nwq, r_ret, r_irt, r_zrt, r_lrt, r_drt, r_art, r_thr, r_cV0, r_cV1, r_cV2, r_cV3, r_cV4, r_cV5, r_cI0, r_cS0, r_cS1, r_cS2, r_cS3, r_cX0, r_cX1, r_cX2, r_cX3, r_rc, r_oi, r_refx, r_i10, r_i01, r_rfs, r_mem0, r_memc, r_beq, r_kl0, r_klz, r_kl1i, r_kl1r, r_kl1n, r_kl1l, r_kl1d, List.length_cons, List.length_nil, List.getElem?_cons_zero, List.getElem?_cons_succ, List.set_cons_zero, List.set_cons_succ, true_and, and_true, not_true, not_false_eq_true, false_implies, true_implies, or_true, true_or, or_false, false_or, Bool.or_false, Bool.false_or, decide_false, decide_true, Nat.reduceLT, Nat.reduceLeDiff, Nat.reduceAdd, Nat.reduceSub, ↓reduceIte, Nat.reduceEqDiff, Nat.lt_add_one]
    have err2 : d_rr I2 D = d_rr I D := by unfold d_rr; rw [fr_ne1 f2 n4]
    refine ⟨fun q => ?_, fun q => ?_⟩
    · refine h _ ⟨?_, ?_, ?_, ?_, ?_⟩
      · exact fr_u2 (fr_tr f2 fr_refl (by simp) (fun _ q => q)) (by simp)
      · intro i hi; rw [mz_u_ne n3, fr_ne1 f2 n3]
      · rw [mz_u_ne n3, fr_ne1 f2 n3, hm, q]; rfl
      · rw [mz_u_row, e2]; unfold o_put; rw [q, if_neg (by decide)]
      · intro i j hi hj
        rw [q] at hi ⊢
        rw [mz_u_ne n4, fr_ne1 f2 n4]; rfl
    · have q : o_fits (I (D 1)) kd = true := by simpa using q
      rw [q] at h
      refine c_recordsM hM (by rw [fr_ne1 f2 n3]; exact hm) hm6 (fun I' f3 o3 m3 r3 => ?_)
      simp only [cd_X12_appears, h0, r1, ix_221 t1, n_221, ix_222 t1, n_222, ix_223 t1, n_223, ix_224 t1, n_224, ix_225 t1, n_225, ix_226 t1, n_226, ix_227 t1, n_227, ix_228 t1, n_228, ix_229 t1, n_229, ix_230 t1, n_230, ix_231 t1, n_231, r_rn0, r_rnc, r_vk0, r_vkc, r_vks, r_kci, r_kcv, r_ild, r_ald, r_lld, r_dld, r_Li, r_La, r_Ll, r_Ld, r_Ki, r_Ka, r_Kl, r_Kd, r_Kn, r_ist, r_ast, r_lst, r_dst, r_iinc, r_int, r_lng, r_dbl, r_i2, r_i1, r_l2, r_lsh, r_i2z, r_l2z, r_i2l, r_l2i, r_i2d, r_lcmp, r_ddiv, r_dcmpl, r_dup, r_dup2, r_pop, r_one_int, r_one_ref, r_go, r_if, r_ic, r_tsw, r_lsw, r_sw0, r_swc, r_lk0, r_lkc, r_kp, r_gI, r_gL, r_gR, r_pI, r_pZ, r_pL, r_pR, r_gs, r_ia, r_ca, r_za, r_la, r_da, r_aa, r_ias, r_cas, r_zas, r_las, r_das, r_aas, r_acp, r_new, r_nwa, r_nwq, r_ret, r_irt, r_zrt, r_lrt, r_drt, r_art, r_thr, r_cV0, r_cV1, r_cV2, r_cV3, r_cV4, r_cV5, r_cI0, r_cS0, r_cS1, r_cS2, r_cS3, r_cX0, r_cX1, r_cX2, r_cX3, r_rc, r_oi, r_refx, r_i10, r_i01, r_rfs, r_mem0, r_memc, r_beq, r_kl0, r_klz, r_kl1i, r_kl1r, r_kl1n, r_kl1l, r_kl1d, List.length_cons, List.length_nil, List.getElem?_cons_zero, List.getElem?_cons_succ, List.set_cons_zero, List.set_cons_succ, true_and, and_true, not_true, not_false_eq_true, false_implies, true_implies, or_true, true_or, or_false, false_or, Bool.or_false, Bool.false_or, decide_false, decide_true, Nat.reduceLT, Nat.reduceLeDiff, Nat.reduceAdd, Nat.reduceSub, ↓reduceIte, Nat.reduceEqDiff, Nat.lt_add_one]
      refine h I' ⟨fr_tr f2 f3 (by simp) (by simp), fun i hi => by rw [o3 i hi, fr_ne1 f2 n3], m3, ?_, ?_⟩
      · rw [f3 _ (by simp; exact ⟨Ne.symm n3, n1⟩), e2]; unfold o_put; rw [q, if_pos rfl]
      · intro i j hi hj
        rw [r3 i j hi hj, err2, e2]; rfl
  refine mz_ofl mk_X12_appears rfl (Nat.le_of_ble_eq_true rfl) (Nat.le_of_ble_eq_true rfl) [some (.ref (D 0)), some (.int (zI kd))] rfl ?_
  refine mz_vc ok_X12_appears [58] [(), (), (), (), (), (), (), (), (), (), (), (), (), (), (), (), (), (), (), (), (), (), (), (), (), (), (), (), (), ()] ?_
  simp only [cd_X12_appears, h0, r1, ix_221 t1, n_221, ix_222 t1, n_222, ix_223 t1, n_223, ix_224 t1, n_224, ix_225 t1, n_225, ix_226 t1, n_226, ix_227 t1, n_227, ix_228 t1, n_228, ix_229 t1, n_229, ix_230 t1, n_230, ix_231 t1, n_231, r_rn0, r_rnc, r_vk0, r_vkc, r_vks, r_kci, r_kcv, r_ild, r_ald, r_lld, r_dld, r_Li, r_La, r_Ll, r_Ld, r_Ki, r_Ka, r_Kl, r_Kd, r_Kn, r_ist, r_ast, r_lst, r_dst, r_iinc, r_int, r_lng, r_dbl, r_i2, r_i1, r_l2, r_lsh, r_i2z, r_l2z, r_i2l, r_l2i, r_i2d, r_lcmp, r_ddiv, r_dcmpl, r_dup, r_dup2, r_pop, r_one_int, r_one_ref, r_go, r_if, r_ic, r_tsw, r_lsw, r_sw0, r_swc, r_lk0, r_lkc, r_kp, r_gI, r_gL, r_gR, r_pI, r_pZ, r_pL, r_pR, r_gs, r_ia, r_ca, r_za, r_la, r_da, r_aa, r_ias, r_cas, r_zas, r_las, r_das, r_aas, r_acp, r_new, r_nwa, r_nwq, r_ret, r_irt, r_zrt, r_lrt, r_drt, r_art, r_thr, r_cV0, r_cV1, r_cV2, r_cV3, r_cV4, r_cV5, r_cI0, r_cS0, r_cS1, r_cS2, r_cS3, r_cX0, r_cX1, r_cX2, r_cX3, r_rc, r_oi, r_refx, r_i10, r_i01, r_rfs, r_mem0, r_memc, r_beq, r_kl0, r_klz, r_kl1i, r_kl1r, r_kl1n, r_kl1l, r_kl1d, List.length_cons, List.length_nil, List.getElem?_cons_zero, List.getElem?_cons_succ, List.set_cons_zero, List.set_cons_succ, true_and, and_true, not_true, not_false_eq_true, false_implies, true_implies, or_true, true_or, or_false, false_or, Bool.or_false, Bool.false_or, decide_false, decide_true, Nat.reduceLT, Nat.reduceLeDiff, Nat.reduceAdd, Nat.reduceSub, ↓reduceIte, Nat.reduceEqDiff, Nat.lt_add_one]
  refine c_firstColM hk ?_
  simp only [cd_X12_appears, h0, r1, ix_221 t1, n_221, ix_222 t1, n_222, ix_223 t1, n_223, ix_224 t1, n_224, ix_225 t1, n_225, ix_226 t1, n_226, ix_227 t1, n_227, ix_228 t1, n_228, ix_229 t1, n_229, ix_230 t1, n_230, ix_231 t1, n_231, r_rn0, r_rnc, r_vk0, r_vkc, r_vks, r_kci, r_kcv, r_ild, r_ald, r_lld, r_dld, r_Li, r_La, r_Ll, r_Ld, r_Ki, r_Ka, r_Kl, r_Kd, r_Kn, r_ist, r_ast, r_lst, r_dst, r_iinc, r_int, r_lng, r_dbl, r_i2, r_i1, r_l2, r_lsh, r_i2z, r_l2z, r_i2l, r_l2i, r_i2d, r_lcmp, r_ddiv, r_dcmpl, r_dup, r_dup2, r_pop, r_one_int, r_one_ref, r_go, r_if, r_ic, r_tsw, r_lsw, r_sw0, r_swc, r_lk0, r_lkc, r_kp, r_gI, r_gL, r_gR, r_pI, r_pZ, r_pL, r_pR, r_gs, r_ia, r_ca, r_za, r_la, r_da, r_aa, r_ias, r_cas, r_zas, r_las, r_das, r_aas, r_acp, r_new, r_nwa, r_nwq, r_ret, r_irt, r_zrt, r_lrt, r_drt, r_art, r_thr, r_cV0, r_cV1, r_cV2, r_cV3, r_cV4, r_cV5, r_cI0, r_cS0, r_cS1, r_cS2, r_cS3, r_cX0, r_cX1, r_cX2, r_cX3, r_rc, r_oi, r_refx, r_i10, r_i01, r_rfs, r_mem0, r_memc, r_beq, r_kl0, r_klz, r_kl1i, r_kl1r, r_kl1n, r_kl1l, r_kl1d, List.length_cons, List.length_nil, List.getElem?_cons_zero, List.getElem?_cons_succ, List.set_cons_zero, List.set_cons_succ, true_and, and_true, not_true, not_false_eq_true, false_implies, true_implies, or_true, true_or, or_false, false_or, Bool.or_false, Bool.false_or, decide_false, decide_true, Nat.reduceLT, Nat.reduceLeDiff, Nat.reduceAdd, Nat.reduceSub, ↓reduceIte, Nat.reduceEqDiff, Nat.lt_add_one]
  have f1 : fr I (mz_u (mz_u (mz_u I (D 1) 222 (zI kd)) (D 1) 223 0) (D 1) 224 (zI (s_c0 kd))) [D 1] := fr_u2 (fr_u2 (fr_u2 fr_refl (by simp)) (by simp)) (by simp)
  have w := wEnd _ f1 (by rw [mz_u_row, mz_u_row, mz_u_row])
  rw [l_1, l_0, z_eq (by omega) (by omega), z_eq (by omega) (by omega)]
  unfold s_r0 at w
  refine ⟨fun q => ⟨fun q2 => ?_, fun q2 => ?_⟩, fun q => ?_⟩
  · rw [if_neg (show ¬ kd = 1 by omega), if_neg (show ¬ kd = 0 by omega)] at w; exact w
  · rw [if_neg (show ¬ kd = 1 by omega), if_pos (show kd = 0 by omega)] at w; exact w
  · rw [if_pos (show kd = 1 by omega)] at w; exact w
/-- the row of a new game, what lies behind it left -/
def o_zeroB (g : Nat → Int32) (n0 : Nat) : Nat → Int32 := fun j => if j < 268 then o_zero n0 j else g j
theorem c_beginsM {D : Nat → Nat} {n0 : Nat} (hM : p_Mo T D) (hC : p_Mc I D) (hn0 : n0 < 2147483648)
    (h : ∀ I' z9, z9 = o_zeroB (I (D 1)) n0 → d_Go I I' D (w_mn (o_fits (o_draw z9) (m_dk z9)) 0) (o_put (o_draw z9) (m_dk z9)) (w_rr (o_fits (o_draw z9) (m_dk z9)) 0 (d_rr I D) (o_app (o_draw z9) (m_dk z9))) → K none T I' L) : mz_Ctr G M_X12_begins [.ref (D 0), .int (zI n0)] T I L K := by
  refine mz_apartC fun hU => ?_
  obtain ⟨h0, ⟨r1, r2, r3, -⟩, ⟨t1, t2, t3, -⟩, -⟩ := id hM
  have n1 : D 1 ≠ D 3 := mz_ne hU t1 t3 (by decide)
  have n3 : D 0 ≠ D 1 := mz_ne hU h0 t1 (by decide)
  have n4 : D 3 ≠ D 1 := Ne.symm n1
  have n5 : D 3 ≠ D 0 := mz_ne hU t3 h0 (by decide)
  have loop : ∀ k (I1 : mz_I), k ≤ 268 → fr I I1 [D 1] → (∀ j, j < 268 - k → I1 (D 1) j = 0) → (∀ j, 268 ≤ j → I1 (D 1) j = I (D 1) j) → mz_W G M_X12_begins K mz_nX 2 [some (.ref (D 0)), some (.int (zI n0)), some (.int (zI (268 - k : Nat)))] [] T I1 L (0, 0) := by
    intro k
    induction k with
    | zero =>
      intro I1 _ f1 e1 e9
      refine mz_vc ok_X12_begins [2] [(), (), (), (), (), (), (), (), (), (), (), (), (), (), (), (), (), (), (), (), (), (), (), (), (), (), (), (), (), ()] ?_
      simp only [cd_X12_begins, h0, r1, ix_232 t1, n_232, ix_235 t1, n_235, ix_238 t1, n_238, ix_239 t1, n_239, ix_267 t1, n_267, r_rn0, r_rnc, r_vk0, r_vkc, r_vks, r_kci, r_kcv, r_ild, r_ald, r_lld, r_dld, r_Li, r_La, r_Ll, r_Ld, r_Ki, r_Ka, r_Kl, r_Kd, r_Kn, r_ist, r_ast, r_lst, r_dst, r_iinc, r_int, r_lng, r_dbl, r_i2, r_i1, r_l2, r_lsh, r_i2z, r_l2z, r_i2l, r_l2i, r_i2d, r_lcmp, r_ddiv, r_dcmpl, r_dup, r_dup2, r_pop, r_one_int, r_one_ref, r_go, r_if, r_ic, r_tsw, r_lsw, r_sw0, r_swc, r_lk0, r_lkc, r_kp, r_gI, r_gL, r_gR, r_pI, r_pZ, r_pL, r_pR, r_gs, r_ia, r_ca, r_za, r_la, r_da, r_aa, r_ias, r_cas, r_zas, r_las, r_das, r_aas, r_acp, r_new, r_nwa, r_nwq, r_ret, r_irt, r_zrt, r_lrt, r_drt, r_art, r_thr, r_cV0, r_cV1, r_cV2, r_cV3, r_cV4, r_cV5, r_cI0, r_cS0, r_cS1, r_cS2, r_cS3, r_cX0, r_cX1, r_cX2, r_cX3, r_rc, r_oi, r_refx, r_i10, r_i01, r_rfs, r_mem0, r_memc, r_beq, r_kl0, r_klz, r_kl1i, r_kl1r, r_kl1n, r_kl1l, r_kl1d, List.length_cons, List.length_nil, List.getElem?_cons_zero, List.getElem?_cons_succ, List.set_cons_zero, List.set_cons_succ, true_and, and_true, not_true, not_false_eq_true, false_implies, true_implies, or_true, true_or, or_false, false_or, Bool.or_false, Bool.false_or, decide_false, decide_true, Nat.reduceLT, Nat.reduceLeDiff, Nat.reduceAdd, Nat.reduceSub, ↓reduceIte, Nat.reduceEqDiff, Nat.lt_add_one]
      refine ⟨fun _ => ?_, fun q => absurd (by decide) q⟩
      have f2 : fr I (mz_u (mz_u (mz_u (mz_u (mz_u (mz_u I1 (D 1) 232 (-1)) (D 1) 235 1) (D 1) 238 (-1)) (D 1) 239 (-1)) (D 1) 267 (zI n0)) (D 0) 4 0) [D 0, D 1] := fr_u2 (fr_u2 (fr_u2 (fr_u2 (fr_u2 (fr_u2 (fr_tr f1 fr_refl (by simp) (fun _ q => q)) (by simp)) (by simp)) (by simp)) (by simp)) (by simp)) (by simp)
      have e2 : (mz_u (mz_u (mz_u (mz_u (mz_u (mz_u I1 (D 1) 232 (-1)) (D 1) 235 1) (D 1) 238 (-1)) (D 1) 239 (-1)) (D 1) 267 (zI n0)) (D 0) 4 0) (D 1) = o_zeroB (I (D 1)) n0 := by
        rw [mz_u_ne (Ne.symm n3), mz_u_row, mz_u_row, mz_u_row, mz_u_row, mz_u_row]
        funext j
        unfold o_zeroB o_zero
        simp only [m_u_at]
        by_cases c0 : j < 268
        · rw [if_pos c0, e1 j (by omega)]
          by_cases c1 : j = 267
          · subst c1; rfl
          by_cases c2 : j = 239
          · subst c2; rfl
          by_cases c3 : j = 238
          · subst c3; rfl
          by_cases c4 : j = 235
          · subst c4; rfl
          by_cases c5 : j = 232
          · subst c5; rfl
          rw [if_neg c1, if_neg c2, if_neg c3, if_neg c4, if_neg c5, if_neg (by omega), if_neg c4, if_neg c1]
        · rw [if_neg c0, e9 j (by omega), if_neg (by omega), if_neg (by omega), if_neg (by omega), if_neg (by omega), if_neg (by omega)]
      have e4 : (mz_u (mz_u (mz_u (mz_u (mz_u (mz_u I1 (D 1) 232 (-1)) (D 1) 235 1) (D 1) 238 (-1)) (D 1) 239 (-1)) (D 1) 267 (zI n0)) (D 0) 4 0) (D 0) 4 = zI ((0 : Nat) : Int) := mz_u_eq
      have e5 : ∀ i, i ≠ 4 → (mz_u (mz_u (mz_u (mz_u (mz_u (mz_u I1 (D 1) 232 (-1)) (D 1) 235 1) (D 1) 238 (-1)) (D 1) 239 (-1)) (D 1) 267 (zI n0)) (D 0) 4 0) (D 0) i = I (D 0) i := fun i hi => by
        rw [mz_u_nk hi, mz_u_ne n3, mz_u_ne n3, mz_u_ne n3, mz_u_ne n3, mz_u_ne n3, fr_ne1 f1 n3]
      generalize mz_u (mz_u (mz_u (mz_u (mz_u (mz_u I1 (D 1) 232 (-1)) (D 1) 235 1) (D 1) 238 (-1)) (D 1) 239 (-1)) (D 1) 267 (zI n0)) (D 0) 4 0 = I2 at f2 e2 e4 e5 ⊢
      have hC2 := p_Mc_fr hC f2 (Mc_ne hU hM (fun a ha => by
        simp only [List.mem_cons, List.not_mem_nil, or_false] at ha
        rcases ha with e | e <;> rw [e]
        · exact ⟨_, h0, by decide, by decide, by decide, by decide, by decide⟩
        · exact ⟨_, t1, by decide, by decide, by decide, by decide, by decide⟩))
      have z267 : o_zeroB (I (D 1)) n0 267 = zI n0 := rfl
      have z220 : o_zeroB (I (D 1)) n0 220 = zI ((0 : Nat) : Int) := rfl
      obtain ⟨hz, hmz⟩ := d_z_of (z := (n0, 0)) z267 z220 ⟨hn0, (show (0 : Nat) < 128 by decide)⟩
      refine c_drawsM hM (by rw [e2]; exact hz) (fun I3 f3 e3 => ?_)
      rw [e2] at e3 ⊢
      simp only [cd_X12_begins, h0, r1, ix_232 t1, n_232, ix_235 t1, n_235, ix_238 t1, n_238, ix_239 t1, n_239, ix_267 t1, n_267, r_rn0, r_rnc, r_vk0, r_vkc, r_vks, r_kci, r_kcv, r_ild, r_ald, r_lld, r_dld, r_Li, r_La, r_Ll, r_Ld, r_Ki, r_Ka, r_Kl, r_Kd, r_Kn, r_ist, r_ast, r_lst, r_dst, r_iinc, r_int, r_lng, r_dbl, r_i2, r_i1, r_l2, r_lsh, r_i2z, r_l2z, r_i2l, r_l2i, r_i2d, r_lcmp, r_ddiv, r_dcmpl, r_dup, r_dup2, r_pop, r_one_int, r_one_ref, r_go, r_if, r_ic, r_tsw, r_lsw, r_sw0, r_swc, r_lk0, r_lkc, r_kp, r_gI, r_gL, r_gR, r_pI, r_pZ, r_pL, r_pR, r_gs, r_ia, r_ca, r_za, r_la, r_da, r_aa, r_ias, r_cas, r_zas, r_las, r_das, r_aas, r_acp, r_new, r_nwa, r_nwq, r_ret, r_irt, r_zrt, r_lrt, r_drt, r_art, r_thr, r_cV0, r_cV1, r_cV2, r_cV3, r_cV4, r_cV5, r_cI0, r_cS0, r_cS1, r_cS2, r_cS3, r_cX0, r_cX1, r_cX2, r_cX3, r_rc, r_oi, r_refx, r_i10, r_i01, r_rfs, r_mem0, r_memc, r_beq, r_kl0, r_klz, r_kl1i, r_kl1r, r_kl1n, r_kl1l, r_kl1d, List.length_cons, List.length_nil, List.getElem?_cons_zero, List.getElem?_cons_succ, List.set_cons_zero, List.set_cons_succ, true_and, and_true, not_true, not_false_eq_true, false_implies, true_implies, or_true, true_or, or_false, false_or, Bool.or_false, Bool.false_or, decide_false, decide_true, Nat.reduceLT, Nat.reduceLeDiff, Nat.reduceAdd, Nat.reduceSub, ↓reduceIte, Nat.reduceEqDiff, Nat.lt_add_one]
      have f23 : fr I I3 [D 0, D 1] := fr_tr1 f2 f3 (by simp)
      have hdk : m_dk (o_zeroB (I (D 1)) n0) < 7 := q_kd_lt hz.2.2
      have err : d_rr I3 D = d_rr I D := by unfold d_rr; rw [f23 _ (by simp; exact ⟨n5, n4⟩)]
      refine c_appearsM (many := 0) hM (Mc_1 hU hM hC2 f3) (by rw [fr_ne1 f3 n3]; exact e4) (by decide) hdk (fun I' hGo => ?_)
      simp only [cd_X12_begins, h0, r1, ix_232 t1, n_232, ix_235 t1, n_235, ix_238 t1, n_238, ix_239 t1, n_239, ix_267 t1, n_267, r_rn0, r_rnc, r_vk0, r_vkc, r_vks, r_kci, r_kcv, r_ild, r_ald, r_lld, r_dld, r_Li, r_La, r_Ll, r_Ld, r_Ki, r_Ka, r_Kl, r_Kd, r_Kn, r_ist, r_ast, r_lst, r_dst, r_iinc, r_int, r_lng, r_dbl, r_i2, r_i1, r_l2, r_lsh, r_i2z, r_l2z, r_i2l, r_l2i, r_i2d, r_lcmp, r_ddiv, r_dcmpl, r_dup, r_dup2, r_pop, r_one_int, r_one_ref, r_go, r_if, r_ic, r_tsw, r_lsw, r_sw0, r_swc, r_lk0, r_lkc, r_kp, r_gI, r_gL, r_gR, r_pI, r_pZ, r_pL, r_pR, r_gs, r_ia, r_ca, r_za, r_la, r_da, r_aa, r_ias, r_cas, r_zas, r_las, r_das, r_aas, r_acp, r_new, r_nwa, r_nwq, r_ret, r_irt, r_zrt, r_lrt, r_drt, r_art, r_thr, r_cV0, r_cV1, r_cV2, r_cV3, r_cV4, r_cV5, r_cI0, r_cS0, r_cS1, r_cS2, r_cS3, r_cX0, r_cX1, r_cX2, r_cX3, r_rc, r_oi, r_refx, r_i10, r_i01, r_rfs, r_mem0, r_memc, r_beq, r_kl0, r_klz, r_kl1i, r_kl1r, r_kl1n, r_kl1l, r_kl1d, List.length_cons, List.length_nil, List.getElem?_cons_zero, List.getElem?_cons_succ, List.set_cons_zero, List.set_cons_succ, true_and, and_true, not_true, not_false_eq_true, false_implies, true_implies, or_true, true_or, or_false, false_or, Bool.or_false, Bool.false_or, decide_false, decide_true, Nat.reduceLT, Nat.reduceLeDiff, Nat.reduceAdd, Nat.reduceSub, ↓reduceIte, Nat.reduceEqDiff, Nat.lt_add_one]
      rw [e3, err] at hGo
      obtain ⟨w1, w2, w3, w4, w5⟩ := hGo
      exact h I' _ rfl ⟨fr_tr f23 w1 (by simp) (fun _ q => q), fun i hi => by rw [w2 i hi, fr_ne1 f3 n3, e5 i hi], w3, w4, w5⟩
    | succ k ih =>
      intro I1 hk f1 e1 e9
      refine mz_vc ok_X12_begins [2] [(), (), (), (), (), (), (), (), (), (), (), (), (), (), (), (), (), (), (), (), (), (), (), (), (), (), (), (), (), ()] ?_
      simp only [cd_X12_begins, h0, r1, ix_232 t1, n_232, ix_235 t1, n_235, ix_238 t1, n_238, ix_239 t1, n_239, ix_267 t1, n_267, r_rn0, r_rnc, r_vk0, r_vkc, r_vks, r_kci, r_kcv, r_ild, r_ald, r_lld, r_dld, r_Li, r_La, r_Ll, r_Ld, r_Ki, r_Ka, r_Kl, r_Kd, r_Kn, r_ist, r_ast, r_lst, r_dst, r_iinc, r_int, r_lng, r_dbl, r_i2, r_i1, r_l2, r_lsh, r_i2z, r_l2z, r_i2l, r_l2i, r_i2d, r_lcmp, r_ddiv, r_dcmpl, r_dup, r_dup2, r_pop, r_one_int, r_one_ref, r_go, r_if, r_ic, r_tsw, r_lsw, r_sw0, r_swc, r_lk0, r_lkc, r_kp, r_gI, r_gL, r_gR, r_pI, r_pZ, r_pL, r_pR, r_gs, r_ia, r_ca, r_za, r_la, r_da, r_aa, r_ias, r_cas, r_zas, r_las, r_das, r_aas, r_acp, r_new, r_nwa, r_nwq, r_ret, r_irt, r_zrt, r_lrt, r_drt, r_art, r_thr, r_cV0, r_cV1, r_cV2, r_cV3, r_cV4, r_cV5, r_cI0, r_cS0, r_cS1, r_cS2, r_cS3, r_cX0, r_cX1, r_cX2, r_cX3, r_rc, r_oi, r_refx, r_i10, r_i01, r_rfs, r_mem0, r_memc, r_beq, r_kl0, r_klz, r_kl1i, r_kl1r, r_kl1n, r_kl1l, r_kl1d, List.length_cons, List.length_nil, List.getElem?_cons_zero, List.getElem?_cons_succ, List.set_cons_zero, List.set_cons_succ, true_and, and_true, not_true, not_false_eq_true, false_implies, true_implies, or_true, true_or, or_false, false_or, Bool.or_false, Bool.false_or, decide_false, decide_true, Nat.reduceLT, Nat.reduceLeDiff, Nat.reduceAdd, Nat.reduceSub, ↓reduceIte, Nat.reduceEqDiff, Nat.lt_add_one]
      rw [z_1, show 268 - (k + 1) + 1 = 268 - k by omega, z_nat (by omega), Int.toNat_natCast]
      refine ⟨z_no (b := 268) (by omega) (by omega) (by omega), fun _ => ⟨⟨268, t1, z_in (by omega) (by omega) (by decide)⟩, ?_⟩⟩
      refine ih _ (by omega) (fr_u2 f1 (by simp)) (fun j hj => ?_) (fun j hj => ?_)
      · by_cases c : j = 268 - (k + 1)
        · subst c; rw [mz_u_eq]
        · rw [mz_u_nk c]; exact e1 j (by omega)
      · rw [mz_u_nk (by omega)]; exact e9 j hj
  refine mz_ofl mk_X12_begins rfl (Nat.le_of_ble_eq_true rfl) (Nat.le_of_ble_eq_true rfl) [some (.ref (D 0)), some (.int (zI n0)), none] rfl ?_
  refine mz_vc ok_X12_begins [2] [(), (), (), (), (), (), (), (), (), (), (), (), (), (), (), (), (), (), (), (), (), (), (), (), (), (), (), (), (), ()] ?_
  simp only [cd_X12_begins, h0, r1, ix_232 t1, n_232, ix_235 t1, n_235, ix_238 t1, n_238, ix_239 t1, n_239, ix_267 t1, n_267, r_rn0, r_rnc, r_vk0, r_vkc, r_vks, r_kci, r_kcv, r_ild, r_ald, r_lld, r_dld, r_Li, r_La, r_Ll, r_Ld, r_Ki, r_Ka, r_Kl, r_Kd, r_Kn, r_ist, r_ast, r_lst, r_dst, r_iinc, r_int, r_lng, r_dbl, r_i2, r_i1, r_l2, r_lsh, r_i2z, r_l2z, r_i2l, r_l2i, r_i2d, r_lcmp, r_ddiv, r_dcmpl, r_dup, r_dup2, r_pop, r_one_int, r_one_ref, r_go, r_if, r_ic, r_tsw, r_lsw, r_sw0, r_swc, r_lk0, r_lkc, r_kp, r_gI, r_gL, r_gR, r_pI, r_pZ, r_pL, r_pR, r_gs, r_ia, r_ca, r_za, r_la, r_da, r_aa, r_ias, r_cas, r_zas, r_las, r_das, r_aas, r_acp, r_new, r_nwa, r_nwq, r_ret, r_irt, r_zrt, r_lrt, r_drt, r_art, r_thr, r_cV0, r_cV1, r_cV2, r_cV3, r_cV4, r_cV5, r_cI0, r_cS0, r_cS1, r_cS2, r_cS3, r_cX0, r_cX1, r_cX2, r_cX3, r_rc, r_oi, r_refx, r_i10, r_i01, r_rfs, r_mem0, r_memc, r_beq, r_kl0, r_klz, r_kl1i, r_kl1r, r_kl1n, r_kl1l, r_kl1d, List.length_cons, List.length_nil, List.getElem?_cons_zero, List.getElem?_cons_succ, List.set_cons_zero, List.set_cons_succ, true_and, and_true, not_true, not_false_eq_true, false_implies, true_implies, or_true, true_or, or_false, false_or, Bool.or_false, Bool.false_or, decide_false, decide_true, Nat.reduceLT, Nat.reduceLeDiff, Nat.reduceAdd, Nat.reduceSub, ↓reduceIte, Nat.reduceEqDiff, Nat.lt_add_one]
  exact loop 268 I (Nat.le_refl _) fr_refl (fun j hj => absurd hj (by omega)) (fun _ _ => rfl)
theorem c_holdsM {D : Nat → Nat} {many : Nat} (hM : p_Mo T D) (hC : p_Mc I D) (hm : I (D 0) 4 = zI many) (hm6 : many ≤ 6) (hz : d_z (I (D 1))) (hh : I (D 1) 232 = -1 ∨ ∃ kd : Nat, kd < 7 ∧ I (D 1) 232 = zI kd)
    (h : ∀ I', d_Go I I' D (w_mn (o_fits (o_holdm (I (D 1))) (m_holdk (I (D 1)))) many) (o_put (o_holdm (I (D 1))) (m_holdk (I (D 1)))) (w_rr (o_fits (o_holdm (I (D 1))) (m_holdk (I (D 1)))) many (d_rr I D) (o_app (o_holdm (I (D 1))) (m_holdk (I (D 1))))) → K (some (.int (I (D 1) 232))) T I' L) : mz_Ctr G M_X12_holds [.ref (D 0)] T I L K := by
  refine mz_apartC fun hU => ?_
  obtain ⟨h0, ⟨r1, r2, r3, -⟩, ⟨t1, t2, t3, -⟩, -⟩ := id hM
  have n1 : D 1 ≠ D 3 := mz_ne hU t1 t3 (by decide)
  have n3 : D 0 ≠ D 1 := mz_ne hU h0 t1 (by decide)
  have n4 : D 3 ≠ D 1 := Ne.symm n1
  refine mz_ofl mk_X12_holds rfl (Nat.le_of_ble_eq_true rfl) (Nat.le_of_ble_eq_true rfl) [some (.ref (D 0)), none] rfl ?_
  refine mz_vc ok_X12_holds [] [(), (), (), (), (), (), (), (), (), (), (), (), (), (), (), (), (), (), (), (), (), (), (), (), (), (), (), (), (), ()] ?_
  simp only [cd_X12_holds, h0, r1, ix_222 t1, n_222, ix_232 t1, n_232, ix_233 t1, n_233, mz_u_row, m_u_at, r_rn0, r_rnc, r_vk0, r_vkc, r_vks, r_kci, r_kcv, r_ild, r_ald, r_lld, r_dld, r_Li, r_La, r_Ll, r_Ld, r_Ki, r_Ka, r_Kl, r_Kd, r_Kn, r_ist, r_ast, r_lst, r_dst, r_iinc, r_int, r_lng, r_dbl, r_i2, r_i1, r_l2, r_lsh, r_i2z, r_l2z, r_i2l, r_l2i, r_i2d, r_lcmp, r_ddiv, r_dcmpl, r_dup, r_dup2, r_pop, r_one_int, r_one_ref, r_go, r_if, r_ic, r_tsw, r_lsw, r_sw0, r_swc, r_lk0, r_lkc, r_kp, r_gI, r_gL, r_gR, r_pI, r_pZ, r_pL, r_pR, r_gs, r_ia, r_ca, r_za, r_la, r_da, r_aa, r_ias, r_cas, r_zas, r_las, r_das, r_aas, r_acp, r_new, r_nwa, r_nwq, r_ret, r_irt, r_zrt, r_lrt, r_drt, r_art, r_thr, r_cV0, r_cV1, r_cV2, r_cV3, r_cV4, r_cV5, r_cI0, r_cS0, r_cS1, r_cS2, r_cS3, r_cX0, r_cX1, r_cX2, r_cX3, r_rc, r_oi, r_refx, r_i10, r_i01, r_rfs, r_mem0, r_memc, r_beq, r_kl0, r_klz, r_kl1i, r_kl1r, r_kl1n, r_kl1l, r_kl1d, List.length_cons, List.length_nil, List.getElem?_cons_zero, List.getElem?_cons_succ, List.set_cons_zero, List.set_cons_succ, true_and, and_true, not_true, not_false_eq_true, false_implies, true_implies, or_true, true_or, or_false, false_or, Bool.or_false, Bool.false_or, decide_false, decide_true, Nat.reduceLT, Nat.reduceLeDiff, Nat.reduceAdd, Nat.reduceSub, ↓reduceIte, Nat.reduceEqDiff, Nat.lt_add_one]
  have f2 : fr I (mz_u (mz_u I (D 1) 232 (I (D 1) 222)) (D 1) 233 1) [D 1] := fr_u2 (fr_u2 fr_refl (by simp)) (by simp)
  have e2 : (mz_u (mz_u I (D 1) 232 (I (D 1) 222)) (D 1) 233 1) (D 1) = o_hold1 (I (D 1)) := by rw [mz_u_row, mz_u_row]; rfl
  generalize mz_u (mz_u I (D 1) 232 (I (D 1) 222)) (D 1) 233 1 = I2 at f2 e2 ⊢
  have hC2 := Mc_1 hU hM hC f2
  have err : d_rr I2 D = d_rr I D := by unfold d_rr; rw [fr_ne1 f2 n4]
  unfold o_holdm m_holdk at h
  refine ⟨fun q => ?_, fun q => ?_⟩
  · rw [if_neg q, if_neg q] at h
    obtain ⟨kd, hkd, ekd⟩ := hh.resolve_left q
    have ekn : (I (D 1) 232).toNatClampNeg = kd := by rw [ekd, z_nat (by omega)]; rfl
    rw [ekn] at h
    rw [ekd] at h ⊢
    refine c_appearsM hM hC2 (by rw [fr_ne1 f2 n3]; exact hm) hm6 hkd (fun I' hGo => ?_)
    simp only [cd_X12_holds, h0, r1, ix_222 t1, n_222, ix_232 t1, n_232, ix_233 t1, n_233, r_rn0, r_rnc, r_vk0, r_vkc, r_vks, r_kci, r_kcv, r_ild, r_ald, r_lld, r_dld, r_Li, r_La, r_Ll, r_Ld, r_Ki, r_Ka, r_Kl, r_Kd, r_Kn, r_ist, r_ast, r_lst, r_dst, r_iinc, r_int, r_lng, r_dbl, r_i2, r_i1, r_l2, r_lsh, r_i2z, r_l2z, r_i2l, r_l2i, r_i2d, r_lcmp, r_ddiv, r_dcmpl, r_dup, r_dup2, r_pop, r_one_int, r_one_ref, r_go, r_if, r_ic, r_tsw, r_lsw, r_sw0, r_swc, r_lk0, r_lkc, r_kp, r_gI, r_gL, r_gR, r_pI, r_pZ, r_pL, r_pR, r_gs, r_ia, r_ca, r_za, r_la, r_da, r_aa, r_ias, r_cas, r_zas, r_las, r_das, r_aas, r_acp, r_new, r_nwa, r_nwq, r_ret, r_irt, r_zrt, r_lrt, r_drt, r_art, r_thr, r_cV0, r_cV1, r_cV2, r_cV3, r_cV4, r_cV5, r_cI0, r_cS0, r_cS1, r_cS2, r_cS3, r_cX0, r_cX1, r_cX2, r_cX3, r_rc, r_oi, r_refx, r_i10, r_i01, r_rfs, r_mem0, r_memc, r_beq, r_kl0, r_klz, r_kl1i, r_kl1r, r_kl1n, r_kl1l, r_kl1d, List.length_cons, List.length_nil, List.getElem?_cons_zero, List.getElem?_cons_succ, List.set_cons_zero, List.set_cons_succ, true_and, and_true, not_true, not_false_eq_true, false_implies, true_implies, or_true, true_or, or_false, false_or, Bool.or_false, Bool.false_or, decide_false, decide_true, Nat.reduceLT, Nat.reduceLeDiff, Nat.reduceAdd, Nat.reduceSub, ↓reduceIte, Nat.reduceEqDiff, Nat.lt_add_one]
    rw [e2, err] at hGo
    obtain ⟨w1, w2, w3, w4, w5⟩ := hGo
    exact h I' ⟨fr_tr f2 w1 (by simp) (fun _ q => q), fun i hi => by rw [w2 i hi, fr_ne1 f2 n3], w3, w4, w5⟩
  · have q : I (D 1) 232 = -1 := by simpa using q
    rw [if_pos q, if_pos q] at h
    obtain ⟨z1, z2, z3⟩ := hz
    obtain ⟨hz2, hmz⟩ := d_z_of (g := o_hold1 (I (D 1))) (z := m_z (I (D 1))) (by unfold o_hold1; rw [m_u_ne (by decide), m_u_ne (by decide)]; exact z1) (by unfold o_hold1; rw [m_u_ne (by decide), m_u_ne (by decide)]; exact z2) z3
    refine c_drawsM hM (by rw [e2]; exact hz2) (fun I3 f3 e3 => ?_)
    rw [e2] at e3 ⊢
    simp only [cd_X12_holds, h0, r1, ix_222 t1, n_222, ix_232 t1, n_232, ix_233 t1, n_233, r_rn0, r_rnc, r_vk0, r_vkc, r_vks, r_kci, r_kcv, r_ild, r_ald, r_lld, r_dld, r_Li, r_La, r_Ll, r_Ld, r_Ki, r_Ka, r_Kl, r_Kd, r_Kn, r_ist, r_ast, r_lst, r_dst, r_iinc, r_int, r_lng, r_dbl, r_i2, r_i1, r_l2, r_lsh, r_i2z, r_l2z, r_i2l, r_l2i, r_i2d, r_lcmp, r_ddiv, r_dcmpl, r_dup, r_dup2, r_pop, r_one_int, r_one_ref, r_go, r_if, r_ic, r_tsw, r_lsw, r_sw0, r_swc, r_lk0, r_lkc, r_kp, r_gI, r_gL, r_gR, r_pI, r_pZ, r_pL, r_pR, r_gs, r_ia, r_ca, r_za, r_la, r_da, r_aa, r_ias, r_cas, r_zas, r_las, r_das, r_aas, r_acp, r_new, r_nwa, r_nwq, r_ret, r_irt, r_zrt, r_lrt, r_drt, r_art, r_thr, r_cV0, r_cV1, r_cV2, r_cV3, r_cV4, r_cV5, r_cI0, r_cS0, r_cS1, r_cS2, r_cS3, r_cX0, r_cX1, r_cX2, r_cX3, r_rc, r_oi, r_refx, r_i10, r_i01, r_rfs, r_mem0, r_memc, r_beq, r_kl0, r_klz, r_kl1i, r_kl1r, r_kl1n, r_kl1l, r_kl1d, List.length_cons, List.length_nil, List.getElem?_cons_zero, List.getElem?_cons_succ, List.set_cons_zero, List.set_cons_succ, true_and, and_true, not_true, not_false_eq_true, false_implies, true_implies, or_true, true_or, or_false, false_or, Bool.or_false, Bool.false_or, decide_false, decide_true, Nat.reduceLT, Nat.reduceLeDiff, Nat.reduceAdd, Nat.reduceSub, ↓reduceIte, Nat.reduceEqDiff, Nat.lt_add_one]
    have f23 : fr I I3 [D 1] := fr_tr1 f2 f3 (fun _ q => q)
    have err3 : d_rr I3 D = d_rr I D := by unfold d_rr; rw [fr_ne1 f23 n4]
    refine c_appearsM hM (Mc_1 hU hM hC f23) (by rw [fr_ne1 f23 n3]; exact hm) hm6 (q_kd_lt hz2.2.2) (fun I' hGo => ?_)
    simp only [cd_X12_holds, h0, r1, ix_222 t1, n_222, ix_232 t1, n_232, ix_233 t1, n_233, r_rn0, r_rnc, r_vk0, r_vkc, r_vks, r_kci, r_kcv, r_ild, r_ald, r_lld, r_dld, r_Li, r_La, r_Ll, r_Ld, r_Ki, r_Ka, r_Kl, r_Kd, r_Kn, r_ist, r_ast, r_lst, r_dst, r_iinc, r_int, r_lng, r_dbl, r_i2, r_i1, r_l2, r_lsh, r_i2z, r_l2z, r_i2l, r_l2i, r_i2d, r_lcmp, r_ddiv, r_dcmpl, r_dup, r_dup2, r_pop, r_one_int, r_one_ref, r_go, r_if, r_ic, r_tsw, r_lsw, r_sw0, r_swc, r_lk0, r_lkc, r_kp, r_gI, r_gL, r_gR, r_pI, r_pZ, r_pL, r_pR, r_gs, r_ia, r_ca, r_za, r_la, r_da, r_aa, r_ias, r_cas, r_zas, r_las, r_das, r_aas, r_acp, r_new, r_nwa, r_nwq, r_ret, r_irt, r_zrt, r_lrt, r_drt, r_art, r_thr, r_cV0, r_cV1, r_cV2, r_cV3, r_cV4, r_cV5, r_cI0, r_cS0, r_cS1, r_cS2, r_cS3, r_cX0, r_cX1, r_cX2, r_cX3, r_rc, r_oi, r_refx, r_i10, r_i01, r_rfs, r_mem0, r_memc, r_beq, r_kl0, r_klz, r_kl1i, r_kl1r, r_kl1n, r_kl1l, r_kl1d, List.length_cons, List.length_nil, List.getElem?_cons_zero, List.getElem?_cons_succ, List.set_cons_zero, List.set_cons_succ, true_and, and_true, not_true, not_false_eq_true, false_implies, true_implies, or_true, true_or, or_false, false_or, Bool.or_false, Bool.false_or, decide_false, decide_true, Nat.reduceLT, Nat.reduceLeDiff, Nat.reduceAdd, Nat.reduceSub, ↓reduceIte, Nat.reduceEqDiff, Nat.lt_add_one]
    rw [e3, err3] at hGo
    obtain ⟨w1, w2, w3, w4, w5⟩ := hGo
    exact h I' ⟨fr_tr f23 w1 (by simp) (fun _ q => q), fun i hi => by rw [w2 i hi, fr_ne1 f23 n3], w3, w4, w5⟩
end MODQ
