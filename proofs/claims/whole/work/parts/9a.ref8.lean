/-! the reference's face: memory -/
section REF8
variable {G : mz_G} {K : mz_K} {X : mz_X} {T : mz_T} {I : mz_I} {L : mz_L}
variable {D : Nat → Nat} {many n : Nat} {m : Nat → Int32} {rr : Nat → Nat → Int32} {has : Bool} {ms : Nat → Int32} {s0 s1 dly lim : Int32} {cs : Nat → Int32} {fl : Int32}

theorem c_saveP (hM : p_Mo T D) (hC : r_S I D (m, many, rr) has ms s0 s1 dly lim n cs fl) (h : ∀ I', r_S I' D (m, many, rr) true m dly lim dly lim n cs fl → r_N I I' D 0 → K none T I' L) : mz_Ctr G M_X12_save [.ref (D 0)] T I L K := by
  refine mz_apartC fun hU => ?_
  obtain ⟨h0, ⟨r1, r2, r3, r5, r6, r8, r9, r10, r11, r12, r13, r14, r16, r17, r19, r20, r22, r23⟩, ⟨t1, t2, t3, t5, t6, t8, t9, t10, t11, t12, t13, t14, t16, t17, t19, t20, t22, t23⟩, ⟨u1, u2⟩⟩ := id hM
  obtain ⟨⟨hMc, hSp⟩, ⟨e1, e2, e3, e4⟩, e5, ⟨e6, e7⟩, e8⟩ := id hC
  have e1 : I (D 1) = m := e1
  have e2 : I (D 0) 4 = zI many := e2
  have e3 : many ≤ 6 := e3
  have ne : ∀ {a b : Nat} {x y : Nat × Nat}, (a, x) ∈ T.1 → (b, y) ∈ T.1 → x ≠ y → a ≠ b := fun a b c => mz_ne hU a b c
  have n05 := ne h0 t5 (by decide)
  have n06 := ne h0 t6 (by decide)
  have n56 := ne t5 t6 (by decide)
  have fin : ∀ I', fr I I' [D 0, D 5, D 6] → I' (D 0) 0 = 0 → I' (D 0) 7 = 1 → (∀ i, i ≠ 0 → i ≠ 7 → I' (D 0) i = I (D 0) i) → (∀ j, j < 268 → I' (D 5) j = m j) → (∀ j, j < 2 → I' (D 6) j = I (D 2) j) → K none T I' L := by
    intro I' hf z0 z7 zr z5 z6
    have o : ∀ {a : Nat} {x : Nat × Nat}, (a, x) ∈ T.1 → x ≠ (0, 12) → x ≠ (1, 268) → x ≠ (1, 2) → I' a = I a := fun q hx hy hz => hf _ (by simp; exact ⟨ne q h0 hx, ne q t5 hy, ne q t6 hz⟩)
    have o1 : I' (D 1) = I (D 1) := hf _ (by simp; exact ⟨ne t1 h0 (by decide), u1, ne t1 t6 (by decide)⟩)
    have o2 : I' (D 2) = I (D 2) := hf _ (by simp; exact ⟨ne t2 h0 (by decide), ne t2 t5 (by decide), u2⟩)
    refine h I' ⟨⟨p_Mc_fr hMc hf (Mc_ne hU hM (fun a ha => by
      simp only [List.mem_cons, List.not_mem_nil, or_false] at ha
      rcases ha with e | e | e <;> subst e
      · exact ⟨_, h0, by decide, by decide, by decide, by decide, by decide⟩
      · exact ⟨_, t5, by decide, by decide, by decide, by decide, by decide⟩
      · exact ⟨_, t6, by decide, by decide, by decide, by decide, by decide⟩)), d_Sp_fr hSp (zr 15 (by decide) (by decide)) (o t14 (by decide) (by decide) (by decide))⟩, ⟨by rw [o1]; exact e1, by rw [zr 4 (by decide) (by decide)]; exact e2, e3, by rw [o t3 (by decide) (by decide) (by decide)]; exact e4⟩, ⟨z7, z5, (z6 0 (by decide)).trans e6, (z6 1 (by decide)).trans e7⟩, ⟨by rw [o2]; exact e6, by rw [o2]; exact e7⟩, ⟨by rw [zr 24 (by decide) (by decide)]; exact e8.1, e8.2.1, by rw [o t23 (by decide) (by decide) (by decide)]; exact e8.2.2.1, by rw [zr 25 (by decide) (by decide)]; exact e8.2.2.2⟩⟩ ⟨fr_tr hf fr_refl (by unfold w_MA; simp) (fun _ q => q), z0⟩
  refine mz_ofl mk_X12_save rfl (Nat.le_of_ble_eq_true rfl) (Nat.le_of_ble_eq_true rfl) [some (.ref (D 0)), none] rfl ?_
  have l2 : ∀ k i : Nat, i + k = 2 → ∀ I1, fr I I1 [D 0, D 5, D 6] → I1 (D 0) 0 = 0 → I1 (D 0) 7 = 1 → (∀ i, i ≠ 0 → i ≠ 7 → I1 (D 0) i = I (D 0) i) → (∀ j, j < 268 → I1 (D 5) j = m j) → (∀ j, j < i → I1 (D 6) j = I (D 2) j) → mz_W G M_X12_save K mz_nX 39 [some (.ref (D 0)), some (.int (zI i))] [] T I1 L (0, 0) := by
    intro k
    induction k with
    | zero =>
      intro i hi I1 f z0 z7 zr z5 z6
      have hi : i = 2 := by omega
      subst hi
      refine mz_vc ok_X12_save [12, 39] [(), (), (), (), (), (), (), (), (), (), (), (), (), (), (), (), (), (), (), (), (), (), (), (), (), (), (), (), (), ()] ?_
      simp only [cd_X12_save, h0, r1, r2, r5, r6, r_rn0, r_rnc, r_vk0, r_vkc, r_vks, r_kci, r_kcv, r_ild, r_ald, r_lld, r_dld, r_Li, r_La, r_Ll, r_Ld, r_Ki, r_Ka, r_Kl, r_Kd, r_Kn, r_ist, r_ast, r_lst, r_dst, r_iinc, r_int, r_lng, r_dbl, r_i2, r_i1, r_l2, r_lsh, r_i2z, r_l2z, r_i2l, r_l2i, r_i2d, r_lcmp, r_ddiv, r_dcmpl, r_dup, r_dup2, r_pop, r_one_int, r_one_ref, r_go, r_if, r_ic, r_tsw, r_lsw, r_sw0, r_swc, r_lk0, r_lkc, r_kp, r_gI, r_gL, r_gR, r_pI, r_pZ, r_pL, r_pR, r_gs, r_ia, r_ca, r_za, r_la, r_da, r_aa, r_ias, r_cas, r_zas, r_las, r_das, r_aas, r_acp, r_new, r_nwa, r_nwq, r_ret, r_irt, r_zrt, r_lrt, r_drt, r_art, r_thr, r_cV0, r_cV1, r_cV2, r_cV3, r_cV4, r_cV5, r_cI0, r_cS0, r_cS1, r_cS2, r_cS3, r_cX0, r_cX1, r_cX2, r_cX3, r_rc, r_oi, r_refx, r_i10, r_i01, r_rfs, r_mem0, r_memc, r_beq, r_kl0, r_klz, r_kl1i, r_kl1r, r_kl1n, r_kl1l, r_kl1d, List.length_cons, List.length_nil, List.getElem?_cons_zero, List.getElem?_cons_succ, List.set_cons_zero, List.set_cons_succ, true_and, and_true, not_true, not_false_eq_true, false_implies, true_implies, or_true, true_or, or_false, false_or, Bool.or_false, Bool.false_or, decide_false, decide_true, Nat.reduceLT, Nat.reduceLeDiff, Nat.reduceAdd, Nat.reduceSub, ↓reduceIte, Nat.reduceEqDiff, Nat.lt_add_one]
      exact ⟨fun _ => fin I1 f z0 z7 zr z5 z6, fun v => absurd (by decide) v⟩
    | succ k ih =>
      intro i hi I1 f z0 z7 zr z5 z6
      refine mz_vc ok_X12_save [12, 39] [(), (), (), (), (), (), (), (), (), (), (), (), (), (), (), (), (), (), (), (), (), (), (), (), (), (), (), (), (), ()] ?_
      simp only [cd_X12_save, h0, r1, r2, r5, r6, r_rn0, r_rnc, r_vk0, r_vkc, r_vks, r_kci, r_kcv, r_ild, r_ald, r_lld, r_dld, r_Li, r_La, r_Ll, r_Ld, r_Ki, r_Ka, r_Kl, r_Kd, r_Kn, r_ist, r_ast, r_lst, r_dst, r_iinc, r_int, r_lng, r_dbl, r_i2, r_i1, r_l2, r_lsh, r_i2z, r_l2z, r_i2l, r_l2i, r_i2d, r_lcmp, r_ddiv, r_dcmpl, r_dup, r_dup2, r_pop, r_one_int, r_one_ref, r_go, r_if, r_ic, r_tsw, r_lsw, r_sw0, r_swc, r_lk0, r_lkc, r_kp, r_gI, r_gL, r_gR, r_pI, r_pZ, r_pL, r_pR, r_gs, r_ia, r_ca, r_za, r_la, r_da, r_aa, r_ias, r_cas, r_zas, r_las, r_das, r_aas, r_acp, r_new, r_nwa, r_nwq, r_ret, r_irt, r_zrt, r_lrt, r_drt, r_art, r_thr, r_cV0, r_cV1, r_cV2, r_cV3, r_cV4, r_cV5, r_cI0, r_cS0, r_cS1, r_cS2, r_cS3, r_cX0, r_cX1, r_cX2, r_cX3, r_rc, r_oi, r_refx, r_i10, r_i01, r_rfs, r_mem0, r_memc, r_beq, r_kl0, r_klz, r_kl1i, r_kl1r, r_kl1n, r_kl1l, r_kl1d, List.length_cons, List.length_nil, List.getElem?_cons_zero, List.getElem?_cons_succ, List.set_cons_zero, List.set_cons_succ, true_and, and_true, not_true, not_false_eq_true, false_implies, true_implies, or_true, true_or, or_false, false_or, Bool.or_false, Bool.false_or, decide_false, decide_true, Nat.reduceLT, Nat.reduceLeDiff, Nat.reduceAdd, Nat.reduceSub, ↓reduceIte, Nat.reduceEqDiff, Nat.lt_add_one]
      refine ⟨z_no (b := 2) (by omega) (by omega) (by omega), fun _ => ?_⟩
      rw [z_nat (by omega), Int.toNat_natCast, z_1]
      refine ⟨⟨2, t2, z_in (by omega) (by omega) (by decide)⟩, ⟨2, t6, z_in (by omega) (by omega) (by decide)⟩, ?_⟩
      refine ih (i + 1) (by omega) _ (fr_u2 f (by simp)) (by rw [mz_u_ne n06]; exact z0) (by rw [mz_u_ne n06]; exact z7) (by rw [mz_u_ne n06]; exact zr) (by rw [mz_u_ne n56]; exact z5) (fun j hj => ?_)
      rw [mz_u_at]
      by_cases z : j = i
      · subst z; simp; rw [f _ (by simp; exact ⟨ne t2 h0 (by decide), ne t2 t5 (by decide), u2⟩)]
      · simp [z]; exact z6 j (by omega)
  have l1 : ∀ k i : Nat, i + k = 268 → ∀ I1, fr I I1 [D 0, D 5, D 6] → I1 (D 0) 0 = 0 → I1 (D 0) 7 = 1 → (∀ i, i ≠ 0 → i ≠ 7 → I1 (D 0) i = I (D 0) i) → (∀ j, j < i → I1 (D 5) j = m j) → mz_W G M_X12_save K mz_nX 12 [some (.ref (D 0)), some (.int (zI i))] [] T I1 L (0, 0) := by
    intro k
    induction k with
    | zero =>
      intro i hi I1 f z0 z7 zr z5
      have hi : i = 268 := by omega
      subst hi
      refine mz_vc ok_X12_save [12, 39] [(), (), (), (), (), (), (), (), (), (), (), (), (), (), (), (), (), (), (), (), (), (), (), (), (), (), (), (), (), ()] ?_
      simp only [cd_X12_save, h0, r1, r2, r5, r6, r_rn0, r_rnc, r_vk0, r_vkc, r_vks, r_kci, r_kcv, r_ild, r_ald, r_lld, r_dld, r_Li, r_La, r_Ll, r_Ld, r_Ki, r_Ka, r_Kl, r_Kd, r_Kn, r_ist, r_ast, r_lst, r_dst, r_iinc, r_int, r_lng, r_dbl, r_i2, r_i1, r_l2, r_lsh, r_i2z, r_l2z, r_i2l, r_l2i, r_i2d, r_lcmp, r_ddiv, r_dcmpl, r_dup, r_dup2, r_pop, r_one_int, r_one_ref, r_go, r_if, r_ic, r_tsw, r_lsw, r_sw0, r_swc, r_lk0, r_lkc, r_kp, r_gI, r_gL, r_gR, r_pI, r_pZ, r_pL, r_pR, r_gs, r_ia, r_ca, r_za, r_la, r_da, r_aa, r_ias, r_cas, r_zas, r_las, r_das, r_aas, r_acp, r_new, r_nwa, r_nwq, r_ret, r_irt, r_zrt, r_lrt, r_drt, r_art, r_thr, r_cV0, r_cV1, r_cV2, r_cV3, r_cV4, r_cV5, r_cI0, r_cS0, r_cS1, r_cS2, r_cS3, r_cX0, r_cX1, r_cX2, r_cX3, r_rc, r_oi, r_refx, r_i10, r_i01, r_rfs, r_mem0, r_memc, r_beq, r_kl0, r_klz, r_kl1i, r_kl1r, r_kl1n, r_kl1l, r_kl1d, List.length_cons, List.length_nil, List.getElem?_cons_zero, List.getElem?_cons_succ, List.set_cons_zero, List.set_cons_succ, true_and, and_true, not_true, not_false_eq_true, false_implies, true_implies, or_true, true_or, or_false, false_or, Bool.or_false, Bool.false_or, decide_false, decide_true, Nat.reduceLT, Nat.reduceLeDiff, Nat.reduceAdd, Nat.reduceSub, ↓reduceIte, Nat.reduceEqDiff, Nat.lt_add_one]
      exact ⟨fun _ => l2 2 0 rfl I1 f z0 z7 zr z5 (fun j hj => absurd hj (Nat.not_lt_zero _)), fun v => absurd (by decide) v⟩
    | succ k ih =>
      intro i hi I1 f z0 z7 zr z5
      refine mz_vc ok_X12_save [12, 39] [(), (), (), (), (), (), (), (), (), (), (), (), (), (), (), (), (), (), (), (), (), (), (), (), (), (), (), (), (), ()] ?_
      simp only [cd_X12_save, h0, r1, r2, r5, r6, r_rn0, r_rnc, r_vk0, r_vkc, r_vks, r_kci, r_kcv, r_ild, r_ald, r_lld, r_dld, r_Li, r_La, r_Ll, r_Ld, r_Ki, r_Ka, r_Kl, r_Kd, r_Kn, r_ist, r_ast, r_lst, r_dst, r_iinc, r_int, r_lng, r_dbl, r_i2, r_i1, r_l2, r_lsh, r_i2z, r_l2z, r_i2l, r_l2i, r_i2d, r_lcmp, r_ddiv, r_dcmpl, r_dup, r_dup2, r_pop, r_one_int, r_one_ref, r_go, r_if, r_ic, r_tsw, r_lsw, r_sw0, r_swc, r_lk0, r_lkc, r_kp, r_gI, r_gL, r_gR, r_pI, r_pZ, r_pL, r_pR, r_gs, r_ia, r_ca, r_za, r_la, r_da, r_aa, r_ias, r_cas, r_zas, r_las, r_das, r_aas, r_acp, r_new, r_nwa, r_nwq, r_ret, r_irt, r_zrt, r_lrt, r_drt, r_art, r_thr, r_cV0, r_cV1, r_cV2, r_cV3, r_cV4, r_cV5, r_cI0, r_cS0, r_cS1, r_cS2, r_cS3, r_cX0, r_cX1, r_cX2, r_cX3, r_rc, r_oi, r_refx, r_i10, r_i01, r_rfs, r_mem0, r_memc, r_beq, r_kl0, r_klz, r_kl1i, r_kl1r, r_kl1n, r_kl1l, r_kl1d, List.length_cons, List.length_nil, List.getElem?_cons_zero, List.getElem?_cons_succ, List.set_cons_zero, List.set_cons_succ, true_and, and_true, not_true, not_false_eq_true, false_implies, true_implies, or_true, true_or, or_false, false_or, Bool.or_false, Bool.false_or, decide_false, decide_true, Nat.reduceLT, Nat.reduceLeDiff, Nat.reduceAdd, Nat.reduceSub, ↓reduceIte, Nat.reduceEqDiff, Nat.lt_add_one]
      refine ⟨z_no (b := 268) (by omega) (by omega) (by omega), fun _ => ?_⟩
      rw [z_nat (by omega), Int.toNat_natCast, z_1]
      refine ⟨⟨268, t1, z_in (by omega) (by omega) (by decide)⟩, ⟨268, t5, z_in (by omega) (by omega) (by decide)⟩, ?_⟩
      refine ih (i + 1) (by omega) _ (fr_u2 f (by simp)) (by rw [mz_u_ne n05]; exact z0) (by rw [mz_u_ne n05]; exact z7) (by rw [mz_u_ne n05]; exact zr) (fun j hj => ?_)
      rw [mz_u_at]
      by_cases z : j = i
      · subst z; simp; rw [f _ (by simp; exact ⟨ne t1 h0 (by decide), u1, ne t1 t6 (by decide)⟩), e1]
      · simp [z]; exact z5 j (by omega)
  refine mz_vc ok_X12_save [12, 39] [(), (), (), (), (), (), (), (), (), (), (), (), (), (), (), (), (), (), (), (), (), (), (), (), (), (), (), (), (), ()] ?_
  simp only [cd_X12_save, h0, r1, r2, r5, r6, r_rn0, r_rnc, r_vk0, r_vkc, r_vks, r_kci, r_kcv, r_ild, r_ald, r_lld, r_dld, r_Li, r_La, r_Ll, r_Ld, r_Ki, r_Ka, r_Kl, r_Kd, r_Kn, r_ist, r_ast, r_lst, r_dst, r_iinc, r_int, r_lng, r_dbl, r_i2, r_i1, r_l2, r_lsh, r_i2z, r_l2z, r_i2l, r_l2i, r_i2d, r_lcmp, r_ddiv, r_dcmpl, r_dup, r_dup2, r_pop, r_one_int, r_one_ref, r_go, r_if, r_ic, r_tsw, r_lsw, r_sw0, r_swc, r_lk0, r_lkc, r_kp, r_gI, r_gL, r_gR, r_pI, r_pZ, r_pL, r_pR, r_gs, r_ia, r_ca, r_za, r_la, r_da, r_aa, r_ias, r_cas, r_zas, r_las, r_das, r_aas, r_acp, r_new, r_nwa, r_nwq, r_ret, r_irt, r_zrt, r_lrt, r_drt, r_art, r_thr, r_cV0, r_cV1, r_cV2, r_cV3, r_cV4, r_cV5, r_cI0, r_cS0, r_cS1, r_cS2, r_cS3, r_cX0, r_cX1, r_cX2, r_cX3, r_rc, r_oi, r_refx, r_i10, r_i01, r_rfs, r_mem0, r_memc, r_beq, r_kl0, r_klz, r_kl1i, r_kl1r, r_kl1n, r_kl1l, r_kl1d, List.length_cons, List.length_nil, List.getElem?_cons_zero, List.getElem?_cons_succ, List.set_cons_zero, List.set_cons_succ, true_and, and_true, not_true, not_false_eq_true, false_implies, true_implies, or_true, true_or, or_false, false_or, Bool.or_false, Bool.false_or, decide_false, decide_true, Nat.reduceLT, Nat.reduceLeDiff, Nat.reduceAdd, Nat.reduceSub, ↓reduceIte, Nat.reduceEqDiff, Nat.lt_add_one]
  exact l1 268 0 rfl _ (fr_u2 (fr_u2 fr_refl (by simp)) (by simp)) (by rw [mz_u_nk (by decide), mz_u_eq]) mz_u_eq (fun i a b => by rw [mz_u_nk b, mz_u_nk a]) (fun j hj => absurd hj (Nat.not_lt_zero _))
end REF8
