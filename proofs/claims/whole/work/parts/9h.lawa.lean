/-! the law: class and reference side by side -/
section REFH
variable {G : mz_G} {K : mz_K} {X : mz_X} {T : mz_T} {I : mz_I} {L : mz_L}
variable {D : Nat → Nat} {many n : Nat} {m : Nat → Int32} {rr : Nat → Nat → Int32} {has : Bool} {ms : Nat → Int32} {s0 s1 dly lim : Int32} {cs : Nat → Int32} {fl : Int32}

def r_rest (m ms : Nat → Int32) (rr : Nat → Nat → Int32) : g_S := (fun j => if j < 268 then ms j else m j, 0, rr)
theorem re_rest : re_s (ms, 0, rr) (r_rest m ms rr) := ⟨re_x_a (fun j hj => if_pos hj), rfl, fun _ _ _ _ => rfl⟩
theorem c_restoreP (hM : p_Mo T D) (hC : r_S I D (m, many, rr) has ms s0 s1 dly lim n cs fl) (h : ∀ I', r_S I' D (s_if (if has = true then 0 else 1 : Int32) (r_rest m ms rr) (m, many, rr)) has ms s0 s1 (if has = true then s0 else dly) (if has = true then s1 else lim) n cs fl → r_N I I' D (if has = true then 0 else 1 : Int32) → K none T I' L) : mz_Ctr G M_X12_restore [.ref (D 0)] T I L K := by
  refine mz_apartC fun hU => ?_
  obtain ⟨h0, ⟨r1, r2, r3, r5, r6, r8, r9, r10, r11, r12, r13, r14, r16, r17, r19, r20, r22, r23⟩, ⟨t1, t2, t3, t5, t6, t8, t9, t10, t11, t12, t13, t14, t16, t17, t19, t20, t22, t23⟩, ⟨u1, u2⟩⟩ := id hM
  obtain ⟨⟨hMc, hSp⟩, ⟨e1, e2, e3, e4⟩, e5, ⟨e6, e7⟩, e8⟩ := id hC
  have e1 : I (D 1) = m := e1
  have e2 : I (D 0) 4 = zI many := e2
  have e3 : many ≤ 6 := e3
  have ne : ∀ {a b : Nat} {x y : Nat × Nat}, (a, x) ∈ T.1 → (b, y) ∈ T.1 → x ≠ y → a ≠ b := fun a b c => mz_ne hU a b c
  have n01 := ne h0 t1 (by decide)
  have n02 := ne h0 t2 (by decide)
  have n12 := ne t1 t2 (by decide)
  obtain ⟨e51, e52, e53, e54⟩ := e5
  cases has with
  | false =>
    rw [if_neg (by decide), if_neg (by decide), if_neg (by decide), s_if_n (by decide)] at h
    refine mz_ofl mk_X12_restore rfl (Nat.le_of_ble_eq_true rfl) (Nat.le_of_ble_eq_true rfl) [some (.ref (D 0)), none] rfl ?_
    refine mz_vc ok_X12_restore [25, 52] [(), (), (), (), (), (), (), (), (), (), (), (), (), (), (), (), (), (), (), (), (), (), (), (), (), (), (), (), (), ()] ?_
    simp only [cd_X12_restore, h0, r1, r2, r5, r6, e51, r_rn0, r_rnc, r_vk0, r_vkc, r_vks, r_kci, r_kcv, r_ild, r_ald, r_lld, r_dld, r_Li, r_La, r_Ll, r_Ld, r_Ki, r_Ka, r_Kl, r_Kd, r_Kn, r_ist, r_ast, r_lst, r_dst, r_iinc, r_int, r_lng, r_dbl, r_i2, r_i1, r_l2, r_lsh, r_i2z, r_l2z, r_i2l, r_l2i, r_i2d, r_lcmp, r_ddiv, r_dcmpl, r_dup, r_dup2, r_pop, r_one_int, r_one_ref, r_go, r_if, r_ic, r_tsw, r_lsw, r_sw0, r_swc, r_lk0, r_lkc, r_kp, r_gI, r_gL, r_gR, r_pI, r_pZ, r_pL, r_pR, r_gs, r_ia, r_ca, r_za, r_la, r_da, r_aa, r_ias, r_cas, r_zas, r_las, r_das, r_aas, r_acp, r_new, r_nwa, r_nwq, r_ret, r_irt, r_zrt, r_lrt, r_drt, r_art, r_thr, r_cV0, r_cV1, r_cV2, r_cV3, r_cV4, r_cV5, r_cI0, r_cS0, r_cS1, r_cS2, r_cS3, r_cX0, r_cX1, r_cX2, r_cX3, r_rc, r_oi, r_refx, r_i10, r_i01, r_rfs, r_mem0, r_memc, r_beq, r_kl0, r_klz, r_kl1i, r_kl1r, r_kl1n, r_kl1l, r_kl1d, List.length_cons, List.length_nil, List.getElem?_cons_zero, List.getElem?_cons_succ, List.set_cons_zero, List.set_cons_succ, true_and, and_true, not_true, not_false_eq_true, false_implies, true_implies, or_true, true_or, or_false, false_or, Bool.or_false, Bool.false_or, decide_false, decide_true, Nat.reduceLT, Nat.reduceLeDiff, Nat.reduceAdd, Nat.reduceSub, ↓reduceIte, Nat.reduceEqDiff, Nat.lt_add_one]
    refine ⟨fun _ => ?_, fun v => absurd rfl v⟩
    rw [mz_u_nk (by decide), e51]
    refine ⟨fun _ => ?_, fun v => absurd rfl v⟩
    obtain ⟨w1, w2⟩ := r_S_0 (x := 1) hU hM hC fr_refl
    exact h _ w1 w2
  | true =>
    rw [if_pos rfl, if_pos rfl, if_pos rfl, s_if_0 rfl] at h
    have fin : ∀ I', fr I I' [D 0, D 1, D 2] → I' (D 0) 0 = 0 → I' (D 0) 4 = 0 → (∀ i, i ≠ 0 → i ≠ 4 → I' (D 0) i = I (D 0) i) → (∀ j, j < 268 → I' (D 1) j = ms j) → (∀ j, 268 ≤ j → I' (D 1) j = m j) → (∀ j, j < 2 → I' (D 2) j = I (D 6) j) → K none T I' L := by
      intro I' hf z0 z4 zr z1 z1' z2
      have o : ∀ {a : Nat} {x : Nat × Nat}, (a, x) ∈ T.1 → x ≠ (0, 12) → x ≠ (1, 268) → x ≠ (1, 2) → I' a = I a := fun q hx hy hz => hf _ (by simp; exact ⟨ne q h0 hx, ne q t1 hy, ne q t2 hz⟩)
      have o5 : I' (D 5) = I (D 5) := hf _ (by simp; exact ⟨ne t5 h0 (by decide), Ne.symm u1, ne t5 t2 (by decide)⟩)
      have o6 : I' (D 6) = I (D 6) := hf _ (by simp; exact ⟨ne t6 h0 (by decide), ne t6 t1 (by decide), Ne.symm u2⟩)
      refine h I' ⟨⟨p_Mc_fr hMc hf (Mc_ne hU hM (fun a ha => by
        simp only [List.mem_cons, List.not_mem_nil, or_false] at ha
        rcases ha with e | e | e <;> subst e
        · exact ⟨_, h0, by decide, by decide, by decide, by decide, by decide⟩
        · exact ⟨_, t1, by decide, by decide, by decide, by decide, by decide⟩
        · exact ⟨_, t2, by decide, by decide, by decide, by decide, by decide⟩)), d_Sp_fr hSp (zr 15 (by decide) (by decide)) (o t14 (by decide) (by decide) (by decide))⟩, ⟨?_, z4, Nat.zero_le _, fun i j hi => absurd hi (Nat.not_lt_zero _)⟩, ⟨by rw [zr 7 (by decide) (by decide)]; exact e51, by rw [o5]; exact e52, by rw [o6]; exact e53, by rw [o6]; exact e54⟩, ⟨(z2 0 (by decide)).trans e53, (z2 1 (by decide)).trans e54⟩, ⟨by rw [zr 24 (by decide) (by decide)]; exact e8.1, e8.2.1, by rw [o t23 (by decide) (by decide) (by decide)]; exact e8.2.2.1, by rw [zr 25 (by decide) (by decide)]; exact e8.2.2.2⟩⟩ ⟨fr_tr hf fr_refl (by unfold w_MA; simp) (fun _ q => q), z0⟩
      funext j
      show I' (D 1) j = if j < 268 then ms j else m j
      by_cases z : j < 268
      · rw [if_pos z]; exact z1 j z
      · rw [if_neg z]; exact z1' j (by omega)
    refine mz_ofl mk_X12_restore rfl (Nat.le_of_ble_eq_true rfl) (Nat.le_of_ble_eq_true rfl) [some (.ref (D 0)), none] rfl ?_
    have l2 : ∀ k i : Nat, i + k = 2 → ∀ I1, fr I I1 [D 0, D 1, D 2] → I1 (D 0) 0 = 0 → (∀ i, i ≠ 0 → I1 (D 0) i = I (D 0) i) → (∀ j, j < 268 → I1 (D 1) j = ms j) → (∀ j, 268 ≤ j → I1 (D 1) j = m j) → (∀ j, j < i → I1 (D 2) j = I (D 6) j) → mz_W G M_X12_restore K mz_nX 52 [some (.ref (D 0)), some (.int (zI i))] [] T I1 L (0, 0) := by
      intro k
      induction k with
      | zero =>
        intro i hi I1 f z0 zr z1 z1' z2
        have hi : i = 2 := by omega
        subst hi
        refine mz_vc ok_X12_restore [25, 52] [(), (), (), (), (), (), (), (), (), (), (), (), (), (), (), (), (), (), (), (), (), (), (), (), (), (), (), (), (), ()] ?_
        simp only [cd_X12_restore, h0, r1, r2, r5, r6, e51, r_rn0, r_rnc, r_vk0, r_vkc, r_vks, r_kci, r_kcv, r_ild, r_ald, r_lld, r_dld, r_Li, r_La, r_Ll, r_Ld, r_Ki, r_Ka, r_Kl, r_Kd, r_Kn, r_ist, r_ast, r_lst, r_dst, r_iinc, r_int, r_lng, r_dbl, r_i2, r_i1, r_l2, r_lsh, r_i2z, r_l2z, r_i2l, r_l2i, r_i2d, r_lcmp, r_ddiv, r_dcmpl, r_dup, r_dup2, r_pop, r_one_int, r_one_ref, r_go, r_if, r_ic, r_tsw, r_lsw, r_sw0, r_swc, r_lk0, r_lkc, r_kp, r_gI, r_gL, r_gR, r_pI, r_pZ, r_pL, r_pR, r_gs, r_ia, r_ca, r_za, r_la, r_da, r_aa, r_ias, r_cas, r_zas, r_las, r_das, r_aas, r_acp, r_new, r_nwa, r_nwq, r_ret, r_irt, r_zrt, r_lrt, r_drt, r_art, r_thr, r_cV0, r_cV1, r_cV2, r_cV3, r_cV4, r_cV5, r_cI0, r_cS0, r_cS1, r_cS2, r_cS3, r_cX0, r_cX1, r_cX2, r_cX3, r_rc, r_oi, r_refx, r_i10, r_i01, r_rfs, r_mem0, r_memc, r_beq, r_kl0, r_klz, r_kl1i, r_kl1r, r_kl1n, r_kl1l, r_kl1d, List.length_cons, List.length_nil, List.getElem?_cons_zero, List.getElem?_cons_succ, List.set_cons_zero, List.set_cons_succ, true_and, and_true, not_true, not_false_eq_true, false_implies, true_implies, or_true, true_or, or_false, false_or, Bool.or_false, Bool.false_or, decide_false, decide_true, Nat.reduceLT, Nat.reduceLeDiff, Nat.reduceAdd, Nat.reduceSub, ↓reduceIte, Nat.reduceEqDiff, Nat.lt_add_one]
        refine ⟨fun _ => ?_, fun v => absurd (by decide) v⟩
        exact fin _ (fr_u2 f (by simp)) (by rw [mz_u_nk (by decide)]; exact z0) mz_u_eq (fun i a b => by rw [mz_u_nk b]; exact zr i a) (fun j hj => by rw [mz_u_ne (Ne.symm n01)]; exact z1 j hj) (fun j hj => by rw [mz_u_ne (Ne.symm n01)]; exact z1' j hj) (fun j hj => by rw [mz_u_ne (Ne.symm n02)]; exact z2 j hj)
      | succ k ih =>
        intro i hi I1 f z0 zr z1 z1' z2
        refine mz_vc ok_X12_restore [25, 52] [(), (), (), (), (), (), (), (), (), (), (), (), (), (), (), (), (), (), (), (), (), (), (), (), (), (), (), (), (), ()] ?_
        simp only [cd_X12_restore, h0, r1, r2, r5, r6, e51, r_rn0, r_rnc, r_vk0, r_vkc, r_vks, r_kci, r_kcv, r_ild, r_ald, r_lld, r_dld, r_Li, r_La, r_Ll, r_Ld, r_Ki, r_Ka, r_Kl, r_Kd, r_Kn, r_ist, r_ast, r_lst, r_dst, r_iinc, r_int, r_lng, r_dbl, r_i2, r_i1, r_l2, r_lsh, r_i2z, r_l2z, r_i2l, r_l2i, r_i2d, r_lcmp, r_ddiv, r_dcmpl, r_dup, r_dup2, r_pop, r_one_int, r_one_ref, r_go, r_if, r_ic, r_tsw, r_lsw, r_sw0, r_swc, r_lk0, r_lkc, r_kp, r_gI, r_gL, r_gR, r_pI, r_pZ, r_pL, r_pR, r_gs, r_ia, r_ca, r_za, r_la, r_da, r_aa, r_ias, r_cas, r_zas, r_las, r_das, r_aas, r_acp, r_new, r_nwa, r_nwq, r_ret, r_irt, r_zrt, r_lrt, r_drt, r_art, r_thr, r_cV0, r_cV1, r_cV2, r_cV3, r_cV4, r_cV5, r_cI0, r_cS0, r_cS1, r_cS2, r_cS3, r_cX0, r_cX1, r_cX2, r_cX3, r_rc, r_oi, r_refx, r_i10, r_i01, r_rfs, r_mem0, r_memc, r_beq, r_kl0, r_klz, r_kl1i, r_kl1r, r_kl1n, r_kl1l, r_kl1d, List.length_cons, List.length_nil, List.getElem?_cons_zero, List.getElem?_cons_succ, List.set_cons_zero, List.set_cons_succ, true_and, and_true, not_true, not_false_eq_true, false_implies, true_implies, or_true, true_or, or_false, false_or, Bool.or_false, Bool.false_or, decide_false, decide_true, Nat.reduceLT, Nat.reduceLeDiff, Nat.reduceAdd, Nat.reduceSub, ↓reduceIte, Nat.reduceEqDiff, Nat.lt_add_one]
        refine ⟨z_no (b := 2) (by omega) (by omega) (by omega), fun _ => ?_⟩
        rw [z_nat (by omega), Int.toNat_natCast, z_1]
        refine ⟨⟨2, t6, z_in (by omega) (by omega) (by decide)⟩, ⟨2, t2, z_in (by omega) (by omega) (by decide)⟩, ?_⟩
        refine ih (i + 1) (by omega) _ (fr_u2 f (by simp)) (by rw [mz_u_ne n02]; exact z0) (by rw [mz_u_ne n02]; exact zr) (by rw [mz_u_ne n12]; exact z1) (by rw [mz_u_ne n12]; exact z1') (fun j hj => ?_)
        rw [mz_u_at]
        by_cases z : j = i
        · subst z; simp; rw [f _ (by simp; exact ⟨ne t6 h0 (by decide), ne t6 t1 (by decide), Ne.symm u2⟩)]
        · simp [z]; exact z2 j (by omega)
    have l1 : ∀ k i : Nat, i + k = 268 → ∀ I1, fr I I1 [D 0, D 1, D 2] → I1 (D 0) 0 = 0 → (∀ i, i ≠ 0 → I1 (D 0) i = I (D 0) i) → (∀ j, j < i → I1 (D 1) j = ms j) → (∀ j, i ≤ j → I1 (D 1) j = m j) → mz_W G M_X12_restore K mz_nX 25 [some (.ref (D 0)), some (.int (zI i))] [] T I1 L (0, 0) := by
      intro k
      induction k with
      | zero =>
        intro i hi I1 f z0 zr z1 z1'
        have hi : i = 268 := by omega
        subst hi
        refine mz_vc ok_X12_restore [25, 52] [(), (), (), (), (), (), (), (), (), (), (), (), (), (), (), (), (), (), (), (), (), (), (), (), (), (), (), (), (), ()] ?_
        simp only [cd_X12_restore, h0, r1, r2, r5, r6, e51, r_rn0, r_rnc, r_vk0, r_vkc, r_vks, r_kci, r_kcv, r_ild, r_ald, r_lld, r_dld, r_Li, r_La, r_Ll, r_Ld, r_Ki, r_Ka, r_Kl, r_Kd, r_Kn, r_ist, r_ast, r_lst, r_dst, r_iinc, r_int, r_lng, r_dbl, r_i2, r_i1, r_l2, r_lsh, r_i2z, r_l2z, r_i2l, r_l2i, r_i2d, r_lcmp, r_ddiv, r_dcmpl, r_dup, r_dup2, r_pop, r_one_int, r_one_ref, r_go, r_if, r_ic, r_tsw, r_lsw, r_sw0, r_swc, r_lk0, r_lkc, r_kp, r_gI, r_gL, r_gR, r_pI, r_pZ, r_pL, r_pR, r_gs, r_ia, r_ca, r_za, r_la, r_da, r_aa, r_ias, r_cas, r_zas, r_las, r_das, r_aas, r_acp, r_new, r_nwa, r_nwq, r_ret, r_irt, r_zrt, r_lrt, r_drt, r_art, r_thr, r_cV0, r_cV1, r_cV2, r_cV3, r_cV4, r_cV5, r_cI0, r_cS0, r_cS1, r_cS2, r_cS3, r_cX0, r_cX1, r_cX2, r_cX3, r_rc, r_oi, r_refx, r_i10, r_i01, r_rfs, r_mem0, r_memc, r_beq, r_kl0, r_klz, r_kl1i, r_kl1r, r_kl1n, r_kl1l, r_kl1d, List.length_cons, List.length_nil, List.getElem?_cons_zero, List.getElem?_cons_succ, List.set_cons_zero, List.set_cons_succ, true_and, and_true, not_true, not_false_eq_true, false_implies, true_implies, or_true, true_or, or_false, false_or, Bool.or_false, Bool.false_or, decide_false, decide_true, Nat.reduceLT, Nat.reduceLeDiff, Nat.reduceAdd, Nat.reduceSub, ↓reduceIte, Nat.reduceEqDiff, Nat.lt_add_one]
        exact ⟨fun _ => l2 2 0 rfl I1 f z0 zr z1 z1' (fun j hj => absurd hj (Nat.not_lt_zero _)), fun v => absurd (by decide) v⟩
      | succ k ih =>
        intro i hi I1 f z0 zr z1 z1'
        refine mz_vc ok_X12_restore [25, 52] [(), (), (), (), (), (), (), (), (), (), (), (), (), (), (), (), (), (), (), (), (), (), (), (), (), (), (), (), (), ()] ?_
        simp only [cd_X12_restore, h0, r1, r2, r5, r6, e51, r_rn0, r_rnc, r_vk0, r_vkc, r_vks, r_kci, r_kcv, r_ild, r_ald, r_lld, r_dld, r_Li, r_La, r_Ll, r_Ld, r_Ki, r_Ka, r_Kl, r_Kd, r_Kn, r_ist, r_ast, r_lst, r_dst, r_iinc, r_int, r_lng, r_dbl, r_i2, r_i1, r_l2, r_lsh, r_i2z, r_l2z, r_i2l, r_l2i, r_i2d, r_lcmp, r_ddiv, r_dcmpl, r_dup, r_dup2, r_pop, r_one_int, r_one_ref, r_go, r_if, r_ic, r_tsw, r_lsw, r_sw0, r_swc, r_lk0, r_lkc, r_kp, r_gI, r_gL, r_gR, r_pI, r_pZ, r_pL, r_pR, r_gs, r_ia, r_ca, r_za, r_la, r_da, r_aa, r_ias, r_cas, r_zas, r_las, r_das, r_aas, r_acp, r_new, r_nwa, r_nwq, r_ret, r_irt, r_zrt, r_lrt, r_drt, r_art, r_thr, r_cV0, r_cV1, r_cV2, r_cV3, r_cV4, r_cV5, r_cI0, r_cS0, r_cS1, r_cS2, r_cS3, r_cX0, r_cX1, r_cX2, r_cX3, r_rc, r_oi, r_refx, r_i10, r_i01, r_rfs, r_mem0, r_memc, r_beq, r_kl0, r_klz, r_kl1i, r_kl1r, r_kl1n, r_kl1l, r_kl1d, List.length_cons, List.length_nil, List.getElem?_cons_zero, List.getElem?_cons_succ, List.set_cons_zero, List.set_cons_succ, true_and, and_true, not_true, not_false_eq_true, false_implies, true_implies, or_true, true_or, or_false, false_or, Bool.or_false, Bool.false_or, decide_false, decide_true, Nat.reduceLT, Nat.reduceLeDiff, Nat.reduceAdd, Nat.reduceSub, ↓reduceIte, Nat.reduceEqDiff, Nat.lt_add_one]
        refine ⟨z_no (b := 268) (by omega) (by omega) (by omega), fun _ => ?_⟩
        rw [z_nat (by omega), Int.toNat_natCast, z_1]
        refine ⟨⟨268, t5, z_in (by omega) (by omega) (by decide)⟩, ⟨268, t1, z_in (by omega) (by omega) (by decide)⟩, ?_⟩
        refine ih (i + 1) (by omega) _ (fr_u2 f (by simp)) (by rw [mz_u_ne n01]; exact z0) (by rw [mz_u_ne n01]; exact zr) (fun j hj => ?_) (fun j hj => by rw [mz_u_nk (by omega)]; exact z1' j (by omega))
        rw [mz_u_at]
        by_cases z : j = i
        · subst z; simp; rw [f _ (by simp; exact ⟨ne t5 h0 (by decide), Ne.symm u1, ne t5 t2 (by decide)⟩)]; exact e52 j (by omega)
        · simp [z]; exact z1 j (by omega)
    refine mz_vc ok_X12_restore [25, 52] [(), (), (), (), (), (), (), (), (), (), (), (), (), (), (), (), (), (), (), (), (), (), (), (), (), (), (), (), (), ()] ?_
    simp only [cd_X12_restore, h0, r1, r2, r5, r6, e51, r_rn0, r_rnc, r_vk0, r_vkc, r_vks, r_kci, r_kcv, r_ild, r_ald, r_lld, r_dld, r_Li, r_La, r_Ll, r_Ld, r_Ki, r_Ka, r_Kl, r_Kd, r_Kn, r_ist, r_ast, r_lst, r_dst, r_iinc, r_int, r_lng, r_dbl, r_i2, r_i1, r_l2, r_lsh, r_i2z, r_l2z, r_i2l, r_l2i, r_i2d, r_lcmp, r_ddiv, r_dcmpl, r_dup, r_dup2, r_pop, r_one_int, r_one_ref, r_go, r_if, r_ic, r_tsw, r_lsw, r_sw0, r_swc, r_lk0, r_lkc, r_kp, r_gI, r_gL, r_gR, r_pI, r_pZ, r_pL, r_pR, r_gs, r_ia, r_ca, r_za, r_la, r_da, r_aa, r_ias, r_cas, r_zas, r_las, r_das, r_aas, r_acp, r_new, r_nwa, r_nwq, r_ret, r_irt, r_zrt, r_lrt, r_drt, r_art, r_thr, r_cV0, r_cV1, r_cV2, r_cV3, r_cV4, r_cV5, r_cI0, r_cS0, r_cS1, r_cS2, r_cS3, r_cX0, r_cX1, r_cX2, r_cX3, r_rc, r_oi, r_refx, r_i10, r_i01, r_rfs, r_mem0, r_memc, r_beq, r_kl0, r_klz, r_kl1i, r_kl1r, r_kl1n, r_kl1l, r_kl1d, List.length_cons, List.length_nil, List.getElem?_cons_zero, List.getElem?_cons_succ, List.set_cons_zero, List.set_cons_succ, true_and, and_true, not_true, not_false_eq_true, false_implies, true_implies, or_true, true_or, or_false, false_or, Bool.or_false, Bool.false_or, decide_false, decide_true, Nat.reduceLT, Nat.reduceLeDiff, Nat.reduceAdd, Nat.reduceSub, ↓reduceIte, Nat.reduceEqDiff, Nat.lt_add_one]
    refine ⟨fun v => absurd v (by decide), fun _ => ?_⟩
    rw [mz_u_nk (by decide), e51]
    refine ⟨fun v => absurd v (by decide), fun _ => ?_⟩
    exact l1 268 0 rfl _ (fr_u2 fr_refl (by simp)) mz_u_eq (fun i a => by rw [mz_u_nk a]) (fun j hj => absurd hj (Nat.not_lt_zero _)) (fun j _ => by rw [mz_u_ne (Ne.symm n01), e1])
end REFH
section LAWA
variable {G : mz_G} {K : mz_K} {X : mz_X} {T : mz_T} {I : mz_I} {L : mz_L}
variable {V : Nat → Nat} {A : z_A} {Aj : Nat → z_A} {sn : z_A} {Y D : Nat → Nat} {B many n : Nat} {m : Nat → Int32} {rr : Nat → Nat → Int32} {has : Bool} {ms : Nat → Int32} {s0 s1 dly lim : Int32} {cs : Nat → Int32} {fl : Int32}

/-- the class's part looks at its own addresses alone -/
theorem w_C_K {I' : mz_I} {L' : mz_L} (hC : w_C T I L V A Aj sn Y B m many rr has ms s0 s1 dly lim n cs fl) (hf : ∀ a, a ∈ w_CA V A Aj sn Y → I' a = I a) (h5 : I' (V 5) = I (V 5)) (hl : ∀ a, a ∈ w_CL A Aj sn Y → L' a = L a) : w_C T I' L' V A Aj sn Y B m many rr has ms s0 s1 dly lim n cs fl := by
  obtain ⟨c1, ⟨nw, c2⟩, c3, ⟨c4, c4'⟩, c5, c6, ⟨c7, c8, c9, c10, c11⟩⟩ := id hC
  have mA : ∀ a, a ∈ A.all → a ∈ w_CA V A Aj sn Y ∧ a ∈ w_CL A Aj sn Y := fun a ha => ⟨List.mem_append_right _ (List.mem_append_left _ ha), List.mem_cons_of_mem _ (List.mem_append_left _ ha)⟩
  have mJ : ∀ j, j < 6 → ∀ a, a ∈ (Aj j).all → a ∈ w_CA V A Aj sn Y ∧ a ∈ w_CL A Aj sn Y := fun j hj a ha => by
    have q : a ∈ z_rec Aj := z_rec_mem.mpr ⟨j, hj, ha⟩
    exact ⟨List.mem_append_right _ (List.mem_append_right _ (List.mem_append_left _ q)), List.mem_cons_of_mem _ (List.mem_append_right _ (List.mem_append_left _ q))⟩
  have mS : ∀ a, a ∈ sn.all → a ∈ w_CA V A Aj sn Y ∧ a ∈ w_CL A Aj sn Y := fun a ha => ⟨List.mem_append_right _ (List.mem_append_right _ (List.mem_append_right _ ha)), List.mem_cons_of_mem _ (List.mem_append_right _ (List.mem_append_right _ ha))⟩
  have hd : ∀ a, a ∈ [V 2, V 7, V 8, V 9, Y 0, Y 2, Y 4, Y 5, Y 6, Y 7, Y 8] → I' a = I a := fun a ha => hf a (List.mem_append_left _ ha)
  have e2 := hd (V 2) (by simp)
  have e8 := hd (V 8) (by simp)
  have e9 := hd (V 9) (by simp)
  have y0 := hd (Y 0) (by simp)
  have y2 := hd (Y 2) (by simp)
  have y5 := hd (Y 5) (by simp)
  have y9 : L' (Y 9) = L (Y 9) := hl _ List.mem_cons_self
  exact ⟨p_R_fr c1 (fun a ha => hf a (mA a ha).1) (hl _ (mA _ z_bm).2), ⟨nw, p_M_fr c2 e2 (fun j hj a ha => ⟨hf a (mJ j hj a ha).1, hl a (mJ j hj a ha).2⟩)⟩, p_N_fr c3 (by rw [e2]) (fun a ha => hf a (mS a ha).1) (fun a ha => hl a (mS a ha).2), ⟨by rw [hf _ (mA _ z_gm).1]; exact c4, by rw [hf _ (mA _ z_gm).1]; exact c4'⟩, by rw [h5]; exact c5, p_Se_fr c6 y0 y2 y5 y9, ⟨by rw [e8]; exact c7, c8, by rw [e8]; exact c9, by rw [e9]; exact c10, by rw [e8]; exact c11⟩⟩
theorem w_C_M {I' : mz_I} (hS : w_Sh T V A Aj sn Y D) (hC : w_C T I L V A Aj sn Y B m many rr has ms s0 s1 dly lim n cs fl) (hf : fr I I' (w_MA D)) : w_C T I' L V A Aj sn Y B m many rr has ms s0 s1 dly lim n cs fl := by
  obtain ⟨-, -, -, -, -, -, -, -, -, -, d1, d2⟩ := id hS
  exact w_C_K hC (fun a ha => hf a (d1 a ha)) (hf _ d2.2) (fun _ _ => rfl)
theorem w_C_b {B' : Nat} (hC : w_C T I L V A Aj sn Y B m many rr has ms s0 s1 dly lim n cs fl) (hB : B ≤ B') : w_C T I L V A Aj sn Y B' m many rr has ms s0 s1 dly lim n cs fl := by
  obtain ⟨c1, ⟨nw, c2⟩, c3, c4⟩ := hC
  exact ⟨p_R_B c1 hB, ⟨nw, p_M_B c2 hB⟩, p_N_B c3 hB, c4⟩
theorem V_out (hU : ∀ a x y, (a, x) ∈ T.1 → (a, y) ∈ T.1 → x = y) (hS : w_Sh T V A Aj sn Y D) (hC : w_C T I L V A Aj sn Y B m many rr has ms s0 s1 dly lim n cs fl) : V 10 ∉ w_CL A Aj sn Y ∧ V 11 ∉ w_CL A Aj sn Y := by
  obtain ⟨c1, ⟨nw, c2⟩, c3, -, -, c6, -⟩ := id hC
  obtain ⟨-, -, -, -, -, ⟨v10, v11⟩, -⟩ := id hS
  obtain ⟨y1, -, ⟨-, -, y5, y6, y7, y8, y9⟩, -⟩ := id c6.1
  have hAj := c2.1.2.2.2.1
  have key : ∀ {a : Nat} {x : Nat × Nat}, (a, x) ∈ T.1 → x ∉ z_sh → x ≠ (2, 512) → a ∉ w_CL A Aj sn Y := by
    intro a x h1 h2 h3 q
    unfold w_CL at q
    simp only [List.mem_cons, List.mem_append, z_rec_mem] at q
    rcases q with q | q | ⟨j, hj, q⟩ | q
    · exact mz_ne hU h1 y9 h3 q
    · exact z_out hU c1.sh h1 h2 q
    · exact z_out hU (hAj j hj).2 h1 h2 q
    · exact z_out hU c3.1.2.2 h1 h2 q
  exact ⟨key v10 (by decide) (by decide), key v11 (by decide) (by decide)⟩
theorem w_C_L {L' : mz_L} {a : Nat} {j : Nat} {x : Int64} (hC : w_C T I L V A Aj sn Y B m many rr has ms s0 s1 dly lim n cs fl) (ha : a ∉ w_CL A Aj sn Y) (e : L' = mz_u L a j x) : w_C T I L' V A Aj sn Y B m many rr has ms s0 s1 dly lim n cs fl :=
  w_C_K hC (fun _ _ => rfl) rfl (fun b hb => by rw [e]; exact mz_u_ne (fun q => ha (by rw [← q]; exact hb)))
theorem r_S_K {I' : mz_I} {s : g_S} (h : r_S I D s has ms s0 s1 dly lim n cs fl) (hf : ∀ a, a ∈ w_MA D → I' a = I a) : r_S I' D s has ms s0 s1 dly lim n cs fl := by
  obtain ⟨⟨hMc, hSp⟩, ⟨e1, e2, e3, e4⟩, ⟨e5, e6, e7, e8⟩, ⟨e9, e10⟩, ⟨e11, e12, e13, e14⟩⟩ := h
  have f0 := hf (D 0) (by simp [w_MA])
  have f1 := hf (D 1) (by simp [w_MA])
  have f2 := hf (D 2) (by simp [w_MA])
  have f3 := hf (D 3) (by simp [w_MA])
  have f5 := hf (D 5) (by simp [w_MA])
  have f6 := hf (D 6) (by simp [w_MA])
  have f8 := hf (D 8) (by simp [w_MA])
  have f9 := hf (D 9) (by simp [w_MA])
  have f10 := hf (D 10) (by simp [w_MA])
  have f11 := hf (D 11) (by simp [w_MA])
  have f12 := hf (D 12) (by simp [w_MA])
  have f14 := hf (D 14) (by simp [w_MA])
  have f23 := hf (D 23) (by simp [w_MA])
  obtain ⟨m1, m2, m3, m4, m5⟩ := hMc
  exact ⟨⟨⟨by rw [f8]; exact m1, by rw [f9]; exact m2, by rw [f10]; exact m3, by rw [f11]; exact m4, by rw [f12]; exact m5⟩, d_Sp_fr hSp (by rw [f0]) f14⟩, ⟨by rw [f1]; exact e1, by rw [f0]; exact e2, e3, by rw [f3]; exact e4⟩, ⟨by rw [f0]; exact e5, by rw [f5]; exact e6, by rw [f6]; exact e7, by rw [f6]; exact e8⟩, ⟨by rw [f2]; exact e9, by rw [f2]; exact e10⟩, ⟨by rw [f0]; exact e11, e12, by rw [f23]; exact e13, by rw [f0]; exact e14⟩⟩
theorem r_S_C {I' : mz_I} {s : g_S} (hS : w_Sh T V A Aj sn Y D) (h : r_S I D s has ms s0 s1 dly lim n cs fl) (hf : fr I I' (w_CA V A Aj sn Y)) : r_S I' D s has ms s0 s1 dly lim n cs fl := by
  obtain ⟨-, -, -, -, -, -, -, -, -, -, d1, d2⟩ := id hS
  exact r_S_K h (fun a ha => hf a (fun q => d1 a q ha))
theorem kh_0 {e : String} {hs : List (String × Nat)} {h : Nat} {k : mz_k} {lv : List (Option Value)} {c : mz_N} (h9 : ∀ q, k h lv [.ref q] T I L c) : mz_kh ((e, h) :: hs) k lv c e T I L := ⟨fun _ => h9, fun q => absurd rfl q⟩
theorem kh_s {e e' : String} {hs : List (String × Nat)} {h : Nat} {k : mz_k} {lv : List (Option Value)} {c : mz_N} (hne : ¬ e = e') (h9 : mz_kh hs k lv c e T I L) : mz_kh ((e', h) :: hs) k lv c e T I L := ⟨fun q => absurd q hne, fun _ => h9⟩
/-- the class's state behind a wrapper -/
def w_O (T : mz_T) (I I' : mz_I) (L' : mz_L) (V : Nat → Nat) (A : z_A) (Aj : Nat → z_A) (sn : z_A) (Y : Nat → Nat) (B : Nat) (s : g_S) (has : Bool) (ms : Nat → Int32) (s0 s1 dly lim : Int32) (n : Nat) (cs : Nat → Int32) (fl : Int32) : Prop := w_CS T I' L' V A Aj sn Y B s has ms s0 s1 dly lim n cs fl ∧ fr I I' (w_CA V A Aj sn Y)
theorem w_O_id (hC : w_C T I L V A Aj sn Y B m many rr has ms s0 s1 dly lim n cs fl) : w_O T I I L V A Aj sn Y (B + 600) (m, many, rr) has ms s0 s1 dly lim n cs fl := ⟨w_C_b hC (by omega), fr_refl⟩
end LAWA
