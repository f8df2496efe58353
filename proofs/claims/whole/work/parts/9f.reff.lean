/-! the reference's face: placements -/
section REFF
variable {G : mz_G} {K : mz_K} {X : mz_X} {T : mz_T} {I : mz_I} {L : mz_L}
variable {D : Nat → Nat} {many n : Nat} {m : Nat → Int32} {rr : Nat → Nat → Int32} {has : Bool} {ms : Nat → Int32} {s0 s1 dly lim : Int32} {cs : Nat → Int32} {fl : Int32}

theorem tell_S {I' : mz_I} (hU : ∀ a x y, (a, x) ∈ T.1 → (a, y) ∈ T.1 → x = y) (hM : p_Mo T D) (hC : r_S I D (m, many, rr) has ms s0 s1 dly lim n cs fl) (f : fr I I' [D 0, D 1, D 13, D 16, D 17, D 19, D 20, D 22]) (e : I' (D 1) = m) (e0 : ∀ i, i ≠ 18 → i ≠ 21 → I' (D 0) i = I (D 0) i) : r_S I' D (m, many, rr) has ms s0 s1 dly lim n cs fl ∧ fr I I' (w_MA D) := by
  obtain ⟨h0, -, ⟨t1, t2, t3, t5, t6, t8, t9, t10, t11, t12, t13, t14, t16, t17, t19, t20, t22, t23⟩, ⟨u1, u2⟩⟩ := id hM
  have ne : ∀ {b : Nat} {y : Nat × Nat}, (b, y) ∈ T.1 → (1, 64) ≠ y → D 14 ≠ b := fun b c => mz_ne hU t14 b c
  refine r_S_X hU hM hC (fr_tr f fr_refl (by simp) (fun _ q => q)) ⟨e0 4 (by decide) (by decide), e0 7 (by decide) (by decide), e0 24 (by decide) (by decide), e0 25 (by decide) (by decide)⟩ e (d_Sp_fr hC.1.2 (e0 15 (by decide) (by decide)) (f _ (by simp; exact ⟨ne h0 (by decide), ne t1 (by decide), ne t13 (by decide), ne t16 (by decide), ne t17 (by decide), ne t19 (by decide), ne t20 (by decide), ne t22 (by decide)⟩)))
theorem c_placesP (hM : p_Mo T D) (hC : r_S I D (m, many, rr) has ms s0 s1 dly lim n cs fl) (ho : r_ok m) (h : ∀ I' v, r_S I' D (m, many, rr) has ms s0 s1 dly lim n cs fl → r_N I I' D (k_liv m) → (k_liv m = 0 → ∃ P, y_res m P ∧ v = zI (P.length : Nat)) → K (some (.int v)) T I' L) : mz_Ctr G M_X12_placements [.ref (D 0)] T I L K := by
  refine mz_apartC fun hU => ?_
  obtain ⟨h0, ⟨r1, r2, r3, r5, r6, r8, r9, r10, r11, r12, r13, r14, r16, r17, r19, r20, r22, r23⟩, ⟨t1, t2, t3, t5, t6, t8, t9, t10, t11, t12, t13, t14, t16, t17, t19, t20, t22, t23⟩, ⟨u1, u2⟩⟩ := id hM
  obtain ⟨⟨hMc, hSp⟩, ⟨e1, e2, e3, e4⟩, e5, ⟨e6, e7⟩, e8⟩ := id hC
  have e1 : I (D 1) = m := e1
  have e2 : I (D 0) 4 = zI many := e2
  have e3 : many ≤ 6 := e3
  refine mz_ofl mk_X12_placements rfl (Nat.le_of_ble_eq_true rfl) (Nat.le_of_ble_eq_true rfl) [some (.ref (D 0))] rfl ?_
  refine mz_vc ok_X12_placements [] [(), (), (), (), (), (), (), (), (), (), (), (), (), (), (), (), (), (), (), (), (), (), (), (), (), (), (), (), (), ()] ?_
  simp only [cd_X12_placements, h0, r1, ix_221 t1, n_221, r_rn0, r_rnc, r_vk0, r_vkc, r_vks, r_kci, r_kcv, r_ild, r_ald, r_lld, r_dld, r_Li, r_La, r_Ll, r_Ld, r_Ki, r_Ka, r_Kl, r_Kd, r_Kn, r_ist, r_ast, r_lst, r_dst, r_iinc, r_int, r_lng, r_dbl, r_i2, r_i1, r_l2, r_lsh, r_i2z, r_l2z, r_i2l, r_l2i, r_i2d, r_lcmp, r_ddiv, r_dcmpl, r_dup, r_dup2, r_pop, r_one_int, r_one_ref, r_go, r_if, r_ic, r_tsw, r_lsw, r_sw0, r_swc, r_lk0, r_lkc, r_kp, r_gI, r_gL, r_gR, r_pI, r_pZ, r_pL, r_pR, r_gs, r_ia, r_ca, r_za, r_la, r_da, r_aa, r_ias, r_cas, r_zas, r_las, r_das, r_aas, r_acp, r_new, r_nwa, r_nwq, r_ret, r_irt, r_zrt, r_lrt, r_drt, r_art, r_thr, r_cV0, r_cV1, r_cV2, r_cV3, r_cV4, r_cV5, r_cI0, r_cS0, r_cS1, r_cS2, r_cS3, r_cX0, r_cX1, r_cX2, r_cX3, r_rc, r_oi, r_refx, r_i10, r_i01, r_rfs, r_mem0, r_memc, r_beq, r_kl0, r_klz, r_kl1i, r_kl1r, r_kl1n, r_kl1l, r_kl1d, List.length_cons, List.length_nil, List.getElem?_cons_zero, List.getElem?_cons_succ, List.set_cons_zero, List.set_cons_succ, true_and, and_true, not_true, not_false_eq_true, false_implies, true_implies, or_true, true_or, or_false, false_or, Bool.or_false, Bool.false_or, decide_false, decide_true, Nat.reduceLT, Nat.reduceLeDiff, Nat.reduceAdd, Nat.reduceSub, ↓reduceIte, Nat.reduceEqDiff, Nat.lt_add_one]
  rw [e1]
  by_cases q : k_liv m = 0
  · have hl := k_liv_0 q
    rw [q] at h
    rw [hl]
    refine ⟨fun _ => ?_, fun v => absurd (by decide) v⟩
    refine c_tellPM hM hMc e1 (ho.2.2.2.2.2.2.1 hl).1 (fun I' P f em e0 hP hr => ?_)
    obtain ⟨v1, v2⟩ := tell_S hU hM hC f em e0
    simp only [cd_X12_placements, h0, r1, r_rn0, r_rnc, r_vk0, r_vkc, r_vks, r_kci, r_kcv, r_ild, r_ald, r_lld, r_dld, r_Li, r_La, r_Ll, r_Ld, r_Ki, r_Ka, r_Kl, r_Kd, r_Kn, r_ist, r_ast, r_lst, r_dst, r_iinc, r_int, r_lng, r_dbl, r_i2, r_i1, r_l2, r_lsh, r_i2z, r_l2z, r_i2l, r_l2i, r_i2d, r_lcmp, r_ddiv, r_dcmpl, r_dup, r_dup2, r_pop, r_one_int, r_one_ref, r_go, r_if, r_ic, r_tsw, r_lsw, r_sw0, r_swc, r_lk0, r_lkc, r_kp, r_gI, r_gL, r_gR, r_pI, r_pZ, r_pL, r_pR, r_gs, r_ia, r_ca, r_za, r_la, r_da, r_aa, r_ias, r_cas, r_zas, r_las, r_das, r_aas, r_acp, r_new, r_nwa, r_nwq, r_ret, r_irt, r_zrt, r_lrt, r_drt, r_art, r_thr, r_cV0, r_cV1, r_cV2, r_cV3, r_cV4, r_cV5, r_cI0, r_cS0, r_cS1, r_cS2, r_cS3, r_cX0, r_cX1, r_cX2, r_cX3, r_rc, r_oi, r_refx, r_i10, r_i01, r_rfs, r_mem0, r_memc, r_beq, r_kl0, r_klz, r_kl1i, r_kl1r, r_kl1n, r_kl1l, r_kl1d, List.length_cons, List.length_nil, List.getElem?_cons_zero, List.getElem?_cons_succ, List.set_cons_zero, List.set_cons_succ, true_and, and_true, not_true, not_false_eq_true, false_implies, true_implies, or_true, true_or, or_false, false_or, Bool.or_false, Bool.false_or, decide_false, decide_true, Nat.reduceLT, Nat.reduceLeDiff, Nat.reduceAdd, Nat.reduceSub, ↓reduceIte, Nat.reduceEqDiff, Nat.lt_add_one]
    refine c_doneM h0 ?_
    simp only [cd_X12_placements, h0, r1, r_rn0, r_rnc, r_vk0, r_vkc, r_vks, r_kci, r_kcv, r_ild, r_ald, r_lld, r_dld, r_Li, r_La, r_Ll, r_Ld, r_Ki, r_Ka, r_Kl, r_Kd, r_Kn, r_ist, r_ast, r_lst, r_dst, r_iinc, r_int, r_lng, r_dbl, r_i2, r_i1, r_l2, r_lsh, r_i2z, r_l2z, r_i2l, r_l2i, r_i2d, r_lcmp, r_ddiv, r_dcmpl, r_dup, r_dup2, r_pop, r_one_int, r_one_ref, r_go, r_if, r_ic, r_tsw, r_lsw, r_sw0, r_swc, r_lk0, r_lkc, r_kp, r_gI, r_gL, r_gR, r_pI, r_pZ, r_pL, r_pR, r_gs, r_ia, r_ca, r_za, r_la, r_da, r_aa, r_ias, r_cas, r_zas, r_las, r_das, r_aas, r_acp, r_new, r_nwa, r_nwq, r_ret, r_irt, r_zrt, r_lrt, r_drt, r_art, r_thr, r_cV0, r_cV1, r_cV2, r_cV3, r_cV4, r_cV5, r_cI0, r_cS0, r_cS1, r_cS2, r_cS3, r_cX0, r_cX1, r_cX2, r_cX3, r_rc, r_oi, r_refx, r_i10, r_i01, r_rfs, r_mem0, r_memc, r_beq, r_kl0, r_klz, r_kl1i, r_kl1r, r_kl1n, r_kl1l, r_kl1d, List.length_cons, List.length_nil, List.getElem?_cons_zero, List.getElem?_cons_succ, List.set_cons_zero, List.set_cons_succ, true_and, and_true, not_true, not_false_eq_true, false_implies, true_implies, or_true, true_or, or_false, false_or, Bool.or_false, Bool.false_or, decide_false, decide_true, Nat.reduceLT, Nat.reduceLeDiff, Nat.reduceAdd, Nat.reduceSub, ↓reduceIte, Nat.reduceEqDiff, Nat.lt_add_one]
    obtain ⟨w1, w2⟩ := r_S_0 (x := 0) hU hM v1 v2
    exact h _ _ w1 w2 (fun _ => ⟨P, hr, hP.1⟩)
  · obtain ⟨q1, q2⟩ := liv_n ho q
    rw [q1] at h
    rw [q2]
    refine ⟨fun v => absurd rfl v, fun _ => ?_⟩
    refine c_failsM h0 ?_
    simp only [cd_X12_placements, h0, r1, r_rn0, r_rnc, r_vk0, r_vkc, r_vks, r_kci, r_kcv, r_ild, r_ald, r_lld, r_dld, r_Li, r_La, r_Ll, r_Ld, r_Ki, r_Ka, r_Kl, r_Kd, r_Kn, r_ist, r_ast, r_lst, r_dst, r_iinc, r_int, r_lng, r_dbl, r_i2, r_i1, r_l2, r_lsh, r_i2z, r_l2z, r_i2l, r_l2i, r_i2d, r_lcmp, r_ddiv, r_dcmpl, r_dup, r_dup2, r_pop, r_one_int, r_one_ref, r_go, r_if, r_ic, r_tsw, r_lsw, r_sw0, r_swc, r_lk0, r_lkc, r_kp, r_gI, r_gL, r_gR, r_pI, r_pZ, r_pL, r_pR, r_gs, r_ia, r_ca, r_za, r_la, r_da, r_aa, r_ias, r_cas, r_zas, r_las, r_das, r_aas, r_acp, r_new, r_nwa, r_nwq, r_ret, r_irt, r_zrt, r_lrt, r_drt, r_art, r_thr, r_cV0, r_cV1, r_cV2, r_cV3, r_cV4, r_cV5, r_cI0, r_cS0, r_cS1, r_cS2, r_cS3, r_cX0, r_cX1, r_cX2, r_cX3, r_rc, r_oi, r_refx, r_i10, r_i01, r_rfs, r_mem0, r_memc, r_beq, r_kl0, r_klz, r_kl1i, r_kl1r, r_kl1n, r_kl1l, r_kl1d, List.length_cons, List.length_nil, List.getElem?_cons_zero, List.getElem?_cons_succ, List.set_cons_zero, List.set_cons_succ, true_and, and_true, not_true, not_false_eq_true, false_implies, true_implies, or_true, true_or, or_false, false_or, Bool.or_false, Bool.false_or, decide_false, decide_true, Nat.reduceLT, Nat.reduceLeDiff, Nat.reduceAdd, Nat.reduceSub, ↓reduceIte, Nat.reduceEqDiff, Nat.lt_add_one]
    obtain ⟨w1, w2⟩ := r_S_0 (x := 1) hU hM hC fr_refl
    exact h _ 0 w1 w2 (fun v => absurd v (by decide))
/-- the code of placement: c placements there are -/
def k_place (m : Nat → Int32) (c : Nat) (x y : Int32) : Int32 := if m 221 = 0 then (if 0 ≤ x ∧ x < zI c then (if 0 ≤ y ∧ y ≤ 7 then 0 else 3) else 2) else 1
theorem c_placeP {x y : Int32} (hM : p_Mo T D) (hC : r_S I D (m, many, rr) has ms s0 s1 dly lim n cs fl) (ho : r_ok m) (h0v : ¬ m 221 = 0 → ∀ I', r_S I' D (m, many, rr) has ms s0 s1 dly lim n cs fl → r_N I I' D 1 → K (some (.int 0)) T I' L)
    (h : m 221 = 0 → ∀ I' v P k, y_res m P → r_S I' D (m, many, rr) has ms s0 s1 dly lim n cs fl → r_N I I' D k → ((∀ p, p < P.length → zI (y_cn m P p P.length : Nat) ≠ x) ∧ k = 2 ∨ ∃ p, p < P.length ∧ zI (y_cn m P p P.length : Nat) = x ∧ (¬ (0 ≤ y ∧ y ≤ 7) ∧ k = 3 ∨ ∃ w : Nat, y = zI w ∧ w ≤ 7 ∧ k = 0 ∧ v = zI (y_pt m (P.getD p (0, 0, 0)) w : Nat))) → K (some (.int v)) T I' L) : mz_Ctr G M_X12_placement [.ref (D 0), .int x, .int y] T I L K := by
  refine mz_apartC fun hU => ?_
  obtain ⟨h0, ⟨r1, r2, r3, r5, r6, r8, r9, r10, r11, r12, r13, r14, r16, r17, r19, r20, r22, r23⟩, ⟨t1, t2, t3, t5, t6, t8, t9, t10, t11, t12, t13, t14, t16, t17, t19, t20, t22, t23⟩, ⟨u1, u2⟩⟩ := id hM
  obtain ⟨⟨hMc, hSp⟩, ⟨e1, e2, e3, e4⟩, e5, ⟨e6, e7⟩, e8⟩ := id hC
  have e1 : I (D 1) = m := e1
  have e2 : I (D 0) 4 = zI many := e2
  have e3 : many ≤ 6 := e3
  refine mz_ofl mk_X12_placement rfl (Nat.le_of_ble_eq_true rfl) (Nat.le_of_ble_eq_true rfl) [some (.ref (D 0)), some (.int x), some (.int y), none] rfl ?_
  refine mz_vc ok_X12_placement [] [(), (), (), (), (), (), (), (), (), (), (), (), (), (), (), (), (), (), (), (), (), (), (), (), (), (), (), (), (), ()] ?_
  simp only [cd_X12_placement, h0, r1, r19, ix_221 t1, n_221, r_rn0, r_rnc, r_vk0, r_vkc, r_vks, r_kci, r_kcv, r_ild, r_ald, r_lld, r_dld, r_Li, r_La, r_Ll, r_Ld, r_Ki, r_Ka, r_Kl, r_Kd, r_Kn, r_ist, r_ast, r_lst, r_dst, r_iinc, r_int, r_lng, r_dbl, r_i2, r_i1, r_l2, r_lsh, r_i2z, r_l2z, r_i2l, r_l2i, r_i2d, r_lcmp, r_ddiv, r_dcmpl, r_dup, r_dup2, r_pop, r_one_int, r_one_ref, r_go, r_if, r_ic, r_tsw, r_lsw, r_sw0, r_swc, r_lk0, r_lkc, r_kp, r_gI, r_gL, r_gR, r_pI, r_pZ, r_pL, r_pR, r_gs, r_ia, r_ca, r_za, r_la, r_da, r_aa, r_ias, r_cas, r_zas, r_las, r_das, r_aas, r_acp, r_new, r_nwa, r_nwq, r_ret, r_irt, r_zrt, r_lrt, r_drt, r_art, r_thr, r_cV0, r_cV1, r_cV2, r_cV3, r_cV4, r_cV5, r_cI0, r_cS0, r_cS1, r_cS2, r_cS3, r_cX0, r_cX1, r_cX2, r_cX3, r_rc, r_oi, r_refx, r_i10, r_i01, r_rfs, r_mem0, r_memc, r_beq, r_kl0, r_klz, r_kl1i, r_kl1r, r_kl1n, r_kl1l, r_kl1d, List.length_cons, List.length_nil, List.getElem?_cons_zero, List.getElem?_cons_succ, List.set_cons_zero, List.set_cons_succ, true_and, and_true, not_true, not_false_eq_true, false_implies, true_implies, or_true, true_or, or_false, false_or, Bool.or_false, Bool.false_or, decide_false, decide_true, Nat.reduceLT, Nat.reduceLeDiff, Nat.reduceAdd, Nat.reduceSub, ↓reduceIte, Nat.reduceEqDiff, Nat.lt_add_one]
  rw [e1]
  rcases ho.1 with hl | hl
  · rw [hl]
    refine ⟨fun _ => ?_, fun v => absurd (by decide) v⟩
    obtain ⟨dok, -⟩ := ho.2.2.2.2.2.2.1 hl
    refine c_tellPM hM hMc e1 dok (fun I' P f em e0 hP hr => ?_)
    obtain ⟨v1, v2⟩ := tell_S hU hM hC f em e0
    have h9 := fun I2 v k => h hl I2 v P k hr
    simp only [cd_X12_placement, h0, r1, r19, r_rn0, r_rnc, r_vk0, r_vkc, r_vks, r_kci, r_kcv, r_ild, r_ald, r_lld, r_dld, r_Li, r_La, r_Ll, r_Ld, r_Ki, r_Ka, r_Kl, r_Kd, r_Kn, r_ist, r_ast, r_lst, r_dst, r_iinc, r_int, r_lng, r_dbl, r_i2, r_i1, r_l2, r_lsh, r_i2z, r_l2z, r_i2l, r_l2i, r_i2d, r_lcmp, r_ddiv, r_dcmpl, r_dup, r_dup2, r_pop, r_one_int, r_one_ref, r_go, r_if, r_ic, r_tsw, r_lsw, r_sw0, r_swc, r_lk0, r_lkc, r_kp, r_gI, r_gL, r_gR, r_pI, r_pZ, r_pL, r_pR, r_gs, r_ia, r_ca, r_za, r_la, r_da, r_aa, r_ias, r_cas, r_zas, r_las, r_das, r_aas, r_acp, r_new, r_nwa, r_nwq, r_ret, r_irt, r_zrt, r_lrt, r_drt, r_art, r_thr, r_cV0, r_cV1, r_cV2, r_cV3, r_cV4, r_cV5, r_cI0, r_cS0, r_cS1, r_cS2, r_cS3, r_cX0, r_cX1, r_cX2, r_cX3, r_rc, r_oi, r_refx, r_i10, r_i01, r_rfs, r_mem0, r_memc, r_beq, r_kl0, r_klz, r_kl1i, r_kl1r, r_kl1n, r_kl1l, r_kl1d, List.length_cons, List.length_nil, List.getElem?_cons_zero, List.getElem?_cons_succ, List.set_cons_zero, List.set_cons_succ, true_and, and_true, not_true, not_false_eq_true, false_implies, true_implies, or_true, true_or, or_false, false_or, Bool.or_false, Bool.false_or, decide_false, decide_true, Nat.reduceLT, Nat.reduceLeDiff, Nat.reduceAdd, Nat.reduceSub, ↓reduceIte, Nat.reduceEqDiff, Nat.lt_add_one]
    refine c_rankedM hM dok.1.2.1 ho.2.2.1 hP (fun p hp e => ?_) (fun e => ?_)
    · simp only [cd_X12_placement, h0, r1, r19, r_rn0, r_rnc, r_vk0, r_vkc, r_vks, r_kci, r_kcv, r_ild, r_ald, r_lld, r_dld, r_Li, r_La, r_Ll, r_Ld, r_Ki, r_Ka, r_Kl, r_Kd, r_Kn, r_ist, r_ast, r_lst, r_dst, r_iinc, r_int, r_lng, r_dbl, r_i2, r_i1, r_l2, r_lsh, r_i2z, r_l2z, r_i2l, r_l2i, r_i2d, r_lcmp, r_ddiv, r_dcmpl, r_dup, r_dup2, r_pop, r_one_int, r_one_ref, r_go, r_if, r_ic, r_tsw, r_lsw, r_sw0, r_swc, r_lk0, r_lkc, r_kp, r_gI, r_gL, r_gR, r_pI, r_pZ, r_pL, r_pR, r_gs, r_ia, r_ca, r_za, r_la, r_da, r_aa, r_ias, r_cas, r_zas, r_las, r_das, r_aas, r_acp, r_new, r_nwa, r_nwq, r_ret, r_irt, r_zrt, r_lrt, r_drt, r_art, r_thr, r_cV0, r_cV1, r_cV2, r_cV3, r_cV4, r_cV5, r_cI0, r_cS0, r_cS1, r_cS2, r_cS3, r_cX0, r_cX1, r_cX2, r_cX3, r_rc, r_oi, r_refx, r_i10, r_i01, r_rfs, r_mem0, r_memc, r_beq, r_kl0, r_klz, r_kl1i, r_kl1r, r_kl1n, r_kl1l, r_kl1d, List.length_cons, List.length_nil, List.getElem?_cons_zero, List.getElem?_cons_succ, List.set_cons_zero, List.set_cons_succ, true_and, and_true, not_true, not_false_eq_true, false_implies, true_implies, or_true, true_or, or_false, false_or, Bool.or_false, Bool.false_or, decide_false, decide_true, Nat.reduceLT, Nat.reduceLeDiff, Nat.reduceAdd, Nat.reduceSub, ↓reduceIte, Nat.reduceEqDiff, Nat.lt_add_one]
      have hp440 := hP.2.1
      refine ⟨fun _ => ?_, fun v => ?_⟩
      rotate_left
      · have : zI (p : Int) = zI (-1) := Decidable.not_not.mp v
        rw [z_eq (by omega) (by omega)] at this; omega
      · refine c_inM ?_
        rw [in_b]
        by_cases q : 0 ≤ y ∧ y ≤ 7
        · rw [decide_eq_true q]
          obtain ⟨w, rfl, -, hw⟩ := z_get (a := 0) (b := 7) (by decide) q
          simp only [cd_X12_placement, h0, r1, r19, r_rn0, r_rnc, r_vk0, r_vkc, r_vks, r_kci, r_kcv, r_ild, r_ald, r_lld, r_dld, r_Li, r_La, r_Ll, r_Ld, r_Ki, r_Ka, r_Kl, r_Kd, r_Kn, r_ist, r_ast, r_lst, r_dst, r_iinc, r_int, r_lng, r_dbl, r_i2, r_i1, r_l2, r_lsh, r_i2z, r_l2z, r_i2l, r_l2i, r_i2d, r_lcmp, r_ddiv, r_dcmpl, r_dup, r_dup2, r_pop, r_one_int, r_one_ref, r_go, r_if, r_ic, r_tsw, r_lsw, r_sw0, r_swc, r_lk0, r_lkc, r_kp, r_gI, r_gL, r_gR, r_pI, r_pZ, r_pL, r_pR, r_gs, r_ia, r_ca, r_za, r_la, r_da, r_aa, r_ias, r_cas, r_zas, r_las, r_das, r_aas, r_acp, r_new, r_nwa, r_nwq, r_ret, r_irt, r_zrt, r_lrt, r_drt, r_art, r_thr, r_cV0, r_cV1, r_cV2, r_cV3, r_cV4, r_cV5, r_cI0, r_cS0, r_cS1, r_cS2, r_cS3, r_cX0, r_cX1, r_cX2, r_cX3, r_rc, r_oi, r_refx, r_i10, r_i01, r_rfs, r_mem0, r_memc, r_beq, r_kl0, r_klz, r_kl1i, r_kl1r, r_kl1n, r_kl1l, r_kl1d, List.length_cons, List.length_nil, List.getElem?_cons_zero, List.getElem?_cons_succ, List.set_cons_zero, List.set_cons_succ, true_and, and_true, not_true, not_false_eq_true, false_implies, true_implies, or_true, true_or, or_false, false_or, Bool.or_false, Bool.false_or, decide_false, decide_true, Nat.reduceLT, Nat.reduceLeDiff, Nat.reduceAdd, Nat.reduceSub, ↓reduceIte, Nat.reduceEqDiff, Nat.lt_add_one]
          refine ⟨fun v => absurd v (by decide), fun _ => ?_⟩
          rw [show (8 : Int32) = zI 8 from rfl, z_mul, z_add, show (8 : Int) * (p : Int) + (w : Int) = ((8 * p + w : Nat) : Int) by omega, z_nat (by omega), Int.toNat_natCast, hP.2.2.2.1 p w hp (by omega)]
          refine ⟨⟨8000, t19, z_in (by omega) (by omega) (by decide)⟩, ?_⟩
          refine c_doneM h0 ?_
          simp only [cd_X12_placement, h0, r1, r19, r_rn0, r_rnc, r_vk0, r_vkc, r_vks, r_kci, r_kcv, r_ild, r_ald, r_lld, r_dld, r_Li, r_La, r_Ll, r_Ld, r_Ki, r_Ka, r_Kl, r_Kd, r_Kn, r_ist, r_ast, r_lst, r_dst, r_iinc, r_int, r_lng, r_dbl, r_i2, r_i1, r_l2, r_lsh, r_i2z, r_l2z, r_i2l, r_l2i, r_i2d, r_lcmp, r_ddiv, r_dcmpl, r_dup, r_dup2, r_pop, r_one_int, r_one_ref, r_go, r_if, r_ic, r_tsw, r_lsw, r_sw0, r_swc, r_lk0, r_lkc, r_kp, r_gI, r_gL, r_gR, r_pI, r_pZ, r_pL, r_pR, r_gs, r_ia, r_ca, r_za, r_la, r_da, r_aa, r_ias, r_cas, r_zas, r_las, r_das, r_aas, r_acp, r_new, r_nwa, r_nwq, r_ret, r_irt, r_zrt, r_lrt, r_drt, r_art, r_thr, r_cV0, r_cV1, r_cV2, r_cV3, r_cV4, r_cV5, r_cI0, r_cS0, r_cS1, r_cS2, r_cS3, r_cX0, r_cX1, r_cX2, r_cX3, r_rc, r_oi, r_refx, r_i10, r_i01, r_rfs, r_mem0, r_memc, r_beq, r_kl0, r_klz, r_kl1i, r_kl1r, r_kl1n, r_kl1l, r_kl1d, List.length_cons, List.length_nil, List.getElem?_cons_zero, List.getElem?_cons_succ, List.set_cons_zero, List.set_cons_succ, true_and, and_true, not_true, not_false_eq_true, false_implies, true_implies, or_true, true_or, or_false, false_or, Bool.or_false, Bool.false_or, decide_false, decide_true, Nat.reduceLT, Nat.reduceLeDiff, Nat.reduceAdd, Nat.reduceSub, ↓reduceIte, Nat.reduceEqDiff, Nat.lt_add_one]
          obtain ⟨w1, w2⟩ := r_S_0 (x := 0) hU hM v1 v2
          exact h9 _ _ 0 w1 w2 (Or.inr ⟨p, hp, e, Or.inr ⟨w, rfl, hw, rfl, rfl⟩⟩)
        · rw [decide_eq_false q]
          simp only [cd_X12_placement, h0, r1, r19, r_rn0, r_rnc, r_vk0, r_vkc, r_vks, r_kci, r_kcv, r_ild, r_ald, r_lld, r_dld, r_Li, r_La, r_Ll, r_Ld, r_Ki, r_Ka, r_Kl, r_Kd, r_Kn, r_ist, r_ast, r_lst, r_dst, r_iinc, r_int, r_lng, r_dbl, r_i2, r_i1, r_l2, r_lsh, r_i2z, r_l2z, r_i2l, r_l2i, r_i2d, r_lcmp, r_ddiv, r_dcmpl, r_dup, r_dup2, r_pop, r_one_int, r_one_ref, r_go, r_if, r_ic, r_tsw, r_lsw, r_sw0, r_swc, r_lk0, r_lkc, r_kp, r_gI, r_gL, r_gR, r_pI, r_pZ, r_pL, r_pR, r_gs, r_ia, r_ca, r_za, r_la, r_da, r_aa, r_ias, r_cas, r_zas, r_las, r_das, r_aas, r_acp, r_new, r_nwa, r_nwq, r_ret, r_irt, r_zrt, r_lrt, r_drt, r_art, r_thr, r_cV0, r_cV1, r_cV2, r_cV3, r_cV4, r_cV5, r_cI0, r_cS0, r_cS1, r_cS2, r_cS3, r_cX0, r_cX1, r_cX2, r_cX3, r_rc, r_oi, r_refx, r_i10, r_i01, r_rfs, r_mem0, r_memc, r_beq, r_kl0, r_klz, r_kl1i, r_kl1r, r_kl1n, r_kl1l, r_kl1d, List.length_cons, List.length_nil, List.getElem?_cons_zero, List.getElem?_cons_succ, List.set_cons_zero, List.set_cons_succ, true_and, and_true, not_true, not_false_eq_true, false_implies, true_implies, or_true, true_or, or_false, false_or, Bool.or_false, Bool.false_or, decide_false, decide_true, Nat.reduceLT, Nat.reduceLeDiff, Nat.reduceAdd, Nat.reduceSub, ↓reduceIte, Nat.reduceEqDiff, Nat.lt_add_one]
          refine ⟨fun _ => ?_, fun v => absurd rfl v⟩
          refine c_failsM h0 ?_
          simp only [cd_X12_placement, h0, r1, r19, r_rn0, r_rnc, r_vk0, r_vkc, r_vks, r_kci, r_kcv, r_ild, r_ald, r_lld, r_dld, r_Li, r_La, r_Ll, r_Ld, r_Ki, r_Ka, r_Kl, r_Kd, r_Kn, r_ist, r_ast, r_lst, r_dst, r_iinc, r_int, r_lng, r_dbl, r_i2, r_i1, r_l2, r_lsh, r_i2z, r_l2z, r_i2l, r_l2i, r_i2d, r_lcmp, r_ddiv, r_dcmpl, r_dup, r_dup2, r_pop, r_one_int, r_one_ref, r_go, r_if, r_ic, r_tsw, r_lsw, r_sw0, r_swc, r_lk0, r_lkc, r_kp, r_gI, r_gL, r_gR, r_pI, r_pZ, r_pL, r_pR, r_gs, r_ia, r_ca, r_za, r_la, r_da, r_aa, r_ias, r_cas, r_zas, r_las, r_das, r_aas, r_acp, r_new, r_nwa, r_nwq, r_ret, r_irt, r_zrt, r_lrt, r_drt, r_art, r_thr, r_cV0, r_cV1, r_cV2, r_cV3, r_cV4, r_cV5, r_cI0, r_cS0, r_cS1, r_cS2, r_cS3, r_cX0, r_cX1, r_cX2, r_cX3, r_rc, r_oi, r_refx, r_i10, r_i01, r_rfs, r_mem0, r_memc, r_beq, r_kl0, r_klz, r_kl1i, r_kl1r, r_kl1n, r_kl1l, r_kl1d, List.length_cons, List.length_nil, List.getElem?_cons_zero, List.getElem?_cons_succ, List.set_cons_zero, List.set_cons_succ, true_and, and_true, not_true, not_false_eq_true, false_implies, true_implies, or_true, true_or, or_false, false_or, Bool.or_false, Bool.false_or, decide_false, decide_true, Nat.reduceLT, Nat.reduceLeDiff, Nat.reduceAdd, Nat.reduceSub, ↓reduceIte, Nat.reduceEqDiff, Nat.lt_add_one]
          obtain ⟨w1, w2⟩ := r_S_0 (x := 3) hU hM v1 v2
          exact h9 _ _ 3 w1 w2 (Or.inr ⟨p, hp, e, Or.inl ⟨q, rfl⟩⟩)
    · simp only [cd_X12_placement, h0, r1, r19, r_rn0, r_rnc, r_vk0, r_vkc, r_vks, r_kci, r_kcv, r_ild, r_ald, r_lld, r_dld, r_Li, r_La, r_Ll, r_Ld, r_Ki, r_Ka, r_Kl, r_Kd, r_Kn, r_ist, r_ast, r_lst, r_dst, r_iinc, r_int, r_lng, r_dbl, r_i2, r_i1, r_l2, r_lsh, r_i2z, r_l2z, r_i2l, r_l2i, r_i2d, r_lcmp, r_ddiv, r_dcmpl, r_dup, r_dup2, r_pop, r_one_int, r_one_ref, r_go, r_if, r_ic, r_tsw, r_lsw, r_sw0, r_swc, r_lk0, r_lkc, r_kp, r_gI, r_gL, r_gR, r_pI, r_pZ, r_pL, r_pR, r_gs, r_ia, r_ca, r_za, r_la, r_da, r_aa, r_ias, r_cas, r_zas, r_las, r_das, r_aas, r_acp, r_new, r_nwa, r_nwq, r_ret, r_irt, r_zrt, r_lrt, r_drt, r_art, r_thr, r_cV0, r_cV1, r_cV2, r_cV3, r_cV4, r_cV5, r_cI0, r_cS0, r_cS1, r_cS2, r_cS3, r_cX0, r_cX1, r_cX2, r_cX3, r_rc, r_oi, r_refx, r_i10, r_i01, r_rfs, r_mem0, r_memc, r_beq, r_kl0, r_klz, r_kl1i, r_kl1r, r_kl1n, r_kl1l, r_kl1d, List.length_cons, List.length_nil, List.getElem?_cons_zero, List.getElem?_cons_succ, List.set_cons_zero, List.set_cons_succ, true_and, and_true, not_true, not_false_eq_true, false_implies, true_implies, or_true, true_or, or_false, false_or, Bool.or_false, Bool.false_or, decide_false, decide_true, Nat.reduceLT, Nat.reduceLeDiff, Nat.reduceAdd, Nat.reduceSub, ↓reduceIte, Nat.reduceEqDiff, Nat.lt_add_one]
      refine c_failsM h0 ?_
      simp only [cd_X12_placement, h0, r1, r19, r_rn0, r_rnc, r_vk0, r_vkc, r_vks, r_kci, r_kcv, r_ild, r_ald, r_lld, r_dld, r_Li, r_La, r_Ll, r_Ld, r_Ki, r_Ka, r_Kl, r_Kd, r_Kn, r_ist, r_ast, r_lst, r_dst, r_iinc, r_int, r_lng, r_dbl, r_i2, r_i1, r_l2, r_lsh, r_i2z, r_l2z, r_i2l, r_l2i, r_i2d, r_lcmp, r_ddiv, r_dcmpl, r_dup, r_dup2, r_pop, r_one_int, r_one_ref, r_go, r_if, r_ic, r_tsw, r_lsw, r_sw0, r_swc, r_lk0, r_lkc, r_kp, r_gI, r_gL, r_gR, r_pI, r_pZ, r_pL, r_pR, r_gs, r_ia, r_ca, r_za, r_la, r_da, r_aa, r_ias, r_cas, r_zas, r_las, r_das, r_aas, r_acp, r_new, r_nwa, r_nwq, r_ret, r_irt, r_zrt, r_lrt, r_drt, r_art, r_thr, r_cV0, r_cV1, r_cV2, r_cV3, r_cV4, r_cV5, r_cI0, r_cS0, r_cS1, r_cS2, r_cS3, r_cX0, r_cX1, r_cX2, r_cX3, r_rc, r_oi, r_refx, r_i10, r_i01, r_rfs, r_mem0, r_memc, r_beq, r_kl0, r_klz, r_kl1i, r_kl1r, r_kl1n, r_kl1l, r_kl1d, List.length_cons, List.length_nil, List.getElem?_cons_zero, List.getElem?_cons_succ, List.set_cons_zero, List.set_cons_succ, true_and, and_true, not_true, not_false_eq_true, false_implies, true_implies, or_true, true_or, or_false, false_or, Bool.or_false, Bool.false_or, decide_false, decide_true, Nat.reduceLT, Nat.reduceLeDiff, Nat.reduceAdd, Nat.reduceSub, ↓reduceIte, Nat.reduceEqDiff, Nat.lt_add_one]
      obtain ⟨w1, w2⟩ := r_S_0 (x := 2) hU hM v1 v2
      exact h9 _ _ 2 w1 w2 (Or.inl ⟨e, rfl⟩)
  · rw [hl]
    refine ⟨fun v => absurd rfl v, fun _ => ?_⟩
    refine c_failsM h0 ?_
    simp only [cd_X12_placement, h0, r1, r19, r_rn0, r_rnc, r_vk0, r_vkc, r_vks, r_kci, r_kcv, r_ild, r_ald, r_lld, r_dld, r_Li, r_La, r_Ll, r_Ld, r_Ki, r_Ka, r_Kl, r_Kd, r_Kn, r_ist, r_ast, r_lst, r_dst, r_iinc, r_int, r_lng, r_dbl, r_i2, r_i1, r_l2, r_lsh, r_i2z, r_l2z, r_i2l, r_l2i, r_i2d, r_lcmp, r_ddiv, r_dcmpl, r_dup, r_dup2, r_pop, r_one_int, r_one_ref, r_go, r_if, r_ic, r_tsw, r_lsw, r_sw0, r_swc, r_lk0, r_lkc, r_kp, r_gI, r_gL, r_gR, r_pI, r_pZ, r_pL, r_pR, r_gs, r_ia, r_ca, r_za, r_la, r_da, r_aa, r_ias, r_cas, r_zas, r_las, r_das, r_aas, r_acp, r_new, r_nwa, r_nwq, r_ret, r_irt, r_zrt, r_lrt, r_drt, r_art, r_thr, r_cV0, r_cV1, r_cV2, r_cV3, r_cV4, r_cV5, r_cI0, r_cS0, r_cS1, r_cS2, r_cS3, r_cX0, r_cX1, r_cX2, r_cX3, r_rc, r_oi, r_refx, r_i10, r_i01, r_rfs, r_mem0, r_memc, r_beq, r_kl0, r_klz, r_kl1i, r_kl1r, r_kl1n, r_kl1l, r_kl1d, List.length_cons, List.length_nil, List.getElem?_cons_zero, List.getElem?_cons_succ, List.set_cons_zero, List.set_cons_succ, true_and, and_true, not_true, not_false_eq_true, false_implies, true_implies, or_true, true_or, or_false, false_or, Bool.or_false, Bool.false_or, decide_false, decide_true, Nat.reduceLT, Nat.reduceLeDiff, Nat.reduceAdd, Nat.reduceSub, ↓reduceIte, Nat.reduceEqDiff, Nat.lt_add_one]
    obtain ⟨w1, w2⟩ := r_S_0 (x := 1) hU hM hC fr_refl
    exact h0v (by rw [hl]; decide) _ w1 w2
/-- the reference's row with the piece set to a place -/
def o_bestM (m : Nat → Int32) (b : s_P) : Nat → Int32 := m_u (x_row m b) 231 (-1)
noncomputable def r_best (b : s_P) (s : g_S) : g_S := r_lk (o_bestM s.1 b) (g_le (o_bestM s.1 b)) s.2.1 s.2.2
theorem bestM_m {x : s_P} (hk : m_kd m < 7) (h : x_in m x) : (∀ j, j ≠ 223 → j ≠ 224 → j ≠ 225 → j ≠ 231 → o_bestM m x j = m j) ∧ m_kd (o_bestM m x) = m_kd m ∧ m_st (o_bestM m x) = x.1 ∧ m_c (o_bestM m x) = x.2.1 ∧ m_r (o_bestM m x) = x.2.2 := by
  have o1 : ∀ j, j ≠ 231 → o_bestM m x j = x_row m x j := fun j q => m_u_ne q
  obtain ⟨k1, k2, k3, k4, k5⟩ := x_row_m hk h
  have kd : m_kd (o_bestM m x) = m_kd (x_row m x) := by unfold m_kd; rw [o1 222 (by decide)]
  have st : m_st (o_bestM m x) = m_st (x_row m x) := by unfold m_st; rw [o1 223 (by decide)]
  have co : m_c (o_bestM m x) = m_c (x_row m x) := by unfold m_c; rw [o1 224 (by decide)]
  have ro : m_r (o_bestM m x) = m_r (x_row m x) := by unfold m_r; rw [o1 225 (by decide)]
  exact ⟨fun j a b c d => (o1 j d).trans (x_row_o ⟨a, b, c⟩), kd.trans k1, st.trans k2, co.trans k3, ro.trans k4⟩
def f_leB (kd s s' x : Nat) : Bool := !((List.range 4).all (fun j => decide (3 ≤ x + s_cell kd s j % 10) && decide (x + s_cell kd s j % 10 < 13) && decide (s_cell kd s j + s_cell kd s' 0 = s_cell kd s' j + s_cell kd s 0))) || decide (f_le kd s ((x : Int) - 3) = f_le kd s' ((x : Int) - 3 + (s_cell kd s 0 % 10 : Nat) - (s_cell kd s' 0 % 10 : Nat)))
theorem f_leT0 : ∀ kd, kd < 7 → ∀ s, s < 4 → ∀ s', s' < 4 → ∀ x, x < 13 → f_leB kd s s' x = true := by decide +kernel
theorem f_leT {kd s s' x : Nat} (hk : kd < 7) (hs : s < 4) (hs' : s' < 4) (hx : x < 13) (h1 : ∀ j, j < 4 → 3 ≤ x + s_cell kd s j % 10 ∧ x + s_cell kd s j % 10 < 13) (h2 : ∀ j, j < 4 → s_cell kd s j + s_cell kd s' 0 = s_cell kd s' j + s_cell kd s 0) : f_le kd s ((x : Int) - 3) = f_le kd s' ((x : Int) - 3 + (s_cell kd s 0 % 10 : Nat) - (s_cell kd s' 0 % 10 : Nat)) := by
  have := f_leT0 kd hk s hs s' hs' x hx
  unfold f_leB at this
  have e : (List.range 4).all (fun j => decide (3 ≤ x + s_cell kd s j % 10) && decide (x + s_cell kd s j % 10 < 13) && decide (s_cell kd s j + s_cell kd s' 0 = s_cell kd s' j + s_cell kd s 0)) = true := by
    rw [List.all_eq_true]
    intro j hj
    have hj := List.mem_range.mp hj
    rw [decide_eq_true (h1 j hj).1, decide_eq_true (h1 j hj).2, decide_eq_true (h2 j hj)]; rfl
  rw [e] at this
  simpa using this
theorem x_col {x : s_P} {j : Nat} (h : x_in m x) (hj : j < 4) : 0 ≤ x.2.1 + (s_cell (m_kd m) x.1 j % 10 : Nat) ∧ x.2.1 + (s_cell (m_kd m) x.1 j % 10 : Nat) < 10 := by
  have h1 := s_fit_t.mp h.2 j hj
  unfold s_at at h1
  simp only [Bool.or_eq_false_iff, decide_eq_false_iff_not] at h1
  omega
theorem f_le_cg {x y : s_P} (hk : m_kd m < 7) (hx : x_in m x) (hy : x_in m y) (e : ∀ i, i < 4 → x_ce m y i = x_ce m x i) : f_le (m_kd m) y.1 y.2.1 = f_le (m_kd m) x.1 x.2.1 := by
  have bx := x_in_b hk hx
  have by' := x_in_b hk hy
  have ce : ∀ j, j < 4 → x.2.2 * 10 + x.2.1 + s_cell (m_kd m) x.1 j = y.2.2 * 10 + y.2.1 + s_cell (m_kd m) y.1 j := by
    intro j hj
    rw [(x_cell hk hx hj).1, (x_cell hk hy hj).1, e j hj]
  have c0 := ce 0 (by decide)
  have k0 := x_col hx (j := 0) (by decide)
  have k1 := x_col hy (j := 0) (by decide)
  obtain ⟨n, hn⟩ : ∃ n : Nat, x.2.1 = (n : Int) - 3 := ⟨(x.2.1 + 3).toNat, by omega⟩
  have := f_leT (kd := m_kd m) (s := x.1) (s' := y.1) (x := n) hk hx.1 hy.1 (by omega) (fun j hj => by have := x_col hx hj; omega) (fun j hj => by have := ce j hj; omega)
  rw [hn, this]
  congr 1
  omega
theorem best_x {b t : s_P} (hk : m_kd m < 7) (hb : x_in m b) (ht : x_in m t) (e : x_key m b = x_key m t) : re_s (g_best b (m, many, rr)) (r_best t (m, many, rr)) ∧ m_n (o_fill (o_bestM m t)) = m_n (o_fill (o_best m b)) := by
  have ee := y_sm_t.mp ((y_key hk hb ht).mp e)
  have bb := x_in_b hk hb
  obtain ⟨a1, a2, a3, a4, a5⟩ := moved_m (m := m) (s := b.1) (c := b.2.1) (r := b.2.2) hb.1 (by omega) (by omega)
  obtain ⟨b1, b2, b3, b4, b5⟩ := bestM_m hk ht
  have ce : ∀ j, j < 4 → t.2.2 * 10 + t.2.1 + s_cell (m_kd m) t.1 j = b.2.2 * 10 + b.2.1 + s_cell (m_kd m) b.1 j := by
    intro j hj
    rw [(x_cell hk ht hj).1, (x_cell hk hb hj).1, ee j hj]
  have r1 : o_best m b 231 = -1 := by
    unfold o_best o_moved o_set2
    split
    · rw [m_u_ne (by decide), m_u_ne (by decide), m_u_ne (by decide), m_u_eq]
    · rw [m_u_eq]
  have r2 : o_bestM m t 231 = -1 := m_u_eq
  have hp : re_p (o_best m b) (o_bestM m t) := fun j hj h2 => by
    rw [b1 j (by omega) (by omega) (by omega) (by omega)]; exact (a1 j h2).symm
  have hs : ∀ x : Nat, s_has (m_kd (o_bestM m t)) (m_st (o_bestM m t)) (m_c (o_bestM m t)) (m_r (o_bestM m t)) x = s_has (m_kd (o_best m b)) (m_st (o_best m b)) (m_c (o_best m b)) (m_r (o_best m b)) x := by
    intro x
    rw [b2, b3, b4, b5, show m_kd (o_best m b) = m_kd m from a2, show m_st (o_best m b) = b.1 from a3, show m_c (o_best m b) = b.2.1 from a4, show m_r (o_best m b) = b.2.2 from a5]
    apply Bool.eq_iff_iff.mpr
    rw [s_has_t, s_has_t]
    constructor
    · rintro ⟨j, hj, q⟩; exact ⟨j, hj, by rw [← ce j hj]; exact q⟩
    · rintro ⟨j, hj, q⟩; exact ⟨j, hj, by rw [ce j hj]; exact q⟩
  have hsp : m_spin (o_bestM m t) = m_spin (o_best m b) := by
    unfold m_spin
    rw [if_neg (fun h => h.2 r2), if_neg (fun h => h.2 r1)]
  have hh : m_high (o_bestM m t) = m_high (o_best m b) := by
    unfold m_high
    rw [b2, b3, b4, b5, show m_kd (o_best m b) = m_kd m from a2, show m_st (o_best m b) = b.1 from a3, show m_c (o_best m b) = b.2.1 from a4, show m_r (o_best m b) = b.2.2 from a5, ce 0 (by decide)]
  have el : g_le (o_bestM m t) = f_le (m_kd m) b.1 b.2.1 := by
    unfold g_le; rw [b2, b3, b4]; exact f_le_cg hk hb ht ee
  refine ⟨?_, (lock_x (le := 0) hp hs hsp hh).2.2.1⟩
  show re_s (g_lk (o_best m b) (f_le (m_kd m) b.1 b.2.1) many rr) (r_lk (o_bestM m t) (g_le (o_bestM m t)) many rr)
  rw [el]
  exact lk_x hp hs hsp hh
theorem n_min {f : Nat → Nat} : ∀ n, 0 < n → ∃ p, p < n ∧ ∀ q, q < n → f p ≤ f q
  | 0, h => absurd h (by decide)
  | n + 1, _ => by
    by_cases z : n = 0
    · subst z; exact ⟨0, by decide, fun q hq => by rw [show q = 0 by omega]; exact Nat.le_refl _⟩
    · obtain ⟨p, hp, h⟩ := n_min (f := f) n (by omega)
      by_cases q : f p ≤ f n
      · exact ⟨p, by omega, fun a ha => by
          by_cases w : a = n
          · subst w; exact q
          · exact h a (by omega)⟩
      · exact ⟨n, by omega, fun a ha => by
          by_cases w : a = n
          · subst w; exact Nat.le_refl _
          · have := h a (by omega); omega⟩
theorem y_cn_0 {P : List s_P} {p : Nat} : ∀ n, (∀ q, q < n → x_key m (P.getD p (0, 0, 0)) ≤ x_key m (P.getD q (0, 0, 0))) → y_cn m P p n = 0
  | 0, _ => rfl
  | n + 1, h => by
    unfold y_cn
    rw [y_cn_0 n (fun q hq => h q (by omega)), if_neg (by have := h n (by omega); omega)]
theorem y_first {P : List s_P} (hd : d_ok m) (hr : y_res m P) : ∃ p, p < P.length ∧ y_cn m P p P.length = 0 := by
  have h0 : x_in m (x_0 m) := ⟨hd.1.2.2.1, hd.2⟩
  obtain ⟨y, y1, y2⟩ := x_rest hd.1.2.1 _ _ x_R0 h0 (Nat.le_refl _)
  obtain ⟨x, hx, -⟩ := (hr.1 (x_key m y)).mpr ⟨y, y1, y2, rfl⟩
  obtain ⟨p, hp, hm⟩ := n_min (f := fun p => x_key m (P.getD p (0, 0, 0))) P.length (List.length_pos_of_mem hx)
  exact ⟨p, hp, y_cn_0 _ hm⟩
theorem bestM_ok {x : s_P} (hd : d_ok m) (h : x_in m x) : d_ok (o_bestM m x) := by
  obtain ⟨⟨⟨p1, p2, p3, p4⟩, hk, hs, hc, hr⟩, hf⟩ := id hd
  obtain ⟨b1, b2, b3, b4, b5⟩ := bestM_m hk h
  have bb := x_in_b hk h
  have h4 := h.1
  refine ⟨⟨⟨?_, ?_, ?_, ?_⟩, ?_⟩, ?_⟩
  · rw [b1 222 (by decide) (by decide) (by decide) (by decide), b2]; exact p1
  · rw [b3]; unfold o_bestM x_row; rw [m_u_ne (by decide), m_u_ne (by decide), m_u_ne (by decide), m_u_eq]
  · rw [b4]; unfold o_bestM x_row; rw [m_u_ne (by decide), m_u_ne (by decide), m_u_eq]
  · rw [b5]; unfold o_bestM x_row; rw [m_u_ne (by decide), m_u_eq]
  · rw [b2, b3, b4, b5]; exact ⟨hk, h4, by omega, by omega⟩
  · rw [s_fm_eq (m := m) (fun i hi => b1 i (by omega) (by omega) (by omega) (by omega)), b2, b3, b4, b5]; exact h.2
theorem d_z_cg {a b : Nat → Int32} (h : d_z a) (h1 : b 267 = a 267) (h2 : b 220 = a 220) : d_z b := by
  have e : m_z b = m_z a := by unfold m_z; rw [h1, h2]
  unfold d_z
  rw [e, h1, h2]; exact h
theorem c_bestP (hM : p_Mo T D) (hC : r_S I D (m, many, rr) has ms s0 s1 dly lim n cs fl) (ho : r_ok m) (h0v : ¬ m 221 = 0 → ∀ I', r_S I' D (m, many, rr) has ms s0 s1 dly lim n cs fl → r_N I I' D 1 → K (some (.int 0)) T I' L)
    (h : m 221 = 0 → ∀ I' P p, y_res m P → p < P.length → y_cn m P p P.length = 0 → r_S I' D (r_best (P.getD p (0, 0, 0)) (m, many, rr)) has ms s0 s1 dly lim n cs fl → r_N I I' D 0 → K (some (.int (zI (m_n (o_fill (o_bestM m (P.getD p (0, 0, 0)))))))) T I' L) : mz_Ctr G M_X12_placeBest [.ref (D 0)] T I L K := by
  refine mz_apartC fun hU => ?_
  obtain ⟨h0, ⟨r1, r2, r3, r5, r6, r8, r9, r10, r11, r12, r13, r14, r16, r17, r19, r20, r22, r23⟩, ⟨t1, t2, t3, t5, t6, t8, t9, t10, t11, t12, t13, t14, t16, t17, t19, t20, t22, t23⟩, ⟨u1, u2⟩⟩ := id hM
  obtain ⟨⟨hMc, hSp⟩, ⟨e1, e2, e3, e4⟩, e5, ⟨e6, e7⟩, e8⟩ := id hC
  have e1 : I (D 1) = m := e1
  have e2 : I (D 0) 4 = zI many := e2
  have e3 : many ≤ 6 := e3
  have n201 : D 20 ≠ D 1 := mz_ne hU t20 t1 (by decide)
  refine mz_ofl mk_X12_placeBest rfl (Nat.le_of_ble_eq_true rfl) (Nat.le_of_ble_eq_true rfl) [some (.ref (D 0)), none] rfl ?_
  refine mz_vc ok_X12_placeBest [] [(), (), (), (), (), (), (), (), (), (), (), (), (), (), (), (), (), (), (), (), (), (), (), (), (), (), (), (), (), ()] ?_
  simp only [cd_X12_placeBest, h0, r1, r20, ix_221 t1, n_221, r_rn0, r_rnc, r_vk0, r_vkc, r_vks, r_kci, r_kcv, r_ild, r_ald, r_lld, r_dld, r_Li, r_La, r_Ll, r_Ld, r_Ki, r_Ka, r_Kl, r_Kd, r_Kn, r_ist, r_ast, r_lst, r_dst, r_iinc, r_int, r_lng, r_dbl, r_i2, r_i1, r_l2, r_lsh, r_i2z, r_l2z, r_i2l, r_l2i, r_i2d, r_lcmp, r_ddiv, r_dcmpl, r_dup, r_dup2, r_pop, r_one_int, r_one_ref, r_go, r_if, r_ic, r_tsw, r_lsw, r_sw0, r_swc, r_lk0, r_lkc, r_kp, r_gI, r_gL, r_gR, r_pI, r_pZ, r_pL, r_pR, r_gs, r_ia, r_ca, r_za, r_la, r_da, r_aa, r_ias, r_cas, r_zas, r_las, r_das, r_aas, r_acp, r_new, r_nwa, r_nwq, r_ret, r_irt, r_zrt, r_lrt, r_drt, r_art, r_thr, r_cV0, r_cV1, r_cV2, r_cV3, r_cV4, r_cV5, r_cI0, r_cS0, r_cS1, r_cS2, r_cS3, r_cX0, r_cX1, r_cX2, r_cX3, r_rc, r_oi, r_refx, r_i10, r_i01, r_rfs, r_mem0, r_memc, r_beq, r_kl0, r_klz, r_kl1i, r_kl1r, r_kl1n, r_kl1l, r_kl1d, List.length_cons, List.length_nil, List.getElem?_cons_zero, List.getElem?_cons_succ, List.set_cons_zero, List.set_cons_succ, true_and, and_true, not_true, not_false_eq_true, false_implies, true_implies, or_true, true_or, or_false, false_or, Bool.or_false, Bool.false_or, decide_false, decide_true, Nat.reduceLT, Nat.reduceLeDiff, Nat.reduceAdd, Nat.reduceSub, ↓reduceIte, Nat.reduceEqDiff, Nat.lt_add_one]
  rw [e1]
  rcases ho.1 with hl | hl
  · rw [hl]
    refine ⟨fun _ => ?_, fun v => absurd (by decide) v⟩
    obtain ⟨dok, ⟨us, hus, eus⟩, -⟩ := ho.2.2.2.2.2.2.1 hl
    refine c_tellPM hM hMc e1 dok (fun I' P f em e0 hP hr => ?_)
    obtain ⟨v1, v2⟩ := tell_S hU hM hC f em e0
    have h9 := fun I2 p => h hl I2 P p hr
    simp only [cd_X12_placeBest, h0, r1, r20, r_rn0, r_rnc, r_vk0, r_vkc, r_vks, r_kci, r_kcv, r_ild, r_ald, r_lld, r_dld, r_Li, r_La, r_Ll, r_Ld, r_Ki, r_Ka, r_Kl, r_Kd, r_Kn, r_ist, r_ast, r_lst, r_dst, r_iinc, r_int, r_lng, r_dbl, r_i2, r_i1, r_l2, r_lsh, r_i2z, r_l2z, r_i2l, r_l2i, r_i2d, r_lcmp, r_ddiv, r_dcmpl, r_dup, r_dup2, r_pop, r_one_int, r_one_ref, r_go, r_if, r_ic, r_tsw, r_lsw, r_sw0, r_swc, r_lk0, r_lkc, r_kp, r_gI, r_gL, r_gR, r_pI, r_pZ, r_pL, r_pR, r_gs, r_ia, r_ca, r_za, r_la, r_da, r_aa, r_ias, r_cas, r_zas, r_las, r_das, r_aas, r_acp, r_new, r_nwa, r_nwq, r_ret, r_irt, r_zrt, r_lrt, r_drt, r_art, r_thr, r_cV0, r_cV1, r_cV2, r_cV3, r_cV4, r_cV5, r_cI0, r_cS0, r_cS1, r_cS2, r_cS3, r_cX0, r_cX1, r_cX2, r_cX3, r_rc, r_oi, r_refx, r_i10, r_i01, r_rfs, r_mem0, r_memc, r_beq, r_kl0, r_klz, r_kl1i, r_kl1r, r_kl1n, r_kl1l, r_kl1d, List.length_cons, List.length_nil, List.getElem?_cons_zero, List.getElem?_cons_succ, List.set_cons_zero, List.set_cons_succ, true_and, and_true, not_true, not_false_eq_true, false_implies, true_implies, or_true, true_or, or_false, false_or, Bool.or_false, Bool.false_or, decide_false, decide_true, Nat.reduceLT, Nat.reduceLeDiff, Nat.reduceAdd, Nat.reduceSub, ↓reduceIte, Nat.reduceEqDiff, Nat.lt_add_one]
    refine c_rankedM hM dok.1.2.1 ho.2.2.1 hP (fun p hp e => ?_) (fun e => ?_)
    · have hp440 := hP.2.1
      have hcn : y_cn m P p P.length = 0 := by
        have := y_cn_le (m := m) (P := P) (p := p) P.length
        rw [show (0 : Int32) = zI (0 : Nat) from rfl, z_eq (by omega) (by omega)] at e
        omega
      obtain ⟨w1, w2, w3⟩ := hP.2.2.2.2 p hp
      have hin := hP.2.2.1 (P.getD p (0, 0, 0)) (x_get hp)
      simp only [cd_X12_placeBest, h0, r1, r20, ix_223 t1, n_223, ix_224 t1, n_224, ix_225 t1, n_225, ix_231 t1, n_231, r_rn0, r_rnc, r_vk0, r_vkc, r_vks, r_kci, r_kcv, r_ild, r_ald, r_lld, r_dld, r_Li, r_La, r_Ll, r_Ld, r_Ki, r_Ka, r_Kl, r_Kd, r_Kn, r_ist, r_ast, r_lst, r_dst, r_iinc, r_int, r_lng, r_dbl, r_i2, r_i1, r_l2, r_lsh, r_i2z, r_l2z, r_i2l, r_l2i, r_i2d, r_lcmp, r_ddiv, r_dcmpl, r_dup, r_dup2, r_pop, r_one_int, r_one_ref, r_go, r_if, r_ic, r_tsw, r_lsw, r_sw0, r_swc, r_lk0, r_lkc, r_kp, r_gI, r_gL, r_gR, r_pI, r_pZ, r_pL, r_pR, r_gs, r_ia, r_ca, r_za, r_la, r_da, r_aa, r_ias, r_cas, r_zas, r_las, r_das, r_aas, r_acp, r_new, r_nwa, r_nwq, r_ret, r_irt, r_zrt, r_lrt, r_drt, r_art, r_thr, r_cV0, r_cV1, r_cV2, r_cV3, r_cV4, r_cV5, r_cI0, r_cS0, r_cS1, r_cS2, r_cS3, r_cX0, r_cX1, r_cX2, r_cX3, r_rc, r_oi, r_refx, r_i10, r_i01, r_rfs, r_mem0, r_memc, r_beq, r_kl0, r_klz, r_kl1i, r_kl1r, r_kl1n, r_kl1l, r_kl1d, List.length_cons, List.length_nil, List.getElem?_cons_zero, List.getElem?_cons_succ, List.set_cons_zero, List.set_cons_succ, true_and, and_true, not_true, not_false_eq_true, false_implies, true_implies, or_true, true_or, or_false, false_or, Bool.or_false, Bool.false_or, decide_false, decide_true, Nat.reduceLT, Nat.reduceLeDiff, Nat.reduceAdd, Nat.reduceSub, ↓reduceIte, Nat.reduceEqDiff, Nat.lt_add_one]
      rw [show (3 : Int32) = zI 3 from rfl, show (1 : Int32) = zI 1 from rfl, show (2 : Int32) = zI 2 from rfl, z_mul, z_add, z_add, mz_u_ne n201, mz_u_ne n201, mz_u_ne n201, show (3 : Int) * (p : Int) = ((3 * p : Nat) : Int) by omega, show ((3 * p : Nat) : Int) + 1 = ((3 * p + 1 : Nat) : Int) by omega, show ((3 * p : Nat) : Int) + 2 = ((3 * p + 2 : Nat) : Int) by omega, z_nat (by omega), z_nat (by omega), z_nat (by omega), Int.toNat_natCast, Int.toNat_natCast, Int.toNat_natCast, w1, w2, w3]
      refine ⟨⟨3000, t20, z_in (by omega) (by omega) (by decide)⟩, ⟨3000, t20, z_in (by omega) (by omega) (by decide)⟩, ⟨3000, t20, z_in (by omega) (by omega) (by decide)⟩, ?_⟩
      rw [show (-zI 1 : Int32) = -1 from rfl]
      generalize ht : P.getD p (0, 0, 0) = t at hin w1 w2 w3 ⊢
      have eg : mz_u (mz_u (mz_u (mz_u I' (D 1) 223 (zI t.1)) (D 1) 224 (zI t.2.1)) (D 1) 225 (zI t.2.2)) (D 1) 231 (-1) (D 1) = o_bestM m t := by
        rw [mz_u_row, mz_u_row, mz_u_row, mz_u_row, em]; rfl
      obtain ⟨x1, x2⟩ := r_S_1 (m := m) hU hM v1 (fr_u2 (fr_u2 (fr_u2 (fr_u2 fr_refl (by simp)) (by simp)) (by simp)) (by simp)) eg
      obtain ⟨b1, b2, b3, b4, b5⟩ := bestM_m dok.1.2.1 hin
      have es : s_fm (o_bestM m t) = s_fm m := s_fm_eq (fun i hi => b1 i (by omega) (by omega) (by omega) (by omega))
      generalize hI2 : mz_u (mz_u (mz_u (mz_u I' (D 1) 223 (zI t.1)) (D 1) 224 (zI t.2.1)) (D 1) 225 (zI t.2.2)) (D 1) 231 (-1) = I2 at eg x1 x2 ⊢
      have dz := d_z_cg (b := o_bestM m t) ho.2.1 (b1 267 (by decide) (by decide) (by decide) (by decide)) (b1 220 (by decide) (by decide) (by decide) (by decide))
      refine c_locksM hM x1.1.1 (by rw [eg]; exact bestM_ok dok hin) (by rw [eg]; exact dz) (by rw [eg, es]; exact ho.2.2.1) x1.2.1.2.1 x1.2.1.2.2.1 x1.1.2 (by rw [eg, b1 229 (by decide) (by decide) (by decide) (by decide)]; exact ⟨us, hus, eus⟩) (fun I3 le hle hG => ?_)
      subst hle
      rw [eg] at hG
      obtain ⟨y1, y2⟩ := r_S_G2 hU hM x1 (G2_rr hG (rr_cg x1.2.1.2.2.2)) (mn_le x1.2.1.2.2.1)
      simp only [cd_X12_placeBest, h0, r1, r20, r_rn0, r_rnc, r_vk0, r_vkc, r_vks, r_kci, r_kcv, r_ild, r_ald, r_lld, r_dld, r_Li, r_La, r_Ll, r_Ld, r_Ki, r_Ka, r_Kl, r_Kd, r_Kn, r_ist, r_ast, r_lst, r_dst, r_iinc, r_int, r_lng, r_dbl, r_i2, r_i1, r_l2, r_lsh, r_i2z, r_l2z, r_i2l, r_l2i, r_i2d, r_lcmp, r_ddiv, r_dcmpl, r_dup, r_dup2, r_pop, r_one_int, r_one_ref, r_go, r_if, r_ic, r_tsw, r_lsw, r_sw0, r_swc, r_lk0, r_lkc, r_kp, r_gI, r_gL, r_gR, r_pI, r_pZ, r_pL, r_pR, r_gs, r_ia, r_ca, r_za, r_la, r_da, r_aa, r_ias, r_cas, r_zas, r_las, r_das, r_aas, r_acp, r_new, r_nwa, r_nwq, r_ret, r_irt, r_zrt, r_lrt, r_drt, r_art, r_thr, r_cV0, r_cV1, r_cV2, r_cV3, r_cV4, r_cV5, r_cI0, r_cS0, r_cS1, r_cS2, r_cS3, r_cX0, r_cX1, r_cX2, r_cX3, r_rc, r_oi, r_refx, r_i10, r_i01, r_rfs, r_mem0, r_memc, r_beq, r_kl0, r_klz, r_kl1i, r_kl1r, r_kl1n, r_kl1l, r_kl1d, List.length_cons, List.length_nil, List.getElem?_cons_zero, List.getElem?_cons_succ, List.set_cons_zero, List.set_cons_succ, true_and, and_true, not_true, not_false_eq_true, false_implies, true_implies, or_true, true_or, or_false, false_or, Bool.or_false, Bool.false_or, decide_false, decide_true, Nat.reduceLT, Nat.reduceLeDiff, Nat.reduceAdd, Nat.reduceSub, ↓reduceIte, Nat.reduceEqDiff, Nat.lt_add_one]
      refine c_doneM h0 ?_
      simp only [cd_X12_placeBest, h0, r1, r20, r_rn0, r_rnc, r_vk0, r_vkc, r_vks, r_kci, r_kcv, r_ild, r_ald, r_lld, r_dld, r_Li, r_La, r_Ll, r_Ld, r_Ki, r_Ka, r_Kl, r_Kd, r_Kn, r_ist, r_ast, r_lst, r_dst, r_iinc, r_int, r_lng, r_dbl, r_i2, r_i1, r_l2, r_lsh, r_i2z, r_l2z, r_i2l, r_l2i, r_i2d, r_lcmp, r_ddiv, r_dcmpl, r_dup, r_dup2, r_pop, r_one_int, r_one_ref, r_go, r_if, r_ic, r_tsw, r_lsw, r_sw0, r_swc, r_lk0, r_lkc, r_kp, r_gI, r_gL, r_gR, r_pI, r_pZ, r_pL, r_pR, r_gs, r_ia, r_ca, r_za, r_la, r_da, r_aa, r_ias, r_cas, r_zas, r_las, r_das, r_aas, r_acp, r_new, r_nwa, r_nwq, r_ret, r_irt, r_zrt, r_lrt, r_drt, r_art, r_thr, r_cV0, r_cV1, r_cV2, r_cV3, r_cV4, r_cV5, r_cI0, r_cS0, r_cS1, r_cS2, r_cS3, r_cX0, r_cX1, r_cX2, r_cX3, r_rc, r_oi, r_refx, r_i10, r_i01, r_rfs, r_mem0, r_memc, r_beq, r_kl0, r_klz, r_kl1i, r_kl1r, r_kl1n, r_kl1l, r_kl1d, List.length_cons, List.length_nil, List.getElem?_cons_zero, List.getElem?_cons_succ, List.set_cons_zero, List.set_cons_succ, true_and, and_true, not_true, not_false_eq_true, false_implies, true_implies, or_true, true_or, or_false, false_or, Bool.or_false, Bool.false_or, decide_false, decide_true, Nat.reduceLT, Nat.reduceLeDiff, Nat.reduceAdd, Nat.reduceSub, ↓reduceIte, Nat.reduceEqDiff, Nat.lt_add_one]
      obtain ⟨z1, z2⟩ := r_S_0 (x := 0) hU hM y1 (fr_tr (fr_tr v2 x2 (fun _ q => q) (fun _ q => q)) y2 (fun _ q => q) (fun _ q => q))
      rw [eg]
      have h10 := h9 _ p hp hcn (by rw [ht]; exact z1) z2
      rw [ht] at h10; exact h10
    · obtain ⟨p, hp, q⟩ := y_first dok hr
      exact absurd (by rw [q]; rfl) (e p hp)
  · rw [hl]
    refine ⟨fun v => absurd rfl v, fun _ => ?_⟩
    refine c_failsM h0 ?_
    simp only [cd_X12_placeBest, h0, r1, r20, r_rn0, r_rnc, r_vk0, r_vkc, r_vks, r_kci, r_kcv, r_ild, r_ald, r_lld, r_dld, r_Li, r_La, r_Ll, r_Ld, r_Ki, r_Ka, r_Kl, r_Kd, r_Kn, r_ist, r_ast, r_lst, r_dst, r_iinc, r_int, r_lng, r_dbl, r_i2, r_i1, r_l2, r_lsh, r_i2z, r_l2z, r_i2l, r_l2i, r_i2d, r_lcmp, r_ddiv, r_dcmpl, r_dup, r_dup2, r_pop, r_one_int, r_one_ref, r_go, r_if, r_ic, r_tsw, r_lsw, r_sw0, r_swc, r_lk0, r_lkc, r_kp, r_gI, r_gL, r_gR, r_pI, r_pZ, r_pL, r_pR, r_gs, r_ia, r_ca, r_za, r_la, r_da, r_aa, r_ias, r_cas, r_zas, r_las, r_das, r_aas, r_acp, r_new, r_nwa, r_nwq, r_ret, r_irt, r_zrt, r_lrt, r_drt, r_art, r_thr, r_cV0, r_cV1, r_cV2, r_cV3, r_cV4, r_cV5, r_cI0, r_cS0, r_cS1, r_cS2, r_cS3, r_cX0, r_cX1, r_cX2, r_cX3, r_rc, r_oi, r_refx, r_i10, r_i01, r_rfs, r_mem0, r_memc, r_beq, r_kl0, r_klz, r_kl1i, r_kl1r, r_kl1n, r_kl1l, r_kl1d, List.length_cons, List.length_nil, List.getElem?_cons_zero, List.getElem?_cons_succ, List.set_cons_zero, List.set_cons_succ, true_and, and_true, not_true, not_false_eq_true, false_implies, true_implies, or_true, true_or, or_false, false_or, Bool.or_false, Bool.false_or, decide_false, decide_true, Nat.reduceLT, Nat.reduceLeDiff, Nat.reduceAdd, Nat.reduceSub, ↓reduceIte, Nat.reduceEqDiff, Nat.lt_add_one]
    obtain ⟨w1, w2⟩ := r_S_0 (x := 1) hU hM hC fr_refl
    exact h0v (by rw [hl]; decide) _ w1 w2
end REFF
