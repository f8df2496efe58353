/-! the reference's search: a placement is noted -/
section TELL
variable {G : mz_G} {K : mz_K} {T : mz_T} {I : mz_I} {L : mz_L}
/-- the row with a piece filled in -/
def y_fl (m : Nat → Int32) (x : s_P) (k : Nat) : Nat → Int32 := fun j => if (List.range k).any (fun i => decide (x_ce m x i = j)) then m 222 + 1 else m j
theorem y_fl4 {m : Nat → Int32} {x : s_P} (hk : m_kd m < 7) (hx : x_in m x) : (∀ j, j < 220 → y_fl m x 4 j = o_fill (x_row m x) j) ∧ (∀ j, 220 ≤ j → y_fl m x 4 j = m j) := by
  obtain ⟨k1, k2, k3, k4, k5⟩ := x_row_m hk hx
  have key : ∀ j : Nat, ((List.range 4).any (fun i => decide (x_ce m x i = j)) = true) ↔ s_has (m_kd m) x.1 x.2.1 x.2.2 j = true := by
    intro j
    rw [List.any_eq_true, s_has_t]
    constructor
    · rintro ⟨i, hi, e⟩
      have hi := List.mem_range.mp hi
      have e := of_decide_eq_true e
      have := (x_cell hk hx hi).1
      exact ⟨i, hi, by omega⟩
    · rintro ⟨i, hi, e⟩
      have := (x_cell hk hx hi).1
      exact ⟨i, List.mem_range.mpr hi, decide_eq_true (by omega)⟩
  constructor
  · intro j hj
    unfold y_fl o_fill
    rw [k1, k2, k3, k4, x_row_o (by omega), x_row_o (by omega)]
    by_cases q : s_has (m_kd m) x.1 x.2.1 x.2.2 j = true
    · rw [if_pos ((key j).mpr q), if_pos ⟨hj, q⟩]
    · rw [if_neg (fun e => q ((key j).mp e)), if_neg (fun e => q e.2)]
  · intro j hj
    unfold y_fl
    rw [if_neg]
    intro e
    rw [List.any_eq_true] at e
    obtain ⟨i, hi, e⟩ := e
    have := (x_cell hk hx (List.mem_range.mp hi)).2
    have e := of_decide_eq_true e
    omega
theorem y_fig {m : Nat → Int32} {x : s_P} (hk : m_kd m < 7) (hx : x_in m x) : m_n (y_fl m x 4) = x_n m x ∧ s_fm (o_clear (y_fl m x 4)) = s_fm (x_af m x) := by
  have h1 := (y_fl4 hk hx).1
  have ef : s_fm (y_fl m x 4) = s_fm (o_fill (x_row m x)) := s_fm_eq h1
  refine ⟨by unfold m_n x_n; rw [ef]; rfl, s_fm_eq (fun i hi => ?_)⟩
  unfold x_af o_clear
  rw [if_pos hi, if_pos hi, ef]
  by_cases q : s_sr (s_fm (o_fill (x_row m x))) (i / 10) 22 < 22
  · rw [if_pos q, if_pos q, h1 _ (by omega)]
  · rw [if_neg q, if_neg q]
theorem c_comesM {D : Nat → Nat} {m : Nat → Int32} {P : List s_P} {x : s_P} (hM : p_Mo T D) (hC : p_Mc I D) (hm : I (D 1) = m) (hp : d_pos m) (hx : x_in m x) (hP : y_P m I D P) (hPn : P.length < 440 ∨ P.any (y_sm m x) = true)
    (h : ∀ I', fr I I' [D 0, D 1, D 13, D 19, D 20, D 22] → I' (D 1) = m → (∀ i, i ≠ 21 → I' (D 0) i = I (D 0) i) → y_P m I' D (if P.any (y_sm m x) then P else P ++ [x]) → K none T I' L) : mz_Ctr G M_X12_comes [.ref (D 0), .int (zI x.1), .int (zI x.2.1), .int (zI x.2.2)] T I L K := by
  refine mz_apartC fun hU => ?_
  obtain ⟨h0, ⟨r1, r2, r3, r5, r6, r8, r9, r10, r11, r12, r13, r14, r16, r17, r19, r20, r22, -⟩, ⟨t1, t2, t3, t5, t6, t8, t9, t10, t11, t12, t13, t14, t16, t17, t19, t20, t22, -⟩, -⟩ := id hM
  obtain ⟨⟨q1, q2, q3, q4⟩, hk, -, -, -⟩ := id hp
  have hb := x_in_b hk hx
  have ne : ∀ {a b : Nat} {x y : Nat × Nat}, (a, x) ∈ T.1 → (b, y) ∈ T.1 → x ≠ y → a ≠ b := fun a b c => mz_ne hU a b c
  have n0_1 := ne h0 t1 (by decide)
  have n0_13 := ne h0 t13 (by decide)
  have n0_19 := ne h0 t19 (by decide)
  have n0_20 := ne h0 t20 (by decide)
  have n0_22 := ne h0 t22 (by decide)
  have n1_13 := ne t1 t13 (by decide)
  have n1_19 := ne t1 t19 (by decide)
  have n1_20 := ne t1 t20 (by decide)
  have n1_22 := ne t1 t22 (by decide)
  have n13_19 := ne t13 t19 (by decide)
  have n13_20 := ne t13 t20 (by decide)
  have n13_22 := ne t13 t22 (by decide)
  have n19_20 := ne t19 t20 (by decide)
  have n19_22 := ne t19 t22 (by decide)
  have n20_22 := ne t20 t22 (by decide)
  have hcx := fun j hj => (x_cell (j := j) hk hx hj).2
  obtain ⟨fl1, fl2⟩ := y_fl4 hk hx
  obtain ⟨fg1, fg2⟩ := y_fig hk hx
  have hC0 : ∀ J : mz_I, fr I J [D 0, D 1, D 13, D 19, D 20, D 22] → p_Mc J D := fun J fJ => p_Mc_fr hC fJ (Mc_ne hU hM (fun a ha => by
    simp only [List.mem_cons, List.not_mem_nil, or_false] at ha
    rcases ha with e | e | e | e | e | e <;> rw [e]
    · exact ⟨_, h0, by decide, by decide, by decide, by decide, by decide⟩
    · exact ⟨_, t1, by decide, by decide, by decide, by decide, by decide⟩
    · exact ⟨_, t13, by decide, by decide, by decide, by decide, by decide⟩
    · exact ⟨_, t19, by decide, by decide, by decide, by decide, by decide⟩
    · exact ⟨_, t20, by decide, by decide, by decide, by decide, by decide⟩
    · exact ⟨_, t22, by decide, by decide, by decide, by decide, by decide⟩))
  obtain ⟨p1, p2, p3, p4, p5⟩ := id hP
  have hget : ∀ p, p < P.length → (P ++ [x]).getD p (0, 0, 0) = P.getD p (0, 0, 0) := fun p hp9 => by
    rw [List.getD_eq_getElem?_getD, List.getD_eq_getElem?_getD, List.getElem?_append_left hp9]
  have hgetn : (P ++ [x]).getD P.length (0, 0, 0) = x := by
    rw [List.getD_eq_getElem?_getD, List.getElem?_append_right (Nat.le_refl _), Nat.sub_self]; rfl
  cases hany : P.any (y_sm m x) with
  | true =>
    rw [hany, if_pos rfl] at h
    refine mz_ofl mk_X12_comes rfl (Nat.le_of_ble_eq_true rfl) (Nat.le_of_ble_eq_true rfl) [some (.ref (D 0)), some (.int (zI x.1)), some (.int (zI x.2.1)), some (.int (zI x.2.2)), none, none] rfl ?_
    refine mz_vc ok_X12_comes [18, 49, 145, 229] [(), (), (), (), (), (), (), (), (), (), (), (), (), (), (), (), (), (), (), (), (), (), (), (), (), (), (), (), (), ()] ?_
    simp only [cd_X12_comes, h0, r1, r13, r19, r20, r22, ix_222 t1, n_222, r_rn0, r_rnc, r_vk0, r_vkc, r_vks, r_kci, r_kcv, r_ild, r_ald, r_lld, r_dld, r_Li, r_La, r_Ll, r_Ld, r_Ki, r_Ka, r_Kl, r_Kd, r_Kn, r_ist, r_ast, r_lst, r_dst, r_iinc, r_int, r_lng, r_dbl, r_i2, r_i1, r_l2, r_lsh, r_i2z, r_l2z, r_i2l, r_l2i, r_i2d, r_lcmp, r_ddiv, r_dcmpl, r_dup, r_dup2, r_pop, r_one_int, r_one_ref, r_go, r_if, r_ic, r_tsw, r_lsw, r_sw0, r_swc, r_lk0, r_lkc, r_kp, r_gI, r_gL, r_gR, r_pI, r_pZ, r_pL, r_pR, r_gs, r_ia, r_ca, r_za, r_la, r_da, r_aa, r_ias, r_cas, r_zas, r_las, r_das, r_aas, r_acp, r_new, r_nwa, r_nwq, r_ret, r_irt, r_zrt, r_lrt, r_drt, r_art, r_thr, r_cV0, r_cV1, r_cV2, r_cV3, r_cV4, r_cV5, r_cI0, r_cS0, r_cS1, r_cS2, r_cS3, r_cX0, r_cX1, r_cX2, r_cX3, r_rc, r_oi, r_refx, r_i10, r_i01, r_rfs, r_mem0, r_memc, r_beq, r_kl0, r_klz, r_kl1i, r_kl1r, r_kl1n, r_kl1l, r_kl1d, List.length_cons, List.length_nil, List.getElem?_cons_zero, List.getElem?_cons_succ, List.set_cons_zero, List.set_cons_succ, true_and, and_true, not_true, not_false_eq_true, false_implies, true_implies, or_true, true_or, or_false, false_or, Bool.or_false, Bool.false_or, decide_false, decide_true, Nat.reduceLT, Nat.reduceLeDiff, Nat.reduceAdd, Nat.reduceSub, ↓reduceIte, Nat.reduceEqDiff, Nat.lt_add_one]
    refine c_sortsM hM hC hm hp hx (fun I1 f1 s1 => ?_)
    simp only [cd_X12_comes, h0, r1, r13, r19, r20, r22, ix_222 t1, n_222, r_rn0, r_rnc, r_vk0, r_vkc, r_vks, r_kci, r_kcv, r_ild, r_ald, r_lld, r_dld, r_Li, r_La, r_Ll, r_Ld, r_Ki, r_Ka, r_Kl, r_Kd, r_Kn, r_ist, r_ast, r_lst, r_dst, r_iinc, r_int, r_lng, r_dbl, r_i2, r_i1, r_l2, r_lsh, r_i2z, r_l2z, r_i2l, r_l2i, r_i2d, r_lcmp, r_ddiv, r_dcmpl, r_dup, r_dup2, r_pop, r_one_int, r_one_ref, r_go, r_if, r_ic, r_tsw, r_lsw, r_sw0, r_swc, r_lk0, r_lkc, r_kp, r_gI, r_gL, r_gR, r_pI, r_pZ, r_pL, r_pR, r_gs, r_ia, r_ca, r_za, r_la, r_da, r_aa, r_ias, r_cas, r_zas, r_las, r_das, r_aas, r_acp, r_new, r_nwa, r_nwq, r_ret, r_irt, r_zrt, r_lrt, r_drt, r_art, r_thr, r_cV0, r_cV1, r_cV2, r_cV3, r_cV4, r_cV5, r_cI0, r_cS0, r_cS1, r_cS2, r_cS3, r_cX0, r_cX1, r_cX2, r_cX3, r_rc, r_oi, r_refx, r_i10, r_i01, r_rfs, r_mem0, r_memc, r_beq, r_kl0, r_klz, r_kl1i, r_kl1r, r_kl1n, r_kl1l, r_kl1d, List.length_cons, List.length_nil, List.getElem?_cons_zero, List.getElem?_cons_succ, List.set_cons_zero, List.set_cons_succ, true_and, and_true, not_true, not_false_eq_true, false_implies, true_implies, or_true, true_or, or_false, false_or, Bool.or_false, Bool.false_or, decide_false, decide_true, Nat.reduceLT, Nat.reduceLeDiff, Nat.reduceAdd, Nat.reduceSub, ↓reduceIte, Nat.reduceEqDiff, Nat.lt_add_one]
    have hP1 : y_P m I1 D P := by
      refine ⟨by rw [fr_ne1 f1 n0_22]; exact p1, p2, p3, fun p w a b => by rw [fr_ne1 f1 n19_22]; exact p4 p w a b, fun p a => by rw [fr_ne1 f1 n20_22]; exact p5 p a⟩
    refine c_placedM hM hk hx hP1 s1 ?_
    rw [hany]
    simp only [cd_X12_comes, h0, r1, r13, r19, r20, r22, ix_222 t1, n_222, b2i_t, r_rn0, r_rnc, r_vk0, r_vkc, r_vks, r_kci, r_kcv, r_ild, r_ald, r_lld, r_dld, r_Li, r_La, r_Ll, r_Ld, r_Ki, r_Ka, r_Kl, r_Kd, r_Kn, r_ist, r_ast, r_lst, r_dst, r_iinc, r_int, r_lng, r_dbl, r_i2, r_i1, r_l2, r_lsh, r_i2z, r_l2z, r_i2l, r_l2i, r_i2d, r_lcmp, r_ddiv, r_dcmpl, r_dup, r_dup2, r_pop, r_one_int, r_one_ref, r_go, r_if, r_ic, r_tsw, r_lsw, r_sw0, r_swc, r_lk0, r_lkc, r_kp, r_gI, r_gL, r_gR, r_pI, r_pZ, r_pL, r_pR, r_gs, r_ia, r_ca, r_za, r_la, r_da, r_aa, r_ias, r_cas, r_zas, r_las, r_das, r_aas, r_acp, r_new, r_nwa, r_nwq, r_ret, r_irt, r_zrt, r_lrt, r_drt, r_art, r_thr, r_cV0, r_cV1, r_cV2, r_cV3, r_cV4, r_cV5, r_cI0, r_cS0, r_cS1, r_cS2, r_cS3, r_cX0, r_cX1, r_cX2, r_cX3, r_rc, r_oi, r_refx, r_i10, r_i01, r_rfs, r_mem0, r_memc, r_beq, r_kl0, r_klz, r_kl1i, r_kl1r, r_kl1n, r_kl1l, r_kl1d, List.length_cons, List.length_nil, List.getElem?_cons_zero, List.getElem?_cons_succ, List.set_cons_zero, List.set_cons_succ, true_and, and_true, not_true, not_false_eq_true, false_implies, true_implies, or_true, true_or, or_false, false_or, Bool.or_false, Bool.false_or, decide_false, decide_true, Nat.reduceLT, Nat.reduceLeDiff, Nat.reduceAdd, Nat.reduceSub, ↓reduceIte, Nat.reduceEqDiff, Nat.lt_add_one]
    exact h I1 (fr_tr f1 fr_refl (by simp) (fun _ q => q)) (by rw [fr_ne1 f1 n1_22]; exact hm) (fun i _ => by rw [fr_ne1 f1 n0_22]) hP1
  | false =>
    rw [hany] at h hPn
    rw [if_neg (by decide)] at h
    have hn : P.length < 440 := hPn.resolve_right (by decide)
    generalize hnn : P.length = n at hn p1 p2 p4 p5 hget hgetn
    -- the row is put back
    have w229 : ∀ k (J : mz_I), k ≤ 220 → fr I J [D 0, D 1, D 13, D 19, D 20, D 22] → (∀ i, i ≠ 21 → J (D 0) i = I (D 0) i) → y_P m J D (P ++ [x]) → (∀ j, j < 220 → J (D 13) j = m j) → (∀ j, 220 ≤ j → J (D 1) j = m j) → (∀ j, j < 220 - k → J (D 1) j = m j) → mz_W G M_X12_comes K mz_nX 229 [some (.ref (D 0)), some (.int (zI x.1)), some (.int (zI x.2.1)), some (.int (zI x.2.2)), none, some (.int (zI (220 - k : Nat)))] [] T J L (0, 0) := by
      intro k
      induction k with
      | zero =>
        intro J _ fJ oJ PJ kJ hJ lJ
        refine mz_vc ok_X12_comes [229] [(), (), (), (), (), (), (), (), (), (), (), (), (), (), (), (), (), (), (), (), (), (), (), (), (), (), (), (), (), ()] ?_
        simp only [cd_X12_comes, h0, r1, r13, r19, r20, r22, ix_222 t1, n_222, r_rn0, r_rnc, r_vk0, r_vkc, r_vks, r_kci, r_kcv, r_ild, r_ald, r_lld, r_dld, r_Li, r_La, r_Ll, r_Ld, r_Ki, r_Ka, r_Kl, r_Kd, r_Kn, r_ist, r_ast, r_lst, r_dst, r_iinc, r_int, r_lng, r_dbl, r_i2, r_i1, r_l2, r_lsh, r_i2z, r_l2z, r_i2l, r_l2i, r_i2d, r_lcmp, r_ddiv, r_dcmpl, r_dup, r_dup2, r_pop, r_one_int, r_one_ref, r_go, r_if, r_ic, r_tsw, r_lsw, r_sw0, r_swc, r_lk0, r_lkc, r_kp, r_gI, r_gL, r_gR, r_pI, r_pZ, r_pL, r_pR, r_gs, r_ia, r_ca, r_za, r_la, r_da, r_aa, r_ias, r_cas, r_zas, r_las, r_das, r_aas, r_acp, r_new, r_nwa, r_nwq, r_ret, r_irt, r_zrt, r_lrt, r_drt, r_art, r_thr, r_cV0, r_cV1, r_cV2, r_cV3, r_cV4, r_cV5, r_cI0, r_cS0, r_cS1, r_cS2, r_cS3, r_cX0, r_cX1, r_cX2, r_cX3, r_rc, r_oi, r_refx, r_i10, r_i01, r_rfs, r_mem0, r_memc, r_beq, r_kl0, r_klz, r_kl1i, r_kl1r, r_kl1n, r_kl1l, r_kl1d, List.length_cons, List.length_nil, List.getElem?_cons_zero, List.getElem?_cons_succ, List.set_cons_zero, List.set_cons_succ, true_and, and_true, not_true, not_false_eq_true, false_implies, true_implies, or_true, true_or, or_false, false_or, Bool.or_false, Bool.false_or, decide_false, decide_true, Nat.reduceLT, Nat.reduceLeDiff, Nat.reduceAdd, Nat.reduceSub, ↓reduceIte, Nat.reduceEqDiff, Nat.lt_add_one]
        refine ⟨fun _ => ?_, fun q => absurd (by decide) q⟩
        refine h J fJ ?_ oJ PJ
        funext j
        by_cases c : j < 220
        · exact lJ j (by omega)
        · exact hJ j (by omega)
      | succ k ih =>
        intro J hk9 fJ oJ PJ kJ hJ lJ
        refine mz_vc ok_X12_comes [229] [(), (), (), (), (), (), (), (), (), (), (), (), (), (), (), (), (), (), (), (), (), (), (), (), (), (), (), (), (), ()] ?_
        simp only [cd_X12_comes, h0, r1, r13, r19, r20, r22, ix_222 t1, n_222, r_rn0, r_rnc, r_vk0, r_vkc, r_vks, r_kci, r_kcv, r_ild, r_ald, r_lld, r_dld, r_Li, r_La, r_Ll, r_Ld, r_Ki, r_Ka, r_Kl, r_Kd, r_Kn, r_ist, r_ast, r_lst, r_dst, r_iinc, r_int, r_lng, r_dbl, r_i2, r_i1, r_l2, r_lsh, r_i2z, r_l2z, r_i2l, r_l2i, r_i2d, r_lcmp, r_ddiv, r_dcmpl, r_dup, r_dup2, r_pop, r_one_int, r_one_ref, r_go, r_if, r_ic, r_tsw, r_lsw, r_sw0, r_swc, r_lk0, r_lkc, r_kp, r_gI, r_gL, r_gR, r_pI, r_pZ, r_pL, r_pR, r_gs, r_ia, r_ca, r_za, r_la, r_da, r_aa, r_ias, r_cas, r_zas, r_las, r_das, r_aas, r_acp, r_new, r_nwa, r_nwq, r_ret, r_irt, r_zrt, r_lrt, r_drt, r_art, r_thr, r_cV0, r_cV1, r_cV2, r_cV3, r_cV4, r_cV5, r_cI0, r_cS0, r_cS1, r_cS2, r_cS3, r_cX0, r_cX1, r_cX2, r_cX3, r_rc, r_oi, r_refx, r_i10, r_i01, r_rfs, r_mem0, r_memc, r_beq, r_kl0, r_klz, r_kl1i, r_kl1r, r_kl1n, r_kl1l, r_kl1d, List.length_cons, List.length_nil, List.getElem?_cons_zero, List.getElem?_cons_succ, List.set_cons_zero, List.set_cons_succ, true_and, and_true, not_true, not_false_eq_true, false_implies, true_implies, or_true, true_or, or_false, false_or, Bool.or_false, Bool.false_or, decide_false, decide_true, Nat.reduceLT, Nat.reduceLeDiff, Nat.reduceAdd, Nat.reduceSub, ↓reduceIte, Nat.reduceEqDiff, Nat.lt_add_one]
        rw [z_1 (220 - (k + 1)), show 220 - (k + 1) + 1 = 220 - k by omega, z_nat (by omega), Int.toNat_natCast]
        refine ⟨z_no (b := 220) (by omega) (by omega) (by omega), fun _ => ⟨n_ix _ t13 (by omega) (by decide), n_ix _ t1 (by omega) (by decide), ?_⟩⟩
        refine ih _ (by omega) (fr_u2 fJ (by simp)) (fun i hi => by rw [mz_u_ne n0_1]; exact oJ i hi) ?_ (fun j hj => by rw [mz_u_ne (Ne.symm n1_13)]; exact kJ j hj) (fun j hj => by rw [mz_u_nk (by omega)]; exact hJ j hj) (fun j hj => ?_)
        · obtain ⟨v1, v2, v3, v4, v5⟩ := PJ
          exact ⟨by rw [mz_u_ne n0_1]; exact v1, v2, v3, fun p w a b => by rw [mz_u_ne (Ne.symm n1_19)]; exact v4 p w a b, fun p a => by rw [mz_u_ne (Ne.symm n1_20)]; exact v5 p a⟩
        · by_cases c : j = 220 - (k + 1)
          · subst c; rw [mz_u_eq]; exact kJ _ (by omega)
          · rw [mz_u_nk c]; exact lJ j (by omega)
    -- the place is noted
    have w176 : ∀ J : mz_I, fr I J [D 0, D 1, D 13, D 19, D 20, D 22] → (∀ i, J (D 0) i = I (D 0) i) → (∀ j, j < 220 → J (D 13) j = m j) → (∀ j, 220 ≤ j → J (D 1) j = m j) → (∀ j, j < 8 * n → J (D 19) j = I (D 19) j) → (∀ w, w < 8 → J (D 19) (8 * n + w) = zI (y_pt m x w : Nat)) → J (D 20) = I (D 20) → mz_W G M_X12_comes K mz_nX 176 [some (.ref (D 0)), some (.int (zI x.1)), some (.int (zI x.2.1)), some (.int (zI x.2.2)), none, none] [] T J L (0, 0) := by
      intro J fJ oJ kJ hJ lo hi e20
      have v21 : J (D 0) 21 = zI n := by rw [oJ]; exact p1
      refine mz_vc ok_X12_comes [229] [(), (), (), (), (), (), (), (), (), (), (), (), (), (), (), (), (), (), (), (), (), (), (), (), (), (), (), (), (), ()] ?_
      simp only [cd_X12_comes, h0, r1, r13, r19, r20, r22, ix_222 t1, n_222, v21, r_rn0, r_rnc, r_vk0, r_vkc, r_vks, r_kci, r_kcv, r_ild, r_ald, r_lld, r_dld, r_Li, r_La, r_Ll, r_Ld, r_Ki, r_Ka, r_Kl, r_Kd, r_Kn, r_ist, r_ast, r_lst, r_dst, r_iinc, r_int, r_lng, r_dbl, r_i2, r_i1, r_l2, r_lsh, r_i2z, r_l2z, r_i2l, r_l2i, r_i2d, r_lcmp, r_ddiv, r_dcmpl, r_dup, r_dup2, r_pop, r_one_int, r_one_ref, r_go, r_if, r_ic, r_tsw, r_lsw, r_sw0, r_swc, r_lk0, r_lkc, r_kp, r_gI, r_gL, r_gR, r_pI, r_pZ, r_pL, r_pR, r_gs, r_ia, r_ca, r_za, r_la, r_da, r_aa, r_ias, r_cas, r_zas, r_las, r_das, r_aas, r_acp, r_new, r_nwa, r_nwq, r_ret, r_irt, r_zrt, r_lrt, r_drt, r_art, r_thr, r_cV0, r_cV1, r_cV2, r_cV3, r_cV4, r_cV5, r_cI0, r_cS0, r_cS1, r_cS2, r_cS3, r_cX0, r_cX1, r_cX2, r_cX3, r_rc, r_oi, r_refx, r_i10, r_i01, r_rfs, r_mem0, r_memc, r_beq, r_kl0, r_klz, r_kl1i, r_kl1r, r_kl1n, r_kl1l, r_kl1d, List.length_cons, List.length_nil, List.getElem?_cons_zero, List.getElem?_cons_succ, List.set_cons_zero, List.set_cons_succ, true_and, and_true, not_true, not_false_eq_true, false_implies, true_implies, or_true, true_or, or_false, false_or, Bool.or_false, Bool.false_or, decide_false, decide_true, Nat.reduceLT, Nat.reduceLeDiff, Nat.reduceAdd, Nat.reduceSub, ↓reduceIte, Nat.reduceEqDiff, Nat.lt_add_one]
      have a1 : (3 : Int32) * zI n = zI ((3 * n : Nat) : Int) := by rw [l_3, z_mul]; rfl
      have a2 : (3 : Int32) * zI n + 1 = zI ((3 * n + 1 : Nat) : Int) := by rw [a1, z_1]
      have a3 : (3 : Int32) * zI n + 2 = zI ((3 * n + 2 : Nat) : Int) := by rw [a1, l_2, z_add]; rfl
      have e21 : ∀ (X : mz_I) (a k : Nat) (v : Int32), a = D 20 → mz_u X a k v (D 0) 21 = X (D 0) 21 := fun X a k v e => by rw [mz_u_ne (by rw [e]; exact n0_20)]
      simp only [e21 _ _ _ _ rfl, v21]
      rw [a1, z_1 (3 * n), l_2, z_add, show ((3 * n : Nat) : Int) + 2 = ((3 * n + 2 : Nat) : Int) by omega, z_nat (a := ((3 * n : Nat) : Int)) (by omega), z_nat (a := ((3 * n + 1 : Nat) : Int)) (by omega), z_nat (a := ((3 * n + 2 : Nat) : Int)) (by omega), Int.toNat_natCast, Int.toNat_natCast, Int.toNat_natCast, z_1 n]
      refine ⟨n_ix _ t20 (by omega) (by decide), n_ix _ t20 (by omega) (by decide), n_ix _ t20 (by omega) (by decide), ?_⟩
      refine mz_forget (w229 220 _ (Nat.le_refl _) (fr_u2 (fr_u2 (fr_u2 (fr_u2 fJ (by simp)) (by simp)) (by simp)) (by simp)) (fun i hi => by rw [mz_u_nk hi, mz_u_ne n0_20, mz_u_ne n0_20, mz_u_ne n0_20]; exact oJ i) ?_ (fun j hj => by rw [mz_u_ne (Ne.symm n0_13), mz_u_ne n13_20, mz_u_ne n13_20, mz_u_ne n13_20]; exact kJ j hj) (fun j hj => by rw [mz_u_ne (Ne.symm n0_1), mz_u_ne n1_20, mz_u_ne n1_20, mz_u_ne n1_20]; exact hJ j hj) (fun j hj => absurd hj (by omega))) rfl (mz_fg_s (mz_fg_s (mz_fg_s (mz_fg_s (mz_fg_n (mz_fg_s mz_fg_0))))))
      refine ⟨?_, ?_, fun y hy => ?_, fun p w a b => ?_, fun p a => ?_⟩
      · rw [mz_u_eq, List.length_append, hnn]; rfl
      · rw [List.length_append, hnn]; show n + 1 ≤ 440; omega
      · rcases List.mem_append.mp hy with hy | hy
        · exact p3 y hy
        · rw [List.mem_singleton.mp hy]; exact hx
      · rw [List.length_append, hnn] at a
        have a : p < n + 1 := a
        rw [mz_u_ne (Ne.symm n0_19), mz_u_ne n19_20, mz_u_ne n19_20, mz_u_ne n19_20]
        by_cases c : p = n
        · subst c; rw [hgetn]; exact hi w b
        · rw [hget p (by omega), lo _ (by omega)]; exact p4 p w (by omega) b
      · rw [List.length_append, hnn] at a
        have a : p < n + 1 := a
        rw [mz_u_ne (Ne.symm n0_20)]
        by_cases c : p = n
        · subst c
          rw [hgetn]
          refine ⟨?_, ?_, ?_⟩
          · rw [mz_u_nk (by omega), mz_u_nk (by omega), mz_u_eq]
          · rw [mz_u_nk (by omega), mz_u_eq]
          · rw [mz_u_eq]
        · rw [hget p (by omega), mz_u_nk (by omega), mz_u_nk (by omega), mz_u_nk (by omega), mz_u_nk (by omega), mz_u_nk (by omega), mz_u_nk (by omega), mz_u_nk (by omega), mz_u_nk (by omega), mz_u_nk (by omega), e20]
          exact p5 p (by omega)
    have w145 : ∀ k (J : mz_I), k ≤ 4 → fr I J [D 0, D 1, D 13, D 19, D 20, D 22] → (∀ i, J (D 0) i = I (D 0) i) → (∀ j, j < 220 → J (D 13) j = m j) → (∀ j, 220 ≤ j → J (D 1) j = m j) → (∀ j, j < 8 * n → J (D 19) j = I (D 19) j) → (∀ w, w < 8 - k → J (D 19) (8 * n + w) = zI (y_pt m x w : Nat)) → J (D 20) = I (D 20) → (∀ j, j < 4 → J (D 22) j = zI (x_ce m x j : Nat)) → mz_W G M_X12_comes K mz_nX 145 [some (.ref (D 0)), some (.int (zI x.1)), some (.int (zI x.2.1)), some (.int (zI x.2.2)), some (.int (zI (8 * n : Nat))), some (.int (zI (4 - k : Nat)))] [] T J L (0, 0) := by
      intro k
      induction k with
      | zero =>
        intro J _ fJ oJ kJ hJ lo hi e20 so
        refine mz_vc ok_X12_comes [145, 176] [(), (), (), (), (), (), (), (), (), (), (), (), (), (), (), (), (), (), (), (), (), (), (), (), (), (), (), (), (), ()] ?_
        simp only [cd_X12_comes, h0, r1, r13, r19, r20, r22, ix_222 t1, n_222, r_rn0, r_rnc, r_vk0, r_vkc, r_vks, r_kci, r_kcv, r_ild, r_ald, r_lld, r_dld, r_Li, r_La, r_Ll, r_Ld, r_Ki, r_Ka, r_Kl, r_Kd, r_Kn, r_ist, r_ast, r_lst, r_dst, r_iinc, r_int, r_lng, r_dbl, r_i2, r_i1, r_l2, r_lsh, r_i2z, r_l2z, r_i2l, r_l2i, r_i2d, r_lcmp, r_ddiv, r_dcmpl, r_dup, r_dup2, r_pop, r_one_int, r_one_ref, r_go, r_if, r_ic, r_tsw, r_lsw, r_sw0, r_swc, r_lk0, r_lkc, r_kp, r_gI, r_gL, r_gR, r_pI, r_pZ, r_pL, r_pR, r_gs, r_ia, r_ca, r_za, r_la, r_da, r_aa, r_ias, r_cas, r_zas, r_las, r_das, r_aas, r_acp, r_new, r_nwa, r_nwq, r_ret, r_irt, r_zrt, r_lrt, r_drt, r_art, r_thr, r_cV0, r_cV1, r_cV2, r_cV3, r_cV4, r_cV5, r_cI0, r_cS0, r_cS1, r_cS2, r_cS3, r_cX0, r_cX1, r_cX2, r_cX3, r_rc, r_oi, r_refx, r_i10, r_i01, r_rfs, r_mem0, r_memc, r_beq, r_kl0, r_klz, r_kl1i, r_kl1r, r_kl1n, r_kl1l, r_kl1d, List.length_cons, List.length_nil, List.getElem?_cons_zero, List.getElem?_cons_succ, List.set_cons_zero, List.set_cons_succ, true_and, and_true, not_true, not_false_eq_true, false_implies, true_implies, or_true, true_or, or_false, false_or, Bool.or_false, Bool.false_or, decide_false, decide_true, Nat.reduceLT, Nat.reduceLeDiff, Nat.reduceAdd, Nat.reduceSub, ↓reduceIte, Nat.reduceEqDiff, Nat.lt_add_one]
        refine ⟨fun _ => ?_, fun q => absurd (by decide) q⟩
        exact mz_forget (w176 J fJ oJ kJ hJ lo hi e20) rfl (mz_fg_s (mz_fg_s (mz_fg_s (mz_fg_s (mz_fg_n (mz_fg_n mz_fg_0))))))
      | succ k ih =>
        intro J hk4 fJ oJ kJ hJ lo hi e20 so
        refine mz_vc ok_X12_comes [145, 176] [(), (), (), (), (), (), (), (), (), (), (), (), (), (), (), (), (), (), (), (), (), (), (), (), (), (), (), (), (), ()] ?_
        simp only [cd_X12_comes, h0, r1, r13, r19, r20, r22, ix_222 t1, n_222, r_rn0, r_rnc, r_vk0, r_vkc, r_vks, r_kci, r_kcv, r_ild, r_ald, r_lld, r_dld, r_Li, r_La, r_Ll, r_Ld, r_Ki, r_Ka, r_Kl, r_Kd, r_Kn, r_ist, r_ast, r_lst, r_dst, r_iinc, r_int, r_lng, r_dbl, r_i2, r_i1, r_l2, r_lsh, r_i2z, r_l2z, r_i2l, r_l2i, r_i2d, r_lcmp, r_ddiv, r_dcmpl, r_dup, r_dup2, r_pop, r_one_int, r_one_ref, r_go, r_if, r_ic, r_tsw, r_lsw, r_sw0, r_swc, r_lk0, r_lkc, r_kp, r_gI, r_gL, r_gR, r_pI, r_pZ, r_pL, r_pR, r_gs, r_ia, r_ca, r_za, r_la, r_da, r_aa, r_ias, r_cas, r_zas, r_las, r_das, r_aas, r_acp, r_new, r_nwa, r_nwq, r_ret, r_irt, r_zrt, r_lrt, r_drt, r_art, r_thr, r_cV0, r_cV1, r_cV2, r_cV3, r_cV4, r_cV5, r_cI0, r_cS0, r_cS1, r_cS2, r_cS3, r_cX0, r_cX1, r_cX2, r_cX3, r_rc, r_oi, r_refx, r_i10, r_i01, r_rfs, r_mem0, r_memc, r_beq, r_kl0, r_klz, r_kl1i, r_kl1r, r_kl1n, r_kl1l, r_kl1d, List.length_cons, List.length_nil, List.getElem?_cons_zero, List.getElem?_cons_succ, List.set_cons_zero, List.set_cons_succ, true_and, and_true, not_true, not_false_eq_true, false_implies, true_implies, or_true, true_or, or_false, false_or, Bool.or_false, Bool.false_or, decide_false, decide_true, Nat.reduceLT, Nat.reduceLeDiff, Nat.reduceAdd, Nat.reduceSub, ↓reduceIte, Nat.reduceEqDiff, Nat.lt_add_one]
        have ei : zI ((8 * n : Nat) : Int) + 4 + zI ((4 - (k + 1) : Nat) : Int) = zI ((8 * n + (8 - (k + 1)) : Nat) : Int) := by
          rw [l_4, z_add, z_add]; congr 1; omega
        rw [ei, z_nat (by omega), Int.toNat_natCast, z_nat (by omega), Int.toNat_natCast, so _ (by omega), z_1 (4 - (k + 1)), show 4 - (k + 1) + 1 = 4 - k by omega]
        refine ⟨z_no (b := 4) (by omega) (by omega) (by omega), fun _ => ⟨n_ix _ t22 (by omega) (by decide), n_ix _ t19 (by omega) (by decide), ?_⟩⟩
        refine ih _ (by omega) (fr_u2 fJ (by simp)) (fun i => by rw [mz_u_ne n0_19]; exact oJ i) (fun j hj => by rw [mz_u_ne n13_19]; exact kJ j hj) (fun j hj => by rw [mz_u_ne n1_19]; exact hJ j hj) (fun j hj => by rw [mz_u_nk (by omega)]; exact lo j hj) (fun w hw => ?_) (by rw [mz_u_ne (Ne.symm n19_20)]; exact e20) (fun j hj => by rw [mz_u_ne (Ne.symm n19_22)]; exact so j hj)
        by_cases c : w = 8 - (k + 1)
        · subst c
          rw [mz_u_eq]
          have e4 : y_pt m x (8 - (k + 1)) = x_ce m x (4 - (k + 1)) := by
            unfold y_pt x_pt
            rw [if_neg (by omega), if_neg (by omega), if_neg (by omega), if_neg (by omega), if_neg (by omega)]
            congr 1; omega
          rw [e4]
        · rw [mz_u_nk (by omega)]; exact hi w (by omega)
    have w83 : ∀ J : mz_I, fr I J [D 0, D 1, D 13, D 19, D 20, D 22] → (∀ i, J (D 0) i = I (D 0) i) → (∀ j, j < 220 → J (D 13) j = m j) → J (D 1) = y_fl m x 4 → J (D 19) = I (D 19) → J (D 20) = I (D 20) → (∀ j, j < 4 → J (D 22) j = zI (x_ce m x j : Nat)) → mz_W G M_X12_comes K mz_nX 83 [some (.ref (D 0)), some (.int (zI x.1)), some (.int (zI x.2.1)), some (.int (zI x.2.2)), none, none] [] T J L (0, 0) := by
      intro J fJ oJ kJ e1 e19 e20 so
      have v21 : J (D 0) 21 = zI n := by rw [oJ]; exact p1
      have a8 : (8 : Int32) * zI n = zI ((8 * n : Nat) : Int) := by rw [show (8 : Int32) = zI 8 from rfl, z_mul]; rfl
      refine mz_vc ok_X12_comes [145] [(), (), (), (), (), (), (), (), (), (), (), (), (), (), (), (), (), (), (), (), (), (), (), (), (), (), (), (), (), ()] ?_
      simp only [cd_X12_comes, h0, r1, r13, r19, r20, r22, ix_222 t1, n_222, v21, a8, r_rn0, r_rnc, r_vk0, r_vkc, r_vks, r_kci, r_kcv, r_ild, r_ald, r_lld, r_dld, r_Li, r_La, r_Ll, r_Ld, r_Ki, r_Ka, r_Kl, r_Kd, r_Kn, r_ist, r_ast, r_lst, r_dst, r_iinc, r_int, r_lng, r_dbl, r_i2, r_i1, r_l2, r_lsh, r_i2z, r_l2z, r_i2l, r_l2i, r_i2d, r_lcmp, r_ddiv, r_dcmpl, r_dup, r_dup2, r_pop, r_one_int, r_one_ref, r_go, r_if, r_ic, r_tsw, r_lsw, r_sw0, r_swc, r_lk0, r_lkc, r_kp, r_gI, r_gL, r_gR, r_pI, r_pZ, r_pL, r_pR, r_gs, r_ia, r_ca, r_za, r_la, r_da, r_aa, r_ias, r_cas, r_zas, r_las, r_das, r_aas, r_acp, r_new, r_nwa, r_nwq, r_ret, r_irt, r_zrt, r_lrt, r_drt, r_art, r_thr, r_cV0, r_cV1, r_cV2, r_cV3, r_cV4, r_cV5, r_cI0, r_cS0, r_cS1, r_cS2, r_cS3, r_cX0, r_cX1, r_cX2, r_cX3, r_rc, r_oi, r_refx, r_i10, r_i01, r_rfs, r_mem0, r_memc, r_beq, r_kl0, r_klz, r_kl1i, r_kl1r, r_kl1n, r_kl1l, r_kl1d, List.length_cons, List.length_nil, List.getElem?_cons_zero, List.getElem?_cons_succ, List.set_cons_zero, List.set_cons_succ, true_and, and_true, not_true, not_false_eq_true, false_implies, true_implies, or_true, true_or, or_false, false_or, Bool.or_false, Bool.false_or, decide_false, decide_true, Nat.reduceLT, Nat.reduceLeDiff, Nat.reduceAdd, Nat.reduceSub, ↓reduceIte, Nat.reduceEqDiff, Nat.lt_add_one]
      refine c_clearsM hM (fun J2 f2 e2 => ?_)
      rw [e1] at e2 ⊢
      rw [fg1]
      have e2f : s_fm (J2 (D 1)) = s_fm (x_af m x) := by rw [e2]; exact fg2
      have hi1 : ∀ j, 220 ≤ j → J2 (D 1) j = m j := fun j hj => by rw [e2]; unfold o_clear; rw [if_neg (by omega)]; exact fl2 j hj
      simp only [cd_X12_comes, h0, r1, r13, r19, r20, r22, ix_222 t1, n_222, r_rn0, r_rnc, r_vk0, r_vkc, r_vks, r_kci, r_kcv, r_ild, r_ald, r_lld, r_dld, r_Li, r_La, r_Ll, r_Ld, r_Ki, r_Ka, r_Kl, r_Kd, r_Kn, r_ist, r_ast, r_lst, r_dst, r_iinc, r_int, r_lng, r_dbl, r_i2, r_i1, r_l2, r_lsh, r_i2z, r_l2z, r_i2l, r_l2i, r_i2d, r_lcmp, r_ddiv, r_dcmpl, r_dup, r_dup2, r_pop, r_one_int, r_one_ref, r_go, r_if, r_ic, r_tsw, r_lsw, r_sw0, r_swc, r_lk0, r_lkc, r_kp, r_gI, r_gL, r_gR, r_pI, r_pZ, r_pL, r_pR, r_gs, r_ia, r_ca, r_za, r_la, r_da, r_aa, r_ias, r_cas, r_zas, r_las, r_das, r_aas, r_acp, r_new, r_nwa, r_nwq, r_ret, r_irt, r_zrt, r_lrt, r_drt, r_art, r_thr, r_cV0, r_cV1, r_cV2, r_cV3, r_cV4, r_cV5, r_cI0, r_cS0, r_cS1, r_cS2, r_cS3, r_cX0, r_cX1, r_cX2, r_cX3, r_rc, r_oi, r_refx, r_i10, r_i01, r_rfs, r_mem0, r_memc, r_beq, r_kl0, r_klz, r_kl1i, r_kl1r, r_kl1n, r_kl1l, r_kl1d, List.length_cons, List.length_nil, List.getElem?_cons_zero, List.getElem?_cons_succ, List.set_cons_zero, List.set_cons_succ, true_and, and_true, not_true, not_false_eq_true, false_implies, true_implies, or_true, true_or, or_false, false_or, Bool.or_false, Bool.false_or, decide_false, decide_true, Nat.reduceLT, Nat.reduceLeDiff, Nat.reduceAdd, Nat.reduceSub, ↓reduceIte, Nat.reduceEqDiff, Nat.lt_add_one]
      rw [z_nat (by omega), Int.toNat_natCast]
      refine ⟨n_ix _ t19 (by omega) (by decide), ?_⟩
      have n19_1 := Ne.symm n1_19
      refine c_holesM hM ?_
      rw [mz_u_ne n1_19, e2f]
      simp only [cd_X12_comes, h0, r1, r13, r19, r20, r22, ix_222 t1, n_222, r_rn0, r_rnc, r_vk0, r_vkc, r_vks, r_kci, r_kcv, r_ild, r_ald, r_lld, r_dld, r_Li, r_La, r_Ll, r_Ld, r_Ki, r_Ka, r_Kl, r_Kd, r_Kn, r_ist, r_ast, r_lst, r_dst, r_iinc, r_int, r_lng, r_dbl, r_i2, r_i1, r_l2, r_lsh, r_i2z, r_l2z, r_i2l, r_l2i, r_i2d, r_lcmp, r_ddiv, r_dcmpl, r_dup, r_dup2, r_pop, r_one_int, r_one_ref, r_go, r_if, r_ic, r_tsw, r_lsw, r_sw0, r_swc, r_lk0, r_lkc, r_kp, r_gI, r_gL, r_gR, r_pI, r_pZ, r_pL, r_pR, r_gs, r_ia, r_ca, r_za, r_la, r_da, r_aa, r_ias, r_cas, r_zas, r_las, r_das, r_aas, r_acp, r_new, r_nwa, r_nwq, r_ret, r_irt, r_zrt, r_lrt, r_drt, r_art, r_thr, r_cV0, r_cV1, r_cV2, r_cV3, r_cV4, r_cV5, r_cI0, r_cS0, r_cS1, r_cS2, r_cS3, r_cX0, r_cX1, r_cX2, r_cX3, r_rc, r_oi, r_refx, r_i10, r_i01, r_rfs, r_mem0, r_memc, r_beq, r_kl0, r_klz, r_kl1i, r_kl1r, r_kl1n, r_kl1l, r_kl1d, List.length_cons, List.length_nil, List.getElem?_cons_zero, List.getElem?_cons_succ, List.set_cons_zero, List.set_cons_succ, true_and, and_true, not_true, not_false_eq_true, false_implies, true_implies, or_true, true_or, or_false, false_or, Bool.or_false, Bool.false_or, decide_false, decide_true, Nat.reduceLT, Nat.reduceLeDiff, Nat.reduceAdd, Nat.reduceSub, ↓reduceIte, Nat.reduceEqDiff, Nat.lt_add_one]
      rw [z_1 (8 * n), z_nat (by omega), Int.toNat_natCast]
      refine ⟨n_ix _ t19 (by omega) (by decide), ?_⟩
      refine c_totalM hM ?_
      rw [mz_u_ne n1_19, mz_u_ne n1_19, e2f]
      simp only [cd_X12_comes, h0, r1, r13, r19, r20, r22, ix_222 t1, n_222, r_rn0, r_rnc, r_vk0, r_vkc, r_vks, r_kci, r_kcv, r_ild, r_ald, r_lld, r_dld, r_Li, r_La, r_Ll, r_Ld, r_Ki, r_Ka, r_Kl, r_Kd, r_Kn, r_ist, r_ast, r_lst, r_dst, r_iinc, r_int, r_lng, r_dbl, r_i2, r_i1, r_l2, r_lsh, r_i2z, r_l2z, r_i2l, r_l2i, r_i2d, r_lcmp, r_ddiv, r_dcmpl, r_dup, r_dup2, r_pop, r_one_int, r_one_ref, r_go, r_if, r_ic, r_tsw, r_lsw, r_sw0, r_swc, r_lk0, r_lkc, r_kp, r_gI, r_gL, r_gR, r_pI, r_pZ, r_pL, r_pR, r_gs, r_ia, r_ca, r_za, r_la, r_da, r_aa, r_ias, r_cas, r_zas, r_las, r_das, r_aas, r_acp, r_new, r_nwa, r_nwq, r_ret, r_irt, r_zrt, r_lrt, r_drt, r_art, r_thr, r_cV0, r_cV1, r_cV2, r_cV3, r_cV4, r_cV5, r_cI0, r_cS0, r_cS1, r_cS2, r_cS3, r_cX0, r_cX1, r_cX2, r_cX3, r_rc, r_oi, r_refx, r_i10, r_i01, r_rfs, r_mem0, r_memc, r_beq, r_kl0, r_klz, r_kl1i, r_kl1r, r_kl1n, r_kl1l, r_kl1d, List.length_cons, List.length_nil, List.getElem?_cons_zero, List.getElem?_cons_succ, List.set_cons_zero, List.set_cons_succ, true_and, and_true, not_true, not_false_eq_true, false_implies, true_implies, or_true, true_or, or_false, false_or, Bool.or_false, Bool.false_or, decide_false, decide_true, Nat.reduceLT, Nat.reduceLeDiff, Nat.reduceAdd, Nat.reduceSub, ↓reduceIte, Nat.reduceEqDiff, Nat.lt_add_one]
      have a10 : zI ((8 * n : Nat) : Int) + 2 = zI ((8 * n + 2 : Nat) : Int) := by rw [l_2, z_add]; rfl
      have a11 : zI ((8 * n : Nat) : Int) + 3 = zI ((8 * n + 3 : Nat) : Int) := by rw [l_3, z_add]; rfl
      rw [a10, z_nat (by omega), Int.toNat_natCast]
      refine ⟨n_ix _ t19 (by omega) (by decide), ?_⟩
      refine c_roughM hM ?_
      rw [mz_u_ne n1_19, mz_u_ne n1_19, mz_u_ne n1_19, e2f]
      simp only [cd_X12_comes, h0, r1, r13, r19, r20, r22, ix_222 t1, n_222, r_rn0, r_rnc, r_vk0, r_vkc, r_vks, r_kci, r_kcv, r_ild, r_ald, r_lld, r_dld, r_Li, r_La, r_Ll, r_Ld, r_Ki, r_Ka, r_Kl, r_Kd, r_Kn, r_ist, r_ast, r_lst, r_dst, r_iinc, r_int, r_lng, r_dbl, r_i2, r_i1, r_l2, r_lsh, r_i2z, r_l2z, r_i2l, r_l2i, r_i2d, r_lcmp, r_ddiv, r_dcmpl, r_dup, r_dup2, r_pop, r_one_int, r_one_ref, r_go, r_if, r_ic, r_tsw, r_lsw, r_sw0, r_swc, r_lk0, r_lkc, r_kp, r_gI, r_gL, r_gR, r_pI, r_pZ, r_pL, r_pR, r_gs, r_ia, r_ca, r_za, r_la, r_da, r_aa, r_ias, r_cas, r_zas, r_las, r_das, r_aas, r_acp, r_new, r_nwa, r_nwq, r_ret, r_irt, r_zrt, r_lrt, r_drt, r_art, r_thr, r_cV0, r_cV1, r_cV2, r_cV3, r_cV4, r_cV5, r_cI0, r_cS0, r_cS1, r_cS2, r_cS3, r_cX0, r_cX1, r_cX2, r_cX3, r_rc, r_oi, r_refx, r_i10, r_i01, r_rfs, r_mem0, r_memc, r_beq, r_kl0, r_klz, r_kl1i, r_kl1r, r_kl1n, r_kl1l, r_kl1d, List.length_cons, List.length_nil, List.getElem?_cons_zero, List.getElem?_cons_succ, List.set_cons_zero, List.set_cons_succ, true_and, and_true, not_true, not_false_eq_true, false_implies, true_implies, or_true, true_or, or_false, false_or, Bool.or_false, Bool.false_or, decide_false, decide_true, Nat.reduceLT, Nat.reduceLeDiff, Nat.reduceAdd, Nat.reduceSub, ↓reduceIte, Nat.reduceEqDiff, Nat.lt_add_one]
      rw [a11, z_nat (by omega), Int.toNat_natCast]
      refine ⟨n_ix _ t19 (by omega) (by decide), ?_⟩
      have f1J := fr_tr1 fJ f2 (by simp)
      refine w145 4 _ (Nat.le_refl _) (fr_u2 (fr_u2 (fr_u2 (fr_u2 f1J (by simp)) (by simp)) (by simp)) (by simp)) (fun i => ?_) (fun j hj => ?_) (fun j hj => ?_) (fun j hj => ?_) (fun w hw => ?_) ?_ (fun j hj => ?_)
      · rw [mz_u_ne n0_19, mz_u_ne n0_19, mz_u_ne n0_19, mz_u_ne n0_19, fr_ne1 f2 n0_1]; exact oJ i
      · rw [mz_u_ne n13_19, mz_u_ne n13_19, mz_u_ne n13_19, mz_u_ne n13_19, fr_ne1 f2 (Ne.symm n1_13)]; exact kJ j hj
      · rw [mz_u_ne n1_19, mz_u_ne n1_19, mz_u_ne n1_19, mz_u_ne n1_19]; exact hi1 j hj
      · rw [mz_u_nk (by omega), mz_u_nk (by omega), mz_u_nk (by omega), mz_u_nk (by omega), fr_ne1 f2 n19_1, e19]
      · have : w = 0 ∨ w = 1 ∨ w = 2 ∨ w = 3 := by omega
        rcases this with e | e | e | e <;> subst e
        · rw [mz_u_nk (by omega), mz_u_nk (by omega), mz_u_nk (by omega), Nat.add_zero, mz_u_eq]; rfl
        · rw [mz_u_nk (by omega), mz_u_nk (by omega), mz_u_eq]; rfl
        · rw [mz_u_nk (by omega), mz_u_eq]; rfl
        · rw [mz_u_eq]; rfl
      · rw [mz_u_ne (Ne.symm n19_20), mz_u_ne (Ne.symm n19_20), mz_u_ne (Ne.symm n19_20), mz_u_ne (Ne.symm n19_20), fr_ne1 f2 (Ne.symm n1_20)]; exact e20
      · rw [mz_u_ne (Ne.symm n19_22), mz_u_ne (Ne.symm n19_22), mz_u_ne (Ne.symm n19_22), mz_u_ne (Ne.symm n19_22), fr_ne1 f2 (Ne.symm n1_22)]; exact so j hj
    have w49 : ∀ k (J : mz_I), k ≤ 4 → fr I J [D 0, D 1, D 13, D 19, D 20, D 22] → (∀ i, J (D 0) i = I (D 0) i) → (∀ j, j < 220 → J (D 13) j = m j) → J (D 1) = y_fl m x (4 - k) → J (D 19) = I (D 19) → J (D 20) = I (D 20) → (∀ j, j < 4 → J (D 22) j = zI (x_ce m x j : Nat)) → mz_W G M_X12_comes K mz_nX 49 [some (.ref (D 0)), some (.int (zI x.1)), some (.int (zI x.2.1)), some (.int (zI x.2.2)), some (.int (zI (4 - k : Nat))), none] [] T J L (0, 0) := by
      intro k
      induction k with
      | zero =>
        intro J _ fJ oJ kJ e1 e19 e20 so
        refine mz_vc ok_X12_comes [49, 83] [(), (), (), (), (), (), (), (), (), (), (), (), (), (), (), (), (), (), (), (), (), (), (), (), (), (), (), (), (), ()] ?_
        simp only [cd_X12_comes, h0, r1, r13, r19, r20, r22, ix_222 t1, n_222, r_rn0, r_rnc, r_vk0, r_vkc, r_vks, r_kci, r_kcv, r_ild, r_ald, r_lld, r_dld, r_Li, r_La, r_Ll, r_Ld, r_Ki, r_Ka, r_Kl, r_Kd, r_Kn, r_ist, r_ast, r_lst, r_dst, r_iinc, r_int, r_lng, r_dbl, r_i2, r_i1, r_l2, r_lsh, r_i2z, r_l2z, r_i2l, r_l2i, r_i2d, r_lcmp, r_ddiv, r_dcmpl, r_dup, r_dup2, r_pop, r_one_int, r_one_ref, r_go, r_if, r_ic, r_tsw, r_lsw, r_sw0, r_swc, r_lk0, r_lkc, r_kp, r_gI, r_gL, r_gR, r_pI, r_pZ, r_pL, r_pR, r_gs, r_ia, r_ca, r_za, r_la, r_da, r_aa, r_ias, r_cas, r_zas, r_las, r_das, r_aas, r_acp, r_new, r_nwa, r_nwq, r_ret, r_irt, r_zrt, r_lrt, r_drt, r_art, r_thr, r_cV0, r_cV1, r_cV2, r_cV3, r_cV4, r_cV5, r_cI0, r_cS0, r_cS1, r_cS2, r_cS3, r_cX0, r_cX1, r_cX2, r_cX3, r_rc, r_oi, r_refx, r_i10, r_i01, r_rfs, r_mem0, r_memc, r_beq, r_kl0, r_klz, r_kl1i, r_kl1r, r_kl1n, r_kl1l, r_kl1d, List.length_cons, List.length_nil, List.getElem?_cons_zero, List.getElem?_cons_succ, List.set_cons_zero, List.set_cons_succ, true_and, and_true, not_true, not_false_eq_true, false_implies, true_implies, or_true, true_or, or_false, false_or, Bool.or_false, Bool.false_or, decide_false, decide_true, Nat.reduceLT, Nat.reduceLeDiff, Nat.reduceAdd, Nat.reduceSub, ↓reduceIte, Nat.reduceEqDiff, Nat.lt_add_one]
        refine ⟨fun _ => ?_, fun q => absurd (by decide) q⟩
        exact mz_forget (w83 J fJ oJ kJ e1 e19 e20 so) rfl (mz_fg_s (mz_fg_s (mz_fg_s (mz_fg_s (mz_fg_n (mz_fg_n mz_fg_0))))))
      | succ k ih =>
        intro J hk4 fJ oJ kJ e1 e19 e20 so
        have v222 : J (D 1) 222 = m 222 := by
          rw [e1]; unfold y_fl
          rw [if_neg]
          intro e
          rw [List.any_eq_true] at e
          obtain ⟨i, hi, e⟩ := e
          have := hcx i (by have := List.mem_range.mp hi; omega)
          have e := of_decide_eq_true e
          omega
        have hci := hcx (4 - (k + 1)) (by omega)
        refine mz_vc ok_X12_comes [49, 83] [(), (), (), (), (), (), (), (), (), (), (), (), (), (), (), (), (), (), (), (), (), (), (), (), (), (), (), (), (), ()] ?_
        simp only [cd_X12_comes, h0, r1, r13, r19, r20, r22, ix_222 t1, n_222, v222, r_rn0, r_rnc, r_vk0, r_vkc, r_vks, r_kci, r_kcv, r_ild, r_ald, r_lld, r_dld, r_Li, r_La, r_Ll, r_Ld, r_Ki, r_Ka, r_Kl, r_Kd, r_Kn, r_ist, r_ast, r_lst, r_dst, r_iinc, r_int, r_lng, r_dbl, r_i2, r_i1, r_l2, r_lsh, r_i2z, r_l2z, r_i2l, r_l2i, r_i2d, r_lcmp, r_ddiv, r_dcmpl, r_dup, r_dup2, r_pop, r_one_int, r_one_ref, r_go, r_if, r_ic, r_tsw, r_lsw, r_sw0, r_swc, r_lk0, r_lkc, r_kp, r_gI, r_gL, r_gR, r_pI, r_pZ, r_pL, r_pR, r_gs, r_ia, r_ca, r_za, r_la, r_da, r_aa, r_ias, r_cas, r_zas, r_las, r_das, r_aas, r_acp, r_new, r_nwa, r_nwq, r_ret, r_irt, r_zrt, r_lrt, r_drt, r_art, r_thr, r_cV0, r_cV1, r_cV2, r_cV3, r_cV4, r_cV5, r_cI0, r_cS0, r_cS1, r_cS2, r_cS3, r_cX0, r_cX1, r_cX2, r_cX3, r_rc, r_oi, r_refx, r_i10, r_i01, r_rfs, r_mem0, r_memc, r_beq, r_kl0, r_klz, r_kl1i, r_kl1r, r_kl1n, r_kl1l, r_kl1d, List.length_cons, List.length_nil, List.getElem?_cons_zero, List.getElem?_cons_succ, List.set_cons_zero, List.set_cons_succ, true_and, and_true, not_true, not_false_eq_true, false_implies, true_implies, or_true, true_or, or_false, false_or, Bool.or_false, Bool.false_or, decide_false, decide_true, Nat.reduceLT, Nat.reduceLeDiff, Nat.reduceAdd, Nat.reduceSub, ↓reduceIte, Nat.reduceEqDiff, Nat.lt_add_one]
        rw [z_nat (by omega), Int.toNat_natCast, so _ (by omega), z_nat (by omega), Int.toNat_natCast, z_1 (4 - (k + 1)), show 4 - (k + 1) + 1 = 4 - k by omega]
        refine ⟨z_no (b := 4) (by omega) (by omega) (by omega), fun _ => ⟨n_ix _ t22 (by omega) (by decide), n_ix _ t1 (by omega) (by decide), ?_⟩⟩
        refine ih _ (by omega) (fr_u2 fJ (by simp)) (fun i => by rw [mz_u_ne n0_1]; exact oJ i) (fun j hj => by rw [mz_u_ne (Ne.symm n1_13)]; exact kJ j hj) ?_ (by rw [mz_u_ne (Ne.symm n1_19)]; exact e19) (by rw [mz_u_ne (Ne.symm n1_20)]; exact e20) (fun j hj => by rw [mz_u_ne (Ne.symm n1_22)]; exact so j hj)
        rw [mz_u_row, e1, show 4 - k = 4 - (k + 1) + 1 by omega]
        funext j
        unfold y_fl
        rw [m_u_at, List.range_succ, List.any_append]
        simp only [List.any_cons, List.any_nil, Bool.or_false]
        by_cases c : j = x_ce m x (4 - (k + 1))
        · rw [if_pos c, decide_eq_true c.symm, Bool.or_true, if_pos rfl]
        · rw [if_neg c, decide_eq_false (fun e => c e.symm), Bool.or_false]
    have w18 : ∀ k (J : mz_I), k ≤ 220 → fr I J [D 0, D 1, D 13, D 19, D 20, D 22] → (∀ i, J (D 0) i = I (D 0) i) → (∀ j, j < 220 - k → J (D 13) j = m j) → J (D 1) = m → J (D 19) = I (D 19) → J (D 20) = I (D 20) → (∀ j, j < 4 → J (D 22) j = zI (x_ce m x j : Nat)) → mz_W G M_X12_comes K mz_nX 18 [some (.ref (D 0)), some (.int (zI x.1)), some (.int (zI x.2.1)), some (.int (zI x.2.2)), some (.int (zI (220 - k : Nat))), none] [] T J L (0, 0) := by
      intro k
      induction k with
      | zero =>
        intro J _ fJ oJ kJ e1 e19 e20 so
        refine mz_vc ok_X12_comes [18, 49] [(), (), (), (), (), (), (), (), (), (), (), (), (), (), (), (), (), (), (), (), (), (), (), (), (), (), (), (), (), ()] ?_
        simp only [cd_X12_comes, h0, r1, r13, r19, r20, r22, ix_222 t1, n_222, r_rn0, r_rnc, r_vk0, r_vkc, r_vks, r_kci, r_kcv, r_ild, r_ald, r_lld, r_dld, r_Li, r_La, r_Ll, r_Ld, r_Ki, r_Ka, r_Kl, r_Kd, r_Kn, r_ist, r_ast, r_lst, r_dst, r_iinc, r_int, r_lng, r_dbl, r_i2, r_i1, r_l2, r_lsh, r_i2z, r_l2z, r_i2l, r_l2i, r_i2d, r_lcmp, r_ddiv, r_dcmpl, r_dup, r_dup2, r_pop, r_one_int, r_one_ref, r_go, r_if, r_ic, r_tsw, r_lsw, r_sw0, r_swc, r_lk0, r_lkc, r_kp, r_gI, r_gL, r_gR, r_pI, r_pZ, r_pL, r_pR, r_gs, r_ia, r_ca, r_za, r_la, r_da, r_aa, r_ias, r_cas, r_zas, r_las, r_das, r_aas, r_acp, r_new, r_nwa, r_nwq, r_ret, r_irt, r_zrt, r_lrt, r_drt, r_art, r_thr, r_cV0, r_cV1, r_cV2, r_cV3, r_cV4, r_cV5, r_cI0, r_cS0, r_cS1, r_cS2, r_cS3, r_cX0, r_cX1, r_cX2, r_cX3, r_rc, r_oi, r_refx, r_i10, r_i01, r_rfs, r_mem0, r_memc, r_beq, r_kl0, r_klz, r_kl1i, r_kl1r, r_kl1n, r_kl1l, r_kl1d, List.length_cons, List.length_nil, List.getElem?_cons_zero, List.getElem?_cons_succ, List.set_cons_zero, List.set_cons_succ, true_and, and_true, not_true, not_false_eq_true, false_implies, true_implies, or_true, true_or, or_false, false_or, Bool.or_false, Bool.false_or, decide_false, decide_true, Nat.reduceLT, Nat.reduceLeDiff, Nat.reduceAdd, Nat.reduceSub, ↓reduceIte, Nat.reduceEqDiff, Nat.lt_add_one]
        refine ⟨fun _ => ?_, fun q => absurd (by decide) q⟩
        exact w49 4 J (Nat.le_refl _) fJ oJ kJ e1 e19 e20 so
      | succ k ih =>
        intro J hk9 fJ oJ kJ e1 e19 e20 so
        refine mz_vc ok_X12_comes [18, 49] [(), (), (), (), (), (), (), (), (), (), (), (), (), (), (), (), (), (), (), (), (), (), (), (), (), (), (), (), (), ()] ?_
        simp only [cd_X12_comes, h0, r1, r13, r19, r20, r22, ix_222 t1, n_222, r_rn0, r_rnc, r_vk0, r_vkc, r_vks, r_kci, r_kcv, r_ild, r_ald, r_lld, r_dld, r_Li, r_La, r_Ll, r_Ld, r_Ki, r_Ka, r_Kl, r_Kd, r_Kn, r_ist, r_ast, r_lst, r_dst, r_iinc, r_int, r_lng, r_dbl, r_i2, r_i1, r_l2, r_lsh, r_i2z, r_l2z, r_i2l, r_l2i, r_i2d, r_lcmp, r_ddiv, r_dcmpl, r_dup, r_dup2, r_pop, r_one_int, r_one_ref, r_go, r_if, r_ic, r_tsw, r_lsw, r_sw0, r_swc, r_lk0, r_lkc, r_kp, r_gI, r_gL, r_gR, r_pI, r_pZ, r_pL, r_pR, r_gs, r_ia, r_ca, r_za, r_la, r_da, r_aa, r_ias, r_cas, r_zas, r_las, r_das, r_aas, r_acp, r_new, r_nwa, r_nwq, r_ret, r_irt, r_zrt, r_lrt, r_drt, r_art, r_thr, r_cV0, r_cV1, r_cV2, r_cV3, r_cV4, r_cV5, r_cI0, r_cS0, r_cS1, r_cS2, r_cS3, r_cX0, r_cX1, r_cX2, r_cX3, r_rc, r_oi, r_refx, r_i10, r_i01, r_rfs, r_mem0, r_memc, r_beq, r_kl0, r_klz, r_kl1i, r_kl1r, r_kl1n, r_kl1l, r_kl1d, List.length_cons, List.length_nil, List.getElem?_cons_zero, List.getElem?_cons_succ, List.set_cons_zero, List.set_cons_succ, true_and, and_true, not_true, not_false_eq_true, false_implies, true_implies, or_true, true_or, or_false, false_or, Bool.or_false, Bool.false_or, decide_false, decide_true, Nat.reduceLT, Nat.reduceLeDiff, Nat.reduceAdd, Nat.reduceSub, ↓reduceIte, Nat.reduceEqDiff, Nat.lt_add_one]
        rw [z_1 (220 - (k + 1)), show 220 - (k + 1) + 1 = 220 - k by omega, z_nat (by omega), Int.toNat_natCast]
        refine ⟨z_no (b := 220) (by omega) (by omega) (by omega), fun _ => ⟨n_ix _ t1 (by omega) (by decide), n_ix _ t13 (by omega) (by decide), ?_⟩⟩
        refine ih _ (by omega) (fr_u2 fJ (by simp)) (fun i => by rw [mz_u_ne n0_13]; exact oJ i) (fun j hj => ?_) (by rw [mz_u_ne n1_13]; exact e1) (by rw [mz_u_ne (Ne.symm n13_19)]; exact e19) (by rw [mz_u_ne (Ne.symm n13_20)]; exact e20) (fun j hj => by rw [mz_u_ne (Ne.symm n13_22)]; exact so j hj)
        by_cases c : j = 220 - (k + 1)
        · subst c; rw [mz_u_eq, e1]
        · rw [mz_u_nk c]; exact kJ j (by omega)
    refine mz_ofl mk_X12_comes rfl (Nat.le_of_ble_eq_true rfl) (Nat.le_of_ble_eq_true rfl) [some (.ref (D 0)), some (.int (zI x.1)), some (.int (zI x.2.1)), some (.int (zI x.2.2)), none, none] rfl ?_
    refine mz_vc ok_X12_comes [18, 49, 145, 229] [(), (), (), (), (), (), (), (), (), (), (), (), (), (), (), (), (), (), (), (), (), (), (), (), (), (), (), (), (), ()] ?_
    simp only [cd_X12_comes, h0, r1, r13, r19, r20, r22, ix_222 t1, n_222, r_rn0, r_rnc, r_vk0, r_vkc, r_vks, r_kci, r_kcv, r_ild, r_ald, r_lld, r_dld, r_Li, r_La, r_Ll, r_Ld, r_Ki, r_Ka, r_Kl, r_Kd, r_Kn, r_ist, r_ast, r_lst, r_dst, r_iinc, r_int, r_lng, r_dbl, r_i2, r_i1, r_l2, r_lsh, r_i2z, r_l2z, r_i2l, r_l2i, r_i2d, r_lcmp, r_ddiv, r_dcmpl, r_dup, r_dup2, r_pop, r_one_int, r_one_ref, r_go, r_if, r_ic, r_tsw, r_lsw, r_sw0, r_swc, r_lk0, r_lkc, r_kp, r_gI, r_gL, r_gR, r_pI, r_pZ, r_pL, r_pR, r_gs, r_ia, r_ca, r_za, r_la, r_da, r_aa, r_ias, r_cas, r_zas, r_las, r_das, r_aas, r_acp, r_new, r_nwa, r_nwq, r_ret, r_irt, r_zrt, r_lrt, r_drt, r_art, r_thr, r_cV0, r_cV1, r_cV2, r_cV3, r_cV4, r_cV5, r_cI0, r_cS0, r_cS1, r_cS2, r_cS3, r_cX0, r_cX1, r_cX2, r_cX3, r_rc, r_oi, r_refx, r_i10, r_i01, r_rfs, r_mem0, r_memc, r_beq, r_kl0, r_klz, r_kl1i, r_kl1r, r_kl1n, r_kl1l, r_kl1d, List.length_cons, List.length_nil, List.getElem?_cons_zero, List.getElem?_cons_succ, List.set_cons_zero, List.set_cons_succ, true_and, and_true, not_true, not_false_eq_true, false_implies, true_implies, or_true, true_or, or_false, false_or, Bool.or_false, Bool.false_or, decide_false, decide_true, Nat.reduceLT, Nat.reduceLeDiff, Nat.reduceAdd, Nat.reduceSub, ↓reduceIte, Nat.reduceEqDiff, Nat.lt_add_one]
    refine c_sortsM hM hC hm hp hx (fun I1 f1 s1 => ?_)
    simp only [cd_X12_comes, h0, r1, r13, r19, r20, r22, ix_222 t1, n_222, r_rn0, r_rnc, r_vk0, r_vkc, r_vks, r_kci, r_kcv, r_ild, r_ald, r_lld, r_dld, r_Li, r_La, r_Ll, r_Ld, r_Ki, r_Ka, r_Kl, r_Kd, r_Kn, r_ist, r_ast, r_lst, r_dst, r_iinc, r_int, r_lng, r_dbl, r_i2, r_i1, r_l2, r_lsh, r_i2z, r_l2z, r_i2l, r_l2i, r_i2d, r_lcmp, r_ddiv, r_dcmpl, r_dup, r_dup2, r_pop, r_one_int, r_one_ref, r_go, r_if, r_ic, r_tsw, r_lsw, r_sw0, r_swc, r_lk0, r_lkc, r_kp, r_gI, r_gL, r_gR, r_pI, r_pZ, r_pL, r_pR, r_gs, r_ia, r_ca, r_za, r_la, r_da, r_aa, r_ias, r_cas, r_zas, r_las, r_das, r_aas, r_acp, r_new, r_nwa, r_nwq, r_ret, r_irt, r_zrt, r_lrt, r_drt, r_art, r_thr, r_cV0, r_cV1, r_cV2, r_cV3, r_cV4, r_cV5, r_cI0, r_cS0, r_cS1, r_cS2, r_cS3, r_cX0, r_cX1, r_cX2, r_cX3, r_rc, r_oi, r_refx, r_i10, r_i01, r_rfs, r_mem0, r_memc, r_beq, r_kl0, r_klz, r_kl1i, r_kl1r, r_kl1n, r_kl1l, r_kl1d, List.length_cons, List.length_nil, List.getElem?_cons_zero, List.getElem?_cons_succ, List.set_cons_zero, List.set_cons_succ, true_and, and_true, not_true, not_false_eq_true, false_implies, true_implies, or_true, true_or, or_false, false_or, Bool.or_false, Bool.false_or, decide_false, decide_true, Nat.reduceLT, Nat.reduceLeDiff, Nat.reduceAdd, Nat.reduceSub, ↓reduceIte, Nat.reduceEqDiff, Nat.lt_add_one]
    have hP1 : y_P m I1 D P := by
      refine ⟨by rw [fr_ne1 f1 n0_22, hnn]; exact p1, by rw [hnn]; exact p2, p3, fun p w a b => by rw [fr_ne1 f1 n19_22]; exact p4 p w (by omega) b, fun p a => by rw [fr_ne1 f1 n20_22]; exact p5 p (by omega)⟩
    refine c_placedM hM hk hx hP1 s1 ?_
    rw [hany]
    simp only [cd_X12_comes, h0, r1, r13, r19, r20, r22, ix_222 t1, n_222, b2i_f, r_rn0, r_rnc, r_vk0, r_vkc, r_vks, r_kci, r_kcv, r_ild, r_ald, r_lld, r_dld, r_Li, r_La, r_Ll, r_Ld, r_Ki, r_Ka, r_Kl, r_Kd, r_Kn, r_ist, r_ast, r_lst, r_dst, r_iinc, r_int, r_lng, r_dbl, r_i2, r_i1, r_l2, r_lsh, r_i2z, r_l2z, r_i2l, r_l2i, r_i2d, r_lcmp, r_ddiv, r_dcmpl, r_dup, r_dup2, r_pop, r_one_int, r_one_ref, r_go, r_if, r_ic, r_tsw, r_lsw, r_sw0, r_swc, r_lk0, r_lkc, r_kp, r_gI, r_gL, r_gR, r_pI, r_pZ, r_pL, r_pR, r_gs, r_ia, r_ca, r_za, r_la, r_da, r_aa, r_ias, r_cas, r_zas, r_las, r_das, r_aas, r_acp, r_new, r_nwa, r_nwq, r_ret, r_irt, r_zrt, r_lrt, r_drt, r_art, r_thr, r_cV0, r_cV1, r_cV2, r_cV3, r_cV4, r_cV5, r_cI0, r_cS0, r_cS1, r_cS2, r_cS3, r_cX0, r_cX1, r_cX2, r_cX3, r_rc, r_oi, r_refx, r_i10, r_i01, r_rfs, r_mem0, r_memc, r_beq, r_kl0, r_klz, r_kl1i, r_kl1r, r_kl1n, r_kl1l, r_kl1d, List.length_cons, List.length_nil, List.getElem?_cons_zero, List.getElem?_cons_succ, List.set_cons_zero, List.set_cons_succ, true_and, and_true, not_true, not_false_eq_true, false_implies, true_implies, or_true, true_or, or_false, false_or, Bool.or_false, Bool.false_or, decide_false, decide_true, Nat.reduceLT, Nat.reduceLeDiff, Nat.reduceAdd, Nat.reduceSub, ↓reduceIte, Nat.reduceEqDiff, Nat.lt_add_one]
    exact w18 220 I1 (Nat.le_refl _) (fr_tr f1 fr_refl (by simp) (fun _ q => q)) (fun i => by rw [fr_ne1 f1 n0_22]) (fun j hj => absurd hj (by omega)) (by rw [fr_ne1 f1 n1_22]; exact hm) (fr_ne1 f1 n19_22) (fr_ne1 f1 n20_22) s1
end TELL
