/-! the engine: begin -/
section BEGIN
variable {G : mz_G} {K : mz_K} {T : mz_T} {I : mz_I} {L : mz_L}
def o_zero (n0 : Nat) : Nat → Int32 := fun j => if j = 232 ∨ j = 238 ∨ j = 239 then -1 else if j = 235 then 1 else if j = 267 then zI n0 else 0
theorem zero_cell {n0 i : Nat} (h : i < 220) : o_zero n0 i = 0 := by
  unfold o_zero
  rw [if_neg (by omega), if_neg (by omega), if_neg (by omega)]
theorem s_rc_0 {e : Nat → Bool} {r : Nat} : ∀ n, (∀ j, j < n → e (10 * r + j) = false) → s_rc e r n = 0
  | 0, _ => rfl
  | n + 1, h => by
    unfold s_rc
    rw [s_rc_0 n (fun j hj => h j (by omega)), h n (by omega)]; rfl
theorem zero_nof {n0 r : Nat} (hr : r < 22) : s_full (s_fm (o_zero n0)) r = false := by
  unfold s_full
  rw [s_rc_0 10 (fun j hj => by unfold s_fm; rw [zero_cell (by omega)]; simp)]
  rfl
theorem c_beginE {en me ra nw many B n0 : Nat} {A : z_A} {Aj : Nat → z_A} {rr : Nat → Nat → Int32} (hE : p_E T en A) (hE1 : T.2 en 1 = some me) (hA : p_GA T A) (hM : p_M T I L me ra Aj nw many B rr) (hdj : ∀ j, j < 6 → z_dj (Aj j) A) (hn0 : n0 < 2147483648)
    (hK : ∀ I' L', p_Go T I L I' L' A me ra Aj (w_mn (o_fits (o_draw (o_zero n0)) (m_dk (o_zero n0))) 0) B (o_put (o_draw (o_zero n0)) (m_dk (o_zero n0))) (w_rr (o_fits (o_draw (o_zero n0)) (m_dk (o_zero n0))) 0 rr (o_app (o_draw (o_zero n0)) (m_dk (o_zero n0)))) → K none T I' L') : mz_Ctr G M_X1_begin [.ref en, .int (zI n0)] T I L K := by
  refine mz_apartC fun hU => ?_
  obtain ⟨e1, e2⟩ := id hE
  obtain ⟨⟨g1, g2, g3, g4, g5⟩, hF, hX, ⟨b1, b2, b3⟩, hS⟩ := id hA
  obtain ⟨f1, f2, f3⟩ := id hF
  obtain ⟨x1, x2, x3⟩ := id hX
  obtain ⟨s1, s2, s3, s4, s5⟩ := id hS
  obtain ⟨⟨m1, m2, m3, m4, m5⟩, ⟨m6, m7, m8, m9⟩, m10⟩ := id hM
  have hmA : me ∉ A.all := z_out hU hA m1 (by decide)
  have ne : ∀ {a b : Nat} {x y : Nat × Nat}, (a, x) ∈ T.1 → (b, y) ∈ T.1 → x ≠ y → a ≠ b := fun a b c => mz_ne hU a b c
  refine mz_ofl mk_X1_begin rfl (Nat.le_of_ble_eq_true rfl) (Nat.le_of_ble_eq_true rfl) [some (.ref en), some (.int (zI n0))] rfl ?_
  refine mz_vc ok_X1_begin [] [(), (), (), (), (), (), (), (), (), (), (), (), (), (), (), (), (), (), (), (), (), (), (), (), (), (), (), (), (), ()] ?_
  simp only [cd_X1_begin, e1, e2, hE1, g1, g2, g3, g4, g5, f1, b1, s1, m1, r_rn0, r_rnc, r_vk0, r_vkc, r_vks, r_kci, r_kcv, r_ild, r_ald, r_lld, r_dld, r_Li, r_La, r_Ll, r_Ld, r_Ki, r_Ka, r_Kl, r_Kd, r_Kn, r_ist, r_ast, r_lst, r_dst, r_iinc, r_int, r_lng, r_dbl, r_i2, r_i1, r_l2, r_lsh, r_i2z, r_l2z, r_i2l, r_l2i, r_i2d, r_lcmp, r_ddiv, r_dcmpl, r_dup, r_dup2, r_pop, r_one_int, r_one_ref, r_go, r_if, r_ic, r_tsw, r_lsw, r_sw0, r_swc, r_lk0, r_lkc, r_kp, r_gI, r_gL, r_gR, r_pI, r_pZ, r_pL, r_pR, r_gs, r_ia, r_ca, r_za, r_la, r_da, r_aa, r_ias, r_cas, r_zas, r_las, r_das, r_aas, r_acp, r_new, r_nwa, r_nwq, r_ret, r_irt, r_zrt, r_lrt, r_drt, r_art, r_thr, r_cV0, r_cV1, r_cV2, r_cV3, r_cV4, r_cV5, r_cI0, r_cS0, r_cS1, r_cS2, r_cS3, r_cX0, r_cX1, r_cX2, r_cX3, r_rc, r_oi, r_refx, r_i10, r_i01, r_rfs, r_mem0, r_memc, r_beq, r_kl0, r_klz, r_kl1i, r_kl1r, r_kl1n, r_kl1l, r_kl1d, List.length_cons, List.length_nil, List.getElem?_cons_zero, List.getElem?_cons_succ, List.set_cons_zero, List.set_cons_succ, true_and, and_true, not_true, not_false_eq_true, false_implies, true_implies, or_true, true_or, or_false, false_or, Bool.or_false, Bool.false_or, decide_false, decide_true, Nat.reduceLT, Nat.reduceLeDiff, Nat.reduceAdd, Nat.reduceSub, ↓reduceIte, Nat.reduceEqDiff, Nat.lt_add_one]
  refine c_forget m1 ?_
  simp only [cd_X1_begin, e1, e2, hE1, g1, g2, g3, g4, g5, f1, b1, s1, m1, r_rn0, r_rnc, r_vk0, r_vkc, r_vks, r_kci, r_kcv, r_ild, r_ald, r_lld, r_dld, r_Li, r_La, r_Ll, r_Ld, r_Ki, r_Ka, r_Kl, r_Kd, r_Kn, r_ist, r_ast, r_lst, r_dst, r_iinc, r_int, r_lng, r_dbl, r_i2, r_i1, r_l2, r_lsh, r_i2z, r_l2z, r_i2l, r_l2i, r_i2d, r_lcmp, r_ddiv, r_dcmpl, r_dup, r_dup2, r_pop, r_one_int, r_one_ref, r_go, r_if, r_ic, r_tsw, r_lsw, r_sw0, r_swc, r_lk0, r_lkc, r_kp, r_gI, r_gL, r_gR, r_pI, r_pZ, r_pL, r_pR, r_gs, r_ia, r_ca, r_za, r_la, r_da, r_aa, r_ias, r_cas, r_zas, r_las, r_das, r_aas, r_acp, r_new, r_nwa, r_nwq, r_ret, r_irt, r_zrt, r_lrt, r_drt, r_art, r_thr, r_cV0, r_cV1, r_cV2, r_cV3, r_cV4, r_cV5, r_cI0, r_cS0, r_cS1, r_cS2, r_cS3, r_cX0, r_cX1, r_cX2, r_cX3, r_rc, r_oi, r_refx, r_i10, r_i01, r_rfs, r_mem0, r_memc, r_beq, r_kl0, r_klz, r_kl1i, r_kl1r, r_kl1n, r_kl1l, r_kl1d, List.length_cons, List.length_nil, List.getElem?_cons_zero, List.getElem?_cons_succ, List.set_cons_zero, List.set_cons_succ, true_and, and_true, not_true, not_false_eq_true, false_implies, true_implies, or_true, true_or, or_false, false_or, Bool.or_false, Bool.false_or, decide_false, decide_true, Nat.reduceLT, Nat.reduceLeDiff, Nat.reduceAdd, Nat.reduceSub, ↓reduceIte, Nat.reduceEqDiff, Nat.lt_add_one]
  refine c_makeEmpty hF ?_
  simp only [cd_X1_begin, e1, e2, hE1, g1, g2, g3, g4, g5, f1, b1, s1, m1, r_rn0, r_rnc, r_vk0, r_vkc, r_vks, r_kci, r_kcv, r_ild, r_ald, r_lld, r_dld, r_Li, r_La, r_Ll, r_Ld, r_Ki, r_Ka, r_Kl, r_Kd, r_Kn, r_ist, r_ast, r_lst, r_dst, r_iinc, r_int, r_lng, r_dbl, r_i2, r_i1, r_l2, r_lsh, r_i2z, r_l2z, r_i2l, r_l2i, r_i2d, r_lcmp, r_ddiv, r_dcmpl, r_dup, r_dup2, r_pop, r_one_int, r_one_ref, r_go, r_if, r_ic, r_tsw, r_lsw, r_sw0, r_swc, r_lk0, r_lkc, r_kp, r_gI, r_gL, r_gR, r_pI, r_pZ, r_pL, r_pR, r_gs, r_ia, r_ca, r_za, r_la, r_da, r_aa, r_ias, r_cas, r_zas, r_las, r_das, r_aas, r_acp, r_new, r_nwa, r_nwq, r_ret, r_irt, r_zrt, r_lrt, r_drt, r_art, r_thr, r_cV0, r_cV1, r_cV2, r_cV3, r_cV4, r_cV5, r_cI0, r_cS0, r_cS1, r_cS2, r_cS3, r_cX0, r_cX1, r_cX2, r_cX3, r_rc, r_oi, r_refx, r_i10, r_i01, r_rfs, r_mem0, r_memc, r_beq, r_kl0, r_klz, r_kl1i, r_kl1r, r_kl1n, r_kl1l, r_kl1d, List.length_cons, List.length_nil, List.getElem?_cons_zero, List.getElem?_cons_succ, List.set_cons_zero, List.set_cons_succ, true_and, and_true, not_true, not_false_eq_true, false_implies, true_implies, or_true, true_or, or_false, false_or, Bool.or_false, Bool.false_or, decide_false, decide_true, Nat.reduceLT, Nat.reduceLeDiff, Nat.reduceAdd, Nat.reduceSub, ↓reduceIte, Nat.reduceEqDiff, Nat.lt_add_one]
  have q1 : fr I (mz_row (mz_u I me 2 0) A.k (s_fill 220 (-1) (mz_u I me 2 0 A.k))) [me, A.k] := fr_row2 (fr_u2 fr_refl (by simp)) (by simp)
  refine c_beginB b1 b2 b3 (by omega) (fun I2 L2 f2' l2 hB2 => ?_)
  simp only [cd_X1_begin, e1, e2, hE1, g1, g2, g3, g4, g5, f1, b1, s1, m1, r_rn0, r_rnc, r_vk0, r_vkc, r_vks, r_kci, r_kcv, r_ild, r_ald, r_lld, r_dld, r_Li, r_La, r_Ll, r_Ld, r_Ki, r_Ka, r_Kl, r_Kd, r_Kn, r_ist, r_ast, r_lst, r_dst, r_iinc, r_int, r_lng, r_dbl, r_i2, r_i1, r_l2, r_lsh, r_i2z, r_l2z, r_i2l, r_l2i, r_i2d, r_lcmp, r_ddiv, r_dcmpl, r_dup, r_dup2, r_pop, r_one_int, r_one_ref, r_go, r_if, r_ic, r_tsw, r_lsw, r_sw0, r_swc, r_lk0, r_lkc, r_kp, r_gI, r_gL, r_gR, r_pI, r_pZ, r_pL, r_pR, r_gs, r_ia, r_ca, r_za, r_la, r_da, r_aa, r_ias, r_cas, r_zas, r_las, r_das, r_aas, r_acp, r_new, r_nwa, r_nwq, r_ret, r_irt, r_zrt, r_lrt, r_drt, r_art, r_thr, r_cV0, r_cV1, r_cV2, r_cV3, r_cV4, r_cV5, r_cI0, r_cS0, r_cS1, r_cS2, r_cS3, r_cX0, r_cX1, r_cX2, r_cX3, r_rc, r_oi, r_refx, r_i10, r_i01, r_rfs, r_mem0, r_memc, r_beq, r_kl0, r_klz, r_kl1i, r_kl1r, r_kl1n, r_kl1l, r_kl1d, List.length_cons, List.length_nil, List.getElem?_cons_zero, List.getElem?_cons_succ, List.set_cons_zero, List.set_cons_succ, true_and, and_true, not_true, not_false_eq_true, false_implies, true_implies, or_true, true_or, or_false, false_or, Bool.or_false, Bool.false_or, decide_false, decide_true, Nat.reduceLT, Nat.reduceLeDiff, Nat.reduceAdd, Nat.reduceSub, ↓reduceIte, Nat.reduceEqDiff, Nat.lt_add_one]
  refine c_beginS hS (fun I3 f3' hs3 => ?_)
  simp only [cd_X1_begin, e1, e2, hE1, g1, g2, g3, g4, g5, f1, b1, s1, m1, r_rn0, r_rnc, r_vk0, r_vkc, r_vks, r_kci, r_kcv, r_ild, r_ald, r_lld, r_dld, r_Li, r_La, r_Ll, r_Ld, r_Ki, r_Ka, r_Kl, r_Kd, r_Kn, r_ist, r_ast, r_lst, r_dst, r_iinc, r_int, r_lng, r_dbl, r_i2, r_i1, r_l2, r_lsh, r_i2z, r_l2z, r_i2l, r_l2i, r_i2d, r_lcmp, r_ddiv, r_dcmpl, r_dup, r_dup2, r_pop, r_one_int, r_one_ref, r_go, r_if, r_ic, r_tsw, r_lsw, r_sw0, r_swc, r_lk0, r_lkc, r_kp, r_gI, r_gL, r_gR, r_pI, r_pZ, r_pL, r_pR, r_gs, r_ia, r_ca, r_za, r_la, r_da, r_aa, r_ias, r_cas, r_zas, r_las, r_das, r_aas, r_acp, r_new, r_nwa, r_nwq, r_ret, r_irt, r_zrt, r_lrt, r_drt, r_art, r_thr, r_cV0, r_cV1, r_cV2, r_cV3, r_cV4, r_cV5, r_cI0, r_cS0, r_cS1, r_cS2, r_cS3, r_cX0, r_cX1, r_cX2, r_cX3, r_rc, r_oi, r_refx, r_i10, r_i01, r_rfs, r_mem0, r_memc, r_beq, r_kl0, r_klz, r_kl1i, r_kl1r, r_kl1n, r_kl1l, r_kl1d, List.length_cons, List.length_nil, List.getElem?_cons_zero, List.getElem?_cons_succ, List.set_cons_zero, List.set_cons_succ, true_and, and_true, not_true, not_false_eq_true, false_implies, true_implies, or_true, true_or, or_false, false_or, Bool.or_false, Bool.false_or, decide_false, decide_true, Nat.reduceLT, Nat.reduceLeDiff, Nat.reduceAdd, Nat.reduceSub, ↓reduceIte, Nat.reduceEqDiff, Nat.lt_add_one]
  obtain ⟨z0, z1, z2, z3, z4, z5, z6, z7, z8, z9⟩ := hs3
  have q3 : fr I I3 [me, A.k, A.b, A.v, A.s, A.c] := fr_tr (fr_tr q1 f2' (by simp) (by simp) : fr I I2 [me, A.k, A.b, A.v]) f3' (by simp) (by simp)
  have n1 : ∀ {a : Nat} {x : Nat × Nat}, (a, x) ∈ T.1 → x ≠ (0, 4) → mz_u (mz_u (mz_u I3 A.g 4 (-1)) A.g 5 0) A.g 6 0 a = I3 a := fun q e => by rw [mz_u_ne (ne q g1 e), mz_u_ne (ne q g1 e), mz_u_ne (ne q g1 e)]
  have ek : I3 A.k = s_fill 220 (-1) (mz_u I me 2 0 A.k) := by
    rw [f3' _ (by simp; exact ⟨ne f2 s1 (by decide), ne f2 s2 (by decide)⟩), f2' _ (by simp; exact ⟨ne f2 b1 (by decide), ne f2 b2 (by decide)⟩), mz_row_eq]
  have ev : I3 A.v = I2 A.v := f3' _ (by simp; exact ⟨ne b2 s1 (by decide), ne b2 s2 (by decide)⟩)
  have eb : I3 A.b = I2 A.b := f3' _ (by simp; exact ⟨ne b1 s1 (by decide), ne b1 s2 (by decide)⟩)
  have hQ : p_Q T (mz_u (mz_u (mz_u I3 A.g 4 (-1)) A.g 5 0) A.g 6 0) L2 A B (o_zero n0) := by
    obtain ⟨v1, v2, v3, v4, v5⟩ := hB2
    refine ⟨⟨hA, ?_, fun r hr => zero_nof hr⟩, ⟨mz_u_eq, rfl⟩, ⟨?_, Or.inl rfl⟩, ⟨?_, ?_⟩, ⟨(n0, 0), rfl, rfl, v1, ?_, v3, ?_, v5⟩, ?_, show (1 : Int32) = w_lv 0 by decide, Or.inl rfl, ⟨0, Nat.zero_le _, rfl, ⟨fun _ => rfl, fun _ => rfl⟩⟩, ?_, fun q => absurd rfl q⟩
    · intro i hi
      rw [n1 f2 (by decide), ek, zero_cell hi]
      unfold s_fill
      rw [if_pos hi]; decide
    · rw [mz_u_nk (by decide), mz_u_nk (by decide), mz_u_eq]; rfl
    · left; rw [mz_u_nk (by decide), mz_u_eq]
    · rw [mz_u_nk (by decide), mz_u_eq]; rfl
    · intro i hi
      rw [n1 b2 (by decide), ev]; exact v2 i hi
    · rw [n1 b1 (by decide), eb]; exact v4
    · rw [n1 s1 (by decide), z0, z1, z2, z3, z4, z5, z6, z7, z8]
      exact ⟨rfl, rfl, rfl, rfl, rfl, rfl, rfl, rfl, rfl⟩
    · intro sp n a b
      rw [n1 s2 (by decide), z9 _ (by omega)]
      unfold o_zero
      rw [if_neg (by omega), if_neg (by omega), if_neg (by omega)]
  have q4 : fr I (mz_u (mz_u (mz_u I3 A.g 4 (-1)) A.g 5 0) A.g 6 0) [me, A.k, A.b, A.v, A.s, A.c, A.g] := fr_u2 (fr_u2 (fr_u2 (fr_tr q3 fr_refl (by simp) (fun _ q => q)) (by simp)) (by simp)) (by simp)
  have hgm : A.g ≠ me := ne g1 m1 (by decide)
  have eme3 : I3 me = mz_u I me 2 0 me := by
    rw [f3' _ (by simp; exact ⟨ne m1 s1 (by decide), ne m1 s2 (by decide)⟩), f2' _ (by simp; exact ⟨ne m1 b1 (by decide), ne m1 b2 (by decide)⟩), mz_row_ne (ne m1 f2 (by decide))]
  have eme : mz_u (mz_u (mz_u I3 A.g 4 (-1)) A.g 5 0) A.g 6 0 me = mz_u I me 2 0 me := by rw [n1 m1 (by decide), eme3]
  have hM0 : p_M T (mz_u (mz_u (mz_u I3 A.g 4 (-1)) A.g 5 0) A.g 6 0) L2 me ra Aj nw 0 B rr := by
    refine ⟨⟨m1, m2, m3, m4, m5⟩, ⟨by rw [eme, mz_u_nk (by decide)]; exact m6, m7, by rw [eme, mz_u_eq]; rfl, by decide⟩, fun i hi => absurd hi (Nat.not_lt_zero _)⟩
  obtain ⟨hB9, hok⟩ := z_of_Q hQ
  refine c_takeB hB9 (fun I5 L5 f5 l5 hB5 => ?_)
  simp only [cd_X1_begin, e1, e2, hE1, g1, g2, g3, g4, g5, f1, b1, s1, m1, r_rn0, r_rnc, r_vk0, r_vkc, r_vks, r_kci, r_kcv, r_ild, r_ald, r_lld, r_dld, r_Li, r_La, r_Ll, r_Ld, r_Ki, r_Ka, r_Kl, r_Kd, r_Kn, r_ist, r_ast, r_lst, r_dst, r_iinc, r_int, r_lng, r_dbl, r_i2, r_i1, r_l2, r_lsh, r_i2z, r_l2z, r_i2l, r_l2i, r_i2d, r_lcmp, r_ddiv, r_dcmpl, r_dup, r_dup2, r_pop, r_one_int, r_one_ref, r_go, r_if, r_ic, r_tsw, r_lsw, r_sw0, r_swc, r_lk0, r_lkc, r_kp, r_gI, r_gL, r_gR, r_pI, r_pZ, r_pL, r_pR, r_gs, r_ia, r_ca, r_za, r_la, r_da, r_aa, r_ias, r_cas, r_zas, r_las, r_das, r_aas, r_acp, r_new, r_nwa, r_nwq, r_ret, r_irt, r_zrt, r_lrt, r_drt, r_art, r_thr, r_cV0, r_cV1, r_cV2, r_cV3, r_cV4, r_cV5, r_cI0, r_cS0, r_cS1, r_cS2, r_cS3, r_cX0, r_cX1, r_cX2, r_cX3, r_rc, r_oi, r_refx, r_i10, r_i01, r_rfs, r_mem0, r_memc, r_beq, r_kl0, r_klz, r_kl1i, r_kl1r, r_kl1n, r_kl1l, r_kl1d, List.length_cons, List.length_nil, List.getElem?_cons_zero, List.getElem?_cons_succ, List.set_cons_zero, List.set_cons_succ, true_and, and_true, not_true, not_false_eq_true, false_implies, true_implies, or_true, true_or, or_false, false_or, Bool.or_false, Bool.false_or, decide_false, decide_true, Nat.reduceLT, Nat.reduceLeDiff, Nat.reduceAdd, Nat.reduceSub, ↓reduceIte, Nat.reduceEqDiff, Nat.lt_add_one]
  have hQ5 := take_Q hU hQ f5 rfl hB5
  have hM5 := M_step hU hM0 hA hdj f5 (by simp [z_A.all]) l5
  have hgb : A.g ≠ A.b := ne g1 b1 (by decide)
  have hgv : A.g ≠ A.v := ne g1 b2 (by decide)
  refine c_appearU hE hE1 hQ5 hM5 hdj (q_kd_lt hok) (fun I' L' nw' r1 r2 r3 r4 r5 r6 => ?_)
  simp only [cd_X1_begin, e1, e2, hE1, g1, g2, g3, g4, g5, f1, b1, s1, m1, r_rn0, r_rnc, r_vk0, r_vkc, r_vks, r_kci, r_kcv, r_ild, r_ald, r_lld, r_dld, r_Li, r_La, r_Ll, r_Ld, r_Ki, r_Ka, r_Kl, r_Kd, r_Kn, r_ist, r_ast, r_lst, r_dst, r_iinc, r_int, r_lng, r_dbl, r_i2, r_i1, r_l2, r_lsh, r_i2z, r_l2z, r_i2l, r_l2i, r_i2d, r_lcmp, r_ddiv, r_dcmpl, r_dup, r_dup2, r_pop, r_one_int, r_one_ref, r_go, r_if, r_ic, r_tsw, r_lsw, r_sw0, r_swc, r_lk0, r_lkc, r_kp, r_gI, r_gL, r_gR, r_pI, r_pZ, r_pL, r_pR, r_gs, r_ia, r_ca, r_za, r_la, r_da, r_aa, r_ias, r_cas, r_zas, r_las, r_das, r_aas, r_acp, r_new, r_nwa, r_nwq, r_ret, r_irt, r_zrt, r_lrt, r_drt, r_art, r_thr, r_cV0, r_cV1, r_cV2, r_cV3, r_cV4, r_cV5, r_cI0, r_cS0, r_cS1, r_cS2, r_cS3, r_cX0, r_cX1, r_cX2, r_cX3, r_rc, r_oi, r_refx, r_i10, r_i01, r_rfs, r_mem0, r_memc, r_beq, r_kl0, r_klz, r_kl1i, r_kl1r, r_kl1n, r_kl1l, r_kl1d, List.length_cons, List.length_nil, List.getElem?_cons_zero, List.getElem?_cons_succ, List.set_cons_zero, List.set_cons_succ, true_and, and_true, not_true, not_false_eq_true, false_implies, true_implies, or_true, true_or, or_false, false_or, Bool.or_false, Bool.false_or, decide_false, decide_true, Nat.reduceLT, Nat.reduceLeDiff, Nat.reduceAdd, Nat.reduceSub, ↓reduceIte, Nat.reduceEqDiff, Nat.lt_add_one]
  refine hK I' L' ⟨?_, ?_, r3, ⟨nw', r4⟩, ?_, ?_⟩
  · refine fr_tr (fr_tr q4 f5 (fun a ha => ?_) (fun a ha => ?_) : fr I I5 (me :: (A.all ++ z_rec Aj))) r1 (fun _ q => q) (fun a ha => ?_)
    · simp only [List.mem_cons, List.not_mem_nil, or_false] at ha
      rcases ha with e | e | e | e | e | e | e <;> rw [e] <;> simp [z_A.all]
    · simp only [List.mem_cons, List.not_mem_nil, or_false] at ha
      rcases ha with e | e <;> rw [e] <;> simp [z_A.all]
    · simp only [List.mem_cons] at ha
      rcases ha with e | e | e | e | e
      · rw [e]; simp [z_A.all]
      · rw [e]; simp [z_A.all]
      · rw [e]; simp [z_A.all]
      · rw [e]; simp
      · exact List.mem_cons_of_mem _ (List.mem_append_right _ e)
  · exact fr_tr (fr_tr l2 l5 (fun _ q => q) (fun _ q => q) : fr L L5 [A.b]) r2 (by simp) (fun a ha => List.mem_cons_of_mem _ ha)
  · intro i hi
    rw [r5 i hi, f5 _ (by simp; exact ⟨hgb, hgv⟩), mz_u_nk (by omega), mz_u_nk (by omega), mz_u_nk (by omega), q3 _ (by simp; exact ⟨hgm, ne g1 f2 (by decide), hgb, hgv, ne g1 s1 (by decide), ne g1 s2 (by decide)⟩)]
  · intro i hi
    rw [r6 i hi, f5 _ (by simp; exact ⟨ne m1 b1 (by decide), ne m1 b2 (by decide)⟩), eme, mz_u_nk (by omega)]
end BEGIN
