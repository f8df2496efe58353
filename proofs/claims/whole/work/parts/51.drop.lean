/-! the engine: drop and tick -/
section DROP
variable {G : mz_G} {K : mz_K} {T : mz_T} {I : mz_I} {L : mz_L}
/-- the row of a piece that is dropped, ahead of its lock -/
def o_dropm (m : Nat → Int32) : Nat → Int32 := if 0 < m_room m then o_moved (m_u m 234 (m 234 + zI (2 * m_room m : Nat))) (m_st m) (m_c m) (m_r m - (m_room m : Nat)) else m
theorem pt_same {m : Nat → Int32} {v : Int32} : m_kd (m_u m 234 v) = m_kd m ∧ m_st (m_u m 234 v) = m_st m ∧ m_c (m_u m 234 v) = m_c m ∧ m_r (m_u m 234 v) = m_r m ∧ s_fm (m_u m 234 v) = s_fm m := by
  have k0 : ∀ j, j ≠ 234 → m_u m 234 v j = m j := fun j e => m_u_ne e
  refine ⟨?_, ?_, ?_, ?_, s_fm_eq (fun i hi => k0 i (by omega))⟩
  · unfold m_kd; rw [k0 222 (by decide)]
  · unfold m_st; rw [k0 223 (by decide)]
  · unfold m_c; rw [k0 224 (by decide)]
  · unfold m_r; rw [k0 225 (by decide)]
theorem Go_tr {me ra B many' : Nat} {A : z_A} {Aj : Nat → z_A} {m' : Nat → Int32} {rr' : Nat → Nat → Int32} {I1 I' : mz_I} {L' : mz_L} {S : List Nat} (hm : me ∉ A.all) (hf : fr I I1 S) (hS : ∀ a, a ∈ S → a ∈ A.all) (hg : A.g ∉ S) (h : p_Go T I1 L I' L' A me ra Aj many' B m' rr') : p_Go T I L I' L' A me ra Aj many' B m' rr' := by
  obtain ⟨h1, h2, h3, h4, h5, h6⟩ := h
  refine ⟨fr_tr hf h1 (fun a ha => List.mem_cons_of_mem _ (List.mem_append_left _ (hS a ha))) (fun _ q => q), h2, h3, h4, fun i hi => by rw [h5 i hi, hf _ hg], fun i hi => by rw [h6 i hi, hf _ (fun e => hm (hS _ e))]⟩
theorem c_dropE {en me ra nw many B fi lt : Nat} {A : z_A} {Aj : Nat → z_A} {m : Nat → Int32} {rr : Nat → Nat → Int32} (hE : p_E T en A) (hE1 : T.2 en 1 = some me) (hE2 : T.2 en 2 = some fi) (hfi : (fi, 0, 3) ∈ T.1 ∧ T.2 fi 0 = some lt ∧ (lt, 1, 448) ∈ T.1) (h : p_R T I L A B m) (hl : m 221 = 0) (hB : B < 1000000000) (hM : p_M T I L me ra Aj nw many B rr) (hdj : ∀ j, j < 6 → z_dj (Aj j) A)
    (hK : ∀ I' L' le, le = s_lc (I lt) (m_kd m) (m_st m) (m_c m) 4 → p_Go T I L I' L' A me ra Aj (w_mn (m_lfit (o_dropm m) le) many) (B + 1) (o_lock (o_dropm m) le) (w_rr (m_lfit (o_dropm m) le) many rr (o_app (o_draw (o_lock1 (o_dropm m) le)) (m_dk (o_lock1 (o_dropm m) le)))) → K (some (.int (zI (m_n (o_fill (o_dropm m)))))) T I' L') : mz_Ctr G M_X1_dropPiece [.ref en] T I L K := by
  refine mz_apartC fun hU => ?_
  obtain ⟨e1, e2⟩ := id hE
  have hA := h.sh
  obtain ⟨⟨g1, g2, g3, g4, g5⟩, hF, hX, ⟨b1, b2, b3⟩, hS⟩ := id hA
  obtain ⟨x1, x2, x3⟩ := id hX
  obtain ⟨s1, s2, s3, s4, s5⟩ := id hS
  obtain ⟨i1, i2, i3⟩ := id hfi
  have m1 : (me, 0, 6) ∈ T.1 := hM.1.1
  have hmA : me ∉ A.all := z_out hU hA m1 (by decide)
  have ne : ∀ {a b : Nat} {x y : Nat × Nat}, (a, x) ∈ T.1 → (b, y) ∈ T.1 → x ≠ y → a ≠ b := fun a b c => mz_ne hU a b c
  obtain ⟨hp, hq, hfit⟩ := h.now hl
  obtain ⟨p1, p2, p3, p4, p5, p6⟩ := id hp
  have hrl := s_rm_le (e := s_fm m) (kd := m_kd m) (s := m_st m) (c := m_c m) 22 (m_r m)
  have hrl2 : m_room m ≤ 22 := hrl
  refine mz_ofl mk_X1_dropPiece rfl (Nat.le_of_ble_eq_true rfl) (Nat.le_of_ble_eq_true rfl) [some (.ref en), none] rfl ?_
  refine mz_vc ok_X1_dropPiece [] [(), (), (), (), (), (), (), (), (), (), (), (), (), (), (), (), (), (), (), (), (), (), (), (), (), (), (), (), (), ()] ?_
  simp only [cd_X1_dropPiece, e1, e2, g1, g3, g5, x1, x2, x3, s1, r_rn0, r_rnc, r_vk0, r_vkc, r_vks, r_kci, r_kcv, r_ild, r_ald, r_lld, r_dld, r_Li, r_La, r_Ll, r_Ld, r_Ki, r_Ka, r_Kl, r_Kd, r_Kn, r_ist, r_ast, r_lst, r_dst, r_iinc, r_int, r_lng, r_dbl, r_i2, r_i1, r_l2, r_lsh, r_i2z, r_l2z, r_i2l, r_l2i, r_i2d, r_lcmp, r_ddiv, r_dcmpl, r_dup, r_dup2, r_pop, r_one_int, r_one_ref, r_go, r_if, r_ic, r_tsw, r_lsw, r_sw0, r_swc, r_lk0, r_lkc, r_kp, r_gI, r_gL, r_gR, r_pI, r_pZ, r_pL, r_pR, r_gs, r_ia, r_ca, r_za, r_la, r_da, r_aa, r_ias, r_cas, r_zas, r_las, r_das, r_aas, r_acp, r_new, r_nwa, r_nwq, r_ret, r_irt, r_zrt, r_lrt, r_drt, r_art, r_thr, r_cV0, r_cV1, r_cV2, r_cV3, r_cV4, r_cV5, r_cI0, r_cS0, r_cS1, r_cS2, r_cS3, r_cX0, r_cX1, r_cX2, r_cX3, r_rc, r_oi, r_refx, r_i10, r_i01, r_rfs, r_mem0, r_memc, r_beq, r_kl0, r_klz, r_kl1i, r_kl1r, r_kl1n, r_kl1l, r_kl1d, List.length_cons, List.length_nil, List.getElem?_cons_zero, List.getElem?_cons_succ, List.set_cons_zero, List.set_cons_succ, true_and, and_true, not_true, not_false_eq_true, false_implies, true_implies, or_true, true_or, or_false, false_or, Bool.or_false, Bool.false_or, decide_false, decide_true, Nat.reduceLT, Nat.reduceLeDiff, Nat.reduceAdd, Nat.reduceSub, ↓reduceIte, Nat.reduceEqDiff, Nat.lt_add_one]
  refine c_sinkFar hE h hl (fun I1 q1 hp1 => ?_)
  simp only [cd_X1_dropPiece, e1, e2, g1, g3, g5, x1, x2, x3, s1, r_rn0, r_rnc, r_vk0, r_vkc, r_vks, r_kci, r_kcv, r_ild, r_ald, r_lld, r_dld, r_Li, r_La, r_Ll, r_Ld, r_Ki, r_Ka, r_Kl, r_Kd, r_Kn, r_ist, r_ast, r_lst, r_dst, r_iinc, r_int, r_lng, r_dbl, r_i2, r_i1, r_l2, r_lsh, r_i2z, r_l2z, r_i2l, r_l2i, r_i2d, r_lcmp, r_ddiv, r_dcmpl, r_dup, r_dup2, r_pop, r_one_int, r_one_ref, r_go, r_if, r_ic, r_tsw, r_lsw, r_sw0, r_swc, r_lk0, r_lkc, r_kp, r_gI, r_gL, r_gR, r_pI, r_pZ, r_pL, r_pR, r_gs, r_ia, r_ca, r_za, r_la, r_da, r_aa, r_ias, r_cas, r_zas, r_las, r_das, r_aas, r_acp, r_new, r_nwa, r_nwq, r_ret, r_irt, r_zrt, r_lrt, r_drt, r_art, r_thr, r_cV0, r_cV1, r_cV2, r_cV3, r_cV4, r_cV5, r_cI0, r_cS0, r_cS1, r_cS2, r_cS3, r_cX0, r_cX1, r_cX2, r_cX3, r_rc, r_oi, r_refx, r_i10, r_i01, r_rfs, r_mem0, r_memc, r_beq, r_kl0, r_klz, r_kl1i, r_kl1r, r_kl1n, r_kl1l, r_kl1d, List.length_cons, List.length_nil, List.getElem?_cons_zero, List.getElem?_cons_succ, List.set_cons_zero, List.set_cons_succ, true_and, and_true, not_true, not_false_eq_true, false_implies, true_implies, or_true, true_or, or_false, false_or, Bool.or_false, Bool.false_or, decide_false, decide_true, Nat.reduceLT, Nat.reduceLeDiff, Nat.reduceAdd, Nat.reduceSub, ↓reduceIte, Nat.reduceEqDiff, Nat.lt_add_one]
  rw [l_0, z_le (by omega) (by omega)]
  refine ⟨fun q => ?_, fun q => ?_⟩
  · have hr0 : m_room m = 0 := by omega
    rw [hr0] at hp1
    have hp1' : p_Pos T I1 A.p (m_kd m) (m_st m) (m_c m) (m_r m) := by simpa using hp1
    obtain ⟨w1, w2, w3, w4, w5, w6⟩ := id hp1'
    have hR1 : p_R T I1 L A B m := p_R_pos hU h q1 (fun i hi => by
      have : i = 0 ∨ i = 1 ∨ i = 2 ∨ i = 3 := by omega
      rcases this with e | e | e | e <;> subst e
      · rw [w2, p2]
      · rw [w3, p3]
      · rw [w4, p4]
      · rw [w5, p5])
    have hM1 := M_step hU hM hA hdj q1 (by simp [z_A.all]) (fr_refl : fr L L [A.b])
    have elt : I1 lt = I lt := fr_ne1 q1 (ne i3 x3 (by decide))
    have em : o_dropm m = m := if_neg (by omega)
    rw [em] at hK
    refine c_lockE hE hE1 hE2 hfi hR1 hl hB hM1 hdj (fun I' L' hGo => ?_)
    simp only [cd_X1_dropPiece, e1, e2, g1, g3, g5, x1, x2, x3, s1, r_rn0, r_rnc, r_vk0, r_vkc, r_vks, r_kci, r_kcv, r_ild, r_ald, r_lld, r_dld, r_Li, r_La, r_Ll, r_Ld, r_Ki, r_Ka, r_Kl, r_Kd, r_Kn, r_ist, r_ast, r_lst, r_dst, r_iinc, r_int, r_lng, r_dbl, r_i2, r_i1, r_l2, r_lsh, r_i2z, r_l2z, r_i2l, r_l2i, r_i2d, r_lcmp, r_ddiv, r_dcmpl, r_dup, r_dup2, r_pop, r_one_int, r_one_ref, r_go, r_if, r_ic, r_tsw, r_lsw, r_sw0, r_swc, r_lk0, r_lkc, r_kp, r_gI, r_gL, r_gR, r_pI, r_pZ, r_pL, r_pR, r_gs, r_ia, r_ca, r_za, r_la, r_da, r_aa, r_ias, r_cas, r_zas, r_las, r_das, r_aas, r_acp, r_new, r_nwa, r_nwq, r_ret, r_irt, r_zrt, r_lrt, r_drt, r_art, r_thr, r_cV0, r_cV1, r_cV2, r_cV3, r_cV4, r_cV5, r_cI0, r_cS0, r_cS1, r_cS2, r_cS3, r_cX0, r_cX1, r_cX2, r_cX3, r_rc, r_oi, r_refx, r_i10, r_i01, r_rfs, r_mem0, r_memc, r_beq, r_kl0, r_klz, r_kl1i, r_kl1r, r_kl1n, r_kl1l, r_kl1d, List.length_cons, List.length_nil, List.getElem?_cons_zero, List.getElem?_cons_succ, List.set_cons_zero, List.set_cons_succ, true_and, and_true, not_true, not_false_eq_true, false_implies, true_implies, or_true, true_or, or_false, false_or, Bool.or_false, Bool.false_or, decide_false, decide_true, Nat.reduceLT, Nat.reduceLeDiff, Nat.reduceAdd, Nat.reduceSub, ↓reduceIte, Nat.reduceEqDiff, Nat.lt_add_one]
    rw [elt] at hGo
    exact hK I' L' _ rfl (Go_tr hmA q1 (by simp [z_A.all]) (by simp; exact ne g1 x3 (by decide)) hGo)
  · have hr0 : 0 < m_room m := by omega
    have hsp : A.s ≠ A.p := ne s1 x3 (by decide)
    have hsx : A.x ≠ A.s := ne x1 s1 (by decide)
    have hps : A.p ≠ A.s := Ne.symm hsp
    have hxp : A.x ≠ A.p := ne x1 x3 (by decide)
    have es : I1 A.s 0 = m 234 := by rw [fr_ne1 q1 hsp]; exact h.sc.1
    rw [es, l_2, z_mul, show (2 : Int) * (m_room m : Nat) = (2 * m_room m : Nat) by omega]
    refine c_noteFall hX ?_
    simp only [cd_X1_dropPiece, e1, e2, g1, g3, g5, x1, x2, x3, s1, r_rn0, r_rnc, r_vk0, r_vkc, r_vks, r_kci, r_kcv, r_ild, r_ald, r_lld, r_dld, r_Li, r_La, r_Ll, r_Ld, r_Ki, r_Ka, r_Kl, r_Kd, r_Kn, r_ist, r_ast, r_lst, r_dst, r_iinc, r_int, r_lng, r_dbl, r_i2, r_i1, r_l2, r_lsh, r_i2z, r_l2z, r_i2l, r_l2i, r_i2d, r_lcmp, r_ddiv, r_dcmpl, r_dup, r_dup2, r_pop, r_one_int, r_one_ref, r_go, r_if, r_ic, r_tsw, r_lsw, r_sw0, r_swc, r_lk0, r_lkc, r_kp, r_gI, r_gL, r_gR, r_pI, r_pZ, r_pL, r_pR, r_gs, r_ia, r_ca, r_za, r_la, r_da, r_aa, r_ias, r_cas, r_zas, r_las, r_das, r_aas, r_acp, r_new, r_nwa, r_nwq, r_ret, r_irt, r_zrt, r_lrt, r_drt, r_art, r_thr, r_cV0, r_cV1, r_cV2, r_cV3, r_cV4, r_cV5, r_cI0, r_cS0, r_cS1, r_cS2, r_cS3, r_cX0, r_cX1, r_cX2, r_cX3, r_rc, r_oi, r_refx, r_i10, r_i01, r_rfs, r_mem0, r_memc, r_beq, r_kl0, r_klz, r_kl1i, r_kl1r, r_kl1n, r_kl1l, r_kl1d, List.length_cons, List.length_nil, List.getElem?_cons_zero, List.getElem?_cons_succ, List.set_cons_zero, List.set_cons_succ, true_and, and_true, not_true, not_false_eq_true, false_implies, true_implies, or_true, true_or, or_false, false_or, Bool.or_false, Bool.false_or, decide_false, decide_true, Nat.reduceLT, Nat.reduceLeDiff, Nat.reduceAdd, Nat.reduceSub, ↓reduceIte, Nat.reduceEqDiff, Nat.lt_add_one]
    generalize hv : m 234 + zI ((2 * m_room m : Nat) : Int) = v
    have hR := p_R_pt (v := v) hU h
    obtain ⟨t1, t2, t3, t4, t5⟩ := pt_same (m := m) (v := v)
    have fj : fr (mz_u I A.s 0 v) (mz_u I1 A.s 0 v) [A.x, A.p] := by
      intro a ha
      have ha2 : a ≠ A.p := fun e => ha (by simp [e])
      funext j
      rw [mz_u_at, mz_u_at, fr_ne1 q1 ha2]
    have hp3 : p_Pos T (mz_u I1 A.s 0 v) A.p (m_kd m) (m_st m) (m_c m) (m_r m - (m_room m : Nat)) := by
      obtain ⟨w1, w2, w3, w4, w5, w6⟩ := id hp1
      exact ⟨w1, by rw [mz_u_ne hps]; exact w2, by rw [mz_u_ne hps]; exact w3, by rw [mz_u_ne hps]; exact w4, by rw [mz_u_ne hps]; exact w5, w6⟩
    have hfit3 := s_rm_fit (e := s_fm m) (kd := m_kd m) (s := m_st m) (c := m_c m) 22 (m_r m) hr0
    have hl2 : m_u m 234 v 221 = 0 := by rw [m_u_ne (by decide)]; exact hl
    have key := moved_R (s := m_st m) (c := m_c m) (r := m_r m - (m_room m : Nat)) hU hR hl2 fj (by rw [t1]; exact hp3) (by rw [t1, t5]; exact hfit3) (fun i a b => by rw [mz_u_ne hsx, mz_u_ne hsx, fr_ne1 q1 hxp])
    have em : o_dropm m = o_moved (m_u m 234 v) (m_st m) (m_c m) (m_r m - (m_room m : Nat)) := by unfold o_dropm; rw [if_pos hr0, hv]
    rw [em] at hK
    have q3 : fr I (w_nr (mz_u (mz_u (mz_u I1 A.s 0 v) A.x 1 0) A.x 6 (-1)) A.x A.p) [A.s, A.x, A.p] := fr_tr (fr_u : fr I (mz_u I A.s 0 v) [A.s]) key.1 (by simp) (by simp)
    have hM1 := M_step hU hM hA hdj q3 (by simp [z_A.all]) (fr_refl : fr L L [A.b])
    have elt : (w_nr (mz_u (mz_u (mz_u I1 A.s 0 v) A.x 1 0) A.x 6 (-1)) A.x A.p) lt = I lt := q3 _ (by simp; exact ⟨ne i3 s1 (by decide), ne i3 x1 (by decide), ne i3 x3 (by decide)⟩)
    have out : ∀ j, j = 221 ∨ j = 222 → o_moved (m_u m 234 v) (m_st m) (m_c m) (m_r m - (m_room m : Nat)) j = m j := by
      intro j hj
      unfold o_moved
      rw [set2_out (by omega), m_u_ne (by omega), m_u_ne (by omega), m_u_ne (by omega), m_u_ne (by omega), m_u_ne (by omega), m_u_ne (by omega)]
    have k1 : m_kd (o_moved (m_u m 234 v) (m_st m) (m_c m) (m_r m - (m_room m : Nat))) = m_kd m := by unfold m_kd; rw [out 222 (by decide)]
    have k2 : m_st (o_moved (m_u m 234 v) (m_st m) (m_c m) (m_r m - (m_room m : Nat))) = m_st m := by
      have e9 : o_moved (m_u m 234 v) (m_st m) (m_c m) (m_r m - (m_room m : Nat)) 223 = zI (m_st m) := by
        unfold o_moved
        rw [set2_out (by decide), m_u_ne (by decide), m_u_ne (by decide), m_u_ne (by decide), m_u_ne (by decide), m_u_eq]
      show (o_moved (m_u m 234 v) (m_st m) (m_c m) (m_r m - (m_room m : Nat)) 223).toNatClampNeg = m_st m
      rw [e9, z_nat (by omega)]; rfl
    have k3 : m_c (o_moved (m_u m 234 v) (m_st m) (m_c m) (m_r m - (m_room m : Nat))) = m_c m := by
      have e9 : o_moved (m_u m 234 v) (m_st m) (m_c m) (m_r m - (m_room m : Nat)) 224 = zI (m_c m) := by
        unfold o_moved
        rw [set2_out (by decide), m_u_ne (by decide), m_u_ne (by decide), m_u_ne (by decide), m_u_eq]
      show (o_moved (m_u m 234 v) (m_st m) (m_c m) (m_r m - (m_room m : Nat)) 224).toInt = m_c m
      rw [e9, z_toInt (by omega)]
    refine c_lockE hE hE1 hE2 hfi key.2 (by rw [out 221 (by decide)]; exact hl) hB hM1 hdj (fun I' L' hGo => ?_)
    simp only [cd_X1_dropPiece, e1, e2, g1, g3, g5, x1, x2, x3, s1, r_rn0, r_rnc, r_vk0, r_vkc, r_vks, r_kci, r_kcv, r_ild, r_ald, r_lld, r_dld, r_Li, r_La, r_Ll, r_Ld, r_Ki, r_Ka, r_Kl, r_Kd, r_Kn, r_ist, r_ast, r_lst, r_dst, r_iinc, r_int, r_lng, r_dbl, r_i2, r_i1, r_l2, r_lsh, r_i2z, r_l2z, r_i2l, r_l2i, r_i2d, r_lcmp, r_ddiv, r_dcmpl, r_dup, r_dup2, r_pop, r_one_int, r_one_ref, r_go, r_if, r_ic, r_tsw, r_lsw, r_sw0, r_swc, r_lk0, r_lkc, r_kp, r_gI, r_gL, r_gR, r_pI, r_pZ, r_pL, r_pR, r_gs, r_ia, r_ca, r_za, r_la, r_da, r_aa, r_ias, r_cas, r_zas, r_las, r_das, r_aas, r_acp, r_new, r_nwa, r_nwq, r_ret, r_irt, r_zrt, r_lrt, r_drt, r_art, r_thr, r_cV0, r_cV1, r_cV2, r_cV3, r_cV4, r_cV5, r_cI0, r_cS0, r_cS1, r_cS2, r_cS3, r_cX0, r_cX1, r_cX2, r_cX3, r_rc, r_oi, r_refx, r_i10, r_i01, r_rfs, r_mem0, r_memc, r_beq, r_kl0, r_klz, r_kl1i, r_kl1r, r_kl1n, r_kl1l, r_kl1d, List.length_cons, List.length_nil, List.getElem?_cons_zero, List.getElem?_cons_succ, List.set_cons_zero, List.set_cons_succ, true_and, and_true, not_true, not_false_eq_true, false_implies, true_implies, or_true, true_or, or_false, false_or, Bool.or_false, Bool.false_or, decide_false, decide_true, Nat.reduceLT, Nat.reduceLeDiff, Nat.reduceAdd, Nat.reduceSub, ↓reduceIte, Nat.reduceEqDiff, Nat.lt_add_one]
    rw [elt, k1, k2, k3] at hGo
    exact hK I' L' _ rfl (Go_tr hmA q3 (by simp [z_A.all]) (by simp; exact ⟨ne g1 s1 (by decide), ne g1 x1 (by decide), ne g1 x3 (by decide)⟩) hGo)
end DROP
