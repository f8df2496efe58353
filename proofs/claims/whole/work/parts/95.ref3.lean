/-! the reference's face: beginning, ticks, settings, reading -/
section REF3
variable {G : mz_G} {K : mz_K} {X : mz_X} {T : mz_T} {I : mz_I} {L : mz_L}
variable {D : Nat → Nat} {many n : Nat} {m : Nat → Int32} {rr : Nat → Nat → Int32} {has : Bool} {ms : Nat → Int32} {s0 s1 dly lim : Int32} {cs : Nat → Int32} {fl : Int32}

noncomputable def r_begun (m : Nat → Int32) (rr : Nat → Nat → Int32) (n0 : Nat) : g_S := (o_put (o_draw (o_zeroB m n0)) (m_dk (o_zeroB m n0)), w_mn (o_fits (o_draw (o_zeroB m n0)) (m_dk (o_zeroB m n0))) 0, w_rr (o_fits (o_draw (o_zeroB m n0)) (m_dk (o_zeroB m n0))) 0 rr (o_app (o_draw (o_zeroB m n0)) (m_dk (o_zeroB m n0))))
def k_neg (x : Int32) : Int32 := if 0 ≤ x then 0 else 1
theorem z_pos {x : Int32} (h : 0 ≤ x) : ∃ n0 : Nat, x = zI n0 ∧ n0 < 2147483648 ∧ x.toInt.toNat = n0 := by
  have q9 := z_rng x
  have q8 : 0 ≤ x.toInt := by rw [z_leF] at h; exact h
  exact ⟨x.toInt.toNat, by rw [Int.toNat_of_nonneg q8]; exact z_of x, by omega, rfl⟩
theorem c_startP {x : Int32} (hM : p_Mo T D) (hC : r_S I D (m, many, rr) has ms s0 s1 dly lim n cs fl) (h : ∀ I' v, r_S I' D (s_if (k_neg x) (r_begun m rr x.toInt.toNat) (m, many, rr)) has ms s0 s1 dly lim n cs fl → r_N I I' D (k_neg x) → (k_neg x = 0 → v = (r_begun m rr x.toInt.toNat).1 222) → K (some (.int v)) T I' L) : mz_Ctr G M_X12_start [.ref (D 0), .int x] T I L K := by
  refine mz_apartC fun hU => ?_
  obtain ⟨h0, ⟨r1, r2, r3, r5, r6, r8, r9, r10, r11, r12, r13, r14, r16, r17, r19, r20, r22, r23⟩, ⟨t1, t2, t3, t5, t6, t8, t9, t10, t11, t12, t13, t14, t16, t17, t19, t20, t22, t23⟩, ⟨u1, u2⟩⟩ := id hM
  obtain ⟨⟨hMc, hSp⟩, ⟨e1, e2, e3, e4⟩, e5, ⟨e6, e7⟩, e8⟩ := id hC
  have e1 : I (D 1) = m := e1
  have e2 : I (D 0) 4 = zI many := e2
  have e3 : many ≤ 6 := e3
  have e4 : ∀ i j, i < many → j < 268 → d_rr I D i j = rr i j := e4
  subst e1
  refine mz_ofl mk_X12_start rfl (Nat.le_of_ble_eq_true rfl) (Nat.le_of_ble_eq_true rfl) [some (.ref (D 0)), some (.int x)] rfl ?_
  refine mz_vc ok_X12_start [] [(), (), (), (), (), (), (), (), (), (), (), (), (), (), (), (), (), (), (), (), (), (), (), (), (), (), (), (), (), ()] ?_
  simp only [cd_X12_start, h0, r1, ix_222 t1, n_222, r_rn0, r_rnc, r_vk0, r_vkc, r_vks, r_kci, r_kcv, r_ild, r_ald, r_lld, r_dld, r_Li, r_La, r_Ll, r_Ld, r_Ki, r_Ka, r_Kl, r_Kd, r_Kn, r_ist, r_ast, r_lst, r_dst, r_iinc, r_int, r_lng, r_dbl, r_i2, r_i1, r_l2, r_lsh, r_i2z, r_l2z, r_i2l, r_l2i, r_i2d, r_lcmp, r_ddiv, r_dcmpl, r_dup, r_dup2, r_pop, r_one_int, r_one_ref, r_go, r_if, r_ic, r_tsw, r_lsw, r_sw0, r_swc, r_lk0, r_lkc, r_kp, r_gI, r_gL, r_gR, r_pI, r_pZ, r_pL, r_pR, r_gs, r_ia, r_ca, r_za, r_la, r_da, r_aa, r_ias, r_cas, r_zas, r_las, r_das, r_aas, r_acp, r_new, r_nwa, r_nwq, r_ret, r_irt, r_zrt, r_lrt, r_drt, r_art, r_thr, r_cV0, r_cV1, r_cV2, r_cV3, r_cV4, r_cV5, r_cI0, r_cS0, r_cS1, r_cS2, r_cS3, r_cX0, r_cX1, r_cX2, r_cX3, r_rc, r_oi, r_refx, r_i10, r_i01, r_rfs, r_mem0, r_memc, r_beq, r_kl0, r_klz, r_kl1i, r_kl1r, r_kl1n, r_kl1l, r_kl1d, List.length_cons, List.length_nil, List.getElem?_cons_zero, List.getElem?_cons_succ, List.set_cons_zero, List.set_cons_succ, true_and, and_true, not_true, not_false_eq_true, false_implies, true_implies, or_true, true_or, or_false, false_or, Bool.or_false, Bool.false_or, decide_false, decide_true, Nat.reduceLT, Nat.reduceLeDiff, Nat.reduceAdd, Nat.reduceSub, ↓reduceIte, Nat.reduceEqDiff, Nat.lt_add_one]
  unfold k_neg at h
  by_cases q : 0 ≤ x
  · rw [if_pos q, s_if_0 rfl] at h
    obtain ⟨n0, rfl, hn0, en⟩ := z_pos q
    rw [en] at h
    refine ⟨fun _ => ?_, fun v => absurd q v⟩
    refine c_beginsM hM hMc hn0 (fun I' z9 hz hG => ?_)
    subst hz
    obtain ⟨v1, v2⟩ := r_S_G2 (rr' := w_rr (o_fits (o_draw (o_zeroB (I (D 1)) n0)) (m_dk (o_zeroB (I (D 1)) n0))) 0 rr (o_app (o_draw (o_zeroB (I (D 1)) n0)) (m_dk (o_zeroB (I (D 1)) n0)))) hU hM hC (G2_rr (d_Go2 hU hM hSp hG) (rr_cg (fun i j hi _ => absurd hi (Nat.not_lt_zero _)))) (mn_le (Nat.zero_le _))
    have f1 : I' (D 1) = (r_begun (I (D 1)) rr n0).1 := v1.2.1.1
    simp only [cd_X12_start, h0, r1, ix_222 t1, n_222, r_rn0, r_rnc, r_vk0, r_vkc, r_vks, r_kci, r_kcv, r_ild, r_ald, r_lld, r_dld, r_Li, r_La, r_Ll, r_Ld, r_Ki, r_Ka, r_Kl, r_Kd, r_Kn, r_ist, r_ast, r_lst, r_dst, r_iinc, r_int, r_lng, r_dbl, r_i2, r_i1, r_l2, r_lsh, r_i2z, r_l2z, r_i2l, r_l2i, r_i2d, r_lcmp, r_ddiv, r_dcmpl, r_dup, r_dup2, r_pop, r_one_int, r_one_ref, r_go, r_if, r_ic, r_tsw, r_lsw, r_sw0, r_swc, r_lk0, r_lkc, r_kp, r_gI, r_gL, r_gR, r_pI, r_pZ, r_pL, r_pR, r_gs, r_ia, r_ca, r_za, r_la, r_da, r_aa, r_ias, r_cas, r_zas, r_las, r_das, r_aas, r_acp, r_new, r_nwa, r_nwq, r_ret, r_irt, r_zrt, r_lrt, r_drt, r_art, r_thr, r_cV0, r_cV1, r_cV2, r_cV3, r_cV4, r_cV5, r_cI0, r_cS0, r_cS1, r_cS2, r_cS3, r_cX0, r_cX1, r_cX2, r_cX3, r_rc, r_oi, r_refx, r_i10, r_i01, r_rfs, r_mem0, r_memc, r_beq, r_kl0, r_klz, r_kl1i, r_kl1r, r_kl1n, r_kl1l, r_kl1d, List.length_cons, List.length_nil, List.getElem?_cons_zero, List.getElem?_cons_succ, List.set_cons_zero, List.set_cons_succ, true_and, and_true, not_true, not_false_eq_true, false_implies, true_implies, or_true, true_or, or_false, false_or, Bool.or_false, Bool.false_or, decide_false, decide_true, Nat.reduceLT, Nat.reduceLeDiff, Nat.reduceAdd, Nat.reduceSub, ↓reduceIte, Nat.reduceEqDiff, Nat.lt_add_one]
    refine c_doneM h0 ?_
    simp only [cd_X12_start, h0, r1, r_rn0, r_rnc, r_vk0, r_vkc, r_vks, r_kci, r_kcv, r_ild, r_ald, r_lld, r_dld, r_Li, r_La, r_Ll, r_Ld, r_Ki, r_Ka, r_Kl, r_Kd, r_Kn, r_ist, r_ast, r_lst, r_dst, r_iinc, r_int, r_lng, r_dbl, r_i2, r_i1, r_l2, r_lsh, r_i2z, r_l2z, r_i2l, r_l2i, r_i2d, r_lcmp, r_ddiv, r_dcmpl, r_dup, r_dup2, r_pop, r_one_int, r_one_ref, r_go, r_if, r_ic, r_tsw, r_lsw, r_sw0, r_swc, r_lk0, r_lkc, r_kp, r_gI, r_gL, r_gR, r_pI, r_pZ, r_pL, r_pR, r_gs, r_ia, r_ca, r_za, r_la, r_da, r_aa, r_ias, r_cas, r_zas, r_las, r_das, r_aas, r_acp, r_new, r_nwa, r_nwq, r_ret, r_irt, r_zrt, r_lrt, r_drt, r_art, r_thr, r_cV0, r_cV1, r_cV2, r_cV3, r_cV4, r_cV5, r_cI0, r_cS0, r_cS1, r_cS2, r_cS3, r_cX0, r_cX1, r_cX2, r_cX3, r_rc, r_oi, r_refx, r_i10, r_i01, r_rfs, r_mem0, r_memc, r_beq, r_kl0, r_klz, r_kl1i, r_kl1r, r_kl1n, r_kl1l, r_kl1d, List.length_cons, List.length_nil, List.getElem?_cons_zero, List.getElem?_cons_succ, List.set_cons_zero, List.set_cons_succ, true_and, and_true, not_true, not_false_eq_true, false_implies, true_implies, or_true, true_or, or_false, false_or, Bool.or_false, Bool.false_or, decide_false, decide_true, Nat.reduceLT, Nat.reduceLeDiff, Nat.reduceAdd, Nat.reduceSub, ↓reduceIte, Nat.reduceEqDiff, Nat.lt_add_one]
    obtain ⟨w1, w2⟩ := r_S_0 (x := 0) hU hM v1 v2
    exact h _ _ w1 w2 (fun _ => by rw [f1])
  · rw [if_neg q, s_if_n (by decide)] at h
    refine ⟨fun v => absurd v q, fun _ => ?_⟩
    refine c_failsM h0 ?_
    simp only [cd_X12_start, h0, r1, r_rn0, r_rnc, r_vk0, r_vkc, r_vks, r_kci, r_kcv, r_ild, r_ald, r_lld, r_dld, r_Li, r_La, r_Ll, r_Ld, r_Ki, r_Ka, r_Kl, r_Kd, r_Kn, r_ist, r_ast, r_lst, r_dst, r_iinc, r_int, r_lng, r_dbl, r_i2, r_i1, r_l2, r_lsh, r_i2z, r_l2z, r_i2l, r_l2i, r_i2d, r_lcmp, r_ddiv, r_dcmpl, r_dup, r_dup2, r_pop, r_one_int, r_one_ref, r_go, r_if, r_ic, r_tsw, r_lsw, r_sw0, r_swc, r_lk0, r_lkc, r_kp, r_gI, r_gL, r_gR, r_pI, r_pZ, r_pL, r_pR, r_gs, r_ia, r_ca, r_za, r_la, r_da, r_aa, r_ias, r_cas, r_zas, r_las, r_das, r_aas, r_acp, r_new, r_nwa, r_nwq, r_ret, r_irt, r_zrt, r_lrt, r_drt, r_art, r_thr, r_cV0, r_cV1, r_cV2, r_cV3, r_cV4, r_cV5, r_cI0, r_cS0, r_cS1, r_cS2, r_cS3, r_cX0, r_cX1, r_cX2, r_cX3, r_rc, r_oi, r_refx, r_i10, r_i01, r_rfs, r_mem0, r_memc, r_beq, r_kl0, r_klz, r_kl1i, r_kl1r, r_kl1n, r_kl1l, r_kl1d, List.length_cons, List.length_nil, List.getElem?_cons_zero, List.getElem?_cons_succ, List.set_cons_zero, List.set_cons_succ, true_and, and_true, not_true, not_false_eq_true, false_implies, true_implies, or_true, true_or, or_false, false_or, Bool.or_false, Bool.false_or, decide_false, decide_true, Nat.reduceLT, Nat.reduceLeDiff, Nat.reduceAdd, Nat.reduceSub, ↓reduceIte, Nat.reduceEqDiff, Nat.lt_add_one]
    obtain ⟨w1, w2⟩ := r_S_0 (x := 1) hU hM hC fr_refl
    exact h _ 0 w1 w2 (fun v => absurd v (by decide))
def k_rng (x lo hi : Int32) : Int32 := if lo ≤ x ∧ x ≤ hi then 0 else 1
def k_tick (m : Nat → Int32) (x : Int32) : Int32 := if 1 ≤ x ∧ x ≤ 200 then (if m 221 = 0 then 0 else 2) else 1
theorem in_b {x lo hi : Int32} : (decide (lo ≤ x) && decide (x ≤ hi)) = decide (lo ≤ x ∧ x ≤ hi) := by
  by_cases a : lo ≤ x <;> by_cases b : x ≤ hi <;> simp [a, b]
theorem lockM_237 {a : Nat → Int32} {le : Int32} : o_lockM a le 237 = a 237 + 1 := by
  have e : o_scr a le 237 = a 237 + 1 := by
    unfold o_scr o_score
    show o_clear (o_fill a) 237 + 1 = a 237 + 1
    rw [fill_out (by decide)]
  have e2 : o_draw (o_lock1 a le) 237 = a 237 + 1 := by
    unfold o_draw
    rw [m_u_ne (by decide), m_u_ne (by decide)]
    unfold o_lock1
    rw [m_u_ne (by decide)]
    exact e
  unfold o_lockM
  split
  · rw [m_u_ne (by decide)]; exact e
  · unfold o_put
    split
    · rw [app_out (by decide)]; exact e2
    · rw [m_u_ne (by decide), app_out (by decide)]; exact e2
theorem tick_237 {s : g_S} : (r_tick dly s).1 237 = s.1 237 + b2i (m_tlock s.1 dly) := by
  show o_tickM s.1 (g_le s.1) dly 237 = _
  have tk : o_tk s.1 237 = s.1 237 := by unfold o_tk; rw [m_u_ne (by decide)]
  have rs : o_rest s.1 237 = s.1 237 := by unfold o_rest; rw [m_u_ne (by decide)]; exact tk
  unfold o_tickM m_tlock
  cases hf : m_fit s.1 0 (-1) with
  | true =>
    rw [if_pos rfl]
    show _ = s.1 237 + 0
    rw [Int32.add_zero]
    split
    · unfold o_falls o_set2
      split
      · rw [m_u_ne (by decide), m_u_ne (by decide), m_u_ne (by decide), m_u_ne (by decide), m_u_ne (by decide), m_u_ne (by decide)]; exact tk
      · rw [m_u_ne (by decide), m_u_ne (by decide), m_u_ne (by decide)]; exact tk
    · rw [m_u_ne (by decide)]; exact tk
  | false =>
    rw [if_neg (by decide)]
    by_cases q : dly ≤ s.1 227 + 1
    · rw [if_pos q, decide_eq_true q, lockM_237, rs]; rfl
    · rw [if_neg q, decide_eq_false q, rs]
      exact (Int32.add_zero _).symm
theorem c_ticksP {x : Int32} (hM : p_Mo T D) (hC : r_S I D (m, many, rr) has ms s0 s1 dly lim n cs fl) (ho : r_ok m) (hk : ∀ j : Nat, m 221 = 0 → x = zI j → j ≤ 200 → k_tks dly j (m, many, rr)) (h : ∀ I' v, r_S I' D (s_if (k_tick m x) (r_tks dly x.toInt.toNat (m, many, rr)) (m, many, rr)) has ms s0 s1 dly lim n cs fl → r_N I I' D (k_tick m x) → (k_tick m x = 0 → v = (r_tks dly x.toInt.toNat (m, many, rr)).1 237 - m 237) → K (some (.int v)) T I' L) : mz_Ctr G M_X12_tick [.ref (D 0), .int x] T I L K := by
  refine mz_apartC fun hU => ?_
  obtain ⟨h0, ⟨r1, r2, r3, r5, r6, r8, r9, r10, r11, r12, r13, r14, r16, r17, r19, r20, r22, r23⟩, ⟨t1, t2, t3, t5, t6, t8, t9, t10, t11, t12, t13, t14, t16, t17, t19, t20, t22, t23⟩, ⟨u1, u2⟩⟩ := id hM
  obtain ⟨⟨hMc, hSp⟩, ⟨e1, e2, e3, e4⟩, e5, ⟨e6, e7⟩, e8⟩ := id hC
  have e1 : I (D 1) = m := e1
  have e2 : I (D 0) 4 = zI many := e2
  have e3 : many ≤ 6 := e3
  refine mz_ofl mk_X12_tick rfl (Nat.le_of_ble_eq_true rfl) (Nat.le_of_ble_eq_true rfl) [some (.ref (D 0)), some (.int x), none, none] rfl ?_
  refine mz_vc ok_X12_tick [39] [(), (), (), (), (), (), (), (), (), (), (), (), (), (), (), (), (), (), (), (), (), (), (), (), (), (), (), (), (), ()] ?_
  simp only [cd_X12_tick, h0, r1, r_rn0, r_rnc, r_vk0, r_vkc, r_vks, r_kci, r_kcv, r_ild, r_ald, r_lld, r_dld, r_Li, r_La, r_Ll, r_Ld, r_Ki, r_Ka, r_Kl, r_Kd, r_Kn, r_ist, r_ast, r_lst, r_dst, r_iinc, r_int, r_lng, r_dbl, r_i2, r_i1, r_l2, r_lsh, r_i2z, r_l2z, r_i2l, r_l2i, r_i2d, r_lcmp, r_ddiv, r_dcmpl, r_dup, r_dup2, r_pop, r_one_int, r_one_ref, r_go, r_if, r_ic, r_tsw, r_lsw, r_sw0, r_swc, r_lk0, r_lkc, r_kp, r_gI, r_gL, r_gR, r_pI, r_pZ, r_pL, r_pR, r_gs, r_ia, r_ca, r_za, r_la, r_da, r_aa, r_ias, r_cas, r_zas, r_las, r_das, r_aas, r_acp, r_new, r_nwa, r_nwq, r_ret, r_irt, r_zrt, r_lrt, r_drt, r_art, r_thr, r_cV0, r_cV1, r_cV2, r_cV3, r_cV4, r_cV5, r_cI0, r_cS0, r_cS1, r_cS2, r_cS3, r_cX0, r_cX1, r_cX2, r_cX3, r_rc, r_oi, r_refx, r_i10, r_i01, r_rfs, r_mem0, r_memc, r_beq, r_kl0, r_klz, r_kl1i, r_kl1r, r_kl1n, r_kl1l, r_kl1d, List.length_cons, List.length_nil, List.getElem?_cons_zero, List.getElem?_cons_succ, List.set_cons_zero, List.set_cons_succ, true_and, and_true, not_true, not_false_eq_true, false_implies, true_implies, or_true, true_or, or_false, false_or, Bool.or_false, Bool.false_or, decide_false, decide_true, Nat.reduceLT, Nat.reduceLeDiff, Nat.reduceAdd, Nat.reduceSub, ↓reduceIte, Nat.reduceEqDiff, Nat.lt_add_one]
  refine c_inM ?_
  simp only [cd_X12_tick, h0, r1, ix_221 t1, n_221, r_rn0, r_rnc, r_vk0, r_vkc, r_vks, r_kci, r_kcv, r_ild, r_ald, r_lld, r_dld, r_Li, r_La, r_Ll, r_Ld, r_Ki, r_Ka, r_Kl, r_Kd, r_Kn, r_ist, r_ast, r_lst, r_dst, r_iinc, r_int, r_lng, r_dbl, r_i2, r_i1, r_l2, r_lsh, r_i2z, r_l2z, r_i2l, r_l2i, r_i2d, r_lcmp, r_ddiv, r_dcmpl, r_dup, r_dup2, r_pop, r_one_int, r_one_ref, r_go, r_if, r_ic, r_tsw, r_lsw, r_sw0, r_swc, r_lk0, r_lkc, r_kp, r_gI, r_gL, r_gR, r_pI, r_pZ, r_pL, r_pR, r_gs, r_ia, r_ca, r_za, r_la, r_da, r_aa, r_ias, r_cas, r_zas, r_las, r_das, r_aas, r_acp, r_new, r_nwa, r_nwq, r_ret, r_irt, r_zrt, r_lrt, r_drt, r_art, r_thr, r_cV0, r_cV1, r_cV2, r_cV3, r_cV4, r_cV5, r_cI0, r_cS0, r_cS1, r_cS2, r_cS3, r_cX0, r_cX1, r_cX2, r_cX3, r_rc, r_oi, r_refx, r_i10, r_i01, r_rfs, r_mem0, r_memc, r_beq, r_kl0, r_klz, r_kl1i, r_kl1r, r_kl1n, r_kl1l, r_kl1d, List.length_cons, List.length_nil, List.getElem?_cons_zero, List.getElem?_cons_succ, List.set_cons_zero, List.set_cons_succ, true_and, and_true, not_true, not_false_eq_true, false_implies, true_implies, or_true, true_or, or_false, false_or, Bool.or_false, Bool.false_or, decide_false, decide_true, Nat.reduceLT, Nat.reduceLeDiff, Nat.reduceAdd, Nat.reduceSub, ↓reduceIte, Nat.reduceEqDiff, Nat.lt_add_one]
  rw [in_b, e1]
  unfold k_tick at h
  by_cases q : 1 ≤ x ∧ x ≤ 200
  · rw [if_pos q] at h
    rw [decide_eq_true q]
    refine ⟨fun v => ?_, fun v => absurd v (by decide)⟩
    rcases ho.1 with hl | hl
    · rw [hl] at h ⊢
      rw [if_pos rfl, s_if_0 rfl] at h
      refine ⟨fun _ => ?_, fun v => absurd (by decide) v⟩
      obtain ⟨N, rfl, -, hN⟩ := z_get (a := 1) (b := 200) (by decide) q
      have hk := hk N hl rfl hN
      rw [z_toInt (by omega), Int.toNat_natCast] at h
      have key : ∀ k i : Nat, i + k = N → ∀ (s : g_S) I1, r_S I1 D s has ms s0 s1 dly lim n cs fl → fr I I1 (w_MA D) → k_tks dly k s → r_tks dly k s = r_tks dly N (m, many, rr) → mz_W G M_X12_tick K mz_nX 39 [some (.ref (D 0)), some (.int (zI N)), some (.int (s.1 237 - m 237)), some (.int (zI i))] [] T I1 L (0, 0) := by
        have fin : ∀ (s : g_S) I1, r_S I1 D s has ms s0 s1 dly lim n cs fl → fr I I1 (w_MA D) → s = r_tks dly N (m, many, rr) → K (some (.int (s.1 237 - m 237))) T (mz_u I1 (D 0) 0 0) L := by
          intro s I1 hS hf e
          subst e
          obtain ⟨w1, w2⟩ := r_S_0 (x := 0) hU hM hS hf
          exact h _ _ w1 w2 (fun _ => rfl)
        intro k
        induction k with
        | zero =>
          intro i hi s I1 hS hf hk2 e
          have hi : i = N := by omega
          subst hi
          refine mz_vc ok_X12_tick [39] [(), (), (), (), (), (), (), (), (), (), (), (), (), (), (), (), (), (), (), (), (), (), (), (), (), (), (), (), (), ()] ?_
          simp only [cd_X12_tick, h0, r1, ix_221 t1, n_221, r_rn0, r_rnc, r_vk0, r_vkc, r_vks, r_kci, r_kcv, r_ild, r_ald, r_lld, r_dld, r_Li, r_La, r_Ll, r_Ld, r_Ki, r_Ka, r_Kl, r_Kd, r_Kn, r_ist, r_ast, r_lst, r_dst, r_iinc, r_int, r_lng, r_dbl, r_i2, r_i1, r_l2, r_lsh, r_i2z, r_l2z, r_i2l, r_l2i, r_i2d, r_lcmp, r_ddiv, r_dcmpl, r_dup, r_dup2, r_pop, r_one_int, r_one_ref, r_go, r_if, r_ic, r_tsw, r_lsw, r_sw0, r_swc, r_lk0, r_lkc, r_kp, r_gI, r_gL, r_gR, r_pI, r_pZ, r_pL, r_pR, r_gs, r_ia, r_ca, r_za, r_la, r_da, r_aa, r_ias, r_cas, r_zas, r_las, r_das, r_aas, r_acp, r_new, r_nwa, r_nwq, r_ret, r_irt, r_zrt, r_lrt, r_drt, r_art, r_thr, r_cV0, r_cV1, r_cV2, r_cV3, r_cV4, r_cV5, r_cI0, r_cS0, r_cS1, r_cS2, r_cS3, r_cX0, r_cX1, r_cX2, r_cX3, r_rc, r_oi, r_refx, r_i10, r_i01, r_rfs, r_mem0, r_memc, r_beq, r_kl0, r_klz, r_kl1i, r_kl1r, r_kl1n, r_kl1l, r_kl1d, List.length_cons, List.length_nil, List.getElem?_cons_zero, List.getElem?_cons_succ, List.set_cons_zero, List.set_cons_succ, true_and, and_true, not_true, not_false_eq_true, false_implies, true_implies, or_true, true_or, or_false, false_or, Bool.or_false, Bool.false_or, decide_false, decide_true, Nat.reduceLT, Nat.reduceLeDiff, Nat.reduceAdd, Nat.reduceSub, ↓reduceIte, Nat.reduceEqDiff, Nat.lt_add_one]
          refine ⟨fun _ => ?_, fun v => absurd (Int32.le_refl _) v⟩
          refine c_doneM h0 ?_
          simp only [cd_X12_tick, h0, r1, r_rn0, r_rnc, r_vk0, r_vkc, r_vks, r_kci, r_kcv, r_ild, r_ald, r_lld, r_dld, r_Li, r_La, r_Ll, r_Ld, r_Ki, r_Ka, r_Kl, r_Kd, r_Kn, r_ist, r_ast, r_lst, r_dst, r_iinc, r_int, r_lng, r_dbl, r_i2, r_i1, r_l2, r_lsh, r_i2z, r_l2z, r_i2l, r_l2i, r_i2d, r_lcmp, r_ddiv, r_dcmpl, r_dup, r_dup2, r_pop, r_one_int, r_one_ref, r_go, r_if, r_ic, r_tsw, r_lsw, r_sw0, r_swc, r_lk0, r_lkc, r_kp, r_gI, r_gL, r_gR, r_pI, r_pZ, r_pL, r_pR, r_gs, r_ia, r_ca, r_za, r_la, r_da, r_aa, r_ias, r_cas, r_zas, r_las, r_das, r_aas, r_acp, r_new, r_nwa, r_nwq, r_ret, r_irt, r_zrt, r_lrt, r_drt, r_art, r_thr, r_cV0, r_cV1, r_cV2, r_cV3, r_cV4, r_cV5, r_cI0, r_cS0, r_cS1, r_cS2, r_cS3, r_cX0, r_cX1, r_cX2, r_cX3, r_rc, r_oi, r_refx, r_i10, r_i01, r_rfs, r_mem0, r_memc, r_beq, r_kl0, r_klz, r_kl1i, r_kl1r, r_kl1n, r_kl1l, r_kl1d, List.length_cons, List.length_nil, List.getElem?_cons_zero, List.getElem?_cons_succ, List.set_cons_zero, List.set_cons_succ, true_and, and_true, not_true, not_false_eq_true, false_implies, true_implies, or_true, true_or, or_false, false_or, Bool.or_false, Bool.false_or, decide_false, decide_true, Nat.reduceLT, Nat.reduceLeDiff, Nat.reduceAdd, Nat.reduceSub, ↓reduceIte, Nat.reduceEqDiff, Nat.lt_add_one]
          exact fin s I1 hS hf e
        | succ k ih =>
          intro i hi s I1 hS hf hk2 e
          obtain ⟨⟨m1, m2⟩, ⟨m3, m4, m5, m6⟩, m7, ⟨m8, m9⟩, m10⟩ := id hS
          obtain ⟨hr, hk3⟩ := hk2
          refine mz_vc ok_X12_tick [39] [(), (), (), (), (), (), (), (), (), (), (), (), (), (), (), (), (), (), (), (), (), (), (), (), (), (), (), (), (), ()] ?_
          simp only [cd_X12_tick, h0, r1, ix_221 t1, n_221, r_rn0, r_rnc, r_vk0, r_vkc, r_vks, r_kci, r_kcv, r_ild, r_ald, r_lld, r_dld, r_Li, r_La, r_Ll, r_Ld, r_Ki, r_Ka, r_Kl, r_Kd, r_Kn, r_ist, r_ast, r_lst, r_dst, r_iinc, r_int, r_lng, r_dbl, r_i2, r_i1, r_l2, r_lsh, r_i2z, r_l2z, r_i2l, r_l2i, r_i2d, r_lcmp, r_ddiv, r_dcmpl, r_dup, r_dup2, r_pop, r_one_int, r_one_ref, r_go, r_if, r_ic, r_tsw, r_lsw, r_sw0, r_swc, r_lk0, r_lkc, r_kp, r_gI, r_gL, r_gR, r_pI, r_pZ, r_pL, r_pR, r_gs, r_ia, r_ca, r_za, r_la, r_da, r_aa, r_ias, r_cas, r_zas, r_las, r_das, r_aas, r_acp, r_new, r_nwa, r_nwq, r_ret, r_irt, r_zrt, r_lrt, r_drt, r_art, r_thr, r_cV0, r_cV1, r_cV2, r_cV3, r_cV4, r_cV5, r_cI0, r_cS0, r_cS1, r_cS2, r_cS3, r_cX0, r_cX1, r_cX2, r_cX3, r_rc, r_oi, r_refx, r_i10, r_i01, r_rfs, r_mem0, r_memc, r_beq, r_kl0, r_klz, r_kl1i, r_kl1r, r_kl1n, r_kl1l, r_kl1d, List.length_cons, List.length_nil, List.getElem?_cons_zero, List.getElem?_cons_succ, List.set_cons_zero, List.set_cons_succ, true_and, and_true, not_true, not_false_eq_true, false_implies, true_implies, or_true, true_or, or_false, false_or, Bool.or_false, Bool.false_or, decide_false, decide_true, Nat.reduceLT, Nat.reduceLeDiff, Nat.reduceAdd, Nat.reduceSub, ↓reduceIte, Nat.reduceEqDiff, Nat.lt_add_one]
          rw [m3]
          refine ⟨z_no (by omega) (by omega) (by omega), fun _ => ⟨fun v => ?_, fun v => ?_⟩⟩
          · rw [r_tks_over v] at e
            refine c_doneM h0 ?_
            simp only [cd_X12_tick, h0, r1, r_rn0, r_rnc, r_vk0, r_vkc, r_vks, r_kci, r_kcv, r_ild, r_ald, r_lld, r_dld, r_Li, r_La, r_Ll, r_Ld, r_Ki, r_Ka, r_Kl, r_Kd, r_Kn, r_ist, r_ast, r_lst, r_dst, r_iinc, r_int, r_lng, r_dbl, r_i2, r_i1, r_l2, r_lsh, r_i2z, r_l2z, r_i2l, r_l2i, r_i2d, r_lcmp, r_ddiv, r_dcmpl, r_dup, r_dup2, r_pop, r_one_int, r_one_ref, r_go, r_if, r_ic, r_tsw, r_lsw, r_sw0, r_swc, r_lk0, r_lkc, r_kp, r_gI, r_gL, r_gR, r_pI, r_pZ, r_pL, r_pR, r_gs, r_ia, r_ca, r_za, r_la, r_da, r_aa, r_ias, r_cas, r_zas, r_las, r_das, r_aas, r_acp, r_new, r_nwa, r_nwq, r_ret, r_irt, r_zrt, r_lrt, r_drt, r_art, r_thr, r_cV0, r_cV1, r_cV2, r_cV3, r_cV4, r_cV5, r_cI0, r_cS0, r_cS1, r_cS2, r_cS3, r_cX0, r_cX1, r_cX2, r_cX3, r_rc, r_oi, r_refx, r_i10, r_i01, r_rfs, r_mem0, r_memc, r_beq, r_kl0, r_klz, r_kl1i, r_kl1r, r_kl1n, r_kl1l, r_kl1d, List.length_cons, List.length_nil, List.getElem?_cons_zero, List.getElem?_cons_succ, List.set_cons_zero, List.set_cons_succ, true_and, and_true, not_true, not_false_eq_true, false_implies, true_implies, or_true, true_or, or_false, false_or, Bool.or_false, Bool.false_or, decide_false, decide_true, Nat.reduceLT, Nat.reduceLeDiff, Nat.reduceAdd, Nat.reduceSub, ↓reduceIte, Nat.reduceEqDiff, Nat.lt_add_one]
            exact fin s I1 hS hf e
          · have v : s.1 221 = 0 := Decidable.not_not.mp v
            rw [r_tks_go v] at e
            obtain ⟨o1, o2, o3, o4⟩ := hr.2.2.2.2.2.2.1 v
            refine c_ticksM hM m1 (by rw [m3]; exact o1) (by rw [m3]; exact hr.2.1) (by rw [m3]; exact hr.2.2.1) m4 m5 m2 (by rw [m3]; exact o2) (by rw [m3]; exact hr.2.2.2.1) (by rw [m3]; exact o3) (fun I2 le hle hG => ?_)
            subst hle
            rw [m3, m8] at hG
            rw [m3, m8]
            have hG2 : d_G2 I1 I2 D (r_tick dly s).2.1 (r_tick dly s).1 (r_tick dly s).2.2 := by
              refine G2_rr hG ?_
              intro i j hi hj
              have hi : i < (if m_tlock s.1 dly = true then w_mn (m_lfit (o_rest s.1) (g_le s.1)) s.2.1 else s.2.1) := hi
              show (if m_tlock s.1 dly = true then w_rr (m_lfit (o_rest s.1) (g_le s.1)) s.2.1 (d_rr I1 D) (o_app (o_draw (o_lock1 (o_rest s.1) (g_le s.1))) (m_dk (o_lock1 (o_rest s.1) (g_le s.1)))) else d_rr I1 D) i j = (if m_tlock s.1 dly = true then (r_lk (o_rest s.1) (g_le s.1) s.2.1 s.2.2).2.2 else s.2.2) i j
              by_cases ht : m_tlock s.1 dly = true
              · rw [if_pos ht] at hi
                rw [if_pos ht, if_pos ht]
                exact rr_cg m6 i j hi hj
              · rw [if_neg ht] at hi
                rw [if_neg ht, if_neg ht]
                exact m6 i j hi hj
            have hle6 : (r_tick dly s).2.1 ≤ 6 := by
              show (if m_tlock s.1 dly = true then w_mn (m_lfit (o_rest s.1) (g_le s.1)) s.2.1 else s.2.1) ≤ 6
              split
              · exact mn_le m5
              · exact m5
            obtain ⟨v1, v2⟩ := r_S_G2 (m := s.1) (many := s.2.1) (rr := s.2.2) hU hM hS hG2 hle6
            have nxt := ih (i + 1) (by omega) (r_tick dly s) I2 v1 (fr_tr hf v2 (fun _ q => q) (fun _ q => q)) (hk3 v) e
            have ec : (r_tick dly s).1 237 - m 237 = s.1 237 - m 237 + b2i (m_tlock s.1 dly) := by
              rw [tick_237, Int32.sub_eq_add_neg, Int32.sub_eq_add_neg, Int32.add_assoc, Int32.add_assoc, Int32.add_comm (b2i _)]
            rw [ec] at nxt
            simp only [cd_X12_tick, h0, r1, r_rn0, r_rnc, r_vk0, r_vkc, r_vks, r_kci, r_kcv, r_ild, r_ald, r_lld, r_dld, r_Li, r_La, r_Ll, r_Ld, r_Ki, r_Ka, r_Kl, r_Kd, r_Kn, r_ist, r_ast, r_lst, r_dst, r_iinc, r_int, r_lng, r_dbl, r_i2, r_i1, r_l2, r_lsh, r_i2z, r_l2z, r_i2l, r_l2i, r_i2d, r_lcmp, r_ddiv, r_dcmpl, r_dup, r_dup2, r_pop, r_one_int, r_one_ref, r_go, r_if, r_ic, r_tsw, r_lsw, r_sw0, r_swc, r_lk0, r_lkc, r_kp, r_gI, r_gL, r_gR, r_pI, r_pZ, r_pL, r_pR, r_gs, r_ia, r_ca, r_za, r_la, r_da, r_aa, r_ias, r_cas, r_zas, r_las, r_das, r_aas, r_acp, r_new, r_nwa, r_nwq, r_ret, r_irt, r_zrt, r_lrt, r_drt, r_art, r_thr, r_cV0, r_cV1, r_cV2, r_cV3, r_cV4, r_cV5, r_cI0, r_cS0, r_cS1, r_cS2, r_cS3, r_cX0, r_cX1, r_cX2, r_cX3, r_rc, r_oi, r_refx, r_i10, r_i01, r_rfs, r_mem0, r_memc, r_beq, r_kl0, r_klz, r_kl1i, r_kl1r, r_kl1n, r_kl1l, r_kl1d, List.length_cons, List.length_nil, List.getElem?_cons_zero, List.getElem?_cons_succ, List.set_cons_zero, List.set_cons_succ, true_and, and_true, not_true, not_false_eq_true, false_implies, true_implies, or_true, true_or, or_false, false_or, Bool.or_false, Bool.false_or, decide_false, decide_true, Nat.reduceLT, Nat.reduceLeDiff, Nat.reduceAdd, Nat.reduceSub, ↓reduceIte, Nat.reduceEqDiff, Nat.lt_add_one]
            rw [z_1]
            cases hb : m_tlock s.1 dly with
            | true => rw [hb] at nxt; exact ⟨fun v => absurd v (by decide), fun _ => nxt⟩
            | false => rw [hb] at nxt; exact ⟨fun _ => nxt, fun v => absurd rfl v⟩
      have k0 := key N 0 (by omega) (m, many, rr) I hC fr_refl hk rfl
      rw [show ((m, many, rr) : g_S).1 237 - m 237 = 0 from Int32.sub_self _] at k0
      exact k0
    · rw [hl] at h ⊢
      rw [if_neg (by decide), s_if_n (by decide)] at h
      refine ⟨fun v => absurd rfl v, fun _ => ?_⟩
      refine c_failsM h0 ?_
      simp only [cd_X12_tick, h0, r1, r_rn0, r_rnc, r_vk0, r_vkc, r_vks, r_kci, r_kcv, r_ild, r_ald, r_lld, r_dld, r_Li, r_La, r_Ll, r_Ld, r_Ki, r_Ka, r_Kl, r_Kd, r_Kn, r_ist, r_ast, r_lst, r_dst, r_iinc, r_int, r_lng, r_dbl, r_i2, r_i1, r_l2, r_lsh, r_i2z, r_l2z, r_i2l, r_l2i, r_i2d, r_lcmp, r_ddiv, r_dcmpl, r_dup, r_dup2, r_pop, r_one_int, r_one_ref, r_go, r_if, r_ic, r_tsw, r_lsw, r_sw0, r_swc, r_lk0, r_lkc, r_kp, r_gI, r_gL, r_gR, r_pI, r_pZ, r_pL, r_pR, r_gs, r_ia, r_ca, r_za, r_la, r_da, r_aa, r_ias, r_cas, r_zas, r_las, r_das, r_aas, r_acp, r_new, r_nwa, r_nwq, r_ret, r_irt, r_zrt, r_lrt, r_drt, r_art, r_thr, r_cV0, r_cV1, r_cV2, r_cV3, r_cV4, r_cV5, r_cI0, r_cS0, r_cS1, r_cS2, r_cS3, r_cX0, r_cX1, r_cX2, r_cX3, r_rc, r_oi, r_refx, r_i10, r_i01, r_rfs, r_mem0, r_memc, r_beq, r_kl0, r_klz, r_kl1i, r_kl1r, r_kl1n, r_kl1l, r_kl1d, List.length_cons, List.length_nil, List.getElem?_cons_zero, List.getElem?_cons_succ, List.set_cons_zero, List.set_cons_succ, true_and, and_true, not_true, not_false_eq_true, false_implies, true_implies, or_true, true_or, or_false, false_or, Bool.or_false, Bool.false_or, decide_false, decide_true, Nat.reduceLT, Nat.reduceLeDiff, Nat.reduceAdd, Nat.reduceSub, ↓reduceIte, Nat.reduceEqDiff, Nat.lt_add_one]
      obtain ⟨w1, w2⟩ := r_S_0 (x := 2) hU hM hC fr_refl
      exact h _ 0 w1 w2 (fun v => absurd v (by decide))
  · rw [if_neg q, s_if_n (by decide)] at h
    rw [decide_eq_false q]
    refine ⟨fun v => absurd rfl v, fun _ => ?_⟩
    refine c_failsM h0 ?_
    simp only [cd_X12_tick, h0, r1, r_rn0, r_rnc, r_vk0, r_vkc, r_vks, r_kci, r_kcv, r_ild, r_ald, r_lld, r_dld, r_Li, r_La, r_Ll, r_Ld, r_Ki, r_Ka, r_Kl, r_Kd, r_Kn, r_ist, r_ast, r_lst, r_dst, r_iinc, r_int, r_lng, r_dbl, r_i2, r_i1, r_l2, r_lsh, r_i2z, r_l2z, r_i2l, r_l2i, r_i2d, r_lcmp, r_ddiv, r_dcmpl, r_dup, r_dup2, r_pop, r_one_int, r_one_ref, r_go, r_if, r_ic, r_tsw, r_lsw, r_sw0, r_swc, r_lk0, r_lkc, r_kp, r_gI, r_gL, r_gR, r_pI, r_pZ, r_pL, r_pR, r_gs, r_ia, r_ca, r_za, r_la, r_da, r_aa, r_ias, r_cas, r_zas, r_las, r_das, r_aas, r_acp, r_new, r_nwa, r_nwq, r_ret, r_irt, r_zrt, r_lrt, r_drt, r_art, r_thr, r_cV0, r_cV1, r_cV2, r_cV3, r_cV4, r_cV5, r_cI0, r_cS0, r_cS1, r_cS2, r_cS3, r_cX0, r_cX1, r_cX2, r_cX3, r_rc, r_oi, r_refx, r_i10, r_i01, r_rfs, r_mem0, r_memc, r_beq, r_kl0, r_klz, r_kl1i, r_kl1r, r_kl1n, r_kl1l, r_kl1d, List.length_cons, List.length_nil, List.getElem?_cons_zero, List.getElem?_cons_succ, List.set_cons_zero, List.set_cons_succ, true_and, and_true, not_true, not_false_eq_true, false_implies, true_implies, or_true, true_or, or_false, false_or, Bool.or_false, Bool.false_or, decide_false, decide_true, Nat.reduceLT, Nat.reduceLeDiff, Nat.reduceAdd, Nat.reduceSub, ↓reduceIte, Nat.reduceEqDiff, Nat.lt_add_one]
    obtain ⟨w1, w2⟩ := r_S_0 (x := 1) hU hM hC fr_refl
    exact h _ 0 w1 w2 (fun v => absurd v (by decide))
end REF3
