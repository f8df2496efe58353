/-! the engine: lock -/
section LOCK
variable {G : mz_G} {K : mz_K} {T : mz_T} {I : mz_I} {L : mz_L}
def m_high (m : Nat → Int32) : Bool := decide ((20 : Int) * 10 ≤ m_r m * 10 + m_c m + s_cell (m_kd m) (m_st m) 0)
def o_lockm (m : Nat → Int32) (le : Int32) : Nat → Int32 := o_lock1 m le
noncomputable def o_lock (m : Nat → Int32) (le : Int32) : Nat → Int32 := if m_high m then m_u (o_lock1 m le) 221 1 else o_put (o_draw (o_lock1 m le)) (m_dk (o_lock1 m le))
noncomputable def m_lfit (m : Nat → Int32) (le : Int32) : Bool := !m_high m && o_fits (o_draw (o_lock1 m le)) (m_dk (o_lock1 m le))
theorem s_fc_cg {e e' : Nat → Bool} (h : ∀ i, i < 220 → e i = e' i) : ∀ n, n ≤ 22 → s_fc e n = s_fc e' n
  | 0, _ => rfl
  | n + 1, hn => by unfold s_fc; rw [s_fc_cg h n (by omega), s_rc_cg 10 (fun j hj => h _ (by omega))]
theorem s_full_cg {e e' : Nat → Bool} (h : ∀ i, i < 220 → e i = e' i) {r : Nat} (hr : r < 22) : s_full e r = s_full e' r := by
  unfold s_full; rw [s_rc_cg 10 (fun j hj => h _ (by omega))]
theorem s_nk_cg {e e' : Nat → Bool} (h : ∀ i, i < 220 → e i = e' i) : ∀ n, n ≤ 22 → s_nk e n = s_nk e' n
  | 0, _ => rfl
  | n + 1, hn => by unfold s_nk; rw [s_nk_cg h n (by omega), s_full_cg h (by omega)]
theorem c_lockE {en me ra nw many B fi lt : Nat} {A : z_A} {Aj : Nat → z_A} {m : Nat → Int32} {rr : Nat → Nat → Int32} (hE : p_E T en A) (hE1 : T.2 en 1 = some me) (hE2 : T.2 en 2 = some fi) (hfi : (fi, 0, 3) ∈ T.1 ∧ T.2 fi 0 = some lt ∧ (lt, 1, 448) ∈ T.1) (h : p_R T I L A B m) (hl : m 221 = 0) (hB : B < 1000000000) (hM : p_M T I L me ra Aj nw many B rr) (hdj : ∀ j, j < 6 → z_dj (Aj j) A)
    (hK : ∀ I' L', p_Go T I L I' L' A me ra Aj (w_mn (m_lfit m (s_lc (I lt) (m_kd m) (m_st m) (m_c m) 4)) many) (B + 1) (o_lock m (s_lc (I lt) (m_kd m) (m_st m) (m_c m) 4)) (w_rr (m_lfit m (s_lc (I lt) (m_kd m) (m_st m) (m_c m) 4)) many rr (o_app (o_draw (o_lock1 m (s_lc (I lt) (m_kd m) (m_st m) (m_c m) 4))) (m_dk (o_lock1 m (s_lc (I lt) (m_kd m) (m_st m) (m_c m) 4))))) → K (some (.int (zI (m_n (o_fill m))))) T I' L') : mz_Ctr G M_X1_lock [.ref en] T I L K := by
  refine mz_apartC fun hU => ?_
  obtain ⟨e1, e2⟩ := id hE
  have hA := h.sh
  obtain ⟨⟨g1, g2, g3, g4, g5⟩, hF, hX, ⟨b1, b2, b3⟩, hS⟩ := id hA
  obtain ⟨f1, f2, f3⟩ := id hF
  obtain ⟨x1, x2, x3⟩ := id hX
  obtain ⟨s1, s2, s3, s4, s5⟩ := id hS
  obtain ⟨i1, i2, i3⟩ := hfi
  have m1 : (me, 0, 6) ∈ T.1 := hM.1.1
  have hmA : me ∉ A.all := z_out hU hA m1 (by decide)
  obtain ⟨hp, hq, hfit⟩ := h.now hl
  obtain ⟨p1, p2, p3, p4, p5, p6⟩ := id hp
  obtain ⟨hpc, hus, -, -⟩ := h.live hl
  have ne : ∀ {a b : Nat} {x y : Nat × Nat}, (a, x) ∈ T.1 → (b, y) ∈ T.1 → x ≠ y → a ≠ b := fun a b c => mz_ne hU a b c
  have hn4 : m_n (o_fill m) ≤ 4 := fill_four h.nof
  have hsp := m_spin_le (m := m)
  refine mz_ofl mk_X1_lock rfl (Nat.le_of_ble_eq_true rfl) (Nat.le_of_ble_eq_true rfl) [some (.ref en), none, none, none, none, none] rfl ?_
  refine mz_vc ok_X1_lock [86, 87] [(), (), (), (), (), (), (), (), (), (), (), (), (), (), (), (), (), (), (), (), (), (), (), (), (), (), (), (), (), ()] ?_
  simp only [cd_X1_lock, e1, e2, hE1, hE2, g1, g2, g3, g4, g5, f1, x1, x2, x3, b1, s1, i1, p2, r_rn0, r_rnc, r_vk0, r_vkc, r_vks, r_kci, r_kcv, r_ild, r_ald, r_lld, r_dld, r_Li, r_La, r_Ll, r_Ld, r_Ki, r_Ka, r_Kl, r_Kd, r_Kn, r_ist, r_ast, r_lst, r_dst, r_iinc, r_int, r_lng, r_dbl, r_i2, r_i1, r_l2, r_lsh, r_i2z, r_l2z, r_i2l, r_l2i, r_i2d, r_lcmp, r_ddiv, r_dcmpl, r_dup, r_dup2, r_pop, r_one_int, r_one_ref, r_go, r_if, r_ic, r_tsw, r_lsw, r_sw0, r_swc, r_lk0, r_lkc, r_kp, r_gI, r_gL, r_gR, r_pI, r_pZ, r_pL, r_pR, r_gs, r_ia, r_ca, r_za, r_la, r_da, r_aa, r_ias, r_cas, r_zas, r_las, r_das, r_aas, r_acp, r_new, r_nwa, r_nwq, r_ret, r_irt, r_zrt, r_lrt, r_drt, r_art, r_thr, r_cV0, r_cV1, r_cV2, r_cV3, r_cV4, r_cV5, r_cI0, r_cS0, r_cS1, r_cS2, r_cS3, r_cX0, r_cX1, r_cX2, r_cX3, r_rc, r_oi, r_refx, r_i10, r_i01, r_rfs, r_mem0, r_memc, r_beq, r_kl0, r_klz, r_kl1i, r_kl1r, r_kl1n, r_kl1l, r_kl1d, List.length_cons, List.length_nil, List.getElem?_cons_zero, List.getElem?_cons_succ, List.set_cons_zero, List.set_cons_succ, true_and, and_true, not_true, not_false_eq_true, false_implies, true_implies, or_true, true_or, or_false, false_or, Bool.or_false, Bool.false_or, decide_false, decide_true, Nat.reduceLT, Nat.reduceLeDiff, Nat.reduceAdd, Nat.reduceSub, ↓reduceIte, Nat.reduceEqDiff, Nat.lt_add_one]
  refine c_findSpin hE h hl ?_
  simp only [cd_X1_lock, e1, e2, hE1, hE2, g1, g2, g3, g4, g5, f1, x1, x2, x3, b1, s1, i1, r_rn0, r_rnc, r_vk0, r_vkc, r_vks, r_kci, r_kcv, r_ild, r_ald, r_lld, r_dld, r_Li, r_La, r_Ll, r_Ld, r_Ki, r_Ka, r_Kl, r_Kd, r_Kn, r_ist, r_ast, r_lst, r_dst, r_iinc, r_int, r_lng, r_dbl, r_i2, r_i1, r_l2, r_lsh, r_i2z, r_l2z, r_i2l, r_l2i, r_i2d, r_lcmp, r_ddiv, r_dcmpl, r_dup, r_dup2, r_pop, r_one_int, r_one_ref, r_go, r_if, r_ic, r_tsw, r_lsw, r_sw0, r_swc, r_lk0, r_lkc, r_kp, r_gI, r_gL, r_gR, r_pI, r_pZ, r_pL, r_pR, r_gs, r_ia, r_ca, r_za, r_la, r_da, r_aa, r_ias, r_cas, r_zas, r_las, r_das, r_aas, r_acp, r_new, r_nwa, r_nwq, r_ret, r_irt, r_zrt, r_lrt, r_drt, r_art, r_thr, r_cV0, r_cV1, r_cV2, r_cV3, r_cV4, r_cV5, r_cI0, r_cS0, r_cS1, r_cS2, r_cS3, r_cX0, r_cX1, r_cX2, r_cX3, r_rc, r_oi, r_refx, r_i10, r_i01, r_rfs, r_mem0, r_memc, r_beq, r_kl0, r_klz, r_kl1i, r_kl1r, r_kl1n, r_kl1l, r_kl1d, List.length_cons, List.length_nil, List.getElem?_cons_zero, List.getElem?_cons_succ, List.set_cons_zero, List.set_cons_succ, true_and, and_true, not_true, not_false_eq_true, false_implies, true_implies, or_true, true_or, or_false, false_or, Bool.or_false, Bool.false_or, decide_false, decide_true, Nat.reduceLT, Nat.reduceLeDiff, Nat.reduceAdd, Nat.reduceSub, ↓reduceIte, Nat.reduceEqDiff, Nat.lt_add_one]
  refine c_above (lo := 20) hp (by decide) ?_
  simp only [cd_X1_lock, e1, e2, hE1, hE2, g1, g2, g3, g4, g5, f1, x1, x2, x3, b1, s1, i1, r_rn0, r_rnc, r_vk0, r_vkc, r_vks, r_kci, r_kcv, r_ild, r_ald, r_lld, r_dld, r_Li, r_La, r_Ll, r_Ld, r_Ki, r_Ka, r_Kl, r_Kd, r_Kn, r_ist, r_ast, r_lst, r_dst, r_iinc, r_int, r_lng, r_dbl, r_i2, r_i1, r_l2, r_lsh, r_i2z, r_l2z, r_i2l, r_l2i, r_i2d, r_lcmp, r_ddiv, r_dcmpl, r_dup, r_dup2, r_pop, r_one_int, r_one_ref, r_go, r_if, r_ic, r_tsw, r_lsw, r_sw0, r_swc, r_lk0, r_lkc, r_kp, r_gI, r_gL, r_gR, r_pI, r_pZ, r_pL, r_pR, r_gs, r_ia, r_ca, r_za, r_la, r_da, r_aa, r_ias, r_cas, r_zas, r_las, r_das, r_aas, r_acp, r_new, r_nwa, r_nwq, r_ret, r_irt, r_zrt, r_lrt, r_drt, r_art, r_thr, r_cV0, r_cV1, r_cV2, r_cV3, r_cV4, r_cV5, r_cI0, r_cS0, r_cS1, r_cS2, r_cS3, r_cX0, r_cX1, r_cX2, r_cX3, r_rc, r_oi, r_refx, r_i10, r_i01, r_rfs, r_mem0, r_memc, r_beq, r_kl0, r_klz, r_kl1i, r_kl1r, r_kl1n, r_kl1l, r_kl1d, List.length_cons, List.length_nil, List.getElem?_cons_zero, List.getElem?_cons_succ, List.set_cons_zero, List.set_cons_succ, true_and, and_true, not_true, not_false_eq_true, false_implies, true_implies, or_true, true_or, or_false, false_or, Bool.or_false, Bool.false_or, decide_false, decide_true, Nat.reduceLT, Nat.reduceLeDiff, Nat.reduceAdd, Nat.reduceSub, ↓reduceIte, Nat.reduceEqDiff, Nat.lt_add_one]
  refine c_fillWith hF hp (fun I1 q1 h1 => ?_)
  simp only [cd_X1_lock, e1, e2, hE1, hE2, g1, g2, g3, g4, g5, f1, x1, x2, x3, b1, s1, i1, r_rn0, r_rnc, r_vk0, r_vkc, r_vks, r_kci, r_kcv, r_ild, r_ald, r_lld, r_dld, r_Li, r_La, r_Ll, r_Ld, r_Ki, r_Ka, r_Kl, r_Kd, r_Kn, r_ist, r_ast, r_lst, r_dst, r_iinc, r_int, r_lng, r_dbl, r_i2, r_i1, r_l2, r_lsh, r_i2z, r_l2z, r_i2l, r_l2i, r_i2d, r_lcmp, r_ddiv, r_dcmpl, r_dup, r_dup2, r_pop, r_one_int, r_one_ref, r_go, r_if, r_ic, r_tsw, r_lsw, r_sw0, r_swc, r_lk0, r_lkc, r_kp, r_gI, r_gL, r_gR, r_pI, r_pZ, r_pL, r_pR, r_gs, r_ia, r_ca, r_za, r_la, r_da, r_aa, r_ias, r_cas, r_zas, r_las, r_das, r_aas, r_acp, r_new, r_nwa, r_nwq, r_ret, r_irt, r_zrt, r_lrt, r_drt, r_art, r_thr, r_cV0, r_cV1, r_cV2, r_cV3, r_cV4, r_cV5, r_cI0, r_cS0, r_cS1, r_cS2, r_cS3, r_cX0, r_cX1, r_cX2, r_cX3, r_rc, r_oi, r_refx, r_i10, r_i01, r_rfs, r_mem0, r_memc, r_beq, r_kl0, r_klz, r_kl1i, r_kl1r, r_kl1n, r_kl1l, r_kl1d, List.length_cons, List.length_nil, List.getElem?_cons_zero, List.getElem?_cons_succ, List.set_cons_zero, List.set_cons_succ, true_and, and_true, not_true, not_false_eq_true, false_implies, true_implies, or_true, true_or, or_false, false_or, Bool.or_false, Bool.false_or, decide_false, decide_true, Nat.reduceLT, Nat.reduceLeDiff, Nat.reduceAdd, Nat.reduceSub, ↓reduceIte, Nat.reduceEqDiff, Nat.lt_add_one]
  refine c_clear hF (fun I2 q2 h2 h2' => ?_)
  sorry
end LOCK
