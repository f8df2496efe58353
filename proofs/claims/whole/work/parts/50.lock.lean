/-! the engine: lock -/
section LOCK
variable {G : mz_G} {K : mz_K} {T : mz_T} {I : mz_I} {L : mz_L}
def m_high (m : Nat → Int32) : Bool := decide ((20 : Int) * 10 ≤ m_r m * 10 + m_c m + s_cell (m_kd m) (m_st m) 0)
def o_lockm (m : Nat → Int32) (le : Int32) : Nat → Int32 := o_lock1 m le
noncomputable def o_lock (m : Nat → Int32) (le : Int32) : Nat → Int32 := if m_high m then m_u (o_lock1 m le) 221 1 else o_put (o_draw (o_lock1 m le)) (m_dk (o_lock1 m le))
noncomputable def m_lfit (m : Nat → Int32) (le : Int32) : Bool := !m_high m && o_fits (o_draw (o_lock1 m le)) (m_dk (o_lock1 m le))
theorem s_fc_cg {e e' : Nat → Bool} (h : ∀ i, i < 220 → e i = e' i) : ∀ n, n ≤ 22 → s_fc e n = s_fc e' n
  | 0, _ => rfl
  | n + 1, hn => by unfold s_fc; rw [s_fc_cg h n (by omega), s_rc_cg 10 (fun j hj => h _ (by omega))]
theorem s_full_cg {e e' : Nat → Bool} (h : ∀ i, i < 220 → e i = e' i) {r : Nat} (hr : r < 22) : s_full e r = s_full e' r := by
  unfold s_full; rw [s_rc_cg 10 (fun j hj => h _ (by omega))]
theorem s_nk_cg {e e' : Nat → Bool} (h : ∀ i, i < 220 → e i = e' i) : ∀ n, n ≤ 22 → s_nk e n = s_nk e' n
  | 0, _ => rfl
  | n + 1, hn => by unfold s_nk; rw [s_nk_cg h n (by omega), s_full_cg h (by omega)]
theorem p_M_B {me ra nw many B B' : Nat} {Aj : Nat → z_A} {rr : Nat → Nat → Int32} (hM : p_M T I L me ra Aj nw many B rr) (hB : B ≤ B') : p_M T I L me ra Aj nw many B' rr := ⟨hM.1, hM.2.1, fun i hi => p_R_B (hM.2.2 i hi) hB⟩
theorem c_lockE {en me ra nw many B fi lt : Nat} {A : z_A} {Aj : Nat → z_A} {m : Nat → Int32} {rr : Nat → Nat → Int32} (hE : p_E T en A) (hE1 : T.2 en 1 = some me) (hE2 : T.2 en 2 = some fi) (hfi : (fi, 0, 3) ∈ T.1 ∧ T.2 fi 0 = some lt ∧ (lt, 1, 448) ∈ T.1) (h : p_R T I L A B m) (hl : m 221 = 0) (hB : B < 1000000000) (hM : p_M T I L me ra Aj nw many B rr) (hdj : ∀ j, j < 6 → z_dj (Aj j) A)
    (hK : ∀ I' L', p_Go T I L I' L' A me ra Aj (w_mn (m_lfit m (s_lc (I lt) (m_kd m) (m_st m) (m_c m) 4)) many) (B + 1) (o_lock m (s_lc (I lt) (m_kd m) (m_st m) (m_c m) 4)) (w_rr (m_lfit m (s_lc (I lt) (m_kd m) (m_st m) (m_c m) 4)) many rr (o_app (o_draw (o_lock1 m (s_lc (I lt) (m_kd m) (m_st m) (m_c m) 4))) (m_dk (o_lock1 m (s_lc (I lt) (m_kd m) (m_st m) (m_c m) 4))))) → K (some (.int (zI (m_n (o_fill m))))) T I' L') : mz_Ctr G M_X1_lock [.ref en] T I L K := by
  refine mz_apartC fun hU => ?_
  obtain ⟨e1, e2⟩ := id hE
  have hA := h.sh
  obtain ⟨⟨g1, g2, g3, g4, g5⟩, hF, hX, ⟨b1, b2, b3⟩, hS⟩ := id hA
  obtain ⟨f1, f2, f3⟩ := id hF
  obtain ⟨x1, x2, x3⟩ := id hX
  obtain ⟨s1, s2, s3, s4, s5⟩ := id hS
  obtain ⟨i1, i2, i3⟩ := hfi
  have m1 : (me, 0, 6) ∈ T.1 := hM.1.1
  have hmA : me ∉ A.all := z_out hU hA m1 (by decide)
  obtain ⟨hp, hq, hfit⟩ := h.now hl
  obtain ⟨p1, p2, p3, p4, p5, p6⟩ := id hp
  obtain ⟨hpc, hus, -, -⟩ := h.live hl
  have ne : ∀ {a b : Nat} {x y : Nat × Nat}, (a, x) ∈ T.1 → (b, y) ∈ T.1 → x ≠ y → a ≠ b := fun a b c => mz_ne hU a b c
  have hn4 : m_n (o_fill m) ≤ 4 := fill_four h.nof
  have hsp := m_spin_le (m := m)
  refine mz_ofl mk_X1_lock rfl (Nat.le_of_ble_eq_true rfl) (Nat.le_of_ble_eq_true rfl) [some (.ref en), none, none, none, none, none] rfl ?_
  refine mz_vc ok_X1_lock [86, 87] [(), (), (), (), (), (), (), (), (), (), (), (), (), (), (), (), (), (), (), (), (), (), (), (), (), (), (), (), (), ()] ?_
  simp only [cd_X1_lock, e1, e2, hE1, hE2, g1, g2, g3, g4, g5, f1, x1, x2, x3, b1, s1, i1, p2, r_rn0, r_rnc, r_vk0, r_vkc, r_vks, r_kci, r_kcv, r_ild, r_ald, r_lld, r_dld, r_Li, r_La, r_Ll, r_Ld, r_Ki, r_Ka, r_Kl, r_Kd, r_Kn, r_ist, r_ast, r_lst, r_dst, r_iinc, r_int, r_lng, r_dbl, r_i2, r_i1, r_l2, r_lsh, r_i2z, r_l2z, r_i2l, r_l2i, r_i2d, r_lcmp, r_ddiv, r_dcmpl, r_dup, r_dup2, r_pop, r_one_int, r_one_ref, r_go, r_if, r_ic, r_tsw, r_lsw, r_sw0, r_swc, r_lk0, r_lkc, r_kp, r_gI, r_gL, r_gR, r_pI, r_pZ, r_pL, r_pR, r_gs, r_ia, r_ca, r_za, r_la, r_da, r_aa, r_ias, r_cas, r_zas, r_las, r_das, r_aas, r_acp, r_new, r_nwa, r_nwq, r_ret, r_irt, r_zrt, r_lrt, r_drt, r_art, r_thr, r_cV0, r_cV1, r_cV2, r_cV3, r_cV4, r_cV5, r_cI0, r_cS0, r_cS1, r_cS2, r_cS3, r_cX0, r_cX1, r_cX2, r_cX3, r_rc, r_oi, r_refx, r_i10, r_i01, r_rfs, r_mem0, r_memc, r_beq, r_kl0, r_klz, r_kl1i, r_kl1r, r_kl1n, r_kl1l, r_kl1d, List.length_cons, List.length_nil, List.getElem?_cons_zero, List.getElem?_cons_succ, List.set_cons_zero, List.set_cons_succ, true_and, and_true, not_true, not_false_eq_true, false_implies, true_implies, or_true, true_or, or_false, false_or, Bool.or_false, Bool.false_or, decide_false, decide_true, Nat.reduceLT, Nat.reduceLeDiff, Nat.reduceAdd, Nat.reduceSub, ↓reduceIte, Nat.reduceEqDiff, Nat.lt_add_one]
  refine c_findSpin hE h hl ?_
  simp only [cd_X1_lock, e1, e2, hE1, hE2, g1, g2, g3, g4, g5, f1, x1, x2, x3, b1, s1, i1, r_rn0, r_rnc, r_vk0, r_vkc, r_vks, r_kci, r_kcv, r_ild, r_ald, r_lld, r_dld, r_Li, r_La, r_Ll, r_Ld, r_Ki, r_Ka, r_Kl, r_Kd, r_Kn, r_ist, r_ast, r_lst, r_dst, r_iinc, r_int, r_lng, r_dbl, r_i2, r_i1, r_l2, r_lsh, r_i2z, r_l2z, r_i2l, r_l2i, r_i2d, r_lcmp, r_ddiv, r_dcmpl, r_dup, r_dup2, r_pop, r_one_int, r_one_ref, r_go, r_if, r_ic, r_tsw, r_lsw, r_sw0, r_swc, r_lk0, r_lkc, r_kp, r_gI, r_gL, r_gR, r_pI, r_pZ, r_pL, r_pR, r_gs, r_ia, r_ca, r_za, r_la, r_da, r_aa, r_ias, r_cas, r_zas, r_las, r_das, r_aas, r_acp, r_new, r_nwa, r_nwq, r_ret, r_irt, r_zrt, r_lrt, r_drt, r_art, r_thr, r_cV0, r_cV1, r_cV2, r_cV3, r_cV4, r_cV5, r_cI0, r_cS0, r_cS1, r_cS2, r_cS3, r_cX0, r_cX1, r_cX2, r_cX3, r_rc, r_oi, r_refx, r_i10, r_i01, r_rfs, r_mem0, r_memc, r_beq, r_kl0, r_klz, r_kl1i, r_kl1r, r_kl1n, r_kl1l, r_kl1d, List.length_cons, List.length_nil, List.getElem?_cons_zero, List.getElem?_cons_succ, List.set_cons_zero, List.set_cons_succ, true_and, and_true, not_true, not_false_eq_true, false_implies, true_implies, or_true, true_or, or_false, false_or, Bool.or_false, Bool.false_or, decide_false, decide_true, Nat.reduceLT, Nat.reduceLeDiff, Nat.reduceAdd, Nat.reduceSub, ↓reduceIte, Nat.reduceEqDiff, Nat.lt_add_one]
  refine c_above (lo := 20) hp (by decide) ?_
  simp only [cd_X1_lock, e1, e2, hE1, hE2, g1, g2, g3, g4, g5, f1, x1, x2, x3, b1, s1, i1, r_rn0, r_rnc, r_vk0, r_vkc, r_vks, r_kci, r_kcv, r_ild, r_ald, r_lld, r_dld, r_Li, r_La, r_Ll, r_Ld, r_Ki, r_Ka, r_Kl, r_Kd, r_Kn, r_ist, r_ast, r_lst, r_dst, r_iinc, r_int, r_lng, r_dbl, r_i2, r_i1, r_l2, r_lsh, r_i2z, r_l2z, r_i2l, r_l2i, r_i2d, r_lcmp, r_ddiv, r_dcmpl, r_dup, r_dup2, r_pop, r_one_int, r_one_ref, r_go, r_if, r_ic, r_tsw, r_lsw, r_sw0, r_swc, r_lk0, r_lkc, r_kp, r_gI, r_gL, r_gR, r_pI, r_pZ, r_pL, r_pR, r_gs, r_ia, r_ca, r_za, r_la, r_da, r_aa, r_ias, r_cas, r_zas, r_las, r_das, r_aas, r_acp, r_new, r_nwa, r_nwq, r_ret, r_irt, r_zrt, r_lrt, r_drt, r_art, r_thr, r_cV0, r_cV1, r_cV2, r_cV3, r_cV4, r_cV5, r_cI0, r_cS0, r_cS1, r_cS2, r_cS3, r_cX0, r_cX1, r_cX2, r_cX3, r_rc, r_oi, r_refx, r_i10, r_i01, r_rfs, r_mem0, r_memc, r_beq, r_kl0, r_klz, r_kl1i, r_kl1r, r_kl1n, r_kl1l, r_kl1d, List.length_cons, List.length_nil, List.getElem?_cons_zero, List.getElem?_cons_succ, List.set_cons_zero, List.set_cons_succ, true_and, and_true, not_true, not_false_eq_true, false_implies, true_implies, or_true, true_or, or_false, false_or, Bool.or_false, Bool.false_or, decide_false, decide_true, Nat.reduceLT, Nat.reduceLeDiff, Nat.reduceAdd, Nat.reduceSub, ↓reduceIte, Nat.reduceEqDiff, Nat.lt_add_one]
  refine c_fillWith hF hp (fun I1 q1 h1 => ?_)
  simp only [cd_X1_lock, e1, e2, hE1, hE2, g1, g2, g3, g4, g5, f1, x1, x2, x3, b1, s1, i1, r_rn0, r_rnc, r_vk0, r_vkc, r_vks, r_kci, r_kcv, r_ild, r_ald, r_lld, r_dld, r_Li, r_La, r_Ll, r_Ld, r_Ki, r_Ka, r_Kl, r_Kd, r_Kn, r_ist, r_ast, r_lst, r_dst, r_iinc, r_int, r_lng, r_dbl, r_i2, r_i1, r_l2, r_lsh, r_i2z, r_l2z, r_i2l, r_l2i, r_i2d, r_lcmp, r_ddiv, r_dcmpl, r_dup, r_dup2, r_pop, r_one_int, r_one_ref, r_go, r_if, r_ic, r_tsw, r_lsw, r_sw0, r_swc, r_lk0, r_lkc, r_kp, r_gI, r_gL, r_gR, r_pI, r_pZ, r_pL, r_pR, r_gs, r_ia, r_ca, r_za, r_la, r_da, r_aa, r_ias, r_cas, r_zas, r_las, r_das, r_aas, r_acp, r_new, r_nwa, r_nwq, r_ret, r_irt, r_zrt, r_lrt, r_drt, r_art, r_thr, r_cV0, r_cV1, r_cV2, r_cV3, r_cV4, r_cV5, r_cI0, r_cS0, r_cS1, r_cS2, r_cS3, r_cX0, r_cX1, r_cX2, r_cX3, r_rc, r_oi, r_refx, r_i10, r_i01, r_rfs, r_mem0, r_memc, r_beq, r_kl0, r_klz, r_kl1i, r_kl1r, r_kl1n, r_kl1l, r_kl1d, List.length_cons, List.length_nil, List.getElem?_cons_zero, List.getElem?_cons_succ, List.set_cons_zero, List.set_cons_succ, true_and, and_true, not_true, not_false_eq_true, false_implies, true_implies, or_true, true_or, or_false, false_or, Bool.or_false, Bool.false_or, decide_false, decide_true, Nat.reduceLT, Nat.reduceLeDiff, Nat.reduceAdd, Nat.reduceSub, ↓reduceIte, Nat.reduceEqDiff, Nat.lt_add_one]
  refine c_clear hF (fun I2 q2 h2 h2' => ?_)
  have q12 : fr I I2 [A.k] := fr_tr1 q1 q2 (fun _ q => q)
  have ek1 : ∀ i, i < 220 → I1 A.k i = o_fill m i - 1 := by
    intro i hi
    rw [h1 i hi]
    unfold o_fill
    by_cases c : s_has (m_kd m) (m_st m) (m_c m) (m_r m) (i : Int) = true
    · rw [if_pos c, if_pos ⟨hi, c⟩, hq.1, Int32.add_sub_cancel]
    · rw [if_neg c, if_neg (fun e => c e.2)]; exact h.fld i hi
  have fl1 := fl_of ek1
  have ek2 : ∀ i, i < 220 → I2 A.k i = o_clear (o_fill m) i - 1 := by
    refine clear_of ek1 (fun r c hr hc hfu => ?_) (fun i a b => ?_)
    · have := h2 r c hr hc (by rw [s_full_cg fl1 hr]; exact hfu)
      rw [s_nk_cg fl1 r (by omega)] at this
      exact this
    · refine h2' i ?_ b
      rw [s_nk_cg fl1 22 (Nat.le_refl _)]; exact a
  have enn : 22 - s_nk (s_fl (I1 A.k)) 22 = m_n (o_fill m) := by rw [s_nk_cg fl1 22 (Nat.le_refl _)]; rfl
  rw [enn]
  simp only [cd_X1_lock, e1, e2, hE1, hE2, g1, g2, g3, g4, g5, f1, x1, x2, x3, b1, s1, i1, r_rn0, r_rnc, r_vk0, r_vkc, r_vks, r_kci, r_kcv, r_ild, r_ald, r_lld, r_dld, r_Li, r_La, r_Ll, r_Ld, r_Ki, r_Ka, r_Kl, r_Kd, r_Kn, r_ist, r_ast, r_lst, r_dst, r_iinc, r_int, r_lng, r_dbl, r_i2, r_i1, r_l2, r_lsh, r_i2z, r_l2z, r_i2l, r_l2i, r_i2d, r_lcmp, r_ddiv, r_dcmpl, r_dup, r_dup2, r_pop, r_one_int, r_one_ref, r_go, r_if, r_ic, r_tsw, r_lsw, r_sw0, r_swc, r_lk0, r_lkc, r_kp, r_gI, r_gL, r_gR, r_pI, r_pZ, r_pL, r_pR, r_gs, r_ia, r_ca, r_za, r_la, r_da, r_aa, r_ias, r_cas, r_zas, r_las, r_das, r_aas, r_acp, r_new, r_nwa, r_nwq, r_ret, r_irt, r_zrt, r_lrt, r_drt, r_art, r_thr, r_cV0, r_cV1, r_cV2, r_cV3, r_cV4, r_cV5, r_cI0, r_cS0, r_cS1, r_cS2, r_cS3, r_cX0, r_cX1, r_cX2, r_cX3, r_rc, r_oi, r_refx, r_i10, r_i01, r_rfs, r_mem0, r_memc, r_beq, r_kl0, r_klz, r_kl1i, r_kl1r, r_kl1n, r_kl1l, r_kl1d, List.length_cons, List.length_nil, List.getElem?_cons_zero, List.getElem?_cons_succ, List.set_cons_zero, List.set_cons_succ, true_and, and_true, not_true, not_false_eq_true, false_implies, true_implies, or_true, true_or, or_false, false_or, Bool.or_false, Bool.false_or, decide_false, decide_true, Nat.reduceLT, Nat.reduceLeDiff, Nat.reduceAdd, Nat.reduceSub, ↓reduceIte, Nat.reduceEqDiff, Nat.lt_add_one]
  have es2 : I2 A.s = I A.s := fr_ne1 q12 (ne s1 f2 (by decide))
  have ex2 : I2 A.x = I A.x := fr_ne1 q12 (ne x1 f2 (by decide))
  have eg2 : I2 A.g = I A.g := fr_ne1 q12 (ne g1 f2 (by decide))
  have ep2 : I2 A.p = I A.p := fr_ne1 q12 (ne x3 f2 (by decide))
  have elt2 : I2 lt = I lt := fr_ne1 q12 (ne i3 f2 (by decide))
  have c9 := h.sc
  have go87 : ∀ b : Bool, b = decide (s_fc (s_fm (o_clear (o_fill m))) 22 = 0) → mz_W G M_X1_lock K mz_nX 87 [some (.ref en), some (.ref A.x), some (.int (zI (m_kd m))), some (.int (zI (m_spin m))), some (.int (b2i (m_high m))), some (.int (zI (m_n (o_fill m))))] [.int (b2i b), .int (zI (m_spin m)), .int (zI (m_n (o_fill m))), .int (zI (m_kd m)), .ref A.s] T I2 L (0, 0) := by
    intro b hb
    refine mz_vc ok_X1_lock [] [(), (), (), (), (), (), (), (), (), (), (), (), (), (), (), (), (), (), (), (), (), (), (), (), (), (), (), (), (), ()] ?_
    simp only [cd_X1_lock, e1, e2, hE1, hE2, g1, g2, g3, g4, g5, f1, x1, x2, x3, b1, s1, i1, r_rn0, r_rnc, r_vk0, r_vkc, r_vks, r_kci, r_kcv, r_ild, r_ald, r_lld, r_dld, r_Li, r_La, r_Ll, r_Ld, r_Ki, r_Ka, r_Kl, r_Kd, r_Kn, r_ist, r_ast, r_lst, r_dst, r_iinc, r_int, r_lng, r_dbl, r_i2, r_i1, r_l2, r_lsh, r_i2z, r_l2z, r_i2l, r_l2i, r_i2d, r_lcmp, r_ddiv, r_dcmpl, r_dup, r_dup2, r_pop, r_one_int, r_one_ref, r_go, r_if, r_ic, r_tsw, r_lsw, r_sw0, r_swc, r_lk0, r_lkc, r_kp, r_gI, r_gL, r_gR, r_pI, r_pZ, r_pL, r_pR, r_gs, r_ia, r_ca, r_za, r_la, r_da, r_aa, r_ias, r_cas, r_zas, r_las, r_das, r_aas, r_acp, r_new, r_nwa, r_nwq, r_ret, r_irt, r_zrt, r_lrt, r_drt, r_art, r_thr, r_cV0, r_cV1, r_cV2, r_cV3, r_cV4, r_cV5, r_cI0, r_cS0, r_cS1, r_cS2, r_cS3, r_cX0, r_cX1, r_cX2, r_cX3, r_rc, r_oi, r_refx, r_i10, r_i01, r_rfs, r_mem0, r_memc, r_beq, r_kl0, r_klz, r_kl1i, r_kl1r, r_kl1n, r_kl1l, r_kl1d, List.length_cons, List.length_nil, List.getElem?_cons_zero, List.getElem?_cons_succ, List.set_cons_zero, List.set_cons_succ, true_and, and_true, not_true, not_false_eq_true, false_implies, true_implies, or_true, true_or, or_false, false_or, Bool.or_false, Bool.false_or, decide_false, decide_true, Nat.reduceLT, Nat.reduceLeDiff, Nat.reduceAdd, Nat.reduceSub, ↓reduceIte, Nat.reduceEqDiff, Nat.lt_add_one]
    have hwh : I2 A.s 8 = b2i (decide (m 266 = 1)) := by
      rw [es2, c9.2.2.2.2.2.2.2.2]
      rcases h.hard with e | e <;> rw [e] <;> rfl
    refine c_noteLock hS hn4 hsp hwh (fun I3 q3 hw => ?_)
    simp only [cd_X1_lock, e1, e2, hE1, hE2, g1, g2, g3, g4, g5, f1, x1, x2, x3, b1, s1, i1, r_rn0, r_rnc, r_vk0, r_vkc, r_vks, r_kci, r_kcv, r_ild, r_ald, r_lld, r_dld, r_Li, r_La, r_Ll, r_Ld, r_Ki, r_Ka, r_Kl, r_Kd, r_Kn, r_ist, r_ast, r_lst, r_dst, r_iinc, r_int, r_lng, r_dbl, r_i2, r_i1, r_l2, r_lsh, r_i2z, r_l2z, r_i2l, r_l2i, r_i2d, r_lcmp, r_ddiv, r_dcmpl, r_dup, r_dup2, r_pop, r_one_int, r_one_ref, r_go, r_if, r_ic, r_tsw, r_lsw, r_sw0, r_swc, r_lk0, r_lkc, r_kp, r_gI, r_gL, r_gR, r_pI, r_pZ, r_pL, r_pR, r_gs, r_ia, r_ca, r_za, r_la, r_da, r_aa, r_ias, r_cas, r_zas, r_las, r_das, r_aas, r_acp, r_new, r_nwa, r_nwq, r_ret, r_irt, r_zrt, r_lrt, r_drt, r_art, r_thr, r_cV0, r_cV1, r_cV2, r_cV3, r_cV4, r_cV5, r_cI0, r_cS0, r_cS1, r_cS2, r_cS3, r_cX0, r_cX1, r_cX2, r_cX3, r_rc, r_oi, r_refx, r_i10, r_i01, r_rfs, r_mem0, r_memc, r_beq, r_kl0, r_klz, r_kl1i, r_kl1r, r_kl1n, r_kl1l, r_kl1d, List.length_cons, List.length_nil, List.getElem?_cons_zero, List.getElem?_cons_succ, List.set_cons_zero, List.set_cons_succ, true_and, and_true, not_true, not_false_eq_true, false_implies, true_implies, or_true, true_or, or_false, false_or, Bool.or_false, Bool.false_or, decide_false, decide_true, Nat.reduceLT, Nat.reduceLeDiff, Nat.reduceAdd, Nat.reduceSub, ↓reduceIte, Nat.reduceEqDiff, Nat.lt_add_one]
    have q13 : fr I I3 [A.k, A.s, A.c, A.l] := fr_tr q12 q3 (by simp) (by simp)
    have ex3 : I3 A.x = I A.x := q13 _ (by simp; exact ⟨ne x1 f2 (by decide), ne x1 s1 (by decide), ne x1 s2 (by decide), ne x1 s3 (by decide)⟩)
    have ep3 : I3 A.p = I A.p := q13 _ (by simp; exact ⟨ne x3 f2 (by decide), ne x3 s1 (by decide), ne x3 s2 (by decide), ne x3 s3 (by decide)⟩)
    have elt3 : I3 lt = I lt := q13 _ (by simp; exact ⟨ne i3 f2 (by decide), ne i3 s1 (by decide), ne i3 s2 (by decide), ne i3 s3 (by decide)⟩)
    have hp3 : p_Pos T I3 A.p (m_kd m) (m_st m) (m_c m) (m_r m) := ⟨p1, by rw [ep3]; exact p2, by rw [ep3]; exact p3, by rw [ep3]; exact p4, by rw [ep3]; exact p5, p6⟩
    refine c_leastCells i1 i2 i3 hp3 ?_
    rw [elt3]
    generalize hle : s_lc (I lt) (m_kd m) (m_st m) (m_c m) 4 = le at hK
    simp only [cd_X1_lock, e1, e2, hE1, hE2, g1, g2, g3, g4, g5, f1, x1, x2, x3, b1, s1, i1, r_rn0, r_rnc, r_vk0, r_vkc, r_vks, r_kci, r_kcv, r_ild, r_ald, r_lld, r_dld, r_Li, r_La, r_Ll, r_Ld, r_Ki, r_Ka, r_Kl, r_Kd, r_Kn, r_ist, r_ast, r_lst, r_dst, r_iinc, r_int, r_lng, r_dbl, r_i2, r_i1, r_l2, r_lsh, r_i2z, r_l2z, r_i2l, r_l2i, r_i2d, r_lcmp, r_ddiv, r_dcmpl, r_dup, r_dup2, r_pop, r_one_int, r_one_ref, r_go, r_if, r_ic, r_tsw, r_lsw, r_sw0, r_swc, r_lk0, r_lkc, r_kp, r_gI, r_gL, r_gR, r_pI, r_pZ, r_pL, r_pR, r_gs, r_ia, r_ca, r_za, r_la, r_da, r_aa, r_ias, r_cas, r_zas, r_las, r_das, r_aas, r_acp, r_new, r_nwa, r_nwq, r_ret, r_irt, r_zrt, r_lrt, r_drt, r_art, r_thr, r_cV0, r_cV1, r_cV2, r_cV3, r_cV4, r_cV5, r_cI0, r_cS0, r_cS1, r_cS2, r_cS3, r_cX0, r_cX1, r_cX2, r_cX3, r_rc, r_oi, r_refx, r_i10, r_i01, r_rfs, r_mem0, r_memc, r_beq, r_kl0, r_klz, r_kl1i, r_kl1r, r_kl1n, r_kl1l, r_kl1d, List.length_cons, List.length_nil, List.getElem?_cons_zero, List.getElem?_cons_succ, List.set_cons_zero, List.set_cons_succ, true_and, and_true, not_true, not_false_eq_true, false_implies, true_implies, or_true, true_or, or_false, false_or, Bool.or_false, Bool.false_or, decide_false, decide_true, Nat.reduceLT, Nat.reduceLeDiff, Nat.reduceAdd, Nat.reduceSub, ↓reduceIte, Nat.reduceEqDiff, Nat.lt_add_one]
    rw [ex3, hpc 4 (by decide) (by decide), show 225 + 4 = 229 from rfl]
    refine c_noteFin hS (fun I4 q4 hfin => ?_)
    simp only [cd_X1_lock, e1, e2, hE1, hE2, g1, g2, g3, g4, g5, f1, x1, x2, x3, b1, s1, i1, b2i_0, r_rn0, r_rnc, r_vk0, r_vkc, r_vks, r_kci, r_kcv, r_ild, r_ald, r_lld, r_dld, r_Li, r_La, r_Ll, r_Ld, r_Ki, r_Ka, r_Kl, r_Kd, r_Kn, r_ist, r_ast, r_lst, r_dst, r_iinc, r_int, r_lng, r_dbl, r_i2, r_i1, r_l2, r_lsh, r_i2z, r_l2z, r_i2l, r_l2i, r_i2d, r_lcmp, r_ddiv, r_dcmpl, r_dup, r_dup2, r_pop, r_one_int, r_one_ref, r_go, r_if, r_ic, r_tsw, r_lsw, r_sw0, r_swc, r_lk0, r_lkc, r_kp, r_gI, r_gL, r_gR, r_pI, r_pZ, r_pL, r_pR, r_gs, r_ia, r_ca, r_za, r_la, r_da, r_aa, r_ias, r_cas, r_zas, r_las, r_das, r_aas, r_acp, r_new, r_nwa, r_nwq, r_ret, r_irt, r_zrt, r_lrt, r_drt, r_art, r_thr, r_cV0, r_cV1, r_cV2, r_cV3, r_cV4, r_cV5, r_cI0, r_cS0, r_cS1, r_cS2, r_cS3, r_cX0, r_cX1, r_cX2, r_cX3, r_rc, r_oi, r_refx, r_i10, r_i01, r_rfs, r_mem0, r_memc, r_beq, r_kl0, r_klz, r_kl1i, r_kl1r, r_kl1n, r_kl1l, r_kl1d, List.length_cons, List.length_nil, List.getElem?_cons_zero, List.getElem?_cons_succ, List.set_cons_zero, List.set_cons_succ, true_and, and_true, not_true, not_false_eq_true, false_implies, true_implies, or_true, true_or, or_false, false_or, Bool.or_false, Bool.false_or, decide_false, decide_true, Nat.reduceLT, Nat.reduceLeDiff, Nat.reduceAdd, Nat.reduceSub, ↓reduceIte, Nat.reduceEqDiff, Nat.lt_add_one]
    have q14 : fr I (mz_u I4 A.g 5 0) [A.k, A.s, A.c, A.l, A.g] := fr_u2 (fr_tr q13 q4 (by simp) (by simp)) (by simp)
    have sg : A.s ≠ A.g := ne s1 g1 (by decide)
    have cg : A.c ≠ A.g := ne s2 g1 (by decide)
    have lg : A.l ≠ A.g := ne s3 g1 (by decide)
    have kg : A.k ≠ A.g := ne f2 g1 (by decide)
    have cs : A.c ≠ A.s := ne s2 s1 (by decide)
    have cl : A.c ≠ A.l := ne s2 s3 (by decide)
    have ec2 : I2 A.c = I A.c := fr_ne1 q12 (ne s2 f2 (by decide))
    have el2 : I2 A.l = I A.l := fr_ne1 q12 (ne s3 f2 (by decide))
    have ek4 : I4 A.k = I2 A.k := by
      rw [q4 _ (by simp; exact ⟨ne f2 s1 (by decide), ne f2 s3 (by decide)⟩), q3 _ (by simp; exact ⟨ne f2 s1 (by decide), ne f2 s2 (by decide), ne f2 s3 (by decide)⟩)]
    have ec4 : I4 A.c = I3 A.c := q4 _ (by simp; exact ⟨cs, cl⟩)
    have eg4 : I4 A.g = I A.g := by
      rw [q4 _ (by simp; exact ⟨Ne.symm sg, Ne.symm lg⟩), q13 _ (by simp; exact ⟨Ne.symm kg, Ne.symm sg, Ne.symm cg, Ne.symm lg⟩)]
    obtain ⟨⟨w0, w1, w2, w3, w4⟩, ⟨w5, w6, w7, w8⟩, wc, l0, l1, l2, l3, l6⟩ := hw
    obtain ⟨v5, v6, vs, vl4, vl5, vl⟩ := hfin
    rw [es2] at w0 w1 w2 w3 w4 w5 w6 w7 w8 l3
    rw [ec2] at wc
    rw [hb] at w0 l3
    have hQ : p_Q T (mz_u I4 A.g 5 0) L A (B + 1) (o_lock1 m le) := by
      refine lock_Q hU h hl hB q14 ?_ ?_ ?_ ?_ ?_
      · intro i hi; rw [mz_u_ne kg, ek4]; exact ek2 i hi
      · rw [mz_u_ne sg, vs 0 (by decide) (by decide), vs 1 (by decide) (by decide), vs 2 (by decide) (by decide), vs 3 (by decide) (by decide), vs 4 (by decide) (by decide), vs 7 (by decide) (by decide), vs 8 (by decide) (by decide), v5, v6, w0, w1, w2, w3, w4, w5, w6, w7, w8]
        exact ⟨rfl, rfl, rfl, rfl, rfl, rfl, rfl, rfl, rfl⟩
      · intro j; rw [mz_u_ne cg, ec4]; exact wc j
      · rw [mz_u_ne lg, vl 0 (by decide) (by decide), vl 1 (by decide) (by decide), vl 2 (by decide) (by decide), vl 3 (by decide) (by decide), vl 6 (by decide) (by decide), vl4, vl5, l0, l1, l2, l3, l6]
        exact ⟨hq.1.symm, rfl, rfl, rfl, rfl, rfl, rfl⟩
      · rw [mz_u_nk (by decide), mz_u_eq, mz_u_nk (by decide), eg4]
        exact ⟨rfl, rfl, rfl⟩
    have sub : ∀ a, a ∈ [A.k, A.s, A.c, A.l, A.g] → a ∈ A.all := by simp [z_A.all]
    have hM1 := p_M_B (M_step hU hM hA hdj q14 sub (fr_refl : fr L L [A.b])) (Nat.le_succ B)
    have h7 : ∀ i, 7 ≤ i → mz_u I4 A.g 5 0 A.g i = I A.g i := fun i hi => by rw [mz_u_nk (by omega), eg4]
    refine ⟨fun q => ?_, fun q => ?_⟩
    · have e1' : o_lock m le = o_put (o_draw (o_lock1 m le)) (m_dk (o_lock1 m le)) := if_neg (by rw [q]; decide)
      have e2' : m_lfit m le = o_fits (o_draw (o_lock1 m le)) (m_dk (o_lock1 m le)) := by unfold m_lfit; rw [q]; rfl
      rw [e1', e2'] at hK
      obtain ⟨hB1, hok⟩ := z_of_Q hQ
      refine c_takeB hB1 (fun I6 L6 q6 ql6 hB6 => ?_)
      simp only [cd_X1_lock, e1, e2, hE1, hE2, g1, g2, g3, g4, g5, f1, x1, x2, x3, b1, s1, i1, r_rn0, r_rnc, r_vk0, r_vkc, r_vks, r_kci, r_kcv, r_ild, r_ald, r_lld, r_dld, r_Li, r_La, r_Ll, r_Ld, r_Ki, r_Ka, r_Kl, r_Kd, r_Kn, r_ist, r_ast, r_lst, r_dst, r_iinc, r_int, r_lng, r_dbl, r_i2, r_i1, r_l2, r_lsh, r_i2z, r_l2z, r_i2l, r_l2i, r_i2d, r_lcmp, r_ddiv, r_dcmpl, r_dup, r_dup2, r_pop, r_one_int, r_one_ref, r_go, r_if, r_ic, r_tsw, r_lsw, r_sw0, r_swc, r_lk0, r_lkc, r_kp, r_gI, r_gL, r_gR, r_pI, r_pZ, r_pL, r_pR, r_gs, r_ia, r_ca, r_za, r_la, r_da, r_aa, r_ias, r_cas, r_zas, r_las, r_das, r_aas, r_acp, r_new, r_nwa, r_nwq, r_ret, r_irt, r_zrt, r_lrt, r_drt, r_art, r_thr, r_cV0, r_cV1, r_cV2, r_cV3, r_cV4, r_cV5, r_cI0, r_cS0, r_cS1, r_cS2, r_cS3, r_cX0, r_cX1, r_cX2, r_cX3, r_rc, r_oi, r_refx, r_i10, r_i01, r_rfs, r_mem0, r_memc, r_beq, r_kl0, r_klz, r_kl1i, r_kl1r, r_kl1n, r_kl1l, r_kl1d, List.length_cons, List.length_nil, List.getElem?_cons_zero, List.getElem?_cons_succ, List.set_cons_zero, List.set_cons_succ, true_and, and_true, not_true, not_false_eq_true, false_implies, true_implies, or_true, true_or, or_false, false_or, Bool.or_false, Bool.false_or, decide_false, decide_true, Nat.reduceLT, Nat.reduceLeDiff, Nat.reduceAdd, Nat.reduceSub, ↓reduceIte, Nat.reduceEqDiff, Nat.lt_add_one]
      have hQ6 := take_Q hU hQ q6 rfl hB6
      have q16 : fr I I6 [A.k, A.s, A.c, A.l, A.g, A.b, A.v] := fr_tr q14 q6 (by simp) (by simp)
      have hM6 := M_step hU hM1 hA hdj q6 (by simp [z_A.all]) ql6
      have hgb : A.g ≠ A.b := ne g1 b1 (by decide)
      have hgv : A.g ≠ A.v := ne g1 b2 (by decide)
      refine c_appearU hE hE1 hQ6 hM6 hdj (q_kd_lt hok) (fun I' L' nw' r1 r2 r3 r4 r5 r6 => ?_)
      simp only [cd_X1_lock, e1, e2, hE1, hE2, g1, g2, g3, g4, g5, f1, x1, x2, x3, b1, s1, i1, r_rn0, r_rnc, r_vk0, r_vkc, r_vks, r_kci, r_kcv, r_ild, r_ald, r_lld, r_dld, r_Li, r_La, r_Ll, r_Ld, r_Ki, r_Ka, r_Kl, r_Kd, r_Kn, r_ist, r_ast, r_lst, r_dst, r_iinc, r_int, r_lng, r_dbl, r_i2, r_i1, r_l2, r_lsh, r_i2z, r_l2z, r_i2l, r_l2i, r_i2d, r_lcmp, r_ddiv, r_dcmpl, r_dup, r_dup2, r_pop, r_one_int, r_one_ref, r_go, r_if, r_ic, r_tsw, r_lsw, r_sw0, r_swc, r_lk0, r_lkc, r_kp, r_gI, r_gL, r_gR, r_pI, r_pZ, r_pL, r_pR, r_gs, r_ia, r_ca, r_za, r_la, r_da, r_aa, r_ias, r_cas, r_zas, r_las, r_das, r_aas, r_acp, r_new, r_nwa, r_nwq, r_ret, r_irt, r_zrt, r_lrt, r_drt, r_art, r_thr, r_cV0, r_cV1, r_cV2, r_cV3, r_cV4, r_cV5, r_cI0, r_cS0, r_cS1, r_cS2, r_cS3, r_cX0, r_cX1, r_cX2, r_cX3, r_rc, r_oi, r_refx, r_i10, r_i01, r_rfs, r_mem0, r_memc, r_beq, r_kl0, r_klz, r_kl1i, r_kl1r, r_kl1n, r_kl1l, r_kl1d, List.length_cons, List.length_nil, List.getElem?_cons_zero, List.getElem?_cons_succ, List.set_cons_zero, List.set_cons_succ, true_and, and_true, not_true, not_false_eq_true, false_implies, true_implies, or_true, true_or, or_false, false_or, Bool.or_false, Bool.false_or, decide_false, decide_true, Nat.reduceLT, Nat.reduceLeDiff, Nat.reduceAdd, Nat.reduceSub, ↓reduceIte, Nat.reduceEqDiff, Nat.lt_add_one]
      exact hK I' L' (Go_of hmA q16 (by simp [z_A.all]) ql6 (fun i hi => by rw [q6 _ (by simp; exact ⟨hgb, hgv⟩)]; exact h7 i hi) r1 r2 r3 r4 r5 r6)
    · have q : m_high m = true := by simpa using q
      have e1' : o_lock m le = m_u (o_lock1 m le) 221 1 := if_pos q
      have e2' : m_lfit m le = false := by unfold m_lfit; rw [q]; rfl
      rw [e1', e2'] at hK
      have pg : A.p ≠ A.g := ne x3 g1 (by decide)
      have ep4 : mz_u (mz_u I4 A.g 5 0) A.g 6 1 A.p = I A.p := by
        rw [mz_u_ne pg, q14 _ (by simp; exact ⟨ne x3 f2 (by decide), ne x3 s1 (by decide), ne x3 s2 (by decide), ne x3 s3 (by decide), pg⟩)]
      have f5 : fr (mz_u I4 A.g 5 0) (mz_u (mz_u I4 A.g 5 0) A.g 6 1) [A.x, A.p, A.g] := fr_u2 fr_refl (by simp)
      have hR := dead_R (m' := m_u (o_lock1 m le) 221 1) hU hQ f5 ⟨_, _, _, _, (⟨p1, by rw [ep4]; exact p2, by rw [ep4]; exact p3, by rw [ep4]; exact p4, by rw [ep4]; exact p5, p6⟩ : p_Pos T _ A.p (m_kd m) (m_st m) (m_c m) (m_r m))⟩ ⟨by rw [mz_u_nk (by decide)], by rw [mz_u_nk (by decide), mz_u_eq]; exact Or.inl rfl, mz_u_eq⟩ (fun j hj => m_u_ne (by omega)) m_u_eq
      have q15 : fr I (mz_u (mz_u I4 A.g 5 0) A.g 6 1) [A.k, A.s, A.c, A.l, A.g] := fr_u2 q14 (by simp)
      have hM2 := p_M_B (M_step hU hM hA hdj q15 sub (fr_refl : fr L L [A.b])) (Nat.le_succ B)
      refine hK _ L ⟨fr_tr q15 fr_refl (fun a ha => List.mem_cons_of_mem _ (List.mem_append_left _ (sub a ha))) (fun _ q => q), fr_refl, hR, ⟨nw, hM2⟩, fun i hi => ?_, fun i hi => ?_⟩
      · rw [mz_u_nk (by omega)]; exact h7 i hi
      · rw [q15 _ (fun e => hmA (sub _ e))]
  refine c_countFilled hF ?_
  simp only [cd_X1_lock, e1, e2, hE1, hE2, g1, g2, g3, g4, g5, f1, x1, x2, x3, b1, s1, i1, r_rn0, r_rnc, r_vk0, r_vkc, r_vks, r_kci, r_kcv, r_ild, r_ald, r_lld, r_dld, r_Li, r_La, r_Ll, r_Ld, r_Ki, r_Ka, r_Kl, r_Kd, r_Kn, r_ist, r_ast, r_lst, r_dst, r_iinc, r_int, r_lng, r_dbl, r_i2, r_i1, r_l2, r_lsh, r_i2z, r_l2z, r_i2l, r_l2i, r_i2d, r_lcmp, r_ddiv, r_dcmpl, r_dup, r_dup2, r_pop, r_one_int, r_one_ref, r_go, r_if, r_ic, r_tsw, r_lsw, r_sw0, r_swc, r_lk0, r_lkc, r_kp, r_gI, r_gL, r_gR, r_pI, r_pZ, r_pL, r_pR, r_gs, r_ia, r_ca, r_za, r_la, r_da, r_aa, r_ias, r_cas, r_zas, r_las, r_das, r_aas, r_acp, r_new, r_nwa, r_nwq, r_ret, r_irt, r_zrt, r_lrt, r_drt, r_art, r_thr, r_cV0, r_cV1, r_cV2, r_cV3, r_cV4, r_cV5, r_cI0, r_cS0, r_cS1, r_cS2, r_cS3, r_cX0, r_cX1, r_cX2, r_cX3, r_rc, r_oi, r_refx, r_i10, r_i01, r_rfs, r_mem0, r_memc, r_beq, r_kl0, r_klz, r_kl1i, r_kl1r, r_kl1n, r_kl1l, r_kl1d, List.length_cons, List.length_nil, List.getElem?_cons_zero, List.getElem?_cons_succ, List.set_cons_zero, List.set_cons_succ, true_and, and_true, not_true, not_false_eq_true, false_implies, true_implies, or_true, true_or, or_false, false_or, Bool.or_false, Bool.false_or, decide_false, decide_true, Nat.reduceLT, Nat.reduceLeDiff, Nat.reduceAdd, Nat.reduceSub, ↓reduceIte, Nat.reduceEqDiff, Nat.lt_add_one]
  have hfc : s_fc (s_fl (I2 A.k)) 22 = s_fc (s_fm (o_clear (o_fill m))) 22 := s_fc_cg (fl_of ek2) 22 (Nat.le_refl _)
  have hfl := s_fc_le (e := s_fm (o_clear (o_fill m))) 22
  rw [hfc, l_0, z_eq (by omega) (by omega)]
  refine ⟨fun q => ?_, fun q => ?_⟩
  · refine mz_vc ok_X1_lock [87] [(), (), (), (), (), (), (), (), (), (), (), (), (), (), (), (), (), (), (), (), (), (), (), (), (), (), (), (), (), ()] ?_
    simp only [cd_X1_lock, e1, e2, hE1, hE2, g1, g2, g3, g4, g5, f1, x1, x2, x3, b1, s1, i1, r_rn0, r_rnc, r_vk0, r_vkc, r_vks, r_kci, r_kcv, r_ild, r_ald, r_lld, r_dld, r_Li, r_La, r_Ll, r_Ld, r_Ki, r_Ka, r_Kl, r_Kd, r_Kn, r_ist, r_ast, r_lst, r_dst, r_iinc, r_int, r_lng, r_dbl, r_i2, r_i1, r_l2, r_lsh, r_i2z, r_l2z, r_i2l, r_l2i, r_i2d, r_lcmp, r_ddiv, r_dcmpl, r_dup, r_dup2, r_pop, r_one_int, r_one_ref, r_go, r_if, r_ic, r_tsw, r_lsw, r_sw0, r_swc, r_lk0, r_lkc, r_kp, r_gI, r_gL, r_gR, r_pI, r_pZ, r_pL, r_pR, r_gs, r_ia, r_ca, r_za, r_la, r_da, r_aa, r_ias, r_cas, r_zas, r_las, r_das, r_aas, r_acp, r_new, r_nwa, r_nwq, r_ret, r_irt, r_zrt, r_lrt, r_drt, r_art, r_thr, r_cV0, r_cV1, r_cV2, r_cV3, r_cV4, r_cV5, r_cI0, r_cS0, r_cS1, r_cS2, r_cS3, r_cX0, r_cX1, r_cX2, r_cX3, r_rc, r_oi, r_refx, r_i10, r_i01, r_rfs, r_mem0, r_memc, r_beq, r_kl0, r_klz, r_kl1i, r_kl1r, r_kl1n, r_kl1l, r_kl1d, List.length_cons, List.length_nil, List.getElem?_cons_zero, List.getElem?_cons_succ, List.set_cons_zero, List.set_cons_succ, true_and, and_true, not_true, not_false_eq_true, false_implies, true_implies, or_true, true_or, or_false, false_or, Bool.or_false, Bool.false_or, decide_false, decide_true, Nat.reduceLT, Nat.reduceLeDiff, Nat.reduceAdd, Nat.reduceSub, ↓reduceIte, Nat.reduceEqDiff, Nat.lt_add_one]
    exact go87 false (decide_eq_false (by omega)).symm
  · exact go87 true (decide_eq_true (by omega)).symm
end LOCK
