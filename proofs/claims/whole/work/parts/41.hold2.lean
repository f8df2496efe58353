/-! the engine: hold -/
section HOLD2
variable {G : mz_G} {K : mz_K} {T : mz_T} {I : mz_I} {L : mz_L}
/-- what an engine's step leaves: the game answers to m', the records to rr' -/
def p_Go (T : mz_T) (I : mz_I) (L : mz_L) (I' : mz_I) (L' : mz_L) (A : z_A) (me ra : Nat) (Aj : Nat → z_A) (many' B : Nat) (m' : Nat → Int32) (rr' : Nat → Nat → Int32) : Prop :=
  fr I I' (me :: (A.all ++ z_rec Aj)) ∧ fr L L' (A.b :: z_rec Aj) ∧ p_R T I' L' A B m' ∧ (∃ nw', p_M T I' L' me ra Aj nw' many' B rr') ∧ (∀ i, 7 ≤ i → I' A.g i = I A.g i) ∧ (∀ i, 3 ≤ i → I' me i = I me i)
/-- the row that waits for the piece that comes behind a hold, and that piece -/
def o_hold1 (m : Nat → Int32) : Nat → Int32 := m_u (m_u m 232 (m 222)) 233 1
noncomputable def o_holdm (m : Nat → Int32) : Nat → Int32 := if m 232 = -1 then o_draw (o_hold1 m) else o_hold1 m
noncomputable def m_holdk (m : Nat → Int32) : Nat := if m 232 = -1 then m_dk (o_hold1 m) else (m 232).toNatClampNeg
theorem M_step {me ra nw many B : Nat} {A : z_A} {Aj : Nat → z_A} {rr : Nat → Nat → Int32} {I' : mz_I} {L' : mz_L} {S : List Nat} (hU : ∀ a x y, (a, x) ∈ T.1 → (a, y) ∈ T.1 → x = y) (hM : p_M T I L me ra Aj nw many B rr) (hA : p_GA T A) (hdj : ∀ j, j < 6 → z_dj (Aj j) A) (hf : fr I I' S) (hS : ∀ a, a ∈ S → a ∈ A.all) (hl : fr L L' [A.b]) : p_M T I' L' me ra Aj nw many B rr := by
  have m1 : (me, 0, 6) ∈ T.1 := hM.1.1
  have hmA : me ∉ A.all := z_out hU hA m1 (by decide)
  refine p_M_fr hM (hf _ (fun e => hmA (hS _ e))) (fun j hj a ha => ⟨hf _ (fun e => hdj j hj a ha (hS _ e)), hl _ (fun e => hdj j hj a ha (by rw [List.mem_singleton.mp e]; exact z_bm))⟩)
theorem Go_of {me ra B many' : Nat} {A : z_A} {Aj : Nat → z_A} {m' : Nat → Int32} {rr' : Nat → Nat → Int32} {I1 I' : mz_I} {L1 L' : mz_L} {S : List Nat} {nw' : Nat} (hm : me ∉ A.all) (hf : fr I I1 S) (hS : ∀ a, a ∈ S → a ∈ A.all) (hl : fr L L1 [A.b]) (h7 : ∀ i, 7 ≤ i → I1 A.g i = I A.g i) (f1 : fr I1 I' (A.x :: A.p :: A.g :: me :: z_rec Aj)) (f2 : fr L1 L' (z_rec Aj)) (hR : p_R T I' L' A B m') (hM : p_M T I' L' me ra Aj nw' many' B rr') (g7 : ∀ i, 7 ≤ i → I' A.g i = I1 A.g i) (g3 : ∀ i, 3 ≤ i → I' me i = I1 me i) : p_Go T I L I' L' A me ra Aj many' B m' rr' := by
  refine ⟨fr_tr hf f1 (fun a ha => ?_) (fun a ha => ?_), fr_tr hl f2 (by simp) (fun a ha => List.mem_cons_of_mem _ ha), hR, ⟨nw', hM⟩, fun i hi => by rw [g7 i hi, h7 i hi], fun i hi => by rw [g3 i hi, hf _ (fun e => hm (hS _ e))]⟩
  · exact List.mem_cons_of_mem _ (List.mem_append_left _ (hS a ha))
  · simp only [List.mem_cons] at ha
    rcases ha with e | e | e | e | e
    · rw [e]; exact List.mem_cons_of_mem _ (List.mem_append_left _ (by simp [z_A.all]))
    · rw [e]; exact List.mem_cons_of_mem _ (List.mem_append_left _ (by simp [z_A.all]))
    · rw [e]; exact List.mem_cons_of_mem _ (List.mem_append_left _ (by simp [z_A.all]))
    · rw [e]; exact List.mem_cons_self
    · exact List.mem_cons_of_mem _ (List.mem_append_right _ e)
theorem c_holdE {en me ra nw many B : Nat} {A : z_A} {Aj : Nat → z_A} {m : Nat → Int32} {rr : Nat → Nat → Int32} (hE : p_E T en A) (hE1 : T.2 en 1 = some me) (h : p_R T I L A B m) (hl : m 221 = 0) (hM : p_M T I L me ra Aj nw many B rr) (hdj : ∀ j, j < 6 → z_dj (Aj j) A)
    (hK : ∀ I' L', p_Go T I L I' L' A me ra Aj (w_mn (o_fits (o_holdm m) (m_holdk m)) many) B (o_put (o_holdm m) (m_holdk m)) (w_rr (o_fits (o_holdm m) (m_holdk m)) many rr (o_app (o_holdm m) (m_holdk m))) → K (some (.int (m 232))) T I' L') : mz_Ctr G M_X1_swapWithHold [.ref en] T I L K := by
  refine mz_apartC fun hU => ?_
  obtain ⟨e1, e2⟩ := id hE
  have hA := h.sh
  obtain ⟨⟨g1, g2, g3, g4, g5⟩, hF, hX, ⟨b1, b2, b3⟩, hS⟩ := id hA
  obtain ⟨x1, x2, x3⟩ := id hX
  have m1 : (me, 0, 6) ∈ T.1 := hM.1.1
  have hmA : me ∉ A.all := z_out hU hA m1 (by decide)
  obtain ⟨hp, hq, hfit⟩ := h.now hl
  obtain ⟨p1, p2, p3, p4, p5, p6⟩ := id hp
  have hQ1 : p_Q T (mz_u (mz_u I A.g 4 (m 222)) A.g 5 1) L A B (o_hold1 m) := hold_Q hU (Q_of_R h hl) (Or.inr ⟨m_kd m, p6.1, hq.1⟩) (Or.inr rfl)
  have f1 : fr I (mz_u (mz_u I A.g 4 (m 222)) A.g 5 1) [A.g] := fr_u2 fr_u (by simp)
  have hM1 := M_step hU hM hA hdj f1 (by simp [z_A.all]) (fr_refl : fr L L [A.b])
  have h7 : ∀ i, 7 ≤ i → mz_u (mz_u I A.g 4 (m 222)) A.g 5 1 A.g i = I A.g i := fun i hi => by rw [mz_u_nk (by omega), mz_u_nk (by omega)]
  have hpg : A.p ≠ A.g := mz_ne hU x3 g1 (by decide)
  refine mz_ofl mk_X1_swapWithHold rfl (Nat.le_of_ble_eq_true rfl) (Nat.le_of_ble_eq_true rfl) [some (.ref en), none] rfl ?_
  refine mz_vc ok_X1_swapWithHold [] [(), (), (), (), (), (), (), (), (), (), (), (), (), (), (), (), (), (), (), (), (), (), (), (), (), (), (), (), (), ()] ?_
  simp only [cd_X1_swapWithHold, e1, e2, hE1, g1, g3, g4, x1, x2, x3, b1, r_rn0, r_rnc, r_vk0, r_vkc, r_vks, r_kci, r_kcv, r_ild, r_ald, r_lld, r_dld, r_Li, r_La, r_Ll, r_Ld, r_Ki, r_Ka, r_Kl, r_Kd, r_Kn, r_ist, r_ast, r_lst, r_dst, r_iinc, r_int, r_lng, r_dbl, r_i2, r_i1, r_l2, r_lsh, r_i2z, r_l2z, r_i2l, r_l2i, r_i2d, r_lcmp, r_ddiv, r_dcmpl, r_dup, r_dup2, r_pop, r_one_int, r_one_ref, r_go, r_if, r_ic, r_tsw, r_lsw, r_sw0, r_swc, r_lk0, r_lkc, r_kp, r_gI, r_gL, r_gR, r_pI, r_pZ, r_pL, r_pR, r_gs, r_ia, r_ca, r_za, r_la, r_da, r_aa, r_ias, r_cas, r_zas, r_las, r_das, r_aas, r_acp, r_new, r_nwa, r_nwq, r_ret, r_irt, r_zrt, r_lrt, r_drt, r_art, r_thr, r_cV0, r_cV1, r_cV2, r_cV3, r_cV4, r_cV5, r_cI0, r_cS0, r_cS1, r_cS2, r_cS3, r_cX0, r_cX1, r_cX2, r_cX3, r_rc, r_oi, r_refx, r_i10, r_i01, r_rfs, r_mem0, r_memc, r_beq, r_kl0, r_klz, r_kl1i, r_kl1r, r_kl1n, r_kl1l, r_kl1d, List.length_cons, List.length_nil, List.getElem?_cons_zero, List.getElem?_cons_succ, List.set_cons_zero, List.set_cons_succ, true_and, and_true, not_true, not_false_eq_true, false_implies, true_implies, or_true, true_or, or_false, false_or, Bool.or_false, Bool.false_or, decide_false, decide_true, Nat.reduceLT, Nat.reduceLeDiff, Nat.reduceAdd, Nat.reduceSub, ↓reduceIte, Nat.reduceEqDiff, Nat.lt_add_one]
  rw [p2, ← hq.1, h.held.1]
  refine ⟨fun q => ?_, fun q => ?_⟩
  · obtain ⟨kd, hkd, ek⟩ := h.held.2.resolve_left q
    have e1' : o_holdm m = o_hold1 m := if_neg q
    have e2' : m_holdk m = kd := by unfold m_holdk; rw [if_neg q, ek, z_nat (by omega)]; rfl
    rw [e1', e2'] at hK
    rw [ek]
    rw [ek] at hK
    refine c_appearU hE hE1 hQ1 hM1 hdj hkd (fun I' L' nw' q1 q2 q3 q4 q5 q6 => ?_)
    simp only [cd_X1_swapWithHold, e1, e2, hE1, g1, g3, g4, x1, x2, x3, b1, r_rn0, r_rnc, r_vk0, r_vkc, r_vks, r_kci, r_kcv, r_ild, r_ald, r_lld, r_dld, r_Li, r_La, r_Ll, r_Ld, r_Ki, r_Ka, r_Kl, r_Kd, r_Kn, r_ist, r_ast, r_lst, r_dst, r_iinc, r_int, r_lng, r_dbl, r_i2, r_i1, r_l2, r_lsh, r_i2z, r_l2z, r_i2l, r_l2i, r_i2d, r_lcmp, r_ddiv, r_dcmpl, r_dup, r_dup2, r_pop, r_one_int, r_one_ref, r_go, r_if, r_ic, r_tsw, r_lsw, r_sw0, r_swc, r_lk0, r_lkc, r_kp, r_gI, r_gL, r_gR, r_pI, r_pZ, r_pL, r_pR, r_gs, r_ia, r_ca, r_za, r_la, r_da, r_aa, r_ias, r_cas, r_zas, r_las, r_das, r_aas, r_acp, r_new, r_nwa, r_nwq, r_ret, r_irt, r_zrt, r_lrt, r_drt, r_art, r_thr, r_cV0, r_cV1, r_cV2, r_cV3, r_cV4, r_cV5, r_cI0, r_cS0, r_cS1, r_cS2, r_cS3, r_cX0, r_cX1, r_cX2, r_cX3, r_rc, r_oi, r_refx, r_i10, r_i01, r_rfs, r_mem0, r_memc, r_beq, r_kl0, r_klz, r_kl1i, r_kl1r, r_kl1n, r_kl1l, r_kl1d, List.length_cons, List.length_nil, List.getElem?_cons_zero, List.getElem?_cons_succ, List.set_cons_zero, List.set_cons_succ, true_and, and_true, not_true, not_false_eq_true, false_implies, true_implies, or_true, true_or, or_false, false_or, Bool.or_false, Bool.false_or, decide_false, decide_true, Nat.reduceLT, Nat.reduceLeDiff, Nat.reduceAdd, Nat.reduceSub, ↓reduceIte, Nat.reduceEqDiff, Nat.lt_add_one]
    exact hK I' L' (Go_of hmA f1 (by simp [z_A.all]) fr_refl h7 q1 q2 q3 q4 q5 q6)
  · have q : m 232 = -1 := Classical.not_not.mp q
    have e1' : o_holdm m = o_draw (o_hold1 m) := if_pos q
    have e2' : m_holdk m = m_dk (o_hold1 m) := if_pos q
    rw [e1', e2'] at hK
    obtain ⟨hB1, hok⟩ := z_of_Q hQ1
    refine c_takeB hB1 (fun I2 L2 f2 l2 hB2 => ?_)
    simp only [cd_X1_swapWithHold, e1, e2, hE1, g1, g3, g4, x1, x2, x3, b1, r_rn0, r_rnc, r_vk0, r_vkc, r_vks, r_kci, r_kcv, r_ild, r_ald, r_lld, r_dld, r_Li, r_La, r_Ll, r_Ld, r_Ki, r_Ka, r_Kl, r_Kd, r_Kn, r_ist, r_ast, r_lst, r_dst, r_iinc, r_int, r_lng, r_dbl, r_i2, r_i1, r_l2, r_lsh, r_i2z, r_l2z, r_i2l, r_l2i, r_i2d, r_lcmp, r_ddiv, r_dcmpl, r_dup, r_dup2, r_pop, r_one_int, r_one_ref, r_go, r_if, r_ic, r_tsw, r_lsw, r_sw0, r_swc, r_lk0, r_lkc, r_kp, r_gI, r_gL, r_gR, r_pI, r_pZ, r_pL, r_pR, r_gs, r_ia, r_ca, r_za, r_la, r_da, r_aa, r_ias, r_cas, r_zas, r_las, r_das, r_aas, r_acp, r_new, r_nwa, r_nwq, r_ret, r_irt, r_zrt, r_lrt, r_drt, r_art, r_thr, r_cV0, r_cV1, r_cV2, r_cV3, r_cV4, r_cV5, r_cI0, r_cS0, r_cS1, r_cS2, r_cS3, r_cX0, r_cX1, r_cX2, r_cX3, r_rc, r_oi, r_refx, r_i10, r_i01, r_rfs, r_mem0, r_memc, r_beq, r_kl0, r_klz, r_kl1i, r_kl1r, r_kl1n, r_kl1l, r_kl1d, List.length_cons, List.length_nil, List.getElem?_cons_zero, List.getElem?_cons_succ, List.set_cons_zero, List.set_cons_succ, true_and, and_true, not_true, not_false_eq_true, false_implies, true_implies, or_true, true_or, or_false, false_or, Bool.or_false, Bool.false_or, decide_false, decide_true, Nat.reduceLT, Nat.reduceLeDiff, Nat.reduceAdd, Nat.reduceSub, ↓reduceIte, Nat.reduceEqDiff, Nat.lt_add_one]
    have hQ2 := take_Q hU hQ1 f2 rfl hB2
    have f12 : fr I I2 [A.g, A.b, A.v] := fr_tr f1 f2 (by simp) (by simp)
    have hM2 := M_step hU hM hA hdj f12 (by simp [z_A.all]) l2
    have hgb : A.g ≠ A.b := mz_ne hU g1 b1 (by decide)
    have hgv : A.g ≠ A.v := mz_ne hU g1 b2 (by decide)
    refine c_appearU hE hE1 hQ2 hM2 hdj (q_kd_lt hok) (fun I' L' nw' q1 q2 q3 q4 q5 q6 => ?_)
    simp only [cd_X1_swapWithHold, e1, e2, hE1, g1, g3, g4, x1, x2, x3, b1, r_rn0, r_rnc, r_vk0, r_vkc, r_vks, r_kci, r_kcv, r_ild, r_ald, r_lld, r_dld, r_Li, r_La, r_Ll, r_Ld, r_Ki, r_Ka, r_Kl, r_Kd, r_Kn, r_ist, r_ast, r_lst, r_dst, r_iinc, r_int, r_lng, r_dbl, r_i2, r_i1, r_l2, r_lsh, r_i2z, r_l2z, r_i2l, r_l2i, r_i2d, r_lcmp, r_ddiv, r_dcmpl, r_dup, r_dup2, r_pop, r_one_int, r_one_ref, r_go, r_if, r_ic, r_tsw, r_lsw, r_sw0, r_swc, r_lk0, r_lkc, r_kp, r_gI, r_gL, r_gR, r_pI, r_pZ, r_pL, r_pR, r_gs, r_ia, r_ca, r_za, r_la, r_da, r_aa, r_ias, r_cas, r_zas, r_las, r_das, r_aas, r_acp, r_new, r_nwa, r_nwq, r_ret, r_irt, r_zrt, r_lrt, r_drt, r_art, r_thr, r_cV0, r_cV1, r_cV2, r_cV3, r_cV4, r_cV5, r_cI0, r_cS0, r_cS1, r_cS2, r_cS3, r_cX0, r_cX1, r_cX2, r_cX3, r_rc, r_oi, r_refx, r_i10, r_i01, r_rfs, r_mem0, r_memc, r_beq, r_kl0, r_klz, r_kl1i, r_kl1r, r_kl1n, r_kl1l, r_kl1d, List.length_cons, List.length_nil, List.getElem?_cons_zero, List.getElem?_cons_succ, List.set_cons_zero, List.set_cons_succ, true_and, and_true, not_true, not_false_eq_true, false_implies, true_implies, or_true, true_or, or_false, false_or, Bool.or_false, Bool.false_or, decide_false, decide_true, Nat.reduceLT, Nat.reduceLeDiff, Nat.reduceAdd, Nat.reduceSub, ↓reduceIte, Nat.reduceEqDiff, Nat.lt_add_one]
    exact hK I' L' (Go_of hmA f12 (by simp [z_A.all]) l2 (fun i hi => by rw [f2 _ (by simp; exact ⟨hgb, hgv⟩)]; exact h7 i hi) q1 q2 q3 q4 q5 q6)
end HOLD2
