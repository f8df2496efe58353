/-! the reference's face: back to a record -/
section REF9
variable {G : mz_G} {K : mz_K} {X : mz_X} {T : mz_T} {I : mz_I} {L : mz_L}
variable {D : Nat → Nat} {many n : Nat} {m : Nat → Int32} {rr : Nat → Nat → Int32} {has : Bool} {ms : Nat → Int32} {s0 s1 dly lim : Int32} {cs : Nat → Int32} {fl : Int32}

def k_back (m : Nat → Int32) (many : Nat) : Int32 := if many < (if m 221 = 1 then 1 else 2) then 1 else 0
def r_back (m : Nat → Int32) (rr : Nat → Nat → Int32) (k : Nat) : g_S := (fun j => if j < 268 then rr (k - 1) j else m j, k, rr)
theorem c_undoP (hM : p_Mo T D) (hC : r_S I D (m, many, rr) has ms s0 s1 dly lim n cs fl) (ho : r_ok m) (h : ∀ I' v, r_S I' D (s_if (k_back m many) (r_back m rr (if m 221 = 1 then many else many - 1)) (m, many, rr)) has ms s0 s1 dly lim n cs fl → r_N I I' D (k_back m many) → (k_back m many = 0 → v = zI ((if m 221 = 1 then many else many - 1 : Nat) : Int)) → K (some (.int v)) T I' L) : mz_Ctr G M_X12_undo [.ref (D 0)] T I L K := by
  refine mz_apartC fun hU => ?_
  obtain ⟨h0, ⟨r1, r2, r3, r5, r6, r8, r9, r10, r11, r12, r13, r14, r16, r17, r19, r20, r22, r23⟩, ⟨t1, t2, t3, t5, t6, t8, t9, t10, t11, t12, t13, t14, t16, t17, t19, t20, t22, t23⟩, ⟨u1, u2⟩⟩ := id hM
  obtain ⟨⟨hMc, hSp⟩, ⟨e1, e2, e3, e4⟩, e5, ⟨e6, e7⟩, e8⟩ := id hC
  have e1 : I (D 1) = m := e1
  have e2 : I (D 0) 4 = zI many := e2
  have e3 : many ≤ 6 := e3
  refine mz_ofl mk_X12_undo rfl (Nat.le_of_ble_eq_true rfl) (Nat.le_of_ble_eq_true rfl) [some (.ref (D 0)), none, none] rfl ?_
  have n01 : D 0 ≠ D 1 := mz_ne hU h0 t1 (by decide)
  have n31 : D 3 ≠ D 1 := mz_ne hU t3 t1 (by decide)
  have n30 : D 3 ≠ D 0 := mz_ne hU t3 h0 (by decide)
  have loop : ∀ (dv : Int32) (q : Nat), 1 ≤ q → q ≤ many → (∀ I', r_S I' D (r_back m rr q) has ms s0 s1 dly lim n cs fl → r_N I I' D 0 → K (some (.int (zI q))) T I' L) → ∀ k i : Nat, i + k = 268 → ∀ I1, fr I I1 [D 0, D 1] → I1 (D 0) 4 = zI q → (∀ i, i ≠ 4 → I1 (D 0) i = I (D 0) i) → (∀ j, j < i → I1 (D 1) j = rr (q - 1) j) → (∀ j, i ≤ j → I1 (D 1) j = m j) → mz_W G M_X12_undo K mz_nX 46 [some (.ref (D 0)), some (.int dv), some (.int (zI i))] [] T I1 L (0, 0) := by
    intro dv q hq1 hq2 hfin k
    induction k with
    | zero =>
      intro i hi I1 f z4 zr za zb
      have hi : i = 268 := by omega
      subst hi
      refine mz_vc ok_X12_undo [46] [(), (), (), (), (), (), (), (), (), (), (), (), (), (), (), (), (), (), (), (), (), (), (), (), (), (), (), (), (), ()] ?_
      simp only [cd_X12_undo, h0, r1, r3, r_rn0, r_rnc, r_vk0, r_vkc, r_vks, r_kci, r_kcv, r_ild, r_ald, r_lld, r_dld, r_Li, r_La, r_Ll, r_Ld, r_Ki, r_Ka, r_Kl, r_Kd, r_Kn, r_ist, r_ast, r_lst, r_dst, r_iinc, r_int, r_lng, r_dbl, r_i2, r_i1, r_l2, r_lsh, r_i2z, r_l2z, r_i2l, r_l2i, r_i2d, r_lcmp, r_ddiv, r_dcmpl, r_dup, r_dup2, r_pop, r_one_int, r_one_ref, r_go, r_if, r_ic, r_tsw, r_lsw, r_sw0, r_swc, r_lk0, r_lkc, r_kp, r_gI, r_gL, r_gR, r_pI, r_pZ, r_pL, r_pR, r_gs, r_ia, r_ca, r_za, r_la, r_da, r_aa, r_ias, r_cas, r_zas, r_las, r_das, r_aas, r_acp, r_new, r_nwa, r_nwq, r_ret, r_irt, r_zrt, r_lrt, r_drt, r_art, r_thr, r_cV0, r_cV1, r_cV2, r_cV3, r_cV4, r_cV5, r_cI0, r_cS0, r_cS1, r_cS2, r_cS3, r_cX0, r_cX1, r_cX2, r_cX3, r_rc, r_oi, r_refx, r_i10, r_i01, r_rfs, r_mem0, r_memc, r_beq, r_kl0, r_klz, r_kl1i, r_kl1r, r_kl1n, r_kl1l, r_kl1d, List.length_cons, List.length_nil, List.getElem?_cons_zero, List.getElem?_cons_succ, List.set_cons_zero, List.set_cons_succ, true_and, and_true, not_true, not_false_eq_true, false_implies, true_implies, or_true, true_or, or_false, false_or, Bool.or_false, Bool.false_or, decide_false, decide_true, Nat.reduceLT, Nat.reduceLeDiff, Nat.reduceAdd, Nat.reduceSub, ↓reduceIte, Nat.reduceEqDiff, Nat.lt_add_one]
      refine ⟨fun _ => ?_, fun v => absurd (by decide) v⟩
      rw [z4]
      refine c_doneM h0 ?_
      simp only [cd_X12_undo, h0, r1, r3, r_rn0, r_rnc, r_vk0, r_vkc, r_vks, r_kci, r_kcv, r_ild, r_ald, r_lld, r_dld, r_Li, r_La, r_Ll, r_Ld, r_Ki, r_Ka, r_Kl, r_Kd, r_Kn, r_ist, r_ast, r_lst, r_dst, r_iinc, r_int, r_lng, r_dbl, r_i2, r_i1, r_l2, r_lsh, r_i2z, r_l2z, r_i2l, r_l2i, r_i2d, r_lcmp, r_ddiv, r_dcmpl, r_dup, r_dup2, r_pop, r_one_int, r_one_ref, r_go, r_if, r_ic, r_tsw, r_lsw, r_sw0, r_swc, r_lk0, r_lkc, r_kp, r_gI, r_gL, r_gR, r_pI, r_pZ, r_pL, r_pR, r_gs, r_ia, r_ca, r_za, r_la, r_da, r_aa, r_ias, r_cas, r_zas, r_las, r_das, r_aas, r_acp, r_new, r_nwa, r_nwq, r_ret, r_irt, r_zrt, r_lrt, r_drt, r_art, r_thr, r_cV0, r_cV1, r_cV2, r_cV3, r_cV4, r_cV5, r_cI0, r_cS0, r_cS1, r_cS2, r_cS3, r_cX0, r_cX1, r_cX2, r_cX3, r_rc, r_oi, r_refx, r_i10, r_i01, r_rfs, r_mem0, r_memc, r_beq, r_kl0, r_klz, r_kl1i, r_kl1r, r_kl1n, r_kl1l, r_kl1d, List.length_cons, List.length_nil, List.getElem?_cons_zero, List.getElem?_cons_succ, List.set_cons_zero, List.set_cons_succ, true_and, and_true, not_true, not_false_eq_true, false_implies, true_implies, or_true, true_or, or_false, false_or, Bool.or_false, Bool.false_or, decide_false, decide_true, Nat.reduceLT, Nat.reduceLeDiff, Nat.reduceAdd, Nat.reduceSub, ↓reduceIte, Nat.reduceEqDiff, Nat.lt_add_one]
      have eg : I1 (D 1) = (r_back m rr q).1 := by
        funext j
        show I1 (D 1) j = if j < 268 then rr (q - 1) j else m j
        by_cases v : j < 268
        · rw [if_pos v]; exact za j v
        · rw [if_neg v]; exact zb j (by omega)
      have e31 : I1 (D 3) = I (D 3) := f _ (by simp; exact ⟨n30, n31⟩)
      obtain ⟨v1, v2⟩ := r_S_G2 (rr' := rr) hU hM hC ⟨fr_tr f fr_refl (by simp) (fun _ q => q), fun i a _ => zr i a, z4, eg, fun i j hi hj => by rw [e31]; exact e4 i j (Nat.lt_of_lt_of_le hi hq2) hj, d_Sp_fr hSp (zr 15 (by decide)) (f _ (by simp; exact ⟨mz_ne hU t14 h0 (by decide), mz_ne hU t14 t1 (by decide)⟩))⟩ (Nat.le_trans hq2 e3)
      obtain ⟨w1, w2⟩ := r_S_0 (x := 0) hU hM v1 v2
      exact hfin _ w1 w2
    | succ k ih =>
      intro i hi I1 f z4 zr za zb
      refine mz_vc ok_X12_undo [46] [(), (), (), (), (), (), (), (), (), (), (), (), (), (), (), (), (), (), (), (), (), (), (), (), (), (), (), (), (), ()] ?_
      simp only [cd_X12_undo, h0, r1, r3, r_rn0, r_rnc, r_vk0, r_vkc, r_vks, r_kci, r_kcv, r_ild, r_ald, r_lld, r_dld, r_Li, r_La, r_Ll, r_Ld, r_Ki, r_Ka, r_Kl, r_Kd, r_Kn, r_ist, r_ast, r_lst, r_dst, r_iinc, r_int, r_lng, r_dbl, r_i2, r_i1, r_l2, r_lsh, r_i2z, r_l2z, r_i2l, r_l2i, r_i2d, r_lcmp, r_ddiv, r_dcmpl, r_dup, r_dup2, r_pop, r_one_int, r_one_ref, r_go, r_if, r_ic, r_tsw, r_lsw, r_sw0, r_swc, r_lk0, r_lkc, r_kp, r_gI, r_gL, r_gR, r_pI, r_pZ, r_pL, r_pR, r_gs, r_ia, r_ca, r_za, r_la, r_da, r_aa, r_ias, r_cas, r_zas, r_las, r_das, r_aas, r_acp, r_new, r_nwa, r_nwq, r_ret, r_irt, r_zrt, r_lrt, r_drt, r_art, r_thr, r_cV0, r_cV1, r_cV2, r_cV3, r_cV4, r_cV5, r_cI0, r_cS0, r_cS1, r_cS2, r_cS3, r_cX0, r_cX1, r_cX2, r_cX3, r_rc, r_oi, r_refx, r_i10, r_i01, r_rfs, r_mem0, r_memc, r_beq, r_kl0, r_klz, r_kl1i, r_kl1r, r_kl1n, r_kl1l, r_kl1d, List.length_cons, List.length_nil, List.getElem?_cons_zero, List.getElem?_cons_succ, List.set_cons_zero, List.set_cons_succ, true_and, and_true, not_true, not_false_eq_true, false_implies, true_implies, or_true, true_or, or_false, false_or, Bool.or_false, Bool.false_or, decide_false, decide_true, Nat.reduceLT, Nat.reduceLeDiff, Nat.reduceAdd, Nat.reduceSub, ↓reduceIte, Nat.reduceEqDiff, Nat.lt_add_one]
      refine ⟨z_no (b := 268) (by omega) (by omega) (by omega), fun _ => ?_⟩
      have e31 : I1 (D 3) = I (D 3) := f _ (by simp; exact ⟨n30, n31⟩)
      rw [z4, show (268 : Int32) = zI (268 : Nat) from rfl, show (1 : Int32) = zI (1 : Nat) from rfl, z_sub, z_mul, z_add, show ((268 : Nat) : Int) * ((q : Int) - ((1 : Nat) : Int)) + (i : Int) = ((268 * (q - 1) + i : Nat) : Int) by omega, z_nat (by omega), z_nat (by omega), Int.toNat_natCast, Int.toNat_natCast, z_nadd, e31, e4 (q - 1) i (show q - 1 < many by omega) (by omega)]
      refine ⟨⟨1608, t3, z_in (by omega) (by omega) (by decide)⟩, ⟨268, t1, z_in (by omega) (by omega) (by decide)⟩, ?_⟩
      refine ih (i + 1) (by omega) _ (fr_u2 f (by simp)) (by rw [mz_u_ne n01]; exact z4) (by rw [mz_u_ne n01]; exact zr) (fun j hj => ?_) (fun j hj => ?_)
      · rw [mz_u_at]
        by_cases z : j = i
        · simp [z]
        · simp [z]; exact za j (by omega)
      · rw [mz_u_nk (by omega)]; exact zb j (by omega)
  refine mz_vc ok_X12_undo [46] [(), (), (), (), (), (), (), (), (), (), (), (), (), (), (), (), (), (), (), (), (), (), (), (), (), (), (), (), (), ()] ?_
  simp only [cd_X12_undo, h0, r1, r3, ix_221 t1, n_221, r_rn0, r_rnc, r_vk0, r_vkc, r_vks, r_kci, r_kcv, r_ild, r_ald, r_lld, r_dld, r_Li, r_La, r_Ll, r_Ld, r_Ki, r_Ka, r_Kl, r_Kd, r_Kn, r_ist, r_ast, r_lst, r_dst, r_iinc, r_int, r_lng, r_dbl, r_i2, r_i1, r_l2, r_lsh, r_i2z, r_l2z, r_i2l, r_l2i, r_i2d, r_lcmp, r_ddiv, r_dcmpl, r_dup, r_dup2, r_pop, r_one_int, r_one_ref, r_go, r_if, r_ic, r_tsw, r_lsw, r_sw0, r_swc, r_lk0, r_lkc, r_kp, r_gI, r_gL, r_gR, r_pI, r_pZ, r_pL, r_pR, r_gs, r_ia, r_ca, r_za, r_la, r_da, r_aa, r_ias, r_cas, r_zas, r_las, r_das, r_aas, r_acp, r_new, r_nwa, r_nwq, r_ret, r_irt, r_zrt, r_lrt, r_drt, r_art, r_thr, r_cV0, r_cV1, r_cV2, r_cV3, r_cV4, r_cV5, r_cI0, r_cS0, r_cS1, r_cS2, r_cS3, r_cX0, r_cX1, r_cX2, r_cX3, r_rc, r_oi, r_refx, r_i10, r_i01, r_rfs, r_mem0, r_memc, r_beq, r_kl0, r_klz, r_kl1i, r_kl1r, r_kl1n, r_kl1l, r_kl1d, List.length_cons, List.length_nil, List.getElem?_cons_zero, List.getElem?_cons_succ, List.set_cons_zero, List.set_cons_succ, true_and, and_true, not_true, not_false_eq_true, false_implies, true_implies, or_true, true_or, or_false, false_or, Bool.or_false, Bool.false_or, decide_false, decide_true, Nat.reduceLT, Nat.reduceLeDiff, Nat.reduceAdd, Nat.reduceSub, ↓reduceIte, Nat.reduceEqDiff, Nat.lt_add_one]
  rw [e1, e2]
  rcases ho.1 with hl | hl
  · rw [hl]
    refine ⟨fun _ => ⟨fun v => ?_, fun v => ?_⟩, fun v => absurd (by decide) v⟩
    · have hm : 2 ≤ many := by
        rw [show (2 : Int32) = zI (2 : Nat) from rfl, z_le (by omega) (by omega)] at v; omega
      have ek : k_back m many = 0 := by unfold k_back; rw [hl, if_neg (show ¬ (0 : Int32) = 1 by decide)]; exact if_neg (by omega)
      rw [ek, s_if_0 rfl, hl, if_neg (show ¬ (0 : Int32) = 1 by decide)] at h
      rw [show (2 : Int32) = zI (2 : Nat) from rfl, show (1 : Int32) = zI (1 : Nat) from rfl, z_sub, z_sub, show (many : Int) - (((2 : Nat) : Int) - ((1 : Nat) : Int)) = ((many - 1 : Nat) : Int) by omega]
      exact loop _ (many - 1) (by omega) (by omega) (fun I' w1 w2 => h I' _ w1 w2 (fun _ => rfl)) 268 0 rfl _ (fr_u2 fr_refl (by simp)) mz_u_eq (fun i hi => mz_u_nk hi) (fun j hj => absurd hj (Nat.not_lt_zero _)) (fun j _ => by rw [mz_u_ne (Ne.symm n01), e1])
    · have hm : many < 2 := by
        rw [show (2 : Int32) = zI (2 : Nat) from rfl, z_le (by omega) (by omega)] at v; omega
      have ek : k_back m many = 1 := by unfold k_back; rw [hl, if_neg (show ¬ (0 : Int32) = 1 by decide)]; exact if_pos (by omega)
      rw [ek, s_if_n (by decide)] at h
      refine c_failsM h0 ?_
      simp only [cd_X12_undo, h0, r1, r3, r_rn0, r_rnc, r_vk0, r_vkc, r_vks, r_kci, r_kcv, r_ild, r_ald, r_lld, r_dld, r_Li, r_La, r_Ll, r_Ld, r_Ki, r_Ka, r_Kl, r_Kd, r_Kn, r_ist, r_ast, r_lst, r_dst, r_iinc, r_int, r_lng, r_dbl, r_i2, r_i1, r_l2, r_lsh, r_i2z, r_l2z, r_i2l, r_l2i, r_i2d, r_lcmp, r_ddiv, r_dcmpl, r_dup, r_dup2, r_pop, r_one_int, r_one_ref, r_go, r_if, r_ic, r_tsw, r_lsw, r_sw0, r_swc, r_lk0, r_lkc, r_kp, r_gI, r_gL, r_gR, r_pI, r_pZ, r_pL, r_pR, r_gs, r_ia, r_ca, r_za, r_la, r_da, r_aa, r_ias, r_cas, r_zas, r_las, r_das, r_aas, r_acp, r_new, r_nwa, r_nwq, r_ret, r_irt, r_zrt, r_lrt, r_drt, r_art, r_thr, r_cV0, r_cV1, r_cV2, r_cV3, r_cV4, r_cV5, r_cI0, r_cS0, r_cS1, r_cS2, r_cS3, r_cX0, r_cX1, r_cX2, r_cX3, r_rc, r_oi, r_refx, r_i10, r_i01, r_rfs, r_mem0, r_memc, r_beq, r_kl0, r_klz, r_kl1i, r_kl1r, r_kl1n, r_kl1l, r_kl1d, List.length_cons, List.length_nil, List.getElem?_cons_zero, List.getElem?_cons_succ, List.set_cons_zero, List.set_cons_succ, true_and, and_true, not_true, not_false_eq_true, false_implies, true_implies, or_true, true_or, or_false, false_or, Bool.or_false, Bool.false_or, decide_false, decide_true, Nat.reduceLT, Nat.reduceLeDiff, Nat.reduceAdd, Nat.reduceSub, ↓reduceIte, Nat.reduceEqDiff, Nat.lt_add_one]
      obtain ⟨w1, w2⟩ := r_S_0 (x := 1) hU hM hC fr_refl
      exact h _ 0 w1 w2 (fun v => absurd v (by decide))
  · rw [hl]
    refine ⟨fun v => absurd rfl v, fun _ => ⟨fun v => ?_, fun v => ?_⟩⟩
    · have hm : 1 ≤ many := by
        rw [show (1 : Int32) = zI (1 : Nat) from rfl, z_le (by omega) (by omega)] at v; omega
      have ek : k_back m many = 0 := by unfold k_back; rw [hl]; rw [if_pos rfl]; exact if_neg (by omega)
      rw [ek, s_if_0 rfl, hl, if_pos rfl] at h
      rw [show (1 : Int32) = zI (1 : Nat) from rfl, z_sub, z_sub, show (many : Int) - (((1 : Nat) : Int) - ((1 : Nat) : Int)) = ((many : Nat) : Int) by omega]
      exact loop _ (many) (by omega) (by omega) (fun I' w1 w2 => h I' _ w1 w2 (fun _ => rfl)) 268 0 rfl _ (fr_u2 fr_refl (by simp)) mz_u_eq (fun i hi => mz_u_nk hi) (fun j hj => absurd hj (Nat.not_lt_zero _)) (fun j _ => by rw [mz_u_ne (Ne.symm n01), e1])
    · have hm : many < 1 := by
        rw [show (1 : Int32) = zI (1 : Nat) from rfl, z_le (by omega) (by omega)] at v; omega
      have ek : k_back m many = 1 := by unfold k_back; rw [hl]; rw [if_pos rfl]; exact if_pos (by omega)
      rw [ek, s_if_n (by decide)] at h
      refine c_failsM h0 ?_
      simp only [cd_X12_undo, h0, r1, r3, r_rn0, r_rnc, r_vk0, r_vkc, r_vks, r_kci, r_kcv, r_ild, r_ald, r_lld, r_dld, r_Li, r_La, r_Ll, r_Ld, r_Ki, r_Ka, r_Kl, r_Kd, r_Kn, r_ist, r_ast, r_lst, r_dst, r_iinc, r_int, r_lng, r_dbl, r_i2, r_i1, r_l2, r_lsh, r_i2z, r_l2z, r_i2l, r_l2i, r_i2d, r_lcmp, r_ddiv, r_dcmpl, r_dup, r_dup2, r_pop, r_one_int, r_one_ref, r_go, r_if, r_ic, r_tsw, r_lsw, r_sw0, r_swc, r_lk0, r_lkc, r_kp, r_gI, r_gL, r_gR, r_pI, r_pZ, r_pL, r_pR, r_gs, r_ia, r_ca, r_za, r_la, r_da, r_aa, r_ias, r_cas, r_zas, r_las, r_das, r_aas, r_acp, r_new, r_nwa, r_nwq, r_ret, r_irt, r_zrt, r_lrt, r_drt, r_art, r_thr, r_cV0, r_cV1, r_cV2, r_cV3, r_cV4, r_cV5, r_cI0, r_cS0, r_cS1, r_cS2, r_cS3, r_cX0, r_cX1, r_cX2, r_cX3, r_rc, r_oi, r_refx, r_i10, r_i01, r_rfs, r_mem0, r_memc, r_beq, r_kl0, r_klz, r_kl1i, r_kl1r, r_kl1n, r_kl1l, r_kl1d, List.length_cons, List.length_nil, List.getElem?_cons_zero, List.getElem?_cons_succ, List.set_cons_zero, List.set_cons_succ, true_and, and_true, not_true, not_false_eq_true, false_implies, true_implies, or_true, true_or, or_false, false_or, Bool.or_false, Bool.false_or, decide_false, decide_true, Nat.reduceLT, Nat.reduceLeDiff, Nat.reduceAdd, Nat.reduceSub, ↓reduceIte, Nat.reduceEqDiff, Nat.lt_add_one]
      obtain ⟨w1, w2⟩ := r_S_0 (x := 1) hU hM hC fr_refl
      exact h _ 0 w1 w2 (fun v => absurd v (by decide))
end REF9
