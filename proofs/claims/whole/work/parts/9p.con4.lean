/-! the constructors: text, search -/
section CON4
variable {G : mz_G} {K : mz_K} {X : mz_X} {T : mz_T} {I : mz_I} {L : mz_L} {T0 : mz_T} {I0 : mz_I} {L0 : mz_L}
/-- an object o of class c that is being made: which of its fields are set -/
def c_st (T0 : mz_T) (I0 : mz_I) (L0 : mz_L) (o c : Nat) (T : mz_T) (I : mz_I) (L : mz_L) (R : List (Nat × Nat)) (S : List Nat) (z : Nat → Int32) : Prop := n_w T0 T I0 I L0 L S ∧ o ∈ S ∧ (o, 0, c) ∈ T.1 ∧ (∀ r, r ∈ R → T.2 o r.1 = some r.2) ∧ I o = z
theorem st_0 {o c : Nat} (hn : n_w T0 T I0 I L0 L [o]) (ho : (o, 0, c) ∈ T.1) : c_st T0 I0 L0 o c T I L [] [o] (I o) := ⟨hn, by simp, ho, fun _ h => absurd h List.not_mem_nil, rfl⟩
theorem st_ob {T1 : mz_T} {I1 : mz_I} {L1 : mz_L} {o c f q : Nat} {R : List (Nat × Nat)} {S S1 : List Nat} {z : Nat → Int32} (h : c_st T0 I0 L0 o c T I L R S z) (n : n_w T T1 I I1 L L1 S1) (hf : ∀ r, r ∈ R → r.1 ≠ f) : c_st T0 I0 L0 o c (T1.1, mz_u T1.2 o f (some q)) I1 L1 ((f, q) :: R) (S ++ S1) z := by
  obtain ⟨h1, h2, h3, h4, h5⟩ := h
  have h6 : (o, 0, c) ∈ T1.1 := nw_mem n h3
  refine ⟨nw_T (nw_tr h1 n) (List.mem_append_left _ h2), List.mem_append_left _ h2, h6, fun r hr => ?_, (nw_I2 n h3).trans h5⟩
  rcases List.mem_cons.mp hr with e | e
  · subst e; exact mz_u_eq
  · show mz_u T1.2 o f (some q) o r.1 = some r.2
    rw [mz_u_nk (hf r e), nw_T2 n h3]; exact h4 r e
theorem c_X5i {o : Nat} (hn : n_w T0 T I0 I L0 L [o]) (ho : (o, 0, 5) ∈ T.1) (hz : ∀ i, I o i = 0) (h : ∀ T' I' L' ta, n_w T0 T' I0 I' L0 L' [o, ta] → p_Tx T' o ta → I' o 1 = 0 → I' o 2 = -1 → I' o 3 = 0 → K none T' I' L') : mz_Ctr G M_X5_init [.ref o] T I L K := by
  refine mz_ofl mk_X5_init rfl (Nat.le_of_ble_eq_true rfl) (Nat.le_of_ble_eq_true rfl) [some (.ref o)] rfl ?_
  refine mz_vc ok_X5_init [] [(), (), (), (), (), (), (), (), (), (), (), (), (), (), (), (), (), (), (), (), (), (), (), (), (), (), (), (), (), ()] ?_
  simp only [cd_X5_init, List.mem_append, ho, r_rn0, r_rnc, r_vk0, r_vkc, r_vks, r_kci, r_kcv, r_ild, r_ald, r_lld, r_dld, r_Li, r_La, r_Ll, r_Ld, r_Ki, r_Ka, r_Kl, r_Kd, r_Kn, r_ist, r_ast, r_lst, r_dst, r_iinc, r_int, r_lng, r_dbl, r_i2, r_i1, r_l2, r_lsh, r_i2z, r_l2z, r_i2l, r_l2i, r_i2d, r_lcmp, r_ddiv, r_dcmpl, r_dup, r_dup2, r_pop, r_one_int, r_one_ref, r_go, r_if, r_ic, r_tsw, r_lsw, r_sw0, r_swc, r_lk0, r_lkc, r_kp, r_gI, r_gL, r_gR, r_pI, r_pZ, r_pL, r_pR, r_gs, r_ia, r_ca, r_za, r_la, r_da, r_aa, r_ias, r_cas, r_zas, r_las, r_das, r_aas, r_acp, r_new, r_nwa, r_nwq, r_ret, r_irt, r_zrt, r_lrt, r_drt, r_art, r_thr, r_cV0, r_cV1, r_cV2, r_cV3, r_cV4, r_cV5, r_cI0, r_cS0, r_cS1, r_cS2, r_cS3, r_cX0, r_cX1, r_cX2, r_cX3, r_rc, r_oi, r_refx, r_i10, r_i01, r_rfs, r_mem0, r_memc, r_beq, r_kl0, r_klz, r_kl1i, r_kl1r, r_kl1n, r_kl1l, r_kl1d, List.length_cons, List.length_nil, List.getElem?_cons_zero, List.getElem?_cons_succ, List.set_cons_zero, List.set_cons_succ, true_and, and_true, not_true, not_false_eq_true, false_implies, true_implies, or_true, true_or, or_false, false_or, Bool.or_false, Bool.false_or, decide_false, decide_true, Nat.reduceLT, Nat.reduceLeDiff, Nat.reduceAdd, Nat.reduceSub, ↓reduceIte, Nat.reduceEqDiff, Nat.lt_add_one]
  intro q hq
  have nq : q ≠ o := Ne.symm (hq _ ho)
  have n1 := nw_T (a := o) (f := 0) (v := some q) (nw_new (x := (5, 60)) (v := 0) (w := 0) hn hq) (by simp)
  have ez : ∀ i, mz_z I q 0 o i = 0 := fun i => (congrFun (if_neg (Ne.symm nq)) i).trans (hz i)
  exact h _ _ _ q (nw_sub (nw_I n1 (by simp)) (by simp)) ⟨List.mem_append_left _ ho, mz_u_eq, nw_lst⟩ (by rw [mz_u_nk (by decide)]; exact ez 1) mz_u_eq (by rw [mz_u_nk (by decide)]; exact ez 3)
theorem c_X10i {o : Nat} (hn : n_w T0 T I0 I L0 L [o]) (ho : (o, 0, 10) ∈ T.1) (hz : ∀ i, I o i = 0) (h : ∀ T' I' L' Y, Y 0 = o → n_w T0 T' I0 I' L0 L' [Y 0, Y 1, Y 2, Y 3, Y 4, Y 5, Y 6, Y 7, Y 8, Y 9] → p_Sh T' Y → (∀ i, I' o i = 0) → K none T' I' L') : mz_Ctr G M_X10_init [.ref o] T I L K := by
  refine mz_ofl mk_X10_init rfl (Nat.le_of_ble_eq_true rfl) (Nat.le_of_ble_eq_true rfl) [some (.ref o)] rfl ?_
  refine mz_vc ok_X10_init [] [(), (), (), (), (), (), (), (), (), (), (), (), (), (), (), (), (), (), (), (), (), (), (), (), (), (), (), (), (), ()] ?_
  simp only [cd_X10_init, List.mem_append, ho, r_rn0, r_rnc, r_vk0, r_vkc, r_vks, r_kci, r_kcv, r_ild, r_ald, r_lld, r_dld, r_Li, r_La, r_Ll, r_Ld, r_Ki, r_Ka, r_Kl, r_Kd, r_Kn, r_ist, r_ast, r_lst, r_dst, r_iinc, r_int, r_lng, r_dbl, r_i2, r_i1, r_l2, r_lsh, r_i2z, r_l2z, r_i2l, r_l2i, r_i2d, r_lcmp, r_ddiv, r_dcmpl, r_dup, r_dup2, r_pop, r_one_int, r_one_ref, r_go, r_if, r_ic, r_tsw, r_lsw, r_sw0, r_swc, r_lk0, r_lkc, r_kp, r_gI, r_gL, r_gR, r_pI, r_pZ, r_pL, r_pR, r_gs, r_ia, r_ca, r_za, r_la, r_da, r_aa, r_ias, r_cas, r_zas, r_las, r_das, r_aas, r_acp, r_new, r_nwa, r_nwq, r_ret, r_irt, r_zrt, r_lrt, r_drt, r_art, r_thr, r_cV0, r_cV1, r_cV2, r_cV3, r_cV4, r_cV5, r_cI0, r_cS0, r_cS1, r_cS2, r_cS3, r_cX0, r_cX1, r_cX2, r_cX3, r_rc, r_oi, r_refx, r_i10, r_i01, r_rfs, r_mem0, r_memc, r_beq, r_kl0, r_klz, r_kl1i, r_kl1r, r_kl1n, r_kl1l, r_kl1d, List.length_cons, List.length_nil, List.getElem?_cons_zero, List.getElem?_cons_succ, List.set_cons_zero, List.set_cons_succ, true_and, and_true, not_true, not_false_eq_true, false_implies, true_implies, or_true, true_or, or_false, false_or, Bool.or_false, Bool.false_or, decide_false, decide_true, Nat.reduceLT, Nat.reduceLeDiff, Nat.reduceAdd, Nat.reduceSub, ↓reduceIte, Nat.reduceEqDiff, Nat.lt_add_one]
  have s0 := st_0 hn ho
  intro a1 ha10
  have ha1 : ∀ x ∈ T.1, x.1 ≠ a1 := fun x hx => ha10 x (by first | exact hx | (simp only [List.mem_append] at hx; exact hx))
  have na1 : a1 ≠ o := Ne.symm (ha1 _ s0.2.2.1)
  refine c_X2i (nw_ob (T := (T.1, T.2)) ha1) nw_lst (fun Ta1 Ia1 La1 a2 wa1 pfa1 _ => ?_)
  have pfa1 := fd_T (o := o) (i := 2) (v := some a1) na1 pfa1
  have k12 := pfa1.2.1
  have s1 := st_ob (T := (T.1, T.2)) (f := 2) (q := a1) s0 wa1 (by simp)
  have hO1 : (o, 0, 10) ∈ Ta1.1 := s1.2.2.1
  simp only [cd_X10_init, List.mem_append, hO1, r_rn0, r_rnc, r_vk0, r_vkc, r_vks, r_kci, r_kcv, r_ild, r_ald, r_lld, r_dld, r_Li, r_La, r_Ll, r_Ld, r_Ki, r_Ka, r_Kl, r_Kd, r_Kn, r_ist, r_ast, r_lst, r_dst, r_iinc, r_int, r_lng, r_dbl, r_i2, r_i1, r_l2, r_lsh, r_i2z, r_l2z, r_i2l, r_l2i, r_i2d, r_lcmp, r_ddiv, r_dcmpl, r_dup, r_dup2, r_pop, r_one_int, r_one_ref, r_go, r_if, r_ic, r_tsw, r_lsw, r_sw0, r_swc, r_lk0, r_lkc, r_kp, r_gI, r_gL, r_gR, r_pI, r_pZ, r_pL, r_pR, r_gs, r_ia, r_ca, r_za, r_la, r_da, r_aa, r_ias, r_cas, r_zas, r_las, r_das, r_aas, r_acp, r_new, r_nwa, r_nwq, r_ret, r_irt, r_zrt, r_lrt, r_drt, r_art, r_thr, r_cV0, r_cV1, r_cV2, r_cV3, r_cV4, r_cV5, r_cI0, r_cS0, r_cS1, r_cS2, r_cS3, r_cX0, r_cX1, r_cX2, r_cX3, r_rc, r_oi, r_refx, r_i10, r_i01, r_rfs, r_mem0, r_memc, r_beq, r_kl0, r_klz, r_kl1i, r_kl1r, r_kl1n, r_kl1l, r_kl1d, List.length_cons, List.length_nil, List.getElem?_cons_zero, List.getElem?_cons_succ, List.set_cons_zero, List.set_cons_succ, true_and, and_true, not_true, not_false_eq_true, false_implies, true_implies, or_true, true_or, or_false, false_or, Bool.or_false, Bool.false_or, decide_false, decide_true, Nat.reduceLT, Nat.reduceLeDiff, Nat.reduceAdd, Nat.reduceSub, ↓reduceIte, Nat.reduceEqDiff, Nat.lt_add_one]
  intro a3 ha30
  have ha3 : ∀ x ∈ Ta1.1, x.1 ≠ a3 := fun x hx => ha30 x (by first | exact hx | (simp only [List.mem_append] at hx; exact hx))
  have na3 : a3 ≠ o := Ne.symm (ha3 _ s1.2.2.1)
  refine c_X2i (nw_ob (T := (Ta1.1, mz_u Ta1.2 o 2 (some a1))) ha3) nw_lst (fun Ta3 Ia3 La3 a4 wa3 pfa3 _ => ?_)
  have pfa1 := fd_T (o := o) (i := 3) (v := some a3) na1 (fd_nw (T0 := (Ta1.1, mz_u Ta1.2 o 2 (some a1))) wa3 pfa1)
  have pfa3 := fd_T (o := o) (i := 3) (v := some a3) na3 pfa3
  have s2 := st_ob (T := (Ta1.1, mz_u Ta1.2 o 2 (some a1))) (f := 3) (q := a3) s1 wa3 (by simp)
  have hO2 : (o, 0, 10) ∈ Ta3.1 := s2.2.2.1
  simp only [cd_X10_init, List.mem_append, hO2, r_rn0, r_rnc, r_vk0, r_vkc, r_vks, r_kci, r_kcv, r_ild, r_ald, r_lld, r_dld, r_Li, r_La, r_Ll, r_Ld, r_Ki, r_Ka, r_Kl, r_Kd, r_Kn, r_ist, r_ast, r_lst, r_dst, r_iinc, r_int, r_lng, r_dbl, r_i2, r_i1, r_l2, r_lsh, r_i2z, r_l2z, r_i2l, r_l2i, r_i2d, r_lcmp, r_ddiv, r_dcmpl, r_dup, r_dup2, r_pop, r_one_int, r_one_ref, r_go, r_if, r_ic, r_tsw, r_lsw, r_sw0, r_swc, r_lk0, r_lkc, r_kp, r_gI, r_gL, r_gR, r_pI, r_pZ, r_pL, r_pR, r_gs, r_ia, r_ca, r_za, r_la, r_da, r_aa, r_ias, r_cas, r_zas, r_las, r_das, r_aas, r_acp, r_new, r_nwa, r_nwq, r_ret, r_irt, r_zrt, r_lrt, r_drt, r_art, r_thr, r_cV0, r_cV1, r_cV2, r_cV3, r_cV4, r_cV5, r_cI0, r_cS0, r_cS1, r_cS2, r_cS3, r_cX0, r_cX1, r_cX2, r_cX3, r_rc, r_oi, r_refx, r_i10, r_i01, r_rfs, r_mem0, r_memc, r_beq, r_kl0, r_klz, r_kl1i, r_kl1r, r_kl1n, r_kl1l, r_kl1d, List.length_cons, List.length_nil, List.getElem?_cons_zero, List.getElem?_cons_succ, List.set_cons_zero, List.set_cons_succ, true_and, and_true, not_true, not_false_eq_true, false_implies, true_implies, or_true, true_or, or_false, false_or, Bool.or_false, Bool.false_or, decide_false, decide_true, Nat.reduceLT, Nat.reduceLeDiff, Nat.reduceAdd, Nat.reduceSub, ↓reduceIte, Nat.reduceEqDiff, Nat.lt_add_one]
  intro a5 ha50
  have ha5 : ∀ x ∈ Ta3.1, x.1 ≠ a5 := fun x hx => ha50 x (by first | exact hx | (simp only [List.mem_append] at hx; exact hx))
  have na5 : a5 ≠ o := Ne.symm (ha5 _ s2.2.2.1)
  refine c_X8i ?_
  have wa5 := nw_ob (T := (Ta3.1, mz_u Ta3.2 o 3 (some a3))) (c := 8) (v := 0) (w := 0) (I := Ia3) (L := La3) ha5
  have pfa1 := fd_T (o := o) (i := 4) (v := some a5) na1 (fd_nw (T0 := (Ta3.1, mz_u Ta3.2 o 3 (some a3))) wa5 pfa1)
  have pfa3 := fd_T (o := o) (i := 4) (v := some a5) na3 (fd_nw (T0 := (Ta3.1, mz_u Ta3.2 o 3 (some a3))) wa5 pfa3)
  have ma5 : (a5, 0, 8) ∈ Ta3.1 ++ [(a5, 0, 8)] := nw_lst
  have s3 := st_ob (T := (Ta3.1, mz_u Ta3.2 o 3 (some a3))) (f := 4) (q := a5) s2 wa5 (by simp)
  have hO3 : (o, 0, 10) ∈ Ta3.1 ++ [(a5, 0, 8)] := s3.2.2.1
  simp only [cd_X10_init, List.mem_append, hO3, r_rn0, r_rnc, r_vk0, r_vkc, r_vks, r_kci, r_kcv, r_ild, r_ald, r_lld, r_dld, r_Li, r_La, r_Ll, r_Ld, r_Ki, r_Ka, r_Kl, r_Kd, r_Kn, r_ist, r_ast, r_lst, r_dst, r_iinc, r_int, r_lng, r_dbl, r_i2, r_i1, r_l2, r_lsh, r_i2z, r_l2z, r_i2l, r_l2i, r_i2d, r_lcmp, r_ddiv, r_dcmpl, r_dup, r_dup2, r_pop, r_one_int, r_one_ref, r_go, r_if, r_ic, r_tsw, r_lsw, r_sw0, r_swc, r_lk0, r_lkc, r_kp, r_gI, r_gL, r_gR, r_pI, r_pZ, r_pL, r_pR, r_gs, r_ia, r_ca, r_za, r_la, r_da, r_aa, r_ias, r_cas, r_zas, r_las, r_das, r_aas, r_acp, r_new, r_nwa, r_nwq, r_ret, r_irt, r_zrt, r_lrt, r_drt, r_art, r_thr, r_cV0, r_cV1, r_cV2, r_cV3, r_cV4, r_cV5, r_cI0, r_cS0, r_cS1, r_cS2, r_cS3, r_cX0, r_cX1, r_cX2, r_cX3, r_rc, r_oi, r_refx, r_i10, r_i01, r_rfs, r_mem0, r_memc, r_beq, r_kl0, r_klz, r_kl1i, r_kl1r, r_kl1n, r_kl1l, r_kl1d, List.length_cons, List.length_nil, List.getElem?_cons_zero, List.getElem?_cons_succ, List.set_cons_zero, List.set_cons_succ, true_and, and_true, not_true, not_false_eq_true, false_implies, true_implies, or_true, true_or, or_false, false_or, Bool.or_false, Bool.false_or, decide_false, decide_true, Nat.reduceLT, Nat.reduceLeDiff, Nat.reduceAdd, Nat.reduceSub, ↓reduceIte, Nat.reduceEqDiff, Nat.lt_add_one]
  intro a6 ha60
  have ha6 : ∀ x ∈ Ta3.1 ++ [(a5, 0, 8)], x.1 ≠ a6 := fun x hx => ha60 x (by first | exact hx | (simp only [List.mem_append] at hx; exact hx))
  have na6 : a6 ≠ o := Ne.symm (ha6 _ s3.2.2.1)
  refine c_X8i ?_
  have wa6 := nw_ob (T := (Ta3.1 ++ [(a5, 0, 8)], mz_u (mz_z (mz_u Ta3.2 o 3 (some a3)) a5 none) o 4 (some a5))) (c := 8) (v := 0) (w := 0) (I := mz_z (Ia3) a5 0) (L := mz_z (La3) a5 0) ha6
  have pfa1 := fd_T (o := o) (i := 5) (v := some a6) na1 (fd_nw (T0 := (Ta3.1 ++ [(a5, 0, 8)], mz_u (mz_z (mz_u Ta3.2 o 3 (some a3)) a5 none) o 4 (some a5))) wa6 pfa1)
  have pfa3 := fd_T (o := o) (i := 5) (v := some a6) na3 (fd_nw (T0 := (Ta3.1 ++ [(a5, 0, 8)], mz_u (mz_z (mz_u Ta3.2 o 3 (some a3)) a5 none) o 4 (some a5))) wa6 pfa3)
  have ma5 := nw_mem (T0 := (Ta3.1 ++ [(a5, 0, 8)], mz_u (mz_z (mz_u Ta3.2 o 3 (some a3)) a5 none) o 4 (some a5))) wa6 ma5
  have ma6 : (a6, 0, 8) ∈ Ta3.1 ++ [(a5, 0, 8)] ++ [(a6, 0, 8)] := nw_lst
  have s4 := st_ob (T := (Ta3.1 ++ [(a5, 0, 8)], mz_u (mz_z (mz_u Ta3.2 o 3 (some a3)) a5 none) o 4 (some a5))) (f := 5) (q := a6) s3 wa6 (by simp)
  have hO4 : (o, 0, 10) ∈ Ta3.1 ++ [(a5, 0, 8)] ++ [(a6, 0, 8)] := s4.2.2.1
  simp only [cd_X10_init, List.mem_append, hO4, r_rn0, r_rnc, r_vk0, r_vkc, r_vks, r_kci, r_kcv, r_ild, r_ald, r_lld, r_dld, r_Li, r_La, r_Ll, r_Ld, r_Ki, r_Ka, r_Kl, r_Kd, r_Kn, r_ist, r_ast, r_lst, r_dst, r_iinc, r_int, r_lng, r_dbl, r_i2, r_i1, r_l2, r_lsh, r_i2z, r_l2z, r_i2l, r_l2i, r_i2d, r_lcmp, r_ddiv, r_dcmpl, r_dup, r_dup2, r_pop, r_one_int, r_one_ref, r_go, r_if, r_ic, r_tsw, r_lsw, r_sw0, r_swc, r_lk0, r_lkc, r_kp, r_gI, r_gL, r_gR, r_pI, r_pZ, r_pL, r_pR, r_gs, r_ia, r_ca, r_za, r_la, r_da, r_aa, r_ias, r_cas, r_zas, r_las, r_das, r_aas, r_acp, r_new, r_nwa, r_nwq, r_ret, r_irt, r_zrt, r_lrt, r_drt, r_art, r_thr, r_cV0, r_cV1, r_cV2, r_cV3, r_cV4, r_cV5, r_cI0, r_cS0, r_cS1, r_cS2, r_cS3, r_cX0, r_cX1, r_cX2, r_cX3, r_rc, r_oi, r_refx, r_i10, r_i01, r_rfs, r_mem0, r_memc, r_beq, r_kl0, r_klz, r_kl1i, r_kl1r, r_kl1n, r_kl1l, r_kl1d, List.length_cons, List.length_nil, List.getElem?_cons_zero, List.getElem?_cons_succ, List.set_cons_zero, List.set_cons_succ, true_and, and_true, not_true, not_false_eq_true, false_implies, true_implies, or_true, true_or, or_false, false_or, Bool.or_false, Bool.false_or, decide_false, decide_true, Nat.reduceLT, Nat.reduceLeDiff, Nat.reduceAdd, Nat.reduceSub, ↓reduceIte, Nat.reduceEqDiff, Nat.lt_add_one]
  intro a7 ha70
  have ha7 : ∀ x ∈ Ta3.1 ++ [(a5, 0, 8)] ++ [(a6, 0, 8)], x.1 ≠ a7 := fun x hx => ha70 x (by first | exact hx | (simp only [List.mem_append] at hx; exact hx))
  have na7 : a7 ≠ o := Ne.symm (ha7 _ s4.2.2.1)
  have wa7 := nw_new (T0 := (Ta3.1 ++ [(a5, 0, 8)] ++ [(a6, 0, 8)], mz_u (mz_z (mz_u (mz_z (mz_u Ta3.2 o 3 (some a3)) a5 none) o 4 (some a5)) a6 none) o 5 (some a6))) (T := (Ta3.1 ++ [(a5, 0, 8)] ++ [(a6, 0, 8)], mz_u (mz_z (mz_u (mz_z (mz_u Ta3.2 o 3 (some a3)) a5 none) o 4 (some a5)) a6 none) o 5 (some a6))) (I0 := mz_z (mz_z (Ia3) a5 0) a6 0) (I := mz_z (mz_z (Ia3) a5 0) a6 0) (L0 := mz_z (mz_z (La3) a5 0) a6 0) (L := mz_z (mz_z (La3) a5 0) a6 0) (x := (1, 2048)) (v := 0) (w := 0) nw_0 ha7
  have pfa1 := fd_T (o := o) (i := 6) (v := some a7) na1 (fd_nw (T0 := (Ta3.1 ++ [(a5, 0, 8)] ++ [(a6, 0, 8)], mz_u (mz_z (mz_u (mz_z (mz_u Ta3.2 o 3 (some a3)) a5 none) o 4 (some a5)) a6 none) o 5 (some a6))) wa7 pfa1)
  have pfa3 := fd_T (o := o) (i := 6) (v := some a7) na3 (fd_nw (T0 := (Ta3.1 ++ [(a5, 0, 8)] ++ [(a6, 0, 8)], mz_u (mz_z (mz_u (mz_z (mz_u Ta3.2 o 3 (some a3)) a5 none) o 4 (some a5)) a6 none) o 5 (some a6))) wa7 pfa3)
  have ma5 := nw_mem (T0 := (Ta3.1 ++ [(a5, 0, 8)] ++ [(a6, 0, 8)], mz_u (mz_z (mz_u (mz_z (mz_u Ta3.2 o 3 (some a3)) a5 none) o 4 (some a5)) a6 none) o 5 (some a6))) wa7 ma5
  have ma6 := nw_mem (T0 := (Ta3.1 ++ [(a5, 0, 8)] ++ [(a6, 0, 8)], mz_u (mz_z (mz_u (mz_z (mz_u Ta3.2 o 3 (some a3)) a5 none) o 4 (some a5)) a6 none) o 5 (some a6))) wa7 ma6
  have ma7 : (a7, 1, 2048) ∈ Ta3.1 ++ [(a5, 0, 8)] ++ [(a6, 0, 8)] ++ [(a7, 1, 2048)] := nw_lst
  have s5 := st_ob (T := (Ta3.1 ++ [(a5, 0, 8)] ++ [(a6, 0, 8)], mz_u (mz_z (mz_u (mz_z (mz_u Ta3.2 o 3 (some a3)) a5 none) o 4 (some a5)) a6 none) o 5 (some a6))) (f := 6) (q := a7) s4 wa7 (by simp)
  have hO5 : (o, 0, 10) ∈ Ta3.1 ++ [(a5, 0, 8)] ++ [(a6, 0, 8)] ++ [(a7, 1, 2048)] := s5.2.2.1
  intro a8 ha80
  have ha8 : ∀ x ∈ Ta3.1 ++ [(a5, 0, 8)] ++ [(a6, 0, 8)] ++ [(a7, 1, 2048)], x.1 ≠ a8 := fun x hx => ha80 x (by first | exact hx | (simp only [List.mem_append] at hx; exact hx))
  have na8 : a8 ≠ o := Ne.symm (ha8 _ s5.2.2.1)
  have wa8 := nw_new (T0 := (Ta3.1 ++ [(a5, 0, 8)] ++ [(a6, 0, 8)] ++ [(a7, 1, 2048)], mz_u (mz_z (mz_u (mz_z (mz_u (mz_z (mz_u Ta3.2 o 3 (some a3)) a5 none) o 4 (some a5)) a6 none) o 5 (some a6)) a7 none) o 6 (some a7))) (T := (Ta3.1 ++ [(a5, 0, 8)] ++ [(a6, 0, 8)] ++ [(a7, 1, 2048)], mz_u (mz_z (mz_u (mz_z (mz_u (mz_z (mz_u Ta3.2 o 3 (some a3)) a5 none) o 4 (some a5)) a6 none) o 5 (some a6)) a7 none) o 6 (some a7))) (I0 := mz_z (mz_z (mz_z (Ia3) a5 0) a6 0) a7 0) (I := mz_z (mz_z (mz_z (Ia3) a5 0) a6 0) a7 0) (L0 := mz_z (mz_z (mz_z (La3) a5 0) a6 0) a7 0) (L := mz_z (mz_z (mz_z (La3) a5 0) a6 0) a7 0) (x := (1, 2048)) (v := 0) (w := 0) nw_0 ha8
  have pfa1 := fd_T (o := o) (i := 7) (v := some a8) na1 (fd_nw (T0 := (Ta3.1 ++ [(a5, 0, 8)] ++ [(a6, 0, 8)] ++ [(a7, 1, 2048)], mz_u (mz_z (mz_u (mz_z (mz_u (mz_z (mz_u Ta3.2 o 3 (some a3)) a5 none) o 4 (some a5)) a6 none) o 5 (some a6)) a7 none) o 6 (some a7))) wa8 pfa1)
  have pfa3 := fd_T (o := o) (i := 7) (v := some a8) na3 (fd_nw (T0 := (Ta3.1 ++ [(a5, 0, 8)] ++ [(a6, 0, 8)] ++ [(a7, 1, 2048)], mz_u (mz_z (mz_u (mz_z (mz_u (mz_z (mz_u Ta3.2 o 3 (some a3)) a5 none) o 4 (some a5)) a6 none) o 5 (some a6)) a7 none) o 6 (some a7))) wa8 pfa3)
  have ma5 := nw_mem (T0 := (Ta3.1 ++ [(a5, 0, 8)] ++ [(a6, 0, 8)] ++ [(a7, 1, 2048)], mz_u (mz_z (mz_u (mz_z (mz_u (mz_z (mz_u Ta3.2 o 3 (some a3)) a5 none) o 4 (some a5)) a6 none) o 5 (some a6)) a7 none) o 6 (some a7))) wa8 ma5
  have ma6 := nw_mem (T0 := (Ta3.1 ++ [(a5, 0, 8)] ++ [(a6, 0, 8)] ++ [(a7, 1, 2048)], mz_u (mz_z (mz_u (mz_z (mz_u (mz_z (mz_u Ta3.2 o 3 (some a3)) a5 none) o 4 (some a5)) a6 none) o 5 (some a6)) a7 none) o 6 (some a7))) wa8 ma6
  have ma7 := nw_mem (T0 := (Ta3.1 ++ [(a5, 0, 8)] ++ [(a6, 0, 8)] ++ [(a7, 1, 2048)], mz_u (mz_z (mz_u (mz_z (mz_u (mz_z (mz_u Ta3.2 o 3 (some a3)) a5 none) o 4 (some a5)) a6 none) o 5 (some a6)) a7 none) o 6 (some a7))) wa8 ma7
  have ma8 : (a8, 1, 2048) ∈ Ta3.1 ++ [(a5, 0, 8)] ++ [(a6, 0, 8)] ++ [(a7, 1, 2048)] ++ [(a8, 1, 2048)] := nw_lst
  have s6 := st_ob (T := (Ta3.1 ++ [(a5, 0, 8)] ++ [(a6, 0, 8)] ++ [(a7, 1, 2048)], mz_u (mz_z (mz_u (mz_z (mz_u (mz_z (mz_u Ta3.2 o 3 (some a3)) a5 none) o 4 (some a5)) a6 none) o 5 (some a6)) a7 none) o 6 (some a7))) (f := 7) (q := a8) s5 wa8 (by simp)
  have hO6 : (o, 0, 10) ∈ Ta3.1 ++ [(a5, 0, 8)] ++ [(a6, 0, 8)] ++ [(a7, 1, 2048)] ++ [(a8, 1, 2048)] := s6.2.2.1
  intro a9 ha90
  have ha9 : ∀ x ∈ Ta3.1 ++ [(a5, 0, 8)] ++ [(a6, 0, 8)] ++ [(a7, 1, 2048)] ++ [(a8, 1, 2048)], x.1 ≠ a9 := fun x hx => ha90 x (by first | exact hx | (simp only [List.mem_append] at hx; exact hx))
  have na9 : a9 ≠ o := Ne.symm (ha9 _ s6.2.2.1)
  have wa9 := nw_new (T0 := (Ta3.1 ++ [(a5, 0, 8)] ++ [(a6, 0, 8)] ++ [(a7, 1, 2048)] ++ [(a8, 1, 2048)], mz_u (mz_z (mz_u (mz_z (mz_u (mz_z (mz_u (mz_z (mz_u Ta3.2 o 3 (some a3)) a5 none) o 4 (some a5)) a6 none) o 5 (some a6)) a7 none) o 6 (some a7)) a8 none) o 7 (some a8))) (T := (Ta3.1 ++ [(a5, 0, 8)] ++ [(a6, 0, 8)] ++ [(a7, 1, 2048)] ++ [(a8, 1, 2048)], mz_u (mz_z (mz_u (mz_z (mz_u (mz_z (mz_u (mz_z (mz_u Ta3.2 o 3 (some a3)) a5 none) o 4 (some a5)) a6 none) o 5 (some a6)) a7 none) o 6 (some a7)) a8 none) o 7 (some a8))) (I0 := mz_z (mz_z (mz_z (mz_z (Ia3) a5 0) a6 0) a7 0) a8 0) (I := mz_z (mz_z (mz_z (mz_z (Ia3) a5 0) a6 0) a7 0) a8 0) (L0 := mz_z (mz_z (mz_z (mz_z (La3) a5 0) a6 0) a7 0) a8 0) (L := mz_z (mz_z (mz_z (mz_z (La3) a5 0) a6 0) a7 0) a8 0) (x := (2, 512)) (v := 0) (w := 0) nw_0 ha9
  have pfa1 := fd_T (o := o) (i := 9) (v := some a9) na1 (fd_nw (T0 := (Ta3.1 ++ [(a5, 0, 8)] ++ [(a6, 0, 8)] ++ [(a7, 1, 2048)] ++ [(a8, 1, 2048)], mz_u (mz_z (mz_u (mz_z (mz_u (mz_z (mz_u (mz_z (mz_u Ta3.2 o 3 (some a3)) a5 none) o 4 (some a5)) a6 none) o 5 (some a6)) a7 none) o 6 (some a7)) a8 none) o 7 (some a8))) wa9 pfa1)
  have pfa3 := fd_T (o := o) (i := 9) (v := some a9) na3 (fd_nw (T0 := (Ta3.1 ++ [(a5, 0, 8)] ++ [(a6, 0, 8)] ++ [(a7, 1, 2048)] ++ [(a8, 1, 2048)], mz_u (mz_z (mz_u (mz_z (mz_u (mz_z (mz_u (mz_z (mz_u Ta3.2 o 3 (some a3)) a5 none) o 4 (some a5)) a6 none) o 5 (some a6)) a7 none) o 6 (some a7)) a8 none) o 7 (some a8))) wa9 pfa3)
  have ma5 := nw_mem (T0 := (Ta3.1 ++ [(a5, 0, 8)] ++ [(a6, 0, 8)] ++ [(a7, 1, 2048)] ++ [(a8, 1, 2048)], mz_u (mz_z (mz_u (mz_z (mz_u (mz_z (mz_u (mz_z (mz_u Ta3.2 o 3 (some a3)) a5 none) o 4 (some a5)) a6 none) o 5 (some a6)) a7 none) o 6 (some a7)) a8 none) o 7 (some a8))) wa9 ma5
  have ma6 := nw_mem (T0 := (Ta3.1 ++ [(a5, 0, 8)] ++ [(a6, 0, 8)] ++ [(a7, 1, 2048)] ++ [(a8, 1, 2048)], mz_u (mz_z (mz_u (mz_z (mz_u (mz_z (mz_u (mz_z (mz_u Ta3.2 o 3 (some a3)) a5 none) o 4 (some a5)) a6 none) o 5 (some a6)) a7 none) o 6 (some a7)) a8 none) o 7 (some a8))) wa9 ma6
  have ma7 := nw_mem (T0 := (Ta3.1 ++ [(a5, 0, 8)] ++ [(a6, 0, 8)] ++ [(a7, 1, 2048)] ++ [(a8, 1, 2048)], mz_u (mz_z (mz_u (mz_z (mz_u (mz_z (mz_u (mz_z (mz_u Ta3.2 o 3 (some a3)) a5 none) o 4 (some a5)) a6 none) o 5 (some a6)) a7 none) o 6 (some a7)) a8 none) o 7 (some a8))) wa9 ma7
  have ma8 := nw_mem (T0 := (Ta3.1 ++ [(a5, 0, 8)] ++ [(a6, 0, 8)] ++ [(a7, 1, 2048)] ++ [(a8, 1, 2048)], mz_u (mz_z (mz_u (mz_z (mz_u (mz_z (mz_u (mz_z (mz_u Ta3.2 o 3 (some a3)) a5 none) o 4 (some a5)) a6 none) o 5 (some a6)) a7 none) o 6 (some a7)) a8 none) o 7 (some a8))) wa9 ma8
  have ma9 : (a9, 2, 512) ∈ Ta3.1 ++ [(a5, 0, 8)] ++ [(a6, 0, 8)] ++ [(a7, 1, 2048)] ++ [(a8, 1, 2048)] ++ [(a9, 2, 512)] := nw_lst
  have s7 := st_ob (T := (Ta3.1 ++ [(a5, 0, 8)] ++ [(a6, 0, 8)] ++ [(a7, 1, 2048)] ++ [(a8, 1, 2048)], mz_u (mz_z (mz_u (mz_z (mz_u (mz_z (mz_u (mz_z (mz_u Ta3.2 o 3 (some a3)) a5 none) o 4 (some a5)) a6 none) o 5 (some a6)) a7 none) o 6 (some a7)) a8 none) o 7 (some a8))) (f := 9) (q := a9) s6 wa9 (by simp)
  have hO7 : (o, 0, 10) ∈ Ta3.1 ++ [(a5, 0, 8)] ++ [(a6, 0, 8)] ++ [(a7, 1, 2048)] ++ [(a8, 1, 2048)] ++ [(a9, 2, 512)] := s7.2.2.1
  refine h _ _ _ (fun j => [o, a1, a2, a3, a4, a5, a6, a7, a8, a9].getD j 0) rfl (nw_sub s7.1 (fun a ha => ?_)) ⟨hO7, ⟨s7.2.2.2.1 (2, a1) (by simp), s7.2.2.2.1 (3, a3) (by simp), s7.2.2.2.1 (4, a5) (by simp), s7.2.2.2.1 (5, a6) (by simp), s7.2.2.2.1 (6, a7) (by simp), s7.2.2.2.1 (7, a8) (by simp), s7.2.2.2.1 (9, a9) (by simp)⟩, ⟨pfa1, pfa3, ma5, ma6, ma7, ma8, ma9⟩, wa3.2.2 a4 (by simp) _ k12, ha6 _ nw_lst, ha8 _ nw_lst⟩ (fun i => ?_)
  · simp only [List.getD_cons_zero, List.getD_cons_succ, List.mem_cons, List.not_mem_nil, or_false] at ha
    simp only [List.mem_append, List.mem_cons, List.not_mem_nil, or_false]
    omega
  · rw [s7.2.2.2.2]; exact hz i
end CON4
