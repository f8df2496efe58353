/-! the constructors -/
section CON
variable {G : mz_G} {K : mz_K} {T : mz_T} {I : mz_I} {L : mz_L} {T0 : mz_T} {I0 : mz_I} {L0 : mz_L}
/-- what was there stands as it was; the addresses S are new -/
def n_w (T0 T : mz_T) (I0 I : mz_I) (L0 L : mz_L) (S : List Nat) : Prop :=
  (∃ N, T.1 = T0.1 ++ N) ∧ (∀ a x, (a, x) ∈ T0.1 → T.2 a = T0.2 a ∧ I a = I0 a ∧ L a = L0 a) ∧ (∀ a, a ∈ S → ∀ x ∈ T0.1, x.1 ≠ a)
theorem nw_mem {S : List Nat} {a : Nat} {x : Nat × Nat} (h : n_w T0 T I0 I L0 L S) (q : (a, x) ∈ T0.1) : (a, x) ∈ T.1 := by
  obtain ⟨⟨N, e⟩, -⟩ := h
  rw [e]; exact List.mem_append_left _ q
theorem nw_0 : n_w T T I I L L [] := ⟨⟨[], (List.append_nil _).symm⟩, fun _ _ _ => ⟨rfl, rfl, rfl⟩, fun _ h => absurd h List.not_mem_nil⟩
theorem nw_tr {T1 T2 : mz_T} {I1 I2 : mz_I} {L1 L2 : mz_L} {S1 S2 : List Nat} (h1 : n_w T0 T1 I0 I1 L0 L1 S1) (h2 : n_w T1 T2 I1 I2 L1 L2 S2) : n_w T0 T2 I0 I2 L0 L2 (S1 ++ S2) := by
  obtain ⟨⟨N1, e1⟩, b1, c1⟩ := id h1
  obtain ⟨⟨N2, e2⟩, b2, c2⟩ := id h2
  refine ⟨⟨N1 ++ N2, by rw [e2, e1, List.append_assoc]⟩, fun a x q => ?_, fun a ha x hx => ?_⟩
  · obtain ⟨p1, p2, p3⟩ := b1 a x q
    obtain ⟨q1, q2, q3⟩ := b2 a x (nw_mem h1 q)
    exact ⟨q1.trans p1, q2.trans p2, q3.trans p3⟩
  · rcases List.mem_append.mp ha with q | q
    · exact c1 a q x hx
    · exact c2 a q x (nw_mem h1 (a := x.1) (x := x.2) hx)
theorem nw_ne {S : List Nat} {a q : Nat} {x : Nat × Nat} (h : n_w T0 T I0 I L0 L S) (hq : ∀ x ∈ T.1, x.1 ≠ q) (ha : (a, x) ∈ T0.1) : a ≠ q := hq (a, x) (nw_mem h ha)
theorem nw_new {S : List Nat} {q : Nat} {x : Nat × Nat} {v : Int32} {w : Int64} (h : n_w T0 T I0 I L0 L S) (hq : ∀ x ∈ T.1, x.1 ≠ q) : n_w T0 (T.1 ++ [(q, x)], mz_z T.2 q none) I0 (mz_z I q v) L0 (mz_z L q w) (q :: S) := by
  obtain ⟨⟨N, e⟩, b, c⟩ := id h
  refine ⟨⟨N ++ [(q, x)], by rw [e, List.append_assoc]⟩, fun a y ha => ?_, fun a ha y hy => ?_⟩
  · have ne := nw_ne h hq ha
    obtain ⟨p1, p2, p3⟩ := b a y ha
    exact ⟨(if_neg ne).trans p1, (if_neg ne).trans p2, (if_neg ne).trans p3⟩
  · rcases List.mem_cons.mp ha with r | r
    · subst r; exact nw_ne h hq (a := y.1) (x := y.2) hy
    · exact c a r y hy
theorem nw_T {S : List Nat} {a f : Nat} {v : Option Nat} (h : n_w T0 T I0 I L0 L S) (ha : a ∈ S) : n_w T0 (T.1, mz_u T.2 a f v) I0 I L0 L S := by
  obtain ⟨e, b, c⟩ := id h
  refine ⟨e, fun a' y hy => ?_, c⟩
  obtain ⟨p1, p2, p3⟩ := b a' y hy
  exact ⟨(mz_u_ne (c a ha (a', y) hy)).trans p1, p2, p3⟩
theorem nw_I {S : List Nat} {a f : Nat} {v : Int32} (h : n_w T0 T I0 I L0 L S) (ha : a ∈ S) : n_w T0 T I0 (mz_u I a f v) L0 L S := by
  obtain ⟨e, b, c⟩ := id h
  refine ⟨e, fun a' y hy => ?_, c⟩
  obtain ⟨p1, p2, p3⟩ := b a' y hy
  exact ⟨p1, (mz_u_ne (c a ha (a', y) hy)).trans p2, p3⟩
theorem nw_fr {S R : List Nat} {I' : mz_I} (h : n_w T0 T I0 I L0 L S) (hf : fr I I' R) (hr : ∀ a, a ∈ R → a ∈ S) : n_w T0 T I0 I' L0 L S := by
  obtain ⟨e, b, c⟩ := id h
  refine ⟨e, fun a' y hy => ?_, c⟩
  obtain ⟨p1, p2, p3⟩ := b a' y hy
  exact ⟨p1, (hf a' (fun q => c a' (hr a' q) (a', y) hy rfl)).trans p2, p3⟩
theorem nw_frL {S R : List Nat} {L' : mz_L} (h : n_w T0 T I0 I L0 L S) (hf : fr L L' R) (hr : ∀ a, a ∈ R → a ∈ S) : n_w T0 T I0 I L0 L' S := by
  obtain ⟨e, b, c⟩ := id h
  refine ⟨e, fun a' y hy => ?_, c⟩
  obtain ⟨p1, p2, p3⟩ := b a' y hy
  exact ⟨p1, p2, (hf a' (fun q => c a' (hr a' q) (a', y) hy rfl)).trans p3⟩
theorem nw_sub {S S' : List Nat} (h : n_w T0 T I0 I L0 L S) (hs : ∀ a, a ∈ S' → a ∈ S) : n_w T0 T I0 I L0 L S' := ⟨h.1, h.2.1, fun a ha => h.2.2 a (hs a ha)⟩
/-- an object that is made -/
theorem nw_ob {q c : Nat} {v : Int32} {w : Int64} (hq : ∀ x ∈ T.1, x.1 ≠ q) : n_w T (T.1 ++ [(q, 0, c)], mz_z T.2 q none) I (mz_z I q v) L (mz_z L q w) [q] := nw_new nw_0 hq
theorem nw_lst {N : List (Nat × Nat × Nat)} {q : Nat} {x : Nat × Nat} : (q, x) ∈ N ++ [(q, x)] := List.mem_append_right _ List.mem_cons_self
theorem c_X8i {o : Nat} (h : K none T I L) : mz_Ctr G M_X8_init [.ref o] T I L K := by
  refine mz_ofl mk_X8_init rfl (Nat.le_of_ble_eq_true rfl) (Nat.le_of_ble_eq_true rfl) [some (.ref o)] rfl ?_
  refine mz_vc ok_X8_init [] [(), (), (), (), (), (), (), (), (), (), (), (), (), (), (), (), (), (), (), (), (), (), (), (), (), (), (), (), (), ()] ?_
  simp only [cd_X8_init, r_rn0, r_rnc, r_vk0, r_vkc, r_vks, r_kci, r_kcv, r_ild, r_ald, r_lld, r_dld, r_Li, r_La, r_Ll, r_Ld, r_Ki, r_Ka, r_Kl, r_Kd, r_Kn, r_ist, r_ast, r_lst, r_dst, r_iinc, r_int, r_lng, r_dbl, r_i2, r_i1, r_l2, r_lsh, r_i2z, r_l2z, r_i2l, r_l2i, r_i2d, r_lcmp, r_ddiv, r_dcmpl, r_dup, r_dup2, r_pop, r_one_int, r_one_ref, r_go, r_if, r_ic, r_tsw, r_lsw, r_sw0, r_swc, r_lk0, r_lkc, r_kp, r_gI, r_gL, r_gR, r_pI, r_pZ, r_pL, r_pR, r_gs, r_ia, r_ca, r_za, r_la, r_da, r_aa, r_ias, r_cas, r_zas, r_las, r_das, r_aas, r_acp, r_new, r_nwa, r_nwq, r_ret, r_irt, r_zrt, r_lrt, r_drt, r_art, r_thr, r_cV0, r_cV1, r_cV2, r_cV3, r_cV4, r_cV5, r_cI0, r_cS0, r_cS1, r_cS2, r_cS3, r_cX0, r_cX1, r_cX2, r_cX3, r_rc, r_oi, r_refx, r_i10, r_i01, r_rfs, r_mem0, r_memc, r_beq, r_kl0, r_klz, r_kl1i, r_kl1r, r_kl1n, r_kl1l, r_kl1d, List.length_cons, List.length_nil, List.getElem?_cons_zero, List.getElem?_cons_succ, List.set_cons_zero, List.set_cons_succ, true_and, and_true, not_true, not_false_eq_true, false_implies, true_implies, or_true, true_or, or_false, false_or, Bool.or_false, Bool.false_or, decide_false, decide_true, Nat.reduceLT, Nat.reduceLeDiff, Nat.reduceAdd, Nat.reduceSub, ↓reduceIte, Nat.reduceEqDiff, Nat.lt_add_one]
  exact h
theorem c_X0i {o : Nat} (hn : n_w T0 T I0 I L0 L [o]) (ho : (o, 0, 0) ∈ T.1) (h : ∀ T' I' L' v, n_w T0 T' I0 I' L0 L' [o, v] → (o, 0, 0) ∈ T'.1 → (v, 1, 5) ∈ T'.1 → T'.2 o 0 = some v → K none T' I' L') : mz_Ctr G M_X0_init [.ref o] T I L K := by
  refine mz_ofl mk_X0_init rfl (Nat.le_of_ble_eq_true rfl) (Nat.le_of_ble_eq_true rfl) [some (.ref o)] rfl ?_
  refine mz_vc ok_X0_init [] [(), (), (), (), (), (), (), (), (), (), (), (), (), (), (), (), (), (), (), (), (), (), (), (), (), (), (), (), (), ()] ?_
  simp only [cd_X0_init, ho, List.mem_append, r_rn0, r_rnc, r_vk0, r_vkc, r_vks, r_kci, r_kcv, r_ild, r_ald, r_lld, r_dld, r_Li, r_La, r_Ll, r_Ld, r_Ki, r_Ka, r_Kl, r_Kd, r_Kn, r_ist, r_ast, r_lst, r_dst, r_iinc, r_int, r_lng, r_dbl, r_i2, r_i1, r_l2, r_lsh, r_i2z, r_l2z, r_i2l, r_l2i, r_i2d, r_lcmp, r_ddiv, r_dcmpl, r_dup, r_dup2, r_pop, r_one_int, r_one_ref, r_go, r_if, r_ic, r_tsw, r_lsw, r_sw0, r_swc, r_lk0, r_lkc, r_kp, r_gI, r_gL, r_gR, r_pI, r_pZ, r_pL, r_pR, r_gs, r_ia, r_ca, r_za, r_la, r_da, r_aa, r_ias, r_cas, r_zas, r_las, r_das, r_aas, r_acp, r_new, r_nwa, r_nwq, r_ret, r_irt, r_zrt, r_lrt, r_drt, r_art, r_thr, r_cV0, r_cV1, r_cV2, r_cV3, r_cV4, r_cV5, r_cI0, r_cS0, r_cS1, r_cS2, r_cS3, r_cX0, r_cX1, r_cX2, r_cX3, r_rc, r_oi, r_refx, r_i10, r_i01, r_rfs, r_mem0, r_memc, r_beq, r_kl0, r_klz, r_kl1i, r_kl1r, r_kl1n, r_kl1l, r_kl1d, List.length_cons, List.length_nil, List.getElem?_cons_zero, List.getElem?_cons_succ, List.set_cons_zero, List.set_cons_succ, true_and, and_true, not_true, not_false_eq_true, false_implies, true_implies, or_true, true_or, or_false, false_or, Bool.or_false, Bool.false_or, decide_false, decide_true, Nat.reduceLT, Nat.reduceLeDiff, Nat.reduceAdd, Nat.reduceSub, ↓reduceIte, Nat.reduceEqDiff, Nat.lt_add_one]
  intro q hq
  exact h _ _ _ q (nw_sub (nw_T (nw_new hn hq) (by simp)) (by simp)) (List.mem_append_left _ ho) nw_lst mz_u_eq
theorem c_X2i {o : Nat} (hn : n_w T0 T I0 I L0 L [o]) (ho : (o, 0, 2) ∈ T.1) (h : ∀ T' I' L' k, n_w T0 T' I0 I' L0 L' [o, k] → p_Field T' o k → (∀ i, i < 220 → I' k i = -1) → K none T' I' L') : mz_Ctr G M_X2_init [.ref o] T I L K := by
  refine mz_ofl mk_X2_init rfl (Nat.le_of_ble_eq_true rfl) (Nat.le_of_ble_eq_true rfl) [some (.ref o)] rfl ?_
  refine mz_vc ok_X2_init [] [(), (), (), (), (), (), (), (), (), (), (), (), (), (), (), (), (), (), (), (), (), (), (), (), (), (), (), (), (), ()] ?_
  simp only [cd_X2_init, ho, List.mem_append, r_rn0, r_rnc, r_vk0, r_vkc, r_vks, r_kci, r_kcv, r_ild, r_ald, r_lld, r_dld, r_Li, r_La, r_Ll, r_Ld, r_Ki, r_Ka, r_Kl, r_Kd, r_Kn, r_ist, r_ast, r_lst, r_dst, r_iinc, r_int, r_lng, r_dbl, r_i2, r_i1, r_l2, r_lsh, r_i2z, r_l2z, r_i2l, r_l2i, r_i2d, r_lcmp, r_ddiv, r_dcmpl, r_dup, r_dup2, r_pop, r_one_int, r_one_ref, r_go, r_if, r_ic, r_tsw, r_lsw, r_sw0, r_swc, r_lk0, r_lkc, r_kp, r_gI, r_gL, r_gR, r_pI, r_pZ, r_pL, r_pR, r_gs, r_ia, r_ca, r_za, r_la, r_da, r_aa, r_ias, r_cas, r_zas, r_las, r_das, r_aas, r_acp, r_new, r_nwa, r_nwq, r_ret, r_irt, r_zrt, r_lrt, r_drt, r_art, r_thr, r_cV0, r_cV1, r_cV2, r_cV3, r_cV4, r_cV5, r_cI0, r_cS0, r_cS1, r_cS2, r_cS3, r_cX0, r_cX1, r_cX2, r_cX3, r_rc, r_oi, r_refx, r_i10, r_i01, r_rfs, r_mem0, r_memc, r_beq, r_kl0, r_klz, r_kl1i, r_kl1r, r_kl1n, r_kl1l, r_kl1d, List.length_cons, List.length_nil, List.getElem?_cons_zero, List.getElem?_cons_succ, List.set_cons_zero, List.set_cons_succ, true_and, and_true, not_true, not_false_eq_true, false_implies, true_implies, or_true, true_or, or_false, false_or, Bool.or_false, Bool.false_or, decide_false, decide_true, Nat.reduceLT, Nat.reduceLeDiff, Nat.reduceAdd, Nat.reduceSub, ↓reduceIte, Nat.reduceEqDiff, Nat.lt_add_one]
  intro q hq
  have hp : p_Field (T.1 ++ [(q, 1, 220)], mz_u (mz_z T.2 q none) o 0 (some q)) o q := ⟨List.mem_append_left _ ho, nw_lst, mz_u_eq⟩
  refine c_makeEmpty hp ?_
  simp only [cd_X2_init, ho, List.mem_append, r_rn0, r_rnc, r_vk0, r_vkc, r_vks, r_kci, r_kcv, r_ild, r_ald, r_lld, r_dld, r_Li, r_La, r_Ll, r_Ld, r_Ki, r_Ka, r_Kl, r_Kd, r_Kn, r_ist, r_ast, r_lst, r_dst, r_iinc, r_int, r_lng, r_dbl, r_i2, r_i1, r_l2, r_lsh, r_i2z, r_l2z, r_i2l, r_l2i, r_i2d, r_lcmp, r_ddiv, r_dcmpl, r_dup, r_dup2, r_pop, r_one_int, r_one_ref, r_go, r_if, r_ic, r_tsw, r_lsw, r_sw0, r_swc, r_lk0, r_lkc, r_kp, r_gI, r_gL, r_gR, r_pI, r_pZ, r_pL, r_pR, r_gs, r_ia, r_ca, r_za, r_la, r_da, r_aa, r_ias, r_cas, r_zas, r_las, r_das, r_aas, r_acp, r_new, r_nwa, r_nwq, r_ret, r_irt, r_zrt, r_lrt, r_drt, r_art, r_thr, r_cV0, r_cV1, r_cV2, r_cV3, r_cV4, r_cV5, r_cI0, r_cS0, r_cS1, r_cS2, r_cS3, r_cX0, r_cX1, r_cX2, r_cX3, r_rc, r_oi, r_refx, r_i10, r_i01, r_rfs, r_mem0, r_memc, r_beq, r_kl0, r_klz, r_kl1i, r_kl1r, r_kl1n, r_kl1l, r_kl1d, List.length_cons, List.length_nil, List.getElem?_cons_zero, List.getElem?_cons_succ, List.set_cons_zero, List.set_cons_succ, true_and, and_true, not_true, not_false_eq_true, false_implies, true_implies, or_true, true_or, or_false, false_or, Bool.or_false, Bool.false_or, decide_false, decide_true, Nat.reduceLT, Nat.reduceLeDiff, Nat.reduceAdd, Nat.reduceSub, ↓reduceIte, Nat.reduceEqDiff, Nat.lt_add_one]
  have n9 := nw_sub (S' := [o, q]) (nw_T (a := o) (f := 0) (v := some q) (nw_new (x := (1, 220)) (v := 0) (w := 0) hn hq) (by simp)) (by simp)
  exact h _ _ _ q (nw_fr n9 (R := [q]) (fun a ha => if_neg (fun e => ha (by rw [e]; simp))) (by simp)) hp (fun i hi => (congrFun (if_pos rfl) i).trans (if_pos hi))
theorem c_X7i {o : Nat} (hn : n_w T0 T I0 I L0 L [o]) (ho : (o, 0, 7) ∈ T.1) (h : ∀ T' I' L' p, n_w T0 T' I0 I' L0 L' [o, p] → p_X T' o p → K none T' I' L') : mz_Ctr G M_X7_init [.ref o] T I L K := by
  refine mz_ofl mk_X7_init rfl (Nat.le_of_ble_eq_true rfl) (Nat.le_of_ble_eq_true rfl) [some (.ref o)] rfl ?_
  refine mz_vc ok_X7_init [] [(), (), (), (), (), (), (), (), (), (), (), (), (), (), (), (), (), (), (), (), (), (), (), (), (), (), (), (), (), ()] ?_
  simp only [cd_X7_init, ho, List.mem_append, r_rn0, r_rnc, r_vk0, r_vkc, r_vks, r_kci, r_kcv, r_ild, r_ald, r_lld, r_dld, r_Li, r_La, r_Ll, r_Ld, r_Ki, r_Ka, r_Kl, r_Kd, r_Kn, r_ist, r_ast, r_lst, r_dst, r_iinc, r_int, r_lng, r_dbl, r_i2, r_i1, r_l2, r_lsh, r_i2z, r_l2z, r_i2l, r_l2i, r_i2d, r_lcmp, r_ddiv, r_dcmpl, r_dup, r_dup2, r_pop, r_one_int, r_one_ref, r_go, r_if, r_ic, r_tsw, r_lsw, r_sw0, r_swc, r_lk0, r_lkc, r_kp, r_gI, r_gL, r_gR, r_pI, r_pZ, r_pL, r_pR, r_gs, r_ia, r_ca, r_za, r_la, r_da, r_aa, r_ias, r_cas, r_zas, r_las, r_das, r_aas, r_acp, r_new, r_nwa, r_nwq, r_ret, r_irt, r_zrt, r_lrt, r_drt, r_art, r_thr, r_cV0, r_cV1, r_cV2, r_cV3, r_cV4, r_cV5, r_cI0, r_cS0, r_cS1, r_cS2, r_cS3, r_cX0, r_cX1, r_cX2, r_cX3, r_rc, r_oi, r_refx, r_i10, r_i01, r_rfs, r_mem0, r_memc, r_beq, r_kl0, r_klz, r_kl1i, r_kl1r, r_kl1n, r_kl1l, r_kl1d, List.length_cons, List.length_nil, List.getElem?_cons_zero, List.getElem?_cons_succ, List.set_cons_zero, List.set_cons_succ, true_and, and_true, not_true, not_false_eq_true, false_implies, true_implies, or_true, true_or, or_false, false_or, Bool.or_false, Bool.false_or, decide_false, decide_true, Nat.reduceLT, Nat.reduceLeDiff, Nat.reduceAdd, Nat.reduceSub, ↓reduceIte, Nat.reduceEqDiff, Nat.lt_add_one]
  intro q hq
  refine c_X8i ?_
  simp only [cd_X7_init, ho, List.mem_append, r_rn0, r_rnc, r_vk0, r_vkc, r_vks, r_kci, r_kcv, r_ild, r_ald, r_lld, r_dld, r_Li, r_La, r_Ll, r_Ld, r_Ki, r_Ka, r_Kl, r_Kd, r_Kn, r_ist, r_ast, r_lst, r_dst, r_iinc, r_int, r_lng, r_dbl, r_i2, r_i1, r_l2, r_lsh, r_i2z, r_l2z, r_i2l, r_l2i, r_i2d, r_lcmp, r_ddiv, r_dcmpl, r_dup, r_dup2, r_pop, r_one_int, r_one_ref, r_go, r_if, r_ic, r_tsw, r_lsw, r_sw0, r_swc, r_lk0, r_lkc, r_kp, r_gI, r_gL, r_gR, r_pI, r_pZ, r_pL, r_pR, r_gs, r_ia, r_ca, r_za, r_la, r_da, r_aa, r_ias, r_cas, r_zas, r_las, r_das, r_aas, r_acp, r_new, r_nwa, r_nwq, r_ret, r_irt, r_zrt, r_lrt, r_drt, r_art, r_thr, r_cV0, r_cV1, r_cV2, r_cV3, r_cV4, r_cV5, r_cI0, r_cS0, r_cS1, r_cS2, r_cS3, r_cX0, r_cX1, r_cX2, r_cX3, r_rc, r_oi, r_refx, r_i10, r_i01, r_rfs, r_mem0, r_memc, r_beq, r_kl0, r_klz, r_kl1i, r_kl1r, r_kl1n, r_kl1l, r_kl1d, List.length_cons, List.length_nil, List.getElem?_cons_zero, List.getElem?_cons_succ, List.set_cons_zero, List.set_cons_succ, true_and, and_true, not_true, not_false_eq_true, false_implies, true_implies, or_true, true_or, or_false, false_or, Bool.or_false, Bool.false_or, decide_false, decide_true, Nat.reduceLT, Nat.reduceLeDiff, Nat.reduceAdd, Nat.reduceSub, ↓reduceIte, Nat.reduceEqDiff, Nat.lt_add_one]
  exact h _ _ _ q (nw_sub (nw_T (nw_new hn hq) (by simp)) (by simp)) ⟨List.mem_append_left _ ho, mz_u_eq, nw_lst⟩
theorem c_X9i {o : Nat} (hn : n_w T0 T I0 I L0 L [o]) (ho : (o, 0, 9) ∈ T.1) (h : ∀ T' I' L' c l, n_w T0 T' I0 I' L0 L' [o, c, l] → p_S T' o c l → K none T' I' L') : mz_Ctr G M_X9_init [.ref o] T I L K := by
  refine mz_ofl mk_X9_init rfl (Nat.le_of_ble_eq_true rfl) (Nat.le_of_ble_eq_true rfl) [some (.ref o)] rfl ?_
  refine mz_vc ok_X9_init [] [(), (), (), (), (), (), (), (), (), (), (), (), (), (), (), (), (), (), (), (), (), (), (), (), (), (), (), (), (), ()] ?_
  simp only [cd_X9_init, ho, List.mem_append, r_rn0, r_rnc, r_vk0, r_vkc, r_vks, r_kci, r_kcv, r_ild, r_ald, r_lld, r_dld, r_Li, r_La, r_Ll, r_Ld, r_Ki, r_Ka, r_Kl, r_Kd, r_Kn, r_ist, r_ast, r_lst, r_dst, r_iinc, r_int, r_lng, r_dbl, r_i2, r_i1, r_l2, r_lsh, r_i2z, r_l2z, r_i2l, r_l2i, r_i2d, r_lcmp, r_ddiv, r_dcmpl, r_dup, r_dup2, r_pop, r_one_int, r_one_ref, r_go, r_if, r_ic, r_tsw, r_lsw, r_sw0, r_swc, r_lk0, r_lkc, r_kp, r_gI, r_gL, r_gR, r_pI, r_pZ, r_pL, r_pR, r_gs, r_ia, r_ca, r_za, r_la, r_da, r_aa, r_ias, r_cas, r_zas, r_las, r_das, r_aas, r_acp, r_new, r_nwa, r_nwq, r_ret, r_irt, r_zrt, r_lrt, r_drt, r_art, r_thr, r_cV0, r_cV1, r_cV2, r_cV3, r_cV4, r_cV5, r_cI0, r_cS0, r_cS1, r_cS2, r_cS3, r_cX0, r_cX1, r_cX2, r_cX3, r_rc, r_oi, r_refx, r_i10, r_i01, r_rfs, r_mem0, r_memc, r_beq, r_kl0, r_klz, r_kl1i, r_kl1r, r_kl1n, r_kl1l, r_kl1d, List.length_cons, List.length_nil, List.getElem?_cons_zero, List.getElem?_cons_succ, List.set_cons_zero, List.set_cons_succ, true_and, and_true, not_true, not_false_eq_true, false_implies, true_implies, or_true, true_or, or_false, false_or, Bool.or_false, Bool.false_or, decide_false, decide_true, Nat.reduceLT, Nat.reduceLeDiff, Nat.reduceAdd, Nat.reduceSub, ↓reduceIte, Nat.reduceEqDiff, Nat.lt_add_one]
  intro q hq p hp0
  have hp : ∀ x ∈ T.1 ++ [(q, 1, 15)], x.1 ≠ p := fun x hx => hp0 x (List.mem_append.mp hx)
  have nq : q ≠ o := Ne.symm (hq _ ho)
  have m1 := nw_mem (nw_ob (c := 0) (v := 0) (w := 0) (I := I) (L := L) hq) ho
  have n9 := nw_T (a := o) (f := 9) (v := some q) (nw_new (x := (1, 15)) (v := 0) (w := 0) hn hq) (by simp)
  have n10 := nw_T (a := o) (f := 10) (v := some p) (nw_new (x := (1, 7)) (v := 0) (w := 0) n9 hp) (by simp)
  have ne : p ≠ o := Ne.symm (hp _ (List.mem_append_left _ ho))
  refine h _ _ _ q p (nw_sub n10 (by simp)) ⟨List.mem_append_left _ (List.mem_append_left _ ho), List.mem_append_left _ nw_lst, List.mem_append_right (T.1 ++ [(q, 1, 15)]) List.mem_cons_self, ?_, mz_u_eq⟩
  show mz_u (mz_z (mz_u (mz_z T.2 q none) o 9 (some q)) p none) o 10 (some p) o 9 = some q
  rw [mz_u_nk (by decide)]
  exact (congrFun (if_neg (Ne.symm ne)) 9).trans mz_u_eq
theorem nw_T2 {S : List Nat} {a : Nat} {x : Nat × Nat} (h : n_w T0 T I0 I L0 L S) (q : (a, x) ∈ T0.1) : T.2 a = T0.2 a := (h.2.1 a x q).1
theorem nw_I2 {S : List Nat} {a : Nat} {x : Nat × Nat} (h : n_w T0 T I0 I L0 L S) (q : (a, x) ∈ T0.1) : I a = I0 a := (h.2.1 a x q).2.1
theorem fd_nw {S : List Nat} {f k : Nat} (h : n_w T0 T I0 I L0 L S) (p : p_Field T0 f k) : p_Field T f k := ⟨nw_mem h p.1, nw_mem h p.2.1, by rw [nw_T2 h p.1]; exact p.2.2⟩
theorem px_nw {S : List Nat} {f k : Nat} (h : n_w T0 T I0 I L0 L S) (p : p_X T0 f k) : p_X T f k := ⟨nw_mem h p.1, by rw [nw_T2 h p.1]; exact p.2.1, nw_mem h p.2.2⟩
theorem ps_nw {S : List Nat} {s c l : Nat} (h : n_w T0 T I0 I L0 L S) (p : p_S T0 s c l) : p_S T s c l := ⟨nw_mem h p.1, nw_mem h p.2.1, nw_mem h p.2.2.1, by rw [nw_T2 h p.1]; exact p.2.2.2.1, by rw [nw_T2 h p.1]; exact p.2.2.2.2⟩
theorem ga_nw {S : List Nat} {A : z_A} (h : n_w T0 T I0 I L0 L S) (p : p_GA T0 A) : p_GA T A := by
  obtain ⟨⟨g1, g2, g3, g4, g5⟩, hf, hx, ⟨b1, b2, b3⟩, hs⟩ := p
  have e := nw_T2 h g1
  exact ⟨⟨nw_mem h g1, by rw [e]; exact g2, by rw [e]; exact g3, by rw [e]; exact g4, by rw [e]; exact g5⟩, fd_nw h hf, px_nw h hx, ⟨nw_mem h b1, nw_mem h b2, by rw [nw_T2 h b1]; exact b3⟩, ps_nw h hs⟩
/-- the same when a field of another object is set -/
theorem fd_T {f k o i : Nat} {v : Option Nat} (hne : f ≠ o) (p : p_Field T f k) : p_Field (T.1, mz_u T.2 o i v) f k := ⟨p.1, p.2.1, (congrFun (mz_u_ne hne) 0).trans p.2.2⟩
theorem px_T {f k o i : Nat} {v : Option Nat} (hne : f ≠ o) (p : p_X T f k) : p_X (T.1, mz_u T.2 o i v) f k := ⟨p.1, (congrFun (mz_u_ne hne) 0).trans p.2.1, p.2.2⟩
theorem ps_T {s c l o i : Nat} {v : Option Nat} (hne : s ≠ o) (p : p_S T s c l) : p_S (T.1, mz_u T.2 o i v) s c l := ⟨p.1, p.2.1, p.2.2.1, (congrFun (mz_u_ne hne) 9).trans p.2.2.2.1, (congrFun (mz_u_ne hne) 10).trans p.2.2.2.2⟩
theorem c_X4i {o : Nat} (hn : n_w T0 T I0 I L0 L [o]) (ho : (o, 0, 4) ∈ T.1) (h : ∀ T' I' L' A, z_A.g A = o → n_w T0 T' I0 I' L0 L' (z_A.all A) → p_GA T' A → I' o 7 = 5 → I' o 8 = 8 → K none T' I' L') : mz_Ctr G M_X4_init [.ref o] T I L K := by
  refine mz_ofl mk_X4_init rfl (Nat.le_of_ble_eq_true rfl) (Nat.le_of_ble_eq_true rfl) [some (.ref o)] rfl ?_
  refine mz_vc ok_X4_init [] [(), (), (), (), (), (), (), (), (), (), (), (), (), (), (), (), (), (), (), (), (), (), (), (), (), (), (), (), (), ()] ?_
  simp only [cd_X4_init, List.mem_append, ho, r_rn0, r_rnc, r_vk0, r_vkc, r_vks, r_kci, r_kcv, r_ild, r_ald, r_lld, r_dld, r_Li, r_La, r_Ll, r_Ld, r_Ki, r_Ka, r_Kl, r_Kd, r_Kn, r_ist, r_ast, r_lst, r_dst, r_iinc, r_int, r_lng, r_dbl, r_i2, r_i1, r_l2, r_lsh, r_i2z, r_l2z, r_i2l, r_l2i, r_i2d, r_lcmp, r_ddiv, r_dcmpl, r_dup, r_dup2, r_pop, r_one_int, r_one_ref, r_go, r_if, r_ic, r_tsw, r_lsw, r_sw0, r_swc, r_lk0, r_lkc, r_kp, r_gI, r_gL, r_gR, r_pI, r_pZ, r_pL, r_pR, r_gs, r_ia, r_ca, r_za, r_la, r_da, r_aa, r_ias, r_cas, r_zas, r_las, r_das, r_aas, r_acp, r_new, r_nwa, r_nwq, r_ret, r_irt, r_zrt, r_lrt, r_drt, r_art, r_thr, r_cV0, r_cV1, r_cV2, r_cV3, r_cV4, r_cV5, r_cI0, r_cS0, r_cS1, r_cS2, r_cS3, r_cX0, r_cX1, r_cX2, r_cX3, r_rc, r_oi, r_refx, r_i10, r_i01, r_rfs, r_mem0, r_memc, r_beq, r_kl0, r_klz, r_kl1i, r_kl1r, r_kl1n, r_kl1l, r_kl1d, List.length_cons, List.length_nil, List.getElem?_cons_zero, List.getElem?_cons_succ, List.set_cons_zero, List.set_cons_succ, true_and, and_true, not_true, not_false_eq_true, false_implies, true_implies, or_true, true_or, or_false, false_or, Bool.or_false, Bool.false_or, decide_false, decide_true, Nat.reduceLT, Nat.reduceLeDiff, Nat.reduceAdd, Nat.reduceSub, ↓reduceIte, Nat.reduceEqDiff, Nat.lt_add_one]
  intro q hq
  have nq : q ≠ o := Ne.symm (hq _ ho)
  refine c_X2i (nw_ob hq) nw_lst (fun T1 I1 L1 k n1 pf _ => ?_)
  have N1 := nw_T (f := 0) (v := some q) (nw_tr hn n1) (a := o) (by simp)
  have ho1 := nw_mem n1 ho
  have pf1 := fd_T (i := 0) (v := some q) nq pf
  have r1 : mz_u T1.2 o 0 (some q) o 0 = some q := mz_u_eq
  simp only [cd_X4_init, List.mem_append, ho1, r_rn0, r_rnc, r_vk0, r_vkc, r_vks, r_kci, r_kcv, r_ild, r_ald, r_lld, r_dld, r_Li, r_La, r_Ll, r_Ld, r_Ki, r_Ka, r_Kl, r_Kd, r_Kn, r_ist, r_ast, r_lst, r_dst, r_iinc, r_int, r_lng, r_dbl, r_i2, r_i1, r_l2, r_lsh, r_i2z, r_l2z, r_i2l, r_l2i, r_i2d, r_lcmp, r_ddiv, r_dcmpl, r_dup, r_dup2, r_pop, r_one_int, r_one_ref, r_go, r_if, r_ic, r_tsw, r_lsw, r_sw0, r_swc, r_lk0, r_lkc, r_kp, r_gI, r_gL, r_gR, r_pI, r_pZ, r_pL, r_pR, r_gs, r_ia, r_ca, r_za, r_la, r_da, r_aa, r_ias, r_cas, r_zas, r_las, r_das, r_aas, r_acp, r_new, r_nwa, r_nwq, r_ret, r_irt, r_zrt, r_lrt, r_drt, r_art, r_thr, r_cV0, r_cV1, r_cV2, r_cV3, r_cV4, r_cV5, r_cI0, r_cS0, r_cS1, r_cS2, r_cS3, r_cX0, r_cX1, r_cX2, r_cX3, r_rc, r_oi, r_refx, r_i10, r_i01, r_rfs, r_mem0, r_memc, r_beq, r_kl0, r_klz, r_kl1i, r_kl1r, r_kl1n, r_kl1l, r_kl1d, List.length_cons, List.length_nil, List.getElem?_cons_zero, List.getElem?_cons_succ, List.set_cons_zero, List.set_cons_succ, true_and, and_true, not_true, not_false_eq_true, false_implies, true_implies, or_true, true_or, or_false, false_or, Bool.or_false, Bool.false_or, decide_false, decide_true, Nat.reduceLT, Nat.reduceLeDiff, Nat.reduceAdd, Nat.reduceSub, ↓reduceIte, Nat.reduceEqDiff, Nat.lt_add_one]
  intro x hx
  have nx : x ≠ o := Ne.symm (hx _ ho1)
  refine c_X7i (nw_ob (T := (T1.1, mz_u T1.2 o 0 (some q))) hx) nw_lst (fun T2 I2 L2 p n2 px => ?_)
  have N2 := nw_T (f := 1) (v := some x) (nw_tr N1 n2) (a := o) (by simp)
  have ho2 := nw_mem n2 ho1
  have pf2 := fd_T (i := 1) (v := some x) nq (fd_nw n2 pf1)
  have px2 := px_T (i := 1) (v := some x) nx px
  have r2 : mz_u T2.2 o 1 (some x) o 0 = some q ∧ mz_u T2.2 o 1 (some x) o 1 = some x := ⟨by rw [mz_u_nk (by decide), nw_T2 n2 ho1]; exact r1, mz_u_eq⟩
  simp only [cd_X4_init, List.mem_append, ho2, r_rn0, r_rnc, r_vk0, r_vkc, r_vks, r_kci, r_kcv, r_ild, r_ald, r_lld, r_dld, r_Li, r_La, r_Ll, r_Ld, r_Ki, r_Ka, r_Kl, r_Kd, r_Kn, r_ist, r_ast, r_lst, r_dst, r_iinc, r_int, r_lng, r_dbl, r_i2, r_i1, r_l2, r_lsh, r_i2z, r_l2z, r_i2l, r_l2i, r_i2d, r_lcmp, r_ddiv, r_dcmpl, r_dup, r_dup2, r_pop, r_one_int, r_one_ref, r_go, r_if, r_ic, r_tsw, r_lsw, r_sw0, r_swc, r_lk0, r_lkc, r_kp, r_gI, r_gL, r_gR, r_pI, r_pZ, r_pL, r_pR, r_gs, r_ia, r_ca, r_za, r_la, r_da, r_aa, r_ias, r_cas, r_zas, r_las, r_das, r_aas, r_acp, r_new, r_nwa, r_nwq, r_ret, r_irt, r_zrt, r_lrt, r_drt, r_art, r_thr, r_cV0, r_cV1, r_cV2, r_cV3, r_cV4, r_cV5, r_cI0, r_cS0, r_cS1, r_cS2, r_cS3, r_cX0, r_cX1, r_cX2, r_cX3, r_rc, r_oi, r_refx, r_i10, r_i01, r_rfs, r_mem0, r_memc, r_beq, r_kl0, r_klz, r_kl1i, r_kl1r, r_kl1n, r_kl1l, r_kl1d, List.length_cons, List.length_nil, List.getElem?_cons_zero, List.getElem?_cons_succ, List.set_cons_zero, List.set_cons_succ, true_and, and_true, not_true, not_false_eq_true, false_implies, true_implies, or_true, true_or, or_false, false_or, Bool.or_false, Bool.false_or, decide_false, decide_true, Nat.reduceLT, Nat.reduceLeDiff, Nat.reduceAdd, Nat.reduceSub, ↓reduceIte, Nat.reduceEqDiff, Nat.lt_add_one]
  intro b hb
  have nb : b ≠ o := Ne.symm (hb _ ho2)
  refine c_X0i (nw_ob (T := (T2.1, mz_u T2.2 o 1 (some x))) hb) nw_lst (fun T3 I3 L3 v n3 b1 b2 b3 => ?_)
  have N3 := nw_T (f := 2) (v := some b) (nw_tr N2 n3) (a := o) (by simp)
  have ho3 := nw_mem n3 ho2
  have pf3 := fd_T (i := 2) (v := some b) nq (fd_nw n3 pf2)
  have px3 := px_T (i := 2) (v := some b) nx (px_nw n3 px2)
  have b33 : mz_u T3.2 o 2 (some b) b 0 = some v := (congrFun (mz_u_ne nb) 0).trans b3
  have r3 : mz_u T3.2 o 2 (some b) o 0 = some q ∧ mz_u T3.2 o 2 (some b) o 1 = some x ∧ mz_u T3.2 o 2 (some b) o 2 = some b := ⟨by rw [mz_u_nk (by decide), nw_T2 n3 ho2]; exact r2.1, by rw [mz_u_nk (by decide), nw_T2 n3 ho2]; exact r2.2, mz_u_eq⟩
  simp only [cd_X4_init, List.mem_append, ho3, r_rn0, r_rnc, r_vk0, r_vkc, r_vks, r_kci, r_kcv, r_ild, r_ald, r_lld, r_dld, r_Li, r_La, r_Ll, r_Ld, r_Ki, r_Ka, r_Kl, r_Kd, r_Kn, r_ist, r_ast, r_lst, r_dst, r_iinc, r_int, r_lng, r_dbl, r_i2, r_i1, r_l2, r_lsh, r_i2z, r_l2z, r_i2l, r_l2i, r_i2d, r_lcmp, r_ddiv, r_dcmpl, r_dup, r_dup2, r_pop, r_one_int, r_one_ref, r_go, r_if, r_ic, r_tsw, r_lsw, r_sw0, r_swc, r_lk0, r_lkc, r_kp, r_gI, r_gL, r_gR, r_pI, r_pZ, r_pL, r_pR, r_gs, r_ia, r_ca, r_za, r_la, r_da, r_aa, r_ias, r_cas, r_zas, r_las, r_das, r_aas, r_acp, r_new, r_nwa, r_nwq, r_ret, r_irt, r_zrt, r_lrt, r_drt, r_art, r_thr, r_cV0, r_cV1, r_cV2, r_cV3, r_cV4, r_cV5, r_cI0, r_cS0, r_cS1, r_cS2, r_cS3, r_cX0, r_cX1, r_cX2, r_cX3, r_rc, r_oi, r_refx, r_i10, r_i01, r_rfs, r_mem0, r_memc, r_beq, r_kl0, r_klz, r_kl1i, r_kl1r, r_kl1n, r_kl1l, r_kl1d, List.length_cons, List.length_nil, List.getElem?_cons_zero, List.getElem?_cons_succ, List.set_cons_zero, List.set_cons_succ, true_and, and_true, not_true, not_false_eq_true, false_implies, true_implies, or_true, true_or, or_false, false_or, Bool.or_false, Bool.false_or, decide_false, decide_true, Nat.reduceLT, Nat.reduceLeDiff, Nat.reduceAdd, Nat.reduceSub, ↓reduceIte, Nat.reduceEqDiff, Nat.lt_add_one]
  intro s hs
  have ns : s ≠ o := Ne.symm (hs _ ho3)
  refine c_X9i (nw_ob (T := (T3.1, mz_u T3.2 o 2 (some b))) hs) nw_lst (fun T4 I4 L4 c l n4 ps => ?_)
  have N4 := nw_T (f := 3) (v := some s) (nw_tr N3 n4) (a := o) (by simp)
  have ho4 := nw_mem n4 ho3
  have b4 := nw_mem n4 (T0 := (T3.1, mz_u T3.2 o 2 (some b))) b1
  have b5 := nw_mem n4 (T0 := (T3.1, mz_u T3.2 o 2 (some b))) b2
  simp only [cd_X4_init, List.mem_append, ho4, r_rn0, r_rnc, r_vk0, r_vkc, r_vks, r_kci, r_kcv, r_ild, r_ald, r_lld, r_dld, r_Li, r_La, r_Ll, r_Ld, r_Ki, r_Ka, r_Kl, r_Kd, r_Kn, r_ist, r_ast, r_lst, r_dst, r_iinc, r_int, r_lng, r_dbl, r_i2, r_i1, r_l2, r_lsh, r_i2z, r_l2z, r_i2l, r_l2i, r_i2d, r_lcmp, r_ddiv, r_dcmpl, r_dup, r_dup2, r_pop, r_one_int, r_one_ref, r_go, r_if, r_ic, r_tsw, r_lsw, r_sw0, r_swc, r_lk0, r_lkc, r_kp, r_gI, r_gL, r_gR, r_pI, r_pZ, r_pL, r_pR, r_gs, r_ia, r_ca, r_za, r_la, r_da, r_aa, r_ias, r_cas, r_zas, r_las, r_das, r_aas, r_acp, r_new, r_nwa, r_nwq, r_ret, r_irt, r_zrt, r_lrt, r_drt, r_art, r_thr, r_cV0, r_cV1, r_cV2, r_cV3, r_cV4, r_cV5, r_cI0, r_cS0, r_cS1, r_cS2, r_cS3, r_cX0, r_cX1, r_cX2, r_cX3, r_rc, r_oi, r_refx, r_i10, r_i01, r_rfs, r_mem0, r_memc, r_beq, r_kl0, r_klz, r_kl1i, r_kl1r, r_kl1n, r_kl1l, r_kl1d, List.length_cons, List.length_nil, List.getElem?_cons_zero, List.getElem?_cons_succ, List.set_cons_zero, List.set_cons_succ, true_and, and_true, not_true, not_false_eq_true, false_implies, true_implies, or_true, true_or, or_false, false_or, Bool.or_false, Bool.false_or, decide_false, decide_true, Nat.reduceLT, Nat.reduceLeDiff, Nat.reduceAdd, Nat.reduceSub, ↓reduceIte, Nat.reduceEqDiff, Nat.lt_add_one]
  refine h _ _ _ (fun j => [o, q, k, x, p, b, v, s, c, l].getD j 0) rfl ?_ ⟨⟨ho4, ?_, ?_, ?_, ?_⟩, ?_, ?_, ⟨b4, ?_, ?_⟩, ?_⟩ ?_ ?_
  · refine nw_sub (nw_I (nw_I (nw_I N4 (by simp)) (by simp)) (by simp)) ?_
    intro a ha
    simp only [z_A.all, z_A.g, z_A.f, z_A.k, z_A.x, z_A.p, z_A.b, z_A.v, z_A.s, z_A.c, z_A.l, List.getD_cons_zero, List.getD_cons_succ, List.mem_cons, List.not_mem_nil, or_false] at ha
    simp only [List.mem_append, List.mem_cons, List.not_mem_nil, or_false]
    omega
  · show mz_u T4.2 o 3 (some s) o 0 = some q
    rw [mz_u_nk (by decide), nw_T2 n4 ho3]; exact r3.1
  · show mz_u T4.2 o 3 (some s) o 1 = some x
    rw [mz_u_nk (by decide), nw_T2 n4 ho3]; exact r3.2.1
  · show mz_u T4.2 o 3 (some s) o 2 = some b
    rw [mz_u_nk (by decide), nw_T2 n4 ho3]; exact r3.2.2
  · exact mz_u_eq
  · exact fd_T nq (fd_nw n4 pf3)
  · exact px_T nx (px_nw n4 px3)
  · exact b5
  · show mz_u T4.2 o 3 (some s) b 0 = some v
    rw [mz_u_ne nb, nw_T2 n4 (T0 := (T3.1, mz_u T3.2 o 2 (some b))) b1]; exact b33
  · exact ps_T ns ps
  · rw [mz_u_nk (by decide), mz_u_eq]
  · exact mz_u_eq
end CON
