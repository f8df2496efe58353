/-! the constructors: finesse, search, text -/
section CON3
variable {G : mz_G} {K : mz_K} {X : mz_X} {T : mz_T} {I : mz_I} {L : mz_L} {T0 : mz_T} {I0 : mz_I} {L0 : mz_L}
theorem f_tab448 : f_TAB.length = 448 := by decide +kernel
theorem f_valT {kd j : Nat} (hk : kd < 7) (hj : j < 64) : f_val (f_fin kd) j = f_lt (64 * kd + j) := by
  rw [f_tabT kd hk j hj]
  unfold f_lt
  have hl : 64 * kd + j < f_TAB.length := by rw [f_tab448]; omega
  rw [List.getD_eq_getElem?_getD, List.getD_eq_getElem?_getD, List.getElem?_eq_getElem hl]; rfl
theorem w_X3l {o lt qu op ok ap : Nat} {c : mz_N} (hS : p_FS T o lt qu op ok ap) (hok : ok ∉ [o, lt, qu, ap])
    (fin : ∀ I', fr I0 I' [o, lt, qu, ap] → (∀ j, j < 448 → I' lt j = f_lt j) → K none T I' L) : ∀ k kd : Nat, kd + k = 7 → ∀ I1, fr I0 I1 [o, lt, qu, ap] → (∀ i, i < 220 → I1 ok i = -1) → (∀ j, j < 64 * kd → I1 lt j = f_lt j) → (∀ j, 64 * kd ≤ j → j < 448 → I1 lt j = -1) → mz_W G M_X3_init K mz_nX 53 [some (.ref o), some (.int (zI kd))] [] T I1 L c := by
  obtain ⟨s1, -⟩ := id hS
  intro k
  induction k with
  | zero =>
    intro kd hk I1 f a1 a2 a3
    have hk : kd = 7 := by omega
    subst hk
    refine mz_vc ok_X3_init [53] [(), (), (), (), (), (), (), (), (), (), (), (), (), (), (), (), (), (), (), (), (), (), (), (), (), (), (), (), (), ()] ?_
    simp only [cd_X3_init, s1, r_rn0, r_rnc, r_vk0, r_vkc, r_vks, r_kci, r_kcv, r_ild, r_ald, r_lld, r_dld, r_Li, r_La, r_Ll, r_Ld, r_Ki, r_Ka, r_Kl, r_Kd, r_Kn, r_ist, r_ast, r_lst, r_dst, r_iinc, r_int, r_lng, r_dbl, r_i2, r_i1, r_l2, r_lsh, r_i2z, r_l2z, r_i2l, r_l2i, r_i2d, r_lcmp, r_ddiv, r_dcmpl, r_dup, r_dup2, r_pop, r_one_int, r_one_ref, r_go, r_if, r_ic, r_tsw, r_lsw, r_sw0, r_swc, r_lk0, r_lkc, r_kp, r_gI, r_gL, r_gR, r_pI, r_pZ, r_pL, r_pR, r_gs, r_ia, r_ca, r_za, r_la, r_da, r_aa, r_ias, r_cas, r_zas, r_las, r_das, r_aas, r_acp, r_new, r_nwa, r_nwq, r_ret, r_irt, r_zrt, r_lrt, r_drt, r_art, r_thr, r_cV0, r_cV1, r_cV2, r_cV3, r_cV4, r_cV5, r_cI0, r_cS0, r_cS1, r_cS2, r_cS3, r_cX0, r_cX1, r_cX2, r_cX3, r_rc, r_oi, r_refx, r_i10, r_i01, r_rfs, r_mem0, r_memc, r_beq, r_kl0, r_klz, r_kl1i, r_kl1r, r_kl1n, r_kl1l, r_kl1d, List.length_cons, List.length_nil, List.getElem?_cons_zero, List.getElem?_cons_succ, List.set_cons_zero, List.set_cons_succ, true_and, and_true, not_true, not_false_eq_true, false_implies, true_implies, or_true, true_or, or_false, false_or, Bool.or_false, Bool.false_or, decide_false, decide_true, Nat.reduceLT, Nat.reduceLeDiff, Nat.reduceAdd, Nat.reduceSub, ↓reduceIte, Nat.reduceEqDiff, Nat.lt_add_one]
    exact ⟨fun _ => fin I1 f a2, fun v => absurd (by decide) v⟩
  | succ k ih =>
    intro kd hk I1 f a1 a2 a3
    refine mz_vc ok_X3_init [53] [(), (), (), (), (), (), (), (), (), (), (), (), (), (), (), (), (), (), (), (), (), (), (), (), (), (), (), (), (), ()] ?_
    simp only [cd_X3_init, s1, r_rn0, r_rnc, r_vk0, r_vkc, r_vks, r_kci, r_kcv, r_ild, r_ald, r_lld, r_dld, r_Li, r_La, r_Ll, r_Ld, r_Ki, r_Ka, r_Kl, r_Kd, r_Kn, r_ist, r_ast, r_lst, r_dst, r_iinc, r_int, r_lng, r_dbl, r_i2, r_i1, r_l2, r_lsh, r_i2z, r_l2z, r_i2l, r_l2i, r_i2d, r_lcmp, r_ddiv, r_dcmpl, r_dup, r_dup2, r_pop, r_one_int, r_one_ref, r_go, r_if, r_ic, r_tsw, r_lsw, r_sw0, r_swc, r_lk0, r_lkc, r_kp, r_gI, r_gL, r_gR, r_pI, r_pZ, r_pL, r_pR, r_gs, r_ia, r_ca, r_za, r_la, r_da, r_aa, r_ias, r_cas, r_zas, r_las, r_das, r_aas, r_acp, r_new, r_nwa, r_nwq, r_ret, r_irt, r_zrt, r_lrt, r_drt, r_art, r_thr, r_cV0, r_cV1, r_cV2, r_cV3, r_cV4, r_cV5, r_cI0, r_cS0, r_cS1, r_cS2, r_cS3, r_cX0, r_cX1, r_cX2, r_cX3, r_rc, r_oi, r_refx, r_i10, r_i01, r_rfs, r_mem0, r_memc, r_beq, r_kl0, r_klz, r_kl1i, r_kl1r, r_kl1n, r_kl1l, r_kl1d, List.length_cons, List.length_nil, List.getElem?_cons_zero, List.getElem?_cons_succ, List.set_cons_zero, List.set_cons_succ, true_and, and_true, not_true, not_false_eq_true, false_implies, true_implies, or_true, true_or, or_false, false_or, Bool.or_false, Bool.false_or, decide_false, decide_true, Nat.reduceLT, Nat.reduceLeDiff, Nat.reduceAdd, Nat.reduceSub, ↓reduceIte, Nat.reduceEqDiff, Nat.lt_add_one]
    refine ⟨z_no (b := 7) (by omega) (by omega) (by omega), fun _ => ?_⟩
    refine c_exploreF hS (by omega) a1 hok (fun j hj => a3 _ (by omega) (by omega)) (fun I' f2 b1 b2 => ?_)
    simp only [cd_X3_init, s1, r_rn0, r_rnc, r_vk0, r_vkc, r_vks, r_kci, r_kcv, r_ild, r_ald, r_lld, r_dld, r_Li, r_La, r_Ll, r_Ld, r_Ki, r_Ka, r_Kl, r_Kd, r_Kn, r_ist, r_ast, r_lst, r_dst, r_iinc, r_int, r_lng, r_dbl, r_i2, r_i1, r_l2, r_lsh, r_i2z, r_l2z, r_i2l, r_l2i, r_i2d, r_lcmp, r_ddiv, r_dcmpl, r_dup, r_dup2, r_pop, r_one_int, r_one_ref, r_go, r_if, r_ic, r_tsw, r_lsw, r_sw0, r_swc, r_lk0, r_lkc, r_kp, r_gI, r_gL, r_gR, r_pI, r_pZ, r_pL, r_pR, r_gs, r_ia, r_ca, r_za, r_la, r_da, r_aa, r_ias, r_cas, r_zas, r_las, r_das, r_aas, r_acp, r_new, r_nwa, r_nwq, r_ret, r_irt, r_zrt, r_lrt, r_drt, r_art, r_thr, r_cV0, r_cV1, r_cV2, r_cV3, r_cV4, r_cV5, r_cI0, r_cS0, r_cS1, r_cS2, r_cS3, r_cX0, r_cX1, r_cX2, r_cX3, r_rc, r_oi, r_refx, r_i10, r_i01, r_rfs, r_mem0, r_memc, r_beq, r_kl0, r_klz, r_kl1i, r_kl1r, r_kl1n, r_kl1l, r_kl1d, List.length_cons, List.length_nil, List.getElem?_cons_zero, List.getElem?_cons_succ, List.set_cons_zero, List.set_cons_succ, true_and, and_true, not_true, not_false_eq_true, false_implies, true_implies, or_true, true_or, or_false, false_or, Bool.or_false, Bool.false_or, decide_false, decide_true, Nat.reduceLT, Nat.reduceLeDiff, Nat.reduceAdd, Nat.reduceSub, ↓reduceIte, Nat.reduceEqDiff, Nat.lt_add_one]
    rw [z_1]
    refine ih (kd + 1) (by omega) I' (fr_tr f f2 (fun _ q => q) (fun _ q => q)) (fun i hi => by rw [f2 _ hok]; exact a1 i hi) (fun j hj => ?_) (fun j h1 h2 => ?_)
    · by_cases z : j < 64 * kd
      · rw [b2 j (by omega) (by omega)]; exact a2 j z
      · have := b1 (j - 64 * kd) (by omega)
        rw [show 64 * kd + (j - 64 * kd) = j by omega, f_valT (by omega) (by omega), show 64 * kd + (j - 64 * kd) = j by omega] at this
        exact this
    · rw [b2 j h2 (by omega)]; exact a3 j (by omega) h2
theorem c_X3i {o : Nat} (hn : n_w T0 T I0 I L0 L [o]) (ho : (o, 0, 3) ∈ T.1) (h : ∀ T' I' L' lt, n_w T0 T' I0 I' L0 L' [o] → (o, 0, 3) ∈ T'.1 → T'.2 o 0 = some lt → (lt, 1, 448) ∈ T'.1 → (∀ j, j < 448 → I' lt j = f_lt j) → K none T' I' L') : mz_Ctr G M_X3_init [.ref o] T I L K := by
  refine mz_ofl mk_X3_init rfl (Nat.le_of_ble_eq_true rfl) (Nat.le_of_ble_eq_true rfl) [some (.ref o), none] rfl ?_
  refine mz_vc ok_X3_init [53] [(), (), (), (), (), (), (), (), (), (), (), (), (), (), (), (), (), (), (), (), (), (), (), (), (), (), (), (), (), ()] ?_
  simp only [cd_X3_init, List.mem_append, ho, r_rn0, r_rnc, r_vk0, r_vkc, r_vks, r_kci, r_kcv, r_ild, r_ald, r_lld, r_dld, r_Li, r_La, r_Ll, r_Ld, r_Ki, r_Ka, r_Kl, r_Kd, r_Kn, r_ist, r_ast, r_lst, r_dst, r_iinc, r_int, r_lng, r_dbl, r_i2, r_i1, r_l2, r_lsh, r_i2z, r_l2z, r_i2l, r_l2i, r_i2d, r_lcmp, r_ddiv, r_dcmpl, r_dup, r_dup2, r_pop, r_one_int, r_one_ref, r_go, r_if, r_ic, r_tsw, r_lsw, r_sw0, r_swc, r_lk0, r_lkc, r_kp, r_gI, r_gL, r_gR, r_pI, r_pZ, r_pL, r_pR, r_gs, r_ia, r_ca, r_za, r_la, r_da, r_aa, r_ias, r_cas, r_zas, r_las, r_das, r_aas, r_acp, r_new, r_nwa, r_nwq, r_ret, r_irt, r_zrt, r_lrt, r_drt, r_art, r_thr, r_cV0, r_cV1, r_cV2, r_cV3, r_cV4, r_cV5, r_cI0, r_cS0, r_cS1, r_cS2, r_cS3, r_cX0, r_cX1, r_cX2, r_cX3, r_rc, r_oi, r_refx, r_i10, r_i01, r_rfs, r_mem0, r_memc, r_beq, r_kl0, r_klz, r_kl1i, r_kl1r, r_kl1n, r_kl1l, r_kl1d, List.length_cons, List.length_nil, List.getElem?_cons_zero, List.getElem?_cons_succ, List.set_cons_zero, List.set_cons_succ, true_and, and_true, not_true, not_false_eq_true, false_implies, true_implies, or_true, true_or, or_false, false_or, Bool.or_false, Bool.false_or, decide_false, decide_true, Nat.reduceLT, Nat.reduceLeDiff, Nat.reduceAdd, Nat.reduceSub, ↓reduceIte, Nat.reduceEqDiff, Nat.lt_add_one]
  intro lt hlt
  have nlt : lt ≠ o := Ne.symm (hlt _ ho)
  have n1 := nw_T (a := o) (f := 0) (v := some lt) (nw_new (x := (1, 448)) (v := 0) (w := 0) hn hlt) (by simp)
  have hO1 : (o, 0, 3) ∈ T.1 ++ [(lt, 1, 448)] := List.mem_append_left _ ho
  intro qu hqu0
  have hqu : ∀ x ∈ T.1 ++ [(lt, 1, 448)], x.1 ≠ qu := fun x hx => hqu0 x (List.mem_append.mp hx)
  have nqu : qu ≠ o := Ne.symm (hqu _ hO1)
  have n2 := nw_T (a := o) (f := 1) (v := some qu) (nw_new (x := (1, 64)) (v := 0) (w := 0) n1 hqu) (by simp)
  have hO2 : (o, 0, 3) ∈ T.1 ++ [(lt, 1, 448)] ++ [(qu, 1, 64)] := List.mem_append_left _ hO1
  have e1 : mz_u (mz_z (mz_u (mz_z T.2 lt none) o 0 (some lt)) qu none) o 1 (some qu) o 0 = some lt := by
    rw [mz_u_nk (by decide)]
    exact (congrFun (if_neg (Ne.symm nqu)) 0).trans mz_u_eq
  intro op hop0
  have hop : ∀ x ∈ T.1 ++ [(lt, 1, 448)] ++ [(qu, 1, 64)], x.1 ≠ op := fun x hx => hop0 x (by simp only [List.mem_append] at hx; exact hx)
  have nop : op ≠ o := Ne.symm (hop _ hO2)
  have m2 : (lt, 1, 448) ∈ T.1 ++ [(lt, 1, 448)] ++ [(qu, 1, 64)] := List.mem_append_left _ nw_lst
  have m3 : (qu, 1, 64) ∈ T.1 ++ [(lt, 1, 448)] ++ [(qu, 1, 64)] := nw_lst
  have e2 : mz_u (mz_z (mz_u (mz_z T.2 lt none) o 0 (some lt)) qu none) o 1 (some qu) o 1 = some qu := mz_u_eq
  have eI : mz_z (mz_z I lt 0) qu 0 = mz_z (mz_z I lt 0) qu 0 := rfl
  revert n2 hO2 hop m2 m3 e1 e2
  generalize T.1 ++ [(lt, 1, 448)] ++ [(qu, 1, 64)] = TA
  generalize mz_u (mz_z (mz_u (mz_z T.2 lt none) o 0 (some lt)) qu none) o 1 (some qu) = TB
  generalize mz_z (mz_z I lt 0) qu 0 = I2
  generalize mz_z (mz_z L lt 0) qu 0 = L2
  intro n2 hO2 e1 hop m2 m3 e2
  have n2 : n_w T0 (TA, TB) I0 I2 L0 L2 [qu, lt, o] := n2
  refine c_X2i (nw_ob (T := (TA, TB)) hop) nw_lst (fun T3 I3 L3 ok n3 pf pv => ?_)
  have hO3 := nw_mem (T0 := (TA, TB)) n3 hO2
  have r3 := nw_T2 (T0 := (TA, TB)) n3 hO2
  have m2' := m2
  have m3' := m3
  have m2 := nw_mem (T0 := (TA, TB)) n3 m2
  have m3 := nw_mem (T0 := (TA, TB)) n3 m3
  have N3 := nw_T (a := o) (f := 2) (v := some op) (nw_tr n2 n3) (by simp)
  have pf3 := fd_T (o := o) (i := 2) (v := some op) nop pf
  have e13 : mz_u T3.2 o 2 (some op) o 0 = some lt := by rw [mz_u_nk (by decide), r3]; exact e1
  have e23 : mz_u T3.2 o 2 (some op) o 1 = some qu := by rw [mz_u_nk (by decide), r3]; exact e2
  have e33 : mz_u T3.2 o 2 (some op) o 2 = some op := mz_u_eq
  simp only [cd_X3_init, List.mem_append, hO3, r_rn0, r_rnc, r_vk0, r_vkc, r_vks, r_kci, r_kcv, r_ild, r_ald, r_lld, r_dld, r_Li, r_La, r_Ll, r_Ld, r_Ki, r_Ka, r_Kl, r_Kd, r_Kn, r_ist, r_ast, r_lst, r_dst, r_iinc, r_int, r_lng, r_dbl, r_i2, r_i1, r_l2, r_lsh, r_i2z, r_l2z, r_i2l, r_l2i, r_i2d, r_lcmp, r_ddiv, r_dcmpl, r_dup, r_dup2, r_pop, r_one_int, r_one_ref, r_go, r_if, r_ic, r_tsw, r_lsw, r_sw0, r_swc, r_lk0, r_lkc, r_kp, r_gI, r_gL, r_gR, r_pI, r_pZ, r_pL, r_pR, r_gs, r_ia, r_ca, r_za, r_la, r_da, r_aa, r_ias, r_cas, r_zas, r_las, r_das, r_aas, r_acp, r_new, r_nwa, r_nwq, r_ret, r_irt, r_zrt, r_lrt, r_drt, r_art, r_thr, r_cV0, r_cV1, r_cV2, r_cV3, r_cV4, r_cV5, r_cI0, r_cS0, r_cS1, r_cS2, r_cS3, r_cX0, r_cX1, r_cX2, r_cX3, r_rc, r_oi, r_refx, r_i10, r_i01, r_rfs, r_mem0, r_memc, r_beq, r_kl0, r_klz, r_kl1i, r_kl1r, r_kl1n, r_kl1l, r_kl1d, List.length_cons, List.length_nil, List.getElem?_cons_zero, List.getElem?_cons_succ, List.set_cons_zero, List.set_cons_succ, true_and, and_true, not_true, not_false_eq_true, false_implies, true_implies, or_true, true_or, or_false, false_or, Bool.or_false, Bool.false_or, decide_false, decide_true, Nat.reduceLT, Nat.reduceLeDiff, Nat.reduceAdd, Nat.reduceSub, ↓reduceIte, Nat.reduceEqDiff, Nat.lt_add_one]
  intro ap hap
  have nap : ap ≠ o := Ne.symm (hap _ hO3)
  have N4 := nw_T (a := o) (f := 3) (v := some ap) (nw_new (x := (0, 8)) (v := 0) (w := 0) N3 hap) (by simp)
  refine c_X8i ?_
  have eo : ∀ i, mz_z (mz_u T3.2 o 2 (some op)) ap none o i = mz_u T3.2 o 2 (some op) o i := fun i => congrFun (if_neg (Ne.symm nap)) i
  have e0 : mz_u (mz_z (mz_u T3.2 o 2 (some op)) ap none) o 3 (some ap) o 0 = some lt := by rw [mz_u_nk (by decide), eo]; exact e13
  have hO4 : (o, 0, 3) ∈ T3.1 ++ [(ap, 0, 8)] := List.mem_append_left _ hO3
  simp only [cd_X3_init, List.mem_append, hO3, e0, r_rn0, r_rnc, r_vk0, r_vkc, r_vks, r_kci, r_kcv, r_ild, r_ald, r_lld, r_dld, r_Li, r_La, r_Ll, r_Ld, r_Ki, r_Ka, r_Kl, r_Kd, r_Kn, r_ist, r_ast, r_lst, r_dst, r_iinc, r_int, r_lng, r_dbl, r_i2, r_i1, r_l2, r_lsh, r_i2z, r_l2z, r_i2l, r_l2i, r_i2d, r_lcmp, r_ddiv, r_dcmpl, r_dup, r_dup2, r_pop, r_one_int, r_one_ref, r_go, r_if, r_ic, r_tsw, r_lsw, r_sw0, r_swc, r_lk0, r_lkc, r_kp, r_gI, r_gL, r_gR, r_pI, r_pZ, r_pL, r_pR, r_gs, r_ia, r_ca, r_za, r_la, r_da, r_aa, r_ias, r_cas, r_zas, r_las, r_das, r_aas, r_acp, r_new, r_nwa, r_nwq, r_ret, r_irt, r_zrt, r_lrt, r_drt, r_art, r_thr, r_cV0, r_cV1, r_cV2, r_cV3, r_cV4, r_cV5, r_cI0, r_cS0, r_cS1, r_cS2, r_cS3, r_cX0, r_cX1, r_cX2, r_cX3, r_rc, r_oi, r_refx, r_i10, r_i01, r_rfs, r_mem0, r_memc, r_beq, r_kl0, r_klz, r_kl1i, r_kl1r, r_kl1n, r_kl1l, r_kl1d, List.length_cons, List.length_nil, List.getElem?_cons_zero, List.getElem?_cons_succ, List.set_cons_zero, List.set_cons_succ, true_and, and_true, not_true, not_false_eq_true, false_implies, true_implies, or_true, true_or, or_false, false_or, Bool.or_false, Bool.false_or, decide_false, decide_true, Nat.reduceLT, Nat.reduceLeDiff, Nat.reduceAdd, Nat.reduceSub, ↓reduceIte, Nat.reduceEqDiff, Nat.lt_add_one]
  have m4 : (lt, 1, 448) ∈ T3.1 ++ [(ap, 0, 8)] := List.mem_append_left _ m2
  refine c_fill (N := 448) m4 (by decide) ?_
  simp only [cd_X3_init, List.mem_append, r_rn0, r_rnc, r_vk0, r_vkc, r_vks, r_kci, r_kcv, r_ild, r_ald, r_lld, r_dld, r_Li, r_La, r_Ll, r_Ld, r_Ki, r_Ka, r_Kl, r_Kd, r_Kn, r_ist, r_ast, r_lst, r_dst, r_iinc, r_int, r_lng, r_dbl, r_i2, r_i1, r_l2, r_lsh, r_i2z, r_l2z, r_i2l, r_l2i, r_i2d, r_lcmp, r_ddiv, r_dcmpl, r_dup, r_dup2, r_pop, r_one_int, r_one_ref, r_go, r_if, r_ic, r_tsw, r_lsw, r_sw0, r_swc, r_lk0, r_lkc, r_kp, r_gI, r_gL, r_gR, r_pI, r_pZ, r_pL, r_pR, r_gs, r_ia, r_ca, r_za, r_la, r_da, r_aa, r_ias, r_cas, r_zas, r_las, r_das, r_aas, r_acp, r_new, r_nwa, r_nwq, r_ret, r_irt, r_zrt, r_lrt, r_drt, r_art, r_thr, r_cV0, r_cV1, r_cV2, r_cV3, r_cV4, r_cV5, r_cI0, r_cS0, r_cS1, r_cS2, r_cS3, r_cX0, r_cX1, r_cX2, r_cX3, r_rc, r_oi, r_refx, r_i10, r_i01, r_rfs, r_mem0, r_memc, r_beq, r_kl0, r_klz, r_kl1i, r_kl1r, r_kl1n, r_kl1l, r_kl1d, List.length_cons, List.length_nil, List.getElem?_cons_zero, List.getElem?_cons_succ, List.set_cons_zero, List.set_cons_succ, true_and, and_true, not_true, not_false_eq_true, false_implies, true_implies, or_true, true_or, or_false, false_or, Bool.or_false, Bool.false_or, decide_false, decide_true, Nat.reduceLT, Nat.reduceLeDiff, Nat.reduceAdd, Nat.reduceSub, ↓reduceIte, Nat.reduceEqDiff, Nat.lt_add_one]
  have pf4 := fd_T (o := o) (i := 3) (v := some ap) nop (fd_nw (nw_ob (T := (T3.1, mz_u T3.2 o 2 (some op))) (c := 8) (v := 0) (w := 0) (I := I3) (L := L3) hap) pf3)
  have o1 : ok ≠ o := Ne.symm (n3.2.2 ok (by simp) _ hO2)
  have o2 : ok ≠ lt := Ne.symm (n3.2.2 ok (by simp) _ m2')
  have o3 : ok ≠ qu := Ne.symm (n3.2.2 ok (by simp) _ m3')
  have o4 : ok ≠ ap := hap _ pf.2.1
  have o5 : lt ≠ ap := hap _ m2
  have hS : p_FS (T3.1 ++ [(ap, 0, 8)], mz_u (mz_z (mz_u T3.2 o 2 (some op)) ap none) o 3 (some ap)) o lt qu op ok ap := ⟨hO4, ⟨e0, by show mz_u (mz_z (mz_u T3.2 o 2 (some op)) ap none) o 3 (some ap) o 1 = some qu; rw [mz_u_nk (by decide), eo]; exact e23, by show mz_u (mz_z (mz_u T3.2 o 2 (some op)) ap none) o 3 (some ap) o 2 = some op; rw [mz_u_nk (by decide), eo]; exact e33, mz_u_eq⟩, m4, List.mem_append_left _ m3, pf4, nw_lst⟩
  refine w_X3l (I0 := mz_row (mz_z I3 ap 0) lt (s_fill 448 (-1) (mz_z I3 ap 0 lt))) hS (by simp; exact ⟨o1, o2, o3, o4⟩) (fun I' f hI => ?_) 7 0 rfl _ fr_refl (fun i hi => ?_) (fun j hj => absurd hj (Nat.not_lt_zero _)) (fun j _ hj => ?_)
  · have N5 := nw_fr (R := [lt]) (I' := mz_row (mz_z I3 ap 0) lt (s_fill 448 (-1) (mz_z I3 ap 0 lt))) N4 (fun a ha => if_neg (fun e => ha (by rw [e]; simp))) (by simp)
    exact h _ _ _ lt (nw_sub (nw_fr N5 f (by simp)) (by simp)) hO4 e0 m4 hI
  · exact (congrFun (if_neg o2) i).trans ((congrFun (if_neg o4) i).trans (pv i hi))
  · exact (congrFun (if_pos rfl) j).trans (if_pos hj)
end CON3
