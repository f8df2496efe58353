/-! the reference: locks -/
section MODV
variable {G : mz_G} {K : mz_K} {T : mz_T} {I : mz_I} {L : mz_L}
theorem Mc_015 {D : Nat → Nat} {I' : mz_I} (hU : ∀ a x y, (a, x) ∈ T.1 → (a, y) ∈ T.1 → x = y) (hM : p_Mo T D) (h : p_Mc I D) (hf : fr I I' [D 0, D 1, D 3, D 14]) : p_Mc I' D := p_Mc_fr h hf (Mc_ne hU hM (fun a ha => by
  simp only [List.mem_cons, List.not_mem_nil, or_false] at ha
  rcases ha with e | e | e | e <;> rw [e]
  · exact ⟨_, hM.1, by decide, by decide, by decide, by decide, by decide⟩
  · exact ⟨_, hM.2.2.1.1, by decide, by decide, by decide, by decide, by decide⟩
  · exact ⟨_, hM.2.2.1.2.2.1, by decide, by decide, by decide, by decide, by decide⟩
  · exact ⟨_, hM.2.2.1.2.2.2.2.2.2.2.2.2.2.2.1, by decide, by decide, by decide, by decide, by decide⟩))
theorem e_T_le : ∀ kd, kd < 7 → ∀ k, k < 64 → e_T kd k ≤ 99 := by decide +kernel
theorem e_lo_le {kd s : Nat} {c : Int} (hk : kd < 7) : ∀ n, n ≤ 64 → e_lo kd s c n ≤ 99 := by
  intro n
  induction n with
  | zero => intro _; exact Nat.le_refl 99
  | succ n ih =>
    intro hn
    have := ih (by omega)
    have := e_T_le kd hk n (by omega)
    unfold e_lo
    split <;> omega
theorem c_leastM {D : Nat → Nat} {kd s : Nat} {c : Int} (hM : p_Mo T D) (hC : p_Mc I D) (hk : kd < 7) (hs : s < 4) (hw : f_w kd s c = true) (hSp : d_Sp I D)
    (h : ∀ I', fr I I' [D 0, D 14] → (∀ i, i ≠ 15 → I' (D 0) i = I (D 0) i) → d_Sp I' D → K (some (.int (f_le kd s c))) T I' L) : mz_Ctr G M_X12_leastOf [.ref (D 0), .int (zI kd), .int (zI s), .int (zI c)] T I L K := by
  refine mz_apartC fun hU => ?_
  obtain ⟨h0, ⟨r1, r2, r3, r5, r6, r8, r9, r10, r11, r12, r13, r14, -⟩, ⟨t1, t2, t3, t5, t6, t8, t9, t10, t11, t12, t13, t14, -⟩, -⟩ := id hM
  have hb := f_w_b hk hs hw
  have hle := (e_leT kd hk s hs (c + 3).toNat (by omega) (by rw [show (((c + 3).toNat : Nat) : Int) - 3 = c by omega]; exact hw)).1
  rw [show (((c + 3).toNat : Nat) : Int) - 3 = c by omega] at hle
  rw [hle] at h
  refine mz_ofl mk_X12_leastOf rfl (Nat.le_of_ble_eq_true rfl) (Nat.le_of_ble_eq_true rfl) [some (.ref (D 0)), some (.int (zI kd)), some (.int (zI s)), some (.int (zI c)), none, none] rfl ?_
  refine mz_vc ok_X12_leastOf [12] [(), (), (), (), (), (), (), (), (), (), (), (), (), (), (), (), (), (), (), (), (), (), (), (), (), (), (), (), (), ()] ?_
  simp only [cd_X12_leastOf, h0, r14, r_rn0, r_rnc, r_vk0, r_vkc, r_vks, r_kci, r_kcv, r_ild, r_ald, r_lld, r_dld, r_Li, r_La, r_Ll, r_Ld, r_Ki, r_Ka, r_Kl, r_Kd, r_Kn, r_ist, r_ast, r_lst, r_dst, r_iinc, r_int, r_lng, r_dbl, r_i2, r_i1, r_l2, r_lsh, r_i2z, r_l2z, r_i2l, r_l2i, r_i2d, r_lcmp, r_ddiv, r_dcmpl, r_dup, r_dup2, r_pop, r_one_int, r_one_ref, r_go, r_if, r_ic, r_tsw, r_lsw, r_sw0, r_swc, r_lk0, r_lkc, r_kp, r_gI, r_gL, r_gR, r_pI, r_pZ, r_pL, r_pR, r_gs, r_ia, r_ca, r_za, r_la, r_da, r_aa, r_ias, r_cas, r_zas, r_las, r_das, r_aas, r_acp, r_new, r_nwa, r_nwq, r_ret, r_irt, r_zrt, r_lrt, r_drt, r_art, r_thr, r_cV0, r_cV1, r_cV2, r_cV3, r_cV4, r_cV5, r_cI0, r_cS0, r_cS1, r_cS2, r_cS3, r_cX0, r_cX1, r_cX2, r_cX3, r_rc, r_oi, r_refx, r_i10, r_i01, r_rfs, r_mem0, r_memc, r_beq, r_kl0, r_klz, r_kl1i, r_kl1r, r_kl1n, r_kl1l, r_kl1d, List.length_cons, List.length_nil, List.getElem?_cons_zero, List.getElem?_cons_succ, List.set_cons_zero, List.set_cons_succ, true_and, and_true, not_true, not_false_eq_true, false_implies, true_implies, or_true, true_or, or_false, false_or, Bool.or_false, Bool.false_or, decide_false, decide_true, Nat.reduceLT, Nat.reduceLeDiff, Nat.reduceAdd, Nat.reduceSub, ↓reduceIte, Nat.reduceEqDiff, Nat.lt_add_one]
  refine c_tellM hM hC hk hSp (fun I1 f1 o1 e15 eT => ?_)
  simp only [cd_X12_leastOf, h0, r14, r_rn0, r_rnc, r_vk0, r_vkc, r_vks, r_kci, r_kcv, r_ild, r_ald, r_lld, r_dld, r_Li, r_La, r_Ll, r_Ld, r_Ki, r_Ka, r_Kl, r_Kd, r_Kn, r_ist, r_ast, r_lst, r_dst, r_iinc, r_int, r_lng, r_dbl, r_i2, r_i1, r_l2, r_lsh, r_i2z, r_l2z, r_i2l, r_l2i, r_i2d, r_lcmp, r_ddiv, r_dcmpl, r_dup, r_dup2, r_pop, r_one_int, r_one_ref, r_go, r_if, r_ic, r_tsw, r_lsw, r_sw0, r_swc, r_lk0, r_lkc, r_kp, r_gI, r_gL, r_gR, r_pI, r_pZ, r_pL, r_pR, r_gs, r_ia, r_ca, r_za, r_la, r_da, r_aa, r_ias, r_cas, r_zas, r_las, r_das, r_aas, r_acp, r_new, r_nwa, r_nwq, r_ret, r_irt, r_zrt, r_lrt, r_drt, r_art, r_thr, r_cV0, r_cV1, r_cV2, r_cV3, r_cV4, r_cV5, r_cI0, r_cS0, r_cS1, r_cS2, r_cS3, r_cX0, r_cX1, r_cX2, r_cX3, r_rc, r_oi, r_refx, r_i10, r_i01, r_rfs, r_mem0, r_memc, r_beq, r_kl0, r_klz, r_kl1i, r_kl1r, r_kl1n, r_kl1l, r_kl1d, List.length_cons, List.length_nil, List.getElem?_cons_zero, List.getElem?_cons_succ, List.set_cons_zero, List.set_cons_succ, true_and, and_true, not_true, not_false_eq_true, false_implies, true_implies, or_true, true_or, or_false, false_or, Bool.or_false, Bool.false_or, decide_false, decide_true, Nat.reduceLT, Nat.reduceLeDiff, Nat.reduceAdd, Nat.reduceSub, ↓reduceIte, Nat.reduceEqDiff, Nat.lt_add_one]
  have hC1 := p_Mc_fr hC f1 (Mc_ne hU hM (fun a ha => by
    simp only [List.mem_cons, List.not_mem_nil, or_false] at ha
    rcases ha with e | e <;> rw [e]
    · exact ⟨_, h0, by decide, by decide, by decide, by decide, by decide⟩
    · exact ⟨_, t14, by decide, by decide, by decide, by decide, by decide⟩))
  refine mz_loop (N := 64) (fun k => mz_W G M_X12_leastOf K mz_nX 12 [some (.ref (D 0)), some (.int (zI kd)), some (.int (zI s)), some (.int (zI c)), some (.int (zI (e_lo kd s c k))), some (.int (zI k))] [] T I1 L (0, 0)) ?_ ?_ 0 (Nat.zero_le _)
  · refine mz_vc ok_X12_leastOf [12] [(), (), (), (), (), (), (), (), (), (), (), (), (), (), (), (), (), (), (), (), (), (), (), (), (), (), (), (), (), ()] ?_
    simp only [cd_X12_leastOf, h0, r14, r_rn0, r_rnc, r_vk0, r_vkc, r_vks, r_kci, r_kcv, r_ild, r_ald, r_lld, r_dld, r_Li, r_La, r_Ll, r_Ld, r_Ki, r_Ka, r_Kl, r_Kd, r_Kn, r_ist, r_ast, r_lst, r_dst, r_iinc, r_int, r_lng, r_dbl, r_i2, r_i1, r_l2, r_lsh, r_i2z, r_l2z, r_i2l, r_l2i, r_i2d, r_lcmp, r_ddiv, r_dcmpl, r_dup, r_dup2, r_pop, r_one_int, r_one_ref, r_go, r_if, r_ic, r_tsw, r_lsw, r_sw0, r_swc, r_lk0, r_lkc, r_kp, r_gI, r_gL, r_gR, r_pI, r_pZ, r_pL, r_pR, r_gs, r_ia, r_ca, r_za, r_la, r_da, r_aa, r_ias, r_cas, r_zas, r_las, r_das, r_aas, r_acp, r_new, r_nwa, r_nwq, r_ret, r_irt, r_zrt, r_lrt, r_drt, r_art, r_thr, r_cV0, r_cV1, r_cV2, r_cV3, r_cV4, r_cV5, r_cI0, r_cS0, r_cS1, r_cS2, r_cS3, r_cX0, r_cX1, r_cX2, r_cX3, r_rc, r_oi, r_refx, r_i10, r_i01, r_rfs, r_mem0, r_memc, r_beq, r_kl0, r_klz, r_kl1i, r_kl1r, r_kl1n, r_kl1l, r_kl1d, List.length_cons, List.length_nil, List.getElem?_cons_zero, List.getElem?_cons_succ, List.set_cons_zero, List.set_cons_succ, true_and, and_true, not_true, not_false_eq_true, false_implies, true_implies, or_true, true_or, or_false, false_or, Bool.or_false, Bool.false_or, decide_false, decide_true, Nat.reduceLT, Nat.reduceLeDiff, Nat.reduceAdd, Nat.reduceSub, ↓reduceIte, Nat.reduceEqDiff, Nat.lt_add_one]
    exact ⟨fun _ => h I1 f1 o1 (Or.inr ⟨kd, hk, e15, eT⟩), fun q => absurd (by decide) q⟩
  · intro k hk6 ih
    have b1 := e_lo_le (s := s) (c := c) hk k (by omega)
    have b2 := e_T_le kd hk k hk6
    unfold e_lo at ih
    refine mz_vc ok_X12_leastOf [12] [(), (), (), (), (), (), (), (), (), (), (), (), (), (), (), (), (), (), (), (), (), (), (), (), (), (), (), (), (), ()] ?_
    simp only [cd_X12_leastOf, h0, r14, r_rn0, r_rnc, r_vk0, r_vkc, r_vks, r_kci, r_kcv, r_ild, r_ald, r_lld, r_dld, r_Li, r_La, r_Ll, r_Ld, r_Ki, r_Ka, r_Kl, r_Kd, r_Kn, r_ist, r_ast, r_lst, r_dst, r_iinc, r_int, r_lng, r_dbl, r_i2, r_i1, r_l2, r_lsh, r_i2z, r_l2z, r_i2l, r_l2i, r_i2d, r_lcmp, r_ddiv, r_dcmpl, r_dup, r_dup2, r_pop, r_one_int, r_one_ref, r_go, r_if, r_ic, r_tsw, r_lsw, r_sw0, r_swc, r_lk0, r_lkc, r_kp, r_gI, r_gL, r_gR, r_pI, r_pZ, r_pL, r_pR, r_gs, r_ia, r_ca, r_za, r_la, r_da, r_aa, r_ias, r_cas, r_zas, r_las, r_das, r_aas, r_acp, r_new, r_nwa, r_nwq, r_ret, r_irt, r_zrt, r_lrt, r_drt, r_art, r_thr, r_cV0, r_cV1, r_cV2, r_cV3, r_cV4, r_cV5, r_cI0, r_cS0, r_cS1, r_cS2, r_cS3, r_cX0, r_cX1, r_cX2, r_cX3, r_rc, r_oi, r_refx, r_i10, r_i01, r_rfs, r_mem0, r_memc, r_beq, r_kl0, r_klz, r_kl1i, r_kl1r, r_kl1n, r_kl1l, r_kl1d, List.length_cons, List.length_nil, List.getElem?_cons_zero, List.getElem?_cons_succ, List.set_cons_zero, List.set_cons_succ, true_and, and_true, not_true, not_false_eq_true, false_implies, true_implies, or_true, true_or, or_false, false_or, Bool.or_false, Bool.false_or, decide_false, decide_true, Nat.reduceLT, Nat.reduceLeDiff, Nat.reduceAdd, Nat.reduceSub, ↓reduceIte, Nat.reduceEqDiff, Nat.lt_add_one]
    rw [z_nat (by omega), Int.toNat_natCast, eT k hk6, z_le (a := (e_lo kd s c k : Nat)) (by omega) (by omega), z_1]
    refine ⟨z_no (b := 64) (by omega) (by omega) hk6, fun _ => ⟨n_ix _ t14 hk6 (by decide), fun q => ?_, fun q => ?_⟩⟩
    · rw [if_neg (fun e => by omega)] at ih; exact ih
    · have e1 : zI (k : Int) / 16 = zI ((k / 16 : Nat) : Int) := by rw [l_16, z_div (by omega) (by decide)]; rfl
      have e2 : zI (k : Int) - zI (k : Int) / 16 * 16 - 2 = zI (((k % 16 : Nat) : Int) - 2) := by rw [l_16, l_2, z_mod (by omega) (by decide), z_sub]; rfl
      rw [e2, e1]
      refine ⟨by decide, by decide, ?_⟩
      refine c_likeM hM hC1 hk hs (by omega) (by omega) (by omega) ?_
      simp only [cd_X12_leastOf, h0, r14, b2i_0, r_rn0, r_rnc, r_vk0, r_vkc, r_vks, r_kci, r_kcv, r_ild, r_ald, r_lld, r_dld, r_Li, r_La, r_Ll, r_Ld, r_Ki, r_Ka, r_Kl, r_Kd, r_Kn, r_ist, r_ast, r_lst, r_dst, r_iinc, r_int, r_lng, r_dbl, r_i2, r_i1, r_l2, r_lsh, r_i2z, r_l2z, r_i2l, r_l2i, r_i2d, r_lcmp, r_ddiv, r_dcmpl, r_dup, r_dup2, r_pop, r_one_int, r_one_ref, r_go, r_if, r_ic, r_tsw, r_lsw, r_sw0, r_swc, r_lk0, r_lkc, r_kp, r_gI, r_gL, r_gR, r_pI, r_pZ, r_pL, r_pR, r_gs, r_ia, r_ca, r_za, r_la, r_da, r_aa, r_ias, r_cas, r_zas, r_las, r_das, r_aas, r_acp, r_new, r_nwa, r_nwq, r_ret, r_irt, r_zrt, r_lrt, r_drt, r_art, r_thr, r_cV0, r_cV1, r_cV2, r_cV3, r_cV4, r_cV5, r_cI0, r_cS0, r_cS1, r_cS2, r_cS3, r_cX0, r_cX1, r_cX2, r_cX3, r_rc, r_oi, r_refx, r_i10, r_i01, r_rfs, r_mem0, r_memc, r_beq, r_kl0, r_klz, r_kl1i, r_kl1r, r_kl1n, r_kl1l, r_kl1d, List.length_cons, List.length_nil, List.getElem?_cons_zero, List.getElem?_cons_succ, List.set_cons_zero, List.set_cons_succ, true_and, and_true, not_true, not_false_eq_true, false_implies, true_implies, or_true, true_or, or_false, false_or, Bool.or_false, Bool.false_or, decide_false, decide_true, Nat.reduceLT, Nat.reduceLeDiff, Nat.reduceAdd, Nat.reduceSub, ↓reduceIte, Nat.reduceEqDiff, Nat.lt_add_one]
      rw [z_1]
      refine ⟨fun q2 => ?_, fun q2 => ⟨n_ix _ t14 hk6 (by decide), ?_⟩⟩
      · rw [if_neg (fun e => by rw [q2] at e; cases e.2)] at ih; exact ih
      · rw [if_pos ⟨by omega, by simpa using q2⟩] at ih
        rw [z_nat (by omega), Int.toNat_natCast, eT k hk6]; exact ih
/-- behind a lock, as the reference has it -/
def o_scr (m : Nat → Int32) (le : Int32) : Nat → Int32 := o_score (o_clear (o_fill m)) (m_n (o_fill m)) (m_spin m) (decide (s_fc (s_fm (o_clear (o_fill m))) 22 = 0)) le
noncomputable def o_lockM (m : Nat → Int32) (le : Int32) : Nat → Int32 := if m_high m then m_u (o_scr m le) 221 1 else o_put (o_draw (o_lock1 m le)) (m_dk (o_lock1 m le))
theorem s_c0row : ∀ kd, kd < 7 → ∀ s, s < 4 → ∀ j, j < 4 → s_cell kd s 0 / 10 ≤ s_cell kd s j / 10 := by decide +kernel
def d_hi (g : Nat → Int32) : Nat → Bool
  | 0 => true
  | i + 1 => d_hi g i && decide (20 ≤ m_r g + (d_b (m_kd g) i (m_st g)).2)
theorem d_hi4 {g : Nat → Int32} (hp : d_ok g) : d_hi g 4 = m_high g := by
  have hin := fun i hi => d_in hp (i := i) hi
  obtain ⟨⟨q, hk, hs, hc, hr⟩, hf⟩ := hp
  obtain ⟨p1, p2⟩ := d_perm (m_kd g) hk (m_st g) hs
  have key : ∀ n, n ≤ 4 → (d_hi g n = true ↔ ∀ i, i < n → 20 ≤ m_r g + (d_b (m_kd g) i (m_st g)).2) := by
    intro n
    induction n with
    | zero => intro _; exact ⟨fun _ i hi => absurd hi (Nat.not_lt_zero _), fun _ => rfl⟩
    | succ n ih =>
      intro hn
      unfold d_hi
      rw [Bool.and_eq_true, ih (by omega), decide_eq_true_eq]
      constructor
      · rintro ⟨a, b⟩ i hi
        by_cases c : i = n
        · subst c; exact b
        · exact a i (by omega)
      · intro a
        exact ⟨fun i hi => a i (by omega), a n (by omega)⟩
  apply Bool.eq_iff_iff.mpr
  rw [key 4 (Nat.le_refl _)]
  unfold m_high
  rw [decide_eq_true_eq]
  obtain ⟨i0, hi0, e1, e2⟩ := p1 0 (by decide)
  have h0 := hin i0 hi0
  constructor
  · intro a
    have := a i0 hi0
    omega
  · intro a i hi
    obtain ⟨j, hj, f1, f2⟩ := p2 i hi
    have := s_c0row (m_kd g) hk (m_st g) hs j hj
    omega
/-- a step of the reference -/
def d_G2 (I I' : mz_I) (D : Nat → Nat) (many' : Nat) (g' : Nat → Int32) (rr' : Nat → Nat → Int32) : Prop :=
  fr I I' [D 0, D 1, D 3, D 14] ∧ (∀ i, i ≠ 4 → i ≠ 15 → I' (D 0) i = I (D 0) i) ∧ I' (D 0) 4 = zI many' ∧ I' (D 1) = g' ∧ (∀ i j, i < many' → j < 268 → I' (D 3) (268 * i + j) = rr' i j) ∧ d_Sp I' D
theorem d_Sp_fr {I' : mz_I} {D : Nat → Nat} (h : d_Sp I D) (h1 : I' (D 0) 15 = I (D 0) 15) (h2 : I' (D 14) = I (D 14)) : d_Sp I' D := by
  unfold d_Sp
  rw [h1, h2]; exact h
theorem c_locksM {D : Nat → Nat} {many : Nat} (hM : p_Mo T D) (hC : p_Mc I D) (hp : d_ok (I (D 1))) (hz : d_z (I (D 1))) (hnf : ∀ r, r < 22 → s_full (s_fm (I (D 1))) r = false) (hm : I (D 0) 4 = zI many) (hm6 : many ≤ 6) (hSp : d_Sp I D) (hus : ∃ u : Nat, u < 1000000000 ∧ I (D 1) 229 = zI u)
    (h : ∀ I' le, le = f_le (m_kd (I (D 1))) (m_st (I (D 1))) (m_c (I (D 1))) → d_G2 I I' D (w_mn (m_lfit (I (D 1)) le) many) (o_lockM (I (D 1)) le) (w_rr (m_lfit (I (D 1)) le) many (d_rr I D) (o_app (o_draw (o_lock1 (I (D 1)) le)) (m_dk (o_lock1 (I (D 1)) le)))) → K (some (.int (zI (m_n (o_fill (I (D 1))))))) T I' L) : mz_Ctr G M_X12_locks [.ref (D 0)] T I L K := by
  refine mz_apartC fun hU => ?_
  obtain ⟨h0, ⟨r1, r2, r3, r5, r6, r8, r9, r10, r11, r12, r13, r14, -⟩, ⟨t1, t2, t3, t5, t6, t8, t9, t10, t11, t12, t13, t14, -⟩, -⟩ := id hM
  have n1 : D 1 ≠ D 3 := mz_ne hU t1 t3 (by decide)
  have n3 : D 0 ≠ D 1 := mz_ne hU h0 t1 (by decide)
  have n4 : D 3 ≠ D 1 := Ne.symm n1
  have n5 : D 3 ≠ D 0 := mz_ne hU t3 h0 (by decide)
  have n6 : D 3 ≠ D 14 := mz_ne hU t3 t14 (by decide)
  have n7 : D 1 ≠ D 14 := mz_ne hU t1 t14 (by decide)
  have n8 : D 14 ≠ D 1 := Ne.symm n7
  have n9 : D 14 ≠ D 0 := mz_ne hU t14 h0 (by decide)
  have n10 : D 14 ≠ D 3 := Ne.symm n6
  obtain ⟨⟨q1, q2, q3, q4⟩, hk, hs, hc, hr⟩ := id hp.1
  have hw : f_w (m_kd (I (D 1))) (m_st (I (D 1))) (m_c (I (D 1))) = true := by
    have h1 := (s_fit_w hk hs hp.2).1
    have h2 := f_ext (m_kd (I (D 1))) hk (m_st (I (D 1))) hs
    unfold f_w
    obtain ⟨-, -, ⟨j, hj, ej⟩⟩ := h2
    have h3 := s_fit_t.mp hp.2 j hj
    rw [ej] at h3
    rw [Bool.and_eq_true, decide_eq_true_eq, decide_eq_true_eq]
    refine ⟨h1.1, ?_⟩
    by_cases z : m_c (I (D 1)) + (f_HI.getD (m_kd (I (D 1)) * 4 + m_st (I (D 1))) 0 : Nat) < 10
    · exact z
    · rw [s_at_out (by omega)] at h3; cases h3
  have hb := f_w_b hk hs hw
  have hle := e_leT (m_kd (I (D 1))) hk (m_st (I (D 1))) hs (m_c (I (D 1)) + 3).toNat (by omega) (by rw [show (((m_c (I (D 1)) + 3).toNat : Nat) : Int) - 3 = m_c (I (D 1)) by omega]; exact hw)
  rw [show (((m_c (I (D 1)) + 3).toNat : Nat) : Int) - 3 = m_c (I (D 1)) by omega] at hle
  have hflt : I (D 1) 229 ≤ f_le (m_kd (I (D 1))) (m_st (I (D 1))) (m_c (I (D 1))) ↔ ¬ (0 < I (D 1) 229 - f_le (m_kd (I (D 1))) (m_st (I (D 1))) (m_c (I (D 1)))) := by
    obtain ⟨u, hu, eu⟩ := hus
    rw [hle.1, eu, z_sub, l_0, z_le (by omega) (by omega), z_lt (by omega) (by omega)]
    omega
  have hn4 : m_n (o_fill (I (D 1))) ≤ 4 := fill_four hnf
  have hsp := m_spin_le (m := I (D 1))
  have hhi := d_hi4 hp
  have hin := fun i hi => d_in hp (i := i) hi
  have hK := fun I' => h I' _ rfl
  clear h
  generalize hle9 : f_le (m_kd (I (D 1))) (m_st (I (D 1))) (m_c (I (D 1))) = le at hflt hK
  have k222 : (I (D 1)) 222 = zI (m_kd (I (D 1))) := q1
  generalize hg : I (D 1) = g at *
  have w98 : ∀ I1 : mz_I, fr I I1 [D 0, D 14] → I1 (D 0) 4 = zI many → (∀ i, i ≠ 15 → I1 (D 0) i = I (D 0) i) → d_Sp I1 D → mz_W G M_X12_locks K mz_nX 98 [some (.ref (D 0)), some (.int le), some (.int (zI (m_spin g))), some (.int (b2i (m_high g))), none] [] T I1 L (0, 0) := by
    intro I1 f1 m1 o1 sp1
    have e1 : I1 (D 1) = g := by rw [f1 _ (by simp; exact ⟨Ne.symm n3, n7⟩), hg]
    have hC1 : p_Mc I1 D := Mc_015 hU hM hC (fr_tr f1 fr_refl (by simp) (fun _ q => q))
    refine mz_vc ok_X12_locks [] [(), (), (), (), (), (), (), (), (), (), (), (), (), (), (), (), (), (), (), (), (), (), (), (), (), (), (), (), (), ()] ?_
    simp only [cd_X12_locks, h0, r1, ix_221 t1, n_221, ix_222 t1, n_222, ix_223 t1, n_223, ix_224 t1, n_224, ix_225 t1, n_225, ix_233 t1, n_233, r_rn0, r_rnc, r_vk0, r_vkc, r_vks, r_kci, r_kcv, r_ild, r_ald, r_lld, r_dld, r_Li, r_La, r_Ll, r_Ld, r_Ki, r_Ka, r_Kl, r_Kd, r_Kn, r_ist, r_ast, r_lst, r_dst, r_iinc, r_int, r_lng, r_dbl, r_i2, r_i1, r_l2, r_lsh, r_i2z, r_l2z, r_i2l, r_l2i, r_i2d, r_lcmp, r_ddiv, r_dcmpl, r_dup, r_dup2, r_pop, r_one_int, r_one_ref, r_go, r_if, r_ic, r_tsw, r_lsw, r_sw0, r_swc, r_lk0, r_lkc, r_kp, r_gI, r_gL, r_gR, r_pI, r_pZ, r_pL, r_pR, r_gs, r_ia, r_ca, r_za, r_la, r_da, r_aa, r_ias, r_cas, r_zas, r_las, r_das, r_aas, r_acp, r_new, r_nwa, r_nwq, r_ret, r_irt, r_zrt, r_lrt, r_drt, r_art, r_thr, r_cV0, r_cV1, r_cV2, r_cV3, r_cV4, r_cV5, r_cI0, r_cS0, r_cS1, r_cS2, r_cS3, r_cX0, r_cX1, r_cX2, r_cX3, r_rc, r_oi, r_refx, r_i10, r_i01, r_rfs, r_mem0, r_memc, r_beq, r_kl0, r_klz, r_kl1i, r_kl1r, r_kl1n, r_kl1l, r_kl1d, List.length_cons, List.length_nil, List.getElem?_cons_zero, List.getElem?_cons_succ, List.set_cons_zero, List.set_cons_succ, true_and, and_true, not_true, not_false_eq_true, false_implies, true_implies, or_true, true_or, or_false, false_or, Bool.or_false, Bool.false_or, decide_false, decide_true, Nat.reduceLT, Nat.reduceLeDiff, Nat.reduceAdd, Nat.reduceSub, ↓reduceIte, Nat.reduceEqDiff, Nat.lt_add_one]
    refine c_fillsM hM hC1 (by rw [e1]; exact hp) (fun I2 f2 e2 => ?_)
    rw [e1] at e2
    simp only [cd_X12_locks, h0, r1, ix_221 t1, n_221, ix_222 t1, n_222, ix_223 t1, n_223, ix_224 t1, n_224, ix_225 t1, n_225, ix_233 t1, n_233, r_rn0, r_rnc, r_vk0, r_vkc, r_vks, r_kci, r_kcv, r_ild, r_ald, r_lld, r_dld, r_Li, r_La, r_Ll, r_Ld, r_Ki, r_Ka, r_Kl, r_Kd, r_Kn, r_ist, r_ast, r_lst, r_dst, r_iinc, r_int, r_lng, r_dbl, r_i2, r_i1, r_l2, r_lsh, r_i2z, r_l2z, r_i2l, r_l2i, r_i2d, r_lcmp, r_ddiv, r_dcmpl, r_dup, r_dup2, r_pop, r_one_int, r_one_ref, r_go, r_if, r_ic, r_tsw, r_lsw, r_sw0, r_swc, r_lk0, r_lkc, r_kp, r_gI, r_gL, r_gR, r_pI, r_pZ, r_pL, r_pR, r_gs, r_ia, r_ca, r_za, r_la, r_da, r_aa, r_ias, r_cas, r_zas, r_las, r_das, r_aas, r_acp, r_new, r_nwa, r_nwq, r_ret, r_irt, r_zrt, r_lrt, r_drt, r_art, r_thr, r_cV0, r_cV1, r_cV2, r_cV3, r_cV4, r_cV5, r_cI0, r_cS0, r_cS1, r_cS2, r_cS3, r_cX0, r_cX1, r_cX2, r_cX3, r_rc, r_oi, r_refx, r_i10, r_i01, r_rfs, r_mem0, r_memc, r_beq, r_kl0, r_klz, r_kl1i, r_kl1r, r_kl1n, r_kl1l, r_kl1d, List.length_cons, List.length_nil, List.getElem?_cons_zero, List.getElem?_cons_succ, List.set_cons_zero, List.set_cons_succ, true_and, and_true, not_true, not_false_eq_true, false_implies, true_implies, or_true, true_or, or_false, false_or, Bool.or_false, Bool.false_or, decide_false, decide_true, Nat.reduceLT, Nat.reduceLeDiff, Nat.reduceAdd, Nat.reduceSub, ↓reduceIte, Nat.reduceEqDiff, Nat.lt_add_one]
    refine c_clearsM hM (fun I3 f3 e3 => ?_)
    rw [e2] at e3 ⊢
    simp only [cd_X12_locks, h0, r1, ix_221 t1, n_221, ix_222 t1, n_222, ix_223 t1, n_223, ix_224 t1, n_224, ix_225 t1, n_225, ix_233 t1, n_233, r_rn0, r_rnc, r_vk0, r_vkc, r_vks, r_kci, r_kcv, r_ild, r_ald, r_lld, r_dld, r_Li, r_La, r_Ll, r_Ld, r_Ki, r_Ka, r_Kl, r_Kd, r_Kn, r_ist, r_ast, r_lst, r_dst, r_iinc, r_int, r_lng, r_dbl, r_i2, r_i1, r_l2, r_lsh, r_i2z, r_l2z, r_i2l, r_l2i, r_i2d, r_lcmp, r_ddiv, r_dcmpl, r_dup, r_dup2, r_pop, r_one_int, r_one_ref, r_go, r_if, r_ic, r_tsw, r_lsw, r_sw0, r_swc, r_lk0, r_lkc, r_kp, r_gI, r_gL, r_gR, r_pI, r_pZ, r_pL, r_pR, r_gs, r_ia, r_ca, r_za, r_la, r_da, r_aa, r_ias, r_cas, r_zas, r_las, r_das, r_aas, r_acp, r_new, r_nwa, r_nwq, r_ret, r_irt, r_zrt, r_lrt, r_drt, r_art, r_thr, r_cV0, r_cV1, r_cV2, r_cV3, r_cV4, r_cV5, r_cI0, r_cS0, r_cS1, r_cS2, r_cS3, r_cX0, r_cX1, r_cX2, r_cX3, r_rc, r_oi, r_refx, r_i10, r_i01, r_rfs, r_mem0, r_memc, r_beq, r_kl0, r_klz, r_kl1i, r_kl1r, r_kl1n, r_kl1l, r_kl1d, List.length_cons, List.length_nil, List.getElem?_cons_zero, List.getElem?_cons_succ, List.set_cons_zero, List.set_cons_succ, true_and, and_true, not_true, not_false_eq_true, false_implies, true_implies, or_true, true_or, or_false, false_or, Bool.or_false, Bool.false_or, decide_false, decide_true, Nat.reduceLT, Nat.reduceLeDiff, Nat.reduceAdd, Nat.reduceSub, ↓reduceIte, Nat.reduceEqDiff, Nat.lt_add_one]
    have f13 : fr I1 I3 [D 1] := fr_tr1 f2 f3 (fun _ q => q)
    have v229 : I3 (D 1) 229 = g 229 := by rw [e3]; exact fill_out (by decide)
    refine c_scoresM (n := m_n (o_fill g)) hM (Mc_1 hU hM hC1 f13) hn4 hsp (by rw [v229]; exact hflt) (fun I4 f4 e4 => ?_)
    rw [e3] at e4
    have e4 : I4 (D 1) = o_scr g le := e4
    simp only [cd_X12_locks, h0, r1, ix_221 t1, n_221, ix_222 t1, n_222, ix_223 t1, n_223, ix_224 t1, n_224, ix_225 t1, n_225, ix_233 t1, n_233, b2i_0, r_rn0, r_rnc, r_vk0, r_vkc, r_vks, r_kci, r_kcv, r_ild, r_ald, r_lld, r_dld, r_Li, r_La, r_Ll, r_Ld, r_Ki, r_Ka, r_Kl, r_Kd, r_Kn, r_ist, r_ast, r_lst, r_dst, r_iinc, r_int, r_lng, r_dbl, r_i2, r_i1, r_l2, r_lsh, r_i2z, r_l2z, r_i2l, r_l2i, r_i2d, r_lcmp, r_ddiv, r_dcmpl, r_dup, r_dup2, r_pop, r_one_int, r_one_ref, r_go, r_if, r_ic, r_tsw, r_lsw, r_sw0, r_swc, r_lk0, r_lkc, r_kp, r_gI, r_gL, r_gR, r_pI, r_pZ, r_pL, r_pR, r_gs, r_ia, r_ca, r_za, r_la, r_da, r_aa, r_ias, r_cas, r_zas, r_las, r_das, r_aas, r_acp, r_new, r_nwa, r_nwq, r_ret, r_irt, r_zrt, r_lrt, r_drt, r_art, r_thr, r_cV0, r_cV1, r_cV2, r_cV3, r_cV4, r_cV5, r_cI0, r_cS0, r_cS1, r_cS2, r_cS3, r_cX0, r_cX1, r_cX2, r_cX3, r_rc, r_oi, r_refx, r_i10, r_i01, r_rfs, r_mem0, r_memc, r_beq, r_kl0, r_klz, r_kl1i, r_kl1r, r_kl1n, r_kl1l, r_kl1d, List.length_cons, List.length_nil, List.getElem?_cons_zero, List.getElem?_cons_succ, List.set_cons_zero, List.set_cons_succ, true_and, and_true, not_true, not_false_eq_true, false_implies, true_implies, or_true, true_or, or_false, false_or, Bool.or_false, Bool.false_or, decide_false, decide_true, Nat.reduceLT, Nat.reduceLeDiff, Nat.reduceAdd, Nat.reduceSub, ↓reduceIte, Nat.reduceEqDiff, Nat.lt_add_one]
    have f14 : fr I1 I4 [D 1] := fr_tr1 f13 f4 (fun _ q => q)
    have m4 : I4 (D 0) 4 = zI many := by rw [fr_ne1 f14 n3]; exact m1
    have fI4 : fr I I4 [D 0, D 1, D 3, D 14] := fr_tr f1 f14 (by simp) (by simp)
    have so : ∀ j, j = 220 ∨ j = 267 → o_scr g le j = g j := fun j hj => by
      unfold o_scr
      rw [score_out hn4 hsp (by omega), fill_out (by omega)]
    refine ⟨fun q => ?_, fun q => ?_⟩
    · have eL : o_lockM g le = o_put (o_draw (o_lock1 g le)) (m_dk (o_lock1 g le)) := by unfold o_lockM; rw [if_neg (by rw [q]; decide)]
      have eF : m_lfit g le = o_fits (o_draw (o_lock1 g le)) (m_dk (o_lock1 g le)) := by unfold m_lfit; rw [q]; rfl
      rw [eL, eF] at hK
      have e5 : (mz_u I4 (D 1) 233 0) (D 1) = o_lock1 g le := by rw [mz_u_row, e4]; rfl
      have f5 : fr I1 (mz_u I4 (D 1) 233 0) [D 1] := fr_u2 f14 (by simp)
      obtain ⟨z1, z2, z3⟩ := id hz
      obtain ⟨hz2, hmz⟩ := d_z_of (g := o_lock1 g le) (z := m_z g) (by show m_u (o_scr g le) 233 0 267 = _; rw [m_u_ne (by decide), so 267 (Or.inr rfl)]; exact z1) (by show m_u (o_scr g le) 233 0 220 = _; rw [m_u_ne (by decide), so 220 (Or.inl rfl)]; exact z2) z3
      refine c_drawsM hM (by rw [e5]; exact hz2) (fun I6 f6 e6 => ?_)
      rw [e5] at e6 ⊢
      simp only [cd_X12_locks, h0, r1, ix_221 t1, n_221, ix_222 t1, n_222, ix_223 t1, n_223, ix_224 t1, n_224, ix_225 t1, n_225, ix_233 t1, n_233, r_rn0, r_rnc, r_vk0, r_vkc, r_vks, r_kci, r_kcv, r_ild, r_ald, r_lld, r_dld, r_Li, r_La, r_Ll, r_Ld, r_Ki, r_Ka, r_Kl, r_Kd, r_Kn, r_ist, r_ast, r_lst, r_dst, r_iinc, r_int, r_lng, r_dbl, r_i2, r_i1, r_l2, r_lsh, r_i2z, r_l2z, r_i2l, r_l2i, r_i2d, r_lcmp, r_ddiv, r_dcmpl, r_dup, r_dup2, r_pop, r_one_int, r_one_ref, r_go, r_if, r_ic, r_tsw, r_lsw, r_sw0, r_swc, r_lk0, r_lkc, r_kp, r_gI, r_gL, r_gR, r_pI, r_pZ, r_pL, r_pR, r_gs, r_ia, r_ca, r_za, r_la, r_da, r_aa, r_ias, r_cas, r_zas, r_las, r_das, r_aas, r_acp, r_new, r_nwa, r_nwq, r_ret, r_irt, r_zrt, r_lrt, r_drt, r_art, r_thr, r_cV0, r_cV1, r_cV2, r_cV3, r_cV4, r_cV5, r_cI0, r_cS0, r_cS1, r_cS2, r_cS3, r_cX0, r_cX1, r_cX2, r_cX3, r_rc, r_oi, r_refx, r_i10, r_i01, r_rfs, r_mem0, r_memc, r_beq, r_kl0, r_klz, r_kl1i, r_kl1r, r_kl1n, r_kl1l, r_kl1d, List.length_cons, List.length_nil, List.getElem?_cons_zero, List.getElem?_cons_succ, List.set_cons_zero, List.set_cons_succ, true_and, and_true, not_true, not_false_eq_true, false_implies, true_implies, or_true, true_or, or_false, false_or, Bool.or_false, Bool.false_or, decide_false, decide_true, Nat.reduceLT, Nat.reduceLeDiff, Nat.reduceAdd, Nat.reduceSub, ↓reduceIte, Nat.reduceEqDiff, Nat.lt_add_one]
      have f16 : fr I1 I6 [D 1] := fr_tr1 f5 f6 (fun _ q => q)
      have err : d_rr I6 D = d_rr I D := by
        unfold d_rr; rw [fr_ne1 f16 n4, f1 _ (by simp; exact ⟨n5, n6⟩)]
      refine c_appearsM hM (Mc_1 hU hM hC1 f16) (by rw [fr_ne1 f16 n3]; exact m1) hm6 (q_kd_lt hz2.2.2) (fun I' hGo => ?_)
      simp only [cd_X12_locks, h0, r1, ix_221 t1, n_221, ix_222 t1, n_222, ix_223 t1, n_223, ix_224 t1, n_224, ix_225 t1, n_225, ix_233 t1, n_233, r_rn0, r_rnc, r_vk0, r_vkc, r_vks, r_kci, r_kcv, r_ild, r_ald, r_lld, r_dld, r_Li, r_La, r_Ll, r_Ld, r_Ki, r_Ka, r_Kl, r_Kd, r_Kn, r_ist, r_ast, r_lst, r_dst, r_iinc, r_int, r_lng, r_dbl, r_i2, r_i1, r_l2, r_lsh, r_i2z, r_l2z, r_i2l, r_l2i, r_i2d, r_lcmp, r_ddiv, r_dcmpl, r_dup, r_dup2, r_pop, r_one_int, r_one_ref, r_go, r_if, r_ic, r_tsw, r_lsw, r_sw0, r_swc, r_lk0, r_lkc, r_kp, r_gI, r_gL, r_gR, r_pI, r_pZ, r_pL, r_pR, r_gs, r_ia, r_ca, r_za, r_la, r_da, r_aa, r_ias, r_cas, r_zas, r_las, r_das, r_aas, r_acp, r_new, r_nwa, r_nwq, r_ret, r_irt, r_zrt, r_lrt, r_drt, r_art, r_thr, r_cV0, r_cV1, r_cV2, r_cV3, r_cV4, r_cV5, r_cI0, r_cS0, r_cS1, r_cS2, r_cS3, r_cX0, r_cX1, r_cX2, r_cX3, r_rc, r_oi, r_refx, r_i10, r_i01, r_rfs, r_mem0, r_memc, r_beq, r_kl0, r_klz, r_kl1i, r_kl1r, r_kl1n, r_kl1l, r_kl1d, List.length_cons, List.length_nil, List.getElem?_cons_zero, List.getElem?_cons_succ, List.set_cons_zero, List.set_cons_succ, true_and, and_true, not_true, not_false_eq_true, false_implies, true_implies, or_true, true_or, or_false, false_or, Bool.or_false, Bool.false_or, decide_false, decide_true, Nat.reduceLT, Nat.reduceLeDiff, Nat.reduceAdd, Nat.reduceSub, ↓reduceIte, Nat.reduceEqDiff, Nat.lt_add_one]
      rw [e6, err] at hGo
      obtain ⟨w1, w2, w3, w4, w5⟩ := hGo
      refine hK I' ⟨fr_tr (fr_tr f1 f16 (by simp) (by simp) : fr I I6 [D 0, D 1, D 3, D 14]) w1 (fun _ q => q) (by simp), fun i a b => ?_, w3, w4, w5, d_Sp_fr sp1 ?_ ?_⟩
      · rw [w2 i a, fr_ne1 f16 n3, o1 i b]
      · rw [w2 15 (by decide), fr_ne1 f16 n3]
      · rw [w1 _ (by simp; exact ⟨n9, n8, n10⟩), fr_ne1 f16 n8]
    · have q : m_high g = true := by simpa using q
      have eL : o_lockM g le = m_u (o_scr g le) 221 1 := by unfold o_lockM; rw [if_pos q]
      have eF : m_lfit g le = false := by unfold m_lfit; rw [q]; rfl
      rw [eL, eF] at hK
      refine hK _ ⟨fr_u2 fI4 (by simp), fun i a b => ?_, ?_, ?_, fun i j hi hj => ?_, d_Sp_fr sp1 ?_ ?_⟩
      · rw [mz_u_ne n3, fr_ne1 f14 n3, o1 i b]
      · rw [mz_u_ne n3]; exact m4
      · rw [mz_u_row, e4]
      · rw [mz_u_ne n4, fr_ne1 f14 n4, f1 _ (by simp; exact ⟨n5, n6⟩)]; rfl
      · rw [mz_u_ne n3, fr_ne1 f14 n3]
      · rw [mz_u_ne n8, fr_ne1 f14 n8]
  have w39 : ∀ I1 : mz_I, fr I I1 [D 0, D 14] → I1 (D 0) 4 = zI many → (∀ i, i ≠ 15 → I1 (D 0) i = I (D 0) i) → d_Sp I1 D → mz_W G M_X12_locks K mz_nX 39 [some (.ref (D 0)), some (.int le), some (.int (zI (m_spin g))), some (.int 1), some (.int 0)] [] T I1 L (0, 0) := by
    intro I1 f1 m1 o1 sp1
    have e1 : I1 (D 1) = g := by rw [f1 _ (by simp; exact ⟨Ne.symm n3, n7⟩), hg]
    have hC1 : p_Mc I1 D := Mc_015 hU hM hC (fr_tr f1 fr_refl (by simp) (fun _ q => q))
    have v222 : I1 (D 1) 222 = zI (m_kd g) := by rw [e1]; exact q1
    have v223 : I1 (D 1) 223 = zI (m_st g) := by rw [e1]; exact q2
    have v225 : I1 (D 1) 225 = zI (m_r g) := by rw [e1]; exact q4
    have loop := mz_loop (N := 4) (fun i => mz_W G M_X12_locks K mz_nX 39 [some (.ref (D 0)), some (.int le), some (.int (zI (m_spin g))), some (.int (b2i (d_hi g i))), some (.int (zI i))] [] T I1 L (0, 0)) (by
      rw [hhi]
      refine mz_vc ok_X12_locks [39, 98] [(), (), (), (), (), (), (), (), (), (), (), (), (), (), (), (), (), (), (), (), (), (), (), (), (), (), (), (), (), ()] ?_
      simp only [cd_X12_locks, h0, r1, ix_221 t1, n_221, ix_222 t1, n_222, ix_223 t1, n_223, ix_224 t1, n_224, ix_225 t1, n_225, ix_233 t1, n_233, r_rn0, r_rnc, r_vk0, r_vkc, r_vks, r_kci, r_kcv, r_ild, r_ald, r_lld, r_dld, r_Li, r_La, r_Ll, r_Ld, r_Ki, r_Ka, r_Kl, r_Kd, r_Kn, r_ist, r_ast, r_lst, r_dst, r_iinc, r_int, r_lng, r_dbl, r_i2, r_i1, r_l2, r_lsh, r_i2z, r_l2z, r_i2l, r_l2i, r_i2d, r_lcmp, r_ddiv, r_dcmpl, r_dup, r_dup2, r_pop, r_one_int, r_one_ref, r_go, r_if, r_ic, r_tsw, r_lsw, r_sw0, r_swc, r_lk0, r_lkc, r_kp, r_gI, r_gL, r_gR, r_pI, r_pZ, r_pL, r_pR, r_gs, r_ia, r_ca, r_za, r_la, r_da, r_aa, r_ias, r_cas, r_zas, r_las, r_das, r_aas, r_acp, r_new, r_nwa, r_nwq, r_ret, r_irt, r_zrt, r_lrt, r_drt, r_art, r_thr, r_cV0, r_cV1, r_cV2, r_cV3, r_cV4, r_cV5, r_cI0, r_cS0, r_cS1, r_cS2, r_cS3, r_cX0, r_cX1, r_cX2, r_cX3, r_rc, r_oi, r_refx, r_i10, r_i01, r_rfs, r_mem0, r_memc, r_beq, r_kl0, r_klz, r_kl1i, r_kl1r, r_kl1n, r_kl1l, r_kl1d, List.length_cons, List.length_nil, List.getElem?_cons_zero, List.getElem?_cons_succ, List.set_cons_zero, List.set_cons_succ, true_and, and_true, not_true, not_false_eq_true, false_implies, true_implies, or_true, true_or, or_false, false_or, Bool.or_false, Bool.false_or, decide_false, decide_true, Nat.reduceLT, Nat.reduceLeDiff, Nat.reduceAdd, Nat.reduceSub, ↓reduceIte, Nat.reduceEqDiff, Nat.lt_add_one]
      refine ⟨fun _ => ?_, fun q => absurd (by decide) q⟩
      exact mz_forget (w98 I1 f1 m1 o1 sp1) rfl (mz_fg_s (mz_fg_s (mz_fg_s (mz_fg_s (mz_fg_n mz_fg_0)))))) (by
      intro i hi ih
      have bi := d_b_le (m_kd g) hk i hi (m_st g) hs
      have e : d_hi g (i + 1) = (d_hi g i && decide (20 ≤ m_r g + (d_b (m_kd g) i (m_st g)).2)) := rfl
      rw [e] at ih
      refine mz_vc ok_X12_locks [39, 98] [(), (), (), (), (), (), (), (), (), (), (), (), (), (), (), (), (), (), (), (), (), (), (), (), (), (), (), (), (), ()] ?_
      simp only [cd_X12_locks, h0, r1, ix_221 t1, n_221, ix_222 t1, n_222, ix_223 t1, n_223, ix_224 t1, n_224, ix_225 t1, n_225, ix_233 t1, n_233, b2i_0, v222, v223, v225, r_rn0, r_rnc, r_vk0, r_vkc, r_vks, r_kci, r_kcv, r_ild, r_ald, r_lld, r_dld, r_Li, r_La, r_Ll, r_Ld, r_Ki, r_Ka, r_Kl, r_Kd, r_Kn, r_ist, r_ast, r_lst, r_dst, r_iinc, r_int, r_lng, r_dbl, r_i2, r_i1, r_l2, r_lsh, r_i2z, r_l2z, r_i2l, r_l2i, r_i2d, r_lcmp, r_ddiv, r_dcmpl, r_dup, r_dup2, r_pop, r_one_int, r_one_ref, r_go, r_if, r_ic, r_tsw, r_lsw, r_sw0, r_swc, r_lk0, r_lkc, r_kp, r_gI, r_gL, r_gR, r_pI, r_pZ, r_pL, r_pR, r_gs, r_ia, r_ca, r_za, r_la, r_da, r_aa, r_ias, r_cas, r_zas, r_las, r_das, r_aas, r_acp, r_new, r_nwa, r_nwq, r_ret, r_irt, r_zrt, r_lrt, r_drt, r_art, r_thr, r_cV0, r_cV1, r_cV2, r_cV3, r_cV4, r_cV5, r_cI0, r_cS0, r_cS1, r_cS2, r_cS3, r_cX0, r_cX1, r_cX2, r_cX3, r_rc, r_oi, r_refx, r_i10, r_i01, r_rfs, r_mem0, r_memc, r_beq, r_kl0, r_klz, r_kl1i, r_kl1r, r_kl1n, r_kl1l, r_kl1d, List.length_cons, List.length_nil, List.getElem?_cons_zero, List.getElem?_cons_succ, List.set_cons_zero, List.set_cons_succ, true_and, and_true, not_true, not_false_eq_true, false_implies, true_implies, or_true, true_or, or_false, false_or, Bool.or_false, Bool.false_or, decide_false, decide_true, Nat.reduceLT, Nat.reduceLeDiff, Nat.reduceAdd, Nat.reduceSub, ↓reduceIte, Nat.reduceEqDiff, Nat.lt_add_one]
      rw [z_1]
      refine ⟨z_no (b := 4) (by omega) (by omega) hi, fun _ => ⟨fun q => ?_, fun q => ?_⟩⟩
      · rw [q] at ih; exact ih
      · have q : d_hi g i = true := by simpa using q
        rw [q, Bool.true_and] at ih
        refine c_boxedM hM hC1 hk hs hi ?_
        simp only [cd_X12_locks, h0, r1, ix_221 t1, n_221, ix_222 t1, n_222, ix_223 t1, n_223, ix_224 t1, n_224, ix_225 t1, n_225, ix_233 t1, n_233, r_rn0, r_rnc, r_vk0, r_vkc, r_vks, r_kci, r_kcv, r_ild, r_ald, r_lld, r_dld, r_Li, r_La, r_Ll, r_Ld, r_Ki, r_Ka, r_Kl, r_Kd, r_Kn, r_ist, r_ast, r_lst, r_dst, r_iinc, r_int, r_lng, r_dbl, r_i2, r_i1, r_l2, r_lsh, r_i2z, r_l2z, r_i2l, r_l2i, r_i2d, r_lcmp, r_ddiv, r_dcmpl, r_dup, r_dup2, r_pop, r_one_int, r_one_ref, r_go, r_if, r_ic, r_tsw, r_lsw, r_sw0, r_swc, r_lk0, r_lkc, r_kp, r_gI, r_gL, r_gR, r_pI, r_pZ, r_pL, r_pR, r_gs, r_ia, r_ca, r_za, r_la, r_da, r_aa, r_ias, r_cas, r_zas, r_las, r_das, r_aas, r_acp, r_new, r_nwa, r_nwq, r_ret, r_irt, r_zrt, r_lrt, r_drt, r_art, r_thr, r_cV0, r_cV1, r_cV2, r_cV3, r_cV4, r_cV5, r_cI0, r_cS0, r_cS1, r_cS2, r_cS3, r_cX0, r_cX1, r_cX2, r_cX3, r_rc, r_oi, r_refx, r_i10, r_i01, r_rfs, r_mem0, r_memc, r_beq, r_kl0, r_klz, r_kl1i, r_kl1r, r_kl1n, r_kl1l, r_kl1d, List.length_cons, List.length_nil, List.getElem?_cons_zero, List.getElem?_cons_succ, List.set_cons_zero, List.set_cons_succ, true_and, and_true, not_true, not_false_eq_true, false_implies, true_implies, or_true, true_or, or_false, false_or, Bool.or_false, Bool.false_or, decide_false, decide_true, Nat.reduceLT, Nat.reduceLeDiff, Nat.reduceAdd, Nat.reduceSub, ↓reduceIte, Nat.reduceEqDiff, Nat.lt_add_one]
        rw [show d_bw (m_kd g) (m_st g) i 1 = (d_b (m_kd g) i (m_st g)).2 from rfl, z_add, show (20 : Int32) = zI 20 from rfl, z_lt (by omega) (by omega), z_1]
        refine ⟨fun q2 => ?_, fun q2 => ?_⟩
        · rw [decide_eq_false (by omega)] at ih; exact ih
        · rw [decide_eq_true (by omega)] at ih; exact ih) 0 (Nat.zero_le _)
    exact loop
  refine mz_ofl mk_X12_locks rfl (Nat.le_of_ble_eq_true rfl) (Nat.le_of_ble_eq_true rfl) [some (.ref (D 0)), none, none, none, none] rfl ?_
  refine mz_vc ok_X12_locks [39] [(), (), (), (), (), (), (), (), (), (), (), (), (), (), (), (), (), (), (), (), (), (), (), (), (), (), (), (), (), ()] ?_
  simp only [cd_X12_locks, h0, r1, ix_221 t1, n_221, ix_222 t1, n_222, ix_223 t1, n_223, ix_224 t1, n_224, ix_225 t1, n_225, ix_233 t1, n_233, r_rn0, r_rnc, r_vk0, r_vkc, r_vks, r_kci, r_kcv, r_ild, r_ald, r_lld, r_dld, r_Li, r_La, r_Ll, r_Ld, r_Ki, r_Ka, r_Kl, r_Kd, r_Kn, r_ist, r_ast, r_lst, r_dst, r_iinc, r_int, r_lng, r_dbl, r_i2, r_i1, r_l2, r_lsh, r_i2z, r_l2z, r_i2l, r_l2i, r_i2d, r_lcmp, r_ddiv, r_dcmpl, r_dup, r_dup2, r_pop, r_one_int, r_one_ref, r_go, r_if, r_ic, r_tsw, r_lsw, r_sw0, r_swc, r_lk0, r_lkc, r_kp, r_gI, r_gL, r_gR, r_pI, r_pZ, r_pL, r_pR, r_gs, r_ia, r_ca, r_za, r_la, r_da, r_aa, r_ias, r_cas, r_zas, r_las, r_das, r_aas, r_acp, r_new, r_nwa, r_nwq, r_ret, r_irt, r_zrt, r_lrt, r_drt, r_art, r_thr, r_cV0, r_cV1, r_cV2, r_cV3, r_cV4, r_cV5, r_cI0, r_cS0, r_cS1, r_cS2, r_cS3, r_cX0, r_cX1, r_cX2, r_cX3, r_rc, r_oi, r_refx, r_i10, r_i01, r_rfs, r_mem0, r_memc, r_beq, r_kl0, r_klz, r_kl1i, r_kl1r, r_kl1n, r_kl1l, r_kl1d, List.length_cons, List.length_nil, List.getElem?_cons_zero, List.getElem?_cons_succ, List.set_cons_zero, List.set_cons_succ, true_and, and_true, not_true, not_false_eq_true, false_implies, true_implies, or_true, true_or, or_false, false_or, Bool.or_false, Bool.false_or, decide_false, decide_true, Nat.reduceLT, Nat.reduceLeDiff, Nat.reduceAdd, Nat.reduceSub, ↓reduceIte, Nat.reduceEqDiff, Nat.lt_add_one]
  have v222 : I (D 1) 222 = zI (m_kd g) := by rw [hg]; exact q1
  have v223 : I (D 1) 223 = zI (m_st g) := by rw [hg]; exact q2
  have v224 : I (D 1) 224 = zI (m_c g) := by rw [hg]; exact q3
  rw [v222, v223, v224]
  refine c_leastM hM hC hk hs hw hSp (fun I1 f1 o1 sp1 => ?_)
  rw [hle9]
  simp only [cd_X12_locks, h0, r1, ix_221 t1, n_221, ix_222 t1, n_222, ix_223 t1, n_223, ix_224 t1, n_224, ix_225 t1, n_225, ix_233 t1, n_233, r_rn0, r_rnc, r_vk0, r_vkc, r_vks, r_kci, r_kcv, r_ild, r_ald, r_lld, r_dld, r_Li, r_La, r_Ll, r_Ld, r_Ki, r_Ka, r_Kl, r_Kd, r_Kn, r_ist, r_ast, r_lst, r_dst, r_iinc, r_int, r_lng, r_dbl, r_i2, r_i1, r_l2, r_lsh, r_i2z, r_l2z, r_i2l, r_l2i, r_i2d, r_lcmp, r_ddiv, r_dcmpl, r_dup, r_dup2, r_pop, r_one_int, r_one_ref, r_go, r_if, r_ic, r_tsw, r_lsw, r_sw0, r_swc, r_lk0, r_lkc, r_kp, r_gI, r_gL, r_gR, r_pI, r_pZ, r_pL, r_pR, r_gs, r_ia, r_ca, r_za, r_la, r_da, r_aa, r_ias, r_cas, r_zas, r_las, r_das, r_aas, r_acp, r_new, r_nwa, r_nwq, r_ret, r_irt, r_zrt, r_lrt, r_drt, r_art, r_thr, r_cV0, r_cV1, r_cV2, r_cV3, r_cV4, r_cV5, r_cI0, r_cS0, r_cS1, r_cS2, r_cS3, r_cX0, r_cX1, r_cX2, r_cX3, r_rc, r_oi, r_refx, r_i10, r_i01, r_rfs, r_mem0, r_memc, r_beq, r_kl0, r_klz, r_kl1i, r_kl1r, r_kl1n, r_kl1l, r_kl1d, List.length_cons, List.length_nil, List.getElem?_cons_zero, List.getElem?_cons_succ, List.set_cons_zero, List.set_cons_succ, true_and, and_true, not_true, not_false_eq_true, false_implies, true_implies, or_true, true_or, or_false, false_or, Bool.or_false, Bool.false_or, decide_false, decide_true, Nat.reduceLT, Nat.reduceLeDiff, Nat.reduceAdd, Nat.reduceSub, ↓reduceIte, Nat.reduceEqDiff, Nat.lt_add_one]
  have e1 : I1 (D 1) = g := by rw [f1 _ (by simp; exact ⟨Ne.symm n3, n7⟩), hg]
  refine c_spinM hM (by rw [e1]; exact hp.1) ?_
  rw [e1]
  simp only [cd_X12_locks, h0, r1, ix_221 t1, n_221, ix_222 t1, n_222, ix_223 t1, n_223, ix_224 t1, n_224, ix_225 t1, n_225, ix_233 t1, n_233, r_rn0, r_rnc, r_vk0, r_vkc, r_vks, r_kci, r_kcv, r_ild, r_ald, r_lld, r_dld, r_Li, r_La, r_Ll, r_Ld, r_Ki, r_Ka, r_Kl, r_Kd, r_Kn, r_ist, r_ast, r_lst, r_dst, r_iinc, r_int, r_lng, r_dbl, r_i2, r_i1, r_l2, r_lsh, r_i2z, r_l2z, r_i2l, r_l2i, r_i2d, r_lcmp, r_ddiv, r_dcmpl, r_dup, r_dup2, r_pop, r_one_int, r_one_ref, r_go, r_if, r_ic, r_tsw, r_lsw, r_sw0, r_swc, r_lk0, r_lkc, r_kp, r_gI, r_gL, r_gR, r_pI, r_pZ, r_pL, r_pR, r_gs, r_ia, r_ca, r_za, r_la, r_da, r_aa, r_ias, r_cas, r_zas, r_las, r_das, r_aas, r_acp, r_new, r_nwa, r_nwq, r_ret, r_irt, r_zrt, r_lrt, r_drt, r_art, r_thr, r_cV0, r_cV1, r_cV2, r_cV3, r_cV4, r_cV5, r_cI0, r_cS0, r_cS1, r_cS2, r_cS3, r_cX0, r_cX1, r_cX2, r_cX3, r_rc, r_oi, r_refx, r_i10, r_i01, r_rfs, r_mem0, r_memc, r_beq, r_kl0, r_klz, r_kl1i, r_kl1r, r_kl1n, r_kl1l, r_kl1d, List.length_cons, List.length_nil, List.getElem?_cons_zero, List.getElem?_cons_succ, List.set_cons_zero, List.set_cons_succ, true_and, and_true, not_true, not_false_eq_true, false_implies, true_implies, or_true, true_or, or_false, false_or, Bool.or_false, Bool.false_or, decide_false, decide_true, Nat.reduceLT, Nat.reduceLeDiff, Nat.reduceAdd, Nat.reduceSub, ↓reduceIte, Nat.reduceEqDiff, Nat.lt_add_one]
  exact w39 I1 f1 (by rw [o1 4 (by decide)]; exact hm) o1 sp1
end MODV
