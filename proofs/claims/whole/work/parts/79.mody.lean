/-! the reference's search: spots -/
section MODY
variable {G : mz_G} {K : mz_K} {T : mz_T} {I : mz_I} {L : mz_L}
theorem n_ix2 {T : mz_T} {a n kd : Nat} (i : Nat) (h : (a, kd, n) ∈ T.1) (hi : i < n) (hn : n < 1073741824) : mz_ix T kd a (zI (i : Int)) := n_ix i h hi hn
def y_e (x : s_P) : Nat := x.1 * 448 + (x.2.1 + 3).toNat * 28 + (x.2.2 + 3).toNat
def y_d (n : Nat) : s_P := (n / 448, ((n % 448 / 28 : Nat) : Int) - 3, ((n % 28 : Nat) : Int) - 3)
theorem y_e_lt {m : Nat → Int32} {x : s_P} (hk : m_kd m < 7) (h : x_in m x) : y_e x < 1792 := by
  have := x_in_b hk h; have := h.1; unfold y_e; omega
theorem y_de {m : Nat → Int32} {x : s_P} (hk : m_kd m < 7) (h : x_in m x) : y_d (y_e x) = x := by
  have := x_in_b hk h; have := h.1
  obtain ⟨s, c, r⟩ := x
  unfold y_d y_e
  simp only at *
  refine Prod.ext ?_ (Prod.ext ?_ ?_)
  · simp only; omega
  · simp only; omega
  · simp only; omega
def y_S (m : Nat → Int32) (I : mz_I) (D : Nat → Nat) (Q : List s_P) : Prop := I (D 0) 18 = zI (Q.length : Nat) ∧ Q.Nodup ∧ (∀ x, x ∈ Q → x_in m x) ∧ (∀ j, j < Q.length → I (D 17) j = zI (y_e (Q.getD j (0, 0, 0)) : Nat)) ∧ (∀ sp, sp < 1792 → I (D 16) sp = b2i (Q.any (fun y => y_e y == sp)))
theorem y_any {m : Nat → Int32} {Q : List s_P} {x : s_P} (hk : m_kd m < 7) (hq : ∀ x, x ∈ Q → x_in m x) (h : x_in m x) : Q.any (fun y => y_e y == y_e x) = true ↔ x ∈ Q := by
  rw [List.any_eq_true]
  constructor
  · rintro ⟨y, hy, e⟩
    have e : y_e y = y_e x := by simpa using e
    have := y_de hk (hq y hy)
    rw [e, y_de hk h] at this
    rw [this]; exact hy
  · intro hx
    exact ⟨x, hx, by simp⟩
theorem y_len {m : Nat → Int32} {Q : List s_P} (hk : m_kd m < 7) (hn : Q.Nodup) (hq : ∀ x, x ∈ Q → x_in m x) : Q.length ≤ 1792 := by
  have h1 : (Q.map y_e).Nodup := l_map hn (fun x y hx hy e => by rw [← y_de hk (hq x hx), ← y_de hk (hq y hy), e])
  have := l_pig (n := 1792) h1 (fun v hv => by
    obtain ⟨x, hx, e⟩ := List.mem_map.mp hv
    rw [← e]; exact y_e_lt hk (hq x hx))
  rwa [List.length_map] at this
/-- a queue with one more, if it fits -/
def y_re (m : Nat → Int32) (Q : List s_P) (x : s_P) : List s_P := if x_ft m x then x_re Q x else Q
theorem nar_b : vp_nar .boolean 1 = 1 ∧ vp_nar .boolean 0 = 0 := by decide
theorem c_reachesM {D : Nat → Nat} {m : Nat → Int32} {Q : List s_P} {s : Nat} {c r : Int} (hM : p_Mo T D) (hC : p_Mc I D) (hm : I (D 1) = m) (hp : d_pos m) (hQ : y_S m I D Q) (hs : s < 4) (hc : -100 ≤ c ∧ c ≤ 100) (hr : -100 ≤ r ∧ r ≤ 100)
    (h : ∀ I', fr I I' [D 0, D 16, D 17] → (∀ i, i ≠ 18 → I' (D 0) i = I (D 0) i) → y_S m I' D (y_re m Q (s, c, r)) → K none T I' L) : mz_Ctr G M_X12_reaches [.ref (D 0), .int (zI s), .int (zI c), .int (zI r)] T I L K := by
  refine mz_apartC fun hU => ?_
  obtain ⟨h0, ⟨r1, r2, r3, r5, r6, r8, r9, r10, r11, r12, r13, r14, r16, r17, r19, r20, r22, -⟩, ⟨t1, t2, t3, t5, t6, t8, t9, t10, t11, t12, t13, t14, t16, t17, t19, t20, t22, -⟩, -⟩ := id hM
  have n1 : D 16 ≠ D 0 := mz_ne hU t16 h0 (by decide)
  have n2 : D 17 ≠ D 0 := mz_ne hU t17 h0 (by decide)
  have n3 : D 16 ≠ D 17 := mz_ne hU t16 t17 (by decide)
  have n4 : D 1 ≠ D 0 := mz_ne hU t1 h0 (by decide)
  obtain ⟨⟨q1, q2, q3, q4⟩, hk, -, -, -⟩ := id hp
  obtain ⟨w1, w2, w3, w4, w5⟩ := id hQ
  have v222 : I (D 1) 222 = zI (m_kd m) := by rw [hm]; exact q1
  refine mz_ofl mk_X12_reaches rfl (Nat.le_of_ble_eq_true rfl) (Nat.le_of_ble_eq_true rfl) [some (.ref (D 0)), some (.int (zI s)), some (.int (zI c)), some (.int (zI r)), none] rfl ?_
  refine mz_vc ok_X12_reaches [] [(), (), (), (), (), (), (), (), (), (), (), (), (), (), (), (), (), (), (), (), (), (), (), (), (), (), (), (), (), ()] ?_
  simp only [cd_X12_reaches, h0, r1, r16, r17, ix_222 t1, n_222, v222, w1, r_rn0, r_rnc, r_vk0, r_vkc, r_vks, r_kci, r_kcv, r_ild, r_ald, r_lld, r_dld, r_Li, r_La, r_Ll, r_Ld, r_Ki, r_Ka, r_Kl, r_Kd, r_Kn, r_ist, r_ast, r_lst, r_dst, r_iinc, r_int, r_lng, r_dbl, r_i2, r_i1, r_l2, r_lsh, r_i2z, r_l2z, r_i2l, r_l2i, r_i2d, r_lcmp, r_ddiv, r_dcmpl, r_dup, r_dup2, r_pop, r_one_int, r_one_ref, r_go, r_if, r_ic, r_tsw, r_lsw, r_sw0, r_swc, r_lk0, r_lkc, r_kp, r_gI, r_gL, r_gR, r_pI, r_pZ, r_pL, r_pR, r_gs, r_ia, r_ca, r_za, r_la, r_da, r_aa, r_ias, r_cas, r_zas, r_las, r_das, r_aas, r_acp, r_new, r_nwa, r_nwq, r_ret, r_irt, r_zrt, r_lrt, r_drt, r_art, r_thr, r_cV0, r_cV1, r_cV2, r_cV3, r_cV4, r_cV5, r_cI0, r_cS0, r_cS1, r_cS2, r_cS3, r_cX0, r_cX1, r_cX2, r_cX3, r_rc, r_oi, r_refx, r_i10, r_i01, r_rfs, r_mem0, r_memc, r_beq, r_kl0, r_klz, r_kl1i, r_kl1r, r_kl1n, r_kl1l, r_kl1d, List.length_cons, List.length_nil, List.getElem?_cons_zero, List.getElem?_cons_succ, List.set_cons_zero, List.set_cons_succ, true_and, and_true, not_true, not_false_eq_true, false_implies, true_implies, or_true, true_or, or_false, false_or, Bool.or_false, Bool.false_or, decide_false, decide_true, Nat.reduceLT, Nat.reduceLeDiff, Nat.reduceAdd, Nat.reduceSub, ↓reduceIte, Nat.reduceEqDiff, Nat.lt_add_one]
  refine c_fitsM hM hC hk hs hc hr ?_
  rw [hm]
  have ef : s_fit (s_fm m) (m_kd m) s c r = x_ft m (s, c, r) := rfl
  rw [ef]
  simp only [cd_X12_reaches, h0, r1, r16, r17, ix_222 t1, n_222, v222, w1, b2i_0, r_rn0, r_rnc, r_vk0, r_vkc, r_vks, r_kci, r_kcv, r_ild, r_ald, r_lld, r_dld, r_Li, r_La, r_Ll, r_Ld, r_Ki, r_Ka, r_Kl, r_Kd, r_Kn, r_ist, r_ast, r_lst, r_dst, r_iinc, r_int, r_lng, r_dbl, r_i2, r_i1, r_l2, r_lsh, r_i2z, r_l2z, r_i2l, r_l2i, r_i2d, r_lcmp, r_ddiv, r_dcmpl, r_dup, r_dup2, r_pop, r_one_int, r_one_ref, r_go, r_if, r_ic, r_tsw, r_lsw, r_sw0, r_swc, r_lk0, r_lkc, r_kp, r_gI, r_gL, r_gR, r_pI, r_pZ, r_pL, r_pR, r_gs, r_ia, r_ca, r_za, r_la, r_da, r_aa, r_ias, r_cas, r_zas, r_las, r_das, r_aas, r_acp, r_new, r_nwa, r_nwq, r_ret, r_irt, r_zrt, r_lrt, r_drt, r_art, r_thr, r_cV0, r_cV1, r_cV2, r_cV3, r_cV4, r_cV5, r_cI0, r_cS0, r_cS1, r_cS2, r_cS3, r_cX0, r_cX1, r_cX2, r_cX3, r_rc, r_oi, r_refx, r_i10, r_i01, r_rfs, r_mem0, r_memc, r_beq, r_kl0, r_klz, r_kl1i, r_kl1r, r_kl1n, r_kl1l, r_kl1d, List.length_cons, List.length_nil, List.getElem?_cons_zero, List.getElem?_cons_succ, List.set_cons_zero, List.set_cons_succ, true_and, and_true, not_true, not_false_eq_true, false_implies, true_implies, or_true, true_or, or_false, false_or, Bool.or_false, Bool.false_or, decide_false, decide_true, Nat.reduceLT, Nat.reduceLeDiff, Nat.reduceAdd, Nat.reduceSub, ↓reduceIte, Nat.reduceEqDiff, Nat.lt_add_one]
  have e1 : (448 : Int32) * zI s + 28 * (zI c + 3) + zI r + 3 = zI (448 * (s : Int) + 28 * (c + 3) + r + 3) := by
    rw [l_3, show (448 : Int32) = zI 448 from rfl, show (28 : Int32) = zI 28 from rfl, z_mul, z_add, z_mul, z_add, z_add, z_add]
  rw [e1]
  unfold y_re at h
  refine ⟨fun q => ?_, fun q => ?_⟩
  · rw [if_neg (by rw [q]; decide)] at h
    exact h I fr_refl (fun _ _ => rfl) hQ
  · have q : x_ft m (s, c, r) = true := by simpa using q
    rw [if_pos q] at h
    have hx : x_in m (s, c, r) := ⟨hs, q⟩
    have hb := x_in_b hk hx
    have hb1 : (-3 ≤ c ∧ c ≤ 9) ∧ (-3 ≤ r ∧ r ≤ 21) := hb
    have he := y_e_lt hk hx
    have e2 : (448 * (s : Int) + 28 * (c + 3) + r + 3) = ((y_e (s, c, r) : Nat) : Int) := by
      unfold y_e; simp only; omega
    rw [e2, z_nat (by omega), Int.toNat_natCast, w5 _ he]
    refine ⟨n_ix2 _ t16 he (by decide), fun q2 => ?_, fun q2 => ?_⟩
    · have hmem : (s, c, r) ∈ Q := (y_any hk w3 hx).mp (by
        cases e : Q.any (fun y => y_e y == y_e (s, c, r)) with
        | true => rfl
        | false => rw [e] at q2; exact absurd rfl q2)
      refine h I fr_refl (fun _ _ => rfl) ?_
      unfold x_re; rw [if_pos hmem]; exact hQ
    · have hmem : (s, c, r) ∉ Q := fun e => by rw [(y_any hk w3 hx).mpr e] at q2; exact q2 (by decide)
      have hre := x_re_ok w2 w3 hx
      have hl := y_len hk hre.1 hre.2
      have eq : x_re Q (s, c, r) = Q ++ [(s, c, r)] := if_neg hmem
      rw [eq] at hl h hre
      rw [List.length_append] at hl
      have hl : Q.length + 1 ≤ 1792 := hl
      rw [nar_b.1, mz_u_ne (Ne.symm n1), w1, z_nat (by omega), Int.toNat_natCast, mz_u_ne (Ne.symm n2), mz_u_ne (Ne.symm n1), w1, z_1]
      refine ⟨n_ix2 _ t16 he (by decide), n_ix2 _ t17 (by omega) (by decide), ?_⟩
      refine h _ ?_ ?_ ⟨?_, hre.1, hre.2, ?_, ?_⟩
      · exact fr_u2 (fr_u2 (fr_u2 fr_refl (by simp)) (by simp)) (by simp)
      · intro i hi; rw [mz_u_nk hi, mz_u_ne (Ne.symm n2), mz_u_ne (Ne.symm n1)]
      · rw [mz_u_eq, List.length_append]; rfl
      · intro j hj
        rw [List.length_append] at hj
        have hj : j < Q.length + 1 := hj
        rw [mz_u_ne n2]
        by_cases e : j = Q.length
        · subst e
          rw [mz_u_eq, List.getD_eq_getElem?_getD, List.getElem?_append_right (Nat.le_refl _), Nat.sub_self]; rfl
        · rw [mz_u_nk e, mz_u_ne (Ne.symm n3), w4 j (by omega), List.getD_eq_getElem?_getD, List.getD_eq_getElem?_getD, List.getElem?_append_left (by omega)]
      · intro sp hsp
        rw [mz_u_ne n1, mz_u_ne n3, List.any_append]
        by_cases e : sp = y_e (s, c, r)
        · rw [e, mz_u_eq]; simp [b2i]
        · rw [mz_u_nk e, w5 sp hsp]
          have : (y_e (s, c, r) == sp) = false := by simpa using fun q => e q.symm
          simp [this]
theorem c_turnsM {D : Nat → Nat} {m : Nat → Int32} {Q : List s_P} {x : s_P} {d : Int} (hM : p_Mo T D) (hC : p_Mc I D) (hm : I (D 1) = m) (hp : d_pos m) (hQ : y_S m I D Q) (hxQ : x ∈ Q) (hd : d = -1 ∨ d = 1)
    (h : ∀ I', fr I I' [D 0, D 16, D 17] → (∀ i, i ≠ 18 → I' (D 0) i = I (D 0) i) → y_S m I' D (x_re Q (x_tn m x d)) → K none T I' L) : mz_Ctr G M_X12_turns [.ref (D 0), .int (zI x.1), .int (zI x.2.1), .int (zI x.2.2), .int (zI d)] T I L K := by
  obtain ⟨h0, ⟨r1, -⟩, ⟨t1, -⟩, -⟩ := id hM
  obtain ⟨⟨q1, q2, q3, q4⟩, hk, -, -, -⟩ := id hp
  have hx := hQ.2.2.1 x hxQ
  have hb := x_in_b hk hx
  have hkm := s_km_le (kd := m_kd m)
  have hrot := s_rot_lt (s := x.1) (d := d)
  have v222 : I (D 1) 222 = zI (m_kd m) := by rw [hm]; exact q1
  have loop := mz_loop (N := s_km (m_kd m)) (fun i => (∀ j, j < i → x_ft m (x_kp m x d j) = false) → mz_W G M_X12_turns K mz_nX 13 [some (.ref (D 0)), some (.int (zI x.1)), some (.int (zI x.2.1)), some (.int (zI x.2.2)), some (.int (zI d)), some (.int (zI (s_rot x.1 d))), some (.int (zI i)), none, none] [] T I L (0, 0)) ?_ ?_ 0 (Nat.zero_le _) (fun j hj => absurd hj (Nat.not_lt_zero _))
  · refine mz_ofl mk_X12_turns rfl (Nat.le_of_ble_eq_true rfl) (Nat.le_of_ble_eq_true rfl) [some (.ref (D 0)), some (.int (zI x.1)), some (.int (zI x.2.1)), some (.int (zI x.2.2)), some (.int (zI d)), none, none, none, none] rfl ?_
    refine mz_vc ok_X12_turns [13] [(), (), (), (), (), (), (), (), (), (), (), (), (), (), (), (), (), (), (), (), (), (), (), (), (), (), (), (), (), ()] ?_
    simp only [cd_X12_turns, h0, r1, ix_222 t1, n_222, v222, r_rn0, r_rnc, r_vk0, r_vkc, r_vks, r_kci, r_kcv, r_ild, r_ald, r_lld, r_dld, r_Li, r_La, r_Ll, r_Ld, r_Ki, r_Ka, r_Kl, r_Kd, r_Kn, r_ist, r_ast, r_lst, r_dst, r_iinc, r_int, r_lng, r_dbl, r_i2, r_i1, r_l2, r_lsh, r_i2z, r_l2z, r_i2l, r_l2i, r_i2d, r_lcmp, r_ddiv, r_dcmpl, r_dup, r_dup2, r_pop, r_one_int, r_one_ref, r_go, r_if, r_ic, r_tsw, r_lsw, r_sw0, r_swc, r_lk0, r_lkc, r_kp, r_gI, r_gL, r_gR, r_pI, r_pZ, r_pL, r_pR, r_gs, r_ia, r_ca, r_za, r_la, r_da, r_aa, r_ias, r_cas, r_zas, r_las, r_das, r_aas, r_acp, r_new, r_nwa, r_nwq, r_ret, r_irt, r_zrt, r_lrt, r_drt, r_art, r_thr, r_cV0, r_cV1, r_cV2, r_cV3, r_cV4, r_cV5, r_cI0, r_cS0, r_cS1, r_cS2, r_cS3, r_cX0, r_cX1, r_cX2, r_cX3, r_rc, r_oi, r_refx, r_i10, r_i01, r_rfs, r_mem0, r_memc, r_beq, r_kl0, r_klz, r_kl1i, r_kl1r, r_kl1n, r_kl1l, r_kl1d, List.length_cons, List.length_nil, List.getElem?_cons_zero, List.getElem?_cons_succ, List.set_cons_zero, List.set_cons_succ, true_and, and_true, not_true, not_false_eq_true, false_implies, true_implies, or_true, true_or, or_false, false_or, Bool.or_false, Bool.false_or, decide_false, decide_true, Nat.reduceLT, Nat.reduceLeDiff, Nat.reduceAdd, Nat.reduceSub, ↓reduceIte, Nat.reduceEqDiff, Nat.lt_add_one]
    have ez : (zI (x.1 : Int) + zI d + 4) &&& 3 = zI (s_rot x.1 d) := by
      rcases hd with e | e <;> subst e
      · exact (z_rot3 _ hx.1).2
      · exact (z_rot3 _ hx.1).1
    rw [ez]
    exact loop
  · intro hall
    refine mz_vc ok_X12_turns [13] [(), (), (), (), (), (), (), (), (), (), (), (), (), (), (), (), (), (), (), (), (), (), (), (), (), (), (), (), (), ()] ?_
    simp only [cd_X12_turns, h0, r1, ix_222 t1, n_222, v222, r_rn0, r_rnc, r_vk0, r_vkc, r_vks, r_kci, r_kcv, r_ild, r_ald, r_lld, r_dld, r_Li, r_La, r_Ll, r_Ld, r_Ki, r_Ka, r_Kl, r_Kd, r_Kn, r_ist, r_ast, r_lst, r_dst, r_iinc, r_int, r_lng, r_dbl, r_i2, r_i1, r_l2, r_lsh, r_i2z, r_l2z, r_i2l, r_l2i, r_i2d, r_lcmp, r_ddiv, r_dcmpl, r_dup, r_dup2, r_pop, r_one_int, r_one_ref, r_go, r_if, r_ic, r_tsw, r_lsw, r_sw0, r_swc, r_lk0, r_lkc, r_kp, r_gI, r_gL, r_gR, r_pI, r_pZ, r_pL, r_pR, r_gs, r_ia, r_ca, r_za, r_la, r_da, r_aa, r_ias, r_cas, r_zas, r_las, r_das, r_aas, r_acp, r_new, r_nwa, r_nwq, r_ret, r_irt, r_zrt, r_lrt, r_drt, r_art, r_thr, r_cV0, r_cV1, r_cV2, r_cV3, r_cV4, r_cV5, r_cI0, r_cS0, r_cS1, r_cS2, r_cS3, r_cX0, r_cX1, r_cX2, r_cX3, r_rc, r_oi, r_refx, r_i10, r_i01, r_rfs, r_mem0, r_memc, r_beq, r_kl0, r_klz, r_kl1i, r_kl1r, r_kl1n, r_kl1l, r_kl1d, List.length_cons, List.length_nil, List.getElem?_cons_zero, List.getElem?_cons_succ, List.set_cons_zero, List.set_cons_succ, true_and, and_true, not_true, not_false_eq_true, false_implies, true_implies, or_true, true_or, or_false, false_or, Bool.or_false, Bool.false_or, decide_false, decide_true, Nat.reduceLT, Nat.reduceLeDiff, Nat.reduceAdd, Nat.reduceSub, ↓reduceIte, Nat.reduceEqDiff, Nat.lt_add_one]
    refine c_kickManyM hk ?_
    simp only [cd_X12_turns, h0, r1, ix_222 t1, n_222, v222, r_rn0, r_rnc, r_vk0, r_vkc, r_vks, r_kci, r_kcv, r_ild, r_ald, r_lld, r_dld, r_Li, r_La, r_Ll, r_Ld, r_Ki, r_Ka, r_Kl, r_Kd, r_Kn, r_ist, r_ast, r_lst, r_dst, r_iinc, r_int, r_lng, r_dbl, r_i2, r_i1, r_l2, r_lsh, r_i2z, r_l2z, r_i2l, r_l2i, r_i2d, r_lcmp, r_ddiv, r_dcmpl, r_dup, r_dup2, r_pop, r_one_int, r_one_ref, r_go, r_if, r_ic, r_tsw, r_lsw, r_sw0, r_swc, r_lk0, r_lkc, r_kp, r_gI, r_gL, r_gR, r_pI, r_pZ, r_pL, r_pR, r_gs, r_ia, r_ca, r_za, r_la, r_da, r_aa, r_ias, r_cas, r_zas, r_las, r_das, r_aas, r_acp, r_new, r_nwa, r_nwq, r_ret, r_irt, r_zrt, r_lrt, r_drt, r_art, r_thr, r_cV0, r_cV1, r_cV2, r_cV3, r_cV4, r_cV5, r_cI0, r_cS0, r_cS1, r_cS2, r_cS3, r_cX0, r_cX1, r_cX2, r_cX3, r_rc, r_oi, r_refx, r_i10, r_i01, r_rfs, r_mem0, r_memc, r_beq, r_kl0, r_klz, r_kl1i, r_kl1r, r_kl1n, r_kl1l, r_kl1d, List.length_cons, List.length_nil, List.getElem?_cons_zero, List.getElem?_cons_succ, List.set_cons_zero, List.set_cons_succ, true_and, and_true, not_true, not_false_eq_true, false_implies, true_implies, or_true, true_or, or_false, false_or, Bool.or_false, Bool.false_or, decide_false, decide_true, Nat.reduceLT, Nat.reduceLeDiff, Nat.reduceAdd, Nat.reduceSub, ↓reduceIte, Nat.reduceEqDiff, Nat.lt_add_one]
    refine ⟨fun _ => ?_, fun q => absurd (Int32.le_refl _) q⟩
    have e : x_tn m x d = x := x_tkn _ _ (fun j _ b => hall j (by omega))
    refine h I fr_refl (fun _ _ => rfl) ?_
    rw [e]; unfold x_re; rw [if_pos hxQ]; exact hQ
  · intro i hi ih hall
    have k1 := s_kt_lt (kd := m_kd m) (i := 2 * i) (by omega)
    have k2 := s_kt_lt (kd := m_kd m) (i := 2 * i + 1) (by omega)
    have k3 : -2 ≤ d * s_kt (m_kd m) (2 * i) ∧ d * s_kt (m_kd m) (2 * i) ≤ 2 := by rcases hd with e | e <;> subst e <;> omega
    refine mz_vc ok_X12_turns [13] [(), (), (), (), (), (), (), (), (), (), (), (), (), (), (), (), (), (), (), (), (), (), (), (), (), (), (), (), (), ()] ?_
    simp only [cd_X12_turns, h0, r1, ix_222 t1, n_222, v222, r_rn0, r_rnc, r_vk0, r_vkc, r_vks, r_kci, r_kcv, r_ild, r_ald, r_lld, r_dld, r_Li, r_La, r_Ll, r_Ld, r_Ki, r_Ka, r_Kl, r_Kd, r_Kn, r_ist, r_ast, r_lst, r_dst, r_iinc, r_int, r_lng, r_dbl, r_i2, r_i1, r_l2, r_lsh, r_i2z, r_l2z, r_i2l, r_l2i, r_i2d, r_lcmp, r_ddiv, r_dcmpl, r_dup, r_dup2, r_pop, r_one_int, r_one_ref, r_go, r_if, r_ic, r_tsw, r_lsw, r_sw0, r_swc, r_lk0, r_lkc, r_kp, r_gI, r_gL, r_gR, r_pI, r_pZ, r_pL, r_pR, r_gs, r_ia, r_ca, r_za, r_la, r_da, r_aa, r_ias, r_cas, r_zas, r_las, r_das, r_aas, r_acp, r_new, r_nwa, r_nwq, r_ret, r_irt, r_zrt, r_lrt, r_drt, r_art, r_thr, r_cV0, r_cV1, r_cV2, r_cV3, r_cV4, r_cV5, r_cI0, r_cS0, r_cS1, r_cS2, r_cS3, r_cX0, r_cX1, r_cX2, r_cX3, r_rc, r_oi, r_refx, r_i10, r_i01, r_rfs, r_mem0, r_memc, r_beq, r_kl0, r_klz, r_kl1i, r_kl1r, r_kl1n, r_kl1l, r_kl1d, List.length_cons, List.length_nil, List.getElem?_cons_zero, List.getElem?_cons_succ, List.set_cons_zero, List.set_cons_succ, true_and, and_true, not_true, not_false_eq_true, false_implies, true_implies, or_true, true_or, or_false, false_or, Bool.or_false, Bool.false_or, decide_false, decide_true, Nat.reduceLT, Nat.reduceLeDiff, Nat.reduceAdd, Nat.reduceSub, ↓reduceIte, Nat.reduceEqDiff, Nat.lt_add_one]
    refine c_kickManyM hk ?_
    simp only [cd_X12_turns, h0, r1, ix_222 t1, n_222, v222, r_rn0, r_rnc, r_vk0, r_vkc, r_vks, r_kci, r_kcv, r_ild, r_ald, r_lld, r_dld, r_Li, r_La, r_Ll, r_Ld, r_Ki, r_Ka, r_Kl, r_Kd, r_Kn, r_ist, r_ast, r_lst, r_dst, r_iinc, r_int, r_lng, r_dbl, r_i2, r_i1, r_l2, r_lsh, r_i2z, r_l2z, r_i2l, r_l2i, r_i2d, r_lcmp, r_ddiv, r_dcmpl, r_dup, r_dup2, r_pop, r_one_int, r_one_ref, r_go, r_if, r_ic, r_tsw, r_lsw, r_sw0, r_swc, r_lk0, r_lkc, r_kp, r_gI, r_gL, r_gR, r_pI, r_pZ, r_pL, r_pR, r_gs, r_ia, r_ca, r_za, r_la, r_da, r_aa, r_ias, r_cas, r_zas, r_las, r_das, r_aas, r_acp, r_new, r_nwa, r_nwq, r_ret, r_irt, r_zrt, r_lrt, r_drt, r_art, r_thr, r_cV0, r_cV1, r_cV2, r_cV3, r_cV4, r_cV5, r_cI0, r_cS0, r_cS1, r_cS2, r_cS3, r_cX0, r_cX1, r_cX2, r_cX3, r_rc, r_oi, r_refx, r_i10, r_i01, r_rfs, r_mem0, r_memc, r_beq, r_kl0, r_klz, r_kl1i, r_kl1r, r_kl1n, r_kl1l, r_kl1d, List.length_cons, List.length_nil, List.getElem?_cons_zero, List.getElem?_cons_succ, List.set_cons_zero, List.set_cons_succ, true_and, and_true, not_true, not_false_eq_true, false_implies, true_implies, or_true, true_or, or_false, false_or, Bool.or_false, Bool.false_or, decide_false, decide_true, Nat.reduceLT, Nat.reduceLeDiff, Nat.reduceAdd, Nat.reduceSub, ↓reduceIte, Nat.reduceEqDiff, Nat.lt_add_one]
    refine ⟨z_no (by omega) (by omega) hi, fun _ => ?_⟩
    refine c_kickM (w := 0) hM hC hk hi (by decide) ?_
    rw [if_pos rfl]
    simp only [cd_X12_turns, h0, r1, ix_222 t1, n_222, v222, r_rn0, r_rnc, r_vk0, r_vkc, r_vks, r_kci, r_kcv, r_ild, r_ald, r_lld, r_dld, r_Li, r_La, r_Ll, r_Ld, r_Ki, r_Ka, r_Kl, r_Kd, r_Kn, r_ist, r_ast, r_lst, r_dst, r_iinc, r_int, r_lng, r_dbl, r_i2, r_i1, r_l2, r_lsh, r_i2z, r_l2z, r_i2l, r_l2i, r_i2d, r_lcmp, r_ddiv, r_dcmpl, r_dup, r_dup2, r_pop, r_one_int, r_one_ref, r_go, r_if, r_ic, r_tsw, r_lsw, r_sw0, r_swc, r_lk0, r_lkc, r_kp, r_gI, r_gL, r_gR, r_pI, r_pZ, r_pL, r_pR, r_gs, r_ia, r_ca, r_za, r_la, r_da, r_aa, r_ias, r_cas, r_zas, r_las, r_das, r_aas, r_acp, r_new, r_nwa, r_nwq, r_ret, r_irt, r_zrt, r_lrt, r_drt, r_art, r_thr, r_cV0, r_cV1, r_cV2, r_cV3, r_cV4, r_cV5, r_cI0, r_cS0, r_cS1, r_cS2, r_cS3, r_cX0, r_cX1, r_cX2, r_cX3, r_rc, r_oi, r_refx, r_i10, r_i01, r_rfs, r_mem0, r_memc, r_beq, r_kl0, r_klz, r_kl1i, r_kl1r, r_kl1n, r_kl1l, r_kl1d, List.length_cons, List.length_nil, List.getElem?_cons_zero, List.getElem?_cons_succ, List.set_cons_zero, List.set_cons_succ, true_and, and_true, not_true, not_false_eq_true, false_implies, true_implies, or_true, true_or, or_false, false_or, Bool.or_false, Bool.false_or, decide_false, decide_true, Nat.reduceLT, Nat.reduceLeDiff, Nat.reduceAdd, Nat.reduceSub, ↓reduceIte, Nat.reduceEqDiff, Nat.lt_add_one]
    rw [z_add]
    refine c_kickM (w := 1) hM hC hk hi (by decide) ?_
    rw [if_neg (by decide)]
    simp only [cd_X12_turns, h0, r1, ix_222 t1, n_222, v222, r_rn0, r_rnc, r_vk0, r_vkc, r_vks, r_kci, r_kcv, r_ild, r_ald, r_lld, r_dld, r_Li, r_La, r_Ll, r_Ld, r_Ki, r_Ka, r_Kl, r_Kd, r_Kn, r_ist, r_ast, r_lst, r_dst, r_iinc, r_int, r_lng, r_dbl, r_i2, r_i1, r_l2, r_lsh, r_i2z, r_l2z, r_i2l, r_l2i, r_i2d, r_lcmp, r_ddiv, r_dcmpl, r_dup, r_dup2, r_pop, r_one_int, r_one_ref, r_go, r_if, r_ic, r_tsw, r_lsw, r_sw0, r_swc, r_lk0, r_lkc, r_kp, r_gI, r_gL, r_gR, r_pI, r_pZ, r_pL, r_pR, r_gs, r_ia, r_ca, r_za, r_la, r_da, r_aa, r_ias, r_cas, r_zas, r_las, r_das, r_aas, r_acp, r_new, r_nwa, r_nwq, r_ret, r_irt, r_zrt, r_lrt, r_drt, r_art, r_thr, r_cV0, r_cV1, r_cV2, r_cV3, r_cV4, r_cV5, r_cI0, r_cS0, r_cS1, r_cS2, r_cS3, r_cX0, r_cX1, r_cX2, r_cX3, r_rc, r_oi, r_refx, r_i10, r_i01, r_rfs, r_mem0, r_memc, r_beq, r_kl0, r_klz, r_kl1i, r_kl1r, r_kl1n, r_kl1l, r_kl1d, List.length_cons, List.length_nil, List.getElem?_cons_zero, List.getElem?_cons_succ, List.set_cons_zero, List.set_cons_succ, true_and, and_true, not_true, not_false_eq_true, false_implies, true_implies, or_true, true_or, or_false, false_or, Bool.or_false, Bool.false_or, decide_false, decide_true, Nat.reduceLT, Nat.reduceLeDiff, Nat.reduceAdd, Nat.reduceSub, ↓reduceIte, Nat.reduceEqDiff, Nat.lt_add_one]
    rw [z_add]
    refine c_fitsM hM hC hk hrot (by omega) (by omega) ?_
    rw [hm]
    have em : s_fit (s_fm m) (m_kd m) (s_rot x.1 d) (x.2.1 + d * s_kt (m_kd m) (2 * i)) (x.2.2 + s_kt (m_kd m) (2 * i + 1)) = x_ft m (x_kp m x d i) := rfl
    rw [em]
    simp only [cd_X12_turns, h0, r1, ix_222 t1, n_222, v222, b2i_0, r_rn0, r_rnc, r_vk0, r_vkc, r_vks, r_kci, r_kcv, r_ild, r_ald, r_lld, r_dld, r_Li, r_La, r_Ll, r_Ld, r_Ki, r_Ka, r_Kl, r_Kd, r_Kn, r_ist, r_ast, r_lst, r_dst, r_iinc, r_int, r_lng, r_dbl, r_i2, r_i1, r_l2, r_lsh, r_i2z, r_l2z, r_i2l, r_l2i, r_i2d, r_lcmp, r_ddiv, r_dcmpl, r_dup, r_dup2, r_pop, r_one_int, r_one_ref, r_go, r_if, r_ic, r_tsw, r_lsw, r_sw0, r_swc, r_lk0, r_lkc, r_kp, r_gI, r_gL, r_gR, r_pI, r_pZ, r_pL, r_pR, r_gs, r_ia, r_ca, r_za, r_la, r_da, r_aa, r_ias, r_cas, r_zas, r_las, r_das, r_aas, r_acp, r_new, r_nwa, r_nwq, r_ret, r_irt, r_zrt, r_lrt, r_drt, r_art, r_thr, r_cV0, r_cV1, r_cV2, r_cV3, r_cV4, r_cV5, r_cI0, r_cS0, r_cS1, r_cS2, r_cS3, r_cX0, r_cX1, r_cX2, r_cX3, r_rc, r_oi, r_refx, r_i10, r_i01, r_rfs, r_mem0, r_memc, r_beq, r_kl0, r_klz, r_kl1i, r_kl1r, r_kl1n, r_kl1l, r_kl1d, List.length_cons, List.length_nil, List.getElem?_cons_zero, List.getElem?_cons_succ, List.set_cons_zero, List.set_cons_succ, true_and, and_true, not_true, not_false_eq_true, false_implies, true_implies, or_true, true_or, or_false, false_or, Bool.or_false, Bool.false_or, decide_false, decide_true, Nat.reduceLT, Nat.reduceLeDiff, Nat.reduceAdd, Nat.reduceSub, ↓reduceIte, Nat.reduceEqDiff, Nat.lt_add_one]
    refine ⟨fun q => ?_, fun q => ?_⟩
    · rw [z_1]
      exact mz_forget (ih (fun j hj => by
        by_cases c : j = i
        · rw [c]; exact q
        · exact hall j (by omega))) rfl (mz_fg_s (mz_fg_s (mz_fg_s (mz_fg_s (mz_fg_s (mz_fg_s (mz_fg_s (mz_fg_n (mz_fg_n mz_fg_0)))))))))
    · have q : x_ft m (x_kp m x d i) = true := by simpa using q
      refine c_reachesM hM hC hm hp hQ hrot (by omega) (by omega) (fun I' f1 o1 s1 => ?_)
      simp only [cd_X12_turns, h0, r1, ix_222 t1, n_222, v222, r_rn0, r_rnc, r_vk0, r_vkc, r_vks, r_kci, r_kcv, r_ild, r_ald, r_lld, r_dld, r_Li, r_La, r_Ll, r_Ld, r_Ki, r_Ka, r_Kl, r_Kd, r_Kn, r_ist, r_ast, r_lst, r_dst, r_iinc, r_int, r_lng, r_dbl, r_i2, r_i1, r_l2, r_lsh, r_i2z, r_l2z, r_i2l, r_l2i, r_i2d, r_lcmp, r_ddiv, r_dcmpl, r_dup, r_dup2, r_pop, r_one_int, r_one_ref, r_go, r_if, r_ic, r_tsw, r_lsw, r_sw0, r_swc, r_lk0, r_lkc, r_kp, r_gI, r_gL, r_gR, r_pI, r_pZ, r_pL, r_pR, r_gs, r_ia, r_ca, r_za, r_la, r_da, r_aa, r_ias, r_cas, r_zas, r_las, r_das, r_aas, r_acp, r_new, r_nwa, r_nwq, r_ret, r_irt, r_zrt, r_lrt, r_drt, r_art, r_thr, r_cV0, r_cV1, r_cV2, r_cV3, r_cV4, r_cV5, r_cI0, r_cS0, r_cS1, r_cS2, r_cS3, r_cX0, r_cX1, r_cX2, r_cX3, r_rc, r_oi, r_refx, r_i10, r_i01, r_rfs, r_mem0, r_memc, r_beq, r_kl0, r_klz, r_kl1i, r_kl1r, r_kl1n, r_kl1l, r_kl1d, List.length_cons, List.length_nil, List.getElem?_cons_zero, List.getElem?_cons_succ, List.set_cons_zero, List.set_cons_succ, true_and, and_true, not_true, not_false_eq_true, false_implies, true_implies, or_true, true_or, or_false, false_or, Bool.or_false, Bool.false_or, decide_false, decide_true, Nat.reduceLT, Nat.reduceLeDiff, Nat.reduceAdd, Nat.reduceSub, ↓reduceIte, Nat.reduceEqDiff, Nat.lt_add_one]
      have e : x_tn m x d = x_kp m x d i := x_tkt q _ _ (Nat.zero_le _) (by omega) (fun j _ b => hall j b)
      refine h I' f1 o1 ?_
      rw [e]
      have e2 : y_re m Q (s_rot x.1 d, x.2.1 + d * s_kt (m_kd m) (2 * i), x.2.2 + s_kt (m_kd m) (2 * i + 1)) = x_re Q (x_kp m x d i) := if_pos q
      rw [e2] at s1; exact s1
end MODY
