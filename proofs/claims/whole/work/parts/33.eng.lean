/-! the engine: inputs that move the piece -/
section ENG
variable {G : mz_G} {K : mz_K} {T : mz_T} {I : mz_I} {L : mz_L}
theorem s_fit_b {e : Nat → Bool} {kd s : Nat} {c r : Int} (hk : kd < 7) (hs : s < 4) (h : s_fit e kd s c r = true) : (-3 ≤ c ∧ c ≤ 9) ∧ (-3 ≤ r ∧ r ≤ 21) := by
  have h0 := s_fit_t.mp h 0 (by decide)
  have hc := s_cell_lt (kd := kd) (s := s) (j := 0) hk hs (by decide)
  by_cases q : 0 ≤ c + (s_cell kd s 0 % 10 : Nat) ∧ c + (s_cell kd s 0 % 10 : Nat) < 10 ∧ 0 ≤ r + (s_cell kd s 0 / 10 : Nat) ∧ r + (s_cell kd s 0 / 10 : Nat) < 22
  · omega
  · rw [s_at_out (by omega)] at h0; cases h0
theorem p_R.now {A : z_A} {B : Nat} {m : Nat → Int32} (h : p_R T I L A B m) (hl : m 221 = 0) : p_Pos T I A.p (m_kd m) (m_st m) (m_c m) (m_r m) ∧ (m 222 = zI (m_kd m) ∧ m 223 = zI (m_st m) ∧ m 224 = zI (m_c m) ∧ m 225 = zI (m_r m)) ∧ s_fit (s_fm m) (m_kd m) (m_st m) (m_c m) (m_r m) = true := by
  obtain ⟨kd, s, c, r, hp, ho⟩ := h.pos
  obtain ⟨⟨h1, h2, h3, h4⟩, h5⟩ := ho hl
  obtain ⟨p1, p2, p3, p4, p5, pk, ps, pc, pr⟩ := id hp
  have e1 : m_kd m = kd := by unfold m_kd; rw [h1, z_nat (by omega)]; rfl
  have e2 : m_st m = s := by unfold m_st; rw [h2, z_nat (by omega)]; rfl
  have e3 : m_c m = c := by unfold m_c; rw [h3, z_toInt (by omega)]
  have e4 : m_r m = r := by unfold m_r; rw [h4, z_toInt (by omega)]
  rw [e1, e2, e3, e4]
  exact ⟨hp, ⟨h1, h2, h3, h4⟩, h5⟩
/-- the engine and its game -/
def p_E (T : mz_T) (en : Nat) (A : z_A) : Prop := (en, 0, 1) ∈ T.1 ∧ T.2 en 0 = some A.g
/-- the numbers of the piece -/
def p_pc (J : mz_I) (x : Nat) (M : Nat → Int32) : Prop := ∀ i, 1 ≤ i → i ≤ 6 → J x i = M (225 + i)
theorem pc_nr {J : mz_I} {x p : Nat} {M : Nat → Int32} (h : p_pc J x M) (hp : J p 3 = M 225) : p_pc (w_nr J x p) x (o_set2 M) := by
  intro i a b
  unfold w_nr o_set2
  rw [hp, h 5 (by decide) (by decide), show 225 + 5 = 230 from rfl]
  have : i = 1 ∨ i = 2 ∨ i = 3 ∨ i = 4 ∨ i = 5 ∨ i = 6 := by omega
  by_cases q : M 225 < M 230
  · rw [if_pos q, if_pos q]
    rcases this with e | e | e | e | e | e <;> subst e <;> simp [mz_u_at, m_u, h 1 (by decide) (by decide), h 4 (by decide) (by decide), h 6 (by decide) (by decide)]
  · rw [if_neg q, if_neg q]; exact h i a b
theorem nr_ne {J : mz_I} {x p a : Nat} (h : a ≠ x) : w_nr J x p a = J a := by
  unfold w_nr
  split
  · rw [mz_u_ne h, mz_u_ne h, mz_u_ne h]
  · rfl
theorem set2_out {M : Nat → Int32} {j : Nat} (h : j ≠ 227 ∧ j ≠ 228 ∧ j ≠ 230) : o_set2 M j = M j := by
  unfold o_set2
  split
  · rw [m_u_ne h.2.1, m_u_ne h.1, m_u_ne h.2.2]
  · rfl
theorem set1_out {M : Nat → Int32} {j : Nat} {could : Bool} {lim : Int32} (h : j ≠ 227 ∧ j ≠ 228) : o_set1 M could lim j = M j := by
  unfold o_set1
  split
  · rw [m_u_ne h.2, m_u_ne h.1]
  · rfl
theorem settle_R {A : z_A} {B kd s : Nat} {c r : Int} {m M : Nat → Int32} {J : mz_I} {could : Bool} {lim kk : Int32} (hU : ∀ a x y, (a, x) ∈ T.1 → (a, y) ∈ T.1 → x = y) (h : p_R T I L A B m) (hl : m 221 = 0) (hf : fr I J [A.x, A.p]) (hp : p_Pos T J A.p kd s c r) (hfit : s_fit (s_fm m) kd s c r = true)
    (hJ : ∀ i, 1 ≤ i → i ≤ 6 → i ≠ 6 → J A.x i = M (225 + i)) (hM : ∀ j, j < 222 ∨ 231 < j ∨ j = 226 → M j = m j) (hq : M 222 = zI kd ∧ M 223 = zI s ∧ M 224 = zI c ∧ M 225 = zI r) (hin : M 229 = m 229 + 1) (hk : M 231 = kk) (hB : B < 1000000000) :
    fr I (w_nr (if could = false ∧ J A.x 3 < lim then mz_u (mz_u (mz_u J A.x 6 kk) A.x 2 0) A.x 3 (J A.x 3 + 1) else mz_u J A.x 6 kk) A.x A.p) [A.x, A.p] ∧
    p_R T (w_nr (if could = false ∧ J A.x 3 < lim then mz_u (mz_u (mz_u J A.x 6 kk) A.x 2 0) A.x 3 (J A.x 3 + 1) else mz_u J A.x 6 kk) A.x A.p) L A (B + 1) (o_settles M could lim) := by
  obtain ⟨⟨g1, g2, g3, g4, g5⟩, ⟨f1, f2, f3⟩, ⟨x1, x2, x3⟩, ⟨b1, b2, b3⟩, ⟨s1, s2, s3, s4, s5⟩⟩ := id h.sh
  have hne : A.p ≠ A.x := mz_ne hU x3 x1 (by decide)
  obtain ⟨p1, p2, p3, p4, p5, p6⟩ := id hp
  have e3 : J A.x 3 = M 228 := hJ 3 (by decide) (by decide) (by decide)
  have hpc : ∀ J1, J1 = (if could = false ∧ J A.x 3 < lim then mz_u (mz_u (mz_u J A.x 6 kk) A.x 2 0) A.x 3 (J A.x 3 + 1) else mz_u J A.x 6 kk) → p_pc J1 A.x (o_set1 M could lim) ∧ J1 A.p = J A.p ∧ fr I J1 [A.x, A.p] := by
    intro J1 e
    rw [e, e3]
    by_cases q : could = false ∧ M 228 < lim
    · rw [if_pos q]
      refine ⟨?_, by rw [mz_u_ne hne, mz_u_ne hne, mz_u_ne hne], fr_u2 (fr_u2 (fr_u2 hf (by simp)) (by simp)) (by simp)⟩
      intro i a b
      unfold o_set1
      rw [if_pos q]
      have : i = 1 ∨ i = 2 ∨ i = 3 ∨ i = 4 ∨ i = 5 ∨ i = 6 := by omega
      rcases this with e | e | e | e | e | e <;> subst e <;> simp [mz_u_at, m_u, hk, hJ 1 (by decide) (by decide) (by decide), hJ 4 (by decide) (by decide) (by decide), hJ 5 (by decide) (by decide) (by decide)]
    · rw [if_neg q]
      refine ⟨?_, by rw [mz_u_ne hne], fr_u2 hf (by simp)⟩
      intro i a b
      unfold o_set1
      rw [if_neg q]
      by_cases e6 : i = 6
      · subst e6; rw [mz_u_eq, hk]
      · rw [mz_u_nk e6]; exact hJ i a b e6
  obtain ⟨a1, a2, a3⟩ := hpc _ rfl
  generalize (if could = false ∧ J A.x 3 < lim then mz_u (mz_u (mz_u J A.x 6 kk) A.x 2 0) A.x 3 (J A.x 3 + 1) else mz_u J A.x 6 kk) = J1 at a1 a2 a3
  have hw : fr I (w_nr J1 A.x A.p) [A.x, A.p] := fr_tr1 a3 (fun a ha => nr_ne (by simpa using ha)) (by simp : ∀ a, a ∈ [A.x] → a ∈ [A.x, A.p])
  refine ⟨hw, p_R_pc hU h (Nat.le_succ B) ?_ hw ?_ hl ?_ hfit (pc_nr a1 ?_) ?_ ?_⟩
  · intro j hj
    unfold o_settles
    rw [set2_out (by omega), set1_out (by omega)]; exact hM j (by omega)
  · exact ⟨p1, by rw [nr_ne hne, a2]; exact p2, by rw [nr_ne hne, a2]; exact p3, by rw [nr_ne hne, a2]; exact p4, by rw [nr_ne hne, a2]; exact p5, p6⟩
  · unfold o_settles
    rw [set2_out (by decide), set1_out (by decide), set2_out (by decide), set1_out (by decide), set2_out (by decide), set1_out (by decide), set2_out (by decide), set1_out (by decide)]
    exact hq
  · rw [a2, p5, set1_out (by decide), hq.2.2.2]
  · obtain ⟨_, _, ⟨n, hn, e⟩, _⟩ := h.live hl
    refine ⟨n + 1, by omega, ?_⟩
    unfold o_settles
    rw [set2_out (by decide), set1_out (by decide), hin, e, z_1]
  · obtain ⟨_, _, _, h4⟩ := h.live hl
    unfold o_settles
    rw [set2_out (by decide), set1_out (by decide), hM 226 (by decide)]; exact h4
theorem in_R {A : z_A} {B : Nat} {m : Nat → Int32} (hU : ∀ a x y, (a, x) ∈ T.1 → (a, y) ∈ T.1 → x = y) (h : p_R T I L A B m) (hl : m 221 = 0) {J : mz_I} (hf : fr I J [A.x, A.p]) (hp : p_Pos T J A.p (m_kd m) (m_st m) (m_c m) (m_r m)) (hx : ∀ i, 1 ≤ i → i ≤ 6 → J A.x i = o_in m (225 + i)) : p_R T J L A (B + 1) (o_in m) := by
  obtain ⟨hp0, hq, hfit⟩ := h.now hl
  obtain ⟨_, _, ⟨n, hn, e⟩, h4⟩ := h.live hl
  refine p_R_pc hU h (Nat.le_succ B) (fun j hj => m_u_ne (by omega)) hf hp hl ?_ hfit hx ⟨n + 1, by omega, ?_⟩ ?_
  · unfold o_in
    rw [m_u_ne (by decide), m_u_ne (by decide), m_u_ne (by decide), m_u_ne (by decide)]; exact hq
  · unfold o_in; rw [m_u_eq, e, z_1]
  · unfold o_in; rw [m_u_ne (by decide)]; exact h4
theorem c_shiftE {en : Nat} {A : z_A} {B : Nat} {m : Nat → Int32} {d : Int} (hE : p_E T en A) (h : p_R T I L A B m) (hl : m 221 = 0) (hd : d = -1 ∨ d = 1) (hB : B < 1000000000)
    (hk : ∀ I', fr I I' [A.x, A.p] → p_R T I' L A (B + 1) (o_shift m d (I A.g 8)) → K (some (.int (b2i (m_fit m d 0)))) T I' L) : mz_Ctr G M_X1_shiftPiece [.ref en, .int (zI d)] T I L K := by
  refine mz_apartC fun hU => ?_
  obtain ⟨e1, e2⟩ := hE
  obtain ⟨⟨g1, g2, g3, g4, g5⟩, hF, hX, hB9, hS⟩ := id h.sh
  obtain ⟨f1, f2, f3⟩ := id hF
  obtain ⟨x1, x2, x3⟩ := id hX
  obtain ⟨hp, hq, hfit⟩ := h.now hl
  obtain ⟨q1, q2, q3, q4⟩ := hq
  obtain ⟨hpc, -, -, -⟩ := h.live hl
  have hne : A.p ≠ A.x := mz_ne hU x3 x1 (by decide)
  have hkx : A.k ≠ A.x := mz_ne hU f2 x1 (by decide)
  have hkp : A.k ≠ A.p := mz_ne hU f2 x3 (by decide)
  have hgx : A.g ≠ A.x := mz_ne hU g1 x1 (by decide)
  have hgp : A.g ≠ A.p := mz_ne hU g1 x3 (by decide)
  have hkd : m_kd m < 7 ∧ m_st m < 4 := ⟨hp.2.2.2.2.2.1, hp.2.2.2.2.2.2.1⟩
  have hb := s_fit_b hkd.1 hkd.2 hfit
  refine mz_ofl mk_X1_shiftPiece rfl (Nat.le_of_ble_eq_true rfl) (Nat.le_of_ble_eq_true rfl) [some (.ref en), some (.int (zI d)), none, none, none] rfl ?_
  refine mz_vc ok_X1_shiftPiece [] [(), (), (), (), (), (), (), (), (), (), (), (), (), (), (), (), (), (), (), (), (), (), (), (), (), (), (), (), (), ()] ?_
  simp only [cd_X1_shiftPiece, e1, e2, g1, g2, g3, x1, x2, x3, r_rn0, r_rnc, r_vk0, r_vkc, r_vks, r_kci, r_kcv, r_ild, r_ald, r_lld, r_dld, r_Li, r_La, r_Ll, r_Ld, r_Ki, r_Ka, r_Kl, r_Kd, r_Kn, r_ist, r_ast, r_lst, r_dst, r_iinc, r_int, r_lng, r_dbl, r_i2, r_i1, r_l2, r_lsh, r_i2z, r_l2z, r_i2l, r_l2i, r_i2d, r_lcmp, r_ddiv, r_dcmpl, r_dup, r_dup2, r_pop, r_one_int, r_one_ref, r_go, r_if, r_ic, r_tsw, r_lsw, r_sw0, r_swc, r_lk0, r_lkc, r_kp, r_gI, r_gL, r_gR, r_pI, r_pZ, r_pL, r_pR, r_gs, r_ia, r_ca, r_za, r_la, r_da, r_aa, r_ias, r_cas, r_zas, r_las, r_das, r_aas, r_acp, r_new, r_nwa, r_nwq, r_ret, r_irt, r_zrt, r_lrt, r_drt, r_art, r_thr, r_cV0, r_cV1, r_cV2, r_cV3, r_cV4, r_cV5, r_cI0, r_cS0, r_cS1, r_cS2, r_cS3, r_cX0, r_cX1, r_cX2, r_cX3, r_rc, r_oi, r_refx, r_i10, r_i01, r_rfs, r_mem0, r_memc, r_beq, r_kl0, r_klz, r_kl1i, r_kl1r, r_kl1n, r_kl1l, r_kl1d, List.length_cons, List.length_nil, List.getElem?_cons_zero, List.getElem?_cons_succ, List.set_cons_zero, List.set_cons_succ, true_and, and_true, not_true, not_false_eq_true, false_implies, true_implies, or_true, true_or, or_false, false_or, Bool.or_false, Bool.false_or, decide_false, decide_true, Nat.reduceLT, Nat.reduceLeDiff, Nat.reduceAdd, Nat.reduceSub, ↓reduceIte, Nat.reduceEqDiff, Nat.lt_add_one]
  refine c_canFall hp hF (by omega) ?_
  rw [s_fit_cg h.fl]
  simp only [cd_X1_shiftPiece, e1, e2, g1, g2, g3, x1, x2, x3, r_rn0, r_rnc, r_vk0, r_vkc, r_vks, r_kci, r_kcv, r_ild, r_ald, r_lld, r_dld, r_Li, r_La, r_Ll, r_Ld, r_Ki, r_Ka, r_Kl, r_Kd, r_Kn, r_ist, r_ast, r_lst, r_dst, r_iinc, r_int, r_lng, r_dbl, r_i2, r_i1, r_l2, r_lsh, r_i2z, r_l2z, r_i2l, r_l2i, r_i2d, r_lcmp, r_ddiv, r_dcmpl, r_dup, r_dup2, r_pop, r_one_int, r_one_ref, r_go, r_if, r_ic, r_tsw, r_lsw, r_sw0, r_swc, r_lk0, r_lkc, r_kp, r_gI, r_gL, r_gR, r_pI, r_pZ, r_pL, r_pR, r_gs, r_ia, r_ca, r_za, r_la, r_da, r_aa, r_ias, r_cas, r_zas, r_las, r_das, r_aas, r_acp, r_new, r_nwa, r_nwq, r_ret, r_irt, r_zrt, r_lrt, r_drt, r_art, r_thr, r_cV0, r_cV1, r_cV2, r_cV3, r_cV4, r_cV5, r_cI0, r_cS0, r_cS1, r_cS2, r_cS3, r_cX0, r_cX1, r_cX2, r_cX3, r_rc, r_oi, r_refx, r_i10, r_i01, r_rfs, r_mem0, r_memc, r_beq, r_kl0, r_klz, r_kl1i, r_kl1r, r_kl1n, r_kl1l, r_kl1d, List.length_cons, List.length_nil, List.getElem?_cons_zero, List.getElem?_cons_succ, List.set_cons_zero, List.set_cons_succ, true_and, and_true, not_true, not_false_eq_true, false_implies, true_implies, or_true, true_or, or_false, false_or, Bool.or_false, Bool.false_or, decide_false, decide_true, Nat.reduceLT, Nat.reduceLeDiff, Nat.reduceAdd, Nat.reduceSub, ↓reduceIte, Nat.reduceEqDiff, Nat.lt_add_one]
  have em : s_fit (s_fm m) (m_kd m) (m_st m) (m_c m) (m_r m - 1) = m_fit m 0 (-1) := by unfold m_fit; rw [Int.add_zero, Int.sub_eq_add_neg]
  rw [em]
  -- the input is counted
  have f1' : fr I (mz_u I A.x 4 (I A.x 4 + 1)) [A.x, A.p] := fr_u2 fr_refl (by simp)
  have hp1 : p_Pos T (mz_u I A.x 4 (I A.x 4 + 1)) A.p (m_kd m) (m_st m) (m_c m) (m_r m) := by
    obtain ⟨p1, p2, p3, p4, p5, p6⟩ := id hp
    exact ⟨p1, by rw [mz_u_ne hne]; exact p2, by rw [mz_u_ne hne]; exact p3, by rw [mz_u_ne hne]; exact p4, by rw [mz_u_ne hne]; exact p5, p6⟩
  have e4 : I A.x 4 = m 229 := hpc 4 (by decide) (by decide)
  refine c_moveBy (dr := 0) hp1 hF (by rcases hd with e | e <;> subst e <;> omega) (by omega) ?_ ?_
  · intro hm
    rw [mz_u_ne hkx, s_fit_cg h.fl, Int.add_zero] at hm
    have hmf : m_fit m d 0 = true := by unfold m_fit; rw [Int.add_zero]; exact hm
    simp only [cd_X1_shiftPiece, e1, e2, g1, g2, g3, x1, x2, x3, r_rn0, r_rnc, r_vk0, r_vkc, r_vks, r_kci, r_kcv, r_ild, r_ald, r_lld, r_dld, r_Li, r_La, r_Ll, r_Ld, r_Ki, r_Ka, r_Kl, r_Kd, r_Kn, r_ist, r_ast, r_lst, r_dst, r_iinc, r_int, r_lng, r_dbl, r_i2, r_i1, r_l2, r_lsh, r_i2z, r_l2z, r_i2l, r_l2i, r_i2d, r_lcmp, r_ddiv, r_dcmpl, r_dup, r_dup2, r_pop, r_one_int, r_one_ref, r_go, r_if, r_ic, r_tsw, r_lsw, r_sw0, r_swc, r_lk0, r_lkc, r_kp, r_gI, r_gL, r_gR, r_pI, r_pZ, r_pL, r_pR, r_gs, r_ia, r_ca, r_za, r_la, r_da, r_aa, r_ias, r_cas, r_zas, r_las, r_das, r_aas, r_acp, r_new, r_nwa, r_nwq, r_ret, r_irt, r_zrt, r_lrt, r_drt, r_art, r_thr, r_cV0, r_cV1, r_cV2, r_cV3, r_cV4, r_cV5, r_cI0, r_cS0, r_cS1, r_cS2, r_cS3, r_cX0, r_cX1, r_cX2, r_cX3, r_rc, r_oi, r_refx, r_i10, r_i01, r_rfs, r_mem0, r_memc, r_beq, r_kl0, r_klz, r_kl1i, r_kl1r, r_kl1n, r_kl1l, r_kl1d, List.length_cons, List.length_nil, List.getElem?_cons_zero, List.getElem?_cons_succ, List.set_cons_zero, List.set_cons_succ, true_and, and_true, not_true, not_false_eq_true, false_implies, true_implies, or_true, true_or, or_false, false_or, Bool.or_false, Bool.false_or, decide_false, decide_true, Nat.reduceLT, Nat.reduceLeDiff, Nat.reduceAdd, Nat.reduceSub, ↓reduceIte, Nat.reduceEqDiff, Nat.lt_add_one]
    rw [Int.add_zero]
    have fj : fr I (s_mv (mz_u I A.x 4 (I A.x 4 + 1)) A.p (m_c m + d) (m_r m)) [A.x, A.p] := fr_u2 (fr_u2 f1' (by simp)) (by simp)
    have hpj := p_Pos_mv (c' := m_c m + d) (r' := m_r m) hp1 (by rcases hd with e | e <;> subst e <;> omega) (by omega)
    refine c_noteInput hX ?_
    simp only [cd_X1_shiftPiece, e1, e2, g1, g2, g3, x1, x2, x3, r_rn0, r_rnc, r_vk0, r_vkc, r_vks, r_kci, r_kcv, r_ild, r_ald, r_lld, r_dld, r_Li, r_La, r_Ll, r_Ld, r_Ki, r_Ka, r_Kl, r_Kd, r_Kn, r_ist, r_ast, r_lst, r_dst, r_iinc, r_int, r_lng, r_dbl, r_i2, r_i1, r_l2, r_lsh, r_i2z, r_l2z, r_i2l, r_l2i, r_i2d, r_lcmp, r_ddiv, r_dcmpl, r_dup, r_dup2, r_pop, r_one_int, r_one_ref, r_go, r_if, r_ic, r_tsw, r_lsw, r_sw0, r_swc, r_lk0, r_lkc, r_kp, r_gI, r_gL, r_gR, r_pI, r_pZ, r_pL, r_pR, r_gs, r_ia, r_ca, r_za, r_la, r_da, r_aa, r_ias, r_cas, r_zas, r_las, r_das, r_aas, r_acp, r_new, r_nwa, r_nwq, r_ret, r_irt, r_zrt, r_lrt, r_drt, r_art, r_thr, r_cV0, r_cV1, r_cV2, r_cV3, r_cV4, r_cV5, r_cI0, r_cS0, r_cS1, r_cS2, r_cS3, r_cX0, r_cX1, r_cX2, r_cX3, r_rc, r_oi, r_refx, r_i10, r_i01, r_rfs, r_mem0, r_memc, r_beq, r_kl0, r_klz, r_kl1i, r_kl1r, r_kl1n, r_kl1l, r_kl1d, List.length_cons, List.length_nil, List.getElem?_cons_zero, List.getElem?_cons_succ, List.set_cons_zero, List.set_cons_succ, true_and, and_true, not_true, not_false_eq_true, false_implies, true_implies, or_true, true_or, or_false, false_or, Bool.or_false, Bool.false_or, decide_false, decide_true, Nat.reduceLT, Nat.reduceLeDiff, Nat.reduceAdd, Nat.reduceSub, ↓reduceIte, Nat.reduceEqDiff, Nat.lt_add_one]
    have eg : s_mv (mz_u I A.x 4 (I A.x 4 + 1)) A.p (m_c m + d) (m_r m) A.g = I A.g := by unfold s_mv; rw [mz_u_ne hgp, mz_u_ne hgp, mz_u_ne hgx]
    have hpx : A.x ≠ A.p := Ne.symm hne
    have ex : s_mv (mz_u I A.x 4 (I A.x 4 + 1)) A.p (m_c m + d) (m_r m) A.x = mz_u I A.x 4 (I A.x 4 + 1) A.x := by unfold s_mv; rw [mz_u_ne hpx, mz_u_ne hpx]
    rw [eg]
    have key := settle_R (M := m_u (m_u (o_in m) 224 (m 224 + zI d)) 231 (-1)) (could := m_fit m 0 (-1)) (lim := I A.g 8) (kk := -1) hU h hl fj hpj hm ?_ ?_ ?_ ?_ ?_ hB
    · rw [hmf] at hk
      refine hk _ key.1 ?_
      unfold o_shift
      rw [hmf, if_pos rfl]
      exact key.2
    · intro i a b c
      rw [ex]
      by_cases e : i = 4
      · subst e; rw [mz_u_eq, m_u_ne (by decide), m_u_ne (by decide)]; unfold o_in; rw [m_u_eq, e4]
      · rw [mz_u_nk e, m_u_ne (by omega), m_u_ne (by omega)]; unfold o_in; rw [m_u_ne (by omega)]; exact hpc i a b
    · intro j hj
      rw [m_u_ne (by omega), m_u_ne (by omega)]; unfold o_in; rw [m_u_ne (by omega)]
    · refine ⟨?_, ?_, ?_, ?_⟩
      · rw [m_u_ne (by decide), m_u_ne (by decide)]; unfold o_in; rw [m_u_ne (by decide)]; exact q1
      · rw [m_u_ne (by decide), m_u_ne (by decide)]; unfold o_in; rw [m_u_ne (by decide)]; exact q2
      · rw [m_u_ne (by decide), m_u_eq, q3, z_add]
      · rw [m_u_ne (by decide), m_u_ne (by decide)]; unfold o_in; rw [m_u_ne (by decide)]; exact q4
    · rw [m_u_ne (by decide), m_u_ne (by decide)]; unfold o_in; rw [m_u_eq]
    · exact m_u_eq
  · intro hm
    rw [mz_u_ne hkx, s_fit_cg h.fl, Int.add_zero] at hm
    have hmf : m_fit m d 0 = false := by unfold m_fit; rw [Int.add_zero]; exact hm
    simp only [cd_X1_shiftPiece, e1, e2, g1, g2, g3, x1, x2, x3, r_rn0, r_rnc, r_vk0, r_vkc, r_vks, r_kci, r_kcv, r_ild, r_ald, r_lld, r_dld, r_Li, r_La, r_Ll, r_Ld, r_Ki, r_Ka, r_Kl, r_Kd, r_Kn, r_ist, r_ast, r_lst, r_dst, r_iinc, r_int, r_lng, r_dbl, r_i2, r_i1, r_l2, r_lsh, r_i2z, r_l2z, r_i2l, r_l2i, r_i2d, r_lcmp, r_ddiv, r_dcmpl, r_dup, r_dup2, r_pop, r_one_int, r_one_ref, r_go, r_if, r_ic, r_tsw, r_lsw, r_sw0, r_swc, r_lk0, r_lkc, r_kp, r_gI, r_gL, r_gR, r_pI, r_pZ, r_pL, r_pR, r_gs, r_ia, r_ca, r_za, r_la, r_da, r_aa, r_ias, r_cas, r_zas, r_las, r_das, r_aas, r_acp, r_new, r_nwa, r_nwq, r_ret, r_irt, r_zrt, r_lrt, r_drt, r_art, r_thr, r_cV0, r_cV1, r_cV2, r_cV3, r_cV4, r_cV5, r_cI0, r_cS0, r_cS1, r_cS2, r_cS3, r_cX0, r_cX1, r_cX2, r_cX3, r_rc, r_oi, r_refx, r_i10, r_i01, r_rfs, r_mem0, r_memc, r_beq, r_kl0, r_klz, r_kl1i, r_kl1r, r_kl1n, r_kl1l, r_kl1d, List.length_cons, List.length_nil, List.getElem?_cons_zero, List.getElem?_cons_succ, List.set_cons_zero, List.set_cons_succ, true_and, and_true, not_true, not_false_eq_true, false_implies, true_implies, or_true, true_or, or_false, false_or, Bool.or_false, Bool.false_or, decide_false, decide_true, Nat.reduceLT, Nat.reduceLeDiff, Nat.reduceAdd, Nat.reduceSub, ↓reduceIte, Nat.reduceEqDiff, Nat.lt_add_one]
    rw [hmf] at hk
    refine hk _ f1' ?_
    unfold o_shift
    rw [hmf, if_neg (by decide)]
    refine in_R hU h hl f1' hp1 (fun i a b => ?_)
    unfold o_in
    by_cases e : i = 4
    · subst e; rw [mz_u_eq, m_u_eq, e4]
    · rw [mz_u_nk e, m_u_ne (by omega)]; exact hpc i a b
end ENG
