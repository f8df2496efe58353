/-! the search for placements: explore -/
section EXPL
variable {G : mz_G} {K : mz_K} {T : mz_T} {I : mz_I} {L : mz_L}
theorem c_shS {m : Nat → Int32} {p f k : Nat} {x : s_P} {d : Int} (hp : p_Pos T I p (m_kd m) x.1 x.2.1 x.2.2) (hx : x_in m x) (hF : p_Field T f k) (hfl : ∀ i, i < 220 → s_fl (I k) i = s_fm m i) (hd : d = -1 ∨ d = 1)
    (h : ∀ I' v, fr I I' [p] → p_Pos T I' p (m_kd m) (x_sh m x d).1 (x_sh m x d).2.1 (x_sh m x d).2.2 → K (some (.int v)) T I' L) : mz_Ctr G M_X8_moveBy [.ref p, .int (zI d), .int 0, .ref f] T I L K := by
  have hk : m_kd m < 7 := hp.2.2.2.2.2.1
  have hb := x_in_b hk hx
  refine c_moveBy (dr := 0) hp hF (by rcases hd with e | e <;> subst e <;> omega) (by omega) (fun q => ?_) (fun q => ?_)
  · rw [s_fit_cg hfl, Int.add_zero] at q
    have e : x_sh m x d = (x.1, x.2.1 + d, x.2.2) := if_pos q
    rw [Int.add_zero]
    refine h _ _ (fr_u2 (fr_u2 fr_refl (List.mem_singleton.mpr rfl)) (List.mem_singleton.mpr rfl)) ?_
    rw [e]
    exact p_Pos_mv hp (by rcases hd with e | e <;> subst e <;> omega) (by omega)
  · rw [s_fit_cg hfl, Int.add_zero] at q
    have e : x_sh m x d = x := if_neg (by unfold x_ft; rw [q]; decide)
    refine h _ _ fr_refl ?_
    rw [e]; exact hp
theorem c_dnS {m : Nat → Int32} {p f k : Nat} {x : s_P} (hp : p_Pos T I p (m_kd m) x.1 x.2.1 x.2.2) (hx : x_in m x) (hF : p_Field T f k) (hfl : ∀ i, i < 220 → s_fl (I k) i = s_fm m i)
    (h1 : ¬ x_rs m x → ∀ I', fr I I' [p] → p_Pos T I' p (m_kd m) (x_dn m x).1 (x_dn m x).2.1 (x_dn m x).2.2 → K (some (.int 1)) T I' L) (h2 : x_rs m x → K (some (.int 0)) T I L) : mz_Ctr G M_X8_moveBy [.ref p, .int 0, .int (-1), .ref f] T I L K := by
  have hk : m_kd m < 7 := hp.2.2.2.2.2.1
  have hb := x_in_b hk hx
  refine c_moveBy (dc := 0) (dr := -1) hp hF (by omega) (by omega) (fun q => ?_) (fun q => ?_)
  · rw [s_fit_cg hfl, Int.add_zero, ← Int.sub_eq_add_neg] at q
    have q2 : x_ft m (x.1, x.2.1, x.2.2 - 1) = true := q
    have e : x_dn m x = (x.1, x.2.1, x.2.2 - 1) := if_pos q2
    rw [Int.add_zero, ← Int.sub_eq_add_neg]
    refine h1 (fun e => by unfold x_rs at e; rw [q2] at e; cases e) _ (fr_u2 (fr_u2 fr_refl (List.mem_singleton.mpr rfl)) (List.mem_singleton.mpr rfl)) ?_
    rw [e]
    exact p_Pos_mv hp (by omega) (by omega)
  · rw [s_fit_cg hfl, Int.add_zero, ← Int.sub_eq_add_neg] at q
    exact h2 q
theorem c_tnS {m : Nat → Int32} {p f k : Nat} {x : s_P} {d : Int} (hp : p_Pos T I p (m_kd m) x.1 x.2.1 x.2.2) (hx : x_in m x) (hF : p_Field T f k) (hfl : ∀ i, i < 220 → s_fl (I k) i = s_fm m i) (hd : d = -1 ∨ d = 1)
    (h : ∀ I' v, fr I I' [p] → p_Pos T I' p (m_kd m) (x_tn m x d).1 (x_tn m x d).2.1 (x_tn m x d).2.2 → K (some (.int v)) T I' L) : mz_Ctr G M_X8_turnBy [.ref p, .int (zI d), .ref f] T I L K := by
  have hk : m_kd m < 7 := hp.2.2.2.2.2.1
  have hb := x_in_b hk hx
  have ek : ∀ i, s_kf (s_fl (I k)) (m_kd m) x.1 x.2.1 x.2.2 d i = x_ft m (x_kp m x d i) := fun i => by unfold s_kf x_ft x_kp; rw [s_fit_cg hfl]
  refine c_turn hp hF hd (by omega) (by omega) (fun i hi q1 q2 I' q hp' => ?_) (fun q1 I' q hp' => ?_)
  · have e : x_tn m x d = x_kp m x d i := x_tkt (by rw [← ek]; exact q1) _ _ (Nat.zero_le _) (by omega) (fun j _ b => by rw [← ek]; exact q2 j b)
    refine h _ _ q ?_
    rw [e]; exact hp'
  · have e : x_tn m x d = x := x_tkn _ _ (fun j _ b => by rw [← ek]; exact q1 j (by omega))
    refine h _ _ q ?_
    rw [e]; exact hp'
/-- the search in its course -/
def x_B (T : mz_T) (m : Nat → Int32) (I0 I : mz_I) (L0 L : mz_L) (Y : Nat → Nat) (Q : List s_P) (n : Nat) (a : Nat → Nat) (b : s_P) : Prop :=
  fr I0 I [Y 0, Y 4, Y 6, Y 7, Y 8] ∧ fr L0 L [Y 9] ∧ x_S m I Y Q ∧ x_K I L Y n a ∧ (0 < n → I (Y 0) 10 = zI (x_e b : Nat)) ∧ (∃ (s : Nat) (c r : Int), p_Pos T I (Y 6) (m_kd m) s c r) ∧ I (Y 0) 1 = I0 (Y 0) 1
def x_ne (Y : Nat → Nat) : Prop := (Y 0 ≠ Y 4 ∧ Y 0 ≠ Y 6 ∧ Y 0 ≠ Y 7 ∧ Y 0 ≠ Y 8) ∧ (Y 7 ≠ Y 4 ∧ Y 7 ≠ Y 6 ∧ Y 8 ≠ Y 4 ∧ Y 8 ≠ Y 6 ∧ Y 6 ≠ Y 4) ∧ (Y 2 ≠ Y 0 ∧ Y 2 ≠ Y 4 ∧ Y 2 ≠ Y 6 ∧ Y 2 ≠ Y 7 ∧ Y 2 ≠ Y 8) ∧ (Y 5 ≠ Y 0 ∧ Y 5 ≠ Y 4 ∧ Y 5 ≠ Y 6 ∧ Y 5 ≠ Y 7 ∧ Y 5 ≠ Y 8)
theorem x_ne_of {Y : Nat → Nat} (hU : ∀ a x y, (a, x) ∈ T.1 → (a, y) ∈ T.1 → x = y) (hS : p_Sh T Y) : x_ne Y := by
  obtain ⟨h1, -, ⟨⟨t1, t2, -⟩, ⟨u1, u2, -⟩, t3, t4, t5, t6, t7⟩, ⟨d1, d2, d3⟩⟩ := id hS
  have ne : ∀ {a b : Nat} {x y : Nat × Nat}, (a, x) ∈ T.1 → (b, y) ∈ T.1 → x ≠ y → a ≠ b := fun a b c => mz_ne hU a b c
  exact ⟨⟨ne h1 u2 (by decide), ne h1 t4 (by decide), ne h1 t5 (by decide), ne h1 t6 (by decide)⟩, ⟨ne t5 u2 (by decide), ne t5 t4 (by decide), ne t6 u2 (by decide), ne t6 t4 (by decide), ne t4 u2 (by decide)⟩, ⟨ne t2 h1 (by decide), d1, ne t2 t4 (by decide), ne t2 t5 (by decide), ne t2 t6 (by decide)⟩, ⟨ne t3 h1 (by decide), ne t3 u2 (by decide), d2, ne t3 t5 (by decide), ne t3 t6 (by decide)⟩⟩
theorem x_B_at {m : Nat → Int32} {I0 I1 : mz_I} {L0 : mz_L} {Y : Nat → Nat} {Q : List s_P} {n : Nat} {a : Nat → Nat} {b : s_P} (hn : x_ne Y) (h : x_B T m I0 I L0 L Y Q n a b) (hf : fr I I1 [Y 6]) (hp : ∃ (s : Nat) (c r : Int), p_Pos T I1 (Y 6) (m_kd m) s c r) : x_B T m I0 I1 L0 L Y Q n a b := by
  obtain ⟨h1, h2, ⟨s1, s2, s3, s4, s5⟩, ⟨k1, k2⟩, h5, -, h6⟩ := h
  obtain ⟨⟨a1, a2, a3, a4⟩, ⟨b1, b2, b3, b4, b5⟩, -, -⟩ := hn
  have e0 := fr_ne1 hf a2
  have e7 := fr_ne1 hf b2
  have e8 := fr_ne1 hf b4
  exact ⟨fr_tr1 h1 hf (by simp), h2, ⟨by rw [e0]; exact s1, s2, s3, by rw [e8]; exact s4, by rw [e7]; exact s5⟩, ⟨by rw [e0]; exact k1, k2⟩, by rw [e0]; exact h5, hp, by rw [e0]; exact h6⟩
theorem x_B_re {m : Nat → Int32} {I0 I1 : mz_I} {L0 : mz_L} {Y : Nat → Nat} {Q Q' : List s_P} {n : Nat} {a : Nat → Nat} {b : s_P} (hn : x_ne Y) (h : x_B T m I0 I L0 L Y Q n a b) (hf : fr I I1 [Y 0, Y 7, Y 8]) (hS : x_S m I1 Y Q') (hi : ∀ i, i ≠ 8 → I1 (Y 0) i = I (Y 0) i) : x_B T m I0 I1 L0 L Y Q' n a b := by
  obtain ⟨h1, h2, -, ⟨k1, k2⟩, h5, ⟨s, c, r, p1, p2, p3, p4, p5, p6⟩, h6⟩ := h
  obtain ⟨⟨a1, a2, a3, a4⟩, ⟨b1, b2, b3, b4, b5⟩, -, -⟩ := hn
  have e : I1 (Y 6) = I (Y 6) := hf _ (by simp; exact ⟨Ne.symm a2, Ne.symm b2, Ne.symm b4⟩)
  exact ⟨fr_tr1 h1 hf (by simp), h2, hS, ⟨by rw [hi 0 (by decide)]; exact k1, k2⟩, by rw [hi 10 (by decide)]; exact h5, ⟨s, c, r, p1, by rw [e]; exact p2, by rw [e]; exact p3, by rw [e]; exact p4, by rw [e]; exact p5, p6⟩, by rw [hi 1 (by decide)]; exact h6⟩
theorem x_B_af {m : Nat → Int32} {I0 I1 : mz_I} {L0 : mz_L} {Y : Nat → Nat} {Q : List s_P} {n : Nat} {a : Nat → Nat} {b : s_P} (hn : x_ne Y) (h : x_B T m I0 I L0 L Y Q n a b) (hf : fr I I1 [Y 4]) : x_B T m I0 I1 L0 L Y Q n a b := by
  obtain ⟨h1, h2, ⟨s1, s2, s3, s4, s5⟩, ⟨k1, k2⟩, h5, ⟨s, c, r, p1, p2, p3, p4, p5, p6⟩, h6⟩ := h
  obtain ⟨⟨a1, a2, a3, a4⟩, ⟨b1, b2, b3, b4, b5⟩, -, -⟩ := hn
  have e0 := fr_ne1 hf a1
  have e7 := fr_ne1 hf b1
  have e8 := fr_ne1 hf b3
  have e := fr_ne1 hf b5
  exact ⟨fr_tr1 h1 hf (by simp), h2, ⟨by rw [e0]; exact s1, s2, s3, by rw [e8]; exact s4, by rw [e7]; exact s5⟩, ⟨by rw [e0]; exact k1, k2⟩, by rw [e0]; exact h5, ⟨s, c, r, p1, by rw [e]; exact p2, by rw [e]; exact p3, by rw [e]; exact p4, by rw [e]; exact p5, p6⟩, by rw [e0]; exact h6⟩
theorem x_B_in {m : Nat → Int32} {I0 I1 : mz_I} {L0 L1 : mz_L} {Y : Nat → Nat} {Q : List s_P} {n n' : Nat} {a a' : Nat → Nat} {b b' : s_P} (hn : x_ne Y) (h : x_B T m I0 I L0 L Y Q n a b) (hf : fr I I1 [Y 0]) (hl : fr L L1 [Y 9]) (hK : x_K I1 L1 Y n' a') (hi : ∀ i, i ≠ 0 → i ≠ 10 → I1 (Y 0) i = I (Y 0) i) (hb : 0 < n' → I1 (Y 0) 10 = zI (x_e b' : Nat)) : x_B T m I0 I1 L0 L1 Y Q n' a' b' := by
  obtain ⟨h1, h2, ⟨s1, s2, s3, s4, s5⟩, -, -, ⟨s, c, r, p1, p2, p3, p4, p5, p6⟩, h6⟩ := h
  obtain ⟨⟨a1, a2, a3, a4⟩, ⟨b1, b2, b3, b4, b5⟩, -, -⟩ := hn
  have e7 := fr_ne1 hf (Ne.symm a3)
  have e8 := fr_ne1 hf (Ne.symm a4)
  have e := fr_ne1 hf (Ne.symm a2)
  exact ⟨fr_tr1 h1 hf (by simp), fr_tr1 h2 hl (fun _ q => q), ⟨by rw [hi 8 (by decide) (by decide)]; exact s1, s2, s3, by rw [e8]; exact s4, by rw [e7]; exact s5⟩, hK, hb, ⟨s, c, r, p1, by rw [e]; exact p2, by rw [e]; exact p3, by rw [e]; exact p4, by rw [e]; exact p5, p6⟩, by rw [hi 1 (by decide) (by decide)]; exact h6⟩
theorem x_re_get {Q : List s_P} {y z : s_P} {j : Nat} (hj : j < Q.length) : (x_re Q y).getD j z = Q.getD j z := by
  unfold x_re
  split
  · rfl
  · rw [List.getD_eq_getElem?_getD, List.getD_eq_getElem?_getD, List.getElem?_append_left hj]
theorem x_re_le {Q : List s_P} {y : s_P} : Q.length ≤ (x_re Q y).length := by
  unfold x_re
  split
  · exact Nat.le_refl _
  · rw [List.length_append]; omega
theorem x_re_mem {Q : List s_P} {y z : s_P} : z ∈ x_re Q y ↔ z ∈ Q ∨ z = y := by
  unfold x_re
  split
  · rename_i q
    exact ⟨Or.inl, fun h => h.elim id (fun e => by rw [e]; exact q)⟩
  · rw [List.mem_append, List.mem_singleton]
def x_st (m : Nat → Int32) (Q : List s_P) (x : s_P) : List s_P := x_re (x_re (x_re (x_re (x_re Q (x_dn m x)) (x_sh m x (-1))) (x_tn m x (-1))) (x_sh m x 1)) (x_tn m x 1)
theorem x_st_mem {m : Nat → Int32} {Q : List s_P} {x z : s_P} : z ∈ x_st m Q x ↔ z ∈ Q ∨ z ∈ x_nb m x := by
  unfold x_st x_nb
  rw [x_re_mem, x_re_mem, x_re_mem, x_re_mem, x_re_mem]
  simp only [List.mem_cons, List.not_mem_nil, or_false, or_assoc]
theorem x_st_get {m : Nat → Int32} {Q : List s_P} {x z : s_P} {j : Nat} (hj : j < Q.length) : (x_st m Q x).getD j z = Q.getD j z ∧ Q.length ≤ (x_st m Q x).length := by
  unfold x_st
  have h1 := x_re_le (Q := Q) (y := x_dn m x)
  have h2 := x_re_le (Q := x_re Q (x_dn m x)) (y := x_sh m x (-1))
  have h3 := x_re_le (Q := x_re (x_re Q (x_dn m x)) (x_sh m x (-1))) (y := x_tn m x (-1))
  have h4 := x_re_le (Q := x_re (x_re (x_re Q (x_dn m x)) (x_sh m x (-1))) (x_tn m x (-1))) (y := x_sh m x 1)
  have h5 := x_re_le (Q := x_re (x_re (x_re (x_re Q (x_dn m x)) (x_sh m x (-1))) (x_tn m x (-1))) (x_sh m x 1)) (y := x_tn m x 1)
  exact ⟨by rw [x_re_get (by omega), x_re_get (by omega), x_re_get (by omega), x_re_get (by omega), x_re_get hj], by omega⟩
/-- one position's turn: a direction -/
theorem x_dir {Y : Nat → Nat} {m : Nat → Int32} (hS : p_Sh T Y) (hn : x_ne Y) (hk : m_kd m < 7) {I0 : mz_I} {L0 : mz_L} (hf0 : ∀ i, i < 220 → I0 (Y 2) i = m i - 1) (d : Int) (i : Nat) (Q : List s_P) (n : Nat) (a : Nat → Nat) (b x : s_P) (hd : d = -1 ∨ d = 1) (hi : i < Q.length) (hx : x_in m x) (hQi : Q.getD i (0, 0, 0) = x) (hB : x_B T m I0 I L0 L Y Q n a b)
    (hk9 : ∀ I', x_B T m I0 I' L0 L Y (x_re (x_re Q (x_sh m x d)) (x_tn m x d)) n a b → mz_W G M_X10_explore K mz_nX 102 [some (.ref (Y 0)), some (.int (zI i)), some (.int (zI (d + 2)))] [] T I' L (0, 0)) : mz_W G M_X10_explore K mz_nX 102 [some (.ref (Y 0)), some (.int (zI i)), some (.int (zI d))] [] T I L (0, 0) := by
  obtain ⟨s1, ⟨r2, r3, r4, r5, r6, r7, r9⟩, ⟨t1, t2, t3, t4, t5, t6, t7⟩, -⟩ := id hS
  have hlen := x_len hk hB.2.2.1.2.1 hB.2.2.1.2.2.1
  have he := x_e_lt hk hx
  have hfl : ∀ {J : mz_I} {Q : List s_P} {n : Nat} {a : Nat → Nat} {b : s_P}, x_B T m I0 J L0 L Y Q n a b → ∀ i, i < 220 → s_fl (J (Y 2)) i = s_fm m i := by
    intro J Q n a b hJ
    refine fl_of (fun i hi => ?_)
    obtain ⟨-, -, ⟨c1, c2, c3, c4, c5⟩, -⟩ := id hn
    rw [hJ.1 _ (by simp; exact ⟨c1, c2, c3, c4, c5⟩)]
    exact hf0 i hi
  refine mz_vc ok_X10_explore [102] [(), (), (), (), (), (), (), (), (), (), (), (), (), (), (), (), (), (), (), (), (), (), (), (), (), (), (), (), (), ()] ?_
  simp only [cd_X10_explore, s1, r2, r3, r4, r5, r6, r7, t4, r_rn0, r_rnc, r_vk0, r_vkc, r_vks, r_kci, r_kcv, r_ild, r_ald, r_lld, r_dld, r_Li, r_La, r_Ll, r_Ld, r_Ki, r_Ka, r_Kl, r_Kd, r_Kn, r_ist, r_ast, r_lst, r_dst, r_iinc, r_int, r_lng, r_dbl, r_i2, r_i1, r_l2, r_lsh, r_i2z, r_l2z, r_i2l, r_l2i, r_i2d, r_lcmp, r_ddiv, r_dcmpl, r_dup, r_dup2, r_pop, r_one_int, r_one_ref, r_go, r_if, r_ic, r_tsw, r_lsw, r_sw0, r_swc, r_lk0, r_lkc, r_kp, r_gI, r_gL, r_gR, r_pI, r_pZ, r_pL, r_pR, r_gs, r_ia, r_ca, r_za, r_la, r_da, r_aa, r_ias, r_cas, r_zas, r_las, r_das, r_aas, r_acp, r_new, r_nwa, r_nwq, r_ret, r_irt, r_zrt, r_lrt, r_drt, r_art, r_thr, r_cV0, r_cV1, r_cV2, r_cV3, r_cV4, r_cV5, r_cI0, r_cS0, r_cS1, r_cS2, r_cS3, r_cX0, r_cX1, r_cX2, r_cX3, r_rc, r_oi, r_refx, r_i10, r_i01, r_rfs, r_mem0, r_memc, r_beq, r_kl0, r_klz, r_kl1i, r_kl1r, r_kl1n, r_kl1l, r_kl1d, List.length_cons, List.length_nil, List.getElem?_cons_zero, List.getElem?_cons_succ, List.set_cons_zero, List.set_cons_succ, true_and, and_true, not_true, not_false_eq_true, false_implies, true_implies, or_true, true_or, or_false, false_or, Bool.or_false, Bool.false_or, decide_false, decide_true, Nat.reduceLT, Nat.reduceLeDiff, Nat.reduceAdd, Nat.reduceSub, ↓reduceIte, Nat.reduceEqDiff, Nat.lt_add_one]
  refine ⟨fun q => absurd q ?_, fun _ => ?_⟩
  · rw [l_1, z_lt (by omega) (by omega)]; omega
  rw [z_nat (by omega), Int.toNat_natCast, hB.2.2.1.2.2.2.1 i hi, hQi]
  refine ⟨⟨2048, t6, z_in (by omega) (by omega) (by decide)⟩, ?_⟩
  obtain ⟨s0, c0, r0, hp0⟩ := hB.2.2.2.2.2.1
  refine c_goToS t4 hk hp0.2.1 he (fun J1 f1 hp1 => ?_)
  have g1 := x_B_at hn hB f1 ⟨_, _, _, hp1⟩
  rw [x_de hk hx] at hp1
  simp only [cd_X10_explore, s1, r2, r3, r4, r5, r6, r7, t4, r_rn0, r_rnc, r_vk0, r_vkc, r_vks, r_kci, r_kcv, r_ild, r_ald, r_lld, r_dld, r_Li, r_La, r_Ll, r_Ld, r_Ki, r_Ka, r_Kl, r_Kd, r_Kn, r_ist, r_ast, r_lst, r_dst, r_iinc, r_int, r_lng, r_dbl, r_i2, r_i1, r_l2, r_lsh, r_i2z, r_l2z, r_i2l, r_l2i, r_i2d, r_lcmp, r_ddiv, r_dcmpl, r_dup, r_dup2, r_pop, r_one_int, r_one_ref, r_go, r_if, r_ic, r_tsw, r_lsw, r_sw0, r_swc, r_lk0, r_lkc, r_kp, r_gI, r_gL, r_gR, r_pI, r_pZ, r_pL, r_pR, r_gs, r_ia, r_ca, r_za, r_la, r_da, r_aa, r_ias, r_cas, r_zas, r_las, r_das, r_aas, r_acp, r_new, r_nwa, r_nwq, r_ret, r_irt, r_zrt, r_lrt, r_drt, r_art, r_thr, r_cV0, r_cV1, r_cV2, r_cV3, r_cV4, r_cV5, r_cI0, r_cS0, r_cS1, r_cS2, r_cS3, r_cX0, r_cX1, r_cX2, r_cX3, r_rc, r_oi, r_refx, r_i10, r_i01, r_rfs, r_mem0, r_memc, r_beq, r_kl0, r_klz, r_kl1i, r_kl1r, r_kl1n, r_kl1l, r_kl1d, List.length_cons, List.length_nil, List.getElem?_cons_zero, List.getElem?_cons_succ, List.set_cons_zero, List.set_cons_succ, true_and, and_true, not_true, not_false_eq_true, false_implies, true_implies, or_true, true_or, or_false, false_or, Bool.or_false, Bool.false_or, decide_false, decide_true, Nat.reduceLT, Nat.reduceLeDiff, Nat.reduceAdd, Nat.reduceSub, ↓reduceIte, Nat.reduceEqDiff, Nat.lt_add_one]
  refine c_shS hp1 hx t1 (hfl g1) hd (fun J2 v2 f2 hp2 => ?_)
  have g2 := x_B_at hn g1 f2 ⟨_, _, _, hp2⟩
  simp only [cd_X10_explore, s1, r2, r3, r4, r5, r6, r7, t4, r_rn0, r_rnc, r_vk0, r_vkc, r_vks, r_kci, r_kcv, r_ild, r_ald, r_lld, r_dld, r_Li, r_La, r_Ll, r_Ld, r_Ki, r_Ka, r_Kl, r_Kd, r_Kn, r_ist, r_ast, r_lst, r_dst, r_iinc, r_int, r_lng, r_dbl, r_i2, r_i1, r_l2, r_lsh, r_i2z, r_l2z, r_i2l, r_l2i, r_i2d, r_lcmp, r_ddiv, r_dcmpl, r_dup, r_dup2, r_pop, r_one_int, r_one_ref, r_go, r_if, r_ic, r_tsw, r_lsw, r_sw0, r_swc, r_lk0, r_lkc, r_kp, r_gI, r_gL, r_gR, r_pI, r_pZ, r_pL, r_pR, r_gs, r_ia, r_ca, r_za, r_la, r_da, r_aa, r_ias, r_cas, r_zas, r_las, r_das, r_aas, r_acp, r_new, r_nwa, r_nwq, r_ret, r_irt, r_zrt, r_lrt, r_drt, r_art, r_thr, r_cV0, r_cV1, r_cV2, r_cV3, r_cV4, r_cV5, r_cI0, r_cS0, r_cS1, r_cS2, r_cS3, r_cX0, r_cX1, r_cX2, r_cX3, r_rc, r_oi, r_refx, r_i10, r_i01, r_rfs, r_mem0, r_memc, r_beq, r_kl0, r_klz, r_kl1i, r_kl1r, r_kl1n, r_kl1l, r_kl1d, List.length_cons, List.length_nil, List.getElem?_cons_zero, List.getElem?_cons_succ, List.set_cons_zero, List.set_cons_succ, true_and, and_true, not_true, not_false_eq_true, false_implies, true_implies, or_true, true_or, or_false, false_or, Bool.or_false, Bool.false_or, decide_false, decide_true, Nat.reduceLT, Nat.reduceLeDiff, Nat.reduceAdd, Nat.reduceSub, ↓reduceIte, Nat.reduceEqDiff, Nat.lt_add_one]
  refine c_reachS hS hk g2.2.2.1 hp2 (x_sh_in hx) (fun J3 f3 q3 w3 => ?_)
  have g3 := x_B_re hn g2 f3 q3 w3
  have hi3 : i < (x_re Q (x_sh m x d)).length := Nat.lt_of_lt_of_le hi x_re_le
  simp only [cd_X10_explore, s1, r2, r3, r4, r5, r6, r7, t4, r_rn0, r_rnc, r_vk0, r_vkc, r_vks, r_kci, r_kcv, r_ild, r_ald, r_lld, r_dld, r_Li, r_La, r_Ll, r_Ld, r_Ki, r_Ka, r_Kl, r_Kd, r_Kn, r_ist, r_ast, r_lst, r_dst, r_iinc, r_int, r_lng, r_dbl, r_i2, r_i1, r_l2, r_lsh, r_i2z, r_l2z, r_i2l, r_l2i, r_i2d, r_lcmp, r_ddiv, r_dcmpl, r_dup, r_dup2, r_pop, r_one_int, r_one_ref, r_go, r_if, r_ic, r_tsw, r_lsw, r_sw0, r_swc, r_lk0, r_lkc, r_kp, r_gI, r_gL, r_gR, r_pI, r_pZ, r_pL, r_pR, r_gs, r_ia, r_ca, r_za, r_la, r_da, r_aa, r_ias, r_cas, r_zas, r_las, r_das, r_aas, r_acp, r_new, r_nwa, r_nwq, r_ret, r_irt, r_zrt, r_lrt, r_drt, r_art, r_thr, r_cV0, r_cV1, r_cV2, r_cV3, r_cV4, r_cV5, r_cI0, r_cS0, r_cS1, r_cS2, r_cS3, r_cX0, r_cX1, r_cX2, r_cX3, r_rc, r_oi, r_refx, r_i10, r_i01, r_rfs, r_mem0, r_memc, r_beq, r_kl0, r_klz, r_kl1i, r_kl1r, r_kl1n, r_kl1l, r_kl1d, List.length_cons, List.length_nil, List.getElem?_cons_zero, List.getElem?_cons_succ, List.set_cons_zero, List.set_cons_succ, true_and, and_true, not_true, not_false_eq_true, false_implies, true_implies, or_true, true_or, or_false, false_or, Bool.or_false, Bool.false_or, decide_false, decide_true, Nat.reduceLT, Nat.reduceLeDiff, Nat.reduceAdd, Nat.reduceSub, ↓reduceIte, Nat.reduceEqDiff, Nat.lt_add_one]
  rw [z_nat (by omega), Int.toNat_natCast, g3.2.2.1.2.2.2.1 i hi3, x_re_get hi, hQi]
  refine ⟨⟨2048, t6, z_in (by omega) (by omega) (by decide)⟩, ?_⟩
  obtain ⟨s3, c3, r3', hp3⟩ := g3.2.2.2.2.2.1
  refine c_goToS t4 hk hp3.2.1 he (fun J4 f4 hp4 => ?_)
  have g4 := x_B_at hn g3 f4 ⟨_, _, _, hp4⟩
  rw [x_de hk hx] at hp4
  simp only [cd_X10_explore, s1, r2, r3, r4, r5, r6, r7, t4, r_rn0, r_rnc, r_vk0, r_vkc, r_vks, r_kci, r_kcv, r_ild, r_ald, r_lld, r_dld, r_Li, r_La, r_Ll, r_Ld, r_Ki, r_Ka, r_Kl, r_Kd, r_Kn, r_ist, r_ast, r_lst, r_dst, r_iinc, r_int, r_lng, r_dbl, r_i2, r_i1, r_l2, r_lsh, r_i2z, r_l2z, r_i2l, r_l2i, r_i2d, r_lcmp, r_ddiv, r_dcmpl, r_dup, r_dup2, r_pop, r_one_int, r_one_ref, r_go, r_if, r_ic, r_tsw, r_lsw, r_sw0, r_swc, r_lk0, r_lkc, r_kp, r_gI, r_gL, r_gR, r_pI, r_pZ, r_pL, r_pR, r_gs, r_ia, r_ca, r_za, r_la, r_da, r_aa, r_ias, r_cas, r_zas, r_las, r_das, r_aas, r_acp, r_new, r_nwa, r_nwq, r_ret, r_irt, r_zrt, r_lrt, r_drt, r_art, r_thr, r_cV0, r_cV1, r_cV2, r_cV3, r_cV4, r_cV5, r_cI0, r_cS0, r_cS1, r_cS2, r_cS3, r_cX0, r_cX1, r_cX2, r_cX3, r_rc, r_oi, r_refx, r_i10, r_i01, r_rfs, r_mem0, r_memc, r_beq, r_kl0, r_klz, r_kl1i, r_kl1r, r_kl1n, r_kl1l, r_kl1d, List.length_cons, List.length_nil, List.getElem?_cons_zero, List.getElem?_cons_succ, List.set_cons_zero, List.set_cons_succ, true_and, and_true, not_true, not_false_eq_true, false_implies, true_implies, or_true, true_or, or_false, false_or, Bool.or_false, Bool.false_or, decide_false, decide_true, Nat.reduceLT, Nat.reduceLeDiff, Nat.reduceAdd, Nat.reduceSub, ↓reduceIte, Nat.reduceEqDiff, Nat.lt_add_one]
  refine c_tnS hp4 hx t1 (hfl g4) hd (fun J5 v5 f5 hp5 => ?_)
  have g5 := x_B_at hn g4 f5 ⟨_, _, _, hp5⟩
  simp only [cd_X10_explore, s1, r2, r3, r4, r5, r6, r7, t4, r_rn0, r_rnc, r_vk0, r_vkc, r_vks, r_kci, r_kcv, r_ild, r_ald, r_lld, r_dld, r_Li, r_La, r_Ll, r_Ld, r_Ki, r_Ka, r_Kl, r_Kd, r_Kn, r_ist, r_ast, r_lst, r_dst, r_iinc, r_int, r_lng, r_dbl, r_i2, r_i1, r_l2, r_lsh, r_i2z, r_l2z, r_i2l, r_l2i, r_i2d, r_lcmp, r_ddiv, r_dcmpl, r_dup, r_dup2, r_pop, r_one_int, r_one_ref, r_go, r_if, r_ic, r_tsw, r_lsw, r_sw0, r_swc, r_lk0, r_lkc, r_kp, r_gI, r_gL, r_gR, r_pI, r_pZ, r_pL, r_pR, r_gs, r_ia, r_ca, r_za, r_la, r_da, r_aa, r_ias, r_cas, r_zas, r_las, r_das, r_aas, r_acp, r_new, r_nwa, r_nwq, r_ret, r_irt, r_zrt, r_lrt, r_drt, r_art, r_thr, r_cV0, r_cV1, r_cV2, r_cV3, r_cV4, r_cV5, r_cI0, r_cS0, r_cS1, r_cS2, r_cS3, r_cX0, r_cX1, r_cX2, r_cX3, r_rc, r_oi, r_refx, r_i10, r_i01, r_rfs, r_mem0, r_memc, r_beq, r_kl0, r_klz, r_kl1i, r_kl1r, r_kl1n, r_kl1l, r_kl1d, List.length_cons, List.length_nil, List.getElem?_cons_zero, List.getElem?_cons_succ, List.set_cons_zero, List.set_cons_succ, true_and, and_true, not_true, not_false_eq_true, false_implies, true_implies, or_true, true_or, or_false, false_or, Bool.or_false, Bool.false_or, decide_false, decide_true, Nat.reduceLT, Nat.reduceLeDiff, Nat.reduceAdd, Nat.reduceSub, ↓reduceIte, Nat.reduceEqDiff, Nat.lt_add_one]
  refine c_reachS hS hk g5.2.2.1 hp5 (x_tk_in hx _ _) (fun J6 f6 q6 w6 => ?_)
  have g6 := x_B_re hn g5 f6 q6 w6
  simp only [cd_X10_explore, s1, r2, r3, r4, r5, r6, r7, t4, r_rn0, r_rnc, r_vk0, r_vkc, r_vks, r_kci, r_kcv, r_ild, r_ald, r_lld, r_dld, r_Li, r_La, r_Ll, r_Ld, r_Ki, r_Ka, r_Kl, r_Kd, r_Kn, r_ist, r_ast, r_lst, r_dst, r_iinc, r_int, r_lng, r_dbl, r_i2, r_i1, r_l2, r_lsh, r_i2z, r_l2z, r_i2l, r_l2i, r_i2d, r_lcmp, r_ddiv, r_dcmpl, r_dup, r_dup2, r_pop, r_one_int, r_one_ref, r_go, r_if, r_ic, r_tsw, r_lsw, r_sw0, r_swc, r_lk0, r_lkc, r_kp, r_gI, r_gL, r_gR, r_pI, r_pZ, r_pL, r_pR, r_gs, r_ia, r_ca, r_za, r_la, r_da, r_aa, r_ias, r_cas, r_zas, r_las, r_das, r_aas, r_acp, r_new, r_nwa, r_nwq, r_ret, r_irt, r_zrt, r_lrt, r_drt, r_art, r_thr, r_cV0, r_cV1, r_cV2, r_cV3, r_cV4, r_cV5, r_cI0, r_cS0, r_cS1, r_cS2, r_cS3, r_cX0, r_cX1, r_cX2, r_cX3, r_rc, r_oi, r_refx, r_i10, r_i01, r_rfs, r_mem0, r_memc, r_beq, r_kl0, r_klz, r_kl1i, r_kl1r, r_kl1n, r_kl1l, r_kl1d, List.length_cons, List.length_nil, List.getElem?_cons_zero, List.getElem?_cons_succ, List.set_cons_zero, List.set_cons_succ, true_and, and_true, not_true, not_false_eq_true, false_implies, true_implies, or_true, true_or, or_false, false_or, Bool.or_false, Bool.false_or, decide_false, decide_true, Nat.reduceLT, Nat.reduceLeDiff, Nat.reduceAdd, Nat.reduceSub, ↓reduceIte, Nat.reduceEqDiff, Nat.lt_add_one]
  rw [l_2, z_add]
  exact hk9 J6 g6
end EXPL
