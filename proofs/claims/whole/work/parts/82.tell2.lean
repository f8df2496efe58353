/-! the reference's search: all placements told -/
section TELL2
variable {G : mz_G} {K : mz_K} {T : mz_T} {I : mz_I} {L : mz_L}
theorem y_fl_cg {m : Nat → Int32} {x y : s_P} (h : ∀ i, i < 4 → x_ce m x i = x_ce m y i) : y_fl m x 4 = y_fl m y 4 := by
  funext j
  unfold y_fl
  have e : (List.range 4).any (fun i => decide (x_ce m x i = j)) = (List.range 4).any (fun i => decide (x_ce m y i = j)) := by
    show (decide (x_ce m x 0 = j) || (decide (x_ce m x 1 = j) || (decide (x_ce m x 2 = j) || (decide (x_ce m x 3 = j) || false)))) = (decide (x_ce m y 0 = j) || (decide (x_ce m y 1 = j) || (decide (x_ce m y 2 = j) || (decide (x_ce m y 3 = j) || false))))
    rw [h 0 (by decide), h 1 (by decide), h 2 (by decide), h 3 (by decide)]
  rw [e]
theorem y_pt_eq {m : Nat → Int32} {x y : s_P} (hk : m_kd m < 7) (hx : x_in m x) (hy : x_in m y) (h : ∀ i, i < 4 → x_ce m x i = x_ce m y i) : ∀ w, w < 8 → x_pt m x w = x_pt m y w := by
  obtain ⟨a1, a2⟩ := y_fig hk hx
  obtain ⟨b1, b2⟩ := y_fig hk hy
  rw [y_fl_cg h] at a1 a2
  have e1 : x_n m x = x_n m y := by rw [← a1, b1]
  have e2 : s_fm (x_af m x) = s_fm (x_af m y) := by rw [← a2, b2]
  intro w hw
  unfold x_pt
  rw [e1, e2]
  by_cases c0 : w = 0
  · rw [if_pos c0, if_pos c0]
  by_cases c1 : w = 1
  · rw [if_neg c0, if_neg c0, if_pos c1, if_pos c1]
  by_cases c2 : w = 2
  · rw [if_neg c0, if_neg c0, if_neg c1, if_neg c1, if_pos c2, if_pos c2]
  by_cases c3 : w = 3
  · rw [if_neg c0, if_neg c0, if_neg c1, if_neg c1, if_neg c2, if_neg c2, if_pos c3, if_pos c3]
  · rw [h (w - 4) (by omega)]
theorem y_key {m : Nat → Int32} {x y : s_P} (hk : m_kd m < 7) (hx : x_in m x) (hy : x_in m y) : x_key m x = x_key m y ↔ y_sm m x y = true := by
  unfold x_key
  rw [x_kn_eq hk hx hy 8 (Nat.le_refl _), y_sm_t]
  constructor
  · intro h i hi
    have := h (i + 4) (by omega)
    unfold x_pt at this
    rw [if_neg (by omega), if_neg (by omega), if_neg (by omega), if_neg (by omega), if_neg (by omega), if_neg (by omega), if_neg (by omega), if_neg (by omega), Nat.add_sub_cancel] at this
    exact this.symm
  · intro h
    exact y_pt_eq hk hx hy (fun i hi => (h i hi).symm)
def y_st (m : Nat → Int32) (Q : List s_P) (x : s_P) : List s_P := x_re (x_re (x_re (x_re (x_re Q (x_sh m x (-1))) (x_sh m x 1)) (x_tn m x 1)) (x_tn m x (-1))) (x_dn m x)
theorem y_st_mem {m : Nat → Int32} {Q : List s_P} {x z : s_P} : z ∈ y_st m Q x ↔ z ∈ Q ∨ z ∈ x_nb m x := by
  unfold y_st x_nb
  rw [x_re_mem, x_re_mem, x_re_mem, x_re_mem, x_re_mem]
  simp only [List.mem_cons, List.not_mem_nil, or_false]
  constructor
  · rintro (((((h | h) | h) | h) | h) | h) <;> simp [h]
  · rintro (h | h | h | h | h | h) <;> simp [h]
theorem y_st_get {m : Nat → Int32} {Q : List s_P} {x z : s_P} {j : Nat} (hj : j < Q.length) : (y_st m Q x).getD j z = Q.getD j z ∧ Q.length ≤ (y_st m Q x).length := by
  unfold y_st
  have h1 := x_re_le (Q := Q) (y := x_sh m x (-1))
  have h2 := x_re_le (Q := x_re Q (x_sh m x (-1))) (y := x_sh m x 1)
  have h3 := x_re_le (Q := x_re (x_re Q (x_sh m x (-1))) (x_sh m x 1)) (y := x_tn m x 1)
  have h4 := x_re_le (Q := x_re (x_re (x_re Q (x_sh m x (-1))) (x_sh m x 1)) (x_tn m x 1)) (y := x_tn m x (-1))
  have h5 := x_re_le (Q := x_re (x_re (x_re (x_re Q (x_sh m x (-1))) (x_sh m x 1)) (x_tn m x 1)) (x_tn m x (-1))) (y := x_dn m x)
  exact ⟨by rw [x_re_get (by omega), x_re_get (by omega), x_re_get (by omega), x_re_get (by omega), x_re_get hj], by omega⟩
theorem y_re_sh {m : Nat → Int32} {Q : List s_P} {x : s_P} {d : Int} (hx : x ∈ Q) : y_re m Q (x.1, x.2.1 + d, x.2.2) = x_re Q (x_sh m x d) := by
  unfold y_re x_sh
  split
  · rfl
  · unfold x_re; rw [if_pos hx]
theorem y_re_dn {m : Nat → Int32} {Q : List s_P} {x : s_P} (hx : x ∈ Q) : y_re m Q (x.1, x.2.1, x.2.2 - 1) = x_re Q (x_dn m x) := by
  unfold y_re x_dn
  split
  · rfl
  · unfold x_re; rw [if_pos hx]
def y_res (m : Nat → Int32) (P : List s_P) : Prop := (∀ v, (∃ x, x ∈ P ∧ x_key m x = v) ↔ ∃ x, x_R m x ∧ x_rs m x ∧ x_key m x = v) ∧ (P.map (x_key m)).Nodup ∧ (∀ x, x ∈ P → x_R m x ∧ x_in m x ∧ x_rs m x)
def y_M (m : Nat → Int32) (Q : List s_P) (i : Nat) (P : List s_P) : Prop := x_0 m ∈ Q ∧ (∀ x, x ∈ Q → x_R m x) ∧ i ≤ Q.length ∧ (∀ j, j < i → ∀ z, z ∈ x_nb m (Q.getD j (0, 0, 0)) → z ∈ Q) ∧ (∀ v, (∃ x, x ∈ P ∧ x_key m x = v) ↔ ∃ j, j < i ∧ x_rs m (Q.getD j (0, 0, 0)) ∧ x_key m (Q.getD j (0, 0, 0)) = v) ∧ (∀ x, x ∈ P → x ∈ Q ∧ x_rs m x) ∧ (P.map (x_key m)).Nodup
theorem y_M_step {m : Nat → Int32} {Q : List s_P} {i : Nat} {P P' : List s_P} (h : y_M m Q i P) (hi : i < Q.length) (h1 : ∀ v, (∃ x, x ∈ P' ∧ x_key m x = v) ↔ (∃ x, x ∈ P ∧ x_key m x = v) ∨ (x_rs m (Q.getD i (0, 0, 0)) ∧ x_key m (Q.getD i (0, 0, 0)) = v)) (h2 : ∀ x, x ∈ P' → x ∈ Q ∧ x_rs m x) (h3 : (P'.map (x_key m)).Nodup) : y_M m (y_st m Q (Q.getD i (0, 0, 0))) (i + 1) P' := by
  obtain ⟨m1, m2, m3, m4, m5, m6, m7⟩ := h
  have hx := x_get hi
  have hg : ∀ j, j < Q.length → (y_st m Q (Q.getD i (0, 0, 0))).getD j (0, 0, 0) = Q.getD j (0, 0, 0) := fun j hj => (y_st_get hj).1
  refine ⟨y_st_mem.mpr (Or.inl m1), fun x h9 => ?_, ?_, fun j hj z hz => ?_, fun v => ?_, fun x hx9 => ?_, h3⟩
  · rcases y_st_mem.mp h9 with h9 | h9
    · exact m2 x h9
    · exact x_R1 (m2 _ hx) h9
  · have := (y_st_get (m := m) (x := Q.getD i (0, 0, 0)) (z := (0, 0, 0)) hi).2; omega
  · rw [hg j (by omega)] at hz
    by_cases e : j = i
    · subst e; exact y_st_mem.mpr (Or.inr hz)
    · exact y_st_mem.mpr (Or.inl (m4 j (by omega) z hz))
  · rw [h1, m5]
    constructor
    · rintro (⟨j, a, b, c⟩ | ⟨b, c⟩)
      · exact ⟨j, by omega, by rw [hg j (by omega)]; exact b, by rw [hg j (by omega)]; exact c⟩
      · exact ⟨i, by omega, by rw [hg i hi]; exact b, by rw [hg i hi]; exact c⟩
    · rintro ⟨j, a, b, c⟩
      rw [hg j (by omega)] at b c
      by_cases e : j = i
      · subst e; exact Or.inr ⟨b, c⟩
      · exact Or.inl ⟨j, by omega, b, c⟩
  · obtain ⟨w1, w2⟩ := h2 x hx9
    exact ⟨y_st_mem.mpr (Or.inl w1), w2⟩
theorem y_M_end {m : Nat → Int32} {Q P : List s_P} (h0 : x_in m (x_0 m)) (h : y_M m Q Q.length P) : y_res m P := by
  obtain ⟨m1, m2, m3, m4, m5, m6, m7⟩ := h
  have hmem : ∀ x, x ∈ Q → ∃ j, j < Q.length ∧ Q.getD j (0, 0, 0) = x := fun x hx => by
    obtain ⟨j, hj, e⟩ := List.getElem_of_mem hx
    exact ⟨j, hj, by rw [List.getD_eq_getElem?_getD, List.getElem?_eq_getElem hj, e]; rfl⟩
  have hcl := x_closed m1 m2 (fun x hx z hz => by
    obtain ⟨j, hj, e⟩ := hmem x hx
    exact m4 j hj z (by rw [e]; exact hz))
  refine ⟨fun v => ?_, m7, fun x hx => ?_⟩
  · rw [m5]
    constructor
    · rintro ⟨j, hj, h1, h2⟩
      exact ⟨_, m2 _ (x_get hj), h1, h2⟩
    · rintro ⟨x, h1, h2, h3⟩
      obtain ⟨j, hj, e⟩ := hmem x ((hcl x).mp h1)
      exact ⟨j, hj, by rw [e]; exact h2, by rw [e]; exact h3⟩
  · obtain ⟨w1, w2⟩ := m6 x hx
    exact ⟨m2 x w1, x_R_in h0 (m2 x w1), w2⟩
def y_B (m : Nat → Int32) (I0 I : mz_I) (D : Nat → Nat) (Q P : List s_P) : Prop := fr I0 I [D 0, D 1, D 13, D 16, D 17, D 19, D 20, D 22] ∧ I (D 1) = m ∧ (∀ i, i ≠ 18 → i ≠ 21 → I (D 0) i = I0 (D 0) i) ∧ y_S m I D Q ∧ y_P m I D P
theorem c_tellPM {D : Nat → Nat} {m : Nat → Int32} (hM : p_Mo T D) (hC : p_Mc I D) (hm : I (D 1) = m) (hp : d_ok m)
    (h : ∀ I' P, fr I I' [D 0, D 1, D 13, D 16, D 17, D 19, D 20, D 22] → I' (D 1) = m → (∀ i, i ≠ 18 → i ≠ 21 → I' (D 0) i = I (D 0) i) → y_P m I' D P → y_res m P → K none T I' L) : mz_Ctr G M_X12_tellPlacements [.ref (D 0)] T I L K := by
  refine mz_apartC fun hU => ?_
  obtain ⟨h0, ⟨r1, r2, r3, r5, r6, r8, r9, r10, r11, r12, r13, r14, r16, r17, r19, r20, r22, -⟩, ⟨t1, t2, t3, t5, t6, t8, t9, t10, t11, t12, t13, t14, t16, t17, t19, t20, t22, -⟩, -⟩ := id hM
  obtain ⟨hpp, hfit⟩ := hp
  obtain ⟨⟨q1, q2, q3, q4⟩, hk, hst, hcb, hrb⟩ := id hpp
  have ne : ∀ {a b : Nat} {x y : Nat × Nat}, (a, x) ∈ T.1 → (b, y) ∈ T.1 → x ≠ y → a ≠ b := fun a b c => mz_ne hU a b c
  have n0_1 := ne h0 t1 (by decide)
  have n0_13 := ne h0 t13 (by decide)
  have n0_16 := ne h0 t16 (by decide)
  have n0_17 := ne h0 t17 (by decide)
  have n0_19 := ne h0 t19 (by decide)
  have n0_20 := ne h0 t20 (by decide)
  have n0_22 := ne h0 t22 (by decide)
  have n1_16 := ne t1 t16 (by decide)
  have n1_17 := ne t1 t17 (by decide)
  have n16_13 := ne t16 t13 (by decide)
  have n16_17 := ne t16 t17 (by decide)
  have n16_19 := ne t16 t19 (by decide)
  have n16_20 := ne t16 t20 (by decide)
  have n16_22 := ne t16 t22 (by decide)
  have n17_13 := ne t17 t13 (by decide)
  have n17_19 := ne t17 t19 (by decide)
  have n17_20 := ne t17 t20 (by decide)
  have n17_22 := ne t17 t22 (by decide)
  have hx0 : x_in m (x_0 m) := ⟨hst, hfit⟩
  have hC0 : ∀ J : mz_I, fr I J [D 0, D 1, D 13, D 16, D 17, D 19, D 20, D 22] → p_Mc J D := fun J fJ => p_Mc_fr hC fJ (Mc_ne hU hM (fun a ha => by
    simp only [List.mem_cons, List.not_mem_nil, or_false] at ha
    rcases ha with e | e | e | e | e | e | e | e <;> rw [e]
    · exact ⟨_, h0, by decide, by decide, by decide, by decide, by decide⟩
    · exact ⟨_, t1, by decide, by decide, by decide, by decide, by decide⟩
    · exact ⟨_, t13, by decide, by decide, by decide, by decide, by decide⟩
    · exact ⟨_, t16, by decide, by decide, by decide, by decide, by decide⟩
    · exact ⟨_, t17, by decide, by decide, by decide, by decide, by decide⟩
    · exact ⟨_, t19, by decide, by decide, by decide, by decide, by decide⟩
    · exact ⟨_, t20, by decide, by decide, by decide, by decide, by decide⟩
    · exact ⟨_, t22, by decide, by decide, by decide, by decide, by decide⟩))
  -- a position is reached
  have bR : ∀ (J J' : mz_I) (Q Q' P : List s_P), y_B m I J D Q P → fr J J' [D 0, D 16, D 17] → (∀ i, i ≠ 18 → J' (D 0) i = J (D 0) i) → y_S m J' D Q' → y_B m I J' D Q' P := by
    intro J J' Q Q' P hB f1 o1 s1
    obtain ⟨b1, b2, b3, b4, ⟨p1, p2, p3, p4, p5⟩⟩ := hB
    have e19 : J' (D 19) = J (D 19) := f1 _ (by simp; exact ⟨Ne.symm n0_19, Ne.symm n16_19, Ne.symm n17_19⟩)
    have e20 : J' (D 20) = J (D 20) := f1 _ (by simp; exact ⟨Ne.symm n0_20, Ne.symm n16_20, Ne.symm n17_20⟩)
    exact ⟨fr_tr1 b1 f1 (by simp), by rw [f1 _ (by simp; exact ⟨Ne.symm n0_1, n1_16, n1_17⟩)]; exact b2, fun i a b => by rw [o1 i a, b3 i a b], s1, by rw [o1 21 (by decide)]; exact p1, p2, p3, by rw [e19]; exact p4, by rw [e20]; exact p5⟩
  have bP : ∀ (J J' : mz_I) (Q P P' : List s_P), y_B m I J D Q P → fr J J' [D 0, D 1, D 13, D 19, D 20, D 22] → J' (D 1) = m → (∀ i, i ≠ 21 → J' (D 0) i = J (D 0) i) → y_P m J' D P' → y_B m I J' D Q P' := by
    intro J J' Q P P' hB f1 e1 o1 s1
    obtain ⟨b1, b2, b3, ⟨s1', s2, s3, s4, s5⟩, b5⟩ := hB
    have e16 : J' (D 16) = J (D 16) := f1 _ (by simp; exact ⟨Ne.symm n0_16, Ne.symm n1_16, n16_13, n16_19, n16_20, n16_22⟩)
    have e17 : J' (D 17) = J (D 17) := f1 _ (by simp; exact ⟨Ne.symm n0_17, Ne.symm n1_17, n17_13, n17_19, n17_20, n17_22⟩)
    exact ⟨fr_tr1 b1 f1 (by simp), e1, fun i a b => by rw [o1 i b, b3 i a b], ⟨by rw [o1 18 (by decide)]; exact s1', s2, s3, by rw [e17]; exact s4, by rw [e16]; exact s5⟩, s1⟩
  have loop : ∀ (k i : Nat) (Q P : List s_P) (J : mz_I), 1793 ≤ i + k → y_B m I J D Q P → y_M m Q i P → mz_W G M_X12_tellPlacements K mz_nX 62 [some (.ref (D 0)), some (.int (zI i)), none, none, none] [] T J L (0, 0) := by
    intro k
    induction k with
    | zero =>
      intro i Q P J hik hB hMi
      have := y_len hk hB.2.2.2.1.2.1 hB.2.2.2.1.2.2.1
      have := hMi.2.2.1
      omega
    | succ k ih =>
      intro i Q P J hik hB hMi
      have hlen := y_len hk hB.2.2.2.1.2.1 hB.2.2.2.1.2.2.1
      have hiq := hMi.2.2.1
      have e18 := hB.2.2.2.1.1
      refine mz_vc ok_X12_tellPlacements [62] [(), (), (), (), (), (), (), (), (), (), (), (), (), (), (), (), (), (), (), (), (), (), (), (), (), (), (), (), (), ()] ?_
      simp only [cd_X12_tellPlacements, h0, r1, r16, r17, ix_222 t1, n_222, ix_223 t1, n_223, ix_224 t1, n_224, ix_225 t1, n_225, e18, r_rn0, r_rnc, r_vk0, r_vkc, r_vks, r_kci, r_kcv, r_ild, r_ald, r_lld, r_dld, r_Li, r_La, r_Ll, r_Ld, r_Ki, r_Ka, r_Kl, r_Kd, r_Kn, r_ist, r_ast, r_lst, r_dst, r_iinc, r_int, r_lng, r_dbl, r_i2, r_i1, r_l2, r_lsh, r_i2z, r_l2z, r_i2l, r_l2i, r_i2d, r_lcmp, r_ddiv, r_dcmpl, r_dup, r_dup2, r_pop, r_one_int, r_one_ref, r_go, r_if, r_ic, r_tsw, r_lsw, r_sw0, r_swc, r_lk0, r_lkc, r_kp, r_gI, r_gL, r_gR, r_pI, r_pZ, r_pL, r_pR, r_gs, r_ia, r_ca, r_za, r_la, r_da, r_aa, r_ias, r_cas, r_zas, r_las, r_das, r_aas, r_acp, r_new, r_nwa, r_nwq, r_ret, r_irt, r_zrt, r_lrt, r_drt, r_art, r_thr, r_cV0, r_cV1, r_cV2, r_cV3, r_cV4, r_cV5, r_cI0, r_cS0, r_cS1, r_cS2, r_cS3, r_cX0, r_cX1, r_cX2, r_cX3, r_rc, r_oi, r_refx, r_i10, r_i01, r_rfs, r_mem0, r_memc, r_beq, r_kl0, r_klz, r_kl1i, r_kl1r, r_kl1n, r_kl1l, r_kl1d, List.length_cons, List.length_nil, List.getElem?_cons_zero, List.getElem?_cons_succ, List.set_cons_zero, List.set_cons_succ, true_and, and_true, not_true, not_false_eq_true, false_implies, true_implies, or_true, true_or, or_false, false_or, Bool.or_false, Bool.false_or, decide_false, decide_true, Nat.reduceLT, Nat.reduceLeDiff, Nat.reduceAdd, Nat.reduceSub, ↓reduceIte, Nat.reduceEqDiff, Nat.lt_add_one]
      rw [z_le (by omega) (by omega)]
      refine ⟨fun q => ?_, fun q => ?_⟩
      · have e : i = Q.length := by omega
        subst e
        exact h J P hB.1 hB.2.1 hB.2.2.1 hB.2.2.2.2 (y_M_end hx0 hMi)
      · have hi : i < Q.length := by omega
        generalize hQi : Q.getD i (0, 0, 0) = x
        have hxQ : x ∈ Q := by rw [← hQi]; exact x_get hi
        have hx : x_in m x := hB.2.2.2.1.2.2.1 x hxQ
        have hb := x_in_b hk hx
        have hxs := hx.1
        have he := y_e_lt hk hx
        have hde := y_de hk hx
        have d1 : y_e x / 448 = x.1 := congrArg Prod.fst hde
        have d2 : ((y_e x % 448 / 28 : Nat) : Int) - 3 = x.2.1 := congrArg (fun z => z.2.1) hde
        have d3 : ((y_e x % 28 : Nat) : Int) - 3 = x.2.2 := congrArg (fun z => z.2.2) hde
        have f1' : zI (y_e x : Int) / 448 = zI (x.1 : Int) := by
          rw [show (448 : Int32) = zI 448 from rfl, z_div (by omega) (by decide), ← d1]; rfl
        have f2' : (zI (y_e x : Int) - zI (y_e x : Int) / 448 * 448) / 28 - 3 = zI x.2.1 := by
          rw [show (448 : Int32) = zI 448 from rfl, show (28 : Int32) = zI 28 from rfl, z_mod (by omega) (by decide), z_div (by omega) (by decide), l_3, z_sub, ← d2]; rfl
        have f3' : zI (y_e x : Int) - zI (y_e x : Int) / 28 * 28 - 3 = zI x.2.2 := by
          rw [show (28 : Int32) = zI 28 from rfl, z_mod (by omega) (by decide), l_3, z_sub, ← d3]; rfl
        rw [z_nat (by omega), Int.toNat_natCast, hB.2.2.2.1.2.2.2.1 i hi, hQi, f2', f3', f1']
        refine ⟨n_ix _ t17 (by omega) (by decide), by decide, n_ix _ t17 (by omega) (by decide), by decide, by decide, n_ix _ t17 (by omega) (by decide), by decide, ?_⟩
        have em1 : zI x.2.1 - 1 = zI (x.2.1 + -1) := by rw [l_1, z_sub]; rfl
        have ep1 : zI x.2.1 + 1 = zI (x.2.1 + 1) := by rw [l_1, z_add]
        have er1 : zI x.2.2 - 1 = zI (x.2.2 - 1) := by rw [l_1, z_sub]
        rw [em1]
        refine c_reachesM hM (hC0 J hB.1) hB.2.1 hpp hB.2.2.2.1 hxs (by omega) (by omega) (fun J1 g1 o1 s1 => ?_)
        rw [y_re_sh hxQ] at s1
        have B1 := bR _ _ _ _ _ hB g1 o1 s1
        have hx1 : x ∈ x_re Q (x_sh m x (-1)) := x_re_mem.mpr (Or.inl hxQ)
        simp only [cd_X12_tellPlacements, h0, r1, r16, r17, ix_222 t1, n_222, ix_223 t1, n_223, ix_224 t1, n_224, ix_225 t1, n_225, r_rn0, r_rnc, r_vk0, r_vkc, r_vks, r_kci, r_kcv, r_ild, r_ald, r_lld, r_dld, r_Li, r_La, r_Ll, r_Ld, r_Ki, r_Ka, r_Kl, r_Kd, r_Kn, r_ist, r_ast, r_lst, r_dst, r_iinc, r_int, r_lng, r_dbl, r_i2, r_i1, r_l2, r_lsh, r_i2z, r_l2z, r_i2l, r_l2i, r_i2d, r_lcmp, r_ddiv, r_dcmpl, r_dup, r_dup2, r_pop, r_one_int, r_one_ref, r_go, r_if, r_ic, r_tsw, r_lsw, r_sw0, r_swc, r_lk0, r_lkc, r_kp, r_gI, r_gL, r_gR, r_pI, r_pZ, r_pL, r_pR, r_gs, r_ia, r_ca, r_za, r_la, r_da, r_aa, r_ias, r_cas, r_zas, r_las, r_das, r_aas, r_acp, r_new, r_nwa, r_nwq, r_ret, r_irt, r_zrt, r_lrt, r_drt, r_art, r_thr, r_cV0, r_cV1, r_cV2, r_cV3, r_cV4, r_cV5, r_cI0, r_cS0, r_cS1, r_cS2, r_cS3, r_cX0, r_cX1, r_cX2, r_cX3, r_rc, r_oi, r_refx, r_i10, r_i01, r_rfs, r_mem0, r_memc, r_beq, r_kl0, r_klz, r_kl1i, r_kl1r, r_kl1n, r_kl1l, r_kl1d, List.length_cons, List.length_nil, List.getElem?_cons_zero, List.getElem?_cons_succ, List.set_cons_zero, List.set_cons_succ, true_and, and_true, not_true, not_false_eq_true, false_implies, true_implies, or_true, true_or, or_false, false_or, Bool.or_false, Bool.false_or, decide_false, decide_true, Nat.reduceLT, Nat.reduceLeDiff, Nat.reduceAdd, Nat.reduceSub, ↓reduceIte, Nat.reduceEqDiff, Nat.lt_add_one]
        rw [ep1]
        refine c_reachesM hM (hC0 J1 B1.1) B1.2.1 hpp B1.2.2.2.1 hxs (by omega) (by omega) (fun J2 g2 o2 s2 => ?_)
        rw [y_re_sh hx1] at s2
        have B2 := bR _ _ _ _ _ B1 g2 o2 s2
        have hx2 := x_re_mem (y := x_sh m x 1).mpr (Or.inl hx1)
        simp only [cd_X12_tellPlacements, h0, r1, r16, r17, ix_222 t1, n_222, ix_223 t1, n_223, ix_224 t1, n_224, ix_225 t1, n_225, r_rn0, r_rnc, r_vk0, r_vkc, r_vks, r_kci, r_kcv, r_ild, r_ald, r_lld, r_dld, r_Li, r_La, r_Ll, r_Ld, r_Ki, r_Ka, r_Kl, r_Kd, r_Kn, r_ist, r_ast, r_lst, r_dst, r_iinc, r_int, r_lng, r_dbl, r_i2, r_i1, r_l2, r_lsh, r_i2z, r_l2z, r_i2l, r_l2i, r_i2d, r_lcmp, r_ddiv, r_dcmpl, r_dup, r_dup2, r_pop, r_one_int, r_one_ref, r_go, r_if, r_ic, r_tsw, r_lsw, r_sw0, r_swc, r_lk0, r_lkc, r_kp, r_gI, r_gL, r_gR, r_pI, r_pZ, r_pL, r_pR, r_gs, r_ia, r_ca, r_za, r_la, r_da, r_aa, r_ias, r_cas, r_zas, r_las, r_das, r_aas, r_acp, r_new, r_nwa, r_nwq, r_ret, r_irt, r_zrt, r_lrt, r_drt, r_art, r_thr, r_cV0, r_cV1, r_cV2, r_cV3, r_cV4, r_cV5, r_cI0, r_cS0, r_cS1, r_cS2, r_cS3, r_cX0, r_cX1, r_cX2, r_cX3, r_rc, r_oi, r_refx, r_i10, r_i01, r_rfs, r_mem0, r_memc, r_beq, r_kl0, r_klz, r_kl1i, r_kl1r, r_kl1n, r_kl1l, r_kl1d, List.length_cons, List.length_nil, List.getElem?_cons_zero, List.getElem?_cons_succ, List.set_cons_zero, List.set_cons_succ, true_and, and_true, not_true, not_false_eq_true, false_implies, true_implies, or_true, true_or, or_false, false_or, Bool.or_false, Bool.false_or, decide_false, decide_true, Nat.reduceLT, Nat.reduceLeDiff, Nat.reduceAdd, Nat.reduceSub, ↓reduceIte, Nat.reduceEqDiff, Nat.lt_add_one]
        refine c_turnsM hM (hC0 J2 B2.1) B2.2.1 hpp B2.2.2.2.1 hx2 (d := 1) (Or.inr rfl) (fun J3 g3 o3 s3 => ?_)
        have B3 := bR _ _ _ _ _ B2 g3 o3 s3
        have hx3 := x_re_mem (y := x_tn m x 1).mpr (Or.inl hx2)
        simp only [cd_X12_tellPlacements, h0, r1, r16, r17, ix_222 t1, n_222, ix_223 t1, n_223, ix_224 t1, n_224, ix_225 t1, n_225, r_rn0, r_rnc, r_vk0, r_vkc, r_vks, r_kci, r_kcv, r_ild, r_ald, r_lld, r_dld, r_Li, r_La, r_Ll, r_Ld, r_Ki, r_Ka, r_Kl, r_Kd, r_Kn, r_ist, r_ast, r_lst, r_dst, r_iinc, r_int, r_lng, r_dbl, r_i2, r_i1, r_l2, r_lsh, r_i2z, r_l2z, r_i2l, r_l2i, r_i2d, r_lcmp, r_ddiv, r_dcmpl, r_dup, r_dup2, r_pop, r_one_int, r_one_ref, r_go, r_if, r_ic, r_tsw, r_lsw, r_sw0, r_swc, r_lk0, r_lkc, r_kp, r_gI, r_gL, r_gR, r_pI, r_pZ, r_pL, r_pR, r_gs, r_ia, r_ca, r_za, r_la, r_da, r_aa, r_ias, r_cas, r_zas, r_las, r_das, r_aas, r_acp, r_new, r_nwa, r_nwq, r_ret, r_irt, r_zrt, r_lrt, r_drt, r_art, r_thr, r_cV0, r_cV1, r_cV2, r_cV3, r_cV4, r_cV5, r_cI0, r_cS0, r_cS1, r_cS2, r_cS3, r_cX0, r_cX1, r_cX2, r_cX3, r_rc, r_oi, r_refx, r_i10, r_i01, r_rfs, r_mem0, r_memc, r_beq, r_kl0, r_klz, r_kl1i, r_kl1r, r_kl1n, r_kl1l, r_kl1d, List.length_cons, List.length_nil, List.getElem?_cons_zero, List.getElem?_cons_succ, List.set_cons_zero, List.set_cons_succ, true_and, and_true, not_true, not_false_eq_true, false_implies, true_implies, or_true, true_or, or_false, false_or, Bool.or_false, Bool.false_or, decide_false, decide_true, Nat.reduceLT, Nat.reduceLeDiff, Nat.reduceAdd, Nat.reduceSub, ↓reduceIte, Nat.reduceEqDiff, Nat.lt_add_one]
        refine c_turnsM hM (hC0 J3 B3.1) B3.2.1 hpp B3.2.2.2.1 hx3 (d := -1) (Or.inl rfl) (fun J4 g4 o4 s4 => ?_)
        have B4 := bR _ _ _ _ _ B3 g4 o4 s4
        have hx4 := x_re_mem (y := x_tn m x (-1)).mpr (Or.inl hx3)
        simp only [cd_X12_tellPlacements, h0, r1, r16, r17, ix_222 t1, n_222, ix_223 t1, n_223, ix_224 t1, n_224, ix_225 t1, n_225, r_rn0, r_rnc, r_vk0, r_vkc, r_vks, r_kci, r_kcv, r_ild, r_ald, r_lld, r_dld, r_Li, r_La, r_Ll, r_Ld, r_Ki, r_Ka, r_Kl, r_Kd, r_Kn, r_ist, r_ast, r_lst, r_dst, r_iinc, r_int, r_lng, r_dbl, r_i2, r_i1, r_l2, r_lsh, r_i2z, r_l2z, r_i2l, r_l2i, r_i2d, r_lcmp, r_ddiv, r_dcmpl, r_dup, r_dup2, r_pop, r_one_int, r_one_ref, r_go, r_if, r_ic, r_tsw, r_lsw, r_sw0, r_swc, r_lk0, r_lkc, r_kp, r_gI, r_gL, r_gR, r_pI, r_pZ, r_pL, r_pR, r_gs, r_ia, r_ca, r_za, r_la, r_da, r_aa, r_ias, r_cas, r_zas, r_las, r_das, r_aas, r_acp, r_new, r_nwa, r_nwq, r_ret, r_irt, r_zrt, r_lrt, r_drt, r_art, r_thr, r_cV0, r_cV1, r_cV2, r_cV3, r_cV4, r_cV5, r_cI0, r_cS0, r_cS1, r_cS2, r_cS3, r_cX0, r_cX1, r_cX2, r_cX3, r_rc, r_oi, r_refx, r_i10, r_i01, r_rfs, r_mem0, r_memc, r_beq, r_kl0, r_klz, r_kl1i, r_kl1r, r_kl1n, r_kl1l, r_kl1d, List.length_cons, List.length_nil, List.getElem?_cons_zero, List.getElem?_cons_succ, List.set_cons_zero, List.set_cons_succ, true_and, and_true, not_true, not_false_eq_true, false_implies, true_implies, or_true, true_or, or_false, false_or, Bool.or_false, Bool.false_or, decide_false, decide_true, Nat.reduceLT, Nat.reduceLeDiff, Nat.reduceAdd, Nat.reduceSub, ↓reduceIte, Nat.reduceEqDiff, Nat.lt_add_one]
        rw [er1]
        refine c_reachesM hM (hC0 J4 B4.1) B4.2.1 hpp B4.2.2.2.1 hxs (by omega) (by omega) (fun J5 g5 o5 s5 => ?_)
        rw [y_re_dn hx4] at s5
        have B5 := bR _ _ _ _ _ B4 g5 o5 s5
        have B5 : y_B m I J5 D (y_st m Q x) P := B5
        have v222 : J5 (D 1) 222 = zI (m_kd m) := by rw [B5.2.1]; exact q1
        simp only [cd_X12_tellPlacements, h0, r1, r16, r17, ix_222 t1, n_222, ix_223 t1, n_223, ix_224 t1, n_224, ix_225 t1, n_225, v222, r_rn0, r_rnc, r_vk0, r_vkc, r_vks, r_kci, r_kcv, r_ild, r_ald, r_lld, r_dld, r_Li, r_La, r_Ll, r_Ld, r_Ki, r_Ka, r_Kl, r_Kd, r_Kn, r_ist, r_ast, r_lst, r_dst, r_iinc, r_int, r_lng, r_dbl, r_i2, r_i1, r_l2, r_lsh, r_i2z, r_l2z, r_i2l, r_l2i, r_i2d, r_lcmp, r_ddiv, r_dcmpl, r_dup, r_dup2, r_pop, r_one_int, r_one_ref, r_go, r_if, r_ic, r_tsw, r_lsw, r_sw0, r_swc, r_lk0, r_lkc, r_kp, r_gI, r_gL, r_gR, r_pI, r_pZ, r_pL, r_pR, r_gs, r_ia, r_ca, r_za, r_la, r_da, r_aa, r_ias, r_cas, r_zas, r_las, r_das, r_aas, r_acp, r_new, r_nwa, r_nwq, r_ret, r_irt, r_zrt, r_lrt, r_drt, r_art, r_thr, r_cV0, r_cV1, r_cV2, r_cV3, r_cV4, r_cV5, r_cI0, r_cS0, r_cS1, r_cS2, r_cS3, r_cX0, r_cX1, r_cX2, r_cX3, r_rc, r_oi, r_refx, r_i10, r_i01, r_rfs, r_mem0, r_memc, r_beq, r_kl0, r_klz, r_kl1i, r_kl1r, r_kl1n, r_kl1l, r_kl1d, List.length_cons, List.length_nil, List.getElem?_cons_zero, List.getElem?_cons_succ, List.set_cons_zero, List.set_cons_succ, true_and, and_true, not_true, not_false_eq_true, false_implies, true_implies, or_true, true_or, or_false, false_or, Bool.or_false, Bool.false_or, decide_false, decide_true, Nat.reduceLT, Nat.reduceLeDiff, Nat.reduceAdd, Nat.reduceSub, ↓reduceIte, Nat.reduceEqDiff, Nat.lt_add_one]
        rw [er1]
        refine c_fitsM hM (hC0 J5 B5.1) hk hxs (by omega) (by omega) ?_
        rw [B5.2.1]
        have eft : s_fit (s_fm m) (m_kd m) x.1 x.2.1 (x.2.2 - 1) = x_ft m (x.1, x.2.1, x.2.2 - 1) := rfl
        rw [eft]
        simp only [cd_X12_tellPlacements, h0, r1, r16, r17, ix_222 t1, n_222, ix_223 t1, n_223, ix_224 t1, n_224, ix_225 t1, n_225, b2i_0, r_rn0, r_rnc, r_vk0, r_vkc, r_vks, r_kci, r_kcv, r_ild, r_ald, r_lld, r_dld, r_Li, r_La, r_Ll, r_Ld, r_Ki, r_Ka, r_Kl, r_Kd, r_Kn, r_ist, r_ast, r_lst, r_dst, r_iinc, r_int, r_lng, r_dbl, r_i2, r_i1, r_l2, r_lsh, r_i2z, r_l2z, r_i2l, r_l2i, r_i2d, r_lcmp, r_ddiv, r_dcmpl, r_dup, r_dup2, r_pop, r_one_int, r_one_ref, r_go, r_if, r_ic, r_tsw, r_lsw, r_sw0, r_swc, r_lk0, r_lkc, r_kp, r_gI, r_gL, r_gR, r_pI, r_pZ, r_pL, r_pR, r_gs, r_ia, r_ca, r_za, r_la, r_da, r_aa, r_ias, r_cas, r_zas, r_las, r_das, r_aas, r_acp, r_new, r_nwa, r_nwq, r_ret, r_irt, r_zrt, r_lrt, r_drt, r_art, r_thr, r_cV0, r_cV1, r_cV2, r_cV3, r_cV4, r_cV5, r_cI0, r_cS0, r_cS1, r_cS2, r_cS3, r_cX0, r_cX1, r_cX2, r_cX3, r_rc, r_oi, r_refx, r_i10, r_i01, r_rfs, r_mem0, r_memc, r_beq, r_kl0, r_klz, r_kl1i, r_kl1r, r_kl1n, r_kl1l, r_kl1d, List.length_cons, List.length_nil, List.getElem?_cons_zero, List.getElem?_cons_succ, List.set_cons_zero, List.set_cons_succ, true_and, and_true, not_true, not_false_eq_true, false_implies, true_implies, or_true, true_or, or_false, false_or, Bool.or_false, Bool.false_or, decide_false, decide_true, Nat.reduceLT, Nat.reduceLeDiff, Nat.reduceAdd, Nat.reduceSub, ↓reduceIte, Nat.reduceEqDiff, Nat.lt_add_one]
        have next : ∀ (J6 : mz_I) (P' : List s_P), y_B m I J6 D (y_st m Q x) P' → y_M m (y_st m Q x) (i + 1) P' → mz_W G M_X12_tellPlacements K mz_nX 62 [some (.ref (D 0)), some (.int (zI ((i + 1 : Nat) : Int))), some (.int (zI x.1)), some (.int (zI x.2.1)), some (.int (zI x.2.2))] [] T J6 L (0, 0) := fun J6 P' h6 m6 =>
          mz_forget (ih (i + 1) _ P' J6 (by omega) h6 m6) rfl (mz_fg_s (mz_fg_s (mz_fg_n (mz_fg_n (mz_fg_n mz_fg_0)))))
        have stepOld : ((∃ y, y ∈ P ∧ x_key m y = x_key m x) ∨ ¬ x_rs m x) → y_M m (y_st m Q x) (i + 1) P := by
          intro q
          have := y_M_step (P' := P) hMi hi (fun v => by
            rw [hQi]
            refine ⟨Or.inl, fun e => e.elim id (fun e => ?_)⟩
            rcases q with q | q
            · rw [← e.2]; exact q
            · exact absurd e.1 q) hMi.2.2.2.2.2.1 hMi.2.2.2.2.2.2
          rw [hQi] at this
          exact this
        rw [z_1]
        refine ⟨fun q => ?_, fun q => ?_⟩
        · have q : x_ft m (x.1, x.2.1, x.2.2 - 1) = true := by simpa using q
          exact next J5 P B5 (stepOld (Or.inr (fun e => by unfold x_rs at e; rw [q] at e; cases e)))
        · have hrs : x_rs m x := by
            have q : x_ft m (x.1, x.2.1, x.2.2 - 1) = false := by simpa using q
            exact q
          have hPin : ∀ y, y ∈ P → x_in m y := fun y hy => hB.2.2.2.1.2.2.1 y (hMi.2.2.2.2.2.1 y hy).1
          have hnew : P.any (y_sm m x) = false → ((P ++ [x]).map (x_key m)).Nodup := by
            intro q2
            rw [List.map_append, List.nodup_append]
            refine ⟨hMi.2.2.2.2.2.2, List.nodup_cons.mpr ⟨List.not_mem_nil, List.nodup_nil⟩, fun a ha b hb9 e => ?_⟩
            obtain ⟨y, hy, ey⟩ := List.mem_map.mp ha
            have hb9 : b = x_key m x := List.mem_singleton.mp hb9
            rw [List.any_eq_false] at q2
            exact q2 y hy ((y_key hk hx (hPin y hy)).mp (by rw [ey, e, hb9]))
          have hsub : ∀ y, y ∈ P ++ [x] → y ∈ Q ∧ x_rs m y := fun y hy => by
            rcases List.mem_append.mp hy with hy | hy
            · exact hMi.2.2.2.2.2.1 y hy
            · rw [List.mem_singleton.mp hy]; exact ⟨hxQ, hrs⟩
          refine c_comesM hM (hC0 J5 B5.1) B5.2.1 hpp hx B5.2.2.2.2 ?_ (fun J6 g6 e6 o6 s6 => ?_)
          · cases q2 : P.any (y_sm m x) with
            | true => exact Or.inr rfl
            | false =>
              left
              have := x_cnt hk hB.2.2.2.1.2.1 hB.2.2.2.1.2.2.1 (hnew q2) (fun v hv => by
                obtain ⟨y, hy, ey⟩ := List.mem_map.mp hv
                obtain ⟨a, b⟩ := hsub y hy
                exact ⟨y, a, b, ey⟩)
              rw [List.length_map, List.length_append] at this
              have : P.length + 1 ≤ 440 := this
              omega
          · have B6 := bP _ _ _ _ _ B5 g6 e6 o6 s6
            simp only [cd_X12_tellPlacements, h0, r1, r16, r17, ix_222 t1, n_222, ix_223 t1, n_223, ix_224 t1, n_224, ix_225 t1, n_225, r_rn0, r_rnc, r_vk0, r_vkc, r_vks, r_kci, r_kcv, r_ild, r_ald, r_lld, r_dld, r_Li, r_La, r_Ll, r_Ld, r_Ki, r_Ka, r_Kl, r_Kd, r_Kn, r_ist, r_ast, r_lst, r_dst, r_iinc, r_int, r_lng, r_dbl, r_i2, r_i1, r_l2, r_lsh, r_i2z, r_l2z, r_i2l, r_l2i, r_i2d, r_lcmp, r_ddiv, r_dcmpl, r_dup, r_dup2, r_pop, r_one_int, r_one_ref, r_go, r_if, r_ic, r_tsw, r_lsw, r_sw0, r_swc, r_lk0, r_lkc, r_kp, r_gI, r_gL, r_gR, r_pI, r_pZ, r_pL, r_pR, r_gs, r_ia, r_ca, r_za, r_la, r_da, r_aa, r_ias, r_cas, r_zas, r_las, r_das, r_aas, r_acp, r_new, r_nwa, r_nwq, r_ret, r_irt, r_zrt, r_lrt, r_drt, r_art, r_thr, r_cV0, r_cV1, r_cV2, r_cV3, r_cV4, r_cV5, r_cI0, r_cS0, r_cS1, r_cS2, r_cS3, r_cX0, r_cX1, r_cX2, r_cX3, r_rc, r_oi, r_refx, r_i10, r_i01, r_rfs, r_mem0, r_memc, r_beq, r_kl0, r_klz, r_kl1i, r_kl1r, r_kl1n, r_kl1l, r_kl1d, List.length_cons, List.length_nil, List.getElem?_cons_zero, List.getElem?_cons_succ, List.set_cons_zero, List.set_cons_succ, true_and, and_true, not_true, not_false_eq_true, false_implies, true_implies, or_true, true_or, or_false, false_or, Bool.or_false, Bool.false_or, decide_false, decide_true, Nat.reduceLT, Nat.reduceLeDiff, Nat.reduceAdd, Nat.reduceSub, ↓reduceIte, Nat.reduceEqDiff, Nat.lt_add_one]
            rw [z_1]
            cases q2 : P.any (y_sm m x) with
            | true =>
              rw [q2, if_pos rfl] at B6
              rw [List.any_eq_true] at q2
              obtain ⟨y, hy, e⟩ := q2
              exact next J6 P B6 (stepOld (Or.inl ⟨y, hy, ((y_key hk hx (hPin y hy)).mpr e).symm⟩))
            | false =>
              rw [q2, if_neg (by decide)] at B6
              refine next J6 _ B6 ?_
              have := y_M_step (P' := P ++ [x]) hMi hi (fun v => by
                rw [hQi]
                constructor
                · rintro ⟨y, hy, e⟩
                  rcases List.mem_append.mp hy with hy | hy
                  · exact Or.inl ⟨y, hy, e⟩
                  · rw [List.mem_singleton.mp hy] at e; exact Or.inr ⟨hrs, e⟩
                · rintro (⟨y, hy, e⟩ | e)
                  · exact ⟨y, List.mem_append.mpr (Or.inl hy), e⟩
                  · exact ⟨x, List.mem_append.mpr (Or.inr (List.mem_singleton.mpr rfl)), e.2⟩) hsub (hnew q2)
              rw [hQi] at this
              exact this
  have w2 : ∀ k (J : mz_I), k ≤ 1792 → fr I J [D 16] → (∀ j, j < 1792 - k → J (D 16) j = 0) → mz_W G M_X12_tellPlacements K mz_nX 2 [some (.ref (D 0)), some (.int (zI (1792 - k : Nat))), none, none, none] [] T J L (0, 0) := by
    intro k
    induction k with
    | zero =>
      intro J _ fJ zJ
      have e1 : J (D 1) = m := by rw [fr_ne1 fJ n1_16]; exact hm
      have v223 : J (D 1) 223 = zI (m_st m) := by rw [e1]; exact q2
      have v224 : J (D 1) 224 = zI (m_c m) := by rw [e1]; exact q3
      have v225 : J (D 1) 225 = zI (m_r m) := by rw [e1]; exact q4
      refine mz_vc ok_X12_tellPlacements [2, 62] [(), (), (), (), (), (), (), (), (), (), (), (), (), (), (), (), (), (), (), (), (), (), (), (), (), (), (), (), (), ()] ?_
      simp only [cd_X12_tellPlacements, h0, r1, r16, r17, ix_222 t1, n_222, ix_223 t1, n_223, ix_224 t1, n_224, ix_225 t1, n_225, r_rn0, r_rnc, r_vk0, r_vkc, r_vks, r_kci, r_kcv, r_ild, r_ald, r_lld, r_dld, r_Li, r_La, r_Ll, r_Ld, r_Ki, r_Ka, r_Kl, r_Kd, r_Kn, r_ist, r_ast, r_lst, r_dst, r_iinc, r_int, r_lng, r_dbl, r_i2, r_i1, r_l2, r_lsh, r_i2z, r_l2z, r_i2l, r_l2i, r_i2d, r_lcmp, r_ddiv, r_dcmpl, r_dup, r_dup2, r_pop, r_one_int, r_one_ref, r_go, r_if, r_ic, r_tsw, r_lsw, r_sw0, r_swc, r_lk0, r_lkc, r_kp, r_gI, r_gL, r_gR, r_pI, r_pZ, r_pL, r_pR, r_gs, r_ia, r_ca, r_za, r_la, r_da, r_aa, r_ias, r_cas, r_zas, r_las, r_das, r_aas, r_acp, r_new, r_nwa, r_nwq, r_ret, r_irt, r_zrt, r_lrt, r_drt, r_art, r_thr, r_cV0, r_cV1, r_cV2, r_cV3, r_cV4, r_cV5, r_cI0, r_cS0, r_cS1, r_cS2, r_cS3, r_cX0, r_cX1, r_cX2, r_cX3, r_rc, r_oi, r_refx, r_i10, r_i01, r_rfs, r_mem0, r_memc, r_beq, r_kl0, r_klz, r_kl1i, r_kl1r, r_kl1n, r_kl1l, r_kl1d, List.length_cons, List.length_nil, List.getElem?_cons_zero, List.getElem?_cons_succ, List.set_cons_zero, List.set_cons_succ, true_and, and_true, not_true, not_false_eq_true, false_implies, true_implies, or_true, true_or, or_false, false_or, Bool.or_false, Bool.false_or, decide_false, decide_true, Nat.reduceLT, Nat.reduceLeDiff, Nat.reduceAdd, Nat.reduceSub, ↓reduceIte, Nat.reduceEqDiff, Nat.lt_add_one]
      simp only [mz_u_ne (Ne.symm n0_1), v223, v224, v225]
      refine ⟨fun _ => ?_, fun q => absurd (by decide) q⟩
      have fS : fr I (mz_u (mz_u J (D 0) 18 0) (D 0) 21 0) [D 0, D 1, D 13, D 16, D 17, D 19, D 20, D 22] := fr_u2 (fr_u2 (fr_tr fJ fr_refl (by simp) (fun _ q => q)) (by simp)) (by simp)
      have B0 : y_B m I (mz_u (mz_u J (D 0) 18 0) (D 0) 21 0) D [] [] := by
        refine ⟨fS, ?_, fun i a b => ?_, ⟨?_, List.nodup_nil, fun x hx => (nomatch hx), fun j hj => absurd hj (Nat.not_lt_zero _), fun sp hsp => ?_⟩, ⟨mz_u_eq, by decide, fun x hx => (nomatch hx), fun p w a => absurd a (Nat.not_lt_zero _), fun p a => absurd a (Nat.not_lt_zero _)⟩⟩
        · rw [mz_u_ne (Ne.symm n0_1), mz_u_ne (Ne.symm n0_1)]; exact e1
        · rw [mz_u_nk b, mz_u_nk a, fr_ne1 fJ n0_16]
        · rw [mz_u_nk (by decide), mz_u_eq]; rfl
        · rw [mz_u_ne (Ne.symm n0_16), mz_u_ne (Ne.symm n0_16), zJ sp (by omega)]; rfl
      refine c_reachesM hM (hC0 _ fS) B0.2.1 hpp B0.2.2.2.1 hst (by omega) (by omega) (fun J1 g1 o1 s1 => ?_)
      have e0 : y_re m [] (m_st m, m_c m, m_r m) = [x_0 m] := by
        unfold y_re
        rw [if_pos (show x_ft m (m_st m, m_c m, m_r m) = true from hfit)]
        rfl
      rw [e0] at s1
      have B1 := bR _ _ _ _ _ B0 g1 o1 s1
      simp only [cd_X12_tellPlacements, h0, r1, r16, r17, ix_222 t1, n_222, ix_223 t1, n_223, ix_224 t1, n_224, ix_225 t1, n_225, r_rn0, r_rnc, r_vk0, r_vkc, r_vks, r_kci, r_kcv, r_ild, r_ald, r_lld, r_dld, r_Li, r_La, r_Ll, r_Ld, r_Ki, r_Ka, r_Kl, r_Kd, r_Kn, r_ist, r_ast, r_lst, r_dst, r_iinc, r_int, r_lng, r_dbl, r_i2, r_i1, r_l2, r_lsh, r_i2z, r_l2z, r_i2l, r_l2i, r_i2d, r_lcmp, r_ddiv, r_dcmpl, r_dup, r_dup2, r_pop, r_one_int, r_one_ref, r_go, r_if, r_ic, r_tsw, r_lsw, r_sw0, r_swc, r_lk0, r_lkc, r_kp, r_gI, r_gL, r_gR, r_pI, r_pZ, r_pL, r_pR, r_gs, r_ia, r_ca, r_za, r_la, r_da, r_aa, r_ias, r_cas, r_zas, r_las, r_das, r_aas, r_acp, r_new, r_nwa, r_nwq, r_ret, r_irt, r_zrt, r_lrt, r_drt, r_art, r_thr, r_cV0, r_cV1, r_cV2, r_cV3, r_cV4, r_cV5, r_cI0, r_cS0, r_cS1, r_cS2, r_cS3, r_cX0, r_cX1, r_cX2, r_cX3, r_rc, r_oi, r_refx, r_i10, r_i01, r_rfs, r_mem0, r_memc, r_beq, r_kl0, r_klz, r_kl1i, r_kl1r, r_kl1n, r_kl1l, r_kl1d, List.length_cons, List.length_nil, List.getElem?_cons_zero, List.getElem?_cons_succ, List.set_cons_zero, List.set_cons_succ, true_and, and_true, not_true, not_false_eq_true, false_implies, true_implies, or_true, true_or, or_false, false_or, Bool.or_false, Bool.false_or, decide_false, decide_true, Nat.reduceLT, Nat.reduceLeDiff, Nat.reduceAdd, Nat.reduceSub, ↓reduceIte, Nat.reduceEqDiff, Nat.lt_add_one]
      exact mz_forget (loop 1793 0 _ _ J1 (by decide) B1 ⟨List.mem_singleton.mpr rfl, fun x hx => by rw [List.mem_singleton.mp hx]; exact x_R0, Nat.zero_le _, fun j hj => absurd hj (Nat.not_lt_zero _), fun v => ⟨fun ⟨x, hx, _⟩ => (nomatch hx), fun ⟨j, hj, _⟩ => absurd hj (Nat.not_lt_zero _)⟩, fun x hx => (nomatch hx), List.nodup_nil⟩) rfl (mz_fg_s (mz_fg_s (mz_fg_n (mz_fg_n (mz_fg_n mz_fg_0)))))
    | succ k ih =>
      intro J hk9 fJ zJ
      refine mz_vc ok_X12_tellPlacements [2, 62] [(), (), (), (), (), (), (), (), (), (), (), (), (), (), (), (), (), (), (), (), (), (), (), (), (), (), (), (), (), ()] ?_
      simp only [cd_X12_tellPlacements, h0, r1, r16, r17, ix_222 t1, n_222, ix_223 t1, n_223, ix_224 t1, n_224, ix_225 t1, n_225, r_rn0, r_rnc, r_vk0, r_vkc, r_vks, r_kci, r_kcv, r_ild, r_ald, r_lld, r_dld, r_Li, r_La, r_Ll, r_Ld, r_Ki, r_Ka, r_Kl, r_Kd, r_Kn, r_ist, r_ast, r_lst, r_dst, r_iinc, r_int, r_lng, r_dbl, r_i2, r_i1, r_l2, r_lsh, r_i2z, r_l2z, r_i2l, r_l2i, r_i2d, r_lcmp, r_ddiv, r_dcmpl, r_dup, r_dup2, r_pop, r_one_int, r_one_ref, r_go, r_if, r_ic, r_tsw, r_lsw, r_sw0, r_swc, r_lk0, r_lkc, r_kp, r_gI, r_gL, r_gR, r_pI, r_pZ, r_pL, r_pR, r_gs, r_ia, r_ca, r_za, r_la, r_da, r_aa, r_ias, r_cas, r_zas, r_las, r_das, r_aas, r_acp, r_new, r_nwa, r_nwq, r_ret, r_irt, r_zrt, r_lrt, r_drt, r_art, r_thr, r_cV0, r_cV1, r_cV2, r_cV3, r_cV4, r_cV5, r_cI0, r_cS0, r_cS1, r_cS2, r_cS3, r_cX0, r_cX1, r_cX2, r_cX3, r_rc, r_oi, r_refx, r_i10, r_i01, r_rfs, r_mem0, r_memc, r_beq, r_kl0, r_klz, r_kl1i, r_kl1r, r_kl1n, r_kl1l, r_kl1d, List.length_cons, List.length_nil, List.getElem?_cons_zero, List.getElem?_cons_succ, List.set_cons_zero, List.set_cons_succ, true_and, and_true, not_true, not_false_eq_true, false_implies, true_implies, or_true, true_or, or_false, false_or, Bool.or_false, Bool.false_or, decide_false, decide_true, Nat.reduceLT, Nat.reduceLeDiff, Nat.reduceAdd, Nat.reduceSub, ↓reduceIte, Nat.reduceEqDiff, Nat.lt_add_one]
      rw [z_1 (1792 - (k + 1)), show 1792 - (k + 1) + 1 = 1792 - k by omega, z_nat (by omega), Int.toNat_natCast, nar_b.2]
      refine ⟨z_no (b := 1792) (by omega) (by omega) (by omega), fun _ => ⟨n_ix _ t16 (by omega) (by decide), ?_⟩⟩
      refine ih _ (by omega) (fr_u2 fJ (by simp)) (fun j hj => ?_)
      by_cases c : j = 1792 - (k + 1)
      · subst c; rw [mz_u_eq]
      · rw [mz_u_nk c]; exact zJ j (by omega)
  refine mz_ofl mk_X12_tellPlacements rfl (Nat.le_of_ble_eq_true rfl) (Nat.le_of_ble_eq_true rfl) [some (.ref (D 0)), none, none, none, none] rfl ?_
  refine mz_vc ok_X12_tellPlacements [2, 62] [(), (), (), (), (), (), (), (), (), (), (), (), (), (), (), (), (), (), (), (), (), (), (), (), (), (), (), (), (), ()] ?_
  simp only [cd_X12_tellPlacements, h0, r1, r16, r17, ix_222 t1, n_222, ix_223 t1, n_223, ix_224 t1, n_224, ix_225 t1, n_225, r_rn0, r_rnc, r_vk0, r_vkc, r_vks, r_kci, r_kcv, r_ild, r_ald, r_lld, r_dld, r_Li, r_La, r_Ll, r_Ld, r_Ki, r_Ka, r_Kl, r_Kd, r_Kn, r_ist, r_ast, r_lst, r_dst, r_iinc, r_int, r_lng, r_dbl, r_i2, r_i1, r_l2, r_lsh, r_i2z, r_l2z, r_i2l, r_l2i, r_i2d, r_lcmp, r_ddiv, r_dcmpl, r_dup, r_dup2, r_pop, r_one_int, r_one_ref, r_go, r_if, r_ic, r_tsw, r_lsw, r_sw0, r_swc, r_lk0, r_lkc, r_kp, r_gI, r_gL, r_gR, r_pI, r_pZ, r_pL, r_pR, r_gs, r_ia, r_ca, r_za, r_la, r_da, r_aa, r_ias, r_cas, r_zas, r_las, r_das, r_aas, r_acp, r_new, r_nwa, r_nwq, r_ret, r_irt, r_zrt, r_lrt, r_drt, r_art, r_thr, r_cV0, r_cV1, r_cV2, r_cV3, r_cV4, r_cV5, r_cI0, r_cS0, r_cS1, r_cS2, r_cS3, r_cX0, r_cX1, r_cX2, r_cX3, r_rc, r_oi, r_refx, r_i10, r_i01, r_rfs, r_mem0, r_memc, r_beq, r_kl0, r_klz, r_kl1i, r_kl1r, r_kl1n, r_kl1l, r_kl1d, List.length_cons, List.length_nil, List.getElem?_cons_zero, List.getElem?_cons_succ, List.set_cons_zero, List.set_cons_succ, true_and, and_true, not_true, not_false_eq_true, false_implies, true_implies, or_true, true_or, or_false, false_or, Bool.or_false, Bool.false_or, decide_false, decide_true, Nat.reduceLT, Nat.reduceLeDiff, Nat.reduceAdd, Nat.reduceSub, ↓reduceIte, Nat.reduceEqDiff, Nat.lt_add_one]
  exact w2 1792 I (Nat.le_refl _) fr_refl (fun j hj => absurd hj (by omega))
end TELL2
