/-! the search for placements: the whole of it -/
section EXPL2
variable {G : mz_G} {K : mz_K} {T : mz_T} {I : mz_I} {L : mz_L}
def f_RO : List Nat := [2, 0, 1, 0, 0, 0, 0, 0, 1, 0, 0, 0, 1, 0, 0, 0, 1, 0, 0, 0, 1, 0, 0, 0, 1, 0, 0, 0]
theorem f_rext : ∀ kd, kd < 7 → ∀ s, s < 4 → ∃ j, j < 4 ∧ s_cell kd s j / 10 = f_RO.getD (kd * 4 + s) 0 := by decide +kernel
def x_cd (m : Nat → Int32) (x : s_P) : Nat := x.1 * 110 + (x.2.1 + (f_LO.getD (m_kd m * 4 + x.1) 0 : Nat)).toNat * 11 + (x.2.2 + (f_RO.getD (m_kd m * 4 + x.1) 0 : Nat)).toNat / 2
theorem x_cd_b {m : Nat → Int32} {x : s_P} (hk : m_kd m < 7) (h : x_in m x) : (0 ≤ x.2.1 + (f_LO.getD (m_kd m * 4 + x.1) 0 : Nat) ∧ x.2.1 + (f_LO.getD (m_kd m * 4 + x.1) 0 : Nat) ≤ 9) ∧ (0 ≤ x.2.2 + (f_RO.getD (m_kd m * 4 + x.1) 0 : Nat) ∧ x.2.2 + (f_RO.getD (m_kd m * 4 + x.1) 0 : Nat) ≤ 21) := by
  obtain ⟨-, ⟨j1, h1, e1⟩, -⟩ := f_ext (m_kd m) hk x.1 h.1
  obtain ⟨j2, h2, e2⟩ := f_rext (m_kd m) hk x.1 h.1
  have q1 := s_fit_t.mp h.2 j1 h1
  have q2 := s_fit_t.mp h.2 j2 h2
  rw [e1] at q1
  rw [e2] at q2
  constructor
  · by_cases c : 0 ≤ x.2.1 + (f_LO.getD (m_kd m * 4 + x.1) 0 : Nat) ∧ x.2.1 + (f_LO.getD (m_kd m * 4 + x.1) 0 : Nat) ≤ 9
    · exact c
    · rw [s_at_out (by omega)] at q1; cases q1
  · by_cases c : 0 ≤ x.2.2 + (f_RO.getD (m_kd m * 4 + x.1) 0 : Nat) ∧ x.2.2 + (f_RO.getD (m_kd m * 4 + x.1) 0 : Nat) ≤ 21
    · exact c
    · rw [s_at_out (by omega)] at q2; cases q2
theorem x_cd_inj {m : Nat → Int32} {x y : s_P} (hk : m_kd m < 7) (hx : x_in m x) (hy : x_in m y) (rx : x_rs m x) (ry : x_rs m y) (e : x_cd m x = x_cd m y) : x = y := by
  have h1 := x_cd_b hk hx
  have h2 := x_cd_b hk hy
  have h3 := hx.1
  have h4 := hy.1
  have e1 : x.1 = y.1 := by unfold x_cd at e; omega
  obtain ⟨s, c, r⟩ := x
  obtain ⟨s', c', r'⟩ := y
  simp only at e1
  subst e1
  have e2 : c = c' := by unfold x_cd at e; simp only at *; omega
  subst e2
  have e3 : r = r' ∨ r = r' + 1 ∨ r' = r + 1 := by unfold x_cd at e; simp only at *; omega
  rcases e3 with e3 | e3 | e3
  · rw [e3]
  · subst e3
    unfold x_rs at rx
    have : x_ft m (s, c, r' + 1 - 1) = true := by rw [Int.add_sub_cancel]; exact hy.2
    rw [this] at rx; cases rx
  · subst e3
    unfold x_rs at ry
    have : x_ft m (s, c, r + 1 - 1) = true := by rw [Int.add_sub_cancel]; exact hx.2
    rw [this] at ry; cases ry
theorem x_cnt {m : Nat → Int32} {Q : List s_P} {l : List Nat} (hk : m_kd m < 7) (hn : Q.Nodup) (hq : ∀ x, x ∈ Q → x_in m x) (hl : l.Nodup) (h : ∀ v, v ∈ l → ∃ x, x ∈ Q ∧ x_rs m x ∧ x_key m x = v) : l.length ≤ 440 := by
  have key : ∀ x, x ∈ Q.filter (fun x => !x_ft m (x.1, x.2.1, x.2.2 - 1)) ↔ x ∈ Q ∧ x_rs m x := fun x => by
    rw [List.mem_filter]
    unfold x_rs
    constructor
    · rintro ⟨a, b⟩; exact ⟨a, by simpa using b⟩
    · rintro ⟨a, b⟩; exact ⟨a, by rw [b]; rfl⟩
  have h1 := l_sub l ((Q.filter (fun x => !x_ft m (x.1, x.2.1, x.2.2 - 1))).map (x_key m)) hl (fun v hv => by
    obtain ⟨x, a, b, c⟩ := h v hv
    exact List.mem_map.mpr ⟨x, (key x).mpr ⟨a, b⟩, c⟩)
  have h2 : ((Q.filter (fun x => !x_ft m (x.1, x.2.1, x.2.2 - 1))).map (x_cd m)).Nodup := l_map (hn.sublist List.filter_sublist) (fun x y hx hy e => by
    obtain ⟨a1, a2⟩ := (key x).mp hx
    obtain ⟨b1, b2⟩ := (key y).mp hy
    exact x_cd_inj hk (hq x a1) (hq y b1) a2 b2 e)
  have h3 := l_pig (n := 440) h2 (fun v hv => by
    obtain ⟨x, a, b⟩ := List.mem_map.mp hv
    obtain ⟨a1, a2⟩ := (key x).mp a
    have := x_cd_b hk (hq x a1)
    have := (hq x a1).1
    rw [← b]; unfold x_cd; omega)
  rw [List.length_map] at h1 h3
  omega
theorem x_srt_nd {a : Nat → Nat} {n : Nat} (h : x_srt a n) : ((List.range n).map a).Nodup := l_map List.nodup_range (fun i j hi hj e => by
  have hi := List.mem_range.mp hi
  have hj := List.mem_range.mp hj
  by_cases c : i < j
  · have := h i j c hj; omega
  · by_cases c2 : j < i
    · have := h j i c2 hi; omega
    · omega)
theorem x_R_in {m : Nat → Int32} (h0 : x_in m (x_0 m)) {x : s_P} (h : x_R m x) : x_in m x := h (x_in m) h0 (fun _ hy _ hz => x_nb_in hy hz)
theorem x_rest {m : Nat → Int32} (hk : m_kd m < 7) : ∀ n : Nat, ∀ x : s_P, x_R m x → x_in m x → (x.2.2 + 4).toNat ≤ n → ∃ y, x_R m y ∧ x_rs m y
  | 0, x, _, h2, h3 => by
    have := x_in_b hk h2; omega
  | n + 1, x, h1, h2, h3 => by
    have hb := x_in_b hk h2
    cases q : x_ft m (x.1, x.2.1, x.2.2 - 1) with
    | false => exact ⟨x, h1, q⟩
    | true =>
      have e : x_dn m x = (x.1, x.2.1, x.2.2 - 1) := if_pos q
      refine x_rest hk n (x.1, x.2.1, x.2.2 - 1) (x_R1 h1 (by rw [← e]; exact List.mem_cons_self)) ⟨h2.1, q⟩ ?_
      show (x.2.2 - 1 + 4).toNat ≤ n
      omega
/-- the outcome of a search -/
def x_res (m : Nat → Int32) (n : Nat) (a : Nat → Nat) (b : s_P) : Prop := x_srt a n ∧ (∀ t, t < n → a t < 1000000000000000000) ∧ (∀ v, (∃ t, t < n ∧ a t = v) ↔ ∃ x, x_R m x ∧ x_rs m x ∧ x_key m x = v) ∧ n ≤ 440 ∧ 0 < n ∧ (x_R m b ∧ x_in m b ∧ x_rs m b ∧ x_key m b = a 0)
/-- how far a search has got -/
def x_M (m : Nat → Int32) (Q : List s_P) (i n : Nat) (a : Nat → Nat) (b : s_P) : Prop := x_0 m ∈ Q ∧ (∀ x, x ∈ Q → x_R m x) ∧ i ≤ Q.length ∧ (∀ j, j < i → ∀ z, z ∈ x_nb m (Q.getD j (0, 0, 0)) → z ∈ Q) ∧ (∀ v, (∃ t, t < n ∧ a t = v) ↔ ∃ j, j < i ∧ x_rs m (Q.getD j (0, 0, 0)) ∧ x_key m (Q.getD j (0, 0, 0)) = v) ∧ (0 < n → b ∈ Q ∧ x_rs m b ∧ x_key m b = a 0)
theorem x_get {Q : List s_P} {i : Nat} (h : i < Q.length) : Q.getD i (0, 0, 0) ∈ Q := by
  rw [List.getD_eq_getElem?_getD, List.getElem?_eq_getElem h]; exact List.getElem_mem h
theorem x_M_step {m : Nat → Int32} {Q : List s_P} {i n n' : Nat} {a a' : Nat → Nat} {b b' : s_P} (h : x_M m Q i n a b) (hi : i < Q.length) (h1 : ∀ v, (∃ t, t < n' ∧ a' t = v) ↔ (∃ t, t < n ∧ a t = v) ∨ (x_rs m (Q.getD i (0, 0, 0)) ∧ x_key m (Q.getD i (0, 0, 0)) = v)) (h2 : 0 < n' → b' ∈ Q ∧ x_rs m b' ∧ x_key m b' = a' 0) : x_M m (x_st m Q (Q.getD i (0, 0, 0))) (i + 1) n' a' b' := by
  obtain ⟨m1, m2, m3, m4, m5, m6⟩ := h
  have hx := x_get hi
  have hg : ∀ j, j < Q.length → (x_st m Q (Q.getD i (0, 0, 0))).getD j (0, 0, 0) = Q.getD j (0, 0, 0) := fun j hj => (x_st_get hj).1
  refine ⟨x_st_mem.mpr (Or.inl m1), fun x h9 => ?_, ?_, fun j hj z hz => ?_, fun v => ?_, fun q => ?_⟩
  · rcases x_st_mem.mp h9 with h9 | h9
    · exact m2 x h9
    · exact x_R1 (m2 _ hx) h9
  · have := (x_st_get (m := m) (x := Q.getD i (0, 0, 0)) (z := (0, 0, 0)) hi).2; omega
  · rw [hg j (by omega)] at hz
    by_cases e : j = i
    · subst e; exact x_st_mem.mpr (Or.inr hz)
    · exact x_st_mem.mpr (Or.inl (m4 j (by omega) z hz))
  · rw [h1, m5]
    constructor
    · rintro (⟨j, a, b, c⟩ | ⟨b, c⟩)
      · exact ⟨j, by omega, by rw [hg j (by omega)]; exact b, by rw [hg j (by omega)]; exact c⟩
      · exact ⟨i, by omega, by rw [hg i hi]; exact b, by rw [hg i hi]; exact c⟩
    · rintro ⟨j, a, b, c⟩
      rw [hg j (by omega)] at b c
      by_cases e : j = i
      · subst e; exact Or.inr ⟨b, c⟩
      · exact Or.inl ⟨j, by omega, b, c⟩
  · obtain ⟨w1, w2, w3⟩ := h2 q
    exact ⟨x_st_mem.mpr (Or.inl w1), w2, w3⟩
theorem x_M_end {m : Nat → Int32} {Q : List s_P} {n : Nat} {a : Nat → Nat} {b : s_P} (hk : m_kd m < 7) (h0 : x_in m (x_0 m)) (hnd : Q.Nodup) (h : x_M m Q Q.length n a b) (hs : x_srt a n) (hb : ∀ t, t < n → a t < 1000000000000000000) : x_res m n a b := by
  obtain ⟨m1, m2, m3, m4, m5, m6⟩ := h
  have hmem : ∀ x, x ∈ Q → ∃ j, j < Q.length ∧ Q.getD j (0, 0, 0) = x := fun x hx => by
    obtain ⟨j, hj, e⟩ := List.getElem_of_mem hx
    exact ⟨j, hj, by rw [List.getD_eq_getElem?_getD, List.getElem?_eq_getElem hj, e]; rfl⟩
  have hcl := x_closed m1 m2 (fun x hx z hz => by
    obtain ⟨j, hj, e⟩ := hmem x hx
    exact m4 j hj z (by rw [e]; exact hz))
  have hset : ∀ v, (∃ t, t < n ∧ a t = v) ↔ ∃ x, x_R m x ∧ x_rs m x ∧ x_key m x = v := fun v => by
    rw [m5]
    constructor
    · rintro ⟨j, hj, h1, h2⟩
      exact ⟨_, m2 _ (x_get hj), h1, h2⟩
    · rintro ⟨x, h1, h2, h3⟩
      obtain ⟨j, hj, e⟩ := hmem x ((hcl x).mp h1)
      exact ⟨j, hj, by rw [e]; exact h2, by rw [e]; exact h3⟩
  have hn : 0 < n := by
    obtain ⟨y, y1, y2⟩ := x_rest hk _ _ x_R0 h0 (Nat.le_refl _)
    obtain ⟨t, ht, -⟩ := (hset _).mpr ⟨y, y1, y2, rfl⟩
    omega
  have hle := x_cnt hk hnd (fun x hx => x_R_in h0 (m2 x hx)) (x_srt_nd hs) (fun v hv => by
    obtain ⟨t, ht, e⟩ := List.mem_map.mp hv
    obtain ⟨x, w1, w2, w3⟩ := (hset v).mp ⟨t, List.mem_range.mp ht, e⟩
    exact ⟨x, (hcl x).mp w1, w2, w3⟩)
  rw [List.length_map, List.length_range] at hle
  obtain ⟨b1, b2, b3⟩ := m6 hn
  exact ⟨hs, hb, hset, hle, hn, m2 b b1, x_R_in h0 (m2 b b1), b2, b3⟩
theorem c_exploreS {Y : Nat → Nat} {m : Nat → Int32} (hS : p_Sh T Y) (hk : m_kd m < 7) (hkd : m 222 = zI (m_kd m)) (hf : ∀ i, i < 220 → I (Y 2) i = m i - 1) (hnf : ∀ r, r < 22 → s_full (s_fm m) r = false) (hp : p_Pos T I (Y 5) (m_kd m) (x_0 m).1 (x_0 m).2.1 (x_0 m).2.2) (h0 : x_in m (x_0 m))
    (h : ∀ I' L' n a b, fr I I' [Y 0, Y 4, Y 6, Y 7, Y 8] → fr L L' [Y 9] → x_K I' L' Y n a → x_res m n a b → I' (Y 0) 10 = zI (x_e b : Nat) → I' (Y 0) 1 = I (Y 0) 1 → K none T I' L') : mz_Ctr G M_X10_explore [.ref (Y 0)] T I L K := by
  refine mz_apartC fun hU => ?_
  have hn := x_ne_of hU hS
  obtain ⟨s1, ⟨r2, r3, r4, r5, r6, r7, r9⟩, ⟨t1, t2, t3, t4, t5, t6, t7⟩, -⟩ := id hS
  have hfl : ∀ {J : mz_I} {L0 : mz_L} {Q : List s_P} {n : Nat} {a : Nat → Nat} {b : s_P}, x_B T m I J L L0 Y Q n a b → ∀ i, i < 220 → J (Y 2) i = m i - 1 := by
    intro J L0 Q n a b hJ i hi
    obtain ⟨-, -, ⟨c1, c2, c3, c4, c5⟩, -⟩ := id hn
    rw [hJ.1 _ (by simp; exact ⟨c1, c2, c3, c4, c5⟩)]
    exact hf i hi
  have w102 : ∀ (i : Nat) (Q : List s_P) (n : Nat) (a : Nat → Nat) (b x : s_P) (I1 : mz_I) (L1 : mz_L), i < Q.length → x_in m x → Q.getD i (0, 0, 0) = x → x_B T m I I1 L L1 Y Q n a b → (∀ I2, x_B T m I I2 L L1 Y (x_re (x_re (x_re (x_re Q (x_sh m x (-1))) (x_tn m x (-1))) (x_sh m x 1)) (x_tn m x 1)) n a b → mz_W G M_X10_explore K mz_nX 35 [some (.ref (Y 0)), some (.int (zI ((i + 1 : Nat) : Int))), none] [] T I2 L1 (0, 0)) → mz_W G M_X10_explore K mz_nX 102 [some (.ref (Y 0)), some (.int (zI i)), some (.int (-1))] [] T I1 L1 (0, 0) := by
    intro i Q n a b x I1 L1 hi hx hQ hB k9
    refine x_dir hS hn hk hf (-1) i Q n a b x (Or.inl rfl) hi hx hQ hB (fun I2 g2 => ?_)
    refine x_dir hS hn hk hf 1 i _ n a b x (Or.inr rfl) (Nat.lt_of_lt_of_le hi (Nat.le_trans x_re_le x_re_le)) hx (by rw [x_re_get (Nat.lt_of_lt_of_le hi x_re_le), x_re_get hi]; exact hQ) g2 (fun I3 g3 => ?_)
    refine mz_vc ok_X10_explore [35, 102] [(), (), (), (), (), (), (), (), (), (), (), (), (), (), (), (), (), (), (), (), (), (), (), (), (), (), (), (), (), ()] ?_
    simp only [cd_X10_explore, s1, r2, r3, r4, r5, r6, r7, t4, r_rn0, r_rnc, r_vk0, r_vkc, r_vks, r_kci, r_kcv, r_ild, r_ald, r_lld, r_dld, r_Li, r_La, r_Ll, r_Ld, r_Ki, r_Ka, r_Kl, r_Kd, r_Kn, r_ist, r_ast, r_lst, r_dst, r_iinc, r_int, r_lng, r_dbl, r_i2, r_i1, r_l2, r_lsh, r_i2z, r_l2z, r_i2l, r_l2i, r_i2d, r_lcmp, r_ddiv, r_dcmpl, r_dup, r_dup2, r_pop, r_one_int, r_one_ref, r_go, r_if, r_ic, r_tsw, r_lsw, r_sw0, r_swc, r_lk0, r_lkc, r_kp, r_gI, r_gL, r_gR, r_pI, r_pZ, r_pL, r_pR, r_gs, r_ia, r_ca, r_za, r_la, r_da, r_aa, r_ias, r_cas, r_zas, r_las, r_das, r_aas, r_acp, r_new, r_nwa, r_nwq, r_ret, r_irt, r_zrt, r_lrt, r_drt, r_art, r_thr, r_cV0, r_cV1, r_cV2, r_cV3, r_cV4, r_cV5, r_cI0, r_cS0, r_cS1, r_cS2, r_cS3, r_cX0, r_cX1, r_cX2, r_cX3, r_rc, r_oi, r_refx, r_i10, r_i01, r_rfs, r_mem0, r_memc, r_beq, r_kl0, r_klz, r_kl1i, r_kl1r, r_kl1n, r_kl1l, r_kl1d, List.length_cons, List.length_nil, List.getElem?_cons_zero, List.getElem?_cons_succ, List.set_cons_zero, List.set_cons_succ, true_and, and_true, not_true, not_false_eq_true, false_implies, true_implies, or_true, true_or, or_false, false_or, Bool.or_false, Bool.false_or, decide_false, decide_true, Nat.reduceLT, Nat.reduceLeDiff, Nat.reduceAdd, Nat.reduceSub, ↓reduceIte, Nat.reduceEqDiff, Nat.lt_add_one]
    refine ⟨fun _ => ?_, fun q => absurd (by decide) q⟩
    rw [z_1]
    exact mz_forget (k9 I3 g3) rfl (mz_fg_s (mz_fg_s (mz_fg_n mz_fg_0)))
  have loop : ∀ (k i : Nat) (Q : List s_P) (n : Nat) (a : Nat → Nat) (b : s_P) (I1 : mz_I) (L1 : mz_L), 2049 ≤ i + k → x_B T m I I1 L L1 Y Q n a b → x_M m Q i n a b → mz_W G M_X10_explore K mz_nX 35 [some (.ref (Y 0)), some (.int (zI i)), none] [] T I1 L1 (0, 0) := by
    intro k
    induction k with
    | zero =>
      intro i Q n a b I1 L1 hik hB hM
      have := x_len hk hB.2.2.1.2.1 hB.2.2.1.2.2.1
      have := hM.2.2.1
      omega
    | succ k ih =>
      intro i Q n a b I1 L1 hik hB hM
      have hlen := x_len hk hB.2.2.1.2.1 hB.2.2.1.2.2.1
      have hiq := hM.2.2.1
      have e8 := hB.2.2.1.1
      refine mz_vc ok_X10_explore [35, 102] [(), (), (), (), (), (), (), (), (), (), (), (), (), (), (), (), (), (), (), (), (), (), (), (), (), (), (), (), (), ()] ?_
      simp only [cd_X10_explore, s1, r2, r3, r4, r5, r6, r7, t4, e8, r_rn0, r_rnc, r_vk0, r_vkc, r_vks, r_kci, r_kcv, r_ild, r_ald, r_lld, r_dld, r_Li, r_La, r_Ll, r_Ld, r_Ki, r_Ka, r_Kl, r_Kd, r_Kn, r_ist, r_ast, r_lst, r_dst, r_iinc, r_int, r_lng, r_dbl, r_i2, r_i1, r_l2, r_lsh, r_i2z, r_l2z, r_i2l, r_l2i, r_i2d, r_lcmp, r_ddiv, r_dcmpl, r_dup, r_dup2, r_pop, r_one_int, r_one_ref, r_go, r_if, r_ic, r_tsw, r_lsw, r_sw0, r_swc, r_lk0, r_lkc, r_kp, r_gI, r_gL, r_gR, r_pI, r_pZ, r_pL, r_pR, r_gs, r_ia, r_ca, r_za, r_la, r_da, r_aa, r_ias, r_cas, r_zas, r_las, r_das, r_aas, r_acp, r_new, r_nwa, r_nwq, r_ret, r_irt, r_zrt, r_lrt, r_drt, r_art, r_thr, r_cV0, r_cV1, r_cV2, r_cV3, r_cV4, r_cV5, r_cI0, r_cS0, r_cS1, r_cS2, r_cS3, r_cX0, r_cX1, r_cX2, r_cX3, r_rc, r_oi, r_refx, r_i10, r_i01, r_rfs, r_mem0, r_memc, r_beq, r_kl0, r_klz, r_kl1i, r_kl1r, r_kl1n, r_kl1l, r_kl1d, List.length_cons, List.length_nil, List.getElem?_cons_zero, List.getElem?_cons_succ, List.set_cons_zero, List.set_cons_succ, true_and, and_true, not_true, not_false_eq_true, false_implies, true_implies, or_true, true_or, or_false, false_or, Bool.or_false, Bool.false_or, decide_false, decide_true, Nat.reduceLT, Nat.reduceLeDiff, Nat.reduceAdd, Nat.reduceSub, ↓reduceIte, Nat.reduceEqDiff, Nat.lt_add_one]
      rw [z_le (by omega) (by omega)]
      refine ⟨fun q => ?_, fun q => ⟨fun q2 => absurd q2 ?_, fun _ => ?_⟩⟩
      · have e : i = Q.length := by omega
        subst e
        have hres := x_M_end hk h0 hB.2.2.1.2.1 hM hB.2.2.2.1.2.2.2 hB.2.2.2.1.2.2.1
        exact h I1 L1 n a b hB.1 hB.2.1 hB.2.2.2.1 hres (hB.2.2.2.2.1 hres.2.2.2.2.1) hB.2.2.2.2.2.2
      · rw [show (2048 : Int32) = zI 2048 from rfl, z_le (by omega) (by omega)]; omega
      · have hi : i < Q.length := by omega
        generalize hQi : Q.getD i (0, 0, 0) = x
        have hxQ : x ∈ Q := by rw [← hQi]; exact x_get hi
        have hx : x_in m x := hB.2.2.1.2.2.1 x hxQ
        have he := x_e_lt hk hx
        rw [z_nat (by omega), Int.toNat_natCast, hB.2.2.1.2.2.2.1 i hi, hQi]
        refine ⟨⟨2048, t6, z_in (by omega) (by omega) (by decide)⟩, ?_⟩
        obtain ⟨s0, c0, r0, hp0⟩ := hB.2.2.2.2.2.1
        refine c_goToS t4 hk hp0.2.1 he (fun J1 f1 hp1 => ?_)
        have g1 := x_B_at hn hB f1 ⟨_, _, _, hp1⟩
        rw [x_de hk hx] at hp1
        simp only [cd_X10_explore, s1, r2, r3, r4, r5, r6, r7, t4, r_rn0, r_rnc, r_vk0, r_vkc, r_vks, r_kci, r_kcv, r_ild, r_ald, r_lld, r_dld, r_Li, r_La, r_Ll, r_Ld, r_Ki, r_Ka, r_Kl, r_Kd, r_Kn, r_ist, r_ast, r_lst, r_dst, r_iinc, r_int, r_lng, r_dbl, r_i2, r_i1, r_l2, r_lsh, r_i2z, r_l2z, r_i2l, r_l2i, r_i2d, r_lcmp, r_ddiv, r_dcmpl, r_dup, r_dup2, r_pop, r_one_int, r_one_ref, r_go, r_if, r_ic, r_tsw, r_lsw, r_sw0, r_swc, r_lk0, r_lkc, r_kp, r_gI, r_gL, r_gR, r_pI, r_pZ, r_pL, r_pR, r_gs, r_ia, r_ca, r_za, r_la, r_da, r_aa, r_ias, r_cas, r_zas, r_las, r_das, r_aas, r_acp, r_new, r_nwa, r_nwq, r_ret, r_irt, r_zrt, r_lrt, r_drt, r_art, r_thr, r_cV0, r_cV1, r_cV2, r_cV3, r_cV4, r_cV5, r_cI0, r_cS0, r_cS1, r_cS2, r_cS3, r_cX0, r_cX1, r_cX2, r_cX3, r_rc, r_oi, r_refx, r_i10, r_i01, r_rfs, r_mem0, r_memc, r_beq, r_kl0, r_klz, r_kl1i, r_kl1r, r_kl1n, r_kl1l, r_kl1d, List.length_cons, List.length_nil, List.getElem?_cons_zero, List.getElem?_cons_succ, List.set_cons_zero, List.set_cons_succ, true_and, and_true, not_true, not_false_eq_true, false_implies, true_implies, or_true, true_or, or_false, false_or, Bool.or_false, Bool.false_or, decide_false, decide_true, Nat.reduceLT, Nat.reduceLeDiff, Nat.reduceAdd, Nat.reduceSub, ↓reduceIte, Nat.reduceEqDiff, Nat.lt_add_one]
        refine c_dnS hp1 hx t1 (fl_of (hfl g1)) (fun hrs J2 f2 hp2 => ?_) (fun hrs => ?_)
        · have g2 := x_B_at hn g1 f2 ⟨_, _, _, hp2⟩
          simp only [cd_X10_explore, s1, r2, r3, r4, r5, r6, r7, t4, r_rn0, r_rnc, r_vk0, r_vkc, r_vks, r_kci, r_kcv, r_ild, r_ald, r_lld, r_dld, r_Li, r_La, r_Ll, r_Ld, r_Ki, r_Ka, r_Kl, r_Kd, r_Kn, r_ist, r_ast, r_lst, r_dst, r_iinc, r_int, r_lng, r_dbl, r_i2, r_i1, r_l2, r_lsh, r_i2z, r_l2z, r_i2l, r_l2i, r_i2d, r_lcmp, r_ddiv, r_dcmpl, r_dup, r_dup2, r_pop, r_one_int, r_one_ref, r_go, r_if, r_ic, r_tsw, r_lsw, r_sw0, r_swc, r_lk0, r_lkc, r_kp, r_gI, r_gL, r_gR, r_pI, r_pZ, r_pL, r_pR, r_gs, r_ia, r_ca, r_za, r_la, r_da, r_aa, r_ias, r_cas, r_zas, r_las, r_das, r_aas, r_acp, r_new, r_nwa, r_nwq, r_ret, r_irt, r_zrt, r_lrt, r_drt, r_art, r_thr, r_cV0, r_cV1, r_cV2, r_cV3, r_cV4, r_cV5, r_cI0, r_cS0, r_cS1, r_cS2, r_cS3, r_cX0, r_cX1, r_cX2, r_cX3, r_rc, r_oi, r_refx, r_i10, r_i01, r_rfs, r_mem0, r_memc, r_beq, r_kl0, r_klz, r_kl1i, r_kl1r, r_kl1n, r_kl1l, r_kl1d, List.length_cons, List.length_nil, List.getElem?_cons_zero, List.getElem?_cons_succ, List.set_cons_zero, List.set_cons_succ, true_and, and_true, not_true, not_false_eq_true, false_implies, true_implies, or_true, true_or, or_false, false_or, Bool.or_false, Bool.false_or, decide_false, decide_true, Nat.reduceLT, Nat.reduceLeDiff, Nat.reduceAdd, Nat.reduceSub, ↓reduceIte, Nat.reduceEqDiff, Nat.lt_add_one]
          refine c_reachS hS hk g2.2.2.1 hp2 (x_dn_in hx) (fun J3 f3 q3 w3 => ?_)
          have g3 := x_B_re hn g2 f3 q3 w3
          simp only [cd_X10_explore, s1, r2, r3, r4, r5, r6, r7, t4, r_rn0, r_rnc, r_vk0, r_vkc, r_vks, r_kci, r_kcv, r_ild, r_ald, r_lld, r_dld, r_Li, r_La, r_Ll, r_Ld, r_Ki, r_Ka, r_Kl, r_Kd, r_Kn, r_ist, r_ast, r_lst, r_dst, r_iinc, r_int, r_lng, r_dbl, r_i2, r_i1, r_l2, r_lsh, r_i2z, r_l2z, r_i2l, r_l2i, r_i2d, r_lcmp, r_ddiv, r_dcmpl, r_dup, r_dup2, r_pop, r_one_int, r_one_ref, r_go, r_if, r_ic, r_tsw, r_lsw, r_sw0, r_swc, r_lk0, r_lkc, r_kp, r_gI, r_gL, r_gR, r_pI, r_pZ, r_pL, r_pR, r_gs, r_ia, r_ca, r_za, r_la, r_da, r_aa, r_ias, r_cas, r_zas, r_las, r_das, r_aas, r_acp, r_new, r_nwa, r_nwq, r_ret, r_irt, r_zrt, r_lrt, r_drt, r_art, r_thr, r_cV0, r_cV1, r_cV2, r_cV3, r_cV4, r_cV5, r_cI0, r_cS0, r_cS1, r_cS2, r_cS3, r_cX0, r_cX1, r_cX2, r_cX3, r_rc, r_oi, r_refx, r_i10, r_i01, r_rfs, r_mem0, r_memc, r_beq, r_kl0, r_klz, r_kl1i, r_kl1r, r_kl1n, r_kl1l, r_kl1d, List.length_cons, List.length_nil, List.getElem?_cons_zero, List.getElem?_cons_succ, List.set_cons_zero, List.set_cons_succ, true_and, and_true, not_true, not_false_eq_true, false_implies, true_implies, or_true, true_or, or_false, false_or, Bool.or_false, Bool.false_or, decide_false, decide_true, Nat.reduceLT, Nat.reduceLeDiff, Nat.reduceAdd, Nat.reduceSub, ↓reduceIte, Nat.reduceEqDiff, Nat.lt_add_one]
          refine w102 i _ n a b x J3 L1 (Nat.lt_of_lt_of_le hi x_re_le) hx (by rw [x_re_get hi]; exact hQi) g3 (fun J4 g4 => ?_)
          refine ih (i + 1) _ n a b J4 L1 (by omega) g4 ?_
          have := x_M_step (n' := n) (a' := a) (b' := b) hM hi (fun v => ⟨Or.inl, fun e => e.elim id (fun e => absurd e.1 (by rw [hQi]; exact hrs))⟩) (fun q => hM.2.2.2.2.2 q)
          rw [hQi] at this
          exact this
        · simp only [cd_X10_explore, s1, r2, r3, r4, r5, r6, r7, t4, r_rn0, r_rnc, r_vk0, r_vkc, r_vks, r_kci, r_kcv, r_ild, r_ald, r_lld, r_dld, r_Li, r_La, r_Ll, r_Ld, r_Ki, r_Ka, r_Kl, r_Kd, r_Kn, r_ist, r_ast, r_lst, r_dst, r_iinc, r_int, r_lng, r_dbl, r_i2, r_i1, r_l2, r_lsh, r_i2z, r_l2z, r_i2l, r_l2i, r_i2d, r_lcmp, r_ddiv, r_dcmpl, r_dup, r_dup2, r_pop, r_one_int, r_one_ref, r_go, r_if, r_ic, r_tsw, r_lsw, r_sw0, r_swc, r_lk0, r_lkc, r_kp, r_gI, r_gL, r_gR, r_pI, r_pZ, r_pL, r_pR, r_gs, r_ia, r_ca, r_za, r_la, r_da, r_aa, r_ias, r_cas, r_zas, r_las, r_das, r_aas, r_acp, r_new, r_nwa, r_nwq, r_ret, r_irt, r_zrt, r_lrt, r_drt, r_art, r_thr, r_cV0, r_cV1, r_cV2, r_cV3, r_cV4, r_cV5, r_cI0, r_cS0, r_cS1, r_cS2, r_cS3, r_cX0, r_cX1, r_cX2, r_cX3, r_rc, r_oi, r_refx, r_i10, r_i01, r_rfs, r_mem0, r_memc, r_beq, r_kl0, r_klz, r_kl1i, r_kl1r, r_kl1n, r_kl1l, r_kl1d, List.length_cons, List.length_nil, List.getElem?_cons_zero, List.getElem?_cons_succ, List.set_cons_zero, List.set_cons_succ, true_and, and_true, not_true, not_false_eq_true, false_implies, true_implies, or_true, true_or, or_false, false_or, Bool.or_false, Bool.false_or, decide_false, decide_true, Nat.reduceLT, Nat.reduceLeDiff, Nat.reduceAdd, Nat.reduceSub, ↓reduceIte, Nat.reduceEqDiff, Nat.lt_add_one]
          refine c_keyS hS hk hkd (hfl g1) hnf hp1 hx (fun J2 f2 => ?_)
          have g2 := x_B_af hn g1 f2
          have hdn : x_dn m x = x := if_neg (by rw [show x_ft m (x.1, x.2.1, x.2.2 - 1) = false from hrs]; decide)
          have hre : x_re Q (x_dn m x) = Q := by rw [hdn]; exact if_pos hxQ
          simp only [cd_X10_explore, s1, r2, r3, r4, r5, r6, r7, t4, r_rn0, r_rnc, r_vk0, r_vkc, r_vks, r_kci, r_kcv, r_ild, r_ald, r_lld, r_dld, r_Li, r_La, r_Ll, r_Ld, r_Ki, r_Ka, r_Kl, r_Kd, r_Kn, r_ist, r_ast, r_lst, r_dst, r_iinc, r_int, r_lng, r_dbl, r_i2, r_i1, r_l2, r_lsh, r_i2z, r_l2z, r_i2l, r_l2i, r_i2d, r_lcmp, r_ddiv, r_dcmpl, r_dup, r_dup2, r_pop, r_one_int, r_one_ref, r_go, r_if, r_ic, r_tsw, r_lsw, r_sw0, r_swc, r_lk0, r_lkc, r_kp, r_gI, r_gL, r_gR, r_pI, r_pZ, r_pL, r_pR, r_gs, r_ia, r_ca, r_za, r_la, r_da, r_aa, r_ias, r_cas, r_zas, r_las, r_das, r_aas, r_acp, r_new, r_nwa, r_nwq, r_ret, r_irt, r_zrt, r_lrt, r_drt, r_art, r_thr, r_cV0, r_cV1, r_cV2, r_cV3, r_cV4, r_cV5, r_cI0, r_cS0, r_cS1, r_cS2, r_cS3, r_cX0, r_cX1, r_cX2, r_cX3, r_rc, r_oi, r_refx, r_i10, r_i01, r_rfs, r_mem0, r_memc, r_beq, r_kl0, r_klz, r_kl1i, r_kl1r, r_kl1n, r_kl1l, r_kl1d, List.length_cons, List.length_nil, List.getElem?_cons_zero, List.getElem?_cons_succ, List.set_cons_zero, List.set_cons_succ, true_and, and_true, not_true, not_false_eq_true, false_implies, true_implies, or_true, true_or, or_false, false_or, Bool.or_false, Bool.false_or, decide_false, decide_true, Nat.reduceLT, Nat.reduceLeDiff, Nat.reduceAdd, Nat.reduceSub, ↓reduceIte, Nat.reduceEqDiff, Nat.lt_add_one]
          rw [z_nat (by omega), Int.toNat_natCast, g2.2.2.1.2.2.2.1 i hi, hQi]
          refine ⟨⟨2048, t6, z_in (by omega) (by omega) (by decide)⟩, ?_⟩
          have hn440 : n ≤ 440 := by
            have := x_cnt hk hB.2.2.1.2.1 hB.2.2.1.2.2.1 (x_srt_nd hB.2.2.2.1.2.2.2) (fun v hv => by
              obtain ⟨t, ht, e⟩ := List.mem_map.mp hv
              obtain ⟨j, w1, w2, w3⟩ := (hM.2.2.2.2.1 v).mp ⟨t, List.mem_range.mp ht, e⟩
              exact ⟨_, x_get (by omega), w2, w3⟩)
            rw [List.length_map, List.length_range] at this
            exact this
          have hkey : x_key m x < 1000000000000000000 := by
            have := x_kn_lt hk hx 8 (by decide) (by decide)
            have h8 : 5 * 256 ^ (8 - 1) < 1000000000000000000 := by decide
            show x_kn m x 8 < _
            omega
          refine c_insS hS g2.2.2.2.1 (by omega) hkey (by omega) (fun hold => ?_) (fun hnew J3 L3 f3 l3 k3 w3 b3 => ?_)
          · simp only [cd_X10_explore, s1, r2, r3, r4, r5, r6, r7, t4, r_rn0, r_rnc, r_vk0, r_vkc, r_vks, r_kci, r_kcv, r_ild, r_ald, r_lld, r_dld, r_Li, r_La, r_Ll, r_Ld, r_Ki, r_Ka, r_Kl, r_Kd, r_Kn, r_ist, r_ast, r_lst, r_dst, r_iinc, r_int, r_lng, r_dbl, r_i2, r_i1, r_l2, r_lsh, r_i2z, r_l2z, r_i2l, r_l2i, r_i2d, r_lcmp, r_ddiv, r_dcmpl, r_dup, r_dup2, r_pop, r_one_int, r_one_ref, r_go, r_if, r_ic, r_tsw, r_lsw, r_sw0, r_swc, r_lk0, r_lkc, r_kp, r_gI, r_gL, r_gR, r_pI, r_pZ, r_pL, r_pR, r_gs, r_ia, r_ca, r_za, r_la, r_da, r_aa, r_ias, r_cas, r_zas, r_las, r_das, r_aas, r_acp, r_new, r_nwa, r_nwq, r_ret, r_irt, r_zrt, r_lrt, r_drt, r_art, r_thr, r_cV0, r_cV1, r_cV2, r_cV3, r_cV4, r_cV5, r_cI0, r_cS0, r_cS1, r_cS2, r_cS3, r_cX0, r_cX1, r_cX2, r_cX3, r_rc, r_oi, r_refx, r_i10, r_i01, r_rfs, r_mem0, r_memc, r_beq, r_kl0, r_klz, r_kl1i, r_kl1r, r_kl1n, r_kl1l, r_kl1d, List.length_cons, List.length_nil, List.getElem?_cons_zero, List.getElem?_cons_succ, List.set_cons_zero, List.set_cons_succ, true_and, and_true, not_true, not_false_eq_true, false_implies, true_implies, or_true, true_or, or_false, false_or, Bool.or_false, Bool.false_or, decide_false, decide_true, Nat.reduceLT, Nat.reduceLeDiff, Nat.reduceAdd, Nat.reduceSub, ↓reduceIte, Nat.reduceEqDiff, Nat.lt_add_one]
            refine w102 i Q n a b x J2 L1 hi hx hQi g2 (fun J4 g4 => ?_)
            rw [← hre] at g4
            refine ih (i + 1) _ n a b J4 L1 (by omega) g4 ?_
            have := x_M_step (n' := n) (a' := a) (b' := b) hM hi (fun v => ⟨Or.inl, fun e => e.elim id (fun e => by rw [hQi] at e; rw [← e.2]; exact hold)⟩) (fun q => hM.2.2.2.2.2 q)
            rw [hQi] at this
            unfold x_st at this
            rw [hre] at this ⊢
            exact this
          · have hrl := x_rk_le (a := a) (k := x_key m x) n
            have g3 := x_B_in (b' := if x_rk a (x_key m x) n = 0 then x else b) hn g2 f3 l3 k3 w3 (fun _ => by
              rw [b3]
              split
              · rfl
              · exact g2.2.2.2.2.1 (by omega))
            simp only [cd_X10_explore, s1, r2, r3, r4, r5, r6, r7, t4, r_rn0, r_rnc, r_vk0, r_vkc, r_vks, r_kci, r_kcv, r_ild, r_ald, r_lld, r_dld, r_Li, r_La, r_Ll, r_Ld, r_Ki, r_Ka, r_Kl, r_Kd, r_Kn, r_ist, r_ast, r_lst, r_dst, r_iinc, r_int, r_lng, r_dbl, r_i2, r_i1, r_l2, r_lsh, r_i2z, r_l2z, r_i2l, r_l2i, r_i2d, r_lcmp, r_ddiv, r_dcmpl, r_dup, r_dup2, r_pop, r_one_int, r_one_ref, r_go, r_if, r_ic, r_tsw, r_lsw, r_sw0, r_swc, r_lk0, r_lkc, r_kp, r_gI, r_gL, r_gR, r_pI, r_pZ, r_pL, r_pR, r_gs, r_ia, r_ca, r_za, r_la, r_da, r_aa, r_ias, r_cas, r_zas, r_las, r_das, r_aas, r_acp, r_new, r_nwa, r_nwq, r_ret, r_irt, r_zrt, r_lrt, r_drt, r_art, r_thr, r_cV0, r_cV1, r_cV2, r_cV3, r_cV4, r_cV5, r_cI0, r_cS0, r_cS1, r_cS2, r_cS3, r_cX0, r_cX1, r_cX2, r_cX3, r_rc, r_oi, r_refx, r_i10, r_i01, r_rfs, r_mem0, r_memc, r_beq, r_kl0, r_klz, r_kl1i, r_kl1r, r_kl1n, r_kl1l, r_kl1d, List.length_cons, List.length_nil, List.getElem?_cons_zero, List.getElem?_cons_succ, List.set_cons_zero, List.set_cons_succ, true_and, and_true, not_true, not_false_eq_true, false_implies, true_implies, or_true, true_or, or_false, false_or, Bool.or_false, Bool.false_or, decide_false, decide_true, Nat.reduceLT, Nat.reduceLeDiff, Nat.reduceAdd, Nat.reduceSub, ↓reduceIte, Nat.reduceEqDiff, Nat.lt_add_one]
            refine w102 i Q _ _ _ x J3 L3 hi hx hQi g3 (fun J4 g4 => ?_)
            rw [← hre] at g4
            refine ih (i + 1) _ _ _ _ J4 L3 (by omega) g4 ?_
            have := x_M_step (n' := n + 1) (a' := x_is a (x_rk a (x_key m x) n) (x_key m x)) (b' := if x_rk a (x_key m x) n = 0 then x else b) hM hi (fun v => by
              rw [x_is_mem hrl, hQi]
              constructor
              · rintro (e | e)
                · exact Or.inr ⟨hrs, e.symm⟩
                · exact Or.inl e
              · rintro (e | e)
                · exact Or.inr e
                · exact Or.inl e.2.symm) (fun _ => by
              by_cases c : x_rk a (x_key m x) n = 0
              · rw [if_pos c]
                exact ⟨hxQ, hrs, by rw [c]; rfl⟩
              · rw [if_neg c]
                obtain ⟨v1, v2, v3⟩ := hM.2.2.2.2.2 (by omega)
                refine ⟨v1, v2, ?_⟩
                unfold x_is
                rw [if_pos (by omega)]; exact v3)
            rw [hQi] at this
            unfold x_st at this
            rw [hre] at this ⊢
            exact this
  refine mz_ofl mk_X10_explore rfl (Nat.le_of_ble_eq_true rfl) (Nat.le_of_ble_eq_true rfl) [some (.ref (Y 0)), none, none] rfl ?_
  refine mz_vc ok_X10_explore [35] [(), (), (), (), (), (), (), (), (), (), (), (), (), (), (), (), (), (), (), (), (), (), (), (), (), (), (), (), (), ()] ?_
  simp only [cd_X10_explore, s1, r2, r3, r4, r5, r6, r7, t4, r_rn0, r_rnc, r_vk0, r_vkc, r_vks, r_kci, r_kcv, r_ild, r_ald, r_lld, r_dld, r_Li, r_La, r_Ll, r_Ld, r_Ki, r_Ka, r_Kl, r_Kd, r_Kn, r_ist, r_ast, r_lst, r_dst, r_iinc, r_int, r_lng, r_dbl, r_i2, r_i1, r_l2, r_lsh, r_i2z, r_l2z, r_i2l, r_l2i, r_i2d, r_lcmp, r_ddiv, r_dcmpl, r_dup, r_dup2, r_pop, r_one_int, r_one_ref, r_go, r_if, r_ic, r_tsw, r_lsw, r_sw0, r_swc, r_lk0, r_lkc, r_kp, r_gI, r_gL, r_gR, r_pI, r_pZ, r_pL, r_pR, r_gs, r_ia, r_ca, r_za, r_la, r_da, r_aa, r_ias, r_cas, r_zas, r_las, r_das, r_aas, r_acp, r_new, r_nwa, r_nwq, r_ret, r_irt, r_zrt, r_lrt, r_drt, r_art, r_thr, r_cV0, r_cV1, r_cV2, r_cV3, r_cV4, r_cV5, r_cI0, r_cS0, r_cS1, r_cS2, r_cS3, r_cX0, r_cX1, r_cX2, r_cX3, r_rc, r_oi, r_refx, r_i10, r_i01, r_rfs, r_mem0, r_memc, r_beq, r_kl0, r_klz, r_kl1i, r_kl1r, r_kl1n, r_kl1l, r_kl1d, List.length_cons, List.length_nil, List.getElem?_cons_zero, List.getElem?_cons_succ, List.set_cons_zero, List.set_cons_succ, true_and, and_true, not_true, not_false_eq_true, false_implies, true_implies, or_true, true_or, or_false, false_or, Bool.or_false, Bool.false_or, decide_false, decide_true, Nat.reduceLT, Nat.reduceLeDiff, Nat.reduceAdd, Nat.reduceSub, ↓reduceIte, Nat.reduceEqDiff, Nat.lt_add_one]
  obtain ⟨⟨a1, a2, a3, a4⟩, ⟨b1, b2, b3, b4, b5⟩, ⟨c1, c2, c3, c4, c5⟩, ⟨d1, d2, d3, d4, d5⟩⟩ := id hn
  refine c_fill t5 (by decide) ?_
  simp only [cd_X10_explore, s1, r2, r3, r4, r5, r6, r7, t4, r_rn0, r_rnc, r_vk0, r_vkc, r_vks, r_kci, r_kcv, r_ild, r_ald, r_lld, r_dld, r_Li, r_La, r_Ll, r_Ld, r_Ki, r_Ka, r_Kl, r_Kd, r_Kn, r_ist, r_ast, r_lst, r_dst, r_iinc, r_int, r_lng, r_dbl, r_i2, r_i1, r_l2, r_lsh, r_i2z, r_l2z, r_i2l, r_l2i, r_i2d, r_lcmp, r_ddiv, r_dcmpl, r_dup, r_dup2, r_pop, r_one_int, r_one_ref, r_go, r_if, r_ic, r_tsw, r_lsw, r_sw0, r_swc, r_lk0, r_lkc, r_kp, r_gI, r_gL, r_gR, r_pI, r_pZ, r_pL, r_pR, r_gs, r_ia, r_ca, r_za, r_la, r_da, r_aa, r_ias, r_cas, r_zas, r_las, r_das, r_aas, r_acp, r_new, r_nwa, r_nwq, r_ret, r_irt, r_zrt, r_lrt, r_drt, r_art, r_thr, r_cV0, r_cV1, r_cV2, r_cV3, r_cV4, r_cV5, r_cI0, r_cS0, r_cS1, r_cS2, r_cS3, r_cX0, r_cX1, r_cX2, r_cX3, r_rc, r_oi, r_refx, r_i10, r_i01, r_rfs, r_mem0, r_memc, r_beq, r_kl0, r_klz, r_kl1i, r_kl1r, r_kl1n, r_kl1l, r_kl1d, List.length_cons, List.length_nil, List.getElem?_cons_zero, List.getElem?_cons_succ, List.set_cons_zero, List.set_cons_succ, true_and, and_true, not_true, not_false_eq_true, false_implies, true_implies, or_true, true_or, or_false, false_or, Bool.or_false, Bool.false_or, decide_false, decide_true, Nat.reduceLT, Nat.reduceLeDiff, Nat.reduceAdd, Nat.reduceSub, ↓reduceIte, Nat.reduceEqDiff, Nat.lt_add_one]
  have q1 : fr I (mz_u (mz_u (mz_row I (Y 7) (s_fill 2048 0 (I (Y 7)))) (Y 0) 8 0) (Y 0) 0 0) [Y 7, Y 0] := fr_u2 (fr_u2 (fr_tr1 fr_row fr_refl (fun _ q => q) |> fun q => (fr_tr q fr_refl (by simp) (fun _ q => q) : fr I _ [Y 7, Y 0])) (by simp)) (by simp)
  have hp1 : p_Pos T (mz_u (mz_u (mz_row I (Y 7) (s_fill 2048 0 (I (Y 7)))) (Y 0) 8 0) (Y 0) 0 0) (Y 5) (m_kd m) (x_0 m).1 (x_0 m).2.1 (x_0 m).2.2 := by
    obtain ⟨w1, w2, w3, w4, w5, w6⟩ := id hp
    have e := q1 (Y 5) (by simp; exact ⟨d4, d1⟩)
    exact ⟨w1, by rw [e]; exact w2, by rw [e]; exact w3, by rw [e]; exact w4, by rw [e]; exact w5, w6⟩
  refine c_copyP t4 hp1 (fun J2 f2 hp2 => ?_)
  simp only [cd_X10_explore, s1, r2, r3, r4, r5, r6, r7, t4, r_rn0, r_rnc, r_vk0, r_vkc, r_vks, r_kci, r_kcv, r_ild, r_ald, r_lld, r_dld, r_Li, r_La, r_Ll, r_Ld, r_Ki, r_Ka, r_Kl, r_Kd, r_Kn, r_ist, r_ast, r_lst, r_dst, r_iinc, r_int, r_lng, r_dbl, r_i2, r_i1, r_l2, r_lsh, r_i2z, r_l2z, r_i2l, r_l2i, r_i2d, r_lcmp, r_ddiv, r_dcmpl, r_dup, r_dup2, r_pop, r_one_int, r_one_ref, r_go, r_if, r_ic, r_tsw, r_lsw, r_sw0, r_swc, r_lk0, r_lkc, r_kp, r_gI, r_gL, r_gR, r_pI, r_pZ, r_pL, r_pR, r_gs, r_ia, r_ca, r_za, r_la, r_da, r_aa, r_ias, r_cas, r_zas, r_las, r_das, r_aas, r_acp, r_new, r_nwa, r_nwq, r_ret, r_irt, r_zrt, r_lrt, r_drt, r_art, r_thr, r_cV0, r_cV1, r_cV2, r_cV3, r_cV4, r_cV5, r_cI0, r_cS0, r_cS1, r_cS2, r_cS3, r_cX0, r_cX1, r_cX2, r_cX3, r_rc, r_oi, r_refx, r_i10, r_i01, r_rfs, r_mem0, r_memc, r_beq, r_kl0, r_klz, r_kl1i, r_kl1r, r_kl1n, r_kl1l, r_kl1d, List.length_cons, List.length_nil, List.getElem?_cons_zero, List.getElem?_cons_succ, List.set_cons_zero, List.set_cons_succ, true_and, and_true, not_true, not_false_eq_true, false_implies, true_implies, or_true, true_or, or_false, false_or, Bool.or_false, Bool.false_or, decide_false, decide_true, Nat.reduceLT, Nat.reduceLeDiff, Nat.reduceAdd, Nat.reduceSub, ↓reduceIte, Nat.reduceEqDiff, Nat.lt_add_one]
  have e0 : J2 (Y 0) = mz_u (mz_u (mz_row I (Y 7) (s_fill 2048 0 (I (Y 7)))) (Y 0) 8 0) (Y 0) 0 0 (Y 0) := fr_ne1 f2 a2
  have e7 : J2 (Y 7) = s_fill 2048 0 (I (Y 7)) := by rw [fr_ne1 f2 b2, mz_u_ne (Ne.symm a3), mz_u_ne (Ne.symm a3), mz_row_eq]
  have g2 : x_B T m I J2 L L Y [] 0 (fun _ => 0) (0, 0, 0) := by
    refine ⟨fr_tr q1 f2 (by simp) (by simp), fr_refl, ⟨?_, List.nodup_nil, fun x hx => (nomatch hx), fun j hj => absurd hj (Nat.not_lt_zero _), fun sp hsp => ?_⟩, ⟨?_, fun t ht => absurd ht (Nat.not_lt_zero _), fun t ht => absurd ht (Nat.not_lt_zero _), fun i j _ hj => absurd hj (Nat.not_lt_zero _)⟩, fun q => absurd q (Nat.lt_irrefl _), ⟨_, _, _, hp2⟩, ?_⟩
    · rw [e0, mz_u_nk (by decide), mz_u_eq]; rfl
    · rw [e7]; unfold s_fill; rw [if_pos hsp]; rfl
    · rw [e0, mz_u_eq]; rfl
    · rw [e0, mz_u_nk (by decide), mz_u_nk (by decide), mz_row_ne a3]
  refine c_reachS hS hk g2.2.2.1 hp2 h0 (fun J3 f3 q3 w3 => ?_)
  have g3 := x_B_re hn g2 f3 q3 w3
  simp only [cd_X10_explore, s1, r2, r3, r4, r5, r6, r7, t4, r_rn0, r_rnc, r_vk0, r_vkc, r_vks, r_kci, r_kcv, r_ild, r_ald, r_lld, r_dld, r_Li, r_La, r_Ll, r_Ld, r_Ki, r_Ka, r_Kl, r_Kd, r_Kn, r_ist, r_ast, r_lst, r_dst, r_iinc, r_int, r_lng, r_dbl, r_i2, r_i1, r_l2, r_lsh, r_i2z, r_l2z, r_i2l, r_l2i, r_i2d, r_lcmp, r_ddiv, r_dcmpl, r_dup, r_dup2, r_pop, r_one_int, r_one_ref, r_go, r_if, r_ic, r_tsw, r_lsw, r_sw0, r_swc, r_lk0, r_lkc, r_kp, r_gI, r_gL, r_gR, r_pI, r_pZ, r_pL, r_pR, r_gs, r_ia, r_ca, r_za, r_la, r_da, r_aa, r_ias, r_cas, r_zas, r_las, r_das, r_aas, r_acp, r_new, r_nwa, r_nwq, r_ret, r_irt, r_zrt, r_lrt, r_drt, r_art, r_thr, r_cV0, r_cV1, r_cV2, r_cV3, r_cV4, r_cV5, r_cI0, r_cS0, r_cS1, r_cS2, r_cS3, r_cX0, r_cX1, r_cX2, r_cX3, r_rc, r_oi, r_refx, r_i10, r_i01, r_rfs, r_mem0, r_memc, r_beq, r_kl0, r_klz, r_kl1i, r_kl1r, r_kl1n, r_kl1l, r_kl1d, List.length_cons, List.length_nil, List.getElem?_cons_zero, List.getElem?_cons_succ, List.set_cons_zero, List.set_cons_succ, true_and, and_true, not_true, not_false_eq_true, false_implies, true_implies, or_true, true_or, or_false, false_or, Bool.or_false, Bool.false_or, decide_false, decide_true, Nat.reduceLT, Nat.reduceLeDiff, Nat.reduceAdd, Nat.reduceSub, ↓reduceIte, Nat.reduceEqDiff, Nat.lt_add_one]
  refine loop 2049 0 _ 0 _ (0, 0, 0) J3 L (by decide) g3 ⟨?_, fun x hx => ?_, Nat.zero_le _, fun j hj => absurd hj (Nat.not_lt_zero _), fun v => ⟨?_, ?_⟩, fun q => absurd q (Nat.lt_irrefl _)⟩
  · exact x_re_mem.mpr (Or.inr rfl)
  · rcases x_re_mem.mp hx with e | e
    · cases e
    · rw [e]; exact x_R0
  · rintro ⟨t, ht, -⟩; exact absurd ht (Nat.not_lt_zero _)
  · rintro ⟨t, ht, -⟩; exact absurd ht (Nat.not_lt_zero _)
end EXPL2
