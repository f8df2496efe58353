/-! the reference's face: garbage -/
section REFE
variable {G : mz_G} {K : mz_K} {X : mz_X} {T : mz_T} {I : mz_I} {L : mz_L}
variable {D : Nat → Nat} {many n : Nat} {m : Nat → Int32} {rr : Nat → Nat → Int32} {has : Bool} {ms : Nat → Int32} {s0 s1 dly lim : Int32} {cs : Nat → Int32} {fl : Int32}

theorem s_hn_le_iff {e : Nat → Bool} {c h : Nat} : ∀ n, s_hn e c n ≤ h ↔ ∀ r, h ≤ r → r < n → e (10 * r + c) = false
  | 0 => ⟨fun _ r _ q => absurd q (Nat.not_lt_zero _), fun _ => Nat.zero_le _⟩
  | n + 1 => by
    unfold s_hn
    by_cases q : e (10 * n + c) = true
    · rw [if_pos q]
      constructor
      · intro a r b d; omega
      · intro a
        by_cases z : n + 1 ≤ h
        · exact z
        · have := a n (by omega) (by omega); rw [this] at q; exact absurd q (by decide)
    · rw [if_neg q, s_hn_le_iff n]
      constructor
      · intro a r b d
        by_cases z : r = n
        · subst z; simpa using q
        · exact a r b (by omega)
      · intro a r b d; exact a r b (by omega)
theorem s_gh_le_iff {e : Nat → Bool} {h : Nat} : ∀ n, s_gh e n ≤ h ↔ ∀ c, c < n → s_ht e c ≤ h
  | 0 => ⟨fun _ r q => absurd q (Nat.not_lt_zero _), fun _ => Nat.zero_le _⟩
  | n + 1 => by
    have ih := s_gh_le_iff (e := e) (h := h) n
    unfold s_gh
    constructor
    · intro a c hc
      split at a
      · by_cases z : c = n
        · subst z; exact a
        · exact ih.mp (by omega) c (by omega)
      · by_cases z : c = n
        · subst z; omega
        · exact ih.mp a c (by omega)
    · intro a
      split
      · exact a n (by omega)
      · exact ih.mpr (fun c hc => a c (by omega))
/-- the rows that would leave are empty, as far as looked at -/
def g_rm (m : Nat → Int32) (k : Nat) : Nat → Bool
  | 0 => true
  | i + 1 => g_rm m k i && (decide (i < 10 * (22 - k)) || decide (m i = 0))
theorem g_rm_t {k : Nat} : ∀ i, g_rm m k i = true ↔ ∀ j, 10 * (22 - k) ≤ j → j < i → m j = 0
  | 0 => ⟨fun _ r _ q => absurd q (Nat.not_lt_zero _), fun _ => rfl⟩
  | i + 1 => by
    unfold g_rm
    rw [Bool.and_eq_true, g_rm_t i, Bool.or_eq_true, decide_eq_true_eq, decide_eq_true_eq]
    constructor
    · rintro ⟨a, b⟩ j hj hi
      by_cases z : j = i
      · subst z; exact b.resolve_left (by omega)
      · exact a j hj (by omega)
    · intro a
      refine ⟨fun j hj hi => a j hj (by omega), ?_⟩
      by_cases z : i < 10 * (22 - k)
      · exact Or.inl z
      · exact Or.inr (a i (by omega) (by omega))
theorem g_rm_gh {k : Nat} (hk : k ≤ 22) : g_rm m k 220 = decide (s_gh (s_fm m) 10 + k ≤ 22) := by
  have e : g_rm m k 220 = true ↔ s_gh (s_fm m) 10 + k ≤ 22 := by
    rw [g_rm_t, show s_gh (s_fm m) 10 + k ≤ 22 ↔ s_gh (s_fm m) 10 ≤ 22 - k by omega, s_gh_le_iff]
    constructor
    · intro a c hc
      refine (s_hn_le_iff 22).mpr (fun r hr hr2 => ?_)
      unfold s_fm
      rw [a (10 * r + c) (by omega) (by omega)]
      simp
    · intro a j hj hj2
      have := (s_hn_le_iff 22).mp (a (j % 10) (by omega)) (j / 10) (by omega) (by omega)
      rw [show 10 * (j / 10) + j % 10 = j by omega] at this
      unfold s_fm at this
      rw [decide_eq_true hj2, Bool.true_and, decide_eq_false_iff_not] at this
      exact Decidable.not_not.mp this
  by_cases q : s_gh (s_fm m) 10 + k ≤ 22
  · rw [decide_eq_true q]; exact e.mpr q
  · rw [decide_eq_false q]
    cases hb : g_rm m k 220 with
    | true => exact absurd (e.mp hb) q
    | false => rfl
def k_garb (m : Nat → Int32) (x y : Int32) : Int32 := if (1 ≤ x ∧ x ≤ 4) ∧ (0 ≤ y ∧ y ≤ 9) then (if m 221 = 1 then 2 else if m_gok m x.toInt.toNat y.toInt.toNat = true then 0 else 3) else 1
theorem c_garbP {x y : Int32} (hM : p_Mo T D) (hC : r_S I D (m, many, rr) has ms s0 s1 dly lim n cs fl) (ho : r_ok m) (h : ∀ I' v, r_S I' D (s_if (k_garb m x y) (o_garb m x.toInt.toNat y.toInt.toNat, many, rr) (m, many, rr)) has ms s0 s1 dly lim n cs fl → r_N I I' D (k_garb m x y) → (k_garb m x y = 0 → v = zI (s_fc (s_fm (o_garb m x.toInt.toNat y.toInt.toNat)) 22 : Nat)) → K (some (.int v)) T I' L) : mz_Ctr G M_X12_garbage [.ref (D 0), .int x, .int y] T I L K := by
  refine mz_apartC fun hU => ?_
  obtain ⟨h0, ⟨r1, r2, r3, r5, r6, r8, r9, r10, r11, r12, r13, r14, r16, r17, r19, r20, r22, r23⟩, ⟨t1, t2, t3, t5, t6, t8, t9, t10, t11, t12, t13, t14, t16, t17, t19, t20, t22, t23⟩, ⟨u1, u2⟩⟩ := id hM
  obtain ⟨⟨hMc, hSp⟩, ⟨e1, e2, e3, e4⟩, e5, ⟨e6, e7⟩, e8⟩ := id hC
  have e1 : I (D 1) = m := e1
  have e2 : I (D 0) 4 = zI many := e2
  have e3 : many ≤ 6 := e3
  have n131 : D 13 ≠ D 1 := mz_ne hU t13 t1 (by decide)
  have n130 : D 13 ≠ D 0 := mz_ne hU t13 h0 (by decide)
  have n10 : D 1 ≠ D 0 := mz_ne hU t1 h0 (by decide)
  have bad : ∀ (k : Int32) I1, ¬ k = 0 → k_garb m x y = k → fr I I1 [D 1, D 13] → I1 (D 1) = m → K (some (.int 0)) T (mz_u I1 (D 0) 0 k) L := by
    intro k I1 hk e f em
    have e0 : I1 (D 0) = I (D 0) := f _ (by simp; exact ⟨Ne.symm n10, Ne.symm n130⟩)
    obtain ⟨v1, v2⟩ := r_S_X hU hM hC (fr_tr f fr_refl (by simp) (fun _ q => q)) (by rw [e0]; exact ⟨rfl, rfl, rfl, rfl⟩) em (d_Sp_fr hSp (by rw [e0]) (f _ (by simp; exact ⟨mz_ne hU t14 t1 (by decide), mz_ne hU t14 t13 (by decide)⟩)))
    obtain ⟨w1, w2⟩ := r_S_0 (x := k) hU hM v1 v2
    rw [e, s_if_n hk] at h
    exact h _ _ w1 w2 (fun v => absurd v hk)
  refine mz_ofl mk_X12_garbage rfl (Nat.le_of_ble_eq_true rfl) (Nat.le_of_ble_eq_true rfl) [some (.ref (D 0)), some (.int x), some (.int y), none, none] rfl ?_
  refine mz_vc ok_X12_garbage [48, 123, 206] [(), (), (), (), (), (), (), (), (), (), (), (), (), (), (), (), (), (), (), (), (), (), (), (), (), (), (), (), (), ()] ?_
  simp only [cd_X12_garbage, h0, r1, r13, r_rn0, r_rnc, r_vk0, r_vkc, r_vks, r_kci, r_kcv, r_ild, r_ald, r_lld, r_dld, r_Li, r_La, r_Ll, r_Ld, r_Ki, r_Ka, r_Kl, r_Kd, r_Kn, r_ist, r_ast, r_lst, r_dst, r_iinc, r_int, r_lng, r_dbl, r_i2, r_i1, r_l2, r_lsh, r_i2z, r_l2z, r_i2l, r_l2i, r_i2d, r_lcmp, r_ddiv, r_dcmpl, r_dup, r_dup2, r_pop, r_one_int, r_one_ref, r_go, r_if, r_ic, r_tsw, r_lsw, r_sw0, r_swc, r_lk0, r_lkc, r_kp, r_gI, r_gL, r_gR, r_pI, r_pZ, r_pL, r_pR, r_gs, r_ia, r_ca, r_za, r_la, r_da, r_aa, r_ias, r_cas, r_zas, r_las, r_das, r_aas, r_acp, r_new, r_nwa, r_nwq, r_ret, r_irt, r_zrt, r_lrt, r_drt, r_art, r_thr, r_cV0, r_cV1, r_cV2, r_cV3, r_cV4, r_cV5, r_cI0, r_cS0, r_cS1, r_cS2, r_cS3, r_cX0, r_cX1, r_cX2, r_cX3, r_rc, r_oi, r_refx, r_i10, r_i01, r_rfs, r_mem0, r_memc, r_beq, r_kl0, r_klz, r_kl1i, r_kl1r, r_kl1n, r_kl1l, r_kl1d, List.length_cons, List.length_nil, List.getElem?_cons_zero, List.getElem?_cons_succ, List.set_cons_zero, List.set_cons_succ, true_and, and_true, not_true, not_false_eq_true, false_implies, true_implies, or_true, true_or, or_false, false_or, Bool.or_false, Bool.false_or, decide_false, decide_true, Nat.reduceLT, Nat.reduceLeDiff, Nat.reduceAdd, Nat.reduceSub, ↓reduceIte, Nat.reduceEqDiff, Nat.lt_add_one]
  refine c_inM ?_
  rw [in_b]
  by_cases q : 1 ≤ x ∧ x ≤ 4
  · rw [decide_eq_true q]
    simp only [cd_X12_garbage, h0, r1, r13, r_rn0, r_rnc, r_vk0, r_vkc, r_vks, r_kci, r_kcv, r_ild, r_ald, r_lld, r_dld, r_Li, r_La, r_Ll, r_Ld, r_Ki, r_Ka, r_Kl, r_Kd, r_Kn, r_ist, r_ast, r_lst, r_dst, r_iinc, r_int, r_lng, r_dbl, r_i2, r_i1, r_l2, r_lsh, r_i2z, r_l2z, r_i2l, r_l2i, r_i2d, r_lcmp, r_ddiv, r_dcmpl, r_dup, r_dup2, r_pop, r_one_int, r_one_ref, r_go, r_if, r_ic, r_tsw, r_lsw, r_sw0, r_swc, r_lk0, r_lkc, r_kp, r_gI, r_gL, r_gR, r_pI, r_pZ, r_pL, r_pR, r_gs, r_ia, r_ca, r_za, r_la, r_da, r_aa, r_ias, r_cas, r_zas, r_las, r_das, r_aas, r_acp, r_new, r_nwa, r_nwq, r_ret, r_irt, r_zrt, r_lrt, r_drt, r_art, r_thr, r_cV0, r_cV1, r_cV2, r_cV3, r_cV4, r_cV5, r_cI0, r_cS0, r_cS1, r_cS2, r_cS3, r_cX0, r_cX1, r_cX2, r_cX3, r_rc, r_oi, r_refx, r_i10, r_i01, r_rfs, r_mem0, r_memc, r_beq, r_kl0, r_klz, r_kl1i, r_kl1r, r_kl1n, r_kl1l, r_kl1d, List.length_cons, List.length_nil, List.getElem?_cons_zero, List.getElem?_cons_succ, List.set_cons_zero, List.set_cons_succ, true_and, and_true, not_true, not_false_eq_true, false_implies, true_implies, or_true, true_or, or_false, false_or, Bool.or_false, Bool.false_or, decide_false, decide_true, Nat.reduceLT, Nat.reduceLeDiff, Nat.reduceAdd, Nat.reduceSub, ↓reduceIte, Nat.reduceEqDiff, Nat.lt_add_one]
    refine ⟨fun v => absurd v (by decide), fun _ => ?_⟩
    refine c_inM ?_
    rw [in_b]
    by_cases q2 : 0 ≤ y ∧ y ≤ 9
    · rw [decide_eq_true q2]
      simp only [cd_X12_garbage, h0, r1, r13, ix_221 t1, n_221, r_rn0, r_rnc, r_vk0, r_vkc, r_vks, r_kci, r_kcv, r_ild, r_ald, r_lld, r_dld, r_Li, r_La, r_Ll, r_Ld, r_Ki, r_Ka, r_Kl, r_Kd, r_Kn, r_ist, r_ast, r_lst, r_dst, r_iinc, r_int, r_lng, r_dbl, r_i2, r_i1, r_l2, r_lsh, r_i2z, r_l2z, r_i2l, r_l2i, r_i2d, r_lcmp, r_ddiv, r_dcmpl, r_dup, r_dup2, r_pop, r_one_int, r_one_ref, r_go, r_if, r_ic, r_tsw, r_lsw, r_sw0, r_swc, r_lk0, r_lkc, r_kp, r_gI, r_gL, r_gR, r_pI, r_pZ, r_pL, r_pR, r_gs, r_ia, r_ca, r_za, r_la, r_da, r_aa, r_ias, r_cas, r_zas, r_las, r_das, r_aas, r_acp, r_new, r_nwa, r_nwq, r_ret, r_irt, r_zrt, r_lrt, r_drt, r_art, r_thr, r_cV0, r_cV1, r_cV2, r_cV3, r_cV4, r_cV5, r_cI0, r_cS0, r_cS1, r_cS2, r_cS3, r_cX0, r_cX1, r_cX2, r_cX3, r_rc, r_oi, r_refx, r_i10, r_i01, r_rfs, r_mem0, r_memc, r_beq, r_kl0, r_klz, r_kl1i, r_kl1r, r_kl1n, r_kl1l, r_kl1d, List.length_cons, List.length_nil, List.getElem?_cons_zero, List.getElem?_cons_succ, List.set_cons_zero, List.set_cons_succ, true_and, and_true, not_true, not_false_eq_true, false_implies, true_implies, or_true, true_or, or_false, false_or, Bool.or_false, Bool.false_or, decide_false, decide_true, Nat.reduceLT, Nat.reduceLeDiff, Nat.reduceAdd, Nat.reduceSub, ↓reduceIte, Nat.reduceEqDiff, Nat.lt_add_one]
      refine ⟨fun _ => ?_, fun v => absurd v (by decide)⟩
      rw [e1]
      unfold k_garb at h bad
      rw [if_pos ⟨q, q2⟩] at h bad
      obtain ⟨k, rfl, hk1, hk⟩ := z_get (a := 1) (b := 4) (by decide) q
      obtain ⟨ho2, rfl, -, hho⟩ := z_get (a := 0) (b := 9) (by decide) q2
      rw [z_toInt (by omega), z_toInt (by omega), Int.toNat_natCast, Int.toNat_natCast] at h bad
      rcases ho.1 with hl | hl
      · rw [hl] at h bad ⊢
        rw [if_neg (by decide)] at h bad
        refine ⟨fun _ => ?_, fun v => absurd (by decide) v⟩
        have dok := (ho.2.2.2.2.2.2.1 hl).1
        have gT : ∀ j, 220 ≤ j → o_garb m k ho2 j = m j := fun j hj => if_neg (by omega)
        -- back to the row before
        have l3 : m_gok m k ho2 = false → ∀ q i : Nat, i + q = 220 → ∀ I1, fr I I1 [D 1, D 13] → (∀ j, j < 220 → I1 (D 13) j = m j) → (∀ j, j < i → I1 (D 1) j = m j) → (∀ j, 220 ≤ j → I1 (D 1) j = m j) → mz_W G M_X12_garbage K mz_nX 206 [some (.ref (D 0)), some (.int (zI k)), some (.int (zI ho2)), some (.int 1), some (.int (zI i))] [] T I1 L (0, 0) := by
          intro hno q
          induction q with
          | zero =>
            intro i hi I1 f e13 ea eb
            have hi : i = 220 := by omega
            subst hi
            refine mz_vc ok_X12_garbage [206] [(), (), (), (), (), (), (), (), (), (), (), (), (), (), (), (), (), (), (), (), (), (), (), (), (), (), (), (), (), ()] ?_
            simp only [cd_X12_garbage, h0, r1, r13, r_rn0, r_rnc, r_vk0, r_vkc, r_vks, r_kci, r_kcv, r_ild, r_ald, r_lld, r_dld, r_Li, r_La, r_Ll, r_Ld, r_Ki, r_Ka, r_Kl, r_Kd, r_Kn, r_ist, r_ast, r_lst, r_dst, r_iinc, r_int, r_lng, r_dbl, r_i2, r_i1, r_l2, r_lsh, r_i2z, r_l2z, r_i2l, r_l2i, r_i2d, r_lcmp, r_ddiv, r_dcmpl, r_dup, r_dup2, r_pop, r_one_int, r_one_ref, r_go, r_if, r_ic, r_tsw, r_lsw, r_sw0, r_swc, r_lk0, r_lkc, r_kp, r_gI, r_gL, r_gR, r_pI, r_pZ, r_pL, r_pR, r_gs, r_ia, r_ca, r_za, r_la, r_da, r_aa, r_ias, r_cas, r_zas, r_las, r_das, r_aas, r_acp, r_new, r_nwa, r_nwq, r_ret, r_irt, r_zrt, r_lrt, r_drt, r_art, r_thr, r_cV0, r_cV1, r_cV2, r_cV3, r_cV4, r_cV5, r_cI0, r_cS0, r_cS1, r_cS2, r_cS3, r_cX0, r_cX1, r_cX2, r_cX3, r_rc, r_oi, r_refx, r_i10, r_i01, r_rfs, r_mem0, r_memc, r_beq, r_kl0, r_klz, r_kl1i, r_kl1r, r_kl1n, r_kl1l, r_kl1d, List.length_cons, List.length_nil, List.getElem?_cons_zero, List.getElem?_cons_succ, List.set_cons_zero, List.set_cons_succ, true_and, and_true, not_true, not_false_eq_true, false_implies, true_implies, or_true, true_or, or_false, false_or, Bool.or_false, Bool.false_or, decide_false, decide_true, Nat.reduceLT, Nat.reduceLeDiff, Nat.reduceAdd, Nat.reduceSub, ↓reduceIte, Nat.reduceEqDiff, Nat.lt_add_one]
            refine ⟨fun _ => ?_, fun v => absurd (by decide) v⟩
            refine c_failsM h0 ?_
            simp only [cd_X12_garbage, h0, r1, r13, r_rn0, r_rnc, r_vk0, r_vkc, r_vks, r_kci, r_kcv, r_ild, r_ald, r_lld, r_dld, r_Li, r_La, r_Ll, r_Ld, r_Ki, r_Ka, r_Kl, r_Kd, r_Kn, r_ist, r_ast, r_lst, r_dst, r_iinc, r_int, r_lng, r_dbl, r_i2, r_i1, r_l2, r_lsh, r_i2z, r_l2z, r_i2l, r_l2i, r_i2d, r_lcmp, r_ddiv, r_dcmpl, r_dup, r_dup2, r_pop, r_one_int, r_one_ref, r_go, r_if, r_ic, r_tsw, r_lsw, r_sw0, r_swc, r_lk0, r_lkc, r_kp, r_gI, r_gL, r_gR, r_pI, r_pZ, r_pL, r_pR, r_gs, r_ia, r_ca, r_za, r_la, r_da, r_aa, r_ias, r_cas, r_zas, r_las, r_das, r_aas, r_acp, r_new, r_nwa, r_nwq, r_ret, r_irt, r_zrt, r_lrt, r_drt, r_art, r_thr, r_cV0, r_cV1, r_cV2, r_cV3, r_cV4, r_cV5, r_cI0, r_cS0, r_cS1, r_cS2, r_cS3, r_cX0, r_cX1, r_cX2, r_cX3, r_rc, r_oi, r_refx, r_i10, r_i01, r_rfs, r_mem0, r_memc, r_beq, r_kl0, r_klz, r_kl1i, r_kl1r, r_kl1n, r_kl1l, r_kl1d, List.length_cons, List.length_nil, List.getElem?_cons_zero, List.getElem?_cons_succ, List.set_cons_zero, List.set_cons_succ, true_and, and_true, not_true, not_false_eq_true, false_implies, true_implies, or_true, true_or, or_false, false_or, Bool.or_false, Bool.false_or, decide_false, decide_true, Nat.reduceLT, Nat.reduceLeDiff, Nat.reduceAdd, Nat.reduceSub, ↓reduceIte, Nat.reduceEqDiff, Nat.lt_add_one]
            refine bad 3 I1 (by decide) (if_neg (by rw [hno]; decide)) f ?_
            funext j
            by_cases z : j < 220
            · exact ea j z
            · exact eb j (by omega)
          | succ q ih =>
            intro i hi I1 f e13 ea eb
            refine mz_vc ok_X12_garbage [206] [(), (), (), (), (), (), (), (), (), (), (), (), (), (), (), (), (), (), (), (), (), (), (), (), (), (), (), (), (), ()] ?_
            simp only [cd_X12_garbage, h0, r1, r13, r_rn0, r_rnc, r_vk0, r_vkc, r_vks, r_kci, r_kcv, r_ild, r_ald, r_lld, r_dld, r_Li, r_La, r_Ll, r_Ld, r_Ki, r_Ka, r_Kl, r_Kd, r_Kn, r_ist, r_ast, r_lst, r_dst, r_iinc, r_int, r_lng, r_dbl, r_i2, r_i1, r_l2, r_lsh, r_i2z, r_l2z, r_i2l, r_l2i, r_i2d, r_lcmp, r_ddiv, r_dcmpl, r_dup, r_dup2, r_pop, r_one_int, r_one_ref, r_go, r_if, r_ic, r_tsw, r_lsw, r_sw0, r_swc, r_lk0, r_lkc, r_kp, r_gI, r_gL, r_gR, r_pI, r_pZ, r_pL, r_pR, r_gs, r_ia, r_ca, r_za, r_la, r_da, r_aa, r_ias, r_cas, r_zas, r_las, r_das, r_aas, r_acp, r_new, r_nwa, r_nwq, r_ret, r_irt, r_zrt, r_lrt, r_drt, r_art, r_thr, r_cV0, r_cV1, r_cV2, r_cV3, r_cV4, r_cV5, r_cI0, r_cS0, r_cS1, r_cS2, r_cS3, r_cX0, r_cX1, r_cX2, r_cX3, r_rc, r_oi, r_refx, r_i10, r_i01, r_rfs, r_mem0, r_memc, r_beq, r_kl0, r_klz, r_kl1i, r_kl1r, r_kl1n, r_kl1l, r_kl1d, List.length_cons, List.length_nil, List.getElem?_cons_zero, List.getElem?_cons_succ, List.set_cons_zero, List.set_cons_succ, true_and, and_true, not_true, not_false_eq_true, false_implies, true_implies, or_true, true_or, or_false, false_or, Bool.or_false, Bool.false_or, decide_false, decide_true, Nat.reduceLT, Nat.reduceLeDiff, Nat.reduceAdd, Nat.reduceSub, ↓reduceIte, Nat.reduceEqDiff, Nat.lt_add_one]
            refine ⟨z_no (b := 220) (by omega) (by omega) (by omega), fun _ => ?_⟩
            rw [z_nat (by omega), Int.toNat_natCast, z_1, e13 i (by omega)]
            refine ⟨⟨220, t13, z_in (by omega) (by omega) (by decide)⟩, ⟨268, t1, z_in (by omega) (by omega) (by decide)⟩, ?_⟩
            refine ih (i + 1) (by omega) _ (fr_u2 f (by simp)) (fun j hj => by rw [mz_u_ne n131]; exact e13 j hj) (fun j hj => ?_) (fun j hj => by rw [mz_u_nk (by omega)]; exact eb j hj)
            rw [mz_u_at]
            by_cases z : j = i
            · simp [z]
            · simp [z]; exact ea j (by omega)
        have l2 : s_gh (s_fm m) 10 + k ≤ 22 → ∀ q : Nat, q ≤ 220 → ∀ I1, fr I I1 [D 1, D 13] → (∀ j, j < 220 → I1 (D 13) j = m j) → I1 (D 1) = (fun j => if q ≤ j then o_garb m k ho2 j else m j) → mz_W G M_X12_garbage K mz_nX 123 [some (.ref (D 0)), some (.int (zI k)), some (.int (zI ho2)), some (.int 1), some (.int (zI ((q : Int) - 1)))] [] T I1 L (0, 0) := by
          intro hroom q
          induction q with
          | zero =>
            intro hq I1 f e13 e1'
            have e1' : I1 (D 1) = o_garb m k ho2 := by
              rw [e1']; funext j; exact if_pos (Nat.zero_le _)
            have dp : d_pos (I1 (D 1)) := by rw [e1']; exact d_pos_cg dok.1 (fun j a b => gT j (by omega))
            have kd : m_kd (o_garb m k ho2) = m_kd m ∧ m_st (o_garb m k ho2) = m_st m := by
              unfold m_kd m_st; rw [gT 222 (by decide), gT 223 (by decide)]; exact ⟨rfl, rfl⟩
            obtain ⟨⟨p1, p2, p3, p4⟩, pk, ps, pc, pr⟩ := id dok.1
            refine mz_vc ok_X12_garbage [123, 206] [(), (), (), (), (), (), (), (), (), (), (), (), (), (), (), (), (), (), (), (), (), (), (), (), (), (), (), (), (), ()] ?_
            simp only [cd_X12_garbage, h0, r1, r13, ix_224 t1, n_224, ix_225 t1, n_225, r_rn0, r_rnc, r_vk0, r_vkc, r_vks, r_kci, r_kcv, r_ild, r_ald, r_lld, r_dld, r_Li, r_La, r_Ll, r_Ld, r_Ki, r_Ka, r_Kl, r_Kd, r_Kn, r_ist, r_ast, r_lst, r_dst, r_iinc, r_int, r_lng, r_dbl, r_i2, r_i1, r_l2, r_lsh, r_i2z, r_l2z, r_i2l, r_l2i, r_i2d, r_lcmp, r_ddiv, r_dcmpl, r_dup, r_dup2, r_pop, r_one_int, r_one_ref, r_go, r_if, r_ic, r_tsw, r_lsw, r_sw0, r_swc, r_lk0, r_lkc, r_kp, r_gI, r_gL, r_gR, r_pI, r_pZ, r_pL, r_pR, r_gs, r_ia, r_ca, r_za, r_la, r_da, r_aa, r_ias, r_cas, r_zas, r_las, r_das, r_aas, r_acp, r_new, r_nwa, r_nwq, r_ret, r_irt, r_zrt, r_lrt, r_drt, r_art, r_thr, r_cV0, r_cV1, r_cV2, r_cV3, r_cV4, r_cV5, r_cI0, r_cS0, r_cS1, r_cS2, r_cS3, r_cX0, r_cX1, r_cX2, r_cX3, r_rc, r_oi, r_refx, r_i10, r_i01, r_rfs, r_mem0, r_memc, r_beq, r_kl0, r_klz, r_kl1i, r_kl1r, r_kl1n, r_kl1l, r_kl1d, List.length_cons, List.length_nil, List.getElem?_cons_zero, List.getElem?_cons_succ, List.set_cons_zero, List.set_cons_succ, true_and, and_true, not_true, not_false_eq_true, false_implies, true_implies, or_true, true_or, or_false, false_or, Bool.or_false, Bool.false_or, decide_false, decide_true, Nat.reduceLT, Nat.reduceLeDiff, Nat.reduceAdd, Nat.reduceSub, ↓reduceIte, Nat.reduceEqDiff, Nat.lt_add_one]
            refine ⟨fun _ => ?_, fun v => absurd (by decide) v⟩
            rw [e1', gT 224 (by decide), gT 225 (by decide), p3, p4]
            have hMc1 : p_Mc I1 D := p_Mc_fr hMc f (Mc_ne hU hM (fun a ha => by
              simp only [List.mem_cons, List.not_mem_nil, or_false] at ha
              rcases ha with e | e <;> subst e
              · exact ⟨_, t1, by decide, by decide, by decide, by decide, by decide⟩
              · exact ⟨_, t13, by decide, by decide, by decide, by decide, by decide⟩))
            refine c_fitsAtM hM hMc1 dp (by omega) (by omega) ?_
            rw [e1', kd.1, kd.2]
            have eg : m_gok m k ho2 = s_fit (s_fm (o_garb m k ho2)) (m_kd m) (m_st m) (m_c m) (m_r m) := by
              unfold m_gok; rw [decide_eq_true hroom, Bool.true_and]
            rw [← eg]
            simp only [cd_X12_garbage, h0, r1, r13, r_rn0, r_rnc, r_vk0, r_vkc, r_vks, r_kci, r_kcv, r_ild, r_ald, r_lld, r_dld, r_Li, r_La, r_Ll, r_Ld, r_Ki, r_Ka, r_Kl, r_Kd, r_Kn, r_ist, r_ast, r_lst, r_dst, r_iinc, r_int, r_lng, r_dbl, r_i2, r_i1, r_l2, r_lsh, r_i2z, r_l2z, r_i2l, r_l2i, r_i2d, r_lcmp, r_ddiv, r_dcmpl, r_dup, r_dup2, r_pop, r_one_int, r_one_ref, r_go, r_if, r_ic, r_tsw, r_lsw, r_sw0, r_swc, r_lk0, r_lkc, r_kp, r_gI, r_gL, r_gR, r_pI, r_pZ, r_pL, r_pR, r_gs, r_ia, r_ca, r_za, r_la, r_da, r_aa, r_ias, r_cas, r_zas, r_las, r_das, r_aas, r_acp, r_new, r_nwa, r_nwq, r_ret, r_irt, r_zrt, r_lrt, r_drt, r_art, r_thr, r_cV0, r_cV1, r_cV2, r_cV3, r_cV4, r_cV5, r_cI0, r_cS0, r_cS1, r_cS2, r_cS3, r_cX0, r_cX1, r_cX2, r_cX3, r_rc, r_oi, r_refx, r_i10, r_i01, r_rfs, r_mem0, r_memc, r_beq, r_kl0, r_klz, r_kl1i, r_kl1r, r_kl1n, r_kl1l, r_kl1d, List.length_cons, List.length_nil, List.getElem?_cons_zero, List.getElem?_cons_succ, List.set_cons_zero, List.set_cons_succ, true_and, and_true, not_true, not_false_eq_true, false_implies, true_implies, or_true, true_or, or_false, false_or, Bool.or_false, Bool.false_or, decide_false, decide_true, Nat.reduceLT, Nat.reduceLeDiff, Nat.reduceAdd, Nat.reduceSub, ↓reduceIte, Nat.reduceEqDiff, Nat.lt_add_one]
            cases hg : m_gok m k ho2 with
            | true =>
              refine ⟨fun _ => ?_, fun v => absurd (by decide) v⟩
              refine c_filledM hM ?_
              simp only [cd_X12_garbage, h0, r1, r13, r_rn0, r_rnc, r_vk0, r_vkc, r_vks, r_kci, r_kcv, r_ild, r_ald, r_lld, r_dld, r_Li, r_La, r_Ll, r_Ld, r_Ki, r_Ka, r_Kl, r_Kd, r_Kn, r_ist, r_ast, r_lst, r_dst, r_iinc, r_int, r_lng, r_dbl, r_i2, r_i1, r_l2, r_lsh, r_i2z, r_l2z, r_i2l, r_l2i, r_i2d, r_lcmp, r_ddiv, r_dcmpl, r_dup, r_dup2, r_pop, r_one_int, r_one_ref, r_go, r_if, r_ic, r_tsw, r_lsw, r_sw0, r_swc, r_lk0, r_lkc, r_kp, r_gI, r_gL, r_gR, r_pI, r_pZ, r_pL, r_pR, r_gs, r_ia, r_ca, r_za, r_la, r_da, r_aa, r_ias, r_cas, r_zas, r_las, r_das, r_aas, r_acp, r_new, r_nwa, r_nwq, r_ret, r_irt, r_zrt, r_lrt, r_drt, r_art, r_thr, r_cV0, r_cV1, r_cV2, r_cV3, r_cV4, r_cV5, r_cI0, r_cS0, r_cS1, r_cS2, r_cS3, r_cX0, r_cX1, r_cX2, r_cX3, r_rc, r_oi, r_refx, r_i10, r_i01, r_rfs, r_mem0, r_memc, r_beq, r_kl0, r_klz, r_kl1i, r_kl1r, r_kl1n, r_kl1l, r_kl1d, List.length_cons, List.length_nil, List.getElem?_cons_zero, List.getElem?_cons_succ, List.set_cons_zero, List.set_cons_succ, true_and, and_true, not_true, not_false_eq_true, false_implies, true_implies, or_true, true_or, or_false, false_or, Bool.or_false, Bool.false_or, decide_false, decide_true, Nat.reduceLT, Nat.reduceLeDiff, Nat.reduceAdd, Nat.reduceSub, ↓reduceIte, Nat.reduceEqDiff, Nat.lt_add_one]
              refine c_doneM h0 ?_
              simp only [cd_X12_garbage, h0, r1, r13, r_rn0, r_rnc, r_vk0, r_vkc, r_vks, r_kci, r_kcv, r_ild, r_ald, r_lld, r_dld, r_Li, r_La, r_Ll, r_Ld, r_Ki, r_Ka, r_Kl, r_Kd, r_Kn, r_ist, r_ast, r_lst, r_dst, r_iinc, r_int, r_lng, r_dbl, r_i2, r_i1, r_l2, r_lsh, r_i2z, r_l2z, r_i2l, r_l2i, r_i2d, r_lcmp, r_ddiv, r_dcmpl, r_dup, r_dup2, r_pop, r_one_int, r_one_ref, r_go, r_if, r_ic, r_tsw, r_lsw, r_sw0, r_swc, r_lk0, r_lkc, r_kp, r_gI, r_gL, r_gR, r_pI, r_pZ, r_pL, r_pR, r_gs, r_ia, r_ca, r_za, r_la, r_da, r_aa, r_ias, r_cas, r_zas, r_las, r_das, r_aas, r_acp, r_new, r_nwa, r_nwq, r_ret, r_irt, r_zrt, r_lrt, r_drt, r_art, r_thr, r_cV0, r_cV1, r_cV2, r_cV3, r_cV4, r_cV5, r_cI0, r_cS0, r_cS1, r_cS2, r_cS3, r_cX0, r_cX1, r_cX2, r_cX3, r_rc, r_oi, r_refx, r_i10, r_i01, r_rfs, r_mem0, r_memc, r_beq, r_kl0, r_klz, r_kl1i, r_kl1r, r_kl1n, r_kl1l, r_kl1d, List.length_cons, List.length_nil, List.getElem?_cons_zero, List.getElem?_cons_succ, List.set_cons_zero, List.set_cons_succ, true_and, and_true, not_true, not_false_eq_true, false_implies, true_implies, or_true, true_or, or_false, false_or, Bool.or_false, Bool.false_or, decide_false, decide_true, Nat.reduceLT, Nat.reduceLeDiff, Nat.reduceAdd, Nat.reduceSub, ↓reduceIte, Nat.reduceEqDiff, Nat.lt_add_one]
              rw [e1']
              rw [hg, if_pos rfl, s_if_0 rfl] at h
              have e0 : I1 (D 0) = I (D 0) := f _ (by simp; exact ⟨Ne.symm n10, Ne.symm n130⟩)
              obtain ⟨v1, v2⟩ := r_S_X hU hM hC (fr_tr f fr_refl (by simp) (fun _ q => q)) (by rw [e0]; exact ⟨rfl, rfl, rfl, rfl⟩) e1' (d_Sp_fr hSp (by rw [e0]) (f _ (by simp; exact ⟨mz_ne hU t14 t1 (by decide), mz_ne hU t14 t13 (by decide)⟩)))
              obtain ⟨w1, w2⟩ := r_S_0 (x := 0) hU hM v1 v2
              exact h _ _ w1 w2 (fun _ => rfl)
            | false =>
              refine ⟨fun v => absurd rfl v, fun _ => ?_⟩
              exact l3 hg 220 0 rfl I1 f e13 (fun j hj => absurd hj (Nat.not_lt_zero _)) (fun j hj => by rw [e1']; exact gT j hj)
          | succ q ih =>
            intro hq I1 f e13 e1'
            rw [show ((q + 1 : Nat) : Int) - 1 = (q : Int) by omega]
            have nx : ∀ v, v = o_garb m k ho2 q → mz_W G M_X12_garbage K mz_nX 123 [some (.ref (D 0)), some (.int (zI k)), some (.int (zI ho2)), some (.int 1), some (.int (zI ((q : Int) - 1)))] [] T (mz_u I1 (D 1) q v) L (0, 0) := fun v ev => by
              refine ih (by omega) _ (fr_u2 f (by simp)) (fun j hj => by rw [mz_u_ne n131]; exact e13 j hj) ?_
              rw [mz_u_row, e1', ev]
              funext j
              rw [m_u_at]
              by_cases z : j = q
              · rw [if_pos z, if_pos (by omega), z]
              · rw [if_neg z]
                by_cases z2 : q + 1 ≤ j
                · rw [if_pos z2, if_pos (by omega)]
                · rw [if_neg z2, if_neg (by omega)]
            refine mz_vc ok_X12_garbage [123, 206] [(), (), (), (), (), (), (), (), (), (), (), (), (), (), (), (), (), (), (), (), (), (), (), (), (), (), (), (), (), ()] ?_
            simp only [cd_X12_garbage, h0, r1, r13, r_rn0, r_rnc, r_vk0, r_vkc, r_vks, r_kci, r_kcv, r_ild, r_ald, r_lld, r_dld, r_Li, r_La, r_Ll, r_Ld, r_Ki, r_Ka, r_Kl, r_Kd, r_Kn, r_ist, r_ast, r_lst, r_dst, r_iinc, r_int, r_lng, r_dbl, r_i2, r_i1, r_l2, r_lsh, r_i2z, r_l2z, r_i2l, r_l2i, r_i2d, r_lcmp, r_ddiv, r_dcmpl, r_dup, r_dup2, r_pop, r_one_int, r_one_ref, r_go, r_if, r_ic, r_tsw, r_lsw, r_sw0, r_swc, r_lk0, r_lkc, r_kp, r_gI, r_gL, r_gR, r_pI, r_pZ, r_pL, r_pR, r_gs, r_ia, r_ca, r_za, r_la, r_da, r_aa, r_ias, r_cas, r_zas, r_las, r_das, r_aas, r_acp, r_new, r_nwa, r_nwq, r_ret, r_irt, r_zrt, r_lrt, r_drt, r_art, r_thr, r_cV0, r_cV1, r_cV2, r_cV3, r_cV4, r_cV5, r_cI0, r_cS0, r_cS1, r_cS2, r_cS3, r_cX0, r_cX1, r_cX2, r_cX3, r_rc, r_oi, r_refx, r_i10, r_i01, r_rfs, r_mem0, r_memc, r_beq, r_kl0, r_klz, r_kl1i, r_kl1r, r_kl1n, r_kl1l, r_kl1d, List.length_cons, List.length_nil, List.getElem?_cons_zero, List.getElem?_cons_succ, List.set_cons_zero, List.set_cons_succ, true_and, and_true, not_true, not_false_eq_true, false_implies, true_implies, or_true, true_or, or_false, false_or, Bool.or_false, Bool.false_or, decide_false, decide_true, Nat.reduceLT, Nat.reduceLeDiff, Nat.reduceAdd, Nat.reduceSub, ↓reduceIte, Nat.reduceEqDiff, Nat.lt_add_one]
            rw [show (10 : Int32) = zI 10 from rfl, z_mul, z_mod (by omega) (by omega), z_sub, show (-1 : Int32) = zI (-1) from rfl, z_add, z_nat (a := (q : Int)) (by omega), Int.toNat_natCast, show (q : Int) + -1 = (q : Int) - 1 by omega, z_lt (by omega) (by omega), show (0 : Int32) = zI 0 from rfl, z_lt (by omega) (by omega), z_eq (a := (q : Int) % 10) (b := ho2) (by omega) (by omega)]
            have ix : mz_ix T 1 (D 1) (zI q) := ⟨268, t1, z_in (by omega) (by omega) (by decide)⟩
            refine ⟨fun v => absurd v (by omega), fun _ => ⟨fun v => ⟨by decide, fun v2 => ⟨ix, nx _ ?_⟩, fun v2 => ⟨ix, nx _ ?_⟩⟩, fun v => ⟨⟨220, t13, z_in (by omega) (by omega) (by decide)⟩, ix, nx _ ?_⟩⟩⟩
            · unfold o_garb
              rw [if_pos (by omega), if_neg (by omega), if_neg (by omega)]
            · unfold o_garb
              rw [if_pos (by omega), if_neg (by omega), if_pos (by omega)]; rfl
            · rw [z_nat (by omega), e13 _ (by omega)]
              unfold o_garb
              rw [if_pos (by omega), if_pos (by omega)]
              congr 1; omega
        have l1 : ∀ q i : Nat, i + q = 220 → ∀ I1, fr I I1 [D 13] → (∀ j, j < i → I1 (D 13) j = m j) → mz_W G M_X12_garbage K mz_nX 48 [some (.ref (D 0)), some (.int (zI k)), some (.int (zI ho2)), some (.int (b2i (g_rm m k i))), some (.int (zI i))] [] T I1 L (0, 0) := by
          intro q
          induction q with
          | zero =>
            intro i hi I1 f e13
            have hi : i = 220 := by omega
            subst hi
            have e1' : I1 (D 1) = m := (f _ (by simp; exact Ne.symm n131)).trans e1
            have f' : fr I I1 [D 1, D 13] := fr_tr f fr_refl (by simp) (fun _ q => q)
            refine mz_vc ok_X12_garbage [48, 123] [(), (), (), (), (), (), (), (), (), (), (), (), (), (), (), (), (), (), (), (), (), (), (), (), (), (), (), (), (), ()] ?_
            simp only [cd_X12_garbage, h0, r1, r13, r_rn0, r_rnc, r_vk0, r_vkc, r_vks, r_kci, r_kcv, r_ild, r_ald, r_lld, r_dld, r_Li, r_La, r_Ll, r_Ld, r_Ki, r_Ka, r_Kl, r_Kd, r_Kn, r_ist, r_ast, r_lst, r_dst, r_iinc, r_int, r_lng, r_dbl, r_i2, r_i1, r_l2, r_lsh, r_i2z, r_l2z, r_i2l, r_l2i, r_i2d, r_lcmp, r_ddiv, r_dcmpl, r_dup, r_dup2, r_pop, r_one_int, r_one_ref, r_go, r_if, r_ic, r_tsw, r_lsw, r_sw0, r_swc, r_lk0, r_lkc, r_kp, r_gI, r_gL, r_gR, r_pI, r_pZ, r_pL, r_pR, r_gs, r_ia, r_ca, r_za, r_la, r_da, r_aa, r_ias, r_cas, r_zas, r_las, r_das, r_aas, r_acp, r_new, r_nwa, r_nwq, r_ret, r_irt, r_zrt, r_lrt, r_drt, r_art, r_thr, r_cV0, r_cV1, r_cV2, r_cV3, r_cV4, r_cV5, r_cI0, r_cS0, r_cS1, r_cS2, r_cS3, r_cX0, r_cX1, r_cX2, r_cX3, r_rc, r_oi, r_refx, r_i10, r_i01, r_rfs, r_mem0, r_memc, r_beq, r_kl0, r_klz, r_kl1i, r_kl1r, r_kl1n, r_kl1l, r_kl1d, List.length_cons, List.length_nil, List.getElem?_cons_zero, List.getElem?_cons_succ, List.set_cons_zero, List.set_cons_succ, true_and, and_true, not_true, not_false_eq_true, false_implies, true_implies, or_true, true_or, or_false, false_or, Bool.or_false, Bool.false_or, decide_false, decide_true, Nat.reduceLT, Nat.reduceLeDiff, Nat.reduceAdd, Nat.reduceSub, ↓reduceIte, Nat.reduceEqDiff, Nat.lt_add_one]
            rw [g_rm_gh (by omega)]
            refine ⟨fun _ => ?_, fun v => absurd (by decide) v⟩
            by_cases hroom : s_gh (s_fm m) 10 + k ≤ 22
            · rw [decide_eq_true hroom]
              refine ⟨fun _ => ?_, fun v => absurd (by decide) v⟩
              exact l2 hroom 220 (Nat.le_refl _) I1 f' e13 (by
                rw [e1']; funext j
                by_cases z : 220 ≤ j
                · rw [if_pos z]; exact (gT j z).symm
                · rw [if_neg z])
            · rw [decide_eq_false hroom]
              refine ⟨fun v => absurd rfl v, fun _ => ?_⟩
              refine c_failsM h0 ?_
              simp only [cd_X12_garbage, h0, r1, r13, r_rn0, r_rnc, r_vk0, r_vkc, r_vks, r_kci, r_kcv, r_ild, r_ald, r_lld, r_dld, r_Li, r_La, r_Ll, r_Ld, r_Ki, r_Ka, r_Kl, r_Kd, r_Kn, r_ist, r_ast, r_lst, r_dst, r_iinc, r_int, r_lng, r_dbl, r_i2, r_i1, r_l2, r_lsh, r_i2z, r_l2z, r_i2l, r_l2i, r_i2d, r_lcmp, r_ddiv, r_dcmpl, r_dup, r_dup2, r_pop, r_one_int, r_one_ref, r_go, r_if, r_ic, r_tsw, r_lsw, r_sw0, r_swc, r_lk0, r_lkc, r_kp, r_gI, r_gL, r_gR, r_pI, r_pZ, r_pL, r_pR, r_gs, r_ia, r_ca, r_za, r_la, r_da, r_aa, r_ias, r_cas, r_zas, r_las, r_das, r_aas, r_acp, r_new, r_nwa, r_nwq, r_ret, r_irt, r_zrt, r_lrt, r_drt, r_art, r_thr, r_cV0, r_cV1, r_cV2, r_cV3, r_cV4, r_cV5, r_cI0, r_cS0, r_cS1, r_cS2, r_cS3, r_cX0, r_cX1, r_cX2, r_cX3, r_rc, r_oi, r_refx, r_i10, r_i01, r_rfs, r_mem0, r_memc, r_beq, r_kl0, r_klz, r_kl1i, r_kl1r, r_kl1n, r_kl1l, r_kl1d, List.length_cons, List.length_nil, List.getElem?_cons_zero, List.getElem?_cons_succ, List.set_cons_zero, List.set_cons_succ, true_and, and_true, not_true, not_false_eq_true, false_implies, true_implies, or_true, true_or, or_false, false_or, Bool.or_false, Bool.false_or, decide_false, decide_true, Nat.reduceLT, Nat.reduceLeDiff, Nat.reduceAdd, Nat.reduceSub, ↓reduceIte, Nat.reduceEqDiff, Nat.lt_add_one]
              exact bad 3 I1 (by decide) (if_neg (by unfold m_gok; rw [decide_eq_false hroom, Bool.false_and]; decide)) f' e1'
          | succ q ih =>
            intro i hi I1 f e13
            have e1' : I1 (D 1) = m := (f _ (by simp; exact Ne.symm n131)).trans e1
            have nx := ih (i + 1) (by omega) (mz_u I1 (D 13) i (m i)) (fr_u2 f (by simp)) (fun j hj => by
              rw [mz_u_at]
              by_cases z : j = i
              · simp [z]
              · simp [z]; exact e13 j (by omega))
            refine mz_vc ok_X12_garbage [48, 123] [(), (), (), (), (), (), (), (), (), (), (), (), (), (), (), (), (), (), (), (), (), (), (), (), (), (), (), (), (), ()] ?_
            simp only [cd_X12_garbage, h0, r1, r13, b2i_0, r_rn0, r_rnc, r_vk0, r_vkc, r_vks, r_kci, r_kcv, r_ild, r_ald, r_lld, r_dld, r_Li, r_La, r_Ll, r_Ld, r_Ki, r_Ka, r_Kl, r_Kd, r_Kn, r_ist, r_ast, r_lst, r_dst, r_iinc, r_int, r_lng, r_dbl, r_i2, r_i1, r_l2, r_lsh, r_i2z, r_l2z, r_i2l, r_l2i, r_i2d, r_lcmp, r_ddiv, r_dcmpl, r_dup, r_dup2, r_pop, r_one_int, r_one_ref, r_go, r_if, r_ic, r_tsw, r_lsw, r_sw0, r_swc, r_lk0, r_lkc, r_kp, r_gI, r_gL, r_gR, r_pI, r_pZ, r_pL, r_pR, r_gs, r_ia, r_ca, r_za, r_la, r_da, r_aa, r_ias, r_cas, r_zas, r_las, r_das, r_aas, r_acp, r_new, r_nwa, r_nwq, r_ret, r_irt, r_zrt, r_lrt, r_drt, r_art, r_thr, r_cV0, r_cV1, r_cV2, r_cV3, r_cV4, r_cV5, r_cI0, r_cS0, r_cS1, r_cS2, r_cS3, r_cX0, r_cX1, r_cX2, r_cX3, r_rc, r_oi, r_refx, r_i10, r_i01, r_rfs, r_mem0, r_memc, r_beq, r_kl0, r_klz, r_kl1i, r_kl1r, r_kl1n, r_kl1l, r_kl1d, List.length_cons, List.length_nil, List.getElem?_cons_zero, List.getElem?_cons_succ, List.set_cons_zero, List.set_cons_succ, true_and, and_true, not_true, not_false_eq_true, false_implies, true_implies, or_true, true_or, or_false, false_or, Bool.or_false, Bool.false_or, decide_false, decide_true, Nat.reduceLT, Nat.reduceLeDiff, Nat.reduceAdd, Nat.reduceSub, ↓reduceIte, Nat.reduceEqDiff, Nat.lt_add_one]
            refine ⟨z_no (b := 220) (by omega) (by omega) (by omega), fun _ => ?_⟩
            rw [e1', z_nat (by omega), Int.toNat_natCast, z_1, mz_u_ne (Ne.symm n131), e1', show (10 : Int32) = zI 10 from rfl, show (22 : Int32) = zI 22 from rfl, z_sub, z_mul, z_lt (by omega) (by omega)]
            have ix : mz_ix T 1 (D 1) (zI i) := ⟨268, t1, z_in (by omega) (by omega) (by decide)⟩
            have eg : g_rm m k (i + 1) = (g_rm m k i && (decide (i < 10 * (22 - k)) || decide (m i = 0))) := rfl
            rw [eg] at nx
            refine ⟨ix, ⟨220, t13, z_in (by omega) (by omega) (by decide)⟩, fun v => ?_, fun v => ⟨fun v2 => ?_, fun v2 => ⟨ix, fun v3 => ?_, fun v3 => ?_⟩⟩⟩
            · rw [v, Bool.false_and] at nx; exact nx
            · rw [show g_rm m k i = true by simpa using v, decide_eq_true (show i < 10 * (22 - k) by omega)] at nx; exact nx
            · rw [show g_rm m k i = true by simpa using v, decide_eq_false (show ¬ i < 10 * (22 - k) by omega), decide_eq_false v3] at nx; exact nx
            · rw [show g_rm m k i = true by simpa using v, decide_eq_false (show ¬ i < 10 * (22 - k) by omega), decide_eq_true (Decidable.not_not.mp v3)] at nx; exact nx
        exact l1 220 0 rfl I fr_refl (fun j hj => absurd hj (Nat.not_lt_zero _))
      · rw [hl] at h bad ⊢
        rw [if_pos rfl] at h bad
        refine ⟨fun v => absurd rfl v, fun _ => ?_⟩
        refine c_failsM h0 ?_
        simp only [cd_X12_garbage, h0, r1, r13, r_rn0, r_rnc, r_vk0, r_vkc, r_vks, r_kci, r_kcv, r_ild, r_ald, r_lld, r_dld, r_Li, r_La, r_Ll, r_Ld, r_Ki, r_Ka, r_Kl, r_Kd, r_Kn, r_ist, r_ast, r_lst, r_dst, r_iinc, r_int, r_lng, r_dbl, r_i2, r_i1, r_l2, r_lsh, r_i2z, r_l2z, r_i2l, r_l2i, r_i2d, r_lcmp, r_ddiv, r_dcmpl, r_dup, r_dup2, r_pop, r_one_int, r_one_ref, r_go, r_if, r_ic, r_tsw, r_lsw, r_sw0, r_swc, r_lk0, r_lkc, r_kp, r_gI, r_gL, r_gR, r_pI, r_pZ, r_pL, r_pR, r_gs, r_ia, r_ca, r_za, r_la, r_da, r_aa, r_ias, r_cas, r_zas, r_las, r_das, r_aas, r_acp, r_new, r_nwa, r_nwq, r_ret, r_irt, r_zrt, r_lrt, r_drt, r_art, r_thr, r_cV0, r_cV1, r_cV2, r_cV3, r_cV4, r_cV5, r_cI0, r_cS0, r_cS1, r_cS2, r_cS3, r_cX0, r_cX1, r_cX2, r_cX3, r_rc, r_oi, r_refx, r_i10, r_i01, r_rfs, r_mem0, r_memc, r_beq, r_kl0, r_klz, r_kl1i, r_kl1r, r_kl1n, r_kl1l, r_kl1d, List.length_cons, List.length_nil, List.getElem?_cons_zero, List.getElem?_cons_succ, List.set_cons_zero, List.set_cons_succ, true_and, and_true, not_true, not_false_eq_true, false_implies, true_implies, or_true, true_or, or_false, false_or, Bool.or_false, Bool.false_or, decide_false, decide_true, Nat.reduceLT, Nat.reduceLeDiff, Nat.reduceAdd, Nat.reduceSub, ↓reduceIte, Nat.reduceEqDiff, Nat.lt_add_one]
        exact bad 2 I (by decide) rfl fr_refl e1
    · rw [decide_eq_false q2]
      simp only [cd_X12_garbage, h0, r1, r13, r_rn0, r_rnc, r_vk0, r_vkc, r_vks, r_kci, r_kcv, r_ild, r_ald, r_lld, r_dld, r_Li, r_La, r_Ll, r_Ld, r_Ki, r_Ka, r_Kl, r_Kd, r_Kn, r_ist, r_ast, r_lst, r_dst, r_iinc, r_int, r_lng, r_dbl, r_i2, r_i1, r_l2, r_lsh, r_i2z, r_l2z, r_i2l, r_l2i, r_i2d, r_lcmp, r_ddiv, r_dcmpl, r_dup, r_dup2, r_pop, r_one_int, r_one_ref, r_go, r_if, r_ic, r_tsw, r_lsw, r_sw0, r_swc, r_lk0, r_lkc, r_kp, r_gI, r_gL, r_gR, r_pI, r_pZ, r_pL, r_pR, r_gs, r_ia, r_ca, r_za, r_la, r_da, r_aa, r_ias, r_cas, r_zas, r_las, r_das, r_aas, r_acp, r_new, r_nwa, r_nwq, r_ret, r_irt, r_zrt, r_lrt, r_drt, r_art, r_thr, r_cV0, r_cV1, r_cV2, r_cV3, r_cV4, r_cV5, r_cI0, r_cS0, r_cS1, r_cS2, r_cS3, r_cX0, r_cX1, r_cX2, r_cX3, r_rc, r_oi, r_refx, r_i10, r_i01, r_rfs, r_mem0, r_memc, r_beq, r_kl0, r_klz, r_kl1i, r_kl1r, r_kl1n, r_kl1l, r_kl1d, List.length_cons, List.length_nil, List.getElem?_cons_zero, List.getElem?_cons_succ, List.set_cons_zero, List.set_cons_succ, true_and, and_true, not_true, not_false_eq_true, false_implies, true_implies, or_true, true_or, or_false, false_or, Bool.or_false, Bool.false_or, decide_false, decide_true, Nat.reduceLT, Nat.reduceLeDiff, Nat.reduceAdd, Nat.reduceSub, ↓reduceIte, Nat.reduceEqDiff, Nat.lt_add_one]
      refine ⟨fun v => absurd rfl v, fun _ => ?_⟩
      refine c_failsM h0 ?_
      simp only [cd_X12_garbage, h0, r1, r13, r_rn0, r_rnc, r_vk0, r_vkc, r_vks, r_kci, r_kcv, r_ild, r_ald, r_lld, r_dld, r_Li, r_La, r_Ll, r_Ld, r_Ki, r_Ka, r_Kl, r_Kd, r_Kn, r_ist, r_ast, r_lst, r_dst, r_iinc, r_int, r_lng, r_dbl, r_i2, r_i1, r_l2, r_lsh, r_i2z, r_l2z, r_i2l, r_l2i, r_i2d, r_lcmp, r_ddiv, r_dcmpl, r_dup, r_dup2, r_pop, r_one_int, r_one_ref, r_go, r_if, r_ic, r_tsw, r_lsw, r_sw0, r_swc, r_lk0, r_lkc, r_kp, r_gI, r_gL, r_gR, r_pI, r_pZ, r_pL, r_pR, r_gs, r_ia, r_ca, r_za, r_la, r_da, r_aa, r_ias, r_cas, r_zas, r_las, r_das, r_aas, r_acp, r_new, r_nwa, r_nwq, r_ret, r_irt, r_zrt, r_lrt, r_drt, r_art, r_thr, r_cV0, r_cV1, r_cV2, r_cV3, r_cV4, r_cV5, r_cI0, r_cS0, r_cS1, r_cS2, r_cS3, r_cX0, r_cX1, r_cX2, r_cX3, r_rc, r_oi, r_refx, r_i10, r_i01, r_rfs, r_mem0, r_memc, r_beq, r_kl0, r_klz, r_kl1i, r_kl1r, r_kl1n, r_kl1l, r_kl1d, List.length_cons, List.length_nil, List.getElem?_cons_zero, List.getElem?_cons_succ, List.set_cons_zero, List.set_cons_succ, true_and, and_true, not_true, not_false_eq_true, false_implies, true_implies, or_true, true_or, or_false, false_or, Bool.or_false, Bool.false_or, decide_false, decide_true, Nat.reduceLT, Nat.reduceLeDiff, Nat.reduceAdd, Nat.reduceSub, ↓reduceIte, Nat.reduceEqDiff, Nat.lt_add_one]
      exact bad 1 I (by decide) (if_neg (fun v => q2 v.2)) fr_refl e1
  · rw [decide_eq_false q]
    simp only [cd_X12_garbage, h0, r1, r13, r_rn0, r_rnc, r_vk0, r_vkc, r_vks, r_kci, r_kcv, r_ild, r_ald, r_lld, r_dld, r_Li, r_La, r_Ll, r_Ld, r_Ki, r_Ka, r_Kl, r_Kd, r_Kn, r_ist, r_ast, r_lst, r_dst, r_iinc, r_int, r_lng, r_dbl, r_i2, r_i1, r_l2, r_lsh, r_i2z, r_l2z, r_i2l, r_l2i, r_i2d, r_lcmp, r_ddiv, r_dcmpl, r_dup, r_dup2, r_pop, r_one_int, r_one_ref, r_go, r_if, r_ic, r_tsw, r_lsw, r_sw0, r_swc, r_lk0, r_lkc, r_kp, r_gI, r_gL, r_gR, r_pI, r_pZ, r_pL, r_pR, r_gs, r_ia, r_ca, r_za, r_la, r_da, r_aa, r_ias, r_cas, r_zas, r_las, r_das, r_aas, r_acp, r_new, r_nwa, r_nwq, r_ret, r_irt, r_zrt, r_lrt, r_drt, r_art, r_thr, r_cV0, r_cV1, r_cV2, r_cV3, r_cV4, r_cV5, r_cI0, r_cS0, r_cS1, r_cS2, r_cS3, r_cX0, r_cX1, r_cX2, r_cX3, r_rc, r_oi, r_refx, r_i10, r_i01, r_rfs, r_mem0, r_memc, r_beq, r_kl0, r_klz, r_kl1i, r_kl1r, r_kl1n, r_kl1l, r_kl1d, List.length_cons, List.length_nil, List.getElem?_cons_zero, List.getElem?_cons_succ, List.set_cons_zero, List.set_cons_succ, true_and, and_true, not_true, not_false_eq_true, false_implies, true_implies, or_true, true_or, or_false, false_or, Bool.or_false, Bool.false_or, decide_false, decide_true, Nat.reduceLT, Nat.reduceLeDiff, Nat.reduceAdd, Nat.reduceSub, ↓reduceIte, Nat.reduceEqDiff, Nat.lt_add_one]
    refine ⟨fun _ => ?_, fun v => absurd rfl v⟩
    refine c_failsM h0 ?_
    simp only [cd_X12_garbage, h0, r1, r13, r_rn0, r_rnc, r_vk0, r_vkc, r_vks, r_kci, r_kcv, r_ild, r_ald, r_lld, r_dld, r_Li, r_La, r_Ll, r_Ld, r_Ki, r_Ka, r_Kl, r_Kd, r_Kn, r_ist, r_ast, r_lst, r_dst, r_iinc, r_int, r_lng, r_dbl, r_i2, r_i1, r_l2, r_lsh, r_i2z, r_l2z, r_i2l, r_l2i, r_i2d, r_lcmp, r_ddiv, r_dcmpl, r_dup, r_dup2, r_pop, r_one_int, r_one_ref, r_go, r_if, r_ic, r_tsw, r_lsw, r_sw0, r_swc, r_lk0, r_lkc, r_kp, r_gI, r_gL, r_gR, r_pI, r_pZ, r_pL, r_pR, r_gs, r_ia, r_ca, r_za, r_la, r_da, r_aa, r_ias, r_cas, r_zas, r_las, r_das, r_aas, r_acp, r_new, r_nwa, r_nwq, r_ret, r_irt, r_zrt, r_lrt, r_drt, r_art, r_thr, r_cV0, r_cV1, r_cV2, r_cV3, r_cV4, r_cV5, r_cI0, r_cS0, r_cS1, r_cS2, r_cS3, r_cX0, r_cX1, r_cX2, r_cX3, r_rc, r_oi, r_refx, r_i10, r_i01, r_rfs, r_mem0, r_memc, r_beq, r_kl0, r_klz, r_kl1i, r_kl1r, r_kl1n, r_kl1l, r_kl1d, List.length_cons, List.length_nil, List.getElem?_cons_zero, List.getElem?_cons_succ, List.set_cons_zero, List.set_cons_succ, true_and, and_true, not_true, not_false_eq_true, false_implies, true_implies, or_true, true_or, or_false, false_or, Bool.or_false, Bool.false_or, decide_false, decide_true, Nat.reduceLT, Nat.reduceLeDiff, Nat.reduceAdd, Nat.reduceSub, ↓reduceIte, Nat.reduceEqDiff, Nat.lt_add_one]
    exact bad 1 I (by decide) (if_neg (fun v => q v.1)) fr_refl e1
end REFE
