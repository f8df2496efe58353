/-! turning; filling, clearing and raising a field -/
section POS4
variable {G : mz_G} {K : mz_K} {T : mz_T} {I : mz_I} {L : mz_L}
def s_km (kd : Nat) : Nat := if kd = 0 then 5 else if kd = 1 then 1 else 9
def s_kt (kd i : Nat) : Int := ((if kd = 0 then mz_LONGS else mz_KICKS).getD i 0).toInt
theorem s_kt_le : ∀ i, i < 18 → (-2 ≤ s_kt 0 i ∧ s_kt 0 i ≤ 2) ∧ (-2 ≤ s_kt 1 i ∧ s_kt 1 i ≤ 2) := by decide
theorem s_kt_lt {kd i : Nat} (hi : i < 18) : -2 ≤ s_kt kd i ∧ s_kt kd i ≤ 2 := by
  by_cases e : kd = 0
  · subst e; exact (s_kt_le i hi).1
  · have : s_kt kd i = s_kt 1 i := by unfold s_kt; rw [if_neg e, if_neg (by decide)]
    rw [this]; exact (s_kt_le i hi).2
/-- the state behind a turn -/
def s_rot (s : Nat) (d : Int) : Nat := ((s + d + 4) % 4).toNat
theorem s_rot_lt {s : Nat} {d : Int} : s_rot s d < 4 := by unfold s_rot; omega
theorem z_rot : ∀ s : Nat, s < 4 → (zI s + zI 1) &&& 3 = zI (s_rot s 1) ∧ (zI s + zI (-1)) &&& 3 = zI (s_rot s (-1)) ∧ (zI (s_rot s 1) - zI 1) &&& 3 = zI s ∧ (zI (s_rot s (-1)) - zI (-1)) &&& 3 = zI s := by decide
theorem z_rot1 {s : Nat} {d : Int} (hs : s < 4) (hd : d = -1 ∨ d = 1) : (zI s + zI d) &&& 3 = zI (s_rot s d) := by
  rcases hd with e | e <;> subst e
  · exact (z_rot s hs).2.1
  · exact (z_rot s hs).1
theorem z_rot2 {s : Nat} {d : Int} (hs : s < 4) (hd : d = -1 ∨ d = 1) : (zI (s_rot s d) - zI d) &&& 3 = zI s := by
  rcases hd with e | e <;> subst e
  · exact (z_rot s hs).2.2.2
  · exact (z_rot s hs).2.2.1
/-- the piece fits with the i-th kick -/
def s_kf (e : Nat → Bool) (kd s : Nat) (c r d : Int) (i : Nat) : Bool := s_fit e kd (s_rot s d) (c + d * s_kt kd (2 * i)) (r + s_kt kd (2 * i + 1))
theorem z_kick {kd : Nat} : ∀ i, mz_rf G (if kd = 0 then 2 else 1) i = zI (s_kt kd i) := by
  intro i
  by_cases e : kd = 0
  · rw [if_pos e]; unfold s_kt; rw [if_pos e]; exact (Int32.ofInt_toInt _).symm
  · rw [if_neg e]; unfold s_kt; rw [if_neg e]; exact (Int32.ofInt_toInt _).symm
theorem z_kin {kd i : Nat} (hi : i < 2 * s_km kd) : vp_in (zI (i : Int)) (mz_rn G (if kd = 0 then 2 else 1)) := by
  by_cases e : kd = 0
  · rw [if_pos e]; subst e; exact show vp_in (zI (i : Int)) 10 from z_in (by omega) (by have : s_km 0 = 5 := rfl
                                                                                        omega) (by decide)
  · rw [if_neg e]
    have : s_km kd ≤ 9 := by unfold s_km; rw [if_neg e]; split <;> omega
    exact show vp_in (zI (i : Int)) 18 from z_in (by omega) (by omega) (by decide)
theorem s_km_le {kd : Nat} : s_km kd ≤ 9 := by unfold s_km; split <;> (try split) <;> omega
theorem c_turn {p kd s f k : Nat} {c r d : Int} (hp : p_Pos T I p kd s c r) (hf : p_Field T f k) (hd : d = -1 ∨ d = 1) (hc9 : -50 ≤ c ∧ c ≤ 50) (hr9 : -50 ≤ r ∧ r ≤ 50)
    (ht : ∀ i, i < s_km kd → s_kf (s_fl (I k)) kd s c r d i = true → (∀ j, j < i → s_kf (s_fl (I k)) kd s c r d j = false) → ∀ I', fr I I' [p] → p_Pos T I' p kd (s_rot s d) (c + d * s_kt kd (2 * i)) (r + s_kt kd (2 * i + 1)) → K (some (.int (zI i))) T I' L)
    (hn : (∀ j, j < s_km kd → s_kf (s_fl (I k)) kd s c r d j = false) → ∀ I', fr I I' [p] → p_Pos T I' p kd s c r → K (some (.int (-1))) T I' L) : mz_Ctr G M_X8_turnBy [.ref p, .int (zI d), .ref f] T I L K := by
  refine mz_apartC fun hU => ?_
  obtain ⟨h1, h2, h3, h4, h5, hk, hs, hc, hr⟩ := id hp
  obtain ⟨f1, f2, f3⟩ := id hf
  have hne : k ≠ p := mz_ne hU f2 h1 (by decide)
  have hkm := s_km_le (kd := kd)
  refine mz_ofl mk_X8_turnBy rfl (Nat.le_of_ble_eq_true rfl) (Nat.le_of_ble_eq_true rfl) [some (.ref p), some (.int (zI d)), some (.ref f), none, none, none, none, none] rfl ?_
  have key := mz_loop (N := s_km kd) (fun n => (∀ j, j < n → s_kf (s_fl (I k)) kd s c r d j = false) → ∀ I' c' r', fr I I' [p] → p_Pos T I' p kd (s_rot s d) c' r' → mz_W G M_X8_turnBy K mz_nX 62 [some (.ref p), some (.int (zI d)), some (.ref f), some (.ref (mz_gr G (if kd = 0 then 2 else 1))), some (.int (zI (s_km kd))), some (.int (zI c)), some (.int (zI r)), some (.int (zI n))] [] T I' L (0, 0)) ?_ ?_ 0 (Nat.zero_le _)
  · have go : mz_W G M_X8_turnBy K mz_nX 33 [some (.ref p), some (.int (zI d)), some (.ref f), some (.ref (mz_gr G (if kd = 0 then 2 else 1))), none, none, none, none] [.int (zI (s_km kd))] T I L (0, 0) := by
      refine mz_vc ok_X8_turnBy [62] [(), (), (), (), (), (), (), (), (), (), (), (), (), (), (), (), (), (), (), (), (), (), (), (), (), (), (), (), (), ()] ?_
      simp only [cd_X8_turnBy, h1, f1, h3, h4, h5, r_rn0, r_rnc, r_vk0, r_vkc, r_vks, r_kci, r_kcv, r_ild, r_ald, r_lld, r_dld, r_Li, r_La, r_Ll, r_Ld, r_Ki, r_Ka, r_Kl, r_Kd, r_Kn, r_ist, r_ast, r_lst, r_dst, r_iinc, r_int, r_lng, r_dbl, r_i2, r_i1, r_l2, r_lsh, r_i2z, r_l2z, r_i2l, r_l2i, r_i2d, r_lcmp, r_ddiv, r_dcmpl, r_dup, r_dup2, r_pop, r_one_int, r_one_ref, r_go, r_if, r_ic, r_tsw, r_lsw, r_sw0, r_swc, r_lk0, r_lkc, r_kp, r_gI, r_gL, r_gR, r_pI, r_pZ, r_pL, r_pR, r_gs, r_ia, r_ca, r_za, r_la, r_da, r_aa, r_ias, r_cas, r_zas, r_las, r_das, r_aas, r_acp, r_new, r_nwa, r_nwq, r_ret, r_irt, r_zrt, r_lrt, r_drt, r_art, r_thr, r_cV0, r_cV1, r_cV2, r_cV3, r_cV4, r_cV5, r_cI0, r_cS0, r_cS1, r_cS2, r_cS3, r_cX0, r_cX1, r_cX2, r_cX3, r_rc, r_oi, r_refx, r_i10, r_i01, r_rfs, r_mem0, r_memc, r_beq, r_kl0, r_klz, r_kl1i, r_kl1r, r_kl1n, r_kl1l, r_kl1d, List.length_cons, List.length_nil, List.getElem?_cons_zero, List.getElem?_cons_succ, List.set_cons_zero, List.set_cons_succ, true_and, and_true, not_true, not_false_eq_true, false_implies, true_implies, or_true, true_or, or_false, false_or, Bool.or_false, Bool.false_or, decide_false, decide_true, Nat.reduceLT, Nat.reduceLeDiff, Nat.reduceAdd, Nat.reduceSub, ↓reduceIte, Nat.reduceEqDiff, Nat.lt_add_one]
      rw [z_rot1 hs hd]
      exact key (fun i hi => absurd hi (Nat.not_lt_zero i)) _ c r fr_u (p_Pos_s hp s_rot_lt)
    have mid : mz_W G M_X8_turnBy K mz_nX 16 [some (.ref p), some (.int (zI d)), some (.ref f), none, none, none, none, none] [.ref (mz_gr G (if kd = 0 then 2 else 1))] T I L (0, 0) := by
      refine mz_vc ok_X8_turnBy [33] [(), (), (), (), (), (), (), (), (), (), (), (), (), (), (), (), (), (), (), (), (), (), (), (), (), (), (), (), (), ()] ?_
      simp only [cd_X8_turnBy, h1, f1, h2, r_rn0, r_rnc, r_vk0, r_vkc, r_vks, r_kci, r_kcv, r_ild, r_ald, r_lld, r_dld, r_Li, r_La, r_Ll, r_Ld, r_Ki, r_Ka, r_Kl, r_Kd, r_Kn, r_ist, r_ast, r_lst, r_dst, r_iinc, r_int, r_lng, r_dbl, r_i2, r_i1, r_l2, r_lsh, r_i2z, r_l2z, r_i2l, r_l2i, r_i2d, r_lcmp, r_ddiv, r_dcmpl, r_dup, r_dup2, r_pop, r_one_int, r_one_ref, r_go, r_if, r_ic, r_tsw, r_lsw, r_sw0, r_swc, r_lk0, r_lkc, r_kp, r_gI, r_gL, r_gR, r_pI, r_pZ, r_pL, r_pR, r_gs, r_ia, r_ca, r_za, r_la, r_da, r_aa, r_ias, r_cas, r_zas, r_las, r_das, r_aas, r_acp, r_new, r_nwa, r_nwq, r_ret, r_irt, r_zrt, r_lrt, r_drt, r_art, r_thr, r_cV0, r_cV1, r_cV2, r_cV3, r_cV4, r_cV5, r_cI0, r_cS0, r_cS1, r_cS2, r_cS3, r_cX0, r_cX1, r_cX2, r_cX3, r_rc, r_oi, r_refx, r_i10, r_i01, r_rfs, r_mem0, r_memc, r_beq, r_kl0, r_klz, r_kl1i, r_kl1r, r_kl1n, r_kl1l, r_kl1d, List.length_cons, List.length_nil, List.getElem?_cons_zero, List.getElem?_cons_succ, List.set_cons_zero, List.set_cons_succ, true_and, and_true, not_true, not_false_eq_true, false_implies, true_implies, or_true, true_or, or_false, false_or, Bool.or_false, Bool.false_or, decide_false, decide_true, Nat.reduceLT, Nat.reduceLeDiff, Nat.reduceAdd, Nat.reduceSub, ↓reduceIte, Nat.reduceEqDiff, Nat.lt_add_one]
      rw [l_1, z_eq (by omega) (by omega)]
      refine ⟨fun q => ?_, fun q => ?_⟩
      · refine r_leq (by split <;> decide) ?_
        simp only [cd_X8_turnBy, h1, f1, r_rn0, r_rnc, r_vk0, r_vkc, r_vks, r_kci, r_kcv, r_ild, r_ald, r_lld, r_dld, r_Li, r_La, r_Ll, r_Ld, r_Ki, r_Ka, r_Kl, r_Kd, r_Kn, r_ist, r_ast, r_lst, r_dst, r_iinc, r_int, r_lng, r_dbl, r_i2, r_i1, r_l2, r_lsh, r_i2z, r_l2z, r_i2l, r_l2i, r_i2d, r_lcmp, r_ddiv, r_dcmpl, r_dup, r_dup2, r_pop, r_one_int, r_one_ref, r_go, r_if, r_ic, r_tsw, r_lsw, r_sw0, r_swc, r_lk0, r_lkc, r_kp, r_gI, r_gL, r_gR, r_pI, r_pZ, r_pL, r_pR, r_gs, r_ia, r_ca, r_za, r_la, r_da, r_aa, r_ias, r_cas, r_zas, r_las, r_das, r_aas, r_acp, r_new, r_nwa, r_nwq, r_ret, r_irt, r_zrt, r_lrt, r_drt, r_art, r_thr, r_cV0, r_cV1, r_cV2, r_cV3, r_cV4, r_cV5, r_cI0, r_cS0, r_cS1, r_cS2, r_cS3, r_cX0, r_cX1, r_cX2, r_cX3, r_rc, r_oi, r_refx, r_i10, r_i01, r_rfs, r_mem0, r_memc, r_beq, r_kl0, r_klz, r_kl1i, r_kl1r, r_kl1n, r_kl1l, r_kl1d, List.length_cons, List.length_nil, List.getElem?_cons_zero, List.getElem?_cons_succ, List.set_cons_zero, List.set_cons_succ, true_and, and_true, not_true, not_false_eq_true, false_implies, true_implies, or_true, true_or, or_false, false_or, Bool.or_false, Bool.false_or, decide_false, decide_true, Nat.reduceLT, Nat.reduceLeDiff, Nat.reduceAdd, Nat.reduceSub, ↓reduceIte, Nat.reduceEqDiff, Nat.lt_add_one]
        by_cases e : kd = 0
        · subst e
          have e9 : Int32.ofNat (mz_rn G (if 0 = 0 then 2 else 1)) / 2 = zI (s_km 0) := show (Int32.ofNat 10 / 2 : Int32) = zI 5 by decide
          rw [e9]; exact ⟨by decide, go⟩
        · rw [if_neg e]
          have e2 : s_km kd = 9 := by unfold s_km; rw [if_neg e, if_neg (by omega)]
          rw [if_neg e, e2] at go
          have e9 : Int32.ofNat (mz_rn G 1) / 2 = zI (9 : Nat) := show (Int32.ofNat 18 / 2 : Int32) = zI 9 by decide
          rw [e9]; exact ⟨by decide, go⟩
      · have e2 : s_km kd = 1 := by unfold s_km; rw [if_neg (by omega), if_pos (by omega)]
        rw [e2] at go; exact go
    refine mz_vc ok_X8_turnBy [16] [(), (), (), (), (), (), (), (), (), (), (), (), (), (), (), (), (), (), (), (), (), (), (), (), (), (), (), (), (), ()] ?_
    simp only [cd_X8_turnBy, h1, f1, h2, r_rn0, r_rnc, r_vk0, r_vkc, r_vks, r_kci, r_kcv, r_ild, r_ald, r_lld, r_dld, r_Li, r_La, r_Ll, r_Ld, r_Ki, r_Ka, r_Kl, r_Kd, r_Kn, r_ist, r_ast, r_lst, r_dst, r_iinc, r_int, r_lng, r_dbl, r_i2, r_i1, r_l2, r_lsh, r_i2z, r_l2z, r_i2l, r_l2i, r_i2d, r_lcmp, r_ddiv, r_dcmpl, r_dup, r_dup2, r_pop, r_one_int, r_one_ref, r_go, r_if, r_ic, r_tsw, r_lsw, r_sw0, r_swc, r_lk0, r_lkc, r_kp, r_gI, r_gL, r_gR, r_pI, r_pZ, r_pL, r_pR, r_gs, r_ia, r_ca, r_za, r_la, r_da, r_aa, r_ias, r_cas, r_zas, r_las, r_das, r_aas, r_acp, r_new, r_nwa, r_nwq, r_ret, r_irt, r_zrt, r_lrt, r_drt, r_art, r_thr, r_cV0, r_cV1, r_cV2, r_cV3, r_cV4, r_cV5, r_cI0, r_cS0, r_cS1, r_cS2, r_cS3, r_cX0, r_cX1, r_cX2, r_cX3, r_rc, r_oi, r_refx, r_i10, r_i01, r_rfs, r_mem0, r_memc, r_beq, r_kl0, r_klz, r_kl1i, r_kl1r, r_kl1n, r_kl1l, r_kl1d, List.length_cons, List.length_nil, List.getElem?_cons_zero, List.getElem?_cons_succ, List.set_cons_zero, List.set_cons_succ, true_and, and_true, not_true, not_false_eq_true, false_implies, true_implies, or_true, true_or, or_false, false_or, Bool.or_false, Bool.false_or, decide_false, decide_true, Nat.reduceLT, Nat.reduceLeDiff, Nat.reduceAdd, Nat.reduceSub, ↓reduceIte, Nat.reduceEqDiff, Nat.lt_add_one]
    rw [l_0, z_eq (by omega) (by omega)]
    refine ⟨fun q => ?_, fun q => ?_⟩
    · rw [if_neg (by omega)] at mid; exact mid
    · rw [if_pos (by omega)] at mid; exact mid
  · intro hall I' c' r' hf' hp'
    obtain ⟨g1, g2, g3, g4, g5, gk, gs, gc, gr⟩ := id hp'
    refine mz_vc ok_X8_turnBy [62] [(), (), (), (), (), (), (), (), (), (), (), (), (), (), (), (), (), (), (), (), (), (), (), (), (), (), (), (), (), ()] ?_
    simp only [cd_X8_turnBy, h1, f1, r_rn0, r_rnc, r_vk0, r_vkc, r_vks, r_kci, r_kcv, r_ild, r_ald, r_lld, r_dld, r_Li, r_La, r_Ll, r_Ld, r_Ki, r_Ka, r_Kl, r_Kd, r_Kn, r_ist, r_ast, r_lst, r_dst, r_iinc, r_int, r_lng, r_dbl, r_i2, r_i1, r_l2, r_lsh, r_i2z, r_l2z, r_i2l, r_l2i, r_i2d, r_lcmp, r_ddiv, r_dcmpl, r_dup, r_dup2, r_pop, r_one_int, r_one_ref, r_go, r_if, r_ic, r_tsw, r_lsw, r_sw0, r_swc, r_lk0, r_lkc, r_kp, r_gI, r_gL, r_gR, r_pI, r_pZ, r_pL, r_pR, r_gs, r_ia, r_ca, r_za, r_la, r_da, r_aa, r_ias, r_cas, r_zas, r_las, r_das, r_aas, r_acp, r_new, r_nwa, r_nwq, r_ret, r_irt, r_zrt, r_lrt, r_drt, r_art, r_thr, r_cV0, r_cV1, r_cV2, r_cV3, r_cV4, r_cV5, r_cI0, r_cS0, r_cS1, r_cS2, r_cS3, r_cX0, r_cX1, r_cX2, r_cX3, r_rc, r_oi, r_refx, r_i10, r_i01, r_rfs, r_mem0, r_memc, r_beq, r_kl0, r_klz, r_kl1i, r_kl1r, r_kl1n, r_kl1l, r_kl1d, List.length_cons, List.length_nil, List.getElem?_cons_zero, List.getElem?_cons_succ, List.set_cons_zero, List.set_cons_succ, true_and, and_true, not_true, not_false_eq_true, false_implies, true_implies, or_true, true_or, or_false, false_or, Bool.or_false, Bool.false_or, decide_false, decide_true, Nat.reduceLT, Nat.reduceLeDiff, Nat.reduceAdd, Nat.reduceSub, ↓reduceIte, Nat.reduceEqDiff, Nat.lt_add_one]
    refine ⟨fun _ => ?_, fun q => absurd ?_ q⟩
    · rw [g3, z_rot2 hs hd]
      exact hn hall _ (fr_u2 (fr_u2 (fr_u2 hf' (List.mem_singleton_self _)) (List.mem_singleton_self _)) (List.mem_singleton_self _)) (p_Pos_r (p_Pos_c (p_Pos_s hp' hs) hc) hr)
    · exact Int32.le_refl _
  · intro n hn' ih hpre I' c' r' hf' hp'
    refine mz_vc ok_X8_turnBy [62] [(), (), (), (), (), (), (), (), (), (), (), (), (), (), (), (), (), (), (), (), (), (), (), (), (), (), (), (), (), ()] ?_
    simp only [cd_X8_turnBy, h1, f1, r_rn0, r_rnc, r_vk0, r_vkc, r_vks, r_kci, r_kcv, r_ild, r_ald, r_lld, r_dld, r_Li, r_La, r_Ll, r_Ld, r_Ki, r_Ka, r_Kl, r_Kd, r_Kn, r_ist, r_ast, r_lst, r_dst, r_iinc, r_int, r_lng, r_dbl, r_i2, r_i1, r_l2, r_lsh, r_i2z, r_l2z, r_i2l, r_l2i, r_i2d, r_lcmp, r_ddiv, r_dcmpl, r_dup, r_dup2, r_pop, r_one_int, r_one_ref, r_go, r_if, r_ic, r_tsw, r_lsw, r_sw0, r_swc, r_lk0, r_lkc, r_kp, r_gI, r_gL, r_gR, r_pI, r_pZ, r_pL, r_pR, r_gs, r_ia, r_ca, r_za, r_la, r_da, r_aa, r_ias, r_cas, r_zas, r_las, r_das, r_aas, r_acp, r_new, r_nwa, r_nwq, r_ret, r_irt, r_zrt, r_lrt, r_drt, r_art, r_thr, r_cV0, r_cV1, r_cV2, r_cV3, r_cV4, r_cV5, r_cI0, r_cS0, r_cS1, r_cS2, r_cS3, r_cX0, r_cX1, r_cX2, r_cX3, r_rc, r_oi, r_refx, r_i10, r_i01, r_rfs, r_mem0, r_memc, r_beq, r_kl0, r_klz, r_kl1i, r_kl1r, r_kl1n, r_kl1l, r_kl1d, List.length_cons, List.length_nil, List.getElem?_cons_zero, List.getElem?_cons_succ, List.set_cons_zero, List.set_cons_succ, true_and, and_true, not_true, not_false_eq_true, false_implies, true_implies, or_true, true_or, or_false, false_or, Bool.or_false, Bool.false_or, decide_false, decide_true, Nat.reduceLT, Nat.reduceLeDiff, Nat.reduceAdd, Nat.reduceSub, ↓reduceIte, Nat.reduceEqDiff, Nat.lt_add_one]
    refine ⟨z_no (by omega) (by omega) hn', fun _ => ?_⟩
    have e2 : (2 : Int32) * zI n = zI ((2 * n : Nat) : Int) := by rw [l_2, z_mul]; rfl
    have e3 : (2 : Int32) * zI n + 1 = zI ((2 * n + 1 : Nat) : Int) := by rw [e2, z_1]
    rw [e2]
    refine r_iaq (by split <;> decide) ⟨z_kin (by omega), ?_⟩
    simp only [cd_X8_turnBy, h1, f1, r_rn0, r_rnc, r_vk0, r_vkc, r_vks, r_kci, r_kcv, r_ild, r_ald, r_lld, r_dld, r_Li, r_La, r_Ll, r_Ld, r_Ki, r_Ka, r_Kl, r_Kd, r_Kn, r_ist, r_ast, r_lst, r_dst, r_iinc, r_int, r_lng, r_dbl, r_i2, r_i1, r_l2, r_lsh, r_i2z, r_l2z, r_i2l, r_l2i, r_i2d, r_lcmp, r_ddiv, r_dcmpl, r_dup, r_dup2, r_pop, r_one_int, r_one_ref, r_go, r_if, r_ic, r_tsw, r_lsw, r_sw0, r_swc, r_lk0, r_lkc, r_kp, r_gI, r_gL, r_gR, r_pI, r_pZ, r_pL, r_pR, r_gs, r_ia, r_ca, r_za, r_la, r_da, r_aa, r_ias, r_cas, r_zas, r_las, r_das, r_aas, r_acp, r_new, r_nwa, r_nwq, r_ret, r_irt, r_zrt, r_lrt, r_drt, r_art, r_thr, r_cV0, r_cV1, r_cV2, r_cV3, r_cV4, r_cV5, r_cI0, r_cS0, r_cS1, r_cS2, r_cS3, r_cX0, r_cX1, r_cX2, r_cX3, r_rc, r_oi, r_refx, r_i10, r_i01, r_rfs, r_mem0, r_memc, r_beq, r_kl0, r_klz, r_kl1i, r_kl1r, r_kl1n, r_kl1l, r_kl1d, List.length_cons, List.length_nil, List.getElem?_cons_zero, List.getElem?_cons_succ, List.set_cons_zero, List.set_cons_succ, true_and, and_true, not_true, not_false_eq_true, false_implies, true_implies, or_true, true_or, or_false, false_or, Bool.or_false, Bool.false_or, decide_false, decide_true, Nat.reduceLT, Nat.reduceLeDiff, Nat.reduceAdd, Nat.reduceSub, ↓reduceIte, Nat.reduceEqDiff, Nat.lt_add_one]
    rw [e2, z_1]
    refine r_iaq (by split <;> decide) ⟨z_kin (by omega), ?_⟩
    simp only [cd_X8_turnBy, h1, f1, r_rn0, r_rnc, r_vk0, r_vkc, r_vks, r_kci, r_kcv, r_ild, r_ald, r_lld, r_dld, r_Li, r_La, r_Ll, r_Ld, r_Ki, r_Ka, r_Kl, r_Kd, r_Kn, r_ist, r_ast, r_lst, r_dst, r_iinc, r_int, r_lng, r_dbl, r_i2, r_i1, r_l2, r_lsh, r_i2z, r_l2z, r_i2l, r_l2i, r_i2d, r_lcmp, r_ddiv, r_dcmpl, r_dup, r_dup2, r_pop, r_one_int, r_one_ref, r_go, r_if, r_ic, r_tsw, r_lsw, r_sw0, r_swc, r_lk0, r_lkc, r_kp, r_gI, r_gL, r_gR, r_pI, r_pZ, r_pL, r_pR, r_gs, r_ia, r_ca, r_za, r_la, r_da, r_aa, r_ias, r_cas, r_zas, r_las, r_das, r_aas, r_acp, r_new, r_nwa, r_nwq, r_ret, r_irt, r_zrt, r_lrt, r_drt, r_art, r_thr, r_cV0, r_cV1, r_cV2, r_cV3, r_cV4, r_cV5, r_cI0, r_cS0, r_cS1, r_cS2, r_cS3, r_cX0, r_cX1, r_cX2, r_cX3, r_rc, r_oi, r_refx, r_i10, r_i01, r_rfs, r_mem0, r_memc, r_beq, r_kl0, r_klz, r_kl1i, r_kl1r, r_kl1n, r_kl1l, r_kl1d, List.length_cons, List.length_nil, List.getElem?_cons_zero, List.getElem?_cons_succ, List.set_cons_zero, List.set_cons_succ, true_and, and_true, not_true, not_false_eq_true, false_implies, true_implies, or_true, true_or, or_false, false_or, Bool.or_false, Bool.false_or, decide_false, decide_true, Nat.reduceLT, Nat.reduceLeDiff, Nat.reduceAdd, Nat.reduceSub, ↓reduceIte, Nat.reduceEqDiff, Nat.lt_add_one]
    rw [z_nat (by omega), z_nat (by omega), show ((2 * n : Nat) : Int).toNat = 2 * n from rfl, show ((2 * n + 1 : Nat) : Int).toNat = 2 * n + 1 from rfl, z_kick, z_kick, z_mul, z_add, z_add]
    have k1 := s_kt_lt (kd := kd) (i := 2 * n) (by omega)
    have k2 := s_kt_lt (kd := kd) (i := 2 * n + 1) (by omega)
    have b1 : -100 ≤ c + d * s_kt kd (2 * n) ∧ c + d * s_kt kd (2 * n) ≤ 100 := by rcases hd with e | e <;> subst e <;> omega
    have hp2 := p_Pos_r (r' := r + s_kt kd (2 * n + 1)) (p_Pos_c hp' b1) (by omega)
    have hf2 := fr_u2 (v := zI (r + s_kt kd (2 * n + 1))) (k := 3) (fr_u2 (v := zI (c + d * s_kt kd (2 * n))) (k := 2) hf' (List.mem_singleton_self _)) (List.mem_singleton_self _)
    refine c_fits hp2 hf ?_
    rw [fr_ne1 hf2 hne]
    simp only [cd_X8_turnBy, h1, f1, b2i_0, r_rn0, r_rnc, r_vk0, r_vkc, r_vks, r_kci, r_kcv, r_ild, r_ald, r_lld, r_dld, r_Li, r_La, r_Ll, r_Ld, r_Ki, r_Ka, r_Kl, r_Kd, r_Kn, r_ist, r_ast, r_lst, r_dst, r_iinc, r_int, r_lng, r_dbl, r_i2, r_i1, r_l2, r_lsh, r_i2z, r_l2z, r_i2l, r_l2i, r_i2d, r_lcmp, r_ddiv, r_dcmpl, r_dup, r_dup2, r_pop, r_one_int, r_one_ref, r_go, r_if, r_ic, r_tsw, r_lsw, r_sw0, r_swc, r_lk0, r_lkc, r_kp, r_gI, r_gL, r_gR, r_pI, r_pZ, r_pL, r_pR, r_gs, r_ia, r_ca, r_za, r_la, r_da, r_aa, r_ias, r_cas, r_zas, r_las, r_das, r_aas, r_acp, r_new, r_nwa, r_nwq, r_ret, r_irt, r_zrt, r_lrt, r_drt, r_art, r_thr, r_cV0, r_cV1, r_cV2, r_cV3, r_cV4, r_cV5, r_cI0, r_cS0, r_cS1, r_cS2, r_cS3, r_cX0, r_cX1, r_cX2, r_cX3, r_rc, r_oi, r_refx, r_i10, r_i01, r_rfs, r_mem0, r_memc, r_beq, r_kl0, r_klz, r_kl1i, r_kl1r, r_kl1n, r_kl1l, r_kl1d, List.length_cons, List.length_nil, List.getElem?_cons_zero, List.getElem?_cons_succ, List.set_cons_zero, List.set_cons_succ, true_and, and_true, not_true, not_false_eq_true, false_implies, true_implies, or_true, true_or, or_false, false_or, Bool.or_false, Bool.false_or, decide_false, decide_true, Nat.reduceLT, Nat.reduceLeDiff, Nat.reduceAdd, Nat.reduceSub, ↓reduceIte, Nat.reduceEqDiff, Nat.lt_add_one]
    rw [z_1]
    refine ⟨fun q => ih (fun j hj => ?_) _ _ _ hf2 hp2, fun q => ?_⟩
    · by_cases e : j = n
      · rw [e]; exact q
      · exact hpre j (by omega)
    · exact ht n hn' (by unfold s_kf; simpa using q) hpre _ hf2 hp2
theorem c_initP {p : Nat} (h : K none T I L) : mz_Ctr G M_X8_init [.ref p] T I L K := by
  refine mz_ofl mk_X8_init rfl (Nat.le_of_ble_eq_true rfl) (Nat.le_of_ble_eq_true rfl) [some (.ref p)] rfl ?_
  refine mz_vc ok_X8_init [] [(), (), (), (), (), (), (), (), (), (), (), (), (), (), (), (), (), (), (), (), (), (), (), (), (), (), (), (), (), ()] ?_
  simp only [cd_X8_init, r_rn0, r_rnc, r_vk0, r_vkc, r_vks, r_kci, r_kcv, r_ild, r_ald, r_lld, r_dld, r_Li, r_La, r_Ll, r_Ld, r_Ki, r_Ka, r_Kl, r_Kd, r_Kn, r_ist, r_ast, r_lst, r_dst, r_iinc, r_int, r_lng, r_dbl, r_i2, r_i1, r_l2, r_lsh, r_i2z, r_l2z, r_i2l, r_l2i, r_i2d, r_lcmp, r_ddiv, r_dcmpl, r_dup, r_dup2, r_pop, r_one_int, r_one_ref, r_go, r_if, r_ic, r_tsw, r_lsw, r_sw0, r_swc, r_lk0, r_lkc, r_kp, r_gI, r_gL, r_gR, r_pI, r_pZ, r_pL, r_pR, r_gs, r_ia, r_ca, r_za, r_la, r_da, r_aa, r_ias, r_cas, r_zas, r_las, r_das, r_aas, r_acp, r_new, r_nwa, r_nwq, r_ret, r_irt, r_zrt, r_lrt, r_drt, r_art, r_thr, r_cV0, r_cV1, r_cV2, r_cV3, r_cV4, r_cV5, r_cI0, r_cS0, r_cS1, r_cS2, r_cS3, r_cX0, r_cX1, r_cX2, r_cX3, r_rc, r_oi, r_refx, r_i10, r_i01, r_rfs, r_mem0, r_memc, r_beq, r_kl0, r_klz, r_kl1i, r_kl1r, r_kl1n, r_kl1l, r_kl1d, List.length_cons, List.length_nil, List.getElem?_cons_zero, List.getElem?_cons_succ, List.set_cons_zero, List.set_cons_succ, true_and, and_true, not_true, not_false_eq_true, false_implies, true_implies, or_true, true_or, or_false, false_or, Bool.or_false, Bool.false_or, decide_false, decide_true, Nat.reduceLT, Nat.reduceLeDiff, Nat.reduceAdd, Nat.reduceSub, ↓reduceIte, Nat.reduceEqDiff, Nat.lt_add_one]
  exact h
end POS4
