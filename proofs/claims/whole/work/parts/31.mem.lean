/-! the memory: records in a ring, a snapshot -/
section MEM
variable {G : mz_G} {K : mz_K} {T : mz_T} {I : mz_I} {L : mz_L}
def z_dj (A A' : z_A) : Prop := ∀ a, a ∈ A.all → a ∉ A'.all
theorem z_bm {A : z_A} : A.b ∈ A.all := by simp [z_A.all]
theorem z_gm {A : z_A} : A.g ∈ A.all := by simp [z_A.all]
def z_sh : List (Nat × Nat) := [(0, 4), (0, 2), (1, 220), (0, 7), (0, 8), (0, 0), (1, 5), (0, 9), (1, 15), (1, 7)]
theorem z_mem {A : z_A} (hA : p_GA T A) : ∀ a, a ∈ A.all → ∃ x, x ∈ z_sh ∧ (a, x) ∈ T.1 := by
  obtain ⟨⟨g1, g2, g3, g4, g5⟩, ⟨f1, f2, f3⟩, ⟨x1, x2, x3⟩, ⟨b1, b2, b3⟩, ⟨s1, s2, s3, s4, s5⟩⟩ := hA
  intro a h
  simp only [z_A.all, List.mem_cons, List.not_mem_nil, or_false] at h
  rcases h with e | e | e | e | e | e | e | e | e | e <;> subst e
  · exact ⟨_, by decide, g1⟩
  · exact ⟨_, by decide, f1⟩
  · exact ⟨_, by decide, f2⟩
  · exact ⟨_, by decide, x1⟩
  · exact ⟨_, by decide, x3⟩
  · exact ⟨_, by decide, b1⟩
  · exact ⟨_, by decide, b2⟩
  · exact ⟨_, by decide, s1⟩
  · exact ⟨_, by decide, s2⟩
  · exact ⟨_, by decide, s3⟩
theorem z_out (hU : ∀ a x y, (a, x) ∈ T.1 → (a, y) ∈ T.1 → x = y) {A : z_A} (hA : p_GA T A) {a : Nat} {x : Nat × Nat} (h : (a, x) ∈ T.1) (hx : x ∉ z_sh) : a ∉ A.all := by
  intro q
  obtain ⟨y, h1, h2⟩ := z_mem hA a q
  rw [hU a x y h h2] at hx
  exact hx h1
/-- the memory's records: `nw` the newest one's place, `many` how many, `rr` the reference's rows, oldest first -/
def p_M (T : mz_T) (I : mz_I) (L : mz_L) (me ra : Nat) (A : Nat → z_A) (nw many B : Nat) (rr : Nat → Nat → Int32) : Prop :=
  ((me, 0, 6) ∈ T.1 ∧ (ra, 6, 6) ∈ T.1 ∧ T.2 me 0 = some ra ∧ (∀ j, j < 6 → T.2 ra j = some (A j).g ∧ p_GA T (A j)) ∧ (∀ i j, i < 6 → j < 6 → i ≠ j → z_dj (A i) (A j))) ∧
  (I me 1 = zI nw ∧ nw < 6 ∧ I me 2 = zI many ∧ many ≤ 6) ∧ (∀ i, i < many → p_R T I L (A ((nw + 6 - (many - 1 - i)) % 6)) B (rr i))
def s_nw (nw : Nat) : Nat := (nw + 1) % 6
def s_mn (many : Nat) : Nat := if many < 6 then many + 1 else 6
theorem c_nextRec {me ra nw many B : Nat} {A : Nat → z_A} {rr : Nat → Nat → Int32} (hM : p_M T I L me ra A nw many B rr)
    (h : K (some (.ref (A (s_nw nw)).g)) T (mz_u (mz_u I me 1 (zI (s_nw nw))) me 2 (zI (s_mn many))) L) : mz_Ctr G M_X6_nextRecord [.ref me] T I L K := by
  obtain ⟨⟨h1, h2, h3, h4, h5⟩, ⟨h6, h7, h8, h9⟩, h10⟩ := id hM
  refine mz_ofl mk_X6_nextRecord rfl (Nat.le_of_ble_eq_true rfl) (Nat.le_of_ble_eq_true rfl) [some (.ref me)] rfl ?_
  refine mz_vc ok_X6_nextRecord [] [(), (), (), (), (), (), (), (), (), (), (), (), (), (), (), (), (), (), (), (), (), (), (), (), (), (), (), (), (), ()] ?_
  simp only [cd_X6_nextRecord, h1, h3, h6, h8, r_rn0, r_rnc, r_vk0, r_vkc, r_vks, r_kci, r_kcv, r_ild, r_ald, r_lld, r_dld, r_Li, r_La, r_Ll, r_Ld, r_Ki, r_Ka, r_Kl, r_Kd, r_Kn, r_ist, r_ast, r_lst, r_dst, r_iinc, r_int, r_lng, r_dbl, r_i2, r_i1, r_l2, r_lsh, r_i2z, r_l2z, r_i2l, r_l2i, r_i2d, r_lcmp, r_ddiv, r_dcmpl, r_dup, r_dup2, r_pop, r_one_int, r_one_ref, r_go, r_if, r_ic, r_tsw, r_lsw, r_sw0, r_swc, r_lk0, r_lkc, r_kp, r_gI, r_gL, r_gR, r_pI, r_pZ, r_pL, r_pR, r_gs, r_ia, r_ca, r_za, r_la, r_da, r_aa, r_ias, r_cas, r_zas, r_las, r_das, r_aas, r_acp, r_new, r_nwa, r_nwq, r_ret, r_irt, r_zrt, r_lrt, r_drt, r_art, r_thr, r_cV0, r_cV1, r_cV2, r_cV3, r_cV4, r_cV5, r_cI0, r_cS0, r_cS1, r_cS2, r_cS3, r_cX0, r_cX1, r_cX2, r_cX3, r_rc, r_oi, r_refx, r_i10, r_i01, r_rfs, r_mem0, r_memc, r_beq, r_kl0, r_klz, r_kl1i, r_kl1r, r_kl1n, r_kl1l, r_kl1d, List.length_cons, List.length_nil, List.getElem?_cons_zero, List.getElem?_cons_succ, List.set_cons_zero, List.set_cons_succ, true_and, and_true, not_true, not_false_eq_true, false_implies, true_implies, or_true, true_or, or_false, false_or, Bool.or_false, Bool.false_or, decide_false, decide_true, Nat.reduceLT, Nat.reduceLeDiff, Nat.reduceAdd, Nat.reduceSub, ↓reduceIte, Nat.reduceEqDiff, Nat.lt_add_one]
  have hn : s_nw nw < 6 := Nat.mod_lt _ (by decide)
  rw [z_1, show (6 : Int32) = zI 6 from rfl]
  refine c_fmod6 (y := s_nw nw) (by omega) (by unfold s_nw; omega) ?_
  simp only [cd_X6_nextRecord, h1, h3, h6, h8, r_rn0, r_rnc, r_vk0, r_vkc, r_vks, r_kci, r_kcv, r_ild, r_ald, r_lld, r_dld, r_Li, r_La, r_Ll, r_Ld, r_Ki, r_Ka, r_Kl, r_Kd, r_Kn, r_ist, r_ast, r_lst, r_dst, r_iinc, r_int, r_lng, r_dbl, r_i2, r_i1, r_l2, r_lsh, r_i2z, r_l2z, r_i2l, r_l2i, r_i2d, r_lcmp, r_ddiv, r_dcmpl, r_dup, r_dup2, r_pop, r_one_int, r_one_ref, r_go, r_if, r_ic, r_tsw, r_lsw, r_sw0, r_swc, r_lk0, r_lkc, r_kp, r_gI, r_gL, r_gR, r_pI, r_pZ, r_pL, r_pR, r_gs, r_ia, r_ca, r_za, r_la, r_da, r_aa, r_ias, r_cas, r_zas, r_las, r_das, r_aas, r_acp, r_new, r_nwa, r_nwq, r_ret, r_irt, r_zrt, r_lrt, r_drt, r_art, r_thr, r_cV0, r_cV1, r_cV2, r_cV3, r_cV4, r_cV5, r_cI0, r_cS0, r_cS1, r_cS2, r_cS3, r_cX0, r_cX1, r_cX2, r_cX3, r_rc, r_oi, r_refx, r_i10, r_i01, r_rfs, r_mem0, r_memc, r_beq, r_kl0, r_klz, r_kl1i, r_kl1r, r_kl1n, r_kl1l, r_kl1d, List.length_cons, List.length_nil, List.getElem?_cons_zero, List.getElem?_cons_succ, List.set_cons_zero, List.set_cons_succ, true_and, and_true, not_true, not_false_eq_true, false_implies, true_implies, or_true, true_or, or_false, false_or, Bool.or_false, Bool.false_or, decide_false, decide_true, Nat.reduceLT, Nat.reduceLeDiff, Nat.reduceAdd, Nat.reduceSub, ↓reduceIte, Nat.reduceEqDiff, Nat.lt_add_one]
  rw [mz_u_nk (show (2 : Nat) ≠ 1 by decide), h8, z_1]
  refine c_min ?_
  simp only [cd_X6_nextRecord, h1, h3, h6, h8, r_rn0, r_rnc, r_vk0, r_vkc, r_vks, r_kci, r_kcv, r_ild, r_ald, r_lld, r_dld, r_Li, r_La, r_Ll, r_Ld, r_Ki, r_Ka, r_Kl, r_Kd, r_Kn, r_ist, r_ast, r_lst, r_dst, r_iinc, r_int, r_lng, r_dbl, r_i2, r_i1, r_l2, r_lsh, r_i2z, r_l2z, r_i2l, r_l2i, r_i2d, r_lcmp, r_ddiv, r_dcmpl, r_dup, r_dup2, r_pop, r_one_int, r_one_ref, r_go, r_if, r_ic, r_tsw, r_lsw, r_sw0, r_swc, r_lk0, r_lkc, r_kp, r_gI, r_gL, r_gR, r_pI, r_pZ, r_pL, r_pR, r_gs, r_ia, r_ca, r_za, r_la, r_da, r_aa, r_ias, r_cas, r_zas, r_las, r_das, r_aas, r_acp, r_new, r_nwa, r_nwq, r_ret, r_irt, r_zrt, r_lrt, r_drt, r_art, r_thr, r_cV0, r_cV1, r_cV2, r_cV3, r_cV4, r_cV5, r_cI0, r_cS0, r_cS1, r_cS2, r_cS3, r_cX0, r_cX1, r_cX2, r_cX3, r_rc, r_oi, r_refx, r_i10, r_i01, r_rfs, r_mem0, r_memc, r_beq, r_kl0, r_klz, r_kl1i, r_kl1r, r_kl1n, r_kl1l, r_kl1d, List.length_cons, List.length_nil, List.getElem?_cons_zero, List.getElem?_cons_succ, List.set_cons_zero, List.set_cons_succ, true_and, and_true, not_true, not_false_eq_true, false_implies, true_implies, or_true, true_or, or_false, false_or, Bool.or_false, Bool.false_or, decide_false, decide_true, Nat.reduceLT, Nat.reduceLeDiff, Nat.reduceAdd, Nat.reduceSub, ↓reduceIte, Nat.reduceEqDiff, Nat.lt_add_one]
  have em : (if zI 6 < zI ((many + 1 : Nat) : Int) then zI 6 else zI ((many + 1 : Nat) : Int)) = zI (s_mn many) := by
    rw [z_if (by omega) (by omega)]
    unfold s_mn
    by_cases q : many < 6
    · rw [if_pos q, if_neg (by omega)]
    · rw [if_neg q, if_pos (by omega)]; rfl
  rw [em, mz_u_nk (show (1 : Nat) ≠ 2 by decide), mz_u_eq, z_nat (by omega), show ((s_nw nw : Nat) : Int).toNat = s_nw nw from rfl, (h4 _ hn).1]
  refine ⟨⟨6, h2, z_in (by omega) (by omega) (by decide)⟩, ?_⟩
  simp only [cd_X6_nextRecord, h1, h3, h6, h8, r_rn0, r_rnc, r_vk0, r_vkc, r_vks, r_kci, r_kcv, r_ild, r_ald, r_lld, r_dld, r_Li, r_La, r_Ll, r_Ld, r_Ki, r_Ka, r_Kl, r_Kd, r_Kn, r_ist, r_ast, r_lst, r_dst, r_iinc, r_int, r_lng, r_dbl, r_i2, r_i1, r_l2, r_lsh, r_i2z, r_l2z, r_i2l, r_l2i, r_i2d, r_lcmp, r_ddiv, r_dcmpl, r_dup, r_dup2, r_pop, r_one_int, r_one_ref, r_go, r_if, r_ic, r_tsw, r_lsw, r_sw0, r_swc, r_lk0, r_lkc, r_kp, r_gI, r_gL, r_gR, r_pI, r_pZ, r_pL, r_pR, r_gs, r_ia, r_ca, r_za, r_la, r_da, r_aa, r_ias, r_cas, r_zas, r_las, r_das, r_aas, r_acp, r_new, r_nwa, r_nwq, r_ret, r_irt, r_zrt, r_lrt, r_drt, r_art, r_thr, r_cV0, r_cV1, r_cV2, r_cV3, r_cV4, r_cV5, r_cI0, r_cS0, r_cS1, r_cS2, r_cS3, r_cX0, r_cX1, r_cX2, r_cX3, r_rc, r_oi, r_refx, r_i10, r_i01, r_rfs, r_mem0, r_memc, r_beq, r_kl0, r_klz, r_kl1i, r_kl1r, r_kl1n, r_kl1l, r_kl1d, List.length_cons, List.length_nil, List.getElem?_cons_zero, List.getElem?_cons_succ, List.set_cons_zero, List.set_cons_succ, true_and, and_true, not_true, not_false_eq_true, false_implies, true_implies, or_true, true_or, or_false, false_or, Bool.or_false, Bool.false_or, decide_false, decide_true, Nat.reduceLT, Nat.reduceLeDiff, Nat.reduceAdd, Nat.reduceSub, ↓reduceIte, Nat.reduceEqDiff, Nat.lt_add_one]
  exact h
/-- the records with one more -/
def s_push (many : Nat) (rr : Nat → Nat → Int32) (m : Nat → Int32) : Nat → Nat → Int32 := fun i => if many < 6 then (if i = many then m else rr i) else (if i = 5 then m else rr (i + 1))
/-- a game is written as the newest record -/
theorem p_M_push {me ra nw many B : Nat} {A : Nat → z_A} {rr : Nat → Nat → Int32} {m : Nat → Int32} {I' : mz_I} {L' : mz_L} (hM : p_M T I L me ra A nw many B rr) (hm : p_R T I' L' (A (s_nw nw)) B m)
    (hf : ∀ a, a ∉ (A (s_nw nw)).all → a ≠ me → I' a = I a) (hl : ∀ a, a ∉ (A (s_nw nw)).all → L' a = L a) (hU : ∀ a x y, (a, x) ∈ T.1 → (a, y) ∈ T.1 → x = y) (h1' : I' me 1 = zI (s_nw nw)) (h2' : I' me 2 = zI (s_mn many)) :
    p_M T I' L' me ra A (s_nw nw) (s_mn many) B (s_push many rr m) := by
  obtain ⟨⟨h1, h2, h3, h4, h5⟩, ⟨h6, h7, h8, h9⟩, h10⟩ := id hM
  have hn : s_nw nw < 6 := Nat.mod_lt _ (by decide)
  have keep : ∀ j m', j < 6 → j ≠ s_nw nw → p_R T I L (A j) B m' → p_R T I' L' (A j) B m' := by
    intro j m' hj hne hp
    refine p_R_fr hp (fun a ha => hf a (h5 j _ hj hn hne a ha) (fun e => ?_)) (hl _ (h5 j _ hj hn hne _ (by simp [z_A.all])))
    exact z_out hU hp.sh h1 (by decide) (e ▸ ha)
  refine ⟨⟨h1, h2, h3, h4, h5⟩, ⟨h1', hn, h2', by unfold s_mn; split <;> omega⟩, fun i hi => ?_⟩
  unfold s_mn at hi
  unfold s_push
  have hnw : s_nw nw = (nw + 1) % 6 := rfl
  have hmn : s_mn many = if many < 6 then many + 1 else 6 := rfl
  by_cases q : many < 6
  · rw [if_pos q] at hi hmn ⊢
    by_cases e : i = many
    · rw [if_pos e, show (s_nw nw + 6 - (s_mn many - 1 - i)) % 6 = s_nw nw by omega]; exact hm
    · rw [if_neg e, show (s_nw nw + 6 - (s_mn many - 1 - i)) % 6 = (nw + 6 - (many - 1 - i)) % 6 by omega]
      refine keep _ _ (by omega) (by omega) (h10 i (by omega))
  · rw [if_neg q] at hi hmn ⊢
    by_cases e : i = 5
    · rw [if_pos e, show (s_nw nw + 6 - (s_mn many - 1 - i)) % 6 = s_nw nw by omega]; exact hm
    · rw [if_neg e, show (s_nw nw + 6 - (s_mn many - 1 - i)) % 6 = (nw + 6 - (many - 1 - (i + 1))) % 6 by omega]
      refine keep _ _ (by omega) (by omega) (h10 (i + 1) (by omega))
theorem p_M_fr {me ra nw many B : Nat} {A : Nat → z_A} {rr : Nat → Nat → Int32} {I' : mz_I} {L' : mz_L} (hM : p_M T I L me ra A nw many B rr) (h0 : I' me = I me) (hf : ∀ j, j < 6 → ∀ a, a ∈ (A j).all → I' a = I a ∧ L' a = L a) : p_M T I' L' me ra A nw many B rr := by
  obtain ⟨⟨h1, h2, h3, h4, h5⟩, ⟨h6, h7, h8, h9⟩, h10⟩ := id hM
  refine ⟨⟨h1, h2, h3, h4, h5⟩, ⟨by rw [h0]; exact h6, h7, by rw [h0]; exact h8, h9⟩, fun i hi => ?_⟩
  exact p_R_fr (h10 i hi) (fun a ha => (hf _ (Nat.mod_lt _ (by decide)) a ha).1) (hf _ (Nat.mod_lt _ (by decide)) _ z_bm).2
theorem c_forget {me : Nat} (h1 : (me, 0, 6) ∈ T.1) (h : K none T (mz_u I me 2 0) L) : mz_Ctr G M_X6_forgetRecords [.ref me] T I L K := by
  refine mz_ofl mk_X6_forgetRecords rfl (Nat.le_of_ble_eq_true rfl) (Nat.le_of_ble_eq_true rfl) [some (.ref me)] rfl ?_
  refine mz_vc ok_X6_forgetRecords [] [(), (), (), (), (), (), (), (), (), (), (), (), (), (), (), (), (), (), (), (), (), (), (), (), (), (), (), (), (), ()] ?_
  simp only [cd_X6_forgetRecords, h1, r_rn0, r_rnc, r_vk0, r_vkc, r_vks, r_kci, r_kcv, r_ild, r_ald, r_lld, r_dld, r_Li, r_La, r_Ll, r_Ld, r_Ki, r_Ka, r_Kl, r_Kd, r_Kn, r_ist, r_ast, r_lst, r_dst, r_iinc, r_int, r_lng, r_dbl, r_i2, r_i1, r_l2, r_lsh, r_i2z, r_l2z, r_i2l, r_l2i, r_i2d, r_lcmp, r_ddiv, r_dcmpl, r_dup, r_dup2, r_pop, r_one_int, r_one_ref, r_go, r_if, r_ic, r_tsw, r_lsw, r_sw0, r_swc, r_lk0, r_lkc, r_kp, r_gI, r_gL, r_gR, r_pI, r_pZ, r_pL, r_pR, r_gs, r_ia, r_ca, r_za, r_la, r_da, r_aa, r_ias, r_cas, r_zas, r_las, r_das, r_aas, r_acp, r_new, r_nwa, r_nwq, r_ret, r_irt, r_zrt, r_lrt, r_drt, r_art, r_thr, r_cV0, r_cV1, r_cV2, r_cV3, r_cV4, r_cV5, r_cI0, r_cS0, r_cS1, r_cS2, r_cS3, r_cX0, r_cX1, r_cX2, r_cX3, r_rc, r_oi, r_refx, r_i10, r_i01, r_rfs, r_mem0, r_memc, r_beq, r_kl0, r_klz, r_kl1i, r_kl1r, r_kl1n, r_kl1l, r_kl1d, List.length_cons, List.length_nil, List.getElem?_cons_zero, List.getElem?_cons_succ, List.set_cons_zero, List.set_cons_succ, true_and, and_true, not_true, not_false_eq_true, false_implies, true_implies, or_true, true_or, or_false, false_or, Bool.or_false, Bool.false_or, decide_false, decide_true, Nat.reduceLT, Nat.reduceLeDiff, Nat.reduceAdd, Nat.reduceSub, ↓reduceIte, Nat.reduceEqDiff, Nat.lt_add_one]
  exact h
theorem c_copySet {g g2 : Nat} (h1 : (g, 0, 4) ∈ T.1) (h2 : (g2, 0, 4) ∈ T.1) (h : K none T (mz_u (mz_u I g 7 (I g2 7)) g 8 (I g2 8)) L) : mz_Ctr G M_X4_copySettingsFrom [.ref g, .ref g2] T I L K := by
  refine mz_ofl mk_X4_copySettingsFrom rfl (Nat.le_of_ble_eq_true rfl) (Nat.le_of_ble_eq_true rfl) [some (.ref g), some (.ref g2)] rfl ?_
  refine mz_vc ok_X4_copySettingsFrom [] [(), (), (), (), (), (), (), (), (), (), (), (), (), (), (), (), (), (), (), (), (), (), (), (), (), (), (), (), (), ()] ?_
  simp only [cd_X4_copySettingsFrom, h1, h2, r_rn0, r_rnc, r_vk0, r_vkc, r_vks, r_kci, r_kcv, r_ild, r_ald, r_lld, r_dld, r_Li, r_La, r_Ll, r_Ld, r_Ki, r_Ka, r_Kl, r_Kd, r_Kn, r_ist, r_ast, r_lst, r_dst, r_iinc, r_int, r_lng, r_dbl, r_i2, r_i1, r_l2, r_lsh, r_i2z, r_l2z, r_i2l, r_l2i, r_i2d, r_lcmp, r_ddiv, r_dcmpl, r_dup, r_dup2, r_pop, r_one_int, r_one_ref, r_go, r_if, r_ic, r_tsw, r_lsw, r_sw0, r_swc, r_lk0, r_lkc, r_kp, r_gI, r_gL, r_gR, r_pI, r_pZ, r_pL, r_pR, r_gs, r_ia, r_ca, r_za, r_la, r_da, r_aa, r_ias, r_cas, r_zas, r_las, r_das, r_aas, r_acp, r_new, r_nwa, r_nwq, r_ret, r_irt, r_zrt, r_lrt, r_drt, r_art, r_thr, r_cV0, r_cV1, r_cV2, r_cV3, r_cV4, r_cV5, r_cI0, r_cS0, r_cS1, r_cS2, r_cS3, r_cX0, r_cX1, r_cX2, r_cX3, r_rc, r_oi, r_refx, r_i10, r_i01, r_rfs, r_mem0, r_memc, r_beq, r_kl0, r_klz, r_kl1i, r_kl1r, r_kl1n, r_kl1l, r_kl1d, List.length_cons, List.length_nil, List.getElem?_cons_zero, List.getElem?_cons_succ, List.set_cons_zero, List.set_cons_succ, true_and, and_true, not_true, not_false_eq_true, false_implies, true_implies, or_true, true_or, or_false, false_or, Bool.or_false, Bool.false_or, decide_false, decide_true, Nat.reduceLT, Nat.reduceLeDiff, Nat.reduceAdd, Nat.reduceSub, ↓reduceIte, Nat.reduceEqDiff, Nat.lt_add_one]
  have e : mz_u I g 7 (I g2 7) g2 8 = I g2 8 := by rw [mz_u_at, if_neg (by simp)]
  rw [e]
  exact h
theorem c_goBack {me ra nw many B : Nat} {A : Nat → z_A} {A0 : z_A} {rr : Nat → Nat → Int32} {ov : Bool} (hM : p_M T I L me ra A nw many B rr) (hA0 : p_GA T A0) (ho : I A0.g 6 = b2i ov) (hdj : ∀ j, j < 6 → z_dj (A j) A0)
    (h0 : many ≤ (if ov then 0 else 1) → K (some (.int 0)) T I L)
    (h1 : (if ov then 0 else 1) < many → ∀ I' L' nw', fr I I' (me :: A0.all) → fr L L' [A0.b] → p_M T I' L' me ra A nw' (many - (if ov then 0 else 1)) B rr → p_R T I' L' A0 B (rr (many - (if ov then 0 else 1) - 1)) → (∀ i, 7 ≤ i → I' A0.g i = I A0.g i) → (∀ i, 3 ≤ i → I' me i = I me i) → K (some (.int (zI (many - (if ov then 0 else 1) : Nat)))) T I' L') : mz_Ctr G M_X6_goBack [.ref me, .ref A0.g] T I L K := by
  refine mz_apartC fun hU => ?_
  obtain ⟨⟨m1, m2, m3, m4, m5⟩, ⟨m6, m7, m8, m9⟩, m10⟩ := id hM
  have g1 : (A0.g, 0, 4) ∈ T.1 := hA0.1.1
  have hne : A0.g ≠ me := mz_ne hU g1 m1 (by decide)
  have hme0 : me ∉ A0.all := z_out hU hA0 m1 (by decide)
  generalize hfo : (if ov then 0 else 1) = fo at h0 h1
  have hfo1 : fo ≤ 1 := by rw [← hfo]; split <;> omega
  refine mz_ofl mk_X6_goBack rfl (Nat.le_of_ble_eq_true rfl) (Nat.le_of_ble_eq_true rfl) [some (.ref me), some (.ref A0.g), none] rfl ?_
  have go : mz_W G M_X6_goBack K mz_nX 12 [some (.ref me), some (.ref A0.g), none] [.int (zI fo)] T I L (0, 0) := by
    refine mz_vc ok_X6_goBack [] [(), (), (), (), (), (), (), (), (), (), (), (), (), (), (), (), (), (), (), (), (), (), (), (), (), (), (), (), (), ()] ?_
    simp only [cd_X6_goBack, m1, m3, m6, m8, g1, ho, r_rn0, r_rnc, r_vk0, r_vkc, r_vks, r_kci, r_kcv, r_ild, r_ald, r_lld, r_dld, r_Li, r_La, r_Ll, r_Ld, r_Ki, r_Ka, r_Kl, r_Kd, r_Kn, r_ist, r_ast, r_lst, r_dst, r_iinc, r_int, r_lng, r_dbl, r_i2, r_i1, r_l2, r_lsh, r_i2z, r_l2z, r_i2l, r_l2i, r_i2d, r_lcmp, r_ddiv, r_dcmpl, r_dup, r_dup2, r_pop, r_one_int, r_one_ref, r_go, r_if, r_ic, r_tsw, r_lsw, r_sw0, r_swc, r_lk0, r_lkc, r_kp, r_gI, r_gL, r_gR, r_pI, r_pZ, r_pL, r_pR, r_gs, r_ia, r_ca, r_za, r_la, r_da, r_aa, r_ias, r_cas, r_zas, r_las, r_das, r_aas, r_acp, r_new, r_nwa, r_nwq, r_ret, r_irt, r_zrt, r_lrt, r_drt, r_art, r_thr, r_cV0, r_cV1, r_cV2, r_cV3, r_cV4, r_cV5, r_cI0, r_cS0, r_cS1, r_cS2, r_cS3, r_cX0, r_cX1, r_cX2, r_cX3, r_rc, r_oi, r_refx, r_i10, r_i01, r_rfs, r_mem0, r_memc, r_beq, r_kl0, r_klz, r_kl1i, r_kl1r, r_kl1n, r_kl1l, r_kl1d, List.length_cons, List.length_nil, List.getElem?_cons_zero, List.getElem?_cons_succ, List.set_cons_zero, List.set_cons_succ, true_and, and_true, not_true, not_false_eq_true, false_implies, true_implies, or_true, true_or, or_false, false_or, Bool.or_false, Bool.false_or, decide_false, decide_true, Nat.reduceLT, Nat.reduceLeDiff, Nat.reduceAdd, Nat.reduceSub, ↓reduceIte, Nat.reduceEqDiff, Nat.lt_add_one]
    rw [z_lt (by omega) (by omega), z_sub, mz_u_nk (show (1 : Nat) ≠ 2 by decide), m6, show (6 : Int32) = zI 6 from rfl, z_sub]
    refine ⟨fun q => ?_, fun q => h0 (by omega)⟩
    have hn : (nw + 6 - fo) % 6 < 6 := Nat.mod_lt _ (by decide)
    refine c_fmod6 (y := (nw + 6 - fo) % 6) (by omega) (by omega) ?_
    simp only [cd_X6_goBack, m1, m3, m6, m8, g1, ho, r_rn0, r_rnc, r_vk0, r_vkc, r_vks, r_kci, r_kcv, r_ild, r_ald, r_lld, r_dld, r_Li, r_La, r_Ll, r_Ld, r_Ki, r_Ka, r_Kl, r_Kd, r_Kn, r_ist, r_ast, r_lst, r_dst, r_iinc, r_int, r_lng, r_dbl, r_i2, r_i1, r_l2, r_lsh, r_i2z, r_l2z, r_i2l, r_l2i, r_i2d, r_lcmp, r_ddiv, r_dcmpl, r_dup, r_dup2, r_pop, r_one_int, r_one_ref, r_go, r_if, r_ic, r_tsw, r_lsw, r_sw0, r_swc, r_lk0, r_lkc, r_kp, r_gI, r_gL, r_gR, r_pI, r_pZ, r_pL, r_pR, r_gs, r_ia, r_ca, r_za, r_la, r_da, r_aa, r_ias, r_cas, r_zas, r_las, r_das, r_aas, r_acp, r_new, r_nwa, r_nwq, r_ret, r_irt, r_zrt, r_lrt, r_drt, r_art, r_thr, r_cV0, r_cV1, r_cV2, r_cV3, r_cV4, r_cV5, r_cI0, r_cS0, r_cS1, r_cS2, r_cS3, r_cX0, r_cX1, r_cX2, r_cX3, r_rc, r_oi, r_refx, r_i10, r_i01, r_rfs, r_mem0, r_memc, r_beq, r_kl0, r_klz, r_kl1i, r_kl1r, r_kl1n, r_kl1l, r_kl1d, List.length_cons, List.length_nil, List.getElem?_cons_zero, List.getElem?_cons_succ, List.set_cons_zero, List.set_cons_succ, true_and, and_true, not_true, not_false_eq_true, false_implies, true_implies, or_true, true_or, or_false, false_or, Bool.or_false, Bool.false_or, decide_false, decide_true, Nat.reduceLT, Nat.reduceLeDiff, Nat.reduceAdd, Nat.reduceSub, ↓reduceIte, Nat.reduceEqDiff, Nat.lt_add_one]
    have e2 : (many : Int) - fo = (many - fo : Nat) := by omega
    rw [e2, mz_u_eq, z_nat (by omega), show (((nw + 6 - fo) % 6 : Nat) : Int).toNat = (nw + 6 - fo) % 6 from rfl, (m4 _ hn).1]
    refine ⟨⟨6, m2, z_in (by omega) (by omega) (by decide)⟩, ?_⟩
    have f1 : fr I (mz_u (mz_u I me 2 (zI (many - fo : Nat))) me 1 (zI ((nw + 6 - fo) % 6 : Nat))) [me] := fr_u2 fr_u (by simp)
    have hM1 : p_M T (mz_u (mz_u I me 2 (zI (many - fo : Nat))) me 1 (zI ((nw + 6 - fo) % 6 : Nat))) L me ra A ((nw + 6 - fo) % 6) (many - fo) B rr := by
      refine ⟨⟨m1, m2, m3, m4, m5⟩, ⟨mz_u_eq, hn, by rw [mz_u_nk (show (2 : Nat) ≠ 1 by decide), mz_u_eq], by omega⟩, fun i hi => ?_⟩
      rw [show ((nw + 6 - fo) % 6 + 6 - (many - fo - 1 - i)) % 6 = (nw + 6 - (many - 1 - i)) % 6 by omega]
      have hp := m10 i (by omega)
      refine p_R_fr hp (fun a ha => fr_ne1 f1 (fun e => ?_)) rfl
      exact z_out hU hp.sh m1 (by decide) (e ▸ ha)
    have hR := hM1.2.2 (many - fo - 1) (by omega)
    rw [show ((nw + 6 - fo) % 6 + 6 - (many - fo - 1 - (many - fo - 1))) % 6 = (nw + 6 - fo) % 6 by omega] at hR
    simp only [cd_X6_goBack, m1, m3, m6, m8, g1, ho, r_rn0, r_rnc, r_vk0, r_vkc, r_vks, r_kci, r_kcv, r_ild, r_ald, r_lld, r_dld, r_Li, r_La, r_Ll, r_Ld, r_Ki, r_Ka, r_Kl, r_Kd, r_Kn, r_ist, r_ast, r_lst, r_dst, r_iinc, r_int, r_lng, r_dbl, r_i2, r_i1, r_l2, r_lsh, r_i2z, r_l2z, r_i2l, r_l2i, r_i2d, r_lcmp, r_ddiv, r_dcmpl, r_dup, r_dup2, r_pop, r_one_int, r_one_ref, r_go, r_if, r_ic, r_tsw, r_lsw, r_sw0, r_swc, r_lk0, r_lkc, r_kp, r_gI, r_gL, r_gR, r_pI, r_pZ, r_pL, r_pR, r_gs, r_ia, r_ca, r_za, r_la, r_da, r_aa, r_ias, r_cas, r_zas, r_las, r_das, r_aas, r_acp, r_new, r_nwa, r_nwq, r_ret, r_irt, r_zrt, r_lrt, r_drt, r_art, r_thr, r_cV0, r_cV1, r_cV2, r_cV3, r_cV4, r_cV5, r_cI0, r_cS0, r_cS1, r_cS2, r_cS3, r_cX0, r_cX1, r_cX2, r_cX3, r_rc, r_oi, r_refx, r_i10, r_i01, r_rfs, r_mem0, r_memc, r_beq, r_kl0, r_klz, r_kl1i, r_kl1r, r_kl1n, r_kl1l, r_kl1d, List.length_cons, List.length_nil, List.getElem?_cons_zero, List.getElem?_cons_succ, List.set_cons_zero, List.set_cons_succ, true_and, and_true, not_true, not_false_eq_true, false_implies, true_implies, or_true, true_or, or_false, false_or, Bool.or_false, Bool.false_or, decide_false, decide_true, Nat.reduceLT, Nat.reduceLeDiff, Nat.reduceAdd, Nat.reduceSub, ↓reduceIte, Nat.reduceEqDiff, Nat.lt_add_one]
    refine c_copyG hA0 hR (fun I' L' q1 q2 q3 q4 => ?_)
    simp only [cd_X6_goBack, m1, m3, m6, m8, g1, ho, r_rn0, r_rnc, r_vk0, r_vkc, r_vks, r_kci, r_kcv, r_ild, r_ald, r_lld, r_dld, r_Li, r_La, r_Ll, r_Ld, r_Ki, r_Ka, r_Kl, r_Kd, r_Kn, r_ist, r_ast, r_lst, r_dst, r_iinc, r_int, r_lng, r_dbl, r_i2, r_i1, r_l2, r_lsh, r_i2z, r_l2z, r_i2l, r_l2i, r_i2d, r_lcmp, r_ddiv, r_dcmpl, r_dup, r_dup2, r_pop, r_one_int, r_one_ref, r_go, r_if, r_ic, r_tsw, r_lsw, r_sw0, r_swc, r_lk0, r_lkc, r_kp, r_gI, r_gL, r_gR, r_pI, r_pZ, r_pL, r_pR, r_gs, r_ia, r_ca, r_za, r_la, r_da, r_aa, r_ias, r_cas, r_zas, r_las, r_das, r_aas, r_acp, r_new, r_nwa, r_nwq, r_ret, r_irt, r_zrt, r_lrt, r_drt, r_art, r_thr, r_cV0, r_cV1, r_cV2, r_cV3, r_cV4, r_cV5, r_cI0, r_cS0, r_cS1, r_cS2, r_cS3, r_cX0, r_cX1, r_cX2, r_cX3, r_rc, r_oi, r_refx, r_i10, r_i01, r_rfs, r_mem0, r_memc, r_beq, r_kl0, r_klz, r_kl1i, r_kl1r, r_kl1n, r_kl1l, r_kl1d, List.length_cons, List.length_nil, List.getElem?_cons_zero, List.getElem?_cons_succ, List.set_cons_zero, List.set_cons_succ, true_and, and_true, not_true, not_false_eq_true, false_implies, true_implies, or_true, true_or, or_false, false_or, Bool.or_false, Bool.false_or, decide_false, decide_true, Nat.reduceLT, Nat.reduceLeDiff, Nat.reduceAdd, Nat.reduceSub, ↓reduceIte, Nat.reduceEqDiff, Nat.lt_add_one]
    have e5 : I' me = mz_u (mz_u I me 2 (zI (many - fo : Nat))) me 1 (zI ((nw + 6 - fo) % 6 : Nat)) me := q1 _ hme0
    have e6 : I' me 2 = zI (many - fo : Nat) := by rw [e5, mz_u_nk (show (2 : Nat) ≠ 1 by decide), mz_u_eq]
    rw [e6]
    refine h1 (by omega) I' L' _ (fr_tr f1 q1 (by simp) (fun a ha => List.mem_cons_of_mem _ ha)) q2 (p_M_fr hM1 e5 (fun j hj a ha => ⟨q1 a (hdj j hj a ha), q2 a (fun e => ?_)⟩)) q3 (fun i hi => ?_) (fun i hi => ?_)
    · have e := List.mem_singleton.mp e
      exact hdj j hj a ha (e ▸ z_bm)
    · rw [q4 i hi, fr_ne1 f1 hne]
    · rw [e5, mz_u_nk (by omega), mz_u_nk (by omega)]
  refine mz_vc ok_X6_goBack [12] [(), (), (), (), (), (), (), (), (), (), (), (), (), (), (), (), (), (), (), (), (), (), (), (), (), (), (), (), (), ()] ?_
  simp only [cd_X6_goBack, m1, m3, m6, m8, g1, ho, b2i_0, r_rn0, r_rnc, r_vk0, r_vkc, r_vks, r_kci, r_kcv, r_ild, r_ald, r_lld, r_dld, r_Li, r_La, r_Ll, r_Ld, r_Ki, r_Ka, r_Kl, r_Kd, r_Kn, r_ist, r_ast, r_lst, r_dst, r_iinc, r_int, r_lng, r_dbl, r_i2, r_i1, r_l2, r_lsh, r_i2z, r_l2z, r_i2l, r_l2i, r_i2d, r_lcmp, r_ddiv, r_dcmpl, r_dup, r_dup2, r_pop, r_one_int, r_one_ref, r_go, r_if, r_ic, r_tsw, r_lsw, r_sw0, r_swc, r_lk0, r_lkc, r_kp, r_gI, r_gL, r_gR, r_pI, r_pZ, r_pL, r_pR, r_gs, r_ia, r_ca, r_za, r_la, r_da, r_aa, r_ias, r_cas, r_zas, r_las, r_das, r_aas, r_acp, r_new, r_nwa, r_nwq, r_ret, r_irt, r_zrt, r_lrt, r_drt, r_art, r_thr, r_cV0, r_cV1, r_cV2, r_cV3, r_cV4, r_cV5, r_cI0, r_cS0, r_cS1, r_cS2, r_cS3, r_cX0, r_cX1, r_cX2, r_cX3, r_rc, r_oi, r_refx, r_i10, r_i01, r_rfs, r_mem0, r_memc, r_beq, r_kl0, r_klz, r_kl1i, r_kl1r, r_kl1n, r_kl1l, r_kl1d, List.length_cons, List.length_nil, List.getElem?_cons_zero, List.getElem?_cons_succ, List.set_cons_zero, List.set_cons_succ, true_and, and_true, not_true, not_false_eq_true, false_implies, true_implies, or_true, true_or, or_false, false_or, Bool.or_false, Bool.false_or, decide_false, decide_true, Nat.reduceLT, Nat.reduceLeDiff, Nat.reduceAdd, Nat.reduceSub, ↓reduceIte, Nat.reduceEqDiff, Nat.lt_add_one]
  refine ⟨fun q => ?_, fun q => ?_⟩
  · rw [q] at hfo
    rw [← hfo] at go; exact go
  · rw [show ov = true by simpa using q] at hfo
    rw [← hfo] at go; exact go
/-- the snapshot -/
def p_N (T : mz_T) (I : mz_I) (L : mz_L) (me : Nat) (sn : z_A) (has : Bool) (B : Nat) (m : Nat → Int32) (s0 s1 : Int32) : Prop :=
  ((me, 0, 6) ∈ T.1 ∧ T.2 me 3 = some sn.g ∧ p_GA T sn) ∧ I me 4 = b2i has ∧ (has = true → p_R T I L sn B m ∧ I sn.g 7 = s0 ∧ I sn.g 8 = s1)
theorem p_R_g78 {A : z_A} {B : Nat} {m : Nat → Int32} {v w : Int32} (hU : ∀ a x y, (a, x) ∈ T.1 → (a, y) ∈ T.1 → x = y) (h : p_R T I L A B m) : p_R T (mz_u (mz_u I A.g 7 v) A.g 8 w) L A B m := by
  obtain ⟨⟨g1, g2, g3, g4, g5⟩, ⟨f1, f2, f3⟩, ⟨x1, x2, x3⟩, ⟨b1, b2, b3⟩, ⟨s1, s2, s3, s4, s5⟩⟩ := id h.sh
  have ne : ∀ {a b : Nat} {x y : Nat × Nat}, (a, x) ∈ T.1 → (b, y) ∈ T.1 → x ≠ y → a ≠ b := fun a b c => mz_ne hU a b c
  have n0 : ∀ {a : Nat} {x : Nat × Nat}, (a, x) ∈ T.1 → x ≠ (0, 4) → mz_u (mz_u I A.g 7 v) A.g 8 w a = I a := fun a b => by rw [mz_u_ne (ne a g1 b), mz_u_ne (ne a g1 b)]
  refine p_R_of h h.sh ?_ ?_ ?_ ?_ rfl ?_ ?_ ?_ ?_ ?_
  · intro i _; rw [n0 f2 (by decide)]
  · intro i _; rw [n0 x3 (by decide)]
  · intro i _ _; rw [n0 x1 (by decide)]
  · intro i _; rw [n0 b2 (by decide)]
  · rw [n0 b1 (by decide)]
  · intro i _; rw [n0 s1 (by decide)]
  · intro i _; rw [n0 s2 (by decide)]
  · intro i _; rw [n0 s3 (by decide)]
  · intro i a b
    rw [mz_u_nk (by omega), mz_u_nk (by omega)]
theorem c_keep {me B : Nat} {sn A0 : z_A} {m : Nat → Int32} (m1 : (me, 0, 6) ∈ T.1) (m3 : T.2 me 3 = some sn.g) (hsn : p_GA T sn) (hR : p_R T I L A0 B m) (hdj : z_dj A0 sn)
    (h : ∀ I' L', fr I I' (me :: sn.all) → fr L L' [sn.b] → p_N T I' L' me sn true B m (I A0.g 7) (I A0.g 8) → (∀ i, i ≠ 4 → I' me i = I me i) → K none T I' L') : mz_Ctr G M_X6_keepSnapshot [.ref me, .ref A0.g] T I L K := by
  refine mz_apartC fun hU => ?_
  have g1 : (A0.g, 0, 4) ∈ T.1 := hR.sh.1.1
  have g2 : (sn.g, 0, 4) ∈ T.1 := hsn.1.1
  have hme : me ∉ sn.all := z_out hU hsn m1 (by decide)
  have hne : A0.g ≠ me := mz_ne hU g1 m1 (by decide)
  have hne2 : sn.g ≠ me := mz_ne hU g2 m1 (by decide)
  refine mz_ofl mk_X6_keepSnapshot rfl (Nat.le_of_ble_eq_true rfl) (Nat.le_of_ble_eq_true rfl) [some (.ref me), some (.ref A0.g)] rfl ?_
  refine mz_vc ok_X6_keepSnapshot [] [(), (), (), (), (), (), (), (), (), (), (), (), (), (), (), (), (), (), (), (), (), (), (), (), (), (), (), (), (), ()] ?_
  simp only [cd_X6_keepSnapshot, m1, m3, g1, g2, r_rn0, r_rnc, r_vk0, r_vkc, r_vks, r_kci, r_kcv, r_ild, r_ald, r_lld, r_dld, r_Li, r_La, r_Ll, r_Ld, r_Ki, r_Ka, r_Kl, r_Kd, r_Kn, r_ist, r_ast, r_lst, r_dst, r_iinc, r_int, r_lng, r_dbl, r_i2, r_i1, r_l2, r_lsh, r_i2z, r_l2z, r_i2l, r_l2i, r_i2d, r_lcmp, r_ddiv, r_dcmpl, r_dup, r_dup2, r_pop, r_one_int, r_one_ref, r_go, r_if, r_ic, r_tsw, r_lsw, r_sw0, r_swc, r_lk0, r_lkc, r_kp, r_gI, r_gL, r_gR, r_pI, r_pZ, r_pL, r_pR, r_gs, r_ia, r_ca, r_za, r_la, r_da, r_aa, r_ias, r_cas, r_zas, r_las, r_das, r_aas, r_acp, r_new, r_nwa, r_nwq, r_ret, r_irt, r_zrt, r_lrt, r_drt, r_art, r_thr, r_cV0, r_cV1, r_cV2, r_cV3, r_cV4, r_cV5, r_cI0, r_cS0, r_cS1, r_cS2, r_cS3, r_cX0, r_cX1, r_cX2, r_cX3, r_rc, r_oi, r_refx, r_i10, r_i01, r_rfs, r_mem0, r_memc, r_beq, r_kl0, r_klz, r_kl1i, r_kl1r, r_kl1n, r_kl1l, r_kl1d, List.length_cons, List.length_nil, List.getElem?_cons_zero, List.getElem?_cons_succ, List.set_cons_zero, List.set_cons_succ, true_and, and_true, not_true, not_false_eq_true, false_implies, true_implies, or_true, true_or, or_false, false_or, Bool.or_false, Bool.false_or, decide_false, decide_true, Nat.reduceLT, Nat.reduceLeDiff, Nat.reduceAdd, Nat.reduceSub, ↓reduceIte, Nat.reduceEqDiff, Nat.lt_add_one]
  refine c_copyG hsn hR (fun I' L' q1 q2 q3 q4 => ?_)
  simp only [cd_X6_keepSnapshot, m1, m3, g1, g2, r_rn0, r_rnc, r_vk0, r_vkc, r_vks, r_kci, r_kcv, r_ild, r_ald, r_lld, r_dld, r_Li, r_La, r_Ll, r_Ld, r_Ki, r_Ka, r_Kl, r_Kd, r_Kn, r_ist, r_ast, r_lst, r_dst, r_iinc, r_int, r_lng, r_dbl, r_i2, r_i1, r_l2, r_lsh, r_i2z, r_l2z, r_i2l, r_l2i, r_i2d, r_lcmp, r_ddiv, r_dcmpl, r_dup, r_dup2, r_pop, r_one_int, r_one_ref, r_go, r_if, r_ic, r_tsw, r_lsw, r_sw0, r_swc, r_lk0, r_lkc, r_kp, r_gI, r_gL, r_gR, r_pI, r_pZ, r_pL, r_pR, r_gs, r_ia, r_ca, r_za, r_la, r_da, r_aa, r_ias, r_cas, r_zas, r_las, r_das, r_aas, r_acp, r_new, r_nwa, r_nwq, r_ret, r_irt, r_zrt, r_lrt, r_drt, r_art, r_thr, r_cV0, r_cV1, r_cV2, r_cV3, r_cV4, r_cV5, r_cI0, r_cS0, r_cS1, r_cS2, r_cS3, r_cX0, r_cX1, r_cX2, r_cX3, r_rc, r_oi, r_refx, r_i10, r_i01, r_rfs, r_mem0, r_memc, r_beq, r_kl0, r_klz, r_kl1i, r_kl1r, r_kl1n, r_kl1l, r_kl1d, List.length_cons, List.length_nil, List.getElem?_cons_zero, List.getElem?_cons_succ, List.set_cons_zero, List.set_cons_succ, true_and, and_true, not_true, not_false_eq_true, false_implies, true_implies, or_true, true_or, or_false, false_or, Bool.or_false, Bool.false_or, decide_false, decide_true, Nat.reduceLT, Nat.reduceLeDiff, Nat.reduceAdd, Nat.reduceSub, ↓reduceIte, Nat.reduceEqDiff, Nat.lt_add_one]
  refine c_copySet g2 g1 ?_
  simp only [cd_X6_keepSnapshot, m1, m3, g1, g2, r_rn0, r_rnc, r_vk0, r_vkc, r_vks, r_kci, r_kcv, r_ild, r_ald, r_lld, r_dld, r_Li, r_La, r_Ll, r_Ld, r_Ki, r_Ka, r_Kl, r_Kd, r_Kn, r_ist, r_ast, r_lst, r_dst, r_iinc, r_int, r_lng, r_dbl, r_i2, r_i1, r_l2, r_lsh, r_i2z, r_l2z, r_i2l, r_l2i, r_i2d, r_lcmp, r_ddiv, r_dcmpl, r_dup, r_dup2, r_pop, r_one_int, r_one_ref, r_go, r_if, r_ic, r_tsw, r_lsw, r_sw0, r_swc, r_lk0, r_lkc, r_kp, r_gI, r_gL, r_gR, r_pI, r_pZ, r_pL, r_pR, r_gs, r_ia, r_ca, r_za, r_la, r_da, r_aa, r_ias, r_cas, r_zas, r_las, r_das, r_aas, r_acp, r_new, r_nwa, r_nwq, r_ret, r_irt, r_zrt, r_lrt, r_drt, r_art, r_thr, r_cV0, r_cV1, r_cV2, r_cV3, r_cV4, r_cV5, r_cI0, r_cS0, r_cS1, r_cS2, r_cS3, r_cX0, r_cX1, r_cX2, r_cX3, r_rc, r_oi, r_refx, r_i10, r_i01, r_rfs, r_mem0, r_memc, r_beq, r_kl0, r_klz, r_kl1i, r_kl1r, r_kl1n, r_kl1l, r_kl1d, List.length_cons, List.length_nil, List.getElem?_cons_zero, List.getElem?_cons_succ, List.set_cons_zero, List.set_cons_succ, true_and, and_true, not_true, not_false_eq_true, false_implies, true_implies, or_true, true_or, or_false, false_or, Bool.or_false, Bool.false_or, decide_false, decide_true, Nat.reduceLT, Nat.reduceLeDiff, Nat.reduceAdd, Nat.reduceSub, ↓reduceIte, Nat.reduceEqDiff, Nat.lt_add_one]
  have e0 : I' A0.g = I A0.g := q1 _ (hdj _ z_gm)
  rw [e0]
  have f3 : fr I (mz_u (mz_u (mz_u I' sn.g 7 (I A0.g 7)) sn.g 8 (I A0.g 8)) me 4 1) (me :: sn.all) := fr_u2 (fr_u2 (fr_u2 (fr_tr q1 fr_refl (fun a ha => List.mem_cons_of_mem _ ha) (fun _ q => q)) (List.mem_cons_of_mem _ z_gm)) (List.mem_cons_of_mem _ z_gm)) List.mem_cons_self
  have hR2 := p_R_g78 (v := I A0.g 7) (w := I A0.g 8) hU q3
  refine h _ L' f3 q2 ⟨⟨m1, m3, hsn⟩, mz_u_eq, fun _ => ⟨p_R_fr hR2 (fun a ha => mz_u_ne (fun e => hme (e ▸ ha))) rfl, ?_, ?_⟩⟩ (fun i hi => ?_)
  · rw [mz_u_ne hne2, mz_u_nk (by decide), mz_u_eq]
  · rw [mz_u_ne hne2, mz_u_eq]
  · rw [mz_u_nk hi, mz_u_ne (Ne.symm hne2), mz_u_ne (Ne.symm hne2), q1 _ hme]
theorem c_goSnap {me B : Nat} {sn A0 : z_A} {m : Nat → Int32} {has : Bool} {t0 t1 : Int32} (hN : p_N T I L me sn has B m t0 t1) (hA0 : p_GA T A0) (hdj : z_dj sn A0)
    (h0 : has = false → K (some (.int 0)) T I L)
    (h : has = true → ∀ I' L', fr I I' (me :: A0.all) → fr L L' [A0.b] → p_R T I' L' A0 B m → I' A0.g 7 = t0 → I' A0.g 8 = t1 → (∀ i, i ≠ 2 → I' me i = I me i) → I' me 2 = 0 → K (some (.int 1)) T I' L') : mz_Ctr G M_X6_goToSnapshot [.ref me, .ref A0.g] T I L K := by
  refine mz_apartC fun hU => ?_
  obtain ⟨⟨m1, m3, hsn⟩, hh, hR0⟩ := id hN
  have g1 : (A0.g, 0, 4) ∈ T.1 := hA0.1.1
  have g2 : (sn.g, 0, 4) ∈ T.1 := hsn.1.1
  have hme : me ∉ A0.all := z_out hU hA0 m1 (by decide)
  have hne : A0.g ≠ me := mz_ne hU g1 m1 (by decide)
  refine mz_ofl mk_X6_goToSnapshot rfl (Nat.le_of_ble_eq_true rfl) (Nat.le_of_ble_eq_true rfl) [some (.ref me), some (.ref A0.g)] rfl ?_
  refine mz_vc ok_X6_goToSnapshot [] [(), (), (), (), (), (), (), (), (), (), (), (), (), (), (), (), (), (), (), (), (), (), (), (), (), (), (), (), (), ()] ?_
  simp only [cd_X6_goToSnapshot, m1, m3, g1, g2, hh, b2i_0, b2i_or, r_rn0, r_rnc, r_vk0, r_vkc, r_vks, r_kci, r_kcv, r_ild, r_ald, r_lld, r_dld, r_Li, r_La, r_Ll, r_Ld, r_Ki, r_Ka, r_Kl, r_Kd, r_Kn, r_ist, r_ast, r_lst, r_dst, r_iinc, r_int, r_lng, r_dbl, r_i2, r_i1, r_l2, r_lsh, r_i2z, r_l2z, r_i2l, r_l2i, r_i2d, r_lcmp, r_ddiv, r_dcmpl, r_dup, r_dup2, r_pop, r_one_int, r_one_ref, r_go, r_if, r_ic, r_tsw, r_lsw, r_sw0, r_swc, r_lk0, r_lkc, r_kp, r_gI, r_gL, r_gR, r_pI, r_pZ, r_pL, r_pR, r_gs, r_ia, r_ca, r_za, r_la, r_da, r_aa, r_ias, r_cas, r_zas, r_las, r_das, r_aas, r_acp, r_new, r_nwa, r_nwq, r_ret, r_irt, r_zrt, r_lrt, r_drt, r_art, r_thr, r_cV0, r_cV1, r_cV2, r_cV3, r_cV4, r_cV5, r_cI0, r_cS0, r_cS1, r_cS2, r_cS3, r_cX0, r_cX1, r_cX2, r_cX3, r_rc, r_oi, r_refx, r_i10, r_i01, r_rfs, r_mem0, r_memc, r_beq, r_kl0, r_klz, r_kl1i, r_kl1r, r_kl1n, r_kl1l, r_kl1d, List.length_cons, List.length_nil, List.getElem?_cons_zero, List.getElem?_cons_succ, List.set_cons_zero, List.set_cons_succ, true_and, and_true, not_true, not_false_eq_true, false_implies, true_implies, or_true, true_or, or_false, false_or, Bool.or_false, Bool.false_or, decide_false, decide_true, Nat.reduceLT, Nat.reduceLeDiff, Nat.reduceAdd, Nat.reduceSub, ↓reduceIte, Nat.reduceEqDiff, Nat.lt_add_one]
  refine ⟨fun q => ?_, fun q => ?_⟩
  · have h9 := h0 q
    subst q; exact ⟨Or.inl rfl, h9⟩
  have hq : has = true := by simpa using q
  obtain ⟨hR, k7, k8⟩ := hR0 hq
  refine c_copyG hA0 hR (fun I' L' q1 q2 q3 q4 => ?_)
  simp only [cd_X6_goToSnapshot, m1, m3, g1, g2, r_rn0, r_rnc, r_vk0, r_vkc, r_vks, r_kci, r_kcv, r_ild, r_ald, r_lld, r_dld, r_Li, r_La, r_Ll, r_Ld, r_Ki, r_Ka, r_Kl, r_Kd, r_Kn, r_ist, r_ast, r_lst, r_dst, r_iinc, r_int, r_lng, r_dbl, r_i2, r_i1, r_l2, r_lsh, r_i2z, r_l2z, r_i2l, r_l2i, r_i2d, r_lcmp, r_ddiv, r_dcmpl, r_dup, r_dup2, r_pop, r_one_int, r_one_ref, r_go, r_if, r_ic, r_tsw, r_lsw, r_sw0, r_swc, r_lk0, r_lkc, r_kp, r_gI, r_gL, r_gR, r_pI, r_pZ, r_pL, r_pR, r_gs, r_ia, r_ca, r_za, r_la, r_da, r_aa, r_ias, r_cas, r_zas, r_las, r_das, r_aas, r_acp, r_new, r_nwa, r_nwq, r_ret, r_irt, r_zrt, r_lrt, r_drt, r_art, r_thr, r_cV0, r_cV1, r_cV2, r_cV3, r_cV4, r_cV5, r_cI0, r_cS0, r_cS1, r_cS2, r_cS3, r_cX0, r_cX1, r_cX2, r_cX3, r_rc, r_oi, r_refx, r_i10, r_i01, r_rfs, r_mem0, r_memc, r_beq, r_kl0, r_klz, r_kl1i, r_kl1r, r_kl1n, r_kl1l, r_kl1d, List.length_cons, List.length_nil, List.getElem?_cons_zero, List.getElem?_cons_succ, List.set_cons_zero, List.set_cons_succ, true_and, and_true, not_true, not_false_eq_true, false_implies, true_implies, or_true, true_or, or_false, false_or, Bool.or_false, Bool.false_or, decide_false, decide_true, Nat.reduceLT, Nat.reduceLeDiff, Nat.reduceAdd, Nat.reduceSub, ↓reduceIte, Nat.reduceEqDiff, Nat.lt_add_one]
  refine c_copySet g1 g2 ?_
  simp only [cd_X6_goToSnapshot, m1, m3, g1, g2, r_rn0, r_rnc, r_vk0, r_vkc, r_vks, r_kci, r_kcv, r_ild, r_ald, r_lld, r_dld, r_Li, r_La, r_Ll, r_Ld, r_Ki, r_Ka, r_Kl, r_Kd, r_Kn, r_ist, r_ast, r_lst, r_dst, r_iinc, r_int, r_lng, r_dbl, r_i2, r_i1, r_l2, r_lsh, r_i2z, r_l2z, r_i2l, r_l2i, r_i2d, r_lcmp, r_ddiv, r_dcmpl, r_dup, r_dup2, r_pop, r_one_int, r_one_ref, r_go, r_if, r_ic, r_tsw, r_lsw, r_sw0, r_swc, r_lk0, r_lkc, r_kp, r_gI, r_gL, r_gR, r_pI, r_pZ, r_pL, r_pR, r_gs, r_ia, r_ca, r_za, r_la, r_da, r_aa, r_ias, r_cas, r_zas, r_las, r_das, r_aas, r_acp, r_new, r_nwa, r_nwq, r_ret, r_irt, r_zrt, r_lrt, r_drt, r_art, r_thr, r_cV0, r_cV1, r_cV2, r_cV3, r_cV4, r_cV5, r_cI0, r_cS0, r_cS1, r_cS2, r_cS3, r_cX0, r_cX1, r_cX2, r_cX3, r_rc, r_oi, r_refx, r_i10, r_i01, r_rfs, r_mem0, r_memc, r_beq, r_kl0, r_klz, r_kl1i, r_kl1r, r_kl1n, r_kl1l, r_kl1d, List.length_cons, List.length_nil, List.getElem?_cons_zero, List.getElem?_cons_succ, List.set_cons_zero, List.set_cons_succ, true_and, and_true, not_true, not_false_eq_true, false_implies, true_implies, or_true, true_or, or_false, false_or, Bool.or_false, Bool.false_or, decide_false, decide_true, Nat.reduceLT, Nat.reduceLeDiff, Nat.reduceAdd, Nat.reduceSub, ↓reduceIte, Nat.reduceEqDiff, Nat.lt_add_one]
  refine c_forget m1 ?_
  simp only [cd_X6_goToSnapshot, m1, m3, g1, g2, r_rn0, r_rnc, r_vk0, r_vkc, r_vks, r_kci, r_kcv, r_ild, r_ald, r_lld, r_dld, r_Li, r_La, r_Ll, r_Ld, r_Ki, r_Ka, r_Kl, r_Kd, r_Kn, r_ist, r_ast, r_lst, r_dst, r_iinc, r_int, r_lng, r_dbl, r_i2, r_i1, r_l2, r_lsh, r_i2z, r_l2z, r_i2l, r_l2i, r_i2d, r_lcmp, r_ddiv, r_dcmpl, r_dup, r_dup2, r_pop, r_one_int, r_one_ref, r_go, r_if, r_ic, r_tsw, r_lsw, r_sw0, r_swc, r_lk0, r_lkc, r_kp, r_gI, r_gL, r_gR, r_pI, r_pZ, r_pL, r_pR, r_gs, r_ia, r_ca, r_za, r_la, r_da, r_aa, r_ias, r_cas, r_zas, r_las, r_das, r_aas, r_acp, r_new, r_nwa, r_nwq, r_ret, r_irt, r_zrt, r_lrt, r_drt, r_art, r_thr, r_cV0, r_cV1, r_cV2, r_cV3, r_cV4, r_cV5, r_cI0, r_cS0, r_cS1, r_cS2, r_cS3, r_cX0, r_cX1, r_cX2, r_cX3, r_rc, r_oi, r_refx, r_i10, r_i01, r_rfs, r_mem0, r_memc, r_beq, r_kl0, r_klz, r_kl1i, r_kl1r, r_kl1n, r_kl1l, r_kl1d, List.length_cons, List.length_nil, List.getElem?_cons_zero, List.getElem?_cons_succ, List.set_cons_zero, List.set_cons_succ, true_and, and_true, not_true, not_false_eq_true, false_implies, true_implies, or_true, true_or, or_false, false_or, Bool.or_false, Bool.false_or, decide_false, decide_true, Nat.reduceLT, Nat.reduceLeDiff, Nat.reduceAdd, Nat.reduceSub, ↓reduceIte, Nat.reduceEqDiff, Nat.lt_add_one]
  have e0 : I' sn.g = I sn.g := q1 _ (hdj _ z_gm)
  rw [e0, k7, k8]
  have e4 : mz_u (mz_u (mz_u I' A0.g 7 t0) A0.g 8 t1) me 2 0 me 4 = 1 := by
    rw [mz_u_nk (by decide), mz_u_ne (Ne.symm hne), mz_u_ne (Ne.symm hne), q1 _ hme, hh, hq]; rfl
  rw [e4]
  have hR2 := p_R_g78 (v := t0) (w := t1) hU q3
  have f3 : fr I (mz_u (mz_u (mz_u I' A0.g 7 t0) A0.g 8 t1) me 2 0) (me :: A0.all) := fr_u2 (fr_u2 (fr_u2 (fr_tr q1 fr_refl (fun a ha => List.mem_cons_of_mem _ ha) (fun _ q => q)) (List.mem_cons_of_mem _ z_gm)) (List.mem_cons_of_mem _ z_gm)) List.mem_cons_self
  refine ⟨by decide, ?_⟩
  refine h hq _ L' f3 q2 (p_R_fr hR2 (fun a ha => mz_u_ne (fun e => hme (e ▸ ha))) rfl) ?_ ?_ (fun i hi => ?_) mz_u_eq
  · rw [mz_u_ne hne, mz_u_nk (by decide), mz_u_eq]
  · rw [mz_u_ne hne, mz_u_eq]
  · rw [mz_u_nk hi, mz_u_ne (Ne.symm hne), mz_u_ne (Ne.symm hne), q1 _ hme]
end MEM
