/-! the text buffer -/
section TEXT
variable {G : mz_G} {K : mz_K} {T : mz_T} {I : mz_I} {L : mz_L}
def t_dg (x : Int32) : Bool := decide (50 ≤ x) && decide (x ≤ 57)
def t_ls : List Int32 := [76, 82, 97, 99, 100, 104, 108, 114, 116, 120]
def t_lt (x : Int32) : Bool := decide (x ∈ t_ls)
theorem c_isDigit {x : Int32} (h : K (some (.int (b2i (t_dg x)))) T I L) : mz_Ctr G M_X5_isDigit [.int x] T I L K := by
  refine mz_ofl mk_X5_isDigit rfl (Nat.le_of_ble_eq_true rfl) (Nat.le_of_ble_eq_true rfl) [some (.int x)] rfl ?_
  refine mz_vc ok_X5_isDigit [] [(), (), (), (), (), (), (), (), (), (), (), (), (), (), (), (), (), (), (), (), (), (), (), (), (), (), (), (), (), ()] ?_
  simp only [cd_X5_isDigit, r_rn0, r_rnc, r_vk0, r_vkc, r_vks, r_kci, r_kcv, r_ild, r_ald, r_lld, r_dld, r_Li, r_La, r_Ll, r_Ld, r_Ki, r_Ka, r_Kl, r_Kd, r_Kn, r_ist, r_ast, r_lst, r_dst, r_iinc, r_int, r_lng, r_dbl, r_i2, r_i1, r_l2, r_lsh, r_i2z, r_l2z, r_i2l, r_l2i, r_i2d, r_lcmp, r_ddiv, r_dcmpl, r_dup, r_dup2, r_pop, r_one_int, r_one_ref, r_go, r_if, r_ic, r_tsw, r_lsw, r_sw0, r_swc, r_lk0, r_lkc, r_kp, r_gI, r_gL, r_gR, r_pI, r_pZ, r_pL, r_pR, r_gs, r_ia, r_ca, r_za, r_la, r_da, r_aa, r_ias, r_cas, r_zas, r_las, r_das, r_aas, r_acp, r_new, r_nwa, r_nwq, r_ret, r_irt, r_zrt, r_lrt, r_drt, r_art, r_thr, r_cV0, r_cV1, r_cV2, r_cV3, r_cV4, r_cV5, r_cI0, r_cS0, r_cS1, r_cS2, r_cS3, r_cX0, r_cX1, r_cX2, r_cX3, r_rc, r_oi, r_refx, r_i10, r_i01, r_rfs, r_mem0, r_memc, r_beq, r_kl0, r_klz, r_kl1i, r_kl1r, r_kl1n, r_kl1l, r_kl1d, List.length_cons, List.length_nil, List.getElem?_cons_zero, List.getElem?_cons_succ, List.set_cons_zero, List.set_cons_succ, true_and, and_true, not_true, not_false_eq_true, false_implies, true_implies, or_true, true_or, or_false, false_or, Bool.or_false, Bool.false_or, decide_false, decide_true, Nat.reduceLT, Nat.reduceLeDiff, Nat.reduceAdd, Nat.reduceSub, ↓reduceIte, Nat.reduceEqDiff, Nat.lt_add_one]
  refine ⟨fun q => ?_, fun q => ⟨fun q2 => ?_, fun q2 => ?_⟩⟩
  · have : t_dg x = false := by unfold t_dg; rw [decide_eq_false (Int32.not_le.mpr q)]; rfl
    rw [this] at h; exact h
  · have : t_dg x = false := by unfold t_dg; rw [decide_eq_false (Int32.not_le.mpr q2), Bool.and_false]
    rw [this] at h; exact h
  · have : t_dg x = true := by unfold t_dg; rw [decide_eq_true (Int32.not_lt.mp q), decide_eq_true (Int32.not_lt.mp q2)]; rfl
    rw [this] at h; exact h
theorem c_isLetter {x : Int32} (h : K (some (.int (b2i (t_lt x)))) T I L) : mz_Ctr G M_X5_isLetter [.int x] T I L K := by
  refine mz_ofl mk_X5_isLetter rfl (Nat.le_of_ble_eq_true rfl) (Nat.le_of_ble_eq_true rfl) [some (.int x)] rfl ?_
  refine mz_vc ok_X5_isLetter [] [(), (), (), (), (), (), (), (), (), (), (), (), (), (), (), (), (), (), (), (), (), (), (), (), (), (), (), (), (), ()] ?_
  simp only [cd_X5_isLetter, r_rn0, r_rnc, r_vk0, r_vkc, r_vks, r_kci, r_kcv, r_ild, r_ald, r_lld, r_dld, r_Li, r_La, r_Ll, r_Ld, r_Ki, r_Ka, r_Kl, r_Kd, r_Kn, r_ist, r_ast, r_lst, r_dst, r_iinc, r_int, r_lng, r_dbl, r_i2, r_i1, r_l2, r_lsh, r_i2z, r_l2z, r_i2l, r_l2i, r_i2d, r_lcmp, r_ddiv, r_dcmpl, r_dup, r_dup2, r_pop, r_one_int, r_one_ref, r_go, r_if, r_ic, r_tsw, r_lsw, r_sw0, r_swc, r_lk0, r_lkc, r_kp, r_gI, r_gL, r_gR, r_pI, r_pZ, r_pL, r_pR, r_gs, r_ia, r_ca, r_za, r_la, r_da, r_aa, r_ias, r_cas, r_zas, r_las, r_das, r_aas, r_acp, r_new, r_nwa, r_nwq, r_ret, r_irt, r_zrt, r_lrt, r_drt, r_art, r_thr, r_cV0, r_cV1, r_cV2, r_cV3, r_cV4, r_cV5, r_cI0, r_cS0, r_cS1, r_cS2, r_cS3, r_cX0, r_cX1, r_cX2, r_cX3, r_rc, r_oi, r_refx, r_i10, r_i01, r_rfs, r_mem0, r_memc, r_beq, r_kl0, r_klz, r_kl1i, r_kl1r, r_kl1n, r_kl1l, r_kl1d, List.length_cons, List.length_nil, List.getElem?_cons_zero, List.getElem?_cons_succ, List.set_cons_zero, List.set_cons_succ, true_and, and_true, not_true, not_false_eq_true, false_implies, true_implies, or_true, true_or, or_false, false_or, Bool.or_false, Bool.false_or, decide_false, decide_true, Nat.reduceLT, Nat.reduceLeDiff, Nat.reduceAdd, Nat.reduceSub, ↓reduceIte, Nat.reduceEqDiff, Nat.lt_add_one]
  have tt : ∀ (n : Int32) (k : Int), n ∈ t_ls → n.toInt = k → x.toInt = k → K (some (.int 1)) T I L := by
    intro n k hn e1 e2
    have e : x = n := Int32.toInt_inj.mp (e2.trans e1.symm)
    have : t_lt x = true := decide_eq_true (by rw [e]; exact hn)
    rw [this] at h; exact h
  refine ⟨tt 76 76 (by decide) rfl, fun q0 => ⟨tt 82 82 (by decide) rfl, fun q1 => ⟨tt 97 97 (by decide) rfl, fun q2 => ⟨tt 99 99 (by decide) rfl, fun q3 => ⟨tt 100 100 (by decide) rfl, fun q4 => ⟨tt 104 104 (by decide) rfl, fun q5 => ⟨tt 108 108 (by decide) rfl, fun q6 => ⟨tt 114 114 (by decide) rfl, fun q7 => ⟨tt 116 116 (by decide) rfl, fun q8 => ⟨tt 120 120 (by decide) rfl, fun q9 => ?_⟩⟩⟩⟩⟩⟩⟩⟩⟩⟩
  have : t_lt x = false := decide_eq_false (fun hm => by
    simp only [t_ls, List.mem_cons, List.not_mem_nil, or_false] at hm
    rcases hm with e | e | e | e | e | e | e | e | e | e
    · exact q0 (by rw [e]; rfl)
    · exact q1 (by rw [e]; rfl)
    · exact q2 (by rw [e]; rfl)
    · exact q3 (by rw [e]; rfl)
    · exact q4 (by rw [e]; rfl)
    · exact q5 (by rw [e]; rfl)
    · exact q6 (by rw [e]; rfl)
    · exact q7 (by rw [e]; rfl)
    · exact q8 (by rw [e]; rfl)
    · exact q9 (by rw [e]; rfl))
  rw [this] at h; exact h
/-- the objects of a text: itself, its signs -/
def p_Tx (T : mz_T) (tx ta : Nat) : Prop := (tx, 0, 5) ∈ T.1 ∧ T.2 tx 0 = some ta ∧ (ta, 5, 60) ∈ T.1
theorem c_addT {tx ta n : Nat} {x : Int32} (hT : p_Tx T tx ta) (hn : I tx 3 = zI n) (hn9 : n ≤ 60) (h0 : n = 60 → K (some (.int 0)) T I L)
    (h1 : n < 60 → ∀ I', fr I I' [tx, ta] → I' tx 3 = zI ((n + 1 : Nat) : Int) → (∀ i, i ≠ 3 → I' tx i = I tx i) → (∀ i, I' ta i = if i = n then vp_nar .char x else I ta i) → K (some (.int 1)) T I' L) : mz_Ctr G M_X5_add [.ref tx, .int x] T I L K := by
  refine mz_apartC fun hU => ?_
  obtain ⟨t1, t2, t3⟩ := id hT
  have ne : tx ≠ ta := mz_ne hU t1 t3 (by decide)
  refine mz_ofl mk_X5_add rfl (Nat.le_of_ble_eq_true rfl) (Nat.le_of_ble_eq_true rfl) [some (.ref tx), some (.int x)] rfl ?_
  refine mz_vc ok_X5_add [] [(), (), (), (), (), (), (), (), (), (), (), (), (), (), (), (), (), (), (), (), (), (), (), (), (), (), (), (), (), ()] ?_
  simp only [cd_X5_add, t1, t2, hn, r_rn0, r_rnc, r_vk0, r_vkc, r_vks, r_kci, r_kcv, r_ild, r_ald, r_lld, r_dld, r_Li, r_La, r_Ll, r_Ld, r_Ki, r_Ka, r_Kl, r_Kd, r_Kn, r_ist, r_ast, r_lst, r_dst, r_iinc, r_int, r_lng, r_dbl, r_i2, r_i1, r_l2, r_lsh, r_i2z, r_l2z, r_i2l, r_l2i, r_i2d, r_lcmp, r_ddiv, r_dcmpl, r_dup, r_dup2, r_pop, r_one_int, r_one_ref, r_go, r_if, r_ic, r_tsw, r_lsw, r_sw0, r_swc, r_lk0, r_lkc, r_kp, r_gI, r_gL, r_gR, r_pI, r_pZ, r_pL, r_pR, r_gs, r_ia, r_ca, r_za, r_la, r_da, r_aa, r_ias, r_cas, r_zas, r_las, r_das, r_aas, r_acp, r_new, r_nwa, r_nwq, r_ret, r_irt, r_zrt, r_lrt, r_drt, r_art, r_thr, r_cV0, r_cV1, r_cV2, r_cV3, r_cV4, r_cV5, r_cI0, r_cS0, r_cS1, r_cS2, r_cS3, r_cX0, r_cX1, r_cX2, r_cX3, r_rc, r_oi, r_refx, r_i10, r_i01, r_rfs, r_mem0, r_memc, r_beq, r_kl0, r_klz, r_kl1i, r_kl1r, r_kl1n, r_kl1l, r_kl1d, List.length_cons, List.length_nil, List.getElem?_cons_zero, List.getElem?_cons_succ, List.set_cons_zero, List.set_cons_succ, true_and, and_true, not_true, not_false_eq_true, false_implies, true_implies, or_true, true_or, or_false, false_or, Bool.or_false, Bool.false_or, decide_false, decide_true, Nat.reduceLT, Nat.reduceLeDiff, Nat.reduceAdd, Nat.reduceSub, ↓reduceIte, Nat.reduceEqDiff, Nat.lt_add_one]
  rw [l_0, show (60 : Int32) = zI 60 from rfl, z_lt (by omega) (by omega), z_lt (by omega) (by omega), z_nat (by omega), Int.toNat_natCast]
  refine ⟨fun q => absurd q (by omega), fun _ => ⟨fun q => ?_, fun q => h0 (by omega)⟩⟩
  rw [mz_u_ne ne, hn, z_1]
  refine ⟨⟨60, t3, z_in (by omega) (by omega) (by decide)⟩, ?_⟩
  refine h1 (by omega) _ ?_ mz_u_eq (fun i hi => ?_) (fun i => ?_)
  · exact fr_u2 (fr_u2 fr_refl (by simp)) (by simp)
  · rw [mz_u_nk hi, mz_u_ne ne]
  · rw [mz_u_ne (Ne.symm ne), mz_u_at]; simp
/-- where a text errs: from its i-th sign on, whether a digit stands ahead -/
def t_go (cs : Nat → Int32) (n : Nat) : Nat → Nat → Bool → Int32
  | 0, _, af => if n = 0 ∨ af = true then zI n else -1
  | k + 1, i, af => if (if t_dg (cs i) then af else !t_lt (cs i)) = true then zI i else t_go cs n k (i + 1) (t_dg (cs i))
def t_fault (cs : Nat → Int32) (n : Nat) : Int32 := t_go cs n n 0 false
theorem c_findF {tx ta n : Nat} (hT : p_Tx T tx ta) (hn : I tx 1 = zI n) (hn9 : n ≤ 60) (h : K (some (.int (t_fault (I ta) n))) T I L) : mz_Ctr G M_X5_findFault [.ref tx] T I L K := by
  obtain ⟨t1, t2, t3⟩ := id hT
  have loop : ∀ k i af, i + k = n → t_go (I ta) n k i af = t_fault (I ta) n → mz_W G M_X5_findFault K mz_nX 4 [some (.ref tx), some (.int (b2i af)), some (.int (zI i)), none] [] T I L (0, 0) := by
    intro k
    induction k with
    | zero =>
      intro i af hi e
      have hi : i = n := by omega
      subst hi
      unfold t_go at e
      refine mz_vc ok_X5_findFault [4] [(), (), (), (), (), (), (), (), (), (), (), (), (), (), (), (), (), (), (), (), (), (), (), (), (), (), (), (), (), ()] ?_
      simp only [cd_X5_findFault, t1, t2, hn, b2i_0, r_rn0, r_rnc, r_vk0, r_vkc, r_vks, r_kci, r_kcv, r_ild, r_ald, r_lld, r_dld, r_Li, r_La, r_Ll, r_Ld, r_Ki, r_Ka, r_Kl, r_Kd, r_Kn, r_ist, r_ast, r_lst, r_dst, r_iinc, r_int, r_lng, r_dbl, r_i2, r_i1, r_l2, r_lsh, r_i2z, r_l2z, r_i2l, r_l2i, r_i2d, r_lcmp, r_ddiv, r_dcmpl, r_dup, r_dup2, r_pop, r_one_int, r_one_ref, r_go, r_if, r_ic, r_tsw, r_lsw, r_sw0, r_swc, r_lk0, r_lkc, r_kp, r_gI, r_gL, r_gR, r_pI, r_pZ, r_pL, r_pR, r_gs, r_ia, r_ca, r_za, r_la, r_da, r_aa, r_ias, r_cas, r_zas, r_las, r_das, r_aas, r_acp, r_new, r_nwa, r_nwq, r_ret, r_irt, r_zrt, r_lrt, r_drt, r_art, r_thr, r_cV0, r_cV1, r_cV2, r_cV3, r_cV4, r_cV5, r_cI0, r_cS0, r_cS1, r_cS2, r_cS3, r_cX0, r_cX1, r_cX2, r_cX3, r_rc, r_oi, r_refx, r_i10, r_i01, r_rfs, r_mem0, r_memc, r_beq, r_kl0, r_klz, r_kl1i, r_kl1r, r_kl1n, r_kl1l, r_kl1d, List.length_cons, List.length_nil, List.getElem?_cons_zero, List.getElem?_cons_succ, List.set_cons_zero, List.set_cons_succ, true_and, and_true, not_true, not_false_eq_true, false_implies, true_implies, or_true, true_or, or_false, false_or, Bool.or_false, Bool.false_or, decide_false, decide_true, Nat.reduceLT, Nat.reduceLeDiff, Nat.reduceAdd, Nat.reduceSub, ↓reduceIte, Nat.reduceEqDiff, Nat.lt_add_one]
      refine ⟨fun _ => ?_, fun q => absurd (Int32.le_refl _) q⟩
      rw [l_0, z_eq (by omega) (by omega)]
      refine ⟨fun q => ?_, fun q => ?_⟩
      · rw [if_pos (Or.inl (by omega))] at e
        rw [e]; exact h
      · refine ⟨fun q2 => ?_, fun q2 => ?_⟩
        · rw [if_neg (fun q3 => q3.elim (fun q4 => by omega) (fun q4 => by rw [q2] at q4; cases q4))] at e
          rw [e]; exact h
        · rw [if_pos (Or.inr (by simpa using q2))] at e
          rw [e]; exact h
    | succ k ih =>
      intro i af hi e
      unfold t_go at e
      refine mz_vc ok_X5_findFault [4] [(), (), (), (), (), (), (), (), (), (), (), (), (), (), (), (), (), (), (), (), (), (), (), (), (), (), (), (), (), ()] ?_
      simp only [cd_X5_findFault, t1, t2, hn, b2i_0, r_rn0, r_rnc, r_vk0, r_vkc, r_vks, r_kci, r_kcv, r_ild, r_ald, r_lld, r_dld, r_Li, r_La, r_Ll, r_Ld, r_Ki, r_Ka, r_Kl, r_Kd, r_Kn, r_ist, r_ast, r_lst, r_dst, r_iinc, r_int, r_lng, r_dbl, r_i2, r_i1, r_l2, r_lsh, r_i2z, r_l2z, r_i2l, r_l2i, r_i2d, r_lcmp, r_ddiv, r_dcmpl, r_dup, r_dup2, r_pop, r_one_int, r_one_ref, r_go, r_if, r_ic, r_tsw, r_lsw, r_sw0, r_swc, r_lk0, r_lkc, r_kp, r_gI, r_gL, r_gR, r_pI, r_pZ, r_pL, r_pR, r_gs, r_ia, r_ca, r_za, r_la, r_da, r_aa, r_ias, r_cas, r_zas, r_las, r_das, r_aas, r_acp, r_new, r_nwa, r_nwq, r_ret, r_irt, r_zrt, r_lrt, r_drt, r_art, r_thr, r_cV0, r_cV1, r_cV2, r_cV3, r_cV4, r_cV5, r_cI0, r_cS0, r_cS1, r_cS2, r_cS3, r_cX0, r_cX1, r_cX2, r_cX3, r_rc, r_oi, r_refx, r_i10, r_i01, r_rfs, r_mem0, r_memc, r_beq, r_kl0, r_klz, r_kl1i, r_kl1r, r_kl1n, r_kl1l, r_kl1d, List.length_cons, List.length_nil, List.getElem?_cons_zero, List.getElem?_cons_succ, List.set_cons_zero, List.set_cons_succ, true_and, and_true, not_true, not_false_eq_true, false_implies, true_implies, or_true, true_or, or_false, false_or, Bool.or_false, Bool.false_or, decide_false, decide_true, Nat.reduceLT, Nat.reduceLeDiff, Nat.reduceAdd, Nat.reduceSub, ↓reduceIte, Nat.reduceEqDiff, Nat.lt_add_one]
      refine ⟨z_no (by omega) (by omega) (by omega), fun _ => ⟨z_no (b := 60) (by omega) (by omega) (by omega), fun _ => ?_⟩⟩
      rw [z_nat (by omega), Int.toNat_natCast]
      refine ⟨⟨60, t3, z_in (by omega) (by omega) (by decide)⟩, c_isDigit ?_⟩
      simp only [cd_X5_findFault, t1, t2, hn, b2i_0, r_rn0, r_rnc, r_vk0, r_vkc, r_vks, r_kci, r_kcv, r_ild, r_ald, r_lld, r_dld, r_Li, r_La, r_Ll, r_Ld, r_Ki, r_Ka, r_Kl, r_Kd, r_Kn, r_ist, r_ast, r_lst, r_dst, r_iinc, r_int, r_lng, r_dbl, r_i2, r_i1, r_l2, r_lsh, r_i2z, r_l2z, r_i2l, r_l2i, r_i2d, r_lcmp, r_ddiv, r_dcmpl, r_dup, r_dup2, r_pop, r_one_int, r_one_ref, r_go, r_if, r_ic, r_tsw, r_lsw, r_sw0, r_swc, r_lk0, r_lkc, r_kp, r_gI, r_gL, r_gR, r_pI, r_pZ, r_pL, r_pR, r_gs, r_ia, r_ca, r_za, r_la, r_da, r_aa, r_ias, r_cas, r_zas, r_las, r_das, r_aas, r_acp, r_new, r_nwa, r_nwq, r_ret, r_irt, r_zrt, r_lrt, r_drt, r_art, r_thr, r_cV0, r_cV1, r_cV2, r_cV3, r_cV4, r_cV5, r_cI0, r_cS0, r_cS1, r_cS2, r_cS3, r_cX0, r_cX1, r_cX2, r_cX3, r_rc, r_oi, r_refx, r_i10, r_i01, r_rfs, r_mem0, r_memc, r_beq, r_kl0, r_klz, r_kl1i, r_kl1r, r_kl1n, r_kl1l, r_kl1d, List.length_cons, List.length_nil, List.getElem?_cons_zero, List.getElem?_cons_succ, List.set_cons_zero, List.set_cons_succ, true_and, and_true, not_true, not_false_eq_true, false_implies, true_implies, or_true, true_or, or_false, false_or, Bool.or_false, Bool.false_or, decide_false, decide_true, Nat.reduceLT, Nat.reduceLeDiff, Nat.reduceAdd, Nat.reduceSub, ↓reduceIte, Nat.reduceEqDiff, Nat.lt_add_one]
      rw [z_nat (by omega), Int.toNat_natCast, z_1]
      refine ⟨fun q => ⟨⟨60, t3, z_in (by omega) (by omega) (by decide)⟩, c_isLetter ?_⟩, fun q => ⟨fun q2 => ?_, fun q2 => ?_⟩⟩
      · simp only [cd_X5_findFault, t1, t2, hn, b2i_0, r_rn0, r_rnc, r_vk0, r_vkc, r_vks, r_kci, r_kcv, r_ild, r_ald, r_lld, r_dld, r_Li, r_La, r_Ll, r_Ld, r_Ki, r_Ka, r_Kl, r_Kd, r_Kn, r_ist, r_ast, r_lst, r_dst, r_iinc, r_int, r_lng, r_dbl, r_i2, r_i1, r_l2, r_lsh, r_i2z, r_l2z, r_i2l, r_l2i, r_i2d, r_lcmp, r_ddiv, r_dcmpl, r_dup, r_dup2, r_pop, r_one_int, r_one_ref, r_go, r_if, r_ic, r_tsw, r_lsw, r_sw0, r_swc, r_lk0, r_lkc, r_kp, r_gI, r_gL, r_gR, r_pI, r_pZ, r_pL, r_pR, r_gs, r_ia, r_ca, r_za, r_la, r_da, r_aa, r_ias, r_cas, r_zas, r_las, r_das, r_aas, r_acp, r_new, r_nwa, r_nwq, r_ret, r_irt, r_zrt, r_lrt, r_drt, r_art, r_thr, r_cV0, r_cV1, r_cV2, r_cV3, r_cV4, r_cV5, r_cI0, r_cS0, r_cS1, r_cS2, r_cS3, r_cX0, r_cX1, r_cX2, r_cX3, r_rc, r_oi, r_refx, r_i10, r_i01, r_rfs, r_mem0, r_memc, r_beq, r_kl0, r_klz, r_kl1i, r_kl1r, r_kl1n, r_kl1l, r_kl1d, List.length_cons, List.length_nil, List.getElem?_cons_zero, List.getElem?_cons_succ, List.set_cons_zero, List.set_cons_succ, true_and, and_true, not_true, not_false_eq_true, false_implies, true_implies, or_true, true_or, or_false, false_or, Bool.or_false, Bool.false_or, decide_false, decide_true, Nat.reduceLT, Nat.reduceLeDiff, Nat.reduceAdd, Nat.reduceSub, ↓reduceIte, Nat.reduceEqDiff, Nat.lt_add_one]
        rw [q] at e ⊢
        refine ⟨fun q2 => ?_, fun q2 => ?_⟩
        · have q2 : t_lt (I ta i) = true := by simpa using q2
          rw [q2] at e
          rw [z_1]
          exact mz_forget (ih (i + 1) _ (by omega) e) rfl (mz_fg_s (mz_fg_s (mz_fg_s (mz_fg_n mz_fg_0))))
        · have q2 : t_lt (I ta i) = false := by simpa using q2
          rw [q2] at e
          have e : zI (i : Int) = t_fault (I ta) n := e
          rw [e]; exact h
      · have q : t_dg (I ta i) = true := by simpa using q
        rw [q] at e ⊢
        rw [q2] at e
        exact mz_forget (ih (i + 1) _ (by omega) e) rfl (mz_fg_s (mz_fg_s (mz_fg_s (mz_fg_n mz_fg_0))))
      · have q : t_dg (I ta i) = true := by simpa using q
        have q2 : af = true := by simpa using q2
        rw [q, q2] at e
        have e : zI (i : Int) = t_fault (I ta) n := e
        rw [e]; exact h
  refine mz_ofl mk_X5_findFault rfl (Nat.le_of_ble_eq_true rfl) (Nat.le_of_ble_eq_true rfl) [some (.ref tx), none, none, none] rfl ?_
  refine mz_vc ok_X5_findFault [4] [(), (), (), (), (), (), (), (), (), (), (), (), (), (), (), (), (), (), (), (), (), (), (), (), (), (), (), (), (), ()] ?_
  simp only [cd_X5_findFault, t1, t2, hn, r_rn0, r_rnc, r_vk0, r_vkc, r_vks, r_kci, r_kcv, r_ild, r_ald, r_lld, r_dld, r_Li, r_La, r_Ll, r_Ld, r_Ki, r_Ka, r_Kl, r_Kd, r_Kn, r_ist, r_ast, r_lst, r_dst, r_iinc, r_int, r_lng, r_dbl, r_i2, r_i1, r_l2, r_lsh, r_i2z, r_l2z, r_i2l, r_l2i, r_i2d, r_lcmp, r_ddiv, r_dcmpl, r_dup, r_dup2, r_pop, r_one_int, r_one_ref, r_go, r_if, r_ic, r_tsw, r_lsw, r_sw0, r_swc, r_lk0, r_lkc, r_kp, r_gI, r_gL, r_gR, r_pI, r_pZ, r_pL, r_pR, r_gs, r_ia, r_ca, r_za, r_la, r_da, r_aa, r_ias, r_cas, r_zas, r_las, r_das, r_aas, r_acp, r_new, r_nwa, r_nwq, r_ret, r_irt, r_zrt, r_lrt, r_drt, r_art, r_thr, r_cV0, r_cV1, r_cV2, r_cV3, r_cV4, r_cV5, r_cI0, r_cS0, r_cS1, r_cS2, r_cS3, r_cX0, r_cX1, r_cX2, r_cX3, r_rc, r_oi, r_refx, r_i10, r_i01, r_rfs, r_mem0, r_memc, r_beq, r_kl0, r_klz, r_kl1i, r_kl1r, r_kl1n, r_kl1l, r_kl1d, List.length_cons, List.length_nil, List.getElem?_cons_zero, List.getElem?_cons_succ, List.set_cons_zero, List.set_cons_succ, true_and, and_true, not_true, not_false_eq_true, false_implies, true_implies, or_true, true_or, or_false, false_or, Bool.or_false, Bool.false_or, decide_false, decide_true, Nat.reduceLT, Nat.reduceLeDiff, Nat.reduceAdd, Nat.reduceSub, ↓reduceIte, Nat.reduceEqDiff, Nat.lt_add_one]
  exact loop n 0 false (by omega) rfl
theorem c_finish {tx ta n : Nat} (hT : p_Tx T tx ta) (hn : I tx 3 = zI n) (hn9 : n ≤ 60)
    (h : ∀ I', fr I I' [tx] → I' tx 1 = zI n → I' tx 2 = t_fault (I ta) n → I' tx 3 = 0 → K (some (.int (b2i (decide (t_fault (I ta) n = -1))))) T I' L) : mz_Ctr G M_X5_finish [.ref tx] T I L K := by
  refine mz_apartC fun hU => ?_
  obtain ⟨t1, t2, t3⟩ := id hT
  have ne : ta ≠ tx := mz_ne hU t3 t1 (by decide)
  refine mz_ofl mk_X5_finish rfl (Nat.le_of_ble_eq_true rfl) (Nat.le_of_ble_eq_true rfl) [some (.ref tx)] rfl ?_
  refine mz_vc ok_X5_finish [] [(), (), (), (), (), (), (), (), (), (), (), (), (), (), (), (), (), (), (), (), (), (), (), (), (), (), (), (), (), ()] ?_
  simp only [cd_X5_finish, t1, t2, hn, r_rn0, r_rnc, r_vk0, r_vkc, r_vks, r_kci, r_kcv, r_ild, r_ald, r_lld, r_dld, r_Li, r_La, r_Ll, r_Ld, r_Ki, r_Ka, r_Kl, r_Kd, r_Kn, r_ist, r_ast, r_lst, r_dst, r_iinc, r_int, r_lng, r_dbl, r_i2, r_i1, r_l2, r_lsh, r_i2z, r_l2z, r_i2l, r_l2i, r_i2d, r_lcmp, r_ddiv, r_dcmpl, r_dup, r_dup2, r_pop, r_one_int, r_one_ref, r_go, r_if, r_ic, r_tsw, r_lsw, r_sw0, r_swc, r_lk0, r_lkc, r_kp, r_gI, r_gL, r_gR, r_pI, r_pZ, r_pL, r_pR, r_gs, r_ia, r_ca, r_za, r_la, r_da, r_aa, r_ias, r_cas, r_zas, r_las, r_das, r_aas, r_acp, r_new, r_nwa, r_nwq, r_ret, r_irt, r_zrt, r_lrt, r_drt, r_art, r_thr, r_cV0, r_cV1, r_cV2, r_cV3, r_cV4, r_cV5, r_cI0, r_cS0, r_cS1, r_cS2, r_cS3, r_cX0, r_cX1, r_cX2, r_cX3, r_rc, r_oi, r_refx, r_i10, r_i01, r_rfs, r_mem0, r_memc, r_beq, r_kl0, r_klz, r_kl1i, r_kl1r, r_kl1n, r_kl1l, r_kl1d, List.length_cons, List.length_nil, List.getElem?_cons_zero, List.getElem?_cons_succ, List.set_cons_zero, List.set_cons_succ, true_and, and_true, not_true, not_false_eq_true, false_implies, true_implies, or_true, true_or, or_false, false_or, Bool.or_false, Bool.false_or, decide_false, decide_true, Nat.reduceLT, Nat.reduceLeDiff, Nat.reduceAdd, Nat.reduceSub, ↓reduceIte, Nat.reduceEqDiff, Nat.lt_add_one]
  refine c_findF (n := n) hT (by rw [mz_u_nk (by decide), mz_u_eq]) hn9 ?_
  simp only [cd_X5_finish, t1, t2, hn, r_rn0, r_rnc, r_vk0, r_vkc, r_vks, r_kci, r_kcv, r_ild, r_ald, r_lld, r_dld, r_Li, r_La, r_Ll, r_Ld, r_Ki, r_Ka, r_Kl, r_Kd, r_Kn, r_ist, r_ast, r_lst, r_dst, r_iinc, r_int, r_lng, r_dbl, r_i2, r_i1, r_l2, r_lsh, r_i2z, r_l2z, r_i2l, r_l2i, r_i2d, r_lcmp, r_ddiv, r_dcmpl, r_dup, r_dup2, r_pop, r_one_int, r_one_ref, r_go, r_if, r_ic, r_tsw, r_lsw, r_sw0, r_swc, r_lk0, r_lkc, r_kp, r_gI, r_gL, r_gR, r_pI, r_pZ, r_pL, r_pR, r_gs, r_ia, r_ca, r_za, r_la, r_da, r_aa, r_ias, r_cas, r_zas, r_las, r_das, r_aas, r_acp, r_new, r_nwa, r_nwq, r_ret, r_irt, r_zrt, r_lrt, r_drt, r_art, r_thr, r_cV0, r_cV1, r_cV2, r_cV3, r_cV4, r_cV5, r_cI0, r_cS0, r_cS1, r_cS2, r_cS3, r_cX0, r_cX1, r_cX2, r_cX3, r_rc, r_oi, r_refx, r_i10, r_i01, r_rfs, r_mem0, r_memc, r_beq, r_kl0, r_klz, r_kl1i, r_kl1r, r_kl1n, r_kl1l, r_kl1d, List.length_cons, List.length_nil, List.getElem?_cons_zero, List.getElem?_cons_succ, List.set_cons_zero, List.set_cons_succ, true_and, and_true, not_true, not_false_eq_true, false_implies, true_implies, or_true, true_or, or_false, false_or, Bool.or_false, Bool.false_or, decide_false, decide_true, Nat.reduceLT, Nat.reduceLeDiff, Nat.reduceAdd, Nat.reduceSub, ↓reduceIte, Nat.reduceEqDiff, Nat.lt_add_one]
  rw [mz_u_ne ne, mz_u_ne ne, mz_u_eq]
  have key := h (mz_u (mz_u (mz_u I tx 1 (zI n)) tx 3 0) tx 2 (t_fault (I ta) n)) (fr_u2 (fr_u2 (fr_u2 fr_refl (by simp)) (by simp)) (by simp)) (by rw [mz_u_nk (by decide), mz_u_nk (by decide), mz_u_eq]) mz_u_eq (by rw [mz_u_nk (by decide), mz_u_eq])
  refine ⟨fun q => ?_, fun q => ?_⟩
  · rw [decide_eq_false q] at key; exact key
  · have q : t_fault (I ta) n = -1 := by simpa using q
    rw [decide_eq_true q] at key; exact key
/-- how often the command at a place is carried out -/
def t_tm (cs : Nat → Int32) (i : Nat) : Nat := if t_dg (cs i) then 0 else if 0 < i ∧ t_dg (cs (i - 1)) = true then ((cs (i - 1)).toInt - 48).toNat else 1
theorem t_dg_b {x : Int32} (h : t_dg x = true) : 50 ≤ x.toInt ∧ x.toInt ≤ 57 := by
  unfold t_dg at h
  rw [Bool.and_eq_true, decide_eq_true_eq, decide_eq_true_eq, Int32.le_iff_toInt_le, Int32.le_iff_toInt_le] at h
  exact h
theorem t_tm_le {cs : Nat → Int32} {i : Nat} : t_tm cs i ≤ 9 := by
  unfold t_tm
  split
  · omega
  · split
    · rename_i h
      have := t_dg_b h.2
      omega
    · omega
theorem c_times {tx ta i : Nat} (hT : p_Tx T tx ta) (hi : i < 60) (h : K (some (.int (zI (t_tm (I ta) i)))) T I L) : mz_Ctr G M_X5_timesAt [.ref tx, .int (zI i)] T I L K := by
  obtain ⟨t1, t2, t3⟩ := id hT
  refine mz_ofl mk_X5_timesAt rfl (Nat.le_of_ble_eq_true rfl) (Nat.le_of_ble_eq_true rfl) [some (.ref tx), some (.int (zI i)), none] rfl ?_
  refine mz_vc ok_X5_timesAt [] [(), (), (), (), (), (), (), (), (), (), (), (), (), (), (), (), (), (), (), (), (), (), (), (), (), (), (), (), (), ()] ?_
  simp only [cd_X5_timesAt, t1, t2, r_rn0, r_rnc, r_vk0, r_vkc, r_vks, r_kci, r_kcv, r_ild, r_ald, r_lld, r_dld, r_Li, r_La, r_Ll, r_Ld, r_Ki, r_Ka, r_Kl, r_Kd, r_Kn, r_ist, r_ast, r_lst, r_dst, r_iinc, r_int, r_lng, r_dbl, r_i2, r_i1, r_l2, r_lsh, r_i2z, r_l2z, r_i2l, r_l2i, r_i2d, r_lcmp, r_ddiv, r_dcmpl, r_dup, r_dup2, r_pop, r_one_int, r_one_ref, r_go, r_if, r_ic, r_tsw, r_lsw, r_sw0, r_swc, r_lk0, r_lkc, r_kp, r_gI, r_gL, r_gR, r_pI, r_pZ, r_pL, r_pR, r_gs, r_ia, r_ca, r_za, r_la, r_da, r_aa, r_ias, r_cas, r_zas, r_las, r_das, r_aas, r_acp, r_new, r_nwa, r_nwq, r_ret, r_irt, r_zrt, r_lrt, r_drt, r_art, r_thr, r_cV0, r_cV1, r_cV2, r_cV3, r_cV4, r_cV5, r_cI0, r_cS0, r_cS1, r_cS2, r_cS3, r_cX0, r_cX1, r_cX2, r_cX3, r_rc, r_oi, r_refx, r_i10, r_i01, r_rfs, r_mem0, r_memc, r_beq, r_kl0, r_klz, r_kl1i, r_kl1r, r_kl1n, r_kl1l, r_kl1d, List.length_cons, List.length_nil, List.getElem?_cons_zero, List.getElem?_cons_succ, List.set_cons_zero, List.set_cons_succ, true_and, and_true, not_true, not_false_eq_true, false_implies, true_implies, or_true, true_or, or_false, false_or, Bool.or_false, Bool.false_or, decide_false, decide_true, Nat.reduceLT, Nat.reduceLeDiff, Nat.reduceAdd, Nat.reduceSub, ↓reduceIte, Nat.reduceEqDiff, Nat.lt_add_one]
  rw [z_nat (by omega), Int.toNat_natCast]
  unfold t_tm at h
  refine ⟨fun q => absurd q ?_, fun _ => ⟨z_no (b := 60) (by omega) (by omega) hi, fun _ => ⟨⟨60, t3, z_in (by omega) (by omega) (by decide)⟩, c_isDigit ?_⟩⟩⟩
  · rw [l_0, z_lt (by omega) (by omega)]; omega
  simp only [cd_X5_timesAt, t1, t2, b2i_0, r_rn0, r_rnc, r_vk0, r_vkc, r_vks, r_kci, r_kcv, r_ild, r_ald, r_lld, r_dld, r_Li, r_La, r_Ll, r_Ld, r_Ki, r_Ka, r_Kl, r_Kd, r_Kn, r_ist, r_ast, r_lst, r_dst, r_iinc, r_int, r_lng, r_dbl, r_i2, r_i1, r_l2, r_lsh, r_i2z, r_l2z, r_i2l, r_l2i, r_i2d, r_lcmp, r_ddiv, r_dcmpl, r_dup, r_dup2, r_pop, r_one_int, r_one_ref, r_go, r_if, r_ic, r_tsw, r_lsw, r_sw0, r_swc, r_lk0, r_lkc, r_kp, r_gI, r_gL, r_gR, r_pI, r_pZ, r_pL, r_pR, r_gs, r_ia, r_ca, r_za, r_la, r_da, r_aa, r_ias, r_cas, r_zas, r_las, r_das, r_aas, r_acp, r_new, r_nwa, r_nwq, r_ret, r_irt, r_zrt, r_lrt, r_drt, r_art, r_thr, r_cV0, r_cV1, r_cV2, r_cV3, r_cV4, r_cV5, r_cI0, r_cS0, r_cS1, r_cS2, r_cS3, r_cX0, r_cX1, r_cX2, r_cX3, r_rc, r_oi, r_refx, r_i10, r_i01, r_rfs, r_mem0, r_memc, r_beq, r_kl0, r_klz, r_kl1i, r_kl1r, r_kl1n, r_kl1l, r_kl1d, List.length_cons, List.length_nil, List.getElem?_cons_zero, List.getElem?_cons_succ, List.set_cons_zero, List.set_cons_succ, true_and, and_true, not_true, not_false_eq_true, false_implies, true_implies, or_true, true_or, or_false, false_or, Bool.or_false, Bool.false_or, decide_false, decide_true, Nat.reduceLT, Nat.reduceLeDiff, Nat.reduceAdd, Nat.reduceSub, ↓reduceIte, Nat.reduceEqDiff, Nat.lt_add_one]
  rw [l_0, z_le (by omega) (by omega)]
  refine ⟨fun q => ?_, fun q => ?_⟩
  · rw [q, if_neg (by decide)] at h
    refine ⟨fun q2 => ?_, fun q2 => ?_⟩
    · rw [if_neg (by omega)] at h; exact h
    · have e1 : zI (i : Int) - 1 = zI ((i - 1 : Nat) : Int) := by rw [l_1, z_sub]; congr 1; omega
      rw [e1, z_nat (by omega), Int.toNat_natCast]
      refine ⟨⟨60, t3, z_in (by omega) (by omega) (by decide)⟩, c_isDigit ?_⟩
      simp only [cd_X5_timesAt, t1, t2, b2i_0, r_rn0, r_rnc, r_vk0, r_vkc, r_vks, r_kci, r_kcv, r_ild, r_ald, r_lld, r_dld, r_Li, r_La, r_Ll, r_Ld, r_Ki, r_Ka, r_Kl, r_Kd, r_Kn, r_ist, r_ast, r_lst, r_dst, r_iinc, r_int, r_lng, r_dbl, r_i2, r_i1, r_l2, r_lsh, r_i2z, r_l2z, r_i2l, r_l2i, r_i2d, r_lcmp, r_ddiv, r_dcmpl, r_dup, r_dup2, r_pop, r_one_int, r_one_ref, r_go, r_if, r_ic, r_tsw, r_lsw, r_sw0, r_swc, r_lk0, r_lkc, r_kp, r_gI, r_gL, r_gR, r_pI, r_pZ, r_pL, r_pR, r_gs, r_ia, r_ca, r_za, r_la, r_da, r_aa, r_ias, r_cas, r_zas, r_las, r_das, r_aas, r_acp, r_new, r_nwa, r_nwq, r_ret, r_irt, r_zrt, r_lrt, r_drt, r_art, r_thr, r_cV0, r_cV1, r_cV2, r_cV3, r_cV4, r_cV5, r_cI0, r_cS0, r_cS1, r_cS2, r_cS3, r_cX0, r_cX1, r_cX2, r_cX3, r_rc, r_oi, r_refx, r_i10, r_i01, r_rfs, r_mem0, r_memc, r_beq, r_kl0, r_klz, r_kl1i, r_kl1r, r_kl1n, r_kl1l, r_kl1d, List.length_cons, List.length_nil, List.getElem?_cons_zero, List.getElem?_cons_succ, List.set_cons_zero, List.set_cons_succ, true_and, and_true, not_true, not_false_eq_true, false_implies, true_implies, or_true, true_or, or_false, false_or, Bool.or_false, Bool.false_or, decide_false, decide_true, Nat.reduceLT, Nat.reduceLeDiff, Nat.reduceAdd, Nat.reduceSub, ↓reduceIte, Nat.reduceEqDiff, Nat.lt_add_one]
      refine ⟨fun q3 => ?_, fun q3 => ?_⟩
      · rw [if_neg (by rw [q3]; rintro ⟨-, e⟩; cases e)] at h; exact h
      · have q3 : t_dg (I ta (i - 1)) = true := by simpa using q3
        have hb := t_dg_b q3
        rw [if_pos ⟨by omega, q3⟩] at h
        rw [e1, z_nat (by omega), Int.toNat_natCast]
        refine ⟨⟨60, t3, z_in (by omega) (by omega) (by decide)⟩, ?_⟩
        have e2 : I ta (i - 1) - 48 = zI (((I ta (i - 1)).toInt - 48).toNat : Nat) := by
          rw [z_of (I ta (i - 1)), show (48 : Int32) = zI 48 from rfl, z_sub, ← z_of]; congr 1; omega
        rw [e2]; exact h
  · have q : t_dg (I ta i) = true := by simpa using q
    rw [q, if_pos rfl] at h; exact h
end TEXT
