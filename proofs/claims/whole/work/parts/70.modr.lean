/-! the reference: rows filled and cleared -/
section MODR
variable {G : mz_G} {K : mz_K} {T : mz_T} {I : mz_I} {L : mz_L}
def d_fu (e : Nat → Bool) (r : Nat) : Nat → Bool
  | 0 => true
  | n + 1 => d_fu e r n && e (10 * r + n)
theorem d_fu_rc {e : Nat → Bool} {r : Nat} : ∀ n, (d_fu e r n = true ↔ s_rc e r n = n)
  | 0 => ⟨fun _ => rfl, fun _ => rfl⟩
  | n + 1 => by
    have ih := d_fu_rc (e := e) (r := r) n
    have hl := s_rc_le (e := e) (r := r) n
    unfold d_fu s_rc
    rw [Bool.and_eq_true, ih]
    cases e (10 * r + n) with
    | true => simp
    | false => simp; omega
theorem d_fu10 {e : Nat → Bool} {r : Nat} : d_fu e r 10 = s_full e r := by
  have := d_fu_rc (e := e) (r := r) 10
  unfold s_full
  cases q : d_fu e r 10 with
  | true => rw [decide_eq_true (this.mp q)]
  | false => rw [decide_eq_false (fun h => by rw [this.mpr h] at q; cases q)]
theorem c_isFullM {D : Nat → Nat} {r : Nat} (hM : p_Mo T D) (hr : r < 22) (h : K (some (.int (b2i (s_full (s_fm (I (D 1))) r)))) T I L) : mz_Ctr G M_X12_isFull [.ref (D 0), .int (zI r)] T I L K := by
  obtain ⟨h0, ⟨r1, r2, r3, -⟩, ⟨t1, t2, t3, -⟩, -⟩ := id hM
  have loop := mz_loop (N := 10) (fun n => mz_W G M_X12_isFull K mz_nX 4 [some (.ref (D 0)), some (.int (zI r)), some (.int (b2i (d_fu (s_fm (I (D 1))) r n))), some (.int (zI n))] [] T I L (0, 0)) ?_ ?_ 0 (Nat.zero_le _)
  · refine mz_ofl mk_X12_isFull rfl (Nat.le_of_ble_eq_true rfl) (Nat.le_of_ble_eq_true rfl) [some (.ref (D 0)), some (.int (zI r)), none, none] rfl ?_
    refine mz_vc ok_X12_isFull [4] [(), (), (), (), (), (), (), (), (), (), (), (), (), (), (), (), (), (), (), (), (), (), (), (), (), (), (), (), (), ()] ?_
    simp only [cd_X12_isFull, h0, r1, r_rn0, r_rnc, r_vk0, r_vkc, r_vks, r_kci, r_kcv, r_ild, r_ald, r_lld, r_dld, r_Li, r_La, r_Ll, r_Ld, r_Ki, r_Ka, r_Kl, r_Kd, r_Kn, r_ist, r_ast, r_lst, r_dst, r_iinc, r_int, r_lng, r_dbl, r_i2, r_i1, r_l2, r_lsh, r_i2z, r_l2z, r_i2l, r_l2i, r_i2d, r_lcmp, r_ddiv, r_dcmpl, r_dup, r_dup2, r_pop, r_one_int, r_one_ref, r_go, r_if, r_ic, r_tsw, r_lsw, r_sw0, r_swc, r_lk0, r_lkc, r_kp, r_gI, r_gL, r_gR, r_pI, r_pZ, r_pL, r_pR, r_gs, r_ia, r_ca, r_za, r_la, r_da, r_aa, r_ias, r_cas, r_zas, r_las, r_das, r_aas, r_acp, r_new, r_nwa, r_nwq, r_ret, r_irt, r_zrt, r_lrt, r_drt, r_art, r_thr, r_cV0, r_cV1, r_cV2, r_cV3, r_cV4, r_cV5, r_cI0, r_cS0, r_cS1, r_cS2, r_cS3, r_cX0, r_cX1, r_cX2, r_cX3, r_rc, r_oi, r_refx, r_i10, r_i01, r_rfs, r_mem0, r_memc, r_beq, r_kl0, r_klz, r_kl1i, r_kl1r, r_kl1n, r_kl1l, r_kl1d, List.length_cons, List.length_nil, List.getElem?_cons_zero, List.getElem?_cons_succ, List.set_cons_zero, List.set_cons_succ, true_and, and_true, not_true, not_false_eq_true, false_implies, true_implies, or_true, true_or, or_false, false_or, Bool.or_false, Bool.false_or, decide_false, decide_true, Nat.reduceLT, Nat.reduceLeDiff, Nat.reduceAdd, Nat.reduceSub, ↓reduceIte, Nat.reduceEqDiff, Nat.lt_add_one]
    exact loop
  · rw [d_fu10]
    refine mz_vc ok_X12_isFull [4] [(), (), (), (), (), (), (), (), (), (), (), (), (), (), (), (), (), (), (), (), (), (), (), (), (), (), (), (), (), ()] ?_
    simp only [cd_X12_isFull, h0, r1, b2i_or, r_rn0, r_rnc, r_vk0, r_vkc, r_vks, r_kci, r_kcv, r_ild, r_ald, r_lld, r_dld, r_Li, r_La, r_Ll, r_Ld, r_Ki, r_Ka, r_Kl, r_Kd, r_Kn, r_ist, r_ast, r_lst, r_dst, r_iinc, r_int, r_lng, r_dbl, r_i2, r_i1, r_l2, r_lsh, r_i2z, r_l2z, r_i2l, r_l2i, r_i2d, r_lcmp, r_ddiv, r_dcmpl, r_dup, r_dup2, r_pop, r_one_int, r_one_ref, r_go, r_if, r_ic, r_tsw, r_lsw, r_sw0, r_swc, r_lk0, r_lkc, r_kp, r_gI, r_gL, r_gR, r_pI, r_pZ, r_pL, r_pR, r_gs, r_ia, r_ca, r_za, r_la, r_da, r_aa, r_ias, r_cas, r_zas, r_las, r_das, r_aas, r_acp, r_new, r_nwa, r_nwq, r_ret, r_irt, r_zrt, r_lrt, r_drt, r_art, r_thr, r_cV0, r_cV1, r_cV2, r_cV3, r_cV4, r_cV5, r_cI0, r_cS0, r_cS1, r_cS2, r_cS3, r_cX0, r_cX1, r_cX2, r_cX3, r_rc, r_oi, r_refx, r_i10, r_i01, r_rfs, r_mem0, r_memc, r_beq, r_kl0, r_klz, r_kl1i, r_kl1r, r_kl1n, r_kl1l, r_kl1d, List.length_cons, List.length_nil, List.getElem?_cons_zero, List.getElem?_cons_succ, List.set_cons_zero, List.set_cons_succ, true_and, and_true, not_true, not_false_eq_true, false_implies, true_implies, or_true, true_or, or_false, false_or, Bool.or_false, Bool.false_or, decide_false, decide_true, Nat.reduceLT, Nat.reduceLeDiff, Nat.reduceAdd, Nat.reduceSub, ↓reduceIte, Nat.reduceEqDiff, Nat.lt_add_one]
    exact ⟨fun _ => h, fun q => absurd (by decide) q⟩
  · intro n hn ih
    refine mz_vc ok_X12_isFull [4] [(), (), (), (), (), (), (), (), (), (), (), (), (), (), (), (), (), (), (), (), (), (), (), (), (), (), (), (), (), ()] ?_
    simp only [cd_X12_isFull, h0, r1, b2i_0, r_rn0, r_rnc, r_vk0, r_vkc, r_vks, r_kci, r_kcv, r_ild, r_ald, r_lld, r_dld, r_Li, r_La, r_Ll, r_Ld, r_Ki, r_Ka, r_Kl, r_Kd, r_Kn, r_ist, r_ast, r_lst, r_dst, r_iinc, r_int, r_lng, r_dbl, r_i2, r_i1, r_l2, r_lsh, r_i2z, r_l2z, r_i2l, r_l2i, r_i2d, r_lcmp, r_ddiv, r_dcmpl, r_dup, r_dup2, r_pop, r_one_int, r_one_ref, r_go, r_if, r_ic, r_tsw, r_lsw, r_sw0, r_swc, r_lk0, r_lkc, r_kp, r_gI, r_gL, r_gR, r_pI, r_pZ, r_pL, r_pR, r_gs, r_ia, r_ca, r_za, r_la, r_da, r_aa, r_ias, r_cas, r_zas, r_las, r_das, r_aas, r_acp, r_new, r_nwa, r_nwq, r_ret, r_irt, r_zrt, r_lrt, r_drt, r_art, r_thr, r_cV0, r_cV1, r_cV2, r_cV3, r_cV4, r_cV5, r_cI0, r_cS0, r_cS1, r_cS2, r_cS3, r_cX0, r_cX1, r_cX2, r_cX3, r_rc, r_oi, r_refx, r_i10, r_i01, r_rfs, r_mem0, r_memc, r_beq, r_kl0, r_klz, r_kl1i, r_kl1r, r_kl1n, r_kl1l, r_kl1d, List.length_cons, List.length_nil, List.getElem?_cons_zero, List.getElem?_cons_succ, List.set_cons_zero, List.set_cons_succ, true_and, and_true, not_true, not_false_eq_true, false_implies, true_implies, or_true, true_or, or_false, false_or, Bool.or_false, Bool.false_or, decide_false, decide_true, Nat.reduceLT, Nat.reduceLeDiff, Nat.reduceAdd, Nat.reduceSub, ↓reduceIte, Nat.reduceEqDiff, Nat.lt_add_one]
    rw [z_1]
    refine ⟨z_no (b := 10) (by omega) (by omega) hn, fun _ => ⟨fun q => ?_, fun q => ?_⟩⟩
    · have e : d_fu (s_fm (I (D 1))) r (n + 1) = false := by unfold d_fu; rw [q]; rfl
      rw [e] at ih; exact ih
    · have q : d_fu (s_fm (I (D 1))) r n = true := by simpa using q
      have e : d_fu (s_fm (I (D 1))) r (n + 1) = s_fm (I (D 1)) (10 * r + n) := by unfold d_fu; rw [q, Bool.true_and]
      rw [e] at ih
      refine c_atM ?_
      simp only [cd_X12_isFull, h0, r1, r_rn0, r_rnc, r_vk0, r_vkc, r_vks, r_kci, r_kcv, r_ild, r_ald, r_lld, r_dld, r_Li, r_La, r_Ll, r_Ld, r_Ki, r_Ka, r_Kl, r_Kd, r_Kn, r_ist, r_ast, r_lst, r_dst, r_iinc, r_int, r_lng, r_dbl, r_i2, r_i1, r_l2, r_lsh, r_i2z, r_l2z, r_i2l, r_l2i, r_i2d, r_lcmp, r_ddiv, r_dcmpl, r_dup, r_dup2, r_pop, r_one_int, r_one_ref, r_go, r_if, r_ic, r_tsw, r_lsw, r_sw0, r_swc, r_lk0, r_lkc, r_kp, r_gI, r_gL, r_gR, r_pI, r_pZ, r_pL, r_pR, r_gs, r_ia, r_ca, r_za, r_la, r_da, r_aa, r_ias, r_cas, r_zas, r_las, r_das, r_aas, r_acp, r_new, r_nwa, r_nwq, r_ret, r_irt, r_zrt, r_lrt, r_drt, r_art, r_thr, r_cV0, r_cV1, r_cV2, r_cV3, r_cV4, r_cV5, r_cI0, r_cS0, r_cS1, r_cS2, r_cS3, r_cX0, r_cX1, r_cX2, r_cX3, r_rc, r_oi, r_refx, r_i10, r_i01, r_rfs, r_mem0, r_memc, r_beq, r_kl0, r_klz, r_kl1i, r_kl1r, r_kl1n, r_kl1l, r_kl1d, List.length_cons, List.length_nil, List.getElem?_cons_zero, List.getElem?_cons_succ, List.set_cons_zero, List.set_cons_succ, true_and, and_true, not_true, not_false_eq_true, false_implies, true_implies, or_true, true_or, or_false, false_or, Bool.or_false, Bool.false_or, decide_false, decide_true, Nat.reduceLT, Nat.reduceLeDiff, Nat.reduceAdd, Nat.reduceSub, ↓reduceIte, Nat.reduceEqDiff, Nat.lt_add_one]
      have ez : (10 : Int) * (r : Int) + (n : Int) = ((10 * r + n : Nat) : Int) := by omega
      rw [ez, z_nat (by omega), Int.toNat_natCast, z_1]
      rw [s_fm_v (by omega)] at ih
      refine ⟨⟨268, t1, z_in (by omega) (by omega) (by decide)⟩, fun q2 => ?_, fun q2 => ?_⟩
      · rw [decide_eq_false (fun e => e q2)] at ih; exact ih
      · rw [decide_eq_true q2] at ih; exact ih
theorem s_full_r {e e' : Nat → Bool} {r : Nat} (h : ∀ c, c < 10 → e (10 * r + c) = e' (10 * r + c)) : s_full e r = s_full e' r := by
  unfold s_full; rw [s_rc_cg 10 h]
theorem s_nk_s0 {e : Nat → Bool} {r : Nat} (h : s_full e r = false) : s_nk e (r + 1) = s_nk e r + 1 := by simp [s_nk, h]
theorem s_nk_s1 {e : Nat → Bool} {r : Nat} (h : s_full e r = true) : s_nk e (r + 1) = s_nk e r := by simp [s_nk, h]
theorem c_clearsM {D : Nat → Nat} (hM : p_Mo T D) (h : ∀ I', fr I I' [D 1] → I' (D 1) = o_clear (I (D 1)) → K (some (.int (zI (m_n (I (D 1)))))) T I' L) : mz_Ctr G M_X12_clearsRows [.ref (D 0)] T I L K := by
  obtain ⟨h0, ⟨r1, r2, r3, -⟩, ⟨t1, t2, t3, -⟩, -⟩ := id hM
  generalize hg : I (D 1) = g at h
  have hnk := s_nk_le (e := s_fm g)
  -- rows at the top are emptied
  have w71 : ∀ k (I1 : mz_I), k ≤ 22 - s_nk (s_fm g) 22 → fr I I1 [D 1] → (∀ r c : Nat, r < 22 → c < 10 → s_full (s_fm g) r = false → I1 (D 1) (10 * s_nk (s_fm g) r + c) = g (10 * r + c)) → (∀ i, 10 * s_nk (s_fm g) 22 ≤ i → i < 10 * (22 - k) → I1 (D 1) i = 0) → (∀ i, 220 ≤ i → I1 (D 1) i = g i) → mz_W G M_X12_clearsRows K mz_nX 71 [some (.ref (D 0)), some (.int (zI (m_n g))), some (.int (zI (22 - k : Nat))), none] [] T I1 L (0, 0) := by
    intro k
    induction k with
    | zero =>
      intro I1 _ f1 hB hz hhi
      refine mz_vc ok_X12_clearsRows [71] [(), (), (), (), (), (), (), (), (), (), (), (), (), (), (), (), (), (), (), (), (), (), (), (), (), (), (), (), (), ()] ?_
      simp only [cd_X12_clearsRows, h0, r1, r_rn0, r_rnc, r_vk0, r_vkc, r_vks, r_kci, r_kcv, r_ild, r_ald, r_lld, r_dld, r_Li, r_La, r_Ll, r_Ld, r_Ki, r_Ka, r_Kl, r_Kd, r_Kn, r_ist, r_ast, r_lst, r_dst, r_iinc, r_int, r_lng, r_dbl, r_i2, r_i1, r_l2, r_lsh, r_i2z, r_l2z, r_i2l, r_l2i, r_i2d, r_lcmp, r_ddiv, r_dcmpl, r_dup, r_dup2, r_pop, r_one_int, r_one_ref, r_go, r_if, r_ic, r_tsw, r_lsw, r_sw0, r_swc, r_lk0, r_lkc, r_kp, r_gI, r_gL, r_gR, r_pI, r_pZ, r_pL, r_pR, r_gs, r_ia, r_ca, r_za, r_la, r_da, r_aa, r_ias, r_cas, r_zas, r_las, r_das, r_aas, r_acp, r_new, r_nwa, r_nwq, r_ret, r_irt, r_zrt, r_lrt, r_drt, r_art, r_thr, r_cV0, r_cV1, r_cV2, r_cV3, r_cV4, r_cV5, r_cI0, r_cS0, r_cS1, r_cS2, r_cS3, r_cX0, r_cX1, r_cX2, r_cX3, r_rc, r_oi, r_refx, r_i10, r_i01, r_rfs, r_mem0, r_memc, r_beq, r_kl0, r_klz, r_kl1i, r_kl1r, r_kl1n, r_kl1l, r_kl1d, List.length_cons, List.length_nil, List.getElem?_cons_zero, List.getElem?_cons_succ, List.set_cons_zero, List.set_cons_succ, true_and, and_true, not_true, not_false_eq_true, false_implies, true_implies, or_true, true_or, or_false, false_or, Bool.or_false, Bool.false_or, decide_false, decide_true, Nat.reduceLT, Nat.reduceLeDiff, Nat.reduceAdd, Nat.reduceSub, ↓reduceIte, Nat.reduceEqDiff, Nat.lt_add_one]
      refine ⟨fun _ => ?_, fun q => absurd (by decide) q⟩
      refine h I1 f1 ?_
      funext i
      by_cases c : i < 220
      · unfold o_clear
        rw [if_pos c]
        by_cases q : i / 10 < s_nk (s_fm g) 22
        · obtain ⟨a, b, d⟩ := s_sr_t 22 q
          rw [if_pos a, ← hB _ _ a (Nat.mod_lt _ (by decide)) b, d]
          congr 1; omega
        · rw [s_sr_f 22 (Nat.le_refl _) (by omega), if_neg (by decide)]
          exact hz i (by omega) (by omega)
      · rw [hhi i (by omega)]
        unfold o_clear
        rw [if_neg c]
    | succ k ih =>
      intro I1 hk f1 hB hz hhi
      have inner : ∀ c (I2 : mz_I), c ≤ 10 → fr I I2 [D 1] → (∀ i, i < 10 * (22 - (k + 1)) ∨ 220 ≤ i → I2 (D 1) i = I1 (D 1) i) → (∀ j, j < 10 - c → I2 (D 1) (10 * (22 - (k + 1)) + j) = 0) → mz_W G M_X12_clearsRows K mz_nX 79 [some (.ref (D 0)), some (.int (zI (m_n g))), some (.int (zI (22 - (k + 1) : Nat))), some (.int (zI (10 - c : Nat)))] [] T I2 L (0, 0) := by
        intro c
        induction c with
        | zero =>
          intro I2 _ f2 hs hz2
          refine mz_vc ok_X12_clearsRows [71, 79] [(), (), (), (), (), (), (), (), (), (), (), (), (), (), (), (), (), (), (), (), (), (), (), (), (), (), (), (), (), ()] ?_
          simp only [cd_X12_clearsRows, h0, r1, r_rn0, r_rnc, r_vk0, r_vkc, r_vks, r_kci, r_kcv, r_ild, r_ald, r_lld, r_dld, r_Li, r_La, r_Ll, r_Ld, r_Ki, r_Ka, r_Kl, r_Kd, r_Kn, r_ist, r_ast, r_lst, r_dst, r_iinc, r_int, r_lng, r_dbl, r_i2, r_i1, r_l2, r_lsh, r_i2z, r_l2z, r_i2l, r_l2i, r_i2d, r_lcmp, r_ddiv, r_dcmpl, r_dup, r_dup2, r_pop, r_one_int, r_one_ref, r_go, r_if, r_ic, r_tsw, r_lsw, r_sw0, r_swc, r_lk0, r_lkc, r_kp, r_gI, r_gL, r_gR, r_pI, r_pZ, r_pL, r_pR, r_gs, r_ia, r_ca, r_za, r_la, r_da, r_aa, r_ias, r_cas, r_zas, r_las, r_das, r_aas, r_acp, r_new, r_nwa, r_nwq, r_ret, r_irt, r_zrt, r_lrt, r_drt, r_art, r_thr, r_cV0, r_cV1, r_cV2, r_cV3, r_cV4, r_cV5, r_cI0, r_cS0, r_cS1, r_cS2, r_cS3, r_cX0, r_cX1, r_cX2, r_cX3, r_rc, r_oi, r_refx, r_i10, r_i01, r_rfs, r_mem0, r_memc, r_beq, r_kl0, r_klz, r_kl1i, r_kl1r, r_kl1n, r_kl1l, r_kl1d, List.length_cons, List.length_nil, List.getElem?_cons_zero, List.getElem?_cons_succ, List.set_cons_zero, List.set_cons_succ, true_and, and_true, not_true, not_false_eq_true, false_implies, true_implies, or_true, true_or, or_false, false_or, Bool.or_false, Bool.false_or, decide_false, decide_true, Nat.reduceLT, Nat.reduceLeDiff, Nat.reduceAdd, Nat.reduceSub, ↓reduceIte, Nat.reduceEqDiff, Nat.lt_add_one]
          refine ⟨fun _ => ?_, fun q => absurd (by decide) q⟩
          rw [z_1, show 22 - (k + 1) + 1 = 22 - k by omega]
          refine mz_forget (ih I2 (by omega) f2 (fun r c hr hc hf => ?_) (fun i a b => ?_) (fun i hi => ?_)) rfl (mz_fg_s (mz_fg_s (mz_fg_s (mz_fg_n mz_fg_0))))
          · have h1 : s_nk (s_fm g) r + 1 ≤ s_nk (s_fm g) 22 := by
              have := s_nk_mono (e := s_fm g) (r := r + 1) 22 (by omega)
              have e : s_nk (s_fm g) (r + 1) = s_nk (s_fm g) r + 1 := by simp [s_nk, hf]
              omega
            rw [hs _ (Or.inl (by omega))]
            exact hB r c hr hc hf
          · by_cases q : i < 10 * (22 - (k + 1))
            · rw [hs i (Or.inl q)]; exact hz i a (by omega)
            · have := hz2 (i - 10 * (22 - (k + 1))) (by omega)
              rw [show 10 * (22 - (k + 1)) + (i - 10 * (22 - (k + 1))) = i by omega] at this
              exact this
          · rw [hs i (Or.inr hi)]; exact hhi i hi
        | succ c ih2 =>
          intro I2 hc f2 hs hz2
          refine mz_vc ok_X12_clearsRows [71, 79] [(), (), (), (), (), (), (), (), (), (), (), (), (), (), (), (), (), (), (), (), (), (), (), (), (), (), (), (), (), ()] ?_
          simp only [cd_X12_clearsRows, h0, r1, r_rn0, r_rnc, r_vk0, r_vkc, r_vks, r_kci, r_kcv, r_ild, r_ald, r_lld, r_dld, r_Li, r_La, r_Ll, r_Ld, r_Ki, r_Ka, r_Kl, r_Kd, r_Kn, r_ist, r_ast, r_lst, r_dst, r_iinc, r_int, r_lng, r_dbl, r_i2, r_i1, r_l2, r_lsh, r_i2z, r_l2z, r_i2l, r_l2i, r_i2d, r_lcmp, r_ddiv, r_dcmpl, r_dup, r_dup2, r_pop, r_one_int, r_one_ref, r_go, r_if, r_ic, r_tsw, r_lsw, r_sw0, r_swc, r_lk0, r_lkc, r_kp, r_gI, r_gL, r_gR, r_pI, r_pZ, r_pL, r_pR, r_gs, r_ia, r_ca, r_za, r_la, r_da, r_aa, r_ias, r_cas, r_zas, r_las, r_das, r_aas, r_acp, r_new, r_nwa, r_nwq, r_ret, r_irt, r_zrt, r_lrt, r_drt, r_art, r_thr, r_cV0, r_cV1, r_cV2, r_cV3, r_cV4, r_cV5, r_cI0, r_cS0, r_cS1, r_cS2, r_cS3, r_cX0, r_cX1, r_cX2, r_cX3, r_rc, r_oi, r_refx, r_i10, r_i01, r_rfs, r_mem0, r_memc, r_beq, r_kl0, r_klz, r_kl1i, r_kl1r, r_kl1n, r_kl1l, r_kl1d, List.length_cons, List.length_nil, List.getElem?_cons_zero, List.getElem?_cons_succ, List.set_cons_zero, List.set_cons_succ, true_and, and_true, not_true, not_false_eq_true, false_implies, true_implies, or_true, true_or, or_false, false_or, Bool.or_false, Bool.false_or, decide_false, decide_true, Nat.reduceLT, Nat.reduceLeDiff, Nat.reduceAdd, Nat.reduceSub, ↓reduceIte, Nat.reduceEqDiff, Nat.lt_add_one]
          refine ⟨z_no (b := 10) (by omega) (by omega) (by omega), fun _ => c_atM ?_⟩
          simp only [cd_X12_clearsRows, h0, r1, r_rn0, r_rnc, r_vk0, r_vkc, r_vks, r_kci, r_kcv, r_ild, r_ald, r_lld, r_dld, r_Li, r_La, r_Ll, r_Ld, r_Ki, r_Ka, r_Kl, r_Kd, r_Kn, r_ist, r_ast, r_lst, r_dst, r_iinc, r_int, r_lng, r_dbl, r_i2, r_i1, r_l2, r_lsh, r_i2z, r_l2z, r_i2l, r_l2i, r_i2d, r_lcmp, r_ddiv, r_dcmpl, r_dup, r_dup2, r_pop, r_one_int, r_one_ref, r_go, r_if, r_ic, r_tsw, r_lsw, r_sw0, r_swc, r_lk0, r_lkc, r_kp, r_gI, r_gL, r_gR, r_pI, r_pZ, r_pL, r_pR, r_gs, r_ia, r_ca, r_za, r_la, r_da, r_aa, r_ias, r_cas, r_zas, r_las, r_das, r_aas, r_acp, r_new, r_nwa, r_nwq, r_ret, r_irt, r_zrt, r_lrt, r_drt, r_art, r_thr, r_cV0, r_cV1, r_cV2, r_cV3, r_cV4, r_cV5, r_cI0, r_cS0, r_cS1, r_cS2, r_cS3, r_cX0, r_cX1, r_cX2, r_cX3, r_rc, r_oi, r_refx, r_i10, r_i01, r_rfs, r_mem0, r_memc, r_beq, r_kl0, r_klz, r_kl1i, r_kl1r, r_kl1n, r_kl1l, r_kl1d, List.length_cons, List.length_nil, List.getElem?_cons_zero, List.getElem?_cons_succ, List.set_cons_zero, List.set_cons_succ, true_and, and_true, not_true, not_false_eq_true, false_implies, true_implies, or_true, true_or, or_false, false_or, Bool.or_false, Bool.false_or, decide_false, decide_true, Nat.reduceLT, Nat.reduceLeDiff, Nat.reduceAdd, Nat.reduceSub, ↓reduceIte, Nat.reduceEqDiff, Nat.lt_add_one]
          have ez : (10 : Int) * ((22 - (k + 1) : Nat) : Int) + ((10 - (c + 1) : Nat) : Int) = ((10 * (22 - (k + 1)) + (10 - (c + 1)) : Nat) : Int) := by omega
          rw [ez, z_nat (by omega), Int.toNat_natCast, z_1 (10 - (c + 1)), show 10 - (c + 1) + 1 = 10 - c by omega]
          refine ⟨⟨268, t1, z_in (by omega) (by omega) (by decide)⟩, ?_⟩
          refine ih2 _ (by omega) (fr_u2 f2 (by simp)) (fun i hi => ?_) (fun j hj => ?_)
          · rw [mz_u_nk (by omega)]; exact hs i hi
          · by_cases q : j = 10 - (c + 1)
            · subst q; rw [mz_u_eq]
            · rw [mz_u_nk (by omega)]; exact hz2 j (by omega)
      refine mz_vc ok_X12_clearsRows [71, 79] [(), (), (), (), (), (), (), (), (), (), (), (), (), (), (), (), (), (), (), (), (), (), (), (), (), (), (), (), (), ()] ?_
      simp only [cd_X12_clearsRows, h0, r1, r_rn0, r_rnc, r_vk0, r_vkc, r_vks, r_kci, r_kcv, r_ild, r_ald, r_lld, r_dld, r_Li, r_La, r_Ll, r_Ld, r_Ki, r_Ka, r_Kl, r_Kd, r_Kn, r_ist, r_ast, r_lst, r_dst, r_iinc, r_int, r_lng, r_dbl, r_i2, r_i1, r_l2, r_lsh, r_i2z, r_l2z, r_i2l, r_l2i, r_i2d, r_lcmp, r_ddiv, r_dcmpl, r_dup, r_dup2, r_pop, r_one_int, r_one_ref, r_go, r_if, r_ic, r_tsw, r_lsw, r_sw0, r_swc, r_lk0, r_lkc, r_kp, r_gI, r_gL, r_gR, r_pI, r_pZ, r_pL, r_pR, r_gs, r_ia, r_ca, r_za, r_la, r_da, r_aa, r_ias, r_cas, r_zas, r_las, r_das, r_aas, r_acp, r_new, r_nwa, r_nwq, r_ret, r_irt, r_zrt, r_lrt, r_drt, r_art, r_thr, r_cV0, r_cV1, r_cV2, r_cV3, r_cV4, r_cV5, r_cI0, r_cS0, r_cS1, r_cS2, r_cS3, r_cX0, r_cX1, r_cX2, r_cX3, r_rc, r_oi, r_refx, r_i10, r_i01, r_rfs, r_mem0, r_memc, r_beq, r_kl0, r_klz, r_kl1i, r_kl1r, r_kl1n, r_kl1l, r_kl1d, List.length_cons, List.length_nil, List.getElem?_cons_zero, List.getElem?_cons_succ, List.set_cons_zero, List.set_cons_succ, true_and, and_true, not_true, not_false_eq_true, false_implies, true_implies, or_true, true_or, or_false, false_or, Bool.or_false, Bool.false_or, decide_false, decide_true, Nat.reduceLT, Nat.reduceLeDiff, Nat.reduceAdd, Nat.reduceSub, ↓reduceIte, Nat.reduceEqDiff, Nat.lt_add_one]
      refine ⟨z_no (b := 22) (by omega) (by omega) (by omega), fun _ => ?_⟩
      exact inner 10 I1 (Nat.le_refl _) f1 (fun _ _ => rfl) (fun j hj => absurd hj (by omega))
  have loop : ∀ k (I1 : mz_I), k ≤ 22 → fr I I1 [D 1] → (∀ i, 10 * (22 - k) ≤ i → I1 (D 1) i = g i) → (∀ r c : Nat, r < 22 - k → c < 10 → s_full (s_fm g) r = false → I1 (D 1) (10 * s_nk (s_fm g) r + c) = g (10 * r + c)) → mz_W G M_X12_clearsRows K mz_nX 4 [some (.ref (D 0)), some (.int (zI ((22 - k - s_nk (s_fm g) (22 - k) : Nat) : Int))), some (.int (zI (22 - k : Nat))), none] [] T I1 L (0, 0) := by
    intro k
    induction k with
    | zero =>
      intro I1 _ f1 hA hB
      refine mz_vc ok_X12_clearsRows [4, 71] [(), (), (), (), (), (), (), (), (), (), (), (), (), (), (), (), (), (), (), (), (), (), (), (), (), (), (), (), (), ()] ?_
      simp only [cd_X12_clearsRows, h0, r1, r_rn0, r_rnc, r_vk0, r_vkc, r_vks, r_kci, r_kcv, r_ild, r_ald, r_lld, r_dld, r_Li, r_La, r_Ll, r_Ld, r_Ki, r_Ka, r_Kl, r_Kd, r_Kn, r_ist, r_ast, r_lst, r_dst, r_iinc, r_int, r_lng, r_dbl, r_i2, r_i1, r_l2, r_lsh, r_i2z, r_l2z, r_i2l, r_l2i, r_i2d, r_lcmp, r_ddiv, r_dcmpl, r_dup, r_dup2, r_pop, r_one_int, r_one_ref, r_go, r_if, r_ic, r_tsw, r_lsw, r_sw0, r_swc, r_lk0, r_lkc, r_kp, r_gI, r_gL, r_gR, r_pI, r_pZ, r_pL, r_pR, r_gs, r_ia, r_ca, r_za, r_la, r_da, r_aa, r_ias, r_cas, r_zas, r_las, r_das, r_aas, r_acp, r_new, r_nwa, r_nwq, r_ret, r_irt, r_zrt, r_lrt, r_drt, r_art, r_thr, r_cV0, r_cV1, r_cV2, r_cV3, r_cV4, r_cV5, r_cI0, r_cS0, r_cS1, r_cS2, r_cS3, r_cX0, r_cX1, r_cX2, r_cX3, r_rc, r_oi, r_refx, r_i10, r_i01, r_rfs, r_mem0, r_memc, r_beq, r_kl0, r_klz, r_kl1i, r_kl1r, r_kl1n, r_kl1l, r_kl1d, List.length_cons, List.length_nil, List.getElem?_cons_zero, List.getElem?_cons_succ, List.set_cons_zero, List.set_cons_succ, true_and, and_true, not_true, not_false_eq_true, false_implies, true_implies, or_true, true_or, or_false, false_or, Bool.or_false, Bool.false_or, decide_false, decide_true, Nat.reduceLT, Nat.reduceLeDiff, Nat.reduceAdd, Nat.reduceSub, ↓reduceIte, Nat.reduceEqDiff, Nat.lt_add_one]
      refine ⟨fun _ => ?_, fun q => absurd (by decide) q⟩
      have hn := hnk 22
      have en : zI ((22 - 0 - s_nk (s_fm g) (22 - 0) : Nat) : Int) = zI (m_n g) := rfl
      have ez : (22 : Int32) - zI (m_n g) = zI ((22 - (22 - s_nk (s_fm g) 22) : Nat) : Int) := by
        rw [l_22, z_sub]; congr 1
        show (22 : Int) - ((22 - s_nk (s_fm g) 22 : Nat) : Int) = _
        omega
      rw [en, ez]
      refine mz_forget (w71 (22 - s_nk (s_fm g) 22) I1 (by omega) f1 (fun r c hr hc hf => hB r c (by omega) hc hf) (fun i a b => absurd b (by omega)) (fun i hi => hA i (by omega))) rfl (mz_fg_s (mz_fg_s (mz_fg_s (mz_fg_n mz_fg_0))))
    | succ k ih =>
      intro I1 hk f1 hA hB
      have hkr : 22 - (k + 1) + 1 = 22 - k := by omega
      have hn := hnk (22 - (k + 1))
      have hfu : s_full (s_fm (I1 (D 1))) (22 - (k + 1)) = s_full (s_fm g) (22 - (k + 1)) := s_full_r (fun c hc => by
        rw [s_fm_v (by omega), s_fm_v (by omega), hA _ (by omega)])
      refine mz_vc ok_X12_clearsRows [4, 71, 26] [(), (), (), (), (), (), (), (), (), (), (), (), (), (), (), (), (), (), (), (), (), (), (), (), (), (), (), (), (), ()] ?_
      simp only [cd_X12_clearsRows, h0, r1, r_rn0, r_rnc, r_vk0, r_vkc, r_vks, r_kci, r_kcv, r_ild, r_ald, r_lld, r_dld, r_Li, r_La, r_Ll, r_Ld, r_Ki, r_Ka, r_Kl, r_Kd, r_Kn, r_ist, r_ast, r_lst, r_dst, r_iinc, r_int, r_lng, r_dbl, r_i2, r_i1, r_l2, r_lsh, r_i2z, r_l2z, r_i2l, r_l2i, r_i2d, r_lcmp, r_ddiv, r_dcmpl, r_dup, r_dup2, r_pop, r_one_int, r_one_ref, r_go, r_if, r_ic, r_tsw, r_lsw, r_sw0, r_swc, r_lk0, r_lkc, r_kp, r_gI, r_gL, r_gR, r_pI, r_pZ, r_pL, r_pR, r_gs, r_ia, r_ca, r_za, r_la, r_da, r_aa, r_ias, r_cas, r_zas, r_las, r_das, r_aas, r_acp, r_new, r_nwa, r_nwq, r_ret, r_irt, r_zrt, r_lrt, r_drt, r_art, r_thr, r_cV0, r_cV1, r_cV2, r_cV3, r_cV4, r_cV5, r_cI0, r_cS0, r_cS1, r_cS2, r_cS3, r_cX0, r_cX1, r_cX2, r_cX3, r_rc, r_oi, r_refx, r_i10, r_i01, r_rfs, r_mem0, r_memc, r_beq, r_kl0, r_klz, r_kl1i, r_kl1r, r_kl1n, r_kl1l, r_kl1d, List.length_cons, List.length_nil, List.getElem?_cons_zero, List.getElem?_cons_succ, List.set_cons_zero, List.set_cons_succ, true_and, and_true, not_true, not_false_eq_true, false_implies, true_implies, or_true, true_or, or_false, false_or, Bool.or_false, Bool.false_or, decide_false, decide_true, Nat.reduceLT, Nat.reduceLeDiff, Nat.reduceAdd, Nat.reduceSub, ↓reduceIte, Nat.reduceEqDiff, Nat.lt_add_one]
      refine ⟨z_no (b := 22) (by omega) (by omega) (by omega), fun _ => c_isFullM hM (by omega) ?_⟩
      rw [hfu]
      simp only [cd_X12_clearsRows, h0, r1, b2i_0, r_rn0, r_rnc, r_vk0, r_vkc, r_vks, r_kci, r_kcv, r_ild, r_ald, r_lld, r_dld, r_Li, r_La, r_Ll, r_Ld, r_Ki, r_Ka, r_Kl, r_Kd, r_Kn, r_ist, r_ast, r_lst, r_dst, r_iinc, r_int, r_lng, r_dbl, r_i2, r_i1, r_l2, r_lsh, r_i2z, r_l2z, r_i2l, r_l2i, r_i2d, r_lcmp, r_ddiv, r_dcmpl, r_dup, r_dup2, r_pop, r_one_int, r_one_ref, r_go, r_if, r_ic, r_tsw, r_lsw, r_sw0, r_swc, r_lk0, r_lkc, r_kp, r_gI, r_gL, r_gR, r_pI, r_pZ, r_pL, r_pR, r_gs, r_ia, r_ca, r_za, r_la, r_da, r_aa, r_ias, r_cas, r_zas, r_las, r_das, r_aas, r_acp, r_new, r_nwa, r_nwq, r_ret, r_irt, r_zrt, r_lrt, r_drt, r_art, r_thr, r_cV0, r_cV1, r_cV2, r_cV3, r_cV4, r_cV5, r_cI0, r_cS0, r_cS1, r_cS2, r_cS3, r_cX0, r_cX1, r_cX2, r_cX3, r_rc, r_oi, r_refx, r_i10, r_i01, r_rfs, r_mem0, r_memc, r_beq, r_kl0, r_klz, r_kl1i, r_kl1r, r_kl1n, r_kl1l, r_kl1d, List.length_cons, List.length_nil, List.getElem?_cons_zero, List.getElem?_cons_succ, List.set_cons_zero, List.set_cons_succ, true_and, and_true, not_true, not_false_eq_true, false_implies, true_implies, or_true, true_or, or_false, false_or, Bool.or_false, Bool.false_or, decide_false, decide_true, Nat.reduceLT, Nat.reduceLeDiff, Nat.reduceAdd, Nat.reduceSub, ↓reduceIte, Nat.reduceEqDiff, Nat.lt_add_one]
      refine ⟨fun q => ?_, fun q => ?_⟩
      · have enk : s_nk (s_fm g) (22 - k) = s_nk (s_fm g) (22 - (k + 1)) + 1 := by rw [← hkr, s_nk_s0 q]
        have enn : 22 - k - s_nk (s_fm g) (22 - k) = 22 - (k + 1) - s_nk (s_fm g) (22 - (k + 1)) := by omega
        have inner : ∀ c (I2 : mz_I), c ≤ 10 → fr I I2 [D 1] → (∀ i, 10 * (22 - k) ≤ i → I2 (D 1) i = g i) → (∀ i, i < 10 * s_nk (s_fm g) (22 - (k + 1)) → I2 (D 1) i = I1 (D 1) i) → (∀ j, j < 10 - c → I2 (D 1) (10 * s_nk (s_fm g) (22 - (k + 1)) + j) = g (10 * (22 - (k + 1)) + j)) → (∀ j, 10 - c ≤ j → j < 10 → I2 (D 1) (10 * (22 - (k + 1)) + j) = g (10 * (22 - (k + 1)) + j)) → mz_W G M_X12_clearsRows K mz_nX 26 [some (.ref (D 0)), some (.int (zI ((22 - (k + 1) - s_nk (s_fm g) (22 - (k + 1)) : Nat) : Int))), some (.int (zI (22 - (k + 1) : Nat))), some (.int (zI (10 - c : Nat)))] [] T I2 L (0, 0) := by
          intro c
          induction c with
          | zero =>
            intro I2 _ f2 hA2 hlo hcp _
            refine mz_vc ok_X12_clearsRows [4, 71, 26] [(), (), (), (), (), (), (), (), (), (), (), (), (), (), (), (), (), (), (), (), (), (), (), (), (), (), (), (), (), ()] ?_
            simp only [cd_X12_clearsRows, h0, r1, r_rn0, r_rnc, r_vk0, r_vkc, r_vks, r_kci, r_kcv, r_ild, r_ald, r_lld, r_dld, r_Li, r_La, r_Ll, r_Ld, r_Ki, r_Ka, r_Kl, r_Kd, r_Kn, r_ist, r_ast, r_lst, r_dst, r_iinc, r_int, r_lng, r_dbl, r_i2, r_i1, r_l2, r_lsh, r_i2z, r_l2z, r_i2l, r_l2i, r_i2d, r_lcmp, r_ddiv, r_dcmpl, r_dup, r_dup2, r_pop, r_one_int, r_one_ref, r_go, r_if, r_ic, r_tsw, r_lsw, r_sw0, r_swc, r_lk0, r_lkc, r_kp, r_gI, r_gL, r_gR, r_pI, r_pZ, r_pL, r_pR, r_gs, r_ia, r_ca, r_za, r_la, r_da, r_aa, r_ias, r_cas, r_zas, r_las, r_das, r_aas, r_acp, r_new, r_nwa, r_nwq, r_ret, r_irt, r_zrt, r_lrt, r_drt, r_art, r_thr, r_cV0, r_cV1, r_cV2, r_cV3, r_cV4, r_cV5, r_cI0, r_cS0, r_cS1, r_cS2, r_cS3, r_cX0, r_cX1, r_cX2, r_cX3, r_rc, r_oi, r_refx, r_i10, r_i01, r_rfs, r_mem0, r_memc, r_beq, r_kl0, r_klz, r_kl1i, r_kl1r, r_kl1n, r_kl1l, r_kl1d, List.length_cons, List.length_nil, List.getElem?_cons_zero, List.getElem?_cons_succ, List.set_cons_zero, List.set_cons_succ, true_and, and_true, not_true, not_false_eq_true, false_implies, true_implies, or_true, true_or, or_false, false_or, Bool.or_false, Bool.false_or, decide_false, decide_true, Nat.reduceLT, Nat.reduceLeDiff, Nat.reduceAdd, Nat.reduceSub, ↓reduceIte, Nat.reduceEqDiff, Nat.lt_add_one]
            refine ⟨fun _ => ?_, fun q => absurd (by decide) q⟩
            rw [z_1, hkr, ← enn]
            refine mz_forget (ih I2 (by omega) f2 hA2 (fun r c hr hc hf => ?_)) rfl (mz_fg_s (mz_fg_s (mz_fg_s (mz_fg_n mz_fg_0))))
            by_cases e : r = 22 - (k + 1)
            · subst e; exact hcp c (by omega)
            · have h1 : s_nk (s_fm g) r + 1 ≤ s_nk (s_fm g) (22 - (k + 1)) := by
                have := s_nk_mono (e := s_fm g) (r := r + 1) (22 - (k + 1)) (by omega)
                have e : s_nk (s_fm g) (r + 1) = s_nk (s_fm g) r + 1 := by simp [s_nk, hf]
                omega
              rw [hlo _ (by omega)]
              exact hB r c (by omega) hc hf
          | succ c ih2 =>
            intro I2 hc f2 hA2 hlo hcp hrow
            refine mz_vc ok_X12_clearsRows [4, 71, 26] [(), (), (), (), (), (), (), (), (), (), (), (), (), (), (), (), (), (), (), (), (), (), (), (), (), (), (), (), (), ()] ?_
            simp only [cd_X12_clearsRows, h0, r1, r_rn0, r_rnc, r_vk0, r_vkc, r_vks, r_kci, r_kcv, r_ild, r_ald, r_lld, r_dld, r_Li, r_La, r_Ll, r_Ld, r_Ki, r_Ka, r_Kl, r_Kd, r_Kn, r_ist, r_ast, r_lst, r_dst, r_iinc, r_int, r_lng, r_dbl, r_i2, r_i1, r_l2, r_lsh, r_i2z, r_l2z, r_i2l, r_l2i, r_i2d, r_lcmp, r_ddiv, r_dcmpl, r_dup, r_dup2, r_pop, r_one_int, r_one_ref, r_go, r_if, r_ic, r_tsw, r_lsw, r_sw0, r_swc, r_lk0, r_lkc, r_kp, r_gI, r_gL, r_gR, r_pI, r_pZ, r_pL, r_pR, r_gs, r_ia, r_ca, r_za, r_la, r_da, r_aa, r_ias, r_cas, r_zas, r_las, r_das, r_aas, r_acp, r_new, r_nwa, r_nwq, r_ret, r_irt, r_zrt, r_lrt, r_drt, r_art, r_thr, r_cV0, r_cV1, r_cV2, r_cV3, r_cV4, r_cV5, r_cI0, r_cS0, r_cS1, r_cS2, r_cS3, r_cX0, r_cX1, r_cX2, r_cX3, r_rc, r_oi, r_refx, r_i10, r_i01, r_rfs, r_mem0, r_memc, r_beq, r_kl0, r_klz, r_kl1i, r_kl1r, r_kl1n, r_kl1l, r_kl1d, List.length_cons, List.length_nil, List.getElem?_cons_zero, List.getElem?_cons_succ, List.set_cons_zero, List.set_cons_succ, true_and, and_true, not_true, not_false_eq_true, false_implies, true_implies, or_true, true_or, or_false, false_or, Bool.or_false, Bool.false_or, decide_false, decide_true, Nat.reduceLT, Nat.reduceLeDiff, Nat.reduceAdd, Nat.reduceSub, ↓reduceIte, Nat.reduceEqDiff, Nat.lt_add_one]
            have es : zI ((22 - (k + 1) : Nat) : Int) - zI ((22 - (k + 1) - s_nk (s_fm g) (22 - (k + 1)) : Nat) : Int) = zI ((s_nk (s_fm g) (22 - (k + 1)) : Nat) : Int) := by
              rw [z_sub]; congr 1; omega
            rw [es]
            refine ⟨z_no (b := 10) (by omega) (by omega) (by omega), fun _ => c_atM ?_⟩
            simp only [cd_X12_clearsRows, h0, r1, r_rn0, r_rnc, r_vk0, r_vkc, r_vks, r_kci, r_kcv, r_ild, r_ald, r_lld, r_dld, r_Li, r_La, r_Ll, r_Ld, r_Ki, r_Ka, r_Kl, r_Kd, r_Kn, r_ist, r_ast, r_lst, r_dst, r_iinc, r_int, r_lng, r_dbl, r_i2, r_i1, r_l2, r_lsh, r_i2z, r_l2z, r_i2l, r_l2i, r_i2d, r_lcmp, r_ddiv, r_dcmpl, r_dup, r_dup2, r_pop, r_one_int, r_one_ref, r_go, r_if, r_ic, r_tsw, r_lsw, r_sw0, r_swc, r_lk0, r_lkc, r_kp, r_gI, r_gL, r_gR, r_pI, r_pZ, r_pL, r_pR, r_gs, r_ia, r_ca, r_za, r_la, r_da, r_aa, r_ias, r_cas, r_zas, r_las, r_das, r_aas, r_acp, r_new, r_nwa, r_nwq, r_ret, r_irt, r_zrt, r_lrt, r_drt, r_art, r_thr, r_cV0, r_cV1, r_cV2, r_cV3, r_cV4, r_cV5, r_cI0, r_cS0, r_cS1, r_cS2, r_cS3, r_cX0, r_cX1, r_cX2, r_cX3, r_rc, r_oi, r_refx, r_i10, r_i01, r_rfs, r_mem0, r_memc, r_beq, r_kl0, r_klz, r_kl1i, r_kl1r, r_kl1n, r_kl1l, r_kl1d, List.length_cons, List.length_nil, List.getElem?_cons_zero, List.getElem?_cons_succ, List.set_cons_zero, List.set_cons_succ, true_and, and_true, not_true, not_false_eq_true, false_implies, true_implies, or_true, true_or, or_false, false_or, Bool.or_false, Bool.false_or, decide_false, decide_true, Nat.reduceLT, Nat.reduceLeDiff, Nat.reduceAdd, Nat.reduceSub, ↓reduceIte, Nat.reduceEqDiff, Nat.lt_add_one]
            refine c_atM ?_
            simp only [cd_X12_clearsRows, h0, r1, r_rn0, r_rnc, r_vk0, r_vkc, r_vks, r_kci, r_kcv, r_ild, r_ald, r_lld, r_dld, r_Li, r_La, r_Ll, r_Ld, r_Ki, r_Ka, r_Kl, r_Kd, r_Kn, r_ist, r_ast, r_lst, r_dst, r_iinc, r_int, r_lng, r_dbl, r_i2, r_i1, r_l2, r_lsh, r_i2z, r_l2z, r_i2l, r_l2i, r_i2d, r_lcmp, r_ddiv, r_dcmpl, r_dup, r_dup2, r_pop, r_one_int, r_one_ref, r_go, r_if, r_ic, r_tsw, r_lsw, r_sw0, r_swc, r_lk0, r_lkc, r_kp, r_gI, r_gL, r_gR, r_pI, r_pZ, r_pL, r_pR, r_gs, r_ia, r_ca, r_za, r_la, r_da, r_aa, r_ias, r_cas, r_zas, r_las, r_das, r_aas, r_acp, r_new, r_nwa, r_nwq, r_ret, r_irt, r_zrt, r_lrt, r_drt, r_art, r_thr, r_cV0, r_cV1, r_cV2, r_cV3, r_cV4, r_cV5, r_cI0, r_cS0, r_cS1, r_cS2, r_cS3, r_cX0, r_cX1, r_cX2, r_cX3, r_rc, r_oi, r_refx, r_i10, r_i01, r_rfs, r_mem0, r_memc, r_beq, r_kl0, r_klz, r_kl1i, r_kl1r, r_kl1n, r_kl1l, r_kl1d, List.length_cons, List.length_nil, List.getElem?_cons_zero, List.getElem?_cons_succ, List.set_cons_zero, List.set_cons_succ, true_and, and_true, not_true, not_false_eq_true, false_implies, true_implies, or_true, true_or, or_false, false_or, Bool.or_false, Bool.false_or, decide_false, decide_true, Nat.reduceLT, Nat.reduceLeDiff, Nat.reduceAdd, Nat.reduceSub, ↓reduceIte, Nat.reduceEqDiff, Nat.lt_add_one]
            have ez : (10 : Int) * ((22 - (k + 1) : Nat) : Int) + ((10 - (c + 1) : Nat) : Int) = ((10 * (22 - (k + 1)) + (10 - (c + 1)) : Nat) : Int) := by omega
            have ez2 : (10 : Int) * ((s_nk (s_fm g) (22 - (k + 1)) : Nat) : Int) + ((10 - (c + 1) : Nat) : Int) = ((10 * s_nk (s_fm g) (22 - (k + 1)) + (10 - (c + 1)) : Nat) : Int) := by omega
            rw [ez, ez2, z_nat (by omega), Int.toNat_natCast, z_nat (by omega), Int.toNat_natCast, z_1 (10 - (c + 1)), show 10 - (c + 1) + 1 = 10 - c by omega]
            refine ⟨⟨268, t1, z_in (by omega) (by omega) (by decide)⟩, ⟨268, t1, z_in (by omega) (by omega) (by decide)⟩, ?_⟩
            refine ih2 _ (by omega) (fr_u2 f2 (by simp)) (fun i hi => ?_) (fun i hi => ?_) (fun j hj => ?_) (fun j a b => ?_)
            · rw [mz_u_nk (by omega)]; exact hA2 i hi
            · rw [mz_u_nk (by omega)]; exact hlo i hi
            · by_cases q : j = 10 - (c + 1)
              · subst q; rw [mz_u_eq]; exact hrow _ (by omega) (by omega)
              · rw [mz_u_nk (by omega)]; exact hcp j (by omega)
            · rw [mz_u_nk (by omega)]; exact hrow j (by omega) b
        exact inner 10 I1 (Nat.le_refl _) f1 (fun i hi => hA i (by omega)) (fun _ _ => rfl) (fun j hj => absurd hj (by omega)) (fun j _ hj => hA _ (by omega))
      · have q : s_full (s_fm g) (22 - (k + 1)) = true := by simpa using q
        have enk : s_nk (s_fm g) (22 - k) = s_nk (s_fm g) (22 - (k + 1)) := by rw [← hkr, s_nk_s1 q]
        have e1 : 22 - (k + 1) - s_nk (s_fm g) (22 - (k + 1)) + 1 = 22 - k - s_nk (s_fm g) (22 - k) := by omega
        rw [z_1, z_1, e1, hkr]
        refine ih I1 (by omega) f1 (fun i hi => hA i (by omega)) (fun r c hr hc hf => ?_)
        by_cases e : r = 22 - (k + 1)
        · subst e; rw [q] at hf; cases hf
        · exact hB r c (by omega) hc hf
  refine mz_ofl mk_X12_clearsRows rfl (Nat.le_of_ble_eq_true rfl) (Nat.le_of_ble_eq_true rfl) [some (.ref (D 0)), none, none, none] rfl ?_
  refine mz_vc ok_X12_clearsRows [4] [(), (), (), (), (), (), (), (), (), (), (), (), (), (), (), (), (), (), (), (), (), (), (), (), (), (), (), (), (), ()] ?_
  simp only [cd_X12_clearsRows, h0, r1, r_rn0, r_rnc, r_vk0, r_vkc, r_vks, r_kci, r_kcv, r_ild, r_ald, r_lld, r_dld, r_Li, r_La, r_Ll, r_Ld, r_Ki, r_Ka, r_Kl, r_Kd, r_Kn, r_ist, r_ast, r_lst, r_dst, r_iinc, r_int, r_lng, r_dbl, r_i2, r_i1, r_l2, r_lsh, r_i2z, r_l2z, r_i2l, r_l2i, r_i2d, r_lcmp, r_ddiv, r_dcmpl, r_dup, r_dup2, r_pop, r_one_int, r_one_ref, r_go, r_if, r_ic, r_tsw, r_lsw, r_sw0, r_swc, r_lk0, r_lkc, r_kp, r_gI, r_gL, r_gR, r_pI, r_pZ, r_pL, r_pR, r_gs, r_ia, r_ca, r_za, r_la, r_da, r_aa, r_ias, r_cas, r_zas, r_las, r_das, r_aas, r_acp, r_new, r_nwa, r_nwq, r_ret, r_irt, r_zrt, r_lrt, r_drt, r_art, r_thr, r_cV0, r_cV1, r_cV2, r_cV3, r_cV4, r_cV5, r_cI0, r_cS0, r_cS1, r_cS2, r_cS3, r_cX0, r_cX1, r_cX2, r_cX3, r_rc, r_oi, r_refx, r_i10, r_i01, r_rfs, r_mem0, r_memc, r_beq, r_kl0, r_klz, r_kl1i, r_kl1r, r_kl1n, r_kl1l, r_kl1d, List.length_cons, List.length_nil, List.getElem?_cons_zero, List.getElem?_cons_succ, List.set_cons_zero, List.set_cons_succ, true_and, and_true, not_true, not_false_eq_true, false_implies, true_implies, or_true, true_or, or_false, false_or, Bool.or_false, Bool.false_or, decide_false, decide_true, Nat.reduceLT, Nat.reduceLeDiff, Nat.reduceAdd, Nat.reduceSub, ↓reduceIte, Nat.reduceEqDiff, Nat.lt_add_one]
  exact loop 22 I (Nat.le_refl _) fr_refl (fun i _ => by rw [hg]) (fun r c hr => absurd hr (by omega))
def d_fl (e : Nat → Bool) : Nat → Nat
  | 0 => 0
  | n + 1 => d_fl e n + (if e n then 1 else 0)
theorem d_fl_rc {e : Nat → Bool} {r : Nat} : ∀ n, d_fl e (10 * r + n) = d_fl e (10 * r) + s_rc e r n
  | 0 => rfl
  | n + 1 => by
    show d_fl e (10 * r + n) + (if e (10 * r + n) then 1 else 0) = d_fl e (10 * r) + (s_rc e r n + (if e (10 * r + n) then 1 else 0))
    rw [d_fl_rc n]; omega
theorem d_fl_fc {e : Nat → Bool} : ∀ r, d_fl e (10 * r) = s_fc e r
  | 0 => rfl
  | r + 1 => by
    rw [show 10 * (r + 1) = 10 * r + 10 by omega, d_fl_rc, d_fl_fc r]; rfl
theorem d_fl_le {e : Nat → Bool} : ∀ n, d_fl e n ≤ n
  | 0 => Nat.le_refl 0
  | n + 1 => by unfold d_fl; have := d_fl_le (e := e) n; split <;> omega
theorem c_filledM {D : Nat → Nat} (hM : p_Mo T D) (h : K (some (.int (zI (s_fc (s_fm (I (D 1))) 22)))) T I L) : mz_Ctr G M_X12_filled [.ref (D 0)] T I L K := by
  obtain ⟨h0, ⟨r1, r2, r3, -⟩, ⟨t1, t2, t3, -⟩, -⟩ := id hM
  have loop := mz_loop (N := 220) (fun n => mz_W G M_X12_filled K mz_nX 4 [some (.ref (D 0)), some (.int (zI (d_fl (s_fm (I (D 1))) n))), some (.int (zI n))] [] T I L (0, 0)) ?_ ?_ 0 (Nat.zero_le _)
  · refine mz_ofl mk_X12_filled rfl (Nat.le_of_ble_eq_true rfl) (Nat.le_of_ble_eq_true rfl) [some (.ref (D 0)), none, none] rfl ?_
    refine mz_vc ok_X12_filled [4] [(), (), (), (), (), (), (), (), (), (), (), (), (), (), (), (), (), (), (), (), (), (), (), (), (), (), (), (), (), ()] ?_
    simp only [cd_X12_filled, h0, r1, r_rn0, r_rnc, r_vk0, r_vkc, r_vks, r_kci, r_kcv, r_ild, r_ald, r_lld, r_dld, r_Li, r_La, r_Ll, r_Ld, r_Ki, r_Ka, r_Kl, r_Kd, r_Kn, r_ist, r_ast, r_lst, r_dst, r_iinc, r_int, r_lng, r_dbl, r_i2, r_i1, r_l2, r_lsh, r_i2z, r_l2z, r_i2l, r_l2i, r_i2d, r_lcmp, r_ddiv, r_dcmpl, r_dup, r_dup2, r_pop, r_one_int, r_one_ref, r_go, r_if, r_ic, r_tsw, r_lsw, r_sw0, r_swc, r_lk0, r_lkc, r_kp, r_gI, r_gL, r_gR, r_pI, r_pZ, r_pL, r_pR, r_gs, r_ia, r_ca, r_za, r_la, r_da, r_aa, r_ias, r_cas, r_zas, r_las, r_das, r_aas, r_acp, r_new, r_nwa, r_nwq, r_ret, r_irt, r_zrt, r_lrt, r_drt, r_art, r_thr, r_cV0, r_cV1, r_cV2, r_cV3, r_cV4, r_cV5, r_cI0, r_cS0, r_cS1, r_cS2, r_cS3, r_cX0, r_cX1, r_cX2, r_cX3, r_rc, r_oi, r_refx, r_i10, r_i01, r_rfs, r_mem0, r_memc, r_beq, r_kl0, r_klz, r_kl1i, r_kl1r, r_kl1n, r_kl1l, r_kl1d, List.length_cons, List.length_nil, List.getElem?_cons_zero, List.getElem?_cons_succ, List.set_cons_zero, List.set_cons_succ, true_and, and_true, not_true, not_false_eq_true, false_implies, true_implies, or_true, true_or, or_false, false_or, Bool.or_false, Bool.false_or, decide_false, decide_true, Nat.reduceLT, Nat.reduceLeDiff, Nat.reduceAdd, Nat.reduceSub, ↓reduceIte, Nat.reduceEqDiff, Nat.lt_add_one]
    exact loop
  · rw [show 220 = 10 * 22 from rfl, d_fl_fc]
    refine mz_vc ok_X12_filled [4] [(), (), (), (), (), (), (), (), (), (), (), (), (), (), (), (), (), (), (), (), (), (), (), (), (), (), (), (), (), ()] ?_
    simp only [cd_X12_filled, h0, r1, r_rn0, r_rnc, r_vk0, r_vkc, r_vks, r_kci, r_kcv, r_ild, r_ald, r_lld, r_dld, r_Li, r_La, r_Ll, r_Ld, r_Ki, r_Ka, r_Kl, r_Kd, r_Kn, r_ist, r_ast, r_lst, r_dst, r_iinc, r_int, r_lng, r_dbl, r_i2, r_i1, r_l2, r_lsh, r_i2z, r_l2z, r_i2l, r_l2i, r_i2d, r_lcmp, r_ddiv, r_dcmpl, r_dup, r_dup2, r_pop, r_one_int, r_one_ref, r_go, r_if, r_ic, r_tsw, r_lsw, r_sw0, r_swc, r_lk0, r_lkc, r_kp, r_gI, r_gL, r_gR, r_pI, r_pZ, r_pL, r_pR, r_gs, r_ia, r_ca, r_za, r_la, r_da, r_aa, r_ias, r_cas, r_zas, r_las, r_das, r_aas, r_acp, r_new, r_nwa, r_nwq, r_ret, r_irt, r_zrt, r_lrt, r_drt, r_art, r_thr, r_cV0, r_cV1, r_cV2, r_cV3, r_cV4, r_cV5, r_cI0, r_cS0, r_cS1, r_cS2, r_cS3, r_cX0, r_cX1, r_cX2, r_cX3, r_rc, r_oi, r_refx, r_i10, r_i01, r_rfs, r_mem0, r_memc, r_beq, r_kl0, r_klz, r_kl1i, r_kl1r, r_kl1n, r_kl1l, r_kl1d, List.length_cons, List.length_nil, List.getElem?_cons_zero, List.getElem?_cons_succ, List.set_cons_zero, List.set_cons_succ, true_and, and_true, not_true, not_false_eq_true, false_implies, true_implies, or_true, true_or, or_false, false_or, Bool.or_false, Bool.false_or, decide_false, decide_true, Nat.reduceLT, Nat.reduceLeDiff, Nat.reduceAdd, Nat.reduceSub, ↓reduceIte, Nat.reduceEqDiff, Nat.lt_add_one]
    exact ⟨fun _ => h, fun q => absurd (by decide) q⟩
  · intro n hn ih
    have hl := d_fl_le (e := s_fm (I (D 1))) n
    refine mz_vc ok_X12_filled [4] [(), (), (), (), (), (), (), (), (), (), (), (), (), (), (), (), (), (), (), (), (), (), (), (), (), (), (), (), (), ()] ?_
    simp only [cd_X12_filled, h0, r1, r_rn0, r_rnc, r_vk0, r_vkc, r_vks, r_kci, r_kcv, r_ild, r_ald, r_lld, r_dld, r_Li, r_La, r_Ll, r_Ld, r_Ki, r_Ka, r_Kl, r_Kd, r_Kn, r_ist, r_ast, r_lst, r_dst, r_iinc, r_int, r_lng, r_dbl, r_i2, r_i1, r_l2, r_lsh, r_i2z, r_l2z, r_i2l, r_l2i, r_i2d, r_lcmp, r_ddiv, r_dcmpl, r_dup, r_dup2, r_pop, r_one_int, r_one_ref, r_go, r_if, r_ic, r_tsw, r_lsw, r_sw0, r_swc, r_lk0, r_lkc, r_kp, r_gI, r_gL, r_gR, r_pI, r_pZ, r_pL, r_pR, r_gs, r_ia, r_ca, r_za, r_la, r_da, r_aa, r_ias, r_cas, r_zas, r_las, r_das, r_aas, r_acp, r_new, r_nwa, r_nwq, r_ret, r_irt, r_zrt, r_lrt, r_drt, r_art, r_thr, r_cV0, r_cV1, r_cV2, r_cV3, r_cV4, r_cV5, r_cI0, r_cS0, r_cS1, r_cS2, r_cS3, r_cX0, r_cX1, r_cX2, r_cX3, r_rc, r_oi, r_refx, r_i10, r_i01, r_rfs, r_mem0, r_memc, r_beq, r_kl0, r_klz, r_kl1i, r_kl1r, r_kl1n, r_kl1l, r_kl1d, List.length_cons, List.length_nil, List.getElem?_cons_zero, List.getElem?_cons_succ, List.set_cons_zero, List.set_cons_succ, true_and, and_true, not_true, not_false_eq_true, false_implies, true_implies, or_true, true_or, or_false, false_or, Bool.or_false, Bool.false_or, decide_false, decide_true, Nat.reduceLT, Nat.reduceLeDiff, Nat.reduceAdd, Nat.reduceSub, ↓reduceIte, Nat.reduceEqDiff, Nat.lt_add_one]
    rw [z_nat (by omega), Int.toNat_natCast, z_1]
    refine ⟨z_no (b := 220) (by omega) (by omega) hn, fun _ => ⟨⟨268, t1, z_in (by omega) (by omega) (by decide)⟩, fun q => ?_, fun q => ?_⟩⟩
    · have e : d_fl (s_fm (I (D 1))) (n + 1) = d_fl (s_fm (I (D 1))) n := by
        rw [d_fl, s_fm_v hn, decide_eq_false (fun e => e q)]; rfl
      rw [e] at ih
      have e0 : zI ((d_fl (s_fm (I (D 1))) n : Nat) : Int) + 0 = zI ((d_fl (s_fm (I (D 1))) n : Nat) : Int) := by rw [l_0, z_add]; rfl
      rw [e0]; exact ih
    · have e : d_fl (s_fm (I (D 1))) (n + 1) = d_fl (s_fm (I (D 1))) n + 1 := by
        rw [d_fl, s_fm_v hn, decide_eq_true q]; rfl
      rw [e] at ih
      rw [z_1]; exact ih
/-- the first cells of a piece -/
def d_hs (g : Nat → Int32) (j : Nat) : Nat → Bool
  | 0 => false
  | i + 1 => d_hs g j i || decide ((j : Int) = 10 * (m_r g + (d_b (m_kd g) i (m_st g)).2) + (m_c g + (d_b (m_kd g) i (m_st g)).1))
theorem d_hs4 {g : Nat → Int32} {j : Nat} (hk : m_kd g < 7) (hs : m_st g < 4) : d_hs g j 4 = s_has (m_kd g) (m_st g) (m_c g) (m_r g) j := by
  obtain ⟨p1, p2⟩ := d_perm (m_kd g) hk (m_st g) hs
  have key : ∀ n, d_hs g j n = true ↔ ∃ i, i < n ∧ (j : Int) = 10 * (m_r g + (d_b (m_kd g) i (m_st g)).2) + (m_c g + (d_b (m_kd g) i (m_st g)).1) := by
    intro n
    induction n with
    | zero => exact ⟨fun e => absurd e (by unfold d_hs; decide), fun ⟨i, hi, _⟩ => absurd hi (Nat.not_lt_zero _)⟩
    | succ n ih =>
      unfold d_hs
      rw [Bool.or_eq_true, ih, decide_eq_true_eq]
      constructor
      · rintro (⟨i, hi, e⟩ | e)
        · exact ⟨i, by omega, e⟩
        · exact ⟨n, by omega, e⟩
      · rintro ⟨i, hi, e⟩
        by_cases c : i = n
        · subst c; exact Or.inr e
        · exact Or.inl ⟨i, by omega, e⟩
  apply Bool.eq_iff_iff.mpr
  rw [key, s_has_t]
  constructor
  · rintro ⟨i, hi, e⟩
    obtain ⟨t, ht, e1, e2⟩ := p2 i hi
    exact ⟨t, ht, by omega⟩
  · rintro ⟨t, ht, e⟩
    obtain ⟨i, hi, e1, e2⟩ := p1 t ht
    exact ⟨i, hi, by omega⟩
theorem d_in {g : Nat → Int32} (hp : d_ok g) {i : Nat} (hi : i < 4) : 0 ≤ m_c g + (d_b (m_kd g) i (m_st g)).1 ∧ m_c g + (d_b (m_kd g) i (m_st g)).1 < 10 ∧ 0 ≤ m_r g + (d_b (m_kd g) i (m_st g)).2 ∧ m_r g + (d_b (m_kd g) i (m_st g)).2 < 22 := by
  obtain ⟨⟨q, hk, hs, hc, hr⟩, hf⟩ := hp
  obtain ⟨t, ht, e1, e2⟩ := (d_perm (m_kd g) hk (m_st g) hs).2 i hi
  have h1 := s_fit_t.mp hf t ht
  rw [e1, e2] at h1
  by_cases z : 0 ≤ m_c g + (d_b (m_kd g) i (m_st g)).1 ∧ m_c g + (d_b (m_kd g) i (m_st g)).1 < 10 ∧ 0 ≤ m_r g + (d_b (m_kd g) i (m_st g)).2 ∧ m_r g + (d_b (m_kd g) i (m_st g)).2 < 22
  · exact z
  · rw [s_at_out (by omega)] at h1; cases h1
theorem c_fillsM {D : Nat → Nat} (hM : p_Mo T D) (hC : p_Mc I D) (hp : d_ok (I (D 1))) (h : ∀ I', fr I I' [D 1] → I' (D 1) = o_fill (I (D 1)) → K none T I' L) : mz_Ctr G M_X12_fills [.ref (D 0)] T I L K := by
  refine mz_apartC fun hU => ?_
  obtain ⟨h0, ⟨r1, r2, r3, -⟩, ⟨t1, t2, t3, -⟩, -⟩ := id hM
  obtain ⟨⟨q1, q2, q3, q4⟩, hk, hs, hc, hr⟩ := id hp.1
  have hin := fun i hi => d_in hp (i := i) hi
  generalize hg : I (D 1) = g at h hp q1 q2 q3 q4 hk hs hc hr hin
  have loop : ∀ k (I1 : mz_I), k ≤ 4 → fr I I1 [D 1] → (∀ j, I1 (D 1) j = if d_hs g j (4 - k) then g 222 + 1 else g j) → mz_W G M_X12_fills K mz_nX 2 [some (.ref (D 0)), some (.int (zI (4 - k : Nat)))] [] T I1 L (0, 0) := by
    intro k
    induction k with
    | zero =>
      intro I1 _ f1 e1
      refine mz_vc ok_X12_fills [2] [(), (), (), (), (), (), (), (), (), (), (), (), (), (), (), (), (), (), (), (), (), (), (), (), (), (), (), (), (), ()] ?_
      simp only [cd_X12_fills, h0, r1, ix_222 t1, n_222, ix_223 t1, n_223, ix_224 t1, n_224, ix_225 t1, n_225, r_rn0, r_rnc, r_vk0, r_vkc, r_vks, r_kci, r_kcv, r_ild, r_ald, r_lld, r_dld, r_Li, r_La, r_Ll, r_Ld, r_Ki, r_Ka, r_Kl, r_Kd, r_Kn, r_ist, r_ast, r_lst, r_dst, r_iinc, r_int, r_lng, r_dbl, r_i2, r_i1, r_l2, r_lsh, r_i2z, r_l2z, r_i2l, r_l2i, r_i2d, r_lcmp, r_ddiv, r_dcmpl, r_dup, r_dup2, r_pop, r_one_int, r_one_ref, r_go, r_if, r_ic, r_tsw, r_lsw, r_sw0, r_swc, r_lk0, r_lkc, r_kp, r_gI, r_gL, r_gR, r_pI, r_pZ, r_pL, r_pR, r_gs, r_ia, r_ca, r_za, r_la, r_da, r_aa, r_ias, r_cas, r_zas, r_las, r_das, r_aas, r_acp, r_new, r_nwa, r_nwq, r_ret, r_irt, r_zrt, r_lrt, r_drt, r_art, r_thr, r_cV0, r_cV1, r_cV2, r_cV3, r_cV4, r_cV5, r_cI0, r_cS0, r_cS1, r_cS2, r_cS3, r_cX0, r_cX1, r_cX2, r_cX3, r_rc, r_oi, r_refx, r_i10, r_i01, r_rfs, r_mem0, r_memc, r_beq, r_kl0, r_klz, r_kl1i, r_kl1r, r_kl1n, r_kl1l, r_kl1d, List.length_cons, List.length_nil, List.getElem?_cons_zero, List.getElem?_cons_succ, List.set_cons_zero, List.set_cons_succ, true_and, and_true, not_true, not_false_eq_true, false_implies, true_implies, or_true, true_or, or_false, false_or, Bool.or_false, Bool.false_or, decide_false, decide_true, Nat.reduceLT, Nat.reduceLeDiff, Nat.reduceAdd, Nat.reduceSub, ↓reduceIte, Nat.reduceEqDiff, Nat.lt_add_one]
      refine ⟨fun _ => ?_, fun q => absurd (by decide) q⟩
      refine h I1 f1 ?_
      funext j
      rw [e1 j, Nat.sub_zero, d_hs4 hk hs]
      unfold o_fill
      by_cases c : j < 220
      · by_cases c2 : s_has (m_kd g) (m_st g) (m_c g) (m_r g) j = true
        · rw [if_pos c2, if_pos ⟨c, c2⟩]
        · rw [if_neg c2, if_neg (fun e => c2 e.2)]
      · rw [if_neg (show ¬ (j < 220 ∧ s_has (m_kd g) (m_st g) (m_c g) (m_r g) (j : Int) = true) from fun e => c e.1), if_neg]
        intro c2
        obtain ⟨t, ht, e⟩ := s_has_t.mp c2
        obtain ⟨i, hi, e1, e2⟩ := (d_perm (m_kd g) hk (m_st g) hs).1 t ht
        have := hin i hi
        omega
    | succ k ih =>
      intro I1 hk9 f1 e1
      have hC1 := Mc_1 hU hM hC f1
      have hb := hin (4 - (k + 1)) (by omega)
      have hout : ∀ j, 220 ≤ j → I1 (D 1) j = g j := by
        intro j hj
        rw [e1 j, if_neg]
        intro c
        have : ∀ n, n ≤ 4 → d_hs g j n = false := by
          intro n
          induction n with
          | zero => intro _; rfl
          | succ n ihn =>
            intro hn
            have := hin n (by omega)
            unfold d_hs
            rw [ihn (by omega), decide_eq_false (by omega)]; rfl
        rw [this _ (by omega)] at c; cases c
      have v222 : I1 (D 1) 222 = zI (m_kd g) := by rw [hout 222 (by decide)]; exact q1
      have v223 : I1 (D 1) 223 = zI (m_st g) := by rw [hout 223 (by decide)]; exact q2
      have v224 : I1 (D 1) 224 = zI (m_c g) := by rw [hout 224 (by decide)]; exact q3
      have v225 : I1 (D 1) 225 = zI (m_r g) := by rw [hout 225 (by decide)]; exact q4
      refine mz_vc ok_X12_fills [2] [(), (), (), (), (), (), (), (), (), (), (), (), (), (), (), (), (), (), (), (), (), (), (), (), (), (), (), (), (), ()] ?_
      simp only [cd_X12_fills, h0, r1, ix_222 t1, n_222, ix_223 t1, n_223, ix_224 t1, n_224, ix_225 t1, n_225, v222, v223, v224, v225, r_rn0, r_rnc, r_vk0, r_vkc, r_vks, r_kci, r_kcv, r_ild, r_ald, r_lld, r_dld, r_Li, r_La, r_Ll, r_Ld, r_Ki, r_Ka, r_Kl, r_Kd, r_Kn, r_ist, r_ast, r_lst, r_dst, r_iinc, r_int, r_lng, r_dbl, r_i2, r_i1, r_l2, r_lsh, r_i2z, r_l2z, r_i2l, r_l2i, r_i2d, r_lcmp, r_ddiv, r_dcmpl, r_dup, r_dup2, r_pop, r_one_int, r_one_ref, r_go, r_if, r_ic, r_tsw, r_lsw, r_sw0, r_swc, r_lk0, r_lkc, r_kp, r_gI, r_gL, r_gR, r_pI, r_pZ, r_pL, r_pR, r_gs, r_ia, r_ca, r_za, r_la, r_da, r_aa, r_ias, r_cas, r_zas, r_las, r_das, r_aas, r_acp, r_new, r_nwa, r_nwq, r_ret, r_irt, r_zrt, r_lrt, r_drt, r_art, r_thr, r_cV0, r_cV1, r_cV2, r_cV3, r_cV4, r_cV5, r_cI0, r_cS0, r_cS1, r_cS2, r_cS3, r_cX0, r_cX1, r_cX2, r_cX3, r_rc, r_oi, r_refx, r_i10, r_i01, r_rfs, r_mem0, r_memc, r_beq, r_kl0, r_klz, r_kl1i, r_kl1r, r_kl1n, r_kl1l, r_kl1d, List.length_cons, List.length_nil, List.getElem?_cons_zero, List.getElem?_cons_succ, List.set_cons_zero, List.set_cons_succ, true_and, and_true, not_true, not_false_eq_true, false_implies, true_implies, or_true, true_or, or_false, false_or, Bool.or_false, Bool.false_or, decide_false, decide_true, Nat.reduceLT, Nat.reduceLeDiff, Nat.reduceAdd, Nat.reduceSub, ↓reduceIte, Nat.reduceEqDiff, Nat.lt_add_one]
      refine ⟨z_no (b := 4) (by omega) (by omega) (by omega), fun _ => ?_⟩
      refine c_boxedM hM hC1 hk hs (by omega) ?_
      simp only [cd_X12_fills, h0, r1, ix_222 t1, n_222, ix_223 t1, n_223, ix_224 t1, n_224, ix_225 t1, n_225, v222, v223, v224, v225, r_rn0, r_rnc, r_vk0, r_vkc, r_vks, r_kci, r_kcv, r_ild, r_ald, r_lld, r_dld, r_Li, r_La, r_Ll, r_Ld, r_Ki, r_Ka, r_Kl, r_Kd, r_Kn, r_ist, r_ast, r_lst, r_dst, r_iinc, r_int, r_lng, r_dbl, r_i2, r_i1, r_l2, r_lsh, r_i2z, r_l2z, r_i2l, r_l2i, r_i2d, r_lcmp, r_ddiv, r_dcmpl, r_dup, r_dup2, r_pop, r_one_int, r_one_ref, r_go, r_if, r_ic, r_tsw, r_lsw, r_sw0, r_swc, r_lk0, r_lkc, r_kp, r_gI, r_gL, r_gR, r_pI, r_pZ, r_pL, r_pR, r_gs, r_ia, r_ca, r_za, r_la, r_da, r_aa, r_ias, r_cas, r_zas, r_las, r_das, r_aas, r_acp, r_new, r_nwa, r_nwq, r_ret, r_irt, r_zrt, r_lrt, r_drt, r_art, r_thr, r_cV0, r_cV1, r_cV2, r_cV3, r_cV4, r_cV5, r_cI0, r_cS0, r_cS1, r_cS2, r_cS3, r_cX0, r_cX1, r_cX2, r_cX3, r_rc, r_oi, r_refx, r_i10, r_i01, r_rfs, r_mem0, r_memc, r_beq, r_kl0, r_klz, r_kl1i, r_kl1r, r_kl1n, r_kl1l, r_kl1d, List.length_cons, List.length_nil, List.getElem?_cons_zero, List.getElem?_cons_succ, List.set_cons_zero, List.set_cons_succ, true_and, and_true, not_true, not_false_eq_true, false_implies, true_implies, or_true, true_or, or_false, false_or, Bool.or_false, Bool.false_or, decide_false, decide_true, Nat.reduceLT, Nat.reduceLeDiff, Nat.reduceAdd, Nat.reduceSub, ↓reduceIte, Nat.reduceEqDiff, Nat.lt_add_one]
      refine c_boxedM hM hC1 hk hs (by omega) ?_
      simp only [cd_X12_fills, h0, r1, ix_222 t1, n_222, ix_223 t1, n_223, ix_224 t1, n_224, ix_225 t1, n_225, v222, v223, v224, v225, r_rn0, r_rnc, r_vk0, r_vkc, r_vks, r_kci, r_kcv, r_ild, r_ald, r_lld, r_dld, r_Li, r_La, r_Ll, r_Ld, r_Ki, r_Ka, r_Kl, r_Kd, r_Kn, r_ist, r_ast, r_lst, r_dst, r_iinc, r_int, r_lng, r_dbl, r_i2, r_i1, r_l2, r_lsh, r_i2z, r_l2z, r_i2l, r_l2i, r_i2d, r_lcmp, r_ddiv, r_dcmpl, r_dup, r_dup2, r_pop, r_one_int, r_one_ref, r_go, r_if, r_ic, r_tsw, r_lsw, r_sw0, r_swc, r_lk0, r_lkc, r_kp, r_gI, r_gL, r_gR, r_pI, r_pZ, r_pL, r_pR, r_gs, r_ia, r_ca, r_za, r_la, r_da, r_aa, r_ias, r_cas, r_zas, r_las, r_das, r_aas, r_acp, r_new, r_nwa, r_nwq, r_ret, r_irt, r_zrt, r_lrt, r_drt, r_art, r_thr, r_cV0, r_cV1, r_cV2, r_cV3, r_cV4, r_cV5, r_cI0, r_cS0, r_cS1, r_cS2, r_cS3, r_cX0, r_cX1, r_cX2, r_cX3, r_rc, r_oi, r_refx, r_i10, r_i01, r_rfs, r_mem0, r_memc, r_beq, r_kl0, r_klz, r_kl1i, r_kl1r, r_kl1n, r_kl1l, r_kl1d, List.length_cons, List.length_nil, List.getElem?_cons_zero, List.getElem?_cons_succ, List.set_cons_zero, List.set_cons_succ, true_and, and_true, not_true, not_false_eq_true, false_implies, true_implies, or_true, true_or, or_false, false_or, Bool.or_false, Bool.false_or, decide_false, decide_true, Nat.reduceLT, Nat.reduceLeDiff, Nat.reduceAdd, Nat.reduceSub, ↓reduceIte, Nat.reduceEqDiff, Nat.lt_add_one]
      rw [z_add, z_add, show d_bw (m_kd g) (m_st g) (4 - (k + 1)) 0 = (d_b (m_kd g) (4 - (k + 1)) (m_st g)).1 from rfl, show d_bw (m_kd g) (m_st g) (4 - (k + 1)) 1 = (d_b (m_kd g) (4 - (k + 1)) (m_st g)).2 from rfl]
      refine c_atM ?_
      simp only [cd_X12_fills, h0, r1, ix_222 t1, n_222, ix_223 t1, n_223, ix_224 t1, n_224, ix_225 t1, n_225, v222, r_rn0, r_rnc, r_vk0, r_vkc, r_vks, r_kci, r_kcv, r_ild, r_ald, r_lld, r_dld, r_Li, r_La, r_Ll, r_Ld, r_Ki, r_Ka, r_Kl, r_Kd, r_Kn, r_ist, r_ast, r_lst, r_dst, r_iinc, r_int, r_lng, r_dbl, r_i2, r_i1, r_l2, r_lsh, r_i2z, r_l2z, r_i2l, r_l2i, r_i2d, r_lcmp, r_ddiv, r_dcmpl, r_dup, r_dup2, r_pop, r_one_int, r_one_ref, r_go, r_if, r_ic, r_tsw, r_lsw, r_sw0, r_swc, r_lk0, r_lkc, r_kp, r_gI, r_gL, r_gR, r_pI, r_pZ, r_pL, r_pR, r_gs, r_ia, r_ca, r_za, r_la, r_da, r_aa, r_ias, r_cas, r_zas, r_las, r_das, r_aas, r_acp, r_new, r_nwa, r_nwq, r_ret, r_irt, r_zrt, r_lrt, r_drt, r_art, r_thr, r_cV0, r_cV1, r_cV2, r_cV3, r_cV4, r_cV5, r_cI0, r_cS0, r_cS1, r_cS2, r_cS3, r_cX0, r_cX1, r_cX2, r_cX3, r_rc, r_oi, r_refx, r_i10, r_i01, r_rfs, r_mem0, r_memc, r_beq, r_kl0, r_klz, r_kl1i, r_kl1r, r_kl1n, r_kl1l, r_kl1d, List.length_cons, List.length_nil, List.getElem?_cons_zero, List.getElem?_cons_succ, List.set_cons_zero, List.set_cons_succ, true_and, and_true, not_true, not_false_eq_true, false_implies, true_implies, or_true, true_or, or_false, false_or, Bool.or_false, Bool.false_or, decide_false, decide_true, Nat.reduceLT, Nat.reduceLeDiff, Nat.reduceAdd, Nat.reduceSub, ↓reduceIte, Nat.reduceEqDiff, Nat.lt_add_one]
      rw [z_nat (by omega), z_1 (4 - (k + 1)), show 4 - (k + 1) + 1 = 4 - k by omega]
      refine ⟨⟨268, t1, z_in (by omega) (by omega) (by decide)⟩, ?_⟩
      refine ih _ (by omega) (fr_u2 f1 (by simp)) (fun j => ?_)
      rw [mz_u_at, show 4 - k = 4 - (k + 1) + 1 by omega]
      unfold d_hs
      by_cases c : (j : Int) = 10 * (m_r g + (d_b (m_kd g) (4 - (k + 1)) (m_st g)).2) + (m_c g + (d_b (m_kd g) (4 - (k + 1)) (m_st g)).1)
      · rw [if_pos ⟨rfl, by omega⟩, decide_eq_true c, Bool.or_true, if_pos rfl, q1]
      · rw [if_neg (fun e => c (by omega)), decide_eq_false c, Bool.or_false]; exact e1 j
  refine mz_ofl mk_X12_fills rfl (Nat.le_of_ble_eq_true rfl) (Nat.le_of_ble_eq_true rfl) [some (.ref (D 0)), none] rfl ?_
  refine mz_vc ok_X12_fills [2] [(), (), (), (), (), (), (), (), (), (), (), (), (), (), (), (), (), (), (), (), (), (), (), (), (), (), (), (), (), ()] ?_
  simp only [cd_X12_fills, h0, r1, ix_222 t1, n_222, ix_223 t1, n_223, ix_224 t1, n_224, ix_225 t1, n_225, r_rn0, r_rnc, r_vk0, r_vkc, r_vks, r_kci, r_kcv, r_ild, r_ald, r_lld, r_dld, r_Li, r_La, r_Ll, r_Ld, r_Ki, r_Ka, r_Kl, r_Kd, r_Kn, r_ist, r_ast, r_lst, r_dst, r_iinc, r_int, r_lng, r_dbl, r_i2, r_i1, r_l2, r_lsh, r_i2z, r_l2z, r_i2l, r_l2i, r_i2d, r_lcmp, r_ddiv, r_dcmpl, r_dup, r_dup2, r_pop, r_one_int, r_one_ref, r_go, r_if, r_ic, r_tsw, r_lsw, r_sw0, r_swc, r_lk0, r_lkc, r_kp, r_gI, r_gL, r_gR, r_pI, r_pZ, r_pL, r_pR, r_gs, r_ia, r_ca, r_za, r_la, r_da, r_aa, r_ias, r_cas, r_zas, r_las, r_das, r_aas, r_acp, r_new, r_nwa, r_nwq, r_ret, r_irt, r_zrt, r_lrt, r_drt, r_art, r_thr, r_cV0, r_cV1, r_cV2, r_cV3, r_cV4, r_cV5, r_cI0, r_cS0, r_cS1, r_cS2, r_cS3, r_cX0, r_cX1, r_cX2, r_cX3, r_rc, r_oi, r_refx, r_i10, r_i01, r_rfs, r_mem0, r_memc, r_beq, r_kl0, r_klz, r_kl1i, r_kl1r, r_kl1n, r_kl1l, r_kl1d, List.length_cons, List.length_nil, List.getElem?_cons_zero, List.getElem?_cons_succ, List.set_cons_zero, List.set_cons_succ, true_and, and_true, not_true, not_false_eq_true, false_implies, true_implies, or_true, true_or, or_false, false_or, Bool.or_false, Bool.false_or, decide_false, decide_true, Nat.reduceLT, Nat.reduceLeDiff, Nat.reduceAdd, Nat.reduceSub, ↓reduceIte, Nat.reduceEqDiff, Nat.lt_add_one]
  exact loop 4 I (Nat.le_refl _) fr_refl (fun j => by rw [hg]; rfl)
end MODR
