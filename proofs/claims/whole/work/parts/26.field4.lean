/-! a field filled, cleared of its full rows, raised -/
section FLD5
variable {G : mz_G} {K : mz_K} {T : mz_T} {I : mz_I} {L : mz_L}
theorem s_rc_cg {e e' : Nat → Bool} {r : Nat} : ∀ n, (∀ j, j < n → e (10 * r + j) = e' (10 * r + j)) → s_rc e r n = s_rc e' r n
  | 0, _ => rfl
  | n + 1, h => by
    unfold s_rc
    rw [s_rc_cg n (fun j hj => h j (by omega)), h n (by omega)]
def s_full (e : Nat → Bool) (r : Nat) : Bool := decide (s_rc e r 10 = 10)
/-- how many rows among the first are not full -/
def s_nk (e : Nat → Bool) : Nat → Nat
  | 0 => 0
  | r + 1 => s_nk e r + (if s_full e r then 0 else 1)
theorem s_nk_le {e : Nat → Bool} : ∀ n, s_nk e n ≤ n
  | 0 => Nat.le_refl 0
  | n + 1 => by unfold s_nk; have := s_nk_le (e := e) n; split <;> omega
theorem s_fl_cg {g g' : Nat → Int32} {i : Nat} (h : g i = g' i) : s_fl g i = s_fl g' i := by unfold s_fl; rw [h]
theorem c_fillWith {f k p kd s : Nat} {c r : Int} (hf : p_Field T f k) (hp : p_Pos T I p kd s c r)
    (h : ∀ I', fr I I' [k] → (∀ x : Nat, x < 220 → I' k x = if s_has kd s c r x then zI kd else I k x) → K none T I' L) : mz_Ctr G M_X2_fillWith [.ref f, .ref p] T I L K := by
  refine mz_apartC fun hU => ?_
  obtain ⟨h1, h2, h3, h4, h5, hk, hs, hc, hr⟩ := id hp
  obtain ⟨f1, f2, f3⟩ := id hf
  have hne : p ≠ k := mz_ne hU h1 f2 (by decide)
  refine mz_ofl mk_X2_fillWith rfl (Nat.le_of_ble_eq_true rfl) (Nat.le_of_ble_eq_true rfl) [some (.ref f), some (.ref p), none, none] rfl ?_
  have key := mz_loop (N := 4) (fun n => ∀ I', fr I I' [k] → (∀ x : Nat, x < 220 → (∀ j, j < n → r * 10 + c + s_cell kd s j = x → I' k x = zI kd) ∧ ((∀ j, j < n → ¬ r * 10 + c + s_cell kd s j = x) → I' k x = I k x)) → mz_W G M_X2_fillWith K mz_nX 2 [some (.ref f), some (.ref p), some (.int (zI n)), none] [] T I' L (0, 0)) ?_ ?_ 0 (Nat.zero_le _)
  · refine mz_vc ok_X2_fillWith [2] [(), (), (), (), (), (), (), (), (), (), (), (), (), (), (), (), (), (), (), (), (), (), (), (), (), (), (), (), (), ()] ?_
    simp only [cd_X2_fillWith, h1, f1, f3, r_rn0, r_rnc, r_vk0, r_vkc, r_vks, r_kci, r_kcv, r_ild, r_ald, r_lld, r_dld, r_Li, r_La, r_Ll, r_Ld, r_Ki, r_Ka, r_Kl, r_Kd, r_Kn, r_ist, r_ast, r_lst, r_dst, r_iinc, r_int, r_lng, r_dbl, r_i2, r_i1, r_l2, r_lsh, r_i2z, r_l2z, r_i2l, r_l2i, r_i2d, r_lcmp, r_ddiv, r_dcmpl, r_dup, r_dup2, r_pop, r_one_int, r_one_ref, r_go, r_if, r_ic, r_tsw, r_lsw, r_sw0, r_swc, r_lk0, r_lkc, r_kp, r_gI, r_gL, r_gR, r_pI, r_pZ, r_pL, r_pR, r_gs, r_ia, r_ca, r_za, r_la, r_da, r_aa, r_ias, r_cas, r_zas, r_las, r_das, r_aas, r_acp, r_new, r_nwa, r_nwq, r_ret, r_irt, r_zrt, r_lrt, r_drt, r_art, r_thr, r_cV0, r_cV1, r_cV2, r_cV3, r_cV4, r_cV5, r_cI0, r_cS0, r_cS1, r_cS2, r_cS3, r_cX0, r_cX1, r_cX2, r_cX3, r_rc, r_oi, r_refx, r_i10, r_i01, r_rfs, r_mem0, r_memc, r_beq, r_kl0, r_klz, r_kl1i, r_kl1r, r_kl1n, r_kl1l, r_kl1d, List.length_cons, List.length_nil, List.getElem?_cons_zero, List.getElem?_cons_succ, List.set_cons_zero, List.set_cons_succ, true_and, and_true, not_true, not_false_eq_true, false_implies, true_implies, or_true, true_or, or_false, false_or, Bool.or_false, Bool.false_or, decide_false, decide_true, Nat.reduceLT, Nat.reduceLeDiff, Nat.reduceAdd, Nat.reduceSub, ↓reduceIte, Nat.reduceEqDiff, Nat.lt_add_one]
    exact key I fr_refl (fun x _ => ⟨fun j hj => absurd hj (Nat.not_lt_zero _), fun _ => rfl⟩)
  · intro I' hf' hx
    refine mz_vc ok_X2_fillWith [2] [(), (), (), (), (), (), (), (), (), (), (), (), (), (), (), (), (), (), (), (), (), (), (), (), (), (), (), (), (), ()] ?_
    simp only [cd_X2_fillWith, h1, f1, f3, r_rn0, r_rnc, r_vk0, r_vkc, r_vks, r_kci, r_kcv, r_ild, r_ald, r_lld, r_dld, r_Li, r_La, r_Ll, r_Ld, r_Ki, r_Ka, r_Kl, r_Kd, r_Kn, r_ist, r_ast, r_lst, r_dst, r_iinc, r_int, r_lng, r_dbl, r_i2, r_i1, r_l2, r_lsh, r_i2z, r_l2z, r_i2l, r_l2i, r_i2d, r_lcmp, r_ddiv, r_dcmpl, r_dup, r_dup2, r_pop, r_one_int, r_one_ref, r_go, r_if, r_ic, r_tsw, r_lsw, r_sw0, r_swc, r_lk0, r_lkc, r_kp, r_gI, r_gL, r_gR, r_pI, r_pZ, r_pL, r_pR, r_gs, r_ia, r_ca, r_za, r_la, r_da, r_aa, r_ias, r_cas, r_zas, r_las, r_das, r_aas, r_acp, r_new, r_nwa, r_nwq, r_ret, r_irt, r_zrt, r_lrt, r_drt, r_art, r_thr, r_cV0, r_cV1, r_cV2, r_cV3, r_cV4, r_cV5, r_cI0, r_cS0, r_cS1, r_cS2, r_cS3, r_cX0, r_cX1, r_cX2, r_cX3, r_rc, r_oi, r_refx, r_i10, r_i01, r_rfs, r_mem0, r_memc, r_beq, r_kl0, r_klz, r_kl1i, r_kl1r, r_kl1n, r_kl1l, r_kl1d, List.length_cons, List.length_nil, List.getElem?_cons_zero, List.getElem?_cons_succ, List.set_cons_zero, List.set_cons_succ, true_and, and_true, not_true, not_false_eq_true, false_implies, true_implies, or_true, true_or, or_false, false_or, Bool.or_false, Bool.false_or, decide_false, decide_true, Nat.reduceLT, Nat.reduceLeDiff, Nat.reduceAdd, Nat.reduceSub, ↓reduceIte, Nat.reduceEqDiff, Nat.lt_add_one]
    refine ⟨fun _ => ?_, fun q => absurd (by decide) q⟩
    refine h I' hf' (fun x hx9 => ?_)
    cases q : s_has kd s c r x with
    | true =>
      obtain ⟨j, hj, e⟩ := s_has_t.mp q
      rw [if_pos rfl]; exact (hx x hx9).1 j hj e
    | false =>
      rw [if_neg (by decide)]
      refine (hx x hx9).2 (fun j hj e => ?_)
      rw [s_has_t.mpr ⟨j, hj, e⟩] at q; cases q
  · intro n hn ih I' hf' hx
    have hp' : p_Pos T I' p kd s c r := by
      have e := fr_ne1 hf' hne
      exact ⟨h1, by rw [e]; exact h2, by rw [e]; exact h3, by rw [e]; exact h4, by rw [e]; exact h5, hk, hs, hc, hr⟩
    have ep : I' p 0 = zI kd := by rw [fr_ne1 hf' hne]; exact h2
    refine mz_vc ok_X2_fillWith [2] [(), (), (), (), (), (), (), (), (), (), (), (), (), (), (), (), (), (), (), (), (), (), (), (), (), (), (), (), (), ()] ?_
    simp only [cd_X2_fillWith, h1, f1, f3, r_rn0, r_rnc, r_vk0, r_vkc, r_vks, r_kci, r_kcv, r_ild, r_ald, r_lld, r_dld, r_Li, r_La, r_Ll, r_Ld, r_Ki, r_Ka, r_Kl, r_Kd, r_Kn, r_ist, r_ast, r_lst, r_dst, r_iinc, r_int, r_lng, r_dbl, r_i2, r_i1, r_l2, r_lsh, r_i2z, r_l2z, r_i2l, r_l2i, r_i2d, r_lcmp, r_ddiv, r_dcmpl, r_dup, r_dup2, r_pop, r_one_int, r_one_ref, r_go, r_if, r_ic, r_tsw, r_lsw, r_sw0, r_swc, r_lk0, r_lkc, r_kp, r_gI, r_gL, r_gR, r_pI, r_pZ, r_pL, r_pR, r_gs, r_ia, r_ca, r_za, r_la, r_da, r_aa, r_ias, r_cas, r_zas, r_las, r_das, r_aas, r_acp, r_new, r_nwa, r_nwq, r_ret, r_irt, r_zrt, r_lrt, r_drt, r_art, r_thr, r_cV0, r_cV1, r_cV2, r_cV3, r_cV4, r_cV5, r_cI0, r_cS0, r_cS1, r_cS2, r_cS3, r_cX0, r_cX1, r_cX2, r_cX3, r_rc, r_oi, r_refx, r_i10, r_i01, r_rfs, r_mem0, r_memc, r_beq, r_kl0, r_klz, r_kl1i, r_kl1r, r_kl1n, r_kl1l, r_kl1d, List.length_cons, List.length_nil, List.getElem?_cons_zero, List.getElem?_cons_succ, List.set_cons_zero, List.set_cons_succ, true_and, and_true, not_true, not_false_eq_true, false_implies, true_implies, or_true, true_or, or_false, false_or, Bool.or_false, Bool.false_or, decide_false, decide_true, Nat.reduceLT, Nat.reduceLeDiff, Nat.reduceAdd, Nat.reduceSub, ↓reduceIte, Nat.reduceEqDiff, Nat.lt_add_one]
    refine ⟨z_no (b := 4) (by omega) (by omega) hn, fun _ => ?_⟩
    refine c_cellAt hp' hn ?_
    simp only [cd_X2_fillWith, h1, f1, f3, ep, r_rn0, r_rnc, r_vk0, r_vkc, r_vks, r_kci, r_kcv, r_ild, r_ald, r_lld, r_dld, r_Li, r_La, r_Ll, r_Ld, r_Ki, r_Ka, r_Kl, r_Kd, r_Kn, r_ist, r_ast, r_lst, r_dst, r_iinc, r_int, r_lng, r_dbl, r_i2, r_i1, r_l2, r_lsh, r_i2z, r_l2z, r_i2l, r_l2i, r_i2d, r_lcmp, r_ddiv, r_dcmpl, r_dup, r_dup2, r_pop, r_one_int, r_one_ref, r_go, r_if, r_ic, r_tsw, r_lsw, r_sw0, r_swc, r_lk0, r_lkc, r_kp, r_gI, r_gL, r_gR, r_pI, r_pZ, r_pL, r_pR, r_gs, r_ia, r_ca, r_za, r_la, r_da, r_aa, r_ias, r_cas, r_zas, r_las, r_das, r_aas, r_acp, r_new, r_nwa, r_nwq, r_ret, r_irt, r_zrt, r_lrt, r_drt, r_art, r_thr, r_cV0, r_cV1, r_cV2, r_cV3, r_cV4, r_cV5, r_cI0, r_cS0, r_cS1, r_cS2, r_cS3, r_cX0, r_cX1, r_cX2, r_cX3, r_rc, r_oi, r_refx, r_i10, r_i01, r_rfs, r_mem0, r_memc, r_beq, r_kl0, r_klz, r_kl1i, r_kl1r, r_kl1n, r_kl1l, r_kl1d, List.length_cons, List.length_nil, List.getElem?_cons_zero, List.getElem?_cons_succ, List.set_cons_zero, List.set_cons_succ, true_and, and_true, not_true, not_false_eq_true, false_implies, true_implies, or_true, true_or, or_false, false_or, Bool.or_false, Bool.false_or, decide_false, decide_true, Nat.reduceLT, Nat.reduceLeDiff, Nat.reduceAdd, Nat.reduceSub, ↓reduceIte, Nat.reduceEqDiff, Nat.lt_add_one]
    have hce := s_cell_lt (kd := kd) (s := s) (j := n) hk hs hn
    rw [z_1, l_0, z_lt (by omega) (by omega)]
    have done : ¬ (0 ≤ r * 10 + c + s_cell kd s n ∧ r * 10 + c + s_cell kd s n < 220) → mz_W G M_X2_fillWith K mz_nX 2 [some (.ref f), some (.ref p), some (.int (zI (n + 1 : Nat))), some (.int (zI (r * 10 + c + s_cell kd s n)))] [] T I' L (0, 0) := by
      intro q
      refine mz_forget (ih I' hf' (fun x hx9 => ⟨fun j hj e => ?_, fun e => ?_⟩)) rfl (mz_fg_s (mz_fg_s (mz_fg_s (mz_fg_n mz_fg_0))))
      · by_cases e9 : j = n
        · subst e9; omega
        · exact (hx x hx9).1 j (by omega) e
      · exact (hx x hx9).2 (fun j hj => e j (by omega))
    refine ⟨fun q => done (by omega), fun q => ⟨1, 220, by decide, by decide, f2, ?_⟩⟩
    simp only [cd_X2_fillWith, h1, f1, f3, ep, r_rn0, r_rnc, r_vk0, r_vkc, r_vks, r_kci, r_kcv, r_ild, r_ald, r_lld, r_dld, r_Li, r_La, r_Ll, r_Ld, r_Ki, r_Ka, r_Kl, r_Kd, r_Kn, r_ist, r_ast, r_lst, r_dst, r_iinc, r_int, r_lng, r_dbl, r_i2, r_i1, r_l2, r_lsh, r_i2z, r_l2z, r_i2l, r_l2i, r_i2d, r_lcmp, r_ddiv, r_dcmpl, r_dup, r_dup2, r_pop, r_one_int, r_one_ref, r_go, r_if, r_ic, r_tsw, r_lsw, r_sw0, r_swc, r_lk0, r_lkc, r_kp, r_gI, r_gL, r_gR, r_pI, r_pZ, r_pL, r_pR, r_gs, r_ia, r_ca, r_za, r_la, r_da, r_aa, r_ias, r_cas, r_zas, r_las, r_das, r_aas, r_acp, r_new, r_nwa, r_nwq, r_ret, r_irt, r_zrt, r_lrt, r_drt, r_art, r_thr, r_cV0, r_cV1, r_cV2, r_cV3, r_cV4, r_cV5, r_cI0, r_cS0, r_cS1, r_cS2, r_cS3, r_cX0, r_cX1, r_cX2, r_cX3, r_rc, r_oi, r_refx, r_i10, r_i01, r_rfs, r_mem0, r_memc, r_beq, r_kl0, r_klz, r_kl1i, r_kl1r, r_kl1n, r_kl1l, r_kl1d, List.length_cons, List.length_nil, List.getElem?_cons_zero, List.getElem?_cons_succ, List.set_cons_zero, List.set_cons_succ, true_and, and_true, not_true, not_false_eq_true, false_implies, true_implies, or_true, true_or, or_false, false_or, Bool.or_false, Bool.false_or, decide_false, decide_true, Nat.reduceLT, Nat.reduceLeDiff, Nat.reduceAdd, Nat.reduceSub, ↓reduceIte, Nat.reduceEqDiff, Nat.lt_add_one]
    rw [z_1, show Int32.ofNat 220 = zI 220 from rfl, z_le (by omega) (by omega)]
    refine ⟨fun q2 => done (by omega), fun q2 => ⟨⟨220, f2, z_in (by omega) (by omega) (by decide)⟩, ?_⟩⟩
    refine mz_forget (ih _ (fr_u2 hf' (List.mem_singleton_self _)) (fun x hx9 => ?_)) rfl (mz_fg_s (mz_fg_s (mz_fg_s (mz_fg_n mz_fg_0))))
    rw [z_nat (by omega)]
    by_cases e9 : x = (r * 10 + c + s_cell kd s n).toNat
    · refine ⟨fun j hj e => ?_, fun e => absurd (by omega) (e n (by omega))⟩
      rw [e9]; exact mz_u_eq
    · rw [mz_u_nk e9]
      refine ⟨fun j hj e => ?_, fun e => (hx x hx9).2 (fun j hj => e j (by omega))⟩
      by_cases e8 : j = n
      · subst e8; omega
      · exact (hx x hx9).1 j (by omega) e
theorem c_clear {f k : Nat} (hf : p_Field T f k)
    (h : ∀ I', fr I I' [k] → (∀ r c : Nat, r < 22 → c < 10 → s_full (s_fl (I k)) r = false → I' k (10 * s_nk (s_fl (I k)) r + c) = I k (10 * r + c)) → (∀ i, 10 * s_nk (s_fl (I k)) 22 ≤ i → i < 220 → I' k i = -1) → K (some (.int (zI (22 - s_nk (s_fl (I k)) 22 : Nat)))) T I' L) : mz_Ctr G M_X2_clearFullRows [.ref f] T I L K := by
  obtain ⟨f1, f2, f3⟩ := id hf
  refine mz_ofl mk_X2_clearFullRows rfl (Nat.le_of_ble_eq_true rfl) (Nat.le_of_ble_eq_true rfl) [some (.ref f), none, none] rfl ?_
  have hnk := s_nk_le (e := s_fl (I k)) 22
  have key2 := mz_loop (N := 220) (fun n => 10 * s_nk (s_fl (I k)) 22 ≤ n → ∀ I', fr I I' [k] → (∀ r c : Nat, r < 22 → c < 10 → s_full (s_fl (I k)) r = false → I' k (10 * s_nk (s_fl (I k)) r + c) = I k (10 * r + c)) → (∀ i, 10 * s_nk (s_fl (I k)) 22 ≤ i → i < n → I' k i = -1) → mz_W G M_X2_clearFullRows K mz_nX 55 [some (.ref f), some (.int (zI (s_nk (s_fl (I k)) 22))), some (.int (zI n))] [] T I' L (0, 0)) ?_ ?_
  have key := mz_loop (N := 22) (fun n => ∀ I', fr I I' [k] → (∀ r c : Nat, r < n → c < 10 → s_full (s_fl (I k)) r = false → I' k (10 * s_nk (s_fl (I k)) r + c) = I k (10 * r + c)) → (∀ i, 10 * n ≤ i → i < 220 → I' k i = I k i) → mz_W G M_X2_clearFullRows K mz_nX 4 [some (.ref f), some (.int (zI (s_nk (s_fl (I k)) n))), some (.int (zI n))] [] T I' L (0, 0)) ?_ ?_ 0 (Nat.zero_le _)
  · refine mz_vc ok_X2_clearFullRows [4, 55] [(), (), (), (), (), (), (), (), (), (), (), (), (), (), (), (), (), (), (), (), (), (), (), (), (), (), (), (), (), ()] ?_
    simp only [cd_X2_clearFullRows, f1, f3, r_rn0, r_rnc, r_vk0, r_vkc, r_vks, r_kci, r_kcv, r_ild, r_ald, r_lld, r_dld, r_Li, r_La, r_Ll, r_Ld, r_Ki, r_Ka, r_Kl, r_Kd, r_Kn, r_ist, r_ast, r_lst, r_dst, r_iinc, r_int, r_lng, r_dbl, r_i2, r_i1, r_l2, r_lsh, r_i2z, r_l2z, r_i2l, r_l2i, r_i2d, r_lcmp, r_ddiv, r_dcmpl, r_dup, r_dup2, r_pop, r_one_int, r_one_ref, r_go, r_if, r_ic, r_tsw, r_lsw, r_sw0, r_swc, r_lk0, r_lkc, r_kp, r_gI, r_gL, r_gR, r_pI, r_pZ, r_pL, r_pR, r_gs, r_ia, r_ca, r_za, r_la, r_da, r_aa, r_ias, r_cas, r_zas, r_las, r_das, r_aas, r_acp, r_new, r_nwa, r_nwq, r_ret, r_irt, r_zrt, r_lrt, r_drt, r_art, r_thr, r_cV0, r_cV1, r_cV2, r_cV3, r_cV4, r_cV5, r_cI0, r_cS0, r_cS1, r_cS2, r_cS3, r_cX0, r_cX1, r_cX2, r_cX3, r_rc, r_oi, r_refx, r_i10, r_i01, r_rfs, r_mem0, r_memc, r_beq, r_kl0, r_klz, r_kl1i, r_kl1r, r_kl1n, r_kl1l, r_kl1d, List.length_cons, List.length_nil, List.getElem?_cons_zero, List.getElem?_cons_succ, List.set_cons_zero, List.set_cons_succ, true_and, and_true, not_true, not_false_eq_true, false_implies, true_implies, or_true, true_or, or_false, false_or, Bool.or_false, Bool.false_or, decide_false, decide_true, Nat.reduceLT, Nat.reduceLeDiff, Nat.reduceAdd, Nat.reduceSub, ↓reduceIte, Nat.reduceEqDiff, Nat.lt_add_one]
    exact key I fr_refl (fun r c hr => absurd hr (Nat.not_lt_zero _)) (fun i _ _ => rfl)
  · intro I' hf' hx _
    refine mz_vc ok_X2_clearFullRows [4, 55] [(), (), (), (), (), (), (), (), (), (), (), (), (), (), (), (), (), (), (), (), (), (), (), (), (), (), (), (), (), ()] ?_
    simp only [cd_X2_clearFullRows, f1, f3, r_rn0, r_rnc, r_vk0, r_vkc, r_vks, r_kci, r_kcv, r_ild, r_ald, r_lld, r_dld, r_Li, r_La, r_Ll, r_Ld, r_Ki, r_Ka, r_Kl, r_Kd, r_Kn, r_ist, r_ast, r_lst, r_dst, r_iinc, r_int, r_lng, r_dbl, r_i2, r_i1, r_l2, r_lsh, r_i2z, r_l2z, r_i2l, r_l2i, r_i2d, r_lcmp, r_ddiv, r_dcmpl, r_dup, r_dup2, r_pop, r_one_int, r_one_ref, r_go, r_if, r_ic, r_tsw, r_lsw, r_sw0, r_swc, r_lk0, r_lkc, r_kp, r_gI, r_gL, r_gR, r_pI, r_pZ, r_pL, r_pR, r_gs, r_ia, r_ca, r_za, r_la, r_da, r_aa, r_ias, r_cas, r_zas, r_las, r_das, r_aas, r_acp, r_new, r_nwa, r_nwq, r_ret, r_irt, r_zrt, r_lrt, r_drt, r_art, r_thr, r_cV0, r_cV1, r_cV2, r_cV3, r_cV4, r_cV5, r_cI0, r_cS0, r_cS1, r_cS2, r_cS3, r_cX0, r_cX1, r_cX2, r_cX3, r_rc, r_oi, r_refx, r_i10, r_i01, r_rfs, r_mem0, r_memc, r_beq, r_kl0, r_klz, r_kl1i, r_kl1r, r_kl1n, r_kl1l, r_kl1d, List.length_cons, List.length_nil, List.getElem?_cons_zero, List.getElem?_cons_succ, List.set_cons_zero, List.set_cons_succ, true_and, and_true, not_true, not_false_eq_true, false_implies, true_implies, or_true, true_or, or_false, false_or, Bool.or_false, Bool.false_or, decide_false, decide_true, Nat.reduceLT, Nat.reduceLeDiff, Nat.reduceAdd, Nat.reduceSub, ↓reduceIte, Nat.reduceEqDiff, Nat.lt_add_one]
    refine ⟨fun _ => ?_, fun q => absurd (by decide) q⟩
    rw [l_10, z_mul]
    have e : (s_nk (s_fl (I k)) 22 : Int) * 10 = (10 * s_nk (s_fl (I k)) 22 : Nat) := by omega
    rw [e]
    exact key2 _ (by omega) (Nat.le_refl _) I' hf' hx (fun i a b => by omega)
  · intro n hn ih I' hf' hx hy
    have g := s_nk_le (e := s_fl (I k)) n
    refine mz_vc ok_X2_clearFullRows [4, 55] [(), (), (), (), (), (), (), (), (), (), (), (), (), (), (), (), (), (), (), (), (), (), (), (), (), (), (), (), (), ()] ?_
    simp only [cd_X2_clearFullRows, f1, f3, r_rn0, r_rnc, r_vk0, r_vkc, r_vks, r_kci, r_kcv, r_ild, r_ald, r_lld, r_dld, r_Li, r_La, r_Ll, r_Ld, r_Ki, r_Ka, r_Kl, r_Kd, r_Kn, r_ist, r_ast, r_lst, r_dst, r_iinc, r_int, r_lng, r_dbl, r_i2, r_i1, r_l2, r_lsh, r_i2z, r_l2z, r_i2l, r_l2i, r_i2d, r_lcmp, r_ddiv, r_dcmpl, r_dup, r_dup2, r_pop, r_one_int, r_one_ref, r_go, r_if, r_ic, r_tsw, r_lsw, r_sw0, r_swc, r_lk0, r_lkc, r_kp, r_gI, r_gL, r_gR, r_pI, r_pZ, r_pL, r_pR, r_gs, r_ia, r_ca, r_za, r_la, r_da, r_aa, r_ias, r_cas, r_zas, r_las, r_das, r_aas, r_acp, r_new, r_nwa, r_nwq, r_ret, r_irt, r_zrt, r_lrt, r_drt, r_art, r_thr, r_cV0, r_cV1, r_cV2, r_cV3, r_cV4, r_cV5, r_cI0, r_cS0, r_cS1, r_cS2, r_cS3, r_cX0, r_cX1, r_cX2, r_cX3, r_rc, r_oi, r_refx, r_i10, r_i01, r_rfs, r_mem0, r_memc, r_beq, r_kl0, r_klz, r_kl1i, r_kl1r, r_kl1n, r_kl1l, r_kl1d, List.length_cons, List.length_nil, List.getElem?_cons_zero, List.getElem?_cons_succ, List.set_cons_zero, List.set_cons_succ, true_and, and_true, not_true, not_false_eq_true, false_implies, true_implies, or_true, true_or, or_false, false_or, Bool.or_false, Bool.false_or, decide_false, decide_true, Nat.reduceLT, Nat.reduceLeDiff, Nat.reduceAdd, Nat.reduceSub, ↓reduceIte, Nat.reduceEqDiff, Nat.lt_add_one]
    refine ⟨z_no (b := 22) (by omega) (by omega) hn, fun _ => ?_⟩
    refine c_rc hf hn ?_
    have erc : s_rc (s_fl (I' k)) n 10 = s_rc (s_fl (I k)) n 10 := s_rc_cg 10 (fun j hj => s_fl_cg (hy _ (by omega) (by omega)))
    rw [erc]
    have g2 := s_rc_le (e := s_fl (I k)) (r := n) 10
    simp only [cd_X2_clearFullRows, f1, f3, r_rn0, r_rnc, r_vk0, r_vkc, r_vks, r_kci, r_kcv, r_ild, r_ald, r_lld, r_dld, r_Li, r_La, r_Ll, r_Ld, r_Ki, r_Ka, r_Kl, r_Kd, r_Kn, r_ist, r_ast, r_lst, r_dst, r_iinc, r_int, r_lng, r_dbl, r_i2, r_i1, r_l2, r_lsh, r_i2z, r_l2z, r_i2l, r_l2i, r_i2d, r_lcmp, r_ddiv, r_dcmpl, r_dup, r_dup2, r_pop, r_one_int, r_one_ref, r_go, r_if, r_ic, r_tsw, r_lsw, r_sw0, r_swc, r_lk0, r_lkc, r_kp, r_gI, r_gL, r_gR, r_pI, r_pZ, r_pL, r_pR, r_gs, r_ia, r_ca, r_za, r_la, r_da, r_aa, r_ias, r_cas, r_zas, r_las, r_das, r_aas, r_acp, r_new, r_nwa, r_nwq, r_ret, r_irt, r_zrt, r_lrt, r_drt, r_art, r_thr, r_cV0, r_cV1, r_cV2, r_cV3, r_cV4, r_cV5, r_cI0, r_cS0, r_cS1, r_cS2, r_cS3, r_cX0, r_cX1, r_cX2, r_cX3, r_rc, r_oi, r_refx, r_i10, r_i01, r_rfs, r_mem0, r_memc, r_beq, r_kl0, r_klz, r_kl1i, r_kl1r, r_kl1n, r_kl1l, r_kl1d, List.length_cons, List.length_nil, List.getElem?_cons_zero, List.getElem?_cons_succ, List.set_cons_zero, List.set_cons_succ, true_and, and_true, not_true, not_false_eq_true, false_implies, true_implies, or_true, true_or, or_false, false_or, Bool.or_false, Bool.false_or, decide_false, decide_true, Nat.reduceLT, Nat.reduceLeDiff, Nat.reduceAdd, Nat.reduceSub, ↓reduceIte, Nat.reduceEqDiff, Nat.lt_add_one]
    rw [z_1, l_10, z_le (by omega) (by omega)]
    refine ⟨fun q => ?_, fun q => ?_⟩
    · have hfu : s_full (s_fl (I k)) n = true := decide_eq_true (by omega)
      have e9 : s_nk (s_fl (I k)) (n + 1) = s_nk (s_fl (I k)) n := by simp [s_nk, hfu]
      rw [e9] at ih
      refine ih I' hf' (fun r c hr hc hfr => ?_) (fun i a b => hy i (by omega) b)
      by_cases e : r = n
      · subst e; rw [hfu] at hfr; cases hfr
      · exact hx r c (by omega) hc hfr
    · have hfu : s_full (s_fl (I k)) n = false := decide_eq_false (by omega)
      have e9 : s_nk (s_fl (I k)) (n + 1) = s_nk (s_fl (I k)) n + 1 := by simp [s_nk, hfu]
      rw [e9] at ih
      rw [z_mul, z_mul, l_0, z_1]
      refine ⟨⟨?_, ?_, by decide, 220, 220, f2, f2, ?_, ?_⟩, ?_⟩
      · rw [z_lt (by omega) (by omega)]; omega
      · rw [z_lt (by omega) (by omega)]; omega
      · rw [z_nat (by omega), z_nat (by omega)]; omega
      · rw [z_nat (by omega), z_nat (by omega)]; omega
      rw [z_nat (by omega), z_nat (by omega), z_nat (by omega)]
      refine ih _ (fr_row2 hf' (List.mem_singleton_self _)) (fun r c hr hc hfr => ?_) (fun i a b => ?_)
      · rw [mz_row_eq]
        unfold va_cpy
        by_cases e : r = n
        · subst e
          rw [if_pos (by omega), ← hy (10 * r + c) (by omega) (by omega)]
          congr 1; omega
        · have e8 : s_nk (s_fl (I k)) r < s_nk (s_fl (I k)) n := by
            have mono : ∀ m, r + 1 ≤ m → s_nk (s_fl (I k)) (r + 1) ≤ s_nk (s_fl (I k)) m := by
              intro m hm
              induction hm with
              | refl => exact Nat.le_refl _
              | step _ ih9 => exact Nat.le_trans ih9 (by simp [s_nk])
            have := mono n (by omega)
            have e7 : s_nk (s_fl (I k)) (r + 1) = s_nk (s_fl (I k)) r + 1 := by simp [s_nk, hfr]
            omega
          rw [if_neg (by omega)]
          exact hx r c (by omega) hc hfr
      · rw [mz_row_eq]
        unfold va_cpy
        rw [if_neg (by omega)]
        exact hy i (by omega) b
  · intro _ I' hf' hx hy
    refine mz_vc ok_X2_clearFullRows [4, 55] [(), (), (), (), (), (), (), (), (), (), (), (), (), (), (), (), (), (), (), (), (), (), (), (), (), (), (), (), (), ()] ?_
    simp only [cd_X2_clearFullRows, f1, f3, r_rn0, r_rnc, r_vk0, r_vkc, r_vks, r_kci, r_kcv, r_ild, r_ald, r_lld, r_dld, r_Li, r_La, r_Ll, r_Ld, r_Ki, r_Ka, r_Kl, r_Kd, r_Kn, r_ist, r_ast, r_lst, r_dst, r_iinc, r_int, r_lng, r_dbl, r_i2, r_i1, r_l2, r_lsh, r_i2z, r_l2z, r_i2l, r_l2i, r_i2d, r_lcmp, r_ddiv, r_dcmpl, r_dup, r_dup2, r_pop, r_one_int, r_one_ref, r_go, r_if, r_ic, r_tsw, r_lsw, r_sw0, r_swc, r_lk0, r_lkc, r_kp, r_gI, r_gL, r_gR, r_pI, r_pZ, r_pL, r_pR, r_gs, r_ia, r_ca, r_za, r_la, r_da, r_aa, r_ias, r_cas, r_zas, r_las, r_das, r_aas, r_acp, r_new, r_nwa, r_nwq, r_ret, r_irt, r_zrt, r_lrt, r_drt, r_art, r_thr, r_cV0, r_cV1, r_cV2, r_cV3, r_cV4, r_cV5, r_cI0, r_cS0, r_cS1, r_cS2, r_cS3, r_cX0, r_cX1, r_cX2, r_cX3, r_rc, r_oi, r_refx, r_i10, r_i01, r_rfs, r_mem0, r_memc, r_beq, r_kl0, r_klz, r_kl1i, r_kl1r, r_kl1n, r_kl1l, r_kl1d, List.length_cons, List.length_nil, List.getElem?_cons_zero, List.getElem?_cons_succ, List.set_cons_zero, List.set_cons_succ, true_and, and_true, not_true, not_false_eq_true, false_implies, true_implies, or_true, true_or, or_false, false_or, Bool.or_false, Bool.false_or, decide_false, decide_true, Nat.reduceLT, Nat.reduceLeDiff, Nat.reduceAdd, Nat.reduceSub, ↓reduceIte, Nat.reduceEqDiff, Nat.lt_add_one]
    refine ⟨fun _ => ?_, fun q => absurd (by decide) q⟩
    rw [l_22, z_sub]
    have e : (22 : Int) - s_nk (s_fl (I k)) 22 = (22 - s_nk (s_fl (I k)) 22 : Nat) := by omega
    rw [e]
    exact h I' hf' hx hy
  · intro n hn ih hle I' hf' hx hy
    refine mz_vc ok_X2_clearFullRows [4, 55] [(), (), (), (), (), (), (), (), (), (), (), (), (), (), (), (), (), (), (), (), (), (), (), (), (), (), (), (), (), ()] ?_
    simp only [cd_X2_clearFullRows, f1, f3, r_rn0, r_rnc, r_vk0, r_vkc, r_vks, r_kci, r_kcv, r_ild, r_ald, r_lld, r_dld, r_Li, r_La, r_Ll, r_Ld, r_Ki, r_Ka, r_Kl, r_Kd, r_Kn, r_ist, r_ast, r_lst, r_dst, r_iinc, r_int, r_lng, r_dbl, r_i2, r_i1, r_l2, r_lsh, r_i2z, r_l2z, r_i2l, r_l2i, r_i2d, r_lcmp, r_ddiv, r_dcmpl, r_dup, r_dup2, r_pop, r_one_int, r_one_ref, r_go, r_if, r_ic, r_tsw, r_lsw, r_sw0, r_swc, r_lk0, r_lkc, r_kp, r_gI, r_gL, r_gR, r_pI, r_pZ, r_pL, r_pR, r_gs, r_ia, r_ca, r_za, r_la, r_da, r_aa, r_ias, r_cas, r_zas, r_las, r_das, r_aas, r_acp, r_new, r_nwa, r_nwq, r_ret, r_irt, r_zrt, r_lrt, r_drt, r_art, r_thr, r_cV0, r_cV1, r_cV2, r_cV3, r_cV4, r_cV5, r_cI0, r_cS0, r_cS1, r_cS2, r_cS3, r_cX0, r_cX1, r_cX2, r_cX3, r_rc, r_oi, r_refx, r_i10, r_i01, r_rfs, r_mem0, r_memc, r_beq, r_kl0, r_klz, r_kl1i, r_kl1r, r_kl1n, r_kl1l, r_kl1d, List.length_cons, List.length_nil, List.getElem?_cons_zero, List.getElem?_cons_succ, List.set_cons_zero, List.set_cons_succ, true_and, and_true, not_true, not_false_eq_true, false_implies, true_implies, or_true, true_or, or_false, false_or, Bool.or_false, Bool.false_or, decide_false, decide_true, Nat.reduceLT, Nat.reduceLeDiff, Nat.reduceAdd, Nat.reduceSub, ↓reduceIte, Nat.reduceEqDiff, Nat.lt_add_one]
    rw [z_1, z_nat (by omega)]
    refine ⟨z_no (b := 220) (by omega) (by omega) hn, fun _ => ⟨⟨220, f2, z_in (by omega) (by omega) (by decide)⟩, ?_⟩⟩
    refine ih (by omega) _ (fr_u2 hf' (List.mem_singleton_self _)) (fun r c hr hc hfr => ?_) (fun i a b => ?_)
    · have e8 : s_nk (s_fl (I k)) r < s_nk (s_fl (I k)) 22 := by
        have mono : ∀ m, r + 1 ≤ m → s_nk (s_fl (I k)) (r + 1) ≤ s_nk (s_fl (I k)) m := by
          intro m hm
          induction hm with
          | refl => exact Nat.le_refl _
          | step _ ih9 => exact Nat.le_trans ih9 (by simp [s_nk])
        have := mono 22 (by omega)
        have e7 : s_nk (s_fl (I k)) (r + 1) = s_nk (s_fl (I k)) r + 1 := by simp [s_nk, hfr]
        omega
      rw [mz_u_nk (by omega)]
      exact hx r c hr hc hfr
    · by_cases e : i = n
      · subst e; exact mz_u_eq
      · rw [mz_u_nk (by omega)]; exact hy i a (by omega)
theorem c_raise {f k : Nat} {n9 ho : Nat} (hf : p_Field T f k) (hn9 : n9 ≤ 22) (hho : ho < 10)
    (h : ∀ I', fr I I' [k] → (∀ i, i < 220 → I' k i = if 10 * n9 ≤ i then I k (i - 10 * n9) else if i % 10 = ho then -1 else 7) → K none T I' L) : mz_Ctr G M_X2_raise [.ref f, .int (zI n9), .int (zI ho)] T I L K := by
  obtain ⟨f1, f2, f3⟩ := id hf
  refine mz_ofl mk_X2_raise rfl (Nat.le_of_ble_eq_true rfl) (Nat.le_of_ble_eq_true rfl) [some (.ref f), some (.int (zI n9)), some (.int (zI ho)), none, none] rfl ?_
  have key : ∀ n : Nat, n ≤ 220 → ∀ I', fr I I' [k] → (∀ i, i < n → I' k i = I k i) → (∀ i, n ≤ i → i < 220 → I' k i = if 10 * n9 ≤ i then I k (i - 10 * n9) else if i % 10 = ho then -1 else 7) → mz_W G M_X2_raise K mz_nX 4 [some (.ref f), some (.int (zI n9)), some (.int (zI ho)), some (.int (zI ((n : Int) - 1))), none] [] T I' L (0, 0) := by
    intro n
    induction n with
    | zero =>
      intro _ I' hf' _ hy
      refine mz_vc ok_X2_raise [4] [(), (), (), (), (), (), (), (), (), (), (), (), (), (), (), (), (), (), (), (), (), (), (), (), (), (), (), (), (), ()] ?_
      simp only [cd_X2_raise, f1, f3, r_rn0, r_rnc, r_vk0, r_vkc, r_vks, r_kci, r_kcv, r_ild, r_ald, r_lld, r_dld, r_Li, r_La, r_Ll, r_Ld, r_Ki, r_Ka, r_Kl, r_Kd, r_Kn, r_ist, r_ast, r_lst, r_dst, r_iinc, r_int, r_lng, r_dbl, r_i2, r_i1, r_l2, r_lsh, r_i2z, r_l2z, r_i2l, r_l2i, r_i2d, r_lcmp, r_ddiv, r_dcmpl, r_dup, r_dup2, r_pop, r_one_int, r_one_ref, r_go, r_if, r_ic, r_tsw, r_lsw, r_sw0, r_swc, r_lk0, r_lkc, r_kp, r_gI, r_gL, r_gR, r_pI, r_pZ, r_pL, r_pR, r_gs, r_ia, r_ca, r_za, r_la, r_da, r_aa, r_ias, r_cas, r_zas, r_las, r_das, r_aas, r_acp, r_new, r_nwa, r_nwq, r_ret, r_irt, r_zrt, r_lrt, r_drt, r_art, r_thr, r_cV0, r_cV1, r_cV2, r_cV3, r_cV4, r_cV5, r_cI0, r_cS0, r_cS1, r_cS2, r_cS3, r_cX0, r_cX1, r_cX2, r_cX3, r_rc, r_oi, r_refx, r_i10, r_i01, r_rfs, r_mem0, r_memc, r_beq, r_kl0, r_klz, r_kl1i, r_kl1r, r_kl1n, r_kl1l, r_kl1d, List.length_cons, List.length_nil, List.getElem?_cons_zero, List.getElem?_cons_succ, List.set_cons_zero, List.set_cons_succ, true_and, and_true, not_true, not_false_eq_true, false_implies, true_implies, or_true, true_or, or_false, false_or, Bool.or_false, Bool.false_or, decide_false, decide_true, Nat.reduceLT, Nat.reduceLeDiff, Nat.reduceAdd, Nat.reduceSub, ↓reduceIte, Nat.reduceEqDiff, Nat.lt_add_one]
      exact ⟨fun _ => h I' hf' (fun i hi => hy i (Nat.zero_le _) hi), fun q => absurd (show zI (((0 : Nat) : Int) - 1) < 0 by decide) q⟩
    | succ n ih =>
      intro hn I' hf' hx hy
      have e0 : ((n + 1 : Nat) : Int) - 1 = n := by omega
      rw [e0]
      have go : ∀ (v : Int32) (b : Int32), v = (if 10 * n9 ≤ n then I k (n - 10 * n9) else if n % 10 = ho then -1 else 7) → mz_W G M_X2_raise K mz_nX 4 [some (.ref f), some (.int (zI n9)), some (.int (zI ho)), some (.int (zI ((n : Int) - 1))), some (.int b)] [] T (mz_u I' k n v) L (0, 0) := by
        intro v b hv
        refine mz_forget (ih (by omega) _ (fr_u2 hf' (List.mem_singleton_self _)) (fun i hi => ?_) (fun i a b => ?_)) rfl (mz_fg_s (mz_fg_s (mz_fg_s (mz_fg_s (mz_fg_n mz_fg_0)))))
        · rw [mz_u_nk (by omega)]; exact hx i (by omega)
        · by_cases e : i = n
          · rw [e, mz_u_eq]; exact hv
          · rw [mz_u_nk (by omega)]; exact hy i (by omega) b
      refine mz_vc ok_X2_raise [4] [(), (), (), (), (), (), (), (), (), (), (), (), (), (), (), (), (), (), (), (), (), (), (), (), (), (), (), (), (), ()] ?_
      simp only [cd_X2_raise, f1, f3, r_rn0, r_rnc, r_vk0, r_vkc, r_vks, r_kci, r_kcv, r_ild, r_ald, r_lld, r_dld, r_Li, r_La, r_Ll, r_Ld, r_Ki, r_Ka, r_Kl, r_Kd, r_Kn, r_ist, r_ast, r_lst, r_dst, r_iinc, r_int, r_lng, r_dbl, r_i2, r_i1, r_l2, r_lsh, r_i2z, r_l2z, r_i2l, r_l2i, r_i2d, r_lcmp, r_ddiv, r_dcmpl, r_dup, r_dup2, r_pop, r_one_int, r_one_ref, r_go, r_if, r_ic, r_tsw, r_lsw, r_sw0, r_swc, r_lk0, r_lkc, r_kp, r_gI, r_gL, r_gR, r_pI, r_pZ, r_pL, r_pR, r_gs, r_ia, r_ca, r_za, r_la, r_da, r_aa, r_ias, r_cas, r_zas, r_las, r_das, r_aas, r_acp, r_new, r_nwa, r_nwq, r_ret, r_irt, r_zrt, r_lrt, r_drt, r_art, r_thr, r_cV0, r_cV1, r_cV2, r_cV3, r_cV4, r_cV5, r_cI0, r_cS0, r_cS1, r_cS2, r_cS3, r_cX0, r_cX1, r_cX2, r_cX3, r_rc, r_oi, r_refx, r_i10, r_i01, r_rfs, r_mem0, r_memc, r_beq, r_kl0, r_klz, r_kl1i, r_kl1r, r_kl1n, r_kl1l, r_kl1d, List.length_cons, List.length_nil, List.getElem?_cons_zero, List.getElem?_cons_succ, List.set_cons_zero, List.set_cons_succ, true_and, and_true, not_true, not_false_eq_true, false_implies, true_implies, or_true, true_or, or_false, false_or, Bool.or_false, Bool.false_or, decide_false, decide_true, Nat.reduceLT, Nat.reduceLeDiff, Nat.reduceAdd, Nat.reduceSub, ↓reduceIte, Nat.reduceEqDiff, Nat.lt_add_one]
      rw [l_0, l_10, l_m1, l_220, z_mul, z_sub, z_add, z_lt (by omega) (by omega), z_lt (by omega) (by omega), z_le (by omega) (by omega), z_mod (by omega) (by omega), z_nat (by omega), z_eq (by omega) (by omega), z_eq (by omega) (by omega), show ((n : Nat) : Int).toNat = n from rfl]
      refine ⟨fun q => absurd q (by omega), fun _ => ⟨fun q => ⟨by decide, fun q2 => ⟨⟨220, f2, z_in (by omega) (by omega) (by decide)⟩, ?_⟩, fun q2 => ⟨⟨220, f2, z_in (by omega) (by omega) (by decide)⟩, ?_⟩⟩, fun q => ⟨fun q3 => absurd q3 (by omega), fun _ => ⟨⟨220, f2, z_in (by omega) (by omega) (by decide)⟩, ⟨220, f2, z_in (by omega) (by omega) (by decide)⟩, ?_⟩⟩⟩⟩
      · refine go _ _ ?_
        have q3 : n % 10 ≠ ho := fun e => q2 (by omega)
        rw [if_neg (by omega), if_neg q3]
      · refine go _ _ ?_
        have q3 : n % 10 = ho := by have := Classical.not_not.mp q2; omega
        rw [if_neg (by omega), if_pos q3]; rfl
      · refine go _ _ ?_
        rw [if_pos (by omega), z_nat (by omega), hx _ (by omega)]
        congr 1; omega
  refine mz_vc ok_X2_raise [4] [(), (), (), (), (), (), (), (), (), (), (), (), (), (), (), (), (), (), (), (), (), (), (), (), (), (), (), (), (), ()] ?_
  simp only [cd_X2_raise, f1, f3, r_rn0, r_rnc, r_vk0, r_vkc, r_vks, r_kci, r_kcv, r_ild, r_ald, r_lld, r_dld, r_Li, r_La, r_Ll, r_Ld, r_Ki, r_Ka, r_Kl, r_Kd, r_Kn, r_ist, r_ast, r_lst, r_dst, r_iinc, r_int, r_lng, r_dbl, r_i2, r_i1, r_l2, r_lsh, r_i2z, r_l2z, r_i2l, r_l2i, r_i2d, r_lcmp, r_ddiv, r_dcmpl, r_dup, r_dup2, r_pop, r_one_int, r_one_ref, r_go, r_if, r_ic, r_tsw, r_lsw, r_sw0, r_swc, r_lk0, r_lkc, r_kp, r_gI, r_gL, r_gR, r_pI, r_pZ, r_pL, r_pR, r_gs, r_ia, r_ca, r_za, r_la, r_da, r_aa, r_ias, r_cas, r_zas, r_las, r_das, r_aas, r_acp, r_new, r_nwa, r_nwq, r_ret, r_irt, r_zrt, r_lrt, r_drt, r_art, r_thr, r_cV0, r_cV1, r_cV2, r_cV3, r_cV4, r_cV5, r_cI0, r_cS0, r_cS1, r_cS2, r_cS3, r_cX0, r_cX1, r_cX2, r_cX3, r_rc, r_oi, r_refx, r_i10, r_i01, r_rfs, r_mem0, r_memc, r_beq, r_kl0, r_klz, r_kl1i, r_kl1r, r_kl1n, r_kl1l, r_kl1d, List.length_cons, List.length_nil, List.getElem?_cons_zero, List.getElem?_cons_succ, List.set_cons_zero, List.set_cons_succ, true_and, and_true, not_true, not_false_eq_true, false_implies, true_implies, or_true, true_or, or_false, false_or, Bool.or_false, Bool.false_or, decide_false, decide_true, Nat.reduceLT, Nat.reduceLeDiff, Nat.reduceAdd, Nat.reduceSub, ↓reduceIte, Nat.reduceEqDiff, Nat.lt_add_one]
  exact key 220 (Nat.le_refl _) I fr_refl (fun _ _ => rfl) (fun i a b => absurd a (by omega))
end FLD5
