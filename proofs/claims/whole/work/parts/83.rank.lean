/-! the reference's search: ranks; both searches come to the same -/
section RANK
variable {G : mz_G} {K : mz_K} {T : mz_T} {I : mz_I} {L : mz_L}
theorem y_lt {m : Nat → Int32} {x y : s_P} (hk : m_kd m < 7) (hx : x_in m x) (hy : x_in m y) {t : Nat} (ht : t < 8) (he : ∀ v, v < t → x_pt m x v = x_pt m y v) (hne : x_pt m x t ≠ x_pt m y t) : x_key m x < x_key m y ↔ x_pt m x t < x_pt m y t := by
  constructor
  · intro h
    by_cases c : x_pt m x t < x_pt m y t
    · exact c
    · have := x_kn_lt2 hk hy hx ht (fun v hv => (he v hv).symm) (by omega) (Nat.le_refl 8)
      have h' : x_kn m x 8 < x_kn m y 8 := h
      omega
  · intro h
    exact x_kn_lt2 hk hx hy ht he h (Nat.le_refl 8)
theorem c_betterM {D : Nat → Nat} {m : Nat → Int32} {P : List s_P} {p q : Nat} (hM : p_Mo T D) (hk : m_kd m < 7) (hnf : ∀ r, r < 22 → s_full (s_fm m) r = false) (hP : y_P m I D P) (hp : p < P.length) (hq : q < P.length) (h : K (some (.int (b2i (decide (x_key m (P.getD p (0, 0, 0)) < x_key m (P.getD q (0, 0, 0))))))) T I L) : mz_Ctr G M_X12_isBetter [.ref (D 0), .int (zI p), .int (zI q)] T I L K := by
  obtain ⟨h0, ⟨r1, r2, r3, r5, r6, r8, r9, r10, r11, r12, r13, r14, r16, r17, r19, r20, r22, -⟩, ⟨t1, t2, t3, t5, t6, t8, t9, t10, t11, t12, t13, t14, t16, t17, t19, t20, t22, -⟩, -⟩ := id hM
  obtain ⟨p1, p2, p3, p4, p5⟩ := id hP
  have hx := p3 _ (x_get hp)
  have hy := p3 _ (x_get hq)
  have vx := fun w hw => p4 p w hp hw
  have vy := fun w hw => p4 q w hq hw
  generalize P.getD p (0, 0, 0) = x at h hx vx
  generalize P.getD q (0, 0, 0) = y at h hy vy
  have a8 : ∀ z : Nat, (8 : Int32) * zI z = zI ((8 * z : Nat) : Int) := fun z => by rw [show (8 : Int32) = zI 8 from rfl, z_mul]; rfl
  have bx := fun w hw => (x_pt_lt (w := w) hk hx hw).1
  have by' := fun w hw => (x_pt_lt (w := w) hk hy hw).1
  have hn4 : ∀ z, x_in m z → x_n m z ≤ 4 := fun z hz => fill_four (by rw [(x_row_m hk hz).2.2.2.2]; exact hnf)
  have hnx := hn4 x hx
  have hny := hn4 y hy
  have e0 : ∀ z, y_pt m z 0 = x_n m z := fun z => rfl
  have e0' : ∀ z, x_pt m z 0 = 4 - x_n m z := fun z => rfl
  have ew : ∀ z w, w ≠ 0 → y_pt m z w = x_pt m z w := fun z w hw => if_neg hw
  have ans : ∀ t, t < 8 → (∀ v, v < t → x_pt m x v = x_pt m y v) → x_pt m x t ≠ x_pt m y t → (x_pt m x t < x_pt m y t → K (some (.int 1)) T I L) ∧ (¬ x_pt m x t < x_pt m y t → K (some (.int 0)) T I L) := by
    intro t ht he hne
    have := y_lt hk hx hy ht he hne
    refine ⟨fun c => ?_, fun c => ?_⟩
    · rw [decide_eq_true (this.mpr c)] at h; exact h
    · rw [decide_eq_false (fun e => c (this.mp e))] at h; exact h
  have loop : ∀ f k, f + k = 8 → 1 ≤ k → (∀ v, v < k → x_pt m x v = x_pt m y v) → mz_W G M_X12_isBetter K mz_nX 50 [some (.ref (D 0)), some (.int (zI p)), some (.int (zI q)), some (.int (zI k))] [] T I L (0, 0) := by
    intro f
    induction f with
    | zero =>
      intro k hk8 _ he
      have hk8 : k = 8 := by omega
      subst hk8
      have e : x_key m x = x_key m y := (x_kn_eq hk hx hy 8 (Nat.le_refl _)).mpr he
      rw [decide_eq_false (by omega)] at h
      refine mz_vc ok_X12_isBetter [50] [(), (), (), (), (), (), (), (), (), (), (), (), (), (), (), (), (), (), (), (), (), (), (), (), (), (), (), (), (), ()] ?_
      simp only [cd_X12_isBetter, h0, r19, r_rn0, r_rnc, r_vk0, r_vkc, r_vks, r_kci, r_kcv, r_ild, r_ald, r_lld, r_dld, r_Li, r_La, r_Ll, r_Ld, r_Ki, r_Ka, r_Kl, r_Kd, r_Kn, r_ist, r_ast, r_lst, r_dst, r_iinc, r_int, r_lng, r_dbl, r_i2, r_i1, r_l2, r_lsh, r_i2z, r_l2z, r_i2l, r_l2i, r_i2d, r_lcmp, r_ddiv, r_dcmpl, r_dup, r_dup2, r_pop, r_one_int, r_one_ref, r_go, r_if, r_ic, r_tsw, r_lsw, r_sw0, r_swc, r_lk0, r_lkc, r_kp, r_gI, r_gL, r_gR, r_pI, r_pZ, r_pL, r_pR, r_gs, r_ia, r_ca, r_za, r_la, r_da, r_aa, r_ias, r_cas, r_zas, r_las, r_das, r_aas, r_acp, r_new, r_nwa, r_nwq, r_ret, r_irt, r_zrt, r_lrt, r_drt, r_art, r_thr, r_cV0, r_cV1, r_cV2, r_cV3, r_cV4, r_cV5, r_cI0, r_cS0, r_cS1, r_cS2, r_cS3, r_cX0, r_cX1, r_cX2, r_cX3, r_rc, r_oi, r_refx, r_i10, r_i01, r_rfs, r_mem0, r_memc, r_beq, r_kl0, r_klz, r_kl1i, r_kl1r, r_kl1n, r_kl1l, r_kl1d, List.length_cons, List.length_nil, List.getElem?_cons_zero, List.getElem?_cons_succ, List.set_cons_zero, List.set_cons_succ, true_and, and_true, not_true, not_false_eq_true, false_implies, true_implies, or_true, true_or, or_false, false_or, Bool.or_false, Bool.false_or, decide_false, decide_true, Nat.reduceLT, Nat.reduceLeDiff, Nat.reduceAdd, Nat.reduceSub, ↓reduceIte, Nat.reduceEqDiff, Nat.lt_add_one]
      exact ⟨fun _ => h, fun q => absurd (by decide) q⟩
    | succ f ih =>
      intro k hk8 hk1 he
      have hk7 : k < 8 := by omega
      have b1 := bx k hk7
      have b2 := by' k hk7
      refine mz_vc ok_X12_isBetter [50] [(), (), (), (), (), (), (), (), (), (), (), (), (), (), (), (), (), (), (), (), (), (), (), (), (), (), (), (), (), ()] ?_
      simp only [cd_X12_isBetter, h0, r19, r_rn0, r_rnc, r_vk0, r_vkc, r_vks, r_kci, r_kcv, r_ild, r_ald, r_lld, r_dld, r_Li, r_La, r_Ll, r_Ld, r_Ki, r_Ka, r_Kl, r_Kd, r_Kn, r_ist, r_ast, r_lst, r_dst, r_iinc, r_int, r_lng, r_dbl, r_i2, r_i1, r_l2, r_lsh, r_i2z, r_l2z, r_i2l, r_l2i, r_i2d, r_lcmp, r_ddiv, r_dcmpl, r_dup, r_dup2, r_pop, r_one_int, r_one_ref, r_go, r_if, r_ic, r_tsw, r_lsw, r_sw0, r_swc, r_lk0, r_lkc, r_kp, r_gI, r_gL, r_gR, r_pI, r_pZ, r_pL, r_pR, r_gs, r_ia, r_ca, r_za, r_la, r_da, r_aa, r_ias, r_cas, r_zas, r_las, r_das, r_aas, r_acp, r_new, r_nwa, r_nwq, r_ret, r_irt, r_zrt, r_lrt, r_drt, r_art, r_thr, r_cV0, r_cV1, r_cV2, r_cV3, r_cV4, r_cV5, r_cI0, r_cS0, r_cS1, r_cS2, r_cS3, r_cX0, r_cX1, r_cX2, r_cX3, r_rc, r_oi, r_refx, r_i10, r_i01, r_rfs, r_mem0, r_memc, r_beq, r_kl0, r_klz, r_kl1i, r_kl1r, r_kl1n, r_kl1l, r_kl1d, List.length_cons, List.length_nil, List.getElem?_cons_zero, List.getElem?_cons_succ, List.set_cons_zero, List.set_cons_succ, true_and, and_true, not_true, not_false_eq_true, false_implies, true_implies, or_true, true_or, or_false, false_or, Bool.or_false, Bool.false_or, decide_false, decide_true, Nat.reduceLT, Nat.reduceLeDiff, Nat.reduceAdd, Nat.reduceSub, ↓reduceIte, Nat.reduceEqDiff, Nat.lt_add_one]
      rw [a8, a8, z_nadd, z_nadd, z_nat (by omega), Int.toNat_natCast, z_nat (by omega), Int.toNat_natCast, vx k hk7, vy k hk7, ew x k (by omega), ew y k (by omega), z_eq (by omega) (by omega), z_le (by omega) (by omega), z_1]
      refine ⟨z_no (b := 8) (by omega) (by omega) hk7, fun _ => ⟨n_ix _ t19 (by omega) (by decide), n_ix _ t19 (by omega) (by decide), fun q1 => ?_, fun q1 => ⟨n_ix _ t19 (by omega) (by decide), n_ix _ t19 (by omega) (by decide), fun q2 => ?_, fun q2 => ?_⟩⟩⟩
      · refine ih (k + 1) (by omega) (by omega) (fun v hv => ?_)
        by_cases c : v = k
        · subst c; omega
        · exact he v (by omega)
      · exact (ans k hk7 he (by omega)).2 (by omega)
      · exact (ans k hk7 he (by omega)).1 (by omega)
  refine mz_ofl mk_X12_isBetter rfl (Nat.le_of_ble_eq_true rfl) (Nat.le_of_ble_eq_true rfl) [some (.ref (D 0)), some (.int (zI p)), some (.int (zI q)), none] rfl ?_
  refine mz_vc ok_X12_isBetter [50] [(), (), (), (), (), (), (), (), (), (), (), (), (), (), (), (), (), (), (), (), (), (), (), (), (), (), (), (), (), ()] ?_
  simp only [cd_X12_isBetter, h0, r19, r_rn0, r_rnc, r_vk0, r_vkc, r_vks, r_kci, r_kcv, r_ild, r_ald, r_lld, r_dld, r_Li, r_La, r_Ll, r_Ld, r_Ki, r_Ka, r_Kl, r_Kd, r_Kn, r_ist, r_ast, r_lst, r_dst, r_iinc, r_int, r_lng, r_dbl, r_i2, r_i1, r_l2, r_lsh, r_i2z, r_l2z, r_i2l, r_l2i, r_i2d, r_lcmp, r_ddiv, r_dcmpl, r_dup, r_dup2, r_pop, r_one_int, r_one_ref, r_go, r_if, r_ic, r_tsw, r_lsw, r_sw0, r_swc, r_lk0, r_lkc, r_kp, r_gI, r_gL, r_gR, r_pI, r_pZ, r_pL, r_pR, r_gs, r_ia, r_ca, r_za, r_la, r_da, r_aa, r_ias, r_cas, r_zas, r_las, r_das, r_aas, r_acp, r_new, r_nwa, r_nwq, r_ret, r_irt, r_zrt, r_lrt, r_drt, r_art, r_thr, r_cV0, r_cV1, r_cV2, r_cV3, r_cV4, r_cV5, r_cI0, r_cS0, r_cS1, r_cS2, r_cS3, r_cX0, r_cX1, r_cX2, r_cX3, r_rc, r_oi, r_refx, r_i10, r_i01, r_rfs, r_mem0, r_memc, r_beq, r_kl0, r_klz, r_kl1i, r_kl1r, r_kl1n, r_kl1l, r_kl1d, List.length_cons, List.length_nil, List.getElem?_cons_zero, List.getElem?_cons_succ, List.set_cons_zero, List.set_cons_succ, true_and, and_true, not_true, not_false_eq_true, false_implies, true_implies, or_true, true_or, or_false, false_or, Bool.or_false, Bool.false_or, decide_false, decide_true, Nat.reduceLT, Nat.reduceLeDiff, Nat.reduceAdd, Nat.reduceSub, ↓reduceIte, Nat.reduceEqDiff, Nat.lt_add_one]
  have vx0 := vx 0 (by decide)
  have vy0 := vy 0 (by decide)
  rw [Nat.add_zero] at vx0 vy0
  rw [a8, a8, z_nat (by omega), Int.toNat_natCast, z_nat (by omega), Int.toNat_natCast, vx0, vy0, e0, e0, z_eq (by omega) (by omega), z_le (by omega) (by omega)]
  have f0 : x_pt m x 0 = 4 - x_n m x := rfl
  have f1 : x_pt m y 0 = 4 - x_n m y := rfl
  refine ⟨n_ix _ t19 (by omega) (by decide), n_ix _ t19 (by omega) (by decide), fun q1 => ?_, fun q1 => ⟨n_ix _ t19 (by omega) (by decide), n_ix _ t19 (by omega) (by decide), fun q2 => ?_, fun q2 => ?_⟩⟩
  · refine loop 7 1 (by decide) (by decide) (fun v hv => ?_)
    have : v = 0 := by omega
    subst this; omega
  · exact (ans 0 (by decide) (fun v hv => absurd hv (Nat.not_lt_zero _)) (by omega)).2 (by omega)
  · exact (ans 0 (by decide) (fun v hv => absurd hv (Nat.not_lt_zero _)) (by omega)).1 (by omega)
/-- how many of the first n placements are better than one -/
def y_cn (m : Nat → Int32) (P : List s_P) (p : Nat) : Nat → Nat
  | 0 => 0
  | n + 1 => y_cn m P p n + (if x_key m (P.getD n (0, 0, 0)) < x_key m (P.getD p (0, 0, 0)) then 1 else 0)
theorem y_cn_le {m : Nat → Int32} {P : List s_P} {p : Nat} : ∀ n, y_cn m P p n ≤ n
  | 0 => Nat.le_refl 0
  | n + 1 => by unfold y_cn; have := y_cn_le (m := m) (P := P) (p := p) n; split <;> omega
theorem c_rankedM {D : Nat → Nat} {m : Nat → Int32} {P : List s_P} {rk : Int32} (hM : p_Mo T D) (hk : m_kd m < 7) (hnf : ∀ r, r < 22 → s_full (s_fm m) r = false) (hP : y_P m I D P)
    (h1 : ∀ p, p < P.length → zI (y_cn m P p P.length : Nat) = rk → K (some (.int (zI p))) T I L) (h2 : (∀ p, p < P.length → zI (y_cn m P p P.length : Nat) ≠ rk) → K (some (.int (-1))) T I L) : mz_Ctr G M_X12_ranked [.ref (D 0), .int rk] T I L K := by
  obtain ⟨h0, -⟩ := id hM
  obtain ⟨p1, p2, p3, p4, p5⟩ := id hP
  have inner : ∀ p, p < P.length → (zI (y_cn m P p P.length : Nat) = rk → K (some (.int (zI p))) T I L) → (zI (y_cn m P p P.length : Nat) ≠ rk → mz_W G M_X12_ranked K mz_nX 2 [some (.ref (D 0)), some (.int rk), some (.int (zI (p + 1 : Nat))), none, none] [] T I L (0, 0)) → mz_W G M_X12_ranked K mz_nX 15 [some (.ref (D 0)), some (.int rk), some (.int (zI p)), some (.int (zI (y_cn m P p 0 : Nat))), some (.int (zI (0 : Nat)))] [] T I L (0, 0) := by
    intro p hp k1 k2
    refine mz_loop (N := P.length) (fun q => mz_W G M_X12_ranked K mz_nX 15 [some (.ref (D 0)), some (.int rk), some (.int (zI p)), some (.int (zI (y_cn m P p q : Nat))), some (.int (zI q))] [] T I L (0, 0)) ?_ ?_ 0 (Nat.zero_le _)
    · refine mz_vc ok_X12_ranked [15, 2] [(), (), (), (), (), (), (), (), (), (), (), (), (), (), (), (), (), (), (), (), (), (), (), (), (), (), (), (), (), ()] ?_
      simp only [cd_X12_ranked, h0, p1, r_rn0, r_rnc, r_vk0, r_vkc, r_vks, r_kci, r_kcv, r_ild, r_ald, r_lld, r_dld, r_Li, r_La, r_Ll, r_Ld, r_Ki, r_Ka, r_Kl, r_Kd, r_Kn, r_ist, r_ast, r_lst, r_dst, r_iinc, r_int, r_lng, r_dbl, r_i2, r_i1, r_l2, r_lsh, r_i2z, r_l2z, r_i2l, r_l2i, r_i2d, r_lcmp, r_ddiv, r_dcmpl, r_dup, r_dup2, r_pop, r_one_int, r_one_ref, r_go, r_if, r_ic, r_tsw, r_lsw, r_sw0, r_swc, r_lk0, r_lkc, r_kp, r_gI, r_gL, r_gR, r_pI, r_pZ, r_pL, r_pR, r_gs, r_ia, r_ca, r_za, r_la, r_da, r_aa, r_ias, r_cas, r_zas, r_las, r_das, r_aas, r_acp, r_new, r_nwa, r_nwq, r_ret, r_irt, r_zrt, r_lrt, r_drt, r_art, r_thr, r_cV0, r_cV1, r_cV2, r_cV3, r_cV4, r_cV5, r_cI0, r_cS0, r_cS1, r_cS2, r_cS3, r_cX0, r_cX1, r_cX2, r_cX3, r_rc, r_oi, r_refx, r_i10, r_i01, r_rfs, r_mem0, r_memc, r_beq, r_kl0, r_klz, r_kl1i, r_kl1r, r_kl1n, r_kl1l, r_kl1d, List.length_cons, List.length_nil, List.getElem?_cons_zero, List.getElem?_cons_succ, List.set_cons_zero, List.set_cons_succ, true_and, and_true, not_true, not_false_eq_true, false_implies, true_implies, or_true, true_or, or_false, false_or, Bool.or_false, Bool.false_or, decide_false, decide_true, Nat.reduceLT, Nat.reduceLeDiff, Nat.reduceAdd, Nat.reduceSub, ↓reduceIte, Nat.reduceEqDiff, Nat.lt_add_one]
      refine ⟨fun _ => ⟨fun q => ?_, fun q => k1 (Decidable.byContradiction q)⟩, fun q => absurd (Int32.le_refl _) q⟩
      rw [z_1]
      exact mz_forget (k2 q) rfl (mz_fg_s (mz_fg_s (mz_fg_s (mz_fg_n (mz_fg_n mz_fg_0)))))
    · intro q hq ih
      have hl := y_cn_le (m := m) (P := P) (p := p) q
      unfold y_cn at ih
      refine mz_vc ok_X12_ranked [15, 2] [(), (), (), (), (), (), (), (), (), (), (), (), (), (), (), (), (), (), (), (), (), (), (), (), (), (), (), (), (), ()] ?_
      simp only [cd_X12_ranked, h0, p1, r_rn0, r_rnc, r_vk0, r_vkc, r_vks, r_kci, r_kcv, r_ild, r_ald, r_lld, r_dld, r_Li, r_La, r_Ll, r_Ld, r_Ki, r_Ka, r_Kl, r_Kd, r_Kn, r_ist, r_ast, r_lst, r_dst, r_iinc, r_int, r_lng, r_dbl, r_i2, r_i1, r_l2, r_lsh, r_i2z, r_l2z, r_i2l, r_l2i, r_i2d, r_lcmp, r_ddiv, r_dcmpl, r_dup, r_dup2, r_pop, r_one_int, r_one_ref, r_go, r_if, r_ic, r_tsw, r_lsw, r_sw0, r_swc, r_lk0, r_lkc, r_kp, r_gI, r_gL, r_gR, r_pI, r_pZ, r_pL, r_pR, r_gs, r_ia, r_ca, r_za, r_la, r_da, r_aa, r_ias, r_cas, r_zas, r_las, r_das, r_aas, r_acp, r_new, r_nwa, r_nwq, r_ret, r_irt, r_zrt, r_lrt, r_drt, r_art, r_thr, r_cV0, r_cV1, r_cV2, r_cV3, r_cV4, r_cV5, r_cI0, r_cS0, r_cS1, r_cS2, r_cS3, r_cX0, r_cX1, r_cX2, r_cX3, r_rc, r_oi, r_refx, r_i10, r_i01, r_rfs, r_mem0, r_memc, r_beq, r_kl0, r_klz, r_kl1i, r_kl1r, r_kl1n, r_kl1l, r_kl1d, List.length_cons, List.length_nil, List.getElem?_cons_zero, List.getElem?_cons_succ, List.set_cons_zero, List.set_cons_succ, true_and, and_true, not_true, not_false_eq_true, false_implies, true_implies, or_true, true_or, or_false, false_or, Bool.or_false, Bool.false_or, decide_false, decide_true, Nat.reduceLT, Nat.reduceLeDiff, Nat.reduceAdd, Nat.reduceSub, ↓reduceIte, Nat.reduceEqDiff, Nat.lt_add_one]
      refine ⟨z_no (by omega) (by omega) hq, fun _ => c_betterM hM hk hnf hP hq hp ?_⟩
      simp only [cd_X12_ranked, h0, p1, b2i_0, r_rn0, r_rnc, r_vk0, r_vkc, r_vks, r_kci, r_kcv, r_ild, r_ald, r_lld, r_dld, r_Li, r_La, r_Ll, r_Ld, r_Ki, r_Ka, r_Kl, r_Kd, r_Kn, r_ist, r_ast, r_lst, r_dst, r_iinc, r_int, r_lng, r_dbl, r_i2, r_i1, r_l2, r_lsh, r_i2z, r_l2z, r_i2l, r_l2i, r_i2d, r_lcmp, r_ddiv, r_dcmpl, r_dup, r_dup2, r_pop, r_one_int, r_one_ref, r_go, r_if, r_ic, r_tsw, r_lsw, r_sw0, r_swc, r_lk0, r_lkc, r_kp, r_gI, r_gL, r_gR, r_pI, r_pZ, r_pL, r_pR, r_gs, r_ia, r_ca, r_za, r_la, r_da, r_aa, r_ias, r_cas, r_zas, r_las, r_das, r_aas, r_acp, r_new, r_nwa, r_nwq, r_ret, r_irt, r_zrt, r_lrt, r_drt, r_art, r_thr, r_cV0, r_cV1, r_cV2, r_cV3, r_cV4, r_cV5, r_cI0, r_cS0, r_cS1, r_cS2, r_cS3, r_cX0, r_cX1, r_cX2, r_cX3, r_rc, r_oi, r_refx, r_i10, r_i01, r_rfs, r_mem0, r_memc, r_beq, r_kl0, r_klz, r_kl1i, r_kl1r, r_kl1n, r_kl1l, r_kl1d, List.length_cons, List.length_nil, List.getElem?_cons_zero, List.getElem?_cons_succ, List.set_cons_zero, List.set_cons_succ, true_and, and_true, not_true, not_false_eq_true, false_implies, true_implies, or_true, true_or, or_false, false_or, Bool.or_false, Bool.false_or, decide_false, decide_true, Nat.reduceLT, Nat.reduceLeDiff, Nat.reduceAdd, Nat.reduceSub, ↓reduceIte, Nat.reduceEqDiff, Nat.lt_add_one]
      rw [z_1 q]
      refine ⟨fun c => ?_, fun c => ?_⟩
      · rw [if_neg (fun e => by rw [decide_eq_true e] at c; cases c)] at ih
        have e0 : zI ((y_cn m P p q : Nat) : Int) + 0 = zI ((y_cn m P p q + 0 : Nat) : Int) := by rw [l_0, z_add]; rfl
        rw [e0]; exact ih
      · rw [if_pos (Decidable.byContradiction (fun e => c (decide_eq_false e)))] at ih
        rw [z_1]; exact ih
  have loop : ∀ f p, f + p = P.length → (∀ j, j < p → zI (y_cn m P j P.length : Nat) ≠ rk) → mz_W G M_X12_ranked K mz_nX 2 [some (.ref (D 0)), some (.int rk), some (.int (zI p)), none, none] [] T I L (0, 0) := by
    intro f
    induction f with
    | zero =>
      intro p hp hall
      have hp : p = P.length := by omega
      subst hp
      refine mz_vc ok_X12_ranked [2, 15] [(), (), (), (), (), (), (), (), (), (), (), (), (), (), (), (), (), (), (), (), (), (), (), (), (), (), (), (), (), ()] ?_
      simp only [cd_X12_ranked, h0, p1, r_rn0, r_rnc, r_vk0, r_vkc, r_vks, r_kci, r_kcv, r_ild, r_ald, r_lld, r_dld, r_Li, r_La, r_Ll, r_Ld, r_Ki, r_Ka, r_Kl, r_Kd, r_Kn, r_ist, r_ast, r_lst, r_dst, r_iinc, r_int, r_lng, r_dbl, r_i2, r_i1, r_l2, r_lsh, r_i2z, r_l2z, r_i2l, r_l2i, r_i2d, r_lcmp, r_ddiv, r_dcmpl, r_dup, r_dup2, r_pop, r_one_int, r_one_ref, r_go, r_if, r_ic, r_tsw, r_lsw, r_sw0, r_swc, r_lk0, r_lkc, r_kp, r_gI, r_gL, r_gR, r_pI, r_pZ, r_pL, r_pR, r_gs, r_ia, r_ca, r_za, r_la, r_da, r_aa, r_ias, r_cas, r_zas, r_las, r_das, r_aas, r_acp, r_new, r_nwa, r_nwq, r_ret, r_irt, r_zrt, r_lrt, r_drt, r_art, r_thr, r_cV0, r_cV1, r_cV2, r_cV3, r_cV4, r_cV5, r_cI0, r_cS0, r_cS1, r_cS2, r_cS3, r_cX0, r_cX1, r_cX2, r_cX3, r_rc, r_oi, r_refx, r_i10, r_i01, r_rfs, r_mem0, r_memc, r_beq, r_kl0, r_klz, r_kl1i, r_kl1r, r_kl1n, r_kl1l, r_kl1d, List.length_cons, List.length_nil, List.getElem?_cons_zero, List.getElem?_cons_succ, List.set_cons_zero, List.set_cons_succ, true_and, and_true, not_true, not_false_eq_true, false_implies, true_implies, or_true, true_or, or_false, false_or, Bool.or_false, Bool.false_or, decide_false, decide_true, Nat.reduceLT, Nat.reduceLeDiff, Nat.reduceAdd, Nat.reduceSub, ↓reduceIte, Nat.reduceEqDiff, Nat.lt_add_one]
      exact ⟨fun _ => h2 hall, fun q => absurd (Int32.le_refl _) q⟩
    | succ f ih =>
      intro p hp hall
      refine mz_vc ok_X12_ranked [2, 15] [(), (), (), (), (), (), (), (), (), (), (), (), (), (), (), (), (), (), (), (), (), (), (), (), (), (), (), (), (), ()] ?_
      simp only [cd_X12_ranked, h0, p1, r_rn0, r_rnc, r_vk0, r_vkc, r_vks, r_kci, r_kcv, r_ild, r_ald, r_lld, r_dld, r_Li, r_La, r_Ll, r_Ld, r_Ki, r_Ka, r_Kl, r_Kd, r_Kn, r_ist, r_ast, r_lst, r_dst, r_iinc, r_int, r_lng, r_dbl, r_i2, r_i1, r_l2, r_lsh, r_i2z, r_l2z, r_i2l, r_l2i, r_i2d, r_lcmp, r_ddiv, r_dcmpl, r_dup, r_dup2, r_pop, r_one_int, r_one_ref, r_go, r_if, r_ic, r_tsw, r_lsw, r_sw0, r_swc, r_lk0, r_lkc, r_kp, r_gI, r_gL, r_gR, r_pI, r_pZ, r_pL, r_pR, r_gs, r_ia, r_ca, r_za, r_la, r_da, r_aa, r_ias, r_cas, r_zas, r_las, r_das, r_aas, r_acp, r_new, r_nwa, r_nwq, r_ret, r_irt, r_zrt, r_lrt, r_drt, r_art, r_thr, r_cV0, r_cV1, r_cV2, r_cV3, r_cV4, r_cV5, r_cI0, r_cS0, r_cS1, r_cS2, r_cS3, r_cX0, r_cX1, r_cX2, r_cX3, r_rc, r_oi, r_refx, r_i10, r_i01, r_rfs, r_mem0, r_memc, r_beq, r_kl0, r_klz, r_kl1i, r_kl1r, r_kl1n, r_kl1l, r_kl1d, List.length_cons, List.length_nil, List.getElem?_cons_zero, List.getElem?_cons_succ, List.set_cons_zero, List.set_cons_succ, true_and, and_true, not_true, not_false_eq_true, false_implies, true_implies, or_true, true_or, or_false, false_or, Bool.or_false, Bool.false_or, decide_false, decide_true, Nat.reduceLT, Nat.reduceLeDiff, Nat.reduceAdd, Nat.reduceSub, ↓reduceIte, Nat.reduceEqDiff, Nat.lt_add_one]
      refine ⟨z_no (by omega) (by omega) (by omega), fun _ => ?_⟩
      refine inner p (by omega) (h1 p (by omega)) (fun q => ?_)
      refine ih (p + 1) (by omega) (fun j hj => ?_)
      by_cases c : j = p
      · rw [c]; exact q
      · exact hall j (by omega)
  refine mz_ofl mk_X12_ranked rfl (Nat.le_of_ble_eq_true rfl) (Nat.le_of_ble_eq_true rfl) [some (.ref (D 0)), some (.int rk), none, none, none] rfl ?_
  refine mz_vc ok_X12_ranked [2] [(), (), (), (), (), (), (), (), (), (), (), (), (), (), (), (), (), (), (), (), (), (), (), (), (), (), (), (), (), ()] ?_
  simp only [cd_X12_ranked, h0, p1, r_rn0, r_rnc, r_vk0, r_vkc, r_vks, r_kci, r_kcv, r_ild, r_ald, r_lld, r_dld, r_Li, r_La, r_Ll, r_Ld, r_Ki, r_Ka, r_Kl, r_Kd, r_Kn, r_ist, r_ast, r_lst, r_dst, r_iinc, r_int, r_lng, r_dbl, r_i2, r_i1, r_l2, r_lsh, r_i2z, r_l2z, r_i2l, r_l2i, r_i2d, r_lcmp, r_ddiv, r_dcmpl, r_dup, r_dup2, r_pop, r_one_int, r_one_ref, r_go, r_if, r_ic, r_tsw, r_lsw, r_sw0, r_swc, r_lk0, r_lkc, r_kp, r_gI, r_gL, r_gR, r_pI, r_pZ, r_pL, r_pR, r_gs, r_ia, r_ca, r_za, r_la, r_da, r_aa, r_ias, r_cas, r_zas, r_las, r_das, r_aas, r_acp, r_new, r_nwa, r_nwq, r_ret, r_irt, r_zrt, r_lrt, r_drt, r_art, r_thr, r_cV0, r_cV1, r_cV2, r_cV3, r_cV4, r_cV5, r_cI0, r_cS0, r_cS1, r_cS2, r_cS3, r_cX0, r_cX1, r_cX2, r_cX3, r_rc, r_oi, r_refx, r_i10, r_i01, r_rfs, r_mem0, r_memc, r_beq, r_kl0, r_klz, r_kl1i, r_kl1r, r_kl1n, r_kl1l, r_kl1d, List.length_cons, List.length_nil, List.getElem?_cons_zero, List.getElem?_cons_succ, List.set_cons_zero, List.set_cons_succ, true_and, and_true, not_true, not_false_eq_true, false_implies, true_implies, or_true, true_or, or_false, false_or, Bool.or_false, Bool.false_or, decide_false, decide_true, Nat.reduceLT, Nat.reduceLeDiff, Nat.reduceAdd, Nat.reduceSub, ↓reduceIte, Nat.reduceEqDiff, Nat.lt_add_one]
  exact loop P.length 0 rfl (fun j hj => absurd hj (Nat.not_lt_zero _))
/-- class and reference find the same -/
theorem y_cn_count {m : Nat → Int32} {P : List s_P} {p : Nat} : y_cn m P p P.length = (P.map (x_key m)).countP (fun k => decide (k < x_key m (P.getD p (0, 0, 0)))) := by
  have key : ∀ n, n ≤ P.length → y_cn m P p n = ((P.take n).map (x_key m)).countP (fun k => decide (k < x_key m (P.getD p (0, 0, 0)))) := by
    intro n
    induction n with
    | zero => intro _; rfl
    | succ n ih =>
      intro hn
      have e : P.take (n + 1) = P.take n ++ [P.getD n (0, 0, 0)] := by
        rw [List.take_add_one, List.getD_eq_getElem?_getD, List.getElem?_eq_getElem (by omega)]; rfl
      rw [e, List.map_append, List.countP_append, ← ih (by omega)]
      simp only [List.map_cons, List.map_nil, List.countP_cons, List.countP_nil, Nat.zero_add, decide_eq_true_eq]
      rfl
  have := key P.length (Nat.le_refl _)
  rw [List.take_length] at this
  exact this
theorem srt_count {a : Nat → Nat} {n : Nat} (h : x_srt a n) {r : Nat} (hr : r < n) : ((List.range n).map a).countP (fun k => decide (k < a r)) = r := by
  have key : ∀ i, i ≤ n → ((List.range i).map a).countP (fun k => decide (k < a r)) = min i r := by
    intro i
    induction i with
    | zero => intro _; simp
    | succ i ih =>
      intro hi
      rw [List.range_succ, List.map_append, List.countP_append, ih (by omega)]
      simp only [List.map_cons, List.map_nil, List.countP_cons, List.countP_nil, Nat.zero_add]
      by_cases c : i < r
      · rw [decide_eq_true (h i r c hr), if_pos rfl]; omega
      · have : ¬ a i < a r := by
          by_cases e : i = r
          · subst e; omega
          · have := h r i (by omega) (by omega); omega
        rw [decide_eq_false this, if_neg (by decide)]; omega
  rw [key n (Nat.le_refl _)]; omega
theorem both {m : Nat → Int32} {n : Nat} {a : Nat → Nat} {b : s_P} {P : List s_P} (h1 : x_res m n a b) (h2 : y_res m P) : P.length = n ∧ (∀ p, p < P.length → y_cn m P p P.length < n ∧ a (y_cn m P p P.length) = x_key m (P.getD p (0, 0, 0))) ∧ (∀ r, r < n → ∃ p, p < P.length ∧ y_cn m P p P.length = r) := by
  obtain ⟨a1, a2, a3, a4, a5, a6⟩ := h1
  obtain ⟨b1, b2, b3⟩ := h2
  have hperm : (P.map (x_key m)).Perm ((List.range n).map a) := (List.perm_ext_iff_of_nodup b2 (x_srt_nd a1)).mpr (fun v => by
    constructor
    · intro hv
      obtain ⟨x, hx, e⟩ := List.mem_map.mp hv
      obtain ⟨t, ht, e2⟩ := (a3 v).mpr ((b1 v).mp ⟨x, hx, e⟩)
      exact List.mem_map.mpr ⟨t, List.mem_range.mpr ht, e2⟩
    · intro hv
      obtain ⟨t, ht, e⟩ := List.mem_map.mp hv
      obtain ⟨x, hx, e2⟩ := (b1 v).mpr ((a3 v).mp ⟨t, List.mem_range.mp ht, e⟩)
      exact List.mem_map.mpr ⟨x, hx, e2⟩)
  have hlen : P.length = n := by
    have := hperm.length_eq
    rwa [List.length_map, List.length_map, List.length_range] at this
  have key : ∀ p, p < P.length → ∀ r, r < n → a r = x_key m (P.getD p (0, 0, 0)) → y_cn m P p P.length = r := by
    intro p hp r hr e
    rw [y_cn_count, hperm.countP_eq, ← e]
    exact srt_count a1 hr
  refine ⟨hlen, fun p hp => ?_, fun r hr => ?_⟩
  · have hv : x_key m (P.getD p (0, 0, 0)) ∈ (List.range n).map a := hperm.mem_iff.mp (List.mem_map.mpr ⟨_, x_get hp, rfl⟩)
    obtain ⟨r, hr, e⟩ := List.mem_map.mp hv
    have hr := List.mem_range.mp hr
    have := key p hp r hr e
    rw [this]; exact ⟨hr, e⟩
  · have hv : a r ∈ P.map (x_key m) := hperm.mem_iff.mpr (List.mem_map.mpr ⟨r, List.mem_range.mpr hr, rfl⟩)
    obtain ⟨x, hx, e⟩ := List.mem_map.mp hv
    obtain ⟨p, hp, ep⟩ := List.getElem_of_mem hx
    have e2 : P.getD p (0, 0, 0) = x := by rw [List.getD_eq_getElem?_getD, List.getElem?_eq_getElem hp, ep]; rfl
    exact ⟨p, hp, key p hp r hr (by rw [e2]; exact e.symm)⟩
/-- a search of a row, and of the row cut down to what counts -/
theorem norm_key {m : Nat → Int32} {x : s_P} (hk : m_kd m < 7) (hx : x_in m x) : x_in (x_norm m) x ∧ x_key (x_norm m) x = x_key m x ∧ (∀ w, x_pt (x_norm m) x w = x_pt m x w) := by
  obtain ⟨v1, v2, v3, v4, v5⟩ := x_norm_m (m := m)
  have hin : x_in (x_norm m) x := ⟨hx.1, by unfold x_ft; rw [v1, v5]; exact hx.2⟩
  have hk' : m_kd (x_norm m) < 7 := by rw [v1]; exact hk
  have ec : ∀ i, x_ce (x_norm m) x i = x_ce m x i := fun i => by unfold x_ce; rw [v1]
  obtain ⟨a1, a2⟩ := y_fig hk hx
  obtain ⟨b1, b2⟩ := y_fig hk' hin
  have ey : ∀ j, j < 220 → y_fl (x_norm m) x 4 j = y_fl m x 4 j := by
    intro j hj
    unfold y_fl
    rw [x_norm_at (Or.inl hj), x_norm_at (by decide)]
    have e : (List.range 4).any (fun i => decide (x_ce (x_norm m) x i = j)) = (List.range 4).any (fun i => decide (x_ce m x i = j)) := by
      simp only [ec]
    rw [e]
  have ef : s_fm (y_fl (x_norm m) x 4) = s_fm (y_fl m x 4) := s_fm_eq ey
  have e1 : x_n (x_norm m) x = x_n m x := by rw [← a1, ← b1]; unfold m_n; rw [ef]
  have e2 : s_fm (x_af (x_norm m) x) = s_fm (x_af m x) := by
    rw [← a2, ← b2]
    refine s_fm_eq (fun i hi => ?_)
    unfold o_clear
    rw [if_pos hi, if_pos hi, ef]
    by_cases q : s_sr (s_fm (y_fl m x 4)) (i / 10) 22 < 22
    · rw [if_pos q, if_pos q, ey _ (by omega)]
    · rw [if_neg q, if_neg q]
  have ept : ∀ w, x_pt (x_norm m) x w = x_pt m x w := by
    intro w
    unfold x_pt
    rw [e1, e2, ec]
  refine ⟨hin, ?_, ept⟩
  unfold x_key
  have : ∀ w, x_kn (x_norm m) x w = x_kn m x w := by
    intro w
    induction w with
    | zero => rfl
    | succ w ih => unfold x_kn; rw [ih, ept]
  exact this 8
theorem norm_res {m : Nat → Int32} {n : Nat} {a : Nat → Nat} {b : s_P} (hk : m_kd m < 7) (h0 : x_in m (x_0 m)) (h : x_res (x_norm m) n a b) : x_res m n a b := by
  obtain ⟨v1, v2, v3, v4, v5⟩ := x_norm_m (m := m)
  have e0 : x_0 (x_norm m) = x_0 m := by unfold x_0; rw [v2, v3, v4]
  have eft : x_ft (x_norm m) = x_ft m := by funext x; unfold x_ft; rw [v1, v5]
  have etk : ∀ (x : s_P) d n i, x_tk (x_norm m) x d n i = x_tk m x d n i := by
    intro x d n
    induction n with
    | zero => intro i; rfl
    | succ n ih => intro i; unfold x_tk; rw [ih, eft]; unfold x_kp; rw [v1]
  have enb : x_nb (x_norm m) = x_nb m := by
    funext x
    unfold x_nb x_dn x_sh x_tn
    rw [eft, etk, etk, v1]
  have eR : ∀ x, x_R (x_norm m) x ↔ x_R m x := by intro x; unfold x_R; rw [e0, enb]
  have eS : ∀ x, x_rs (x_norm m) x ↔ x_rs m x := by intro x; unfold x_rs; rw [eft]
  obtain ⟨a1, a2, a3, a4, a5, a6, a7, a8, a9⟩ := h
  have hb : x_in m b := x_R_in h0 ((eR b).mp a6)
  refine ⟨a1, a2, fun v => ?_, a4, a5, (eR b).mp a6, hb, (eS b).mp a8, by rw [← (norm_key hk hb).2.1]; exact a9⟩
  rw [a3]
  constructor
  · rintro ⟨x, h1, h2, h3⟩
    have hx := x_R_in h0 ((eR x).mp h1)
    exact ⟨x, (eR x).mp h1, (eS x).mp h2, by rw [← (norm_key hk hx).2.1]; exact h3⟩
  · rintro ⟨x, h1, h2, h3⟩
    have hx := x_R_in h0 h1
    exact ⟨x, (eR x).mpr h1, (eS x).mpr h2, by rw [(norm_key hk hx).2.1]; exact h3⟩
end RANK
