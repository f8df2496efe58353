/-! the reference: draws, records, new pieces -/
section MODP
variable {G : mz_G} {K : mz_K} {T : mz_T} {I : mz_I} {L : mz_L}
theorem z_divF {a b : Int} (ha : 0 ≤ a ∧ a < 2147483648) (hb : 0 < b ∧ b < 1073741824) : zI a / zI b = zI (a / b) := by
  apply Int32.toInt_inj.mp
  have hq := Int.ediv_nonneg ha.1 (Int.le_of_lt hb.1)
  have hq2 : a / b ≤ a := Int.ediv_le_self _ ha.1
  rw [Int32.toInt_div_of_ne_right _ _ (by
    intro e
    have := congrArg Int32.toInt e
    rw [z_toF (by omega)] at this
    have e1 : (-1 : Int32).toInt = -1 := rfl
    rw [e1] at this; omega), z_toF (by omega), z_toF (by omega), z_toF (by omega), Int.tdiv_eq_ediv_of_nonneg ha.1]
def d_pn (b : Nat) : Nat → Nat
  | 0 => 0
  | k + 1 => d_pn b k + b / 2 ^ k % 2
theorem d_pn7 : ∀ b : Nat, b < 128 → d_pn b 7 = q_pc b ∧ ∀ k : Nat, k < 8 → d_pn b k ≤ 7 := by decide +kernel
theorem d_bic : ∀ b : Nat, b < 128 → ∀ k : Nat, k < 7 → b / 2 ^ k % 2 = 1 → (zI b &&& ((1 <<< (zI k &&& 31)) ^^^ (-1)) : Int32) = zI ((b - 2 ^ k : Nat) : Int) := by decide +kernel
def d_z (g : Nat → Int32) : Prop := g 267 = zI (m_z g).1 ∧ g 220 = zI (m_z g).2 ∧ q_ok (m_z g)
theorem d_z_of {g : Nat → Int32} {z : Nat × Nat} (h1 : g 267 = zI z.1) (h2 : g 220 = zI z.2) (hz : q_ok z) : d_z g ∧ m_z g = z := by
  have e : m_z g = z := by
    unfold m_z
    rw [h1, h2, z_nat31 hz.1, z_nat31 (by have := hz.2; omega)]
  unfold d_z
  rw [e]
  exact ⟨⟨h1, h2, hz⟩, rfl⟩
theorem z_65536 {z : Nat} (hz : z < 2147483648) : zI (z : Int) / 65536 = zI ((z / 65536 : Nat) : Int) := by
  rw [show (65536 : Int32) = zI 65536 from rfl, z_divF (by omega) (by decide)]; rfl
theorem c_drawsM {D : Nat → Nat} (hM : p_Mo T D) (hz : d_z (I (D 1))) (h : ∀ I', fr I I' [D 1] → I' (D 1) = o_draw (I (D 1)) → K (some (.int (zI (m_dk (I (D 1)))))) T I' L) : mz_Ctr G M_X12_draws [.ref (D 0)] T I L K := by
  obtain ⟨h0, ⟨r1, r2, -⟩, ⟨t1, t2, -⟩, -⟩ := id hM
  obtain ⟨z1, z2, zok⟩ := id hz
  have hkl := q_kd_lt zok
  have hnx : q_nx (m_z (I (D 1))) = (q_z (m_z (I (D 1))).1, q_b0 (m_z (I (D 1))).2 - 2 ^ q_kd (m_z (I (D 1)))) := rfl
  have hkd : q_kd (m_z (I (D 1))) = q_sel (q_b0 (m_z (I (D 1))).2) 7 0 (q_z (m_z (I (D 1))).1 / 65536 % q_pc (q_b0 (m_z (I (D 1))).2)) := rfl
  have hdk : m_dk (I (D 1)) = q_kd (m_z (I (D 1))) := rfl
  have hod : o_draw (I (D 1)) = m_u (m_u (I (D 1)) 267 (zI (q_nx (m_z (I (D 1)))).1)) 220 (zI (q_nx (m_z (I (D 1)))).2) := rfl
  rw [hod, hdk, hnx] at h
  rw [hkd] at h hkl
  generalize hg : m_z (I (D 1)) = zz at h z1 z2 zok hkl
  obtain ⟨z, b⟩ := zz
  simp only at h z1 z2 hkl
  obtain ⟨zl, bl⟩ := zok
  simp only at zl bl
  have hqz := q_z_lt z
  have hqe := q_z_eq z
  obtain ⟨b0l, b0n⟩ := q_b0_ok bl
  obtain ⟨pc1, pc2, pc3⟩ := q_fin (q_b0 b) b0l b0n
  obtain ⟨pn1, pn2⟩ := d_pn7 (q_b0 b) b0l
  have hbit := q_bit (q_b0 b) b0l
  generalize hb0 : q_b0 b = B at h hkl b0l b0n pc1 pc2 pc3 pn1 pn2 hbit
  generalize hZ : q_z z = Z at h hkl hqz hqe
  have hidx : Z / 65536 % q_pc B < q_pc B := Nat.mod_lt _ pc1
  generalize hidxe : Z / 65536 % q_pc B = idx at h hkl hidx
  obtain ⟨sl1, sl2⟩ := pc3 idx hidx
  generalize hR : q_sel B 7 0 idx = R at h hkl sl1 sl2
  have w98 : ∀ I1 : mz_I, fr I I1 [D 1] → I1 (D 1) = m_u (m_u (I (D 1)) 220 (zI B)) 267 (zI Z) → ∀ f k i : Nat, f + k = 7 → i ≤ 7 → q_sel B f k i = R → mz_W G M_X12_draws K mz_nX 98 [some (.ref (D 0)), some (.int (zI (q_pc B))), some (.int (zI i)), some (.int (zI k))] [] T I1 L (0, 0) := by
    intro I1 f1 e1 f
    have e220 : I1 (D 1) 220 = zI B := by rw [e1, m_u_ne (by decide), m_u_eq]
    induction f with
    | zero =>
      intro k i _ _ e
      unfold q_sel at e
      rw [← e] at sl1
      exact absurd sl1 (by decide)
    | succ f ih =>
      intro k i hf hi e
      have hk7 : k < 7 := by omega
      obtain ⟨b1, b2, b3⟩ := hbit k hk7
      have b4 := d_bic B b0l k hk7
      unfold q_sel at e
      refine mz_vc ok_X12_draws [98] [(), (), (), (), (), (), (), (), (), (), (), (), (), (), (), (), (), (), (), (), (), (), (), (), (), (), (), (), (), ()] ?_
      simp only [cd_X12_draws, h0, r1, ix_220 t1, n_220, ix_267 t1, n_267, e220, r_rn0, r_rnc, r_vk0, r_vkc, r_vks, r_kci, r_kcv, r_ild, r_ald, r_lld, r_dld, r_Li, r_La, r_Ll, r_Ld, r_Ki, r_Ka, r_Kl, r_Kd, r_Kn, r_ist, r_ast, r_lst, r_dst, r_iinc, r_int, r_lng, r_dbl, r_i2, r_i1, r_l2, r_lsh, r_i2z, r_l2z, r_i2l, r_l2i, r_i2d, r_lcmp, r_ddiv, r_dcmpl, r_dup, r_dup2, r_pop, r_one_int, r_one_ref, r_go, r_if, r_ic, r_tsw, r_lsw, r_sw0, r_swc, r_lk0, r_lkc, r_kp, r_gI, r_gL, r_gR, r_pI, r_pZ, r_pL, r_pR, r_gs, r_ia, r_ca, r_za, r_la, r_da, r_aa, r_ias, r_cas, r_zas, r_las, r_das, r_aas, r_acp, r_new, r_nwa, r_nwq, r_ret, r_irt, r_zrt, r_lrt, r_drt, r_art, r_thr, r_cV0, r_cV1, r_cV2, r_cV3, r_cV4, r_cV5, r_cI0, r_cS0, r_cS1, r_cS2, r_cS3, r_cX0, r_cX1, r_cX2, r_cX3, r_rc, r_oi, r_refx, r_i10, r_i01, r_rfs, r_mem0, r_memc, r_beq, r_kl0, r_klz, r_kl1i, r_kl1r, r_kl1n, r_kl1l, r_kl1d, List.length_cons, List.length_nil, List.getElem?_cons_zero, List.getElem?_cons_succ, List.set_cons_zero, List.set_cons_succ, true_and, and_true, not_true, not_false_eq_true, false_implies, true_implies, or_true, true_or, or_false, false_or, Bool.or_false, Bool.false_or, decide_false, decide_true, Nat.reduceLT, Nat.reduceLeDiff, Nat.reduceAdd, Nat.reduceSub, ↓reduceIte, Nat.reduceEqDiff, Nat.lt_add_one]
      rw [b1]
      have hm2 : B / 2 ^ k % 2 = 0 ∨ B / 2 ^ k % 2 = 1 := by omega
      have stop : B / 2 ^ k % 2 = 1 → i = 0 → K (some (.int (zI k))) T (mz_u I1 (D 1) 220 (zI B &&& ((1 <<< (zI k &&& 31)) ^^^ (-1)))) L := by
        intro q0 q1
        rw [if_pos q0, if_pos q1] at e
        rw [← e] at h
        refine h _ (fr_u2 f1 (by simp)) ?_
        rw [mz_u_row, e1, b4 q0]
        funext j
        simp only [m_u_at]
        by_cases c1 : j = 220
        · subst c1; simp
        · by_cases c2 : j = 267
          · subst c2; simp
          · simp [c1, c2]
      have go : zI (i : Int) - zI ((B / 2 ^ k % 2 : Nat) : Int) = zI ((i - B / 2 ^ k % 2 : Nat) : Int) ∨ (B / 2 ^ k % 2 = 1 ∧ i = 0) := by
        by_cases c : B / 2 ^ k % 2 = 1 ∧ i = 0
        · exact Or.inr c
        · left; rw [z_sub]; congr 1; omega
      have next : ¬ (B / 2 ^ k % 2 = 1 ∧ i = 0) → mz_W G M_X12_draws K mz_nX 98 [some (.ref (D 0)), some (.int (zI (q_pc B))), some (.int (zI (i : Int) - zI ((B / 2 ^ k % 2 : Nat) : Int))), some (.int (zI (k : Int) + 1))] [] T I1 L (0, 0) := by
        intro c
        rw [go.resolve_right c, z_1]
        refine ih (k + 1) _ (by omega) (by omega) ?_
        rcases hm2 with q | q
        · rw [if_neg (by omega)] at e
          rw [q, Nat.sub_zero]; exact e
        · rw [if_pos q, if_neg (by omega)] at e
          rw [q]; exact e
      rw [l_0, z_eq (by omega) (by omega), z_le (by omega) (by omega)]
      refine ⟨fun q => next (by omega), fun q => ⟨fun q2 => ?_, fun q2 => next (by omega)⟩⟩
      exact stop (by omega) (by omega)
  have w21 : ∀ I1 : mz_I, fr I I1 [D 1] → I1 (D 1) = m_u (I (D 1)) 220 (zI B) → mz_W G M_X12_draws K mz_nX 21 [some (.ref (D 0)), none, none, none] [] T I1 L (0, 0) := by
    intro I1 f1 e1
    have e267 : I1 (D 1) 267 = zI z := by rw [e1, m_u_ne (by decide)]; exact z1
    refine mz_vc ok_X12_draws [55] [(), (), (), (), (), (), (), (), (), (), (), (), (), (), (), (), (), (), (), (), (), (), (), (), (), (), (), (), (), ()] ?_
    simp only [cd_X12_draws, h0, r1, ix_220 t1, n_220, ix_267 t1, n_267, e267, r_rn0, r_rnc, r_vk0, r_vkc, r_vks, r_kci, r_kcv, r_ild, r_ald, r_lld, r_dld, r_Li, r_La, r_Ll, r_Ld, r_Ki, r_Ka, r_Kl, r_Kd, r_Kn, r_ist, r_ast, r_lst, r_dst, r_iinc, r_int, r_lng, r_dbl, r_i2, r_i1, r_l2, r_lsh, r_i2z, r_l2z, r_i2l, r_l2i, r_i2d, r_lcmp, r_ddiv, r_dcmpl, r_dup, r_dup2, r_pop, r_one_int, r_one_ref, r_go, r_if, r_ic, r_tsw, r_lsw, r_sw0, r_swc, r_lk0, r_lkc, r_kp, r_gI, r_gL, r_gR, r_pI, r_pZ, r_pL, r_pR, r_gs, r_ia, r_ca, r_za, r_la, r_da, r_aa, r_ias, r_cas, r_zas, r_las, r_das, r_aas, r_acp, r_new, r_nwa, r_nwq, r_ret, r_irt, r_zrt, r_lrt, r_drt, r_art, r_thr, r_cV0, r_cV1, r_cV2, r_cV3, r_cV4, r_cV5, r_cI0, r_cS0, r_cS1, r_cS2, r_cS3, r_cX0, r_cX1, r_cX2, r_cX3, r_rc, r_oi, r_refx, r_i10, r_i01, r_rfs, r_mem0, r_memc, r_beq, r_kl0, r_klz, r_kl1i, r_kl1r, r_kl1n, r_kl1l, r_kl1d, List.length_cons, List.length_nil, List.getElem?_cons_zero, List.getElem?_cons_succ, List.set_cons_zero, List.set_cons_succ, true_and, and_true, not_true, not_false_eq_true, false_implies, true_implies, or_true, true_or, or_false, false_or, Bool.or_false, Bool.false_or, decide_false, decide_true, Nat.reduceLT, Nat.reduceLeDiff, Nat.reduceAdd, Nat.reduceSub, ↓reduceIte, Nat.reduceEqDiff, Nat.lt_add_one]
    have ez : (((zI (z : Int)).toInt64 * 1103515245 + 12345) - ((zI (z : Int)).toInt64 * 1103515245 + 12345) / 2147483648 * 2147483648).toInt32 = zI Z := by
      rw [w_64 (by omega), show (1103515245 : Int64) = zL 1103515245 from rfl, show (12345 : Int64) = zL 12345 from rfl, show (2147483648 : Int64) = zL 2147483648 from rfl, w_mul, w_add, w_mod (by omega) (by decide), w_32, hqe]
      congr 1
    rw [ez]
    refine ⟨by decide, ?_⟩
    have f2 : fr I (mz_u I1 (D 1) 267 (zI Z)) [D 1] := fr_u2 f1 (by simp)
    have e2 : (mz_u I1 (D 1) 267 (zI Z)) (D 1) = m_u (m_u (I (D 1)) 220 (zI B)) 267 (zI Z) := by rw [mz_u_row, e1]
    have e220 : (mz_u I1 (D 1) 267 (zI Z)) (D 1) 220 = zI B := by rw [e2, m_u_ne (by decide), m_u_eq]
    have e267' : (mz_u I1 (D 1) 267 (zI Z)) (D 1) 267 = zI Z := by rw [e2, m_u_eq]
    generalize hI2 : mz_u I1 (D 1) 267 (zI Z) = I2 at f2 e2 e220 e267' ⊢
    refine mz_loop (N := 7) (fun k => mz_W G M_X12_draws K mz_nX 55 [some (.ref (D 0)), some (.int (zI (d_pn B k))), some (.int (zI k)), none] [] T I2 L (0, 0)) ?_ ?_ 0 (Nat.zero_le _)
    · refine mz_vc ok_X12_draws [55, 98] [(), (), (), (), (), (), (), (), (), (), (), (), (), (), (), (), (), (), (), (), (), (), (), (), (), (), (), (), (), ()] ?_
      simp only [cd_X12_draws, h0, r1, ix_220 t1, n_220, ix_267 t1, n_267, e267', r_rn0, r_rnc, r_vk0, r_vkc, r_vks, r_kci, r_kcv, r_ild, r_ald, r_lld, r_dld, r_Li, r_La, r_Ll, r_Ld, r_Ki, r_Ka, r_Kl, r_Kd, r_Kn, r_ist, r_ast, r_lst, r_dst, r_iinc, r_int, r_lng, r_dbl, r_i2, r_i1, r_l2, r_lsh, r_i2z, r_l2z, r_i2l, r_l2i, r_i2d, r_lcmp, r_ddiv, r_dcmpl, r_dup, r_dup2, r_pop, r_one_int, r_one_ref, r_go, r_if, r_ic, r_tsw, r_lsw, r_sw0, r_swc, r_lk0, r_lkc, r_kp, r_gI, r_gL, r_gR, r_pI, r_pZ, r_pL, r_pR, r_gs, r_ia, r_ca, r_za, r_la, r_da, r_aa, r_ias, r_cas, r_zas, r_las, r_das, r_aas, r_acp, r_new, r_nwa, r_nwq, r_ret, r_irt, r_zrt, r_lrt, r_drt, r_art, r_thr, r_cV0, r_cV1, r_cV2, r_cV3, r_cV4, r_cV5, r_cI0, r_cS0, r_cS1, r_cS2, r_cS3, r_cX0, r_cX1, r_cX2, r_cX3, r_rc, r_oi, r_refx, r_i10, r_i01, r_rfs, r_mem0, r_memc, r_beq, r_kl0, r_klz, r_kl1i, r_kl1r, r_kl1n, r_kl1l, r_kl1d, List.length_cons, List.length_nil, List.getElem?_cons_zero, List.getElem?_cons_succ, List.set_cons_zero, List.set_cons_succ, true_and, and_true, not_true, not_false_eq_true, false_implies, true_implies, or_true, true_or, or_false, false_or, Bool.or_false, Bool.false_or, decide_false, decide_true, Nat.reduceLT, Nat.reduceLeDiff, Nat.reduceAdd, Nat.reduceSub, ↓reduceIte, Nat.reduceEqDiff, Nat.lt_add_one]
      refine ⟨fun _ => ?_, fun q => absurd (by decide) q⟩
      rw [pn1, z_65536 hqz, z_mod (by omega) (by omega)]
      refine ⟨by decide, ?_, ?_⟩
      · rw [l_0, z_eq (by omega) (by omega)]; omega
      have := w98 I2 f2 e2 7 0 idx rfl (by omega) hR
      rw [← hidxe] at this
      exact this
    · intro k hk9 ih
      have b1 := (hbit k hk9).1
      refine mz_vc ok_X12_draws [55, 98] [(), (), (), (), (), (), (), (), (), (), (), (), (), (), (), (), (), (), (), (), (), (), (), (), (), (), (), (), (), ()] ?_
      simp only [cd_X12_draws, h0, r1, ix_220 t1, n_220, ix_267 t1, n_267, e220, r_rn0, r_rnc, r_vk0, r_vkc, r_vks, r_kci, r_kcv, r_ild, r_ald, r_lld, r_dld, r_Li, r_La, r_Ll, r_Ld, r_Ki, r_Ka, r_Kl, r_Kd, r_Kn, r_ist, r_ast, r_lst, r_dst, r_iinc, r_int, r_lng, r_dbl, r_i2, r_i1, r_l2, r_lsh, r_i2z, r_l2z, r_i2l, r_l2i, r_i2d, r_lcmp, r_ddiv, r_dcmpl, r_dup, r_dup2, r_pop, r_one_int, r_one_ref, r_go, r_if, r_ic, r_tsw, r_lsw, r_sw0, r_swc, r_lk0, r_lkc, r_kp, r_gI, r_gL, r_gR, r_pI, r_pZ, r_pL, r_pR, r_gs, r_ia, r_ca, r_za, r_la, r_da, r_aa, r_ias, r_cas, r_zas, r_las, r_das, r_aas, r_acp, r_new, r_nwa, r_nwq, r_ret, r_irt, r_zrt, r_lrt, r_drt, r_art, r_thr, r_cV0, r_cV1, r_cV2, r_cV3, r_cV4, r_cV5, r_cI0, r_cS0, r_cS1, r_cS2, r_cS3, r_cX0, r_cX1, r_cX2, r_cX3, r_rc, r_oi, r_refx, r_i10, r_i01, r_rfs, r_mem0, r_memc, r_beq, r_kl0, r_klz, r_kl1i, r_kl1r, r_kl1n, r_kl1l, r_kl1d, List.length_cons, List.length_nil, List.getElem?_cons_zero, List.getElem?_cons_succ, List.set_cons_zero, List.set_cons_succ, true_and, and_true, not_true, not_false_eq_true, false_implies, true_implies, or_true, true_or, or_false, false_or, Bool.or_false, Bool.false_or, decide_false, decide_true, Nat.reduceLT, Nat.reduceLeDiff, Nat.reduceAdd, Nat.reduceSub, ↓reduceIte, Nat.reduceEqDiff, Nat.lt_add_one]
      refine ⟨z_no (b := 7) (by omega) (by omega) hk9, fun _ => ?_⟩
      rw [b1, z_nadd, z_1]
      exact ih
  refine mz_ofl mk_X12_draws rfl (Nat.le_of_ble_eq_true rfl) (Nat.le_of_ble_eq_true rfl) [some (.ref (D 0)), none, none, none] rfl ?_
  refine mz_vc ok_X12_draws [21] [(), (), (), (), (), (), (), (), (), (), (), (), (), (), (), (), (), (), (), (), (), (), (), (), (), (), (), (), (), ()] ?_
  simp only [cd_X12_draws, h0, r1, ix_220 t1, n_220, ix_267 t1, n_267, z2, r_rn0, r_rnc, r_vk0, r_vkc, r_vks, r_kci, r_kcv, r_ild, r_ald, r_lld, r_dld, r_Li, r_La, r_Ll, r_Ld, r_Ki, r_Ka, r_Kl, r_Kd, r_Kn, r_ist, r_ast, r_lst, r_dst, r_iinc, r_int, r_lng, r_dbl, r_i2, r_i1, r_l2, r_lsh, r_i2z, r_l2z, r_i2l, r_l2i, r_i2d, r_lcmp, r_ddiv, r_dcmpl, r_dup, r_dup2, r_pop, r_one_int, r_one_ref, r_go, r_if, r_ic, r_tsw, r_lsw, r_sw0, r_swc, r_lk0, r_lkc, r_kp, r_gI, r_gL, r_gR, r_pI, r_pZ, r_pL, r_pR, r_gs, r_ia, r_ca, r_za, r_la, r_da, r_aa, r_ias, r_cas, r_zas, r_las, r_das, r_aas, r_acp, r_new, r_nwa, r_nwq, r_ret, r_irt, r_zrt, r_lrt, r_drt, r_art, r_thr, r_cV0, r_cV1, r_cV2, r_cV3, r_cV4, r_cV5, r_cI0, r_cS0, r_cS1, r_cS2, r_cS3, r_cX0, r_cX1, r_cX2, r_cX3, r_rc, r_oi, r_refx, r_i10, r_i01, r_rfs, r_mem0, r_memc, r_beq, r_kl0, r_klz, r_kl1i, r_kl1r, r_kl1n, r_kl1l, r_kl1d, List.length_cons, List.length_nil, List.getElem?_cons_zero, List.getElem?_cons_succ, List.set_cons_zero, List.set_cons_succ, true_and, and_true, not_true, not_false_eq_true, false_implies, true_implies, or_true, true_or, or_false, false_or, Bool.or_false, Bool.false_or, decide_false, decide_true, Nat.reduceLT, Nat.reduceLeDiff, Nat.reduceAdd, Nat.reduceSub, ↓reduceIte, Nat.reduceEqDiff, Nat.lt_add_one]
  refine ⟨fun q => ?_, fun q => ?_⟩
  · refine w21 I fr_refl ?_
    have : b ≠ 0 := fun e => q (by rw [e]; rfl)
    have eB : B = b := by rw [← hb0]; unfold q_b0; rw [if_neg this]
    funext j
    by_cases c : j = 220
    · subst c; rw [m_u_eq, eB]; exact z2
    · rw [m_u_ne c]
  · have q : b = 0 := by
      have q : zI (b : Int) = 0 := by simpa using q
      rw [l_0, z_eq (by omega) (by omega)] at q; omega
    refine w21 _ fr_u ?_
    have eB : B = 127 := by rw [← hb0, q]; rfl
    rw [mz_u_row, eB]; rfl
end MODP
