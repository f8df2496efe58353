/-! the engine: the best placement -/
section BEST
variable {G : mz_G} {K : mz_K} {T : mz_T} {I : mz_I} {L : mz_L}
def o_best (m : Nat → Int32) (b : s_P) : Nat → Int32 := o_moved m b.1 b.2.1 b.2.2
theorem moved_m {m : Nat → Int32} {s : Nat} {c r : Int} (hs : s < 4) (hc : -100 ≤ c ∧ c ≤ 100) (hr : -100 ≤ r ∧ r ≤ 100) : (∀ j, j < 223 ∨ 231 < j ∨ j = 229 → o_moved m s c r j = m j) ∧ m_kd (o_moved m s c r) = m_kd m ∧ m_st (o_moved m s c r) = s ∧ m_c (o_moved m s c r) = c ∧ m_r (o_moved m s c r) = r := by
  have out : ∀ j, j < 223 ∨ 231 < j ∨ j = 229 → o_moved m s c r j = m j := by
    intro j hj
    unfold o_moved
    rw [set2_out (by omega), m_u_ne (by omega), m_u_ne (by omega), m_u_ne (by omega), m_u_ne (by omega), m_u_ne (by omega)]
  refine ⟨out, by unfold m_kd; rw [out 222 (by decide)], ?_, ?_, ?_⟩
  · have e9 : o_moved m s c r 223 = zI s := by
      unfold o_moved
      rw [set2_out (by decide), m_u_ne (by decide), m_u_ne (by decide), m_u_ne (by decide), m_u_ne (by decide), m_u_eq]
    show (o_moved m s c r 223).toNatClampNeg = s
    rw [e9, z_nat (by omega)]; rfl
  · have e9 : o_moved m s c r 224 = zI c := by
      unfold o_moved
      rw [set2_out (by decide), m_u_ne (by decide), m_u_ne (by decide), m_u_ne (by decide), m_u_eq]
    show (o_moved m s c r 224).toInt = c
    rw [e9, z_toInt (by omega)]
  · have e9 : o_moved m s c r 225 = zI r := by
      unfold o_moved
      rw [set2_out (by decide), m_u_ne (by decide), m_u_ne (by decide), m_u_eq]
    show (o_moved m s c r 225).toInt = r
    rw [e9, z_toInt (by omega)]
theorem c_bestE {en me ra nw many B fi lt n : Nat} {a : Nat → Nat} {b : s_P} {Y : Nat → Nat} {A : z_A} {Aj : Nat → z_A} {m : Nat → Int32} {rr : Nat → Nat → Int32} (hE : p_E T en A) (hE1 : T.2 en 1 = some me) (hE2 : T.2 en 2 = some fi) (hE3 : T.2 en 3 = some (Y 0)) (hfi : (fi, 0, 3) ∈ T.1 ∧ T.2 fi 0 = some lt ∧ (lt, 1, 448) ∈ T.1) (hS : p_Sh T Y) (hkn : x_Kn T I L Y (x_norm m) n a b) (h : p_R T I L A B m) (hl : m 221 = 0) (hB : B < 1000000000) (hM : p_M T I L me ra Aj nw many B rr) (hdj : ∀ j, j < 6 → z_dj (Aj j) A)
    (hK : ∀ I' L' le, le = s_lc (I lt) (m_kd m) b.1 b.2.1 4 → p_Go T I L I' L' A me ra Aj (w_mn (m_lfit (o_best m b) le) many) (B + 1) (o_lock (o_best m b) le) (w_rr (m_lfit (o_best m b) le) many rr (o_app (o_draw (o_lock1 (o_best m b) le)) (m_dk (o_lock1 (o_best m b) le)))) → K (some (.int (zI (m_n (o_fill (o_best m b)))))) T I' L') : mz_Ctr G M_X1_lockInBestPlacement [.ref en] T I L K := by
  refine mz_apartC fun hU => ?_
  obtain ⟨e1, e2⟩ := id hE
  have hA := h.sh
  obtain ⟨⟨g1, g2, g3, g4, g5⟩, hF, hX, ⟨b1, b2, b3⟩, hSc⟩ := id hA
  obtain ⟨x1, x2, x3⟩ := id hX
  obtain ⟨s1, -⟩ := id hS
  obtain ⟨i1, i2, i3⟩ := id hfi
  have m1 : (me, 0, 6) ∈ T.1 := hM.1.1
  have hmA : me ∉ A.all := z_out hU hA m1 (by decide)
  have ne : ∀ {a b : Nat} {x y : Nat × Nat}, (a, x) ∈ T.1 → (b, y) ∈ T.1 → x ≠ y → a ≠ b := fun a b c => mz_ne hU a b c
  obtain ⟨hp, hq, hfit⟩ := h.now hl
  obtain ⟨v1, v2, v3, v4, v5⟩ := x_norm_m (m := m)
  have hk : m_kd m < 7 := hp.2.2.2.2.2.1
  obtain ⟨k1, k2, k3, k4, k5, k6, k7, k8, k9⟩ := id hkn
  obtain ⟨z1, z2, z3, z4, z5, z6, z7, z8, z9⟩ := id k8
  have hbb := x_in_b k3 z7
  have hbf : s_fit (s_fm m) (m_kd m) b.1 b.2.1 b.2.2 = true := by
    have := z7.2
    unfold x_ft at this
    rw [v1, v5] at this
    exact this
  have hxp : A.x ≠ A.p := ne x1 x3 (by decide)
  refine mz_ofl mk_X1_lockInBestPlacement rfl (Nat.le_of_ble_eq_true rfl) (Nat.le_of_ble_eq_true rfl) [some (.ref en)] rfl ?_
  refine mz_vc ok_X1_lockInBestPlacement [] [(), (), (), (), (), (), (), (), (), (), (), (), (), (), (), (), (), (), (), (), (), (), (), (), (), (), (), (), (), ()] ?_
  simp only [cd_X1_lockInBestPlacement, e1, e2, g1, g3, x1, x2, hE3, s1, r_rn0, r_rnc, r_vk0, r_vkc, r_vks, r_kci, r_kcv, r_ild, r_ald, r_lld, r_dld, r_Li, r_La, r_Ll, r_Ld, r_Ki, r_Ka, r_Kl, r_Kd, r_Kn, r_ist, r_ast, r_lst, r_dst, r_iinc, r_int, r_lng, r_dbl, r_i2, r_i1, r_l2, r_lsh, r_i2z, r_l2z, r_i2l, r_l2i, r_i2d, r_lcmp, r_ddiv, r_dcmpl, r_dup, r_dup2, r_pop, r_one_int, r_one_ref, r_go, r_if, r_ic, r_tsw, r_lsw, r_sw0, r_swc, r_lk0, r_lkc, r_kp, r_gI, r_gL, r_gR, r_pI, r_pZ, r_pL, r_pR, r_gs, r_ia, r_ca, r_za, r_la, r_da, r_aa, r_ias, r_cas, r_zas, r_las, r_das, r_aas, r_acp, r_new, r_nwa, r_nwq, r_ret, r_irt, r_zrt, r_lrt, r_drt, r_art, r_thr, r_cV0, r_cV1, r_cV2, r_cV3, r_cV4, r_cV5, r_cI0, r_cS0, r_cS1, r_cS2, r_cS3, r_cX0, r_cX1, r_cX2, r_cX3, r_rc, r_oi, r_refx, r_i10, r_i01, r_rfs, r_mem0, r_memc, r_beq, r_kl0, r_klz, r_kl1i, r_kl1r, r_kl1n, r_kl1l, r_kl1d, List.length_cons, List.length_nil, List.getElem?_cons_zero, List.getElem?_cons_succ, List.set_cons_zero, List.set_cons_succ, true_and, and_true, not_true, not_false_eq_true, false_implies, true_implies, or_true, true_or, or_false, false_or, Bool.or_false, Bool.false_or, decide_false, decide_true, Nat.reduceLT, Nat.reduceLeDiff, Nat.reduceAdd, Nat.reduceSub, ↓reduceIte, Nat.reduceEqDiff, Nat.lt_add_one]
  refine c_bestS hS x3 hk hp.2.1 k7.1 (by omega) k3 z7 k9 (fun I1 q1 hp1 => ?_)
  simp only [cd_X1_lockInBestPlacement, e1, e2, g1, g3, x1, x2, hE3, s1, r_rn0, r_rnc, r_vk0, r_vkc, r_vks, r_kci, r_kcv, r_ild, r_ald, r_lld, r_dld, r_Li, r_La, r_Ll, r_Ld, r_Ki, r_Ka, r_Kl, r_Kd, r_Kn, r_ist, r_ast, r_lst, r_dst, r_iinc, r_int, r_lng, r_dbl, r_i2, r_i1, r_l2, r_lsh, r_i2z, r_l2z, r_i2l, r_l2i, r_i2d, r_lcmp, r_ddiv, r_dcmpl, r_dup, r_dup2, r_pop, r_one_int, r_one_ref, r_go, r_if, r_ic, r_tsw, r_lsw, r_sw0, r_swc, r_lk0, r_lkc, r_kp, r_gI, r_gL, r_gR, r_pI, r_pZ, r_pL, r_pR, r_gs, r_ia, r_ca, r_za, r_la, r_da, r_aa, r_ias, r_cas, r_zas, r_las, r_das, r_aas, r_acp, r_new, r_nwa, r_nwq, r_ret, r_irt, r_zrt, r_lrt, r_drt, r_art, r_thr, r_cV0, r_cV1, r_cV2, r_cV3, r_cV4, r_cV5, r_cI0, r_cS0, r_cS1, r_cS2, r_cS3, r_cX0, r_cX1, r_cX2, r_cX3, r_rc, r_oi, r_refx, r_i10, r_i01, r_rfs, r_mem0, r_memc, r_beq, r_kl0, r_klz, r_kl1i, r_kl1r, r_kl1n, r_kl1l, r_kl1d, List.length_cons, List.length_nil, List.getElem?_cons_zero, List.getElem?_cons_succ, List.set_cons_zero, List.set_cons_succ, true_and, and_true, not_true, not_false_eq_true, false_implies, true_implies, or_true, true_or, or_false, false_or, Bool.or_false, Bool.false_or, decide_false, decide_true, Nat.reduceLT, Nat.reduceLeDiff, Nat.reduceAdd, Nat.reduceSub, ↓reduceIte, Nat.reduceEqDiff, Nat.lt_add_one]
  refine c_noteFall hX ?_
  simp only [cd_X1_lockInBestPlacement, e1, e2, g1, g3, x1, x2, hE3, s1, r_rn0, r_rnc, r_vk0, r_vkc, r_vks, r_kci, r_kcv, r_ild, r_ald, r_lld, r_dld, r_Li, r_La, r_Ll, r_Ld, r_Ki, r_Ka, r_Kl, r_Kd, r_Kn, r_ist, r_ast, r_lst, r_dst, r_iinc, r_int, r_lng, r_dbl, r_i2, r_i1, r_l2, r_lsh, r_i2z, r_l2z, r_i2l, r_l2i, r_i2d, r_lcmp, r_ddiv, r_dcmpl, r_dup, r_dup2, r_pop, r_one_int, r_one_ref, r_go, r_if, r_ic, r_tsw, r_lsw, r_sw0, r_swc, r_lk0, r_lkc, r_kp, r_gI, r_gL, r_gR, r_pI, r_pZ, r_pL, r_pR, r_gs, r_ia, r_ca, r_za, r_la, r_da, r_aa, r_ias, r_cas, r_zas, r_las, r_das, r_aas, r_acp, r_new, r_nwa, r_nwq, r_ret, r_irt, r_zrt, r_lrt, r_drt, r_art, r_thr, r_cV0, r_cV1, r_cV2, r_cV3, r_cV4, r_cV5, r_cI0, r_cS0, r_cS1, r_cS2, r_cS3, r_cX0, r_cX1, r_cX2, r_cX3, r_rc, r_oi, r_refx, r_i10, r_i01, r_rfs, r_mem0, r_memc, r_beq, r_kl0, r_klz, r_kl1i, r_kl1r, r_kl1n, r_kl1l, r_kl1d, List.length_cons, List.length_nil, List.getElem?_cons_zero, List.getElem?_cons_succ, List.set_cons_zero, List.set_cons_succ, true_and, and_true, not_true, not_false_eq_true, false_implies, true_implies, or_true, true_or, or_false, false_or, Bool.or_false, Bool.false_or, decide_false, decide_true, Nat.reduceLT, Nat.reduceLeDiff, Nat.reduceAdd, Nat.reduceSub, ↓reduceIte, Nat.reduceEqDiff, Nat.lt_add_one]
  have fj : fr I I1 [A.x, A.p] := fr_tr q1 fr_refl (by simp) (fun _ q => q)
  have key := moved_R hU h hl fj hp1 hbf (fun i a b => by rw [fr_ne1 q1 hxp])
  obtain ⟨o1, o2, o3, o4, o5⟩ := moved_m (m := m) z7.1 (c := b.2.1) (r := b.2.2) (by omega) (by omega)
  have hM1 := M_step hU hM hA hdj key.1 (by simp [z_A.all]) (fr_refl : fr L L [A.b])
  have elt : (w_nr (mz_u (mz_u I1 A.x 1 0) A.x 6 (-1)) A.x A.p) lt = I lt := key.1 _ (by simp; exact ⟨ne i3 x1 (by decide), ne i3 x3 (by decide)⟩)
  refine c_lockE hE hE1 hE2 hfi key.2 (by rw [o1 221 (by decide)]; exact hl) hB hM1 hdj (fun I' L' hGo => ?_)
  simp only [cd_X1_lockInBestPlacement, e1, e2, g1, g3, x1, x2, hE3, s1, r_rn0, r_rnc, r_vk0, r_vkc, r_vks, r_kci, r_kcv, r_ild, r_ald, r_lld, r_dld, r_Li, r_La, r_Ll, r_Ld, r_Ki, r_Ka, r_Kl, r_Kd, r_Kn, r_ist, r_ast, r_lst, r_dst, r_iinc, r_int, r_lng, r_dbl, r_i2, r_i1, r_l2, r_lsh, r_i2z, r_l2z, r_i2l, r_l2i, r_i2d, r_lcmp, r_ddiv, r_dcmpl, r_dup, r_dup2, r_pop, r_one_int, r_one_ref, r_go, r_if, r_ic, r_tsw, r_lsw, r_sw0, r_swc, r_lk0, r_lkc, r_kp, r_gI, r_gL, r_gR, r_pI, r_pZ, r_pL, r_pR, r_gs, r_ia, r_ca, r_za, r_la, r_da, r_aa, r_ias, r_cas, r_zas, r_las, r_das, r_aas, r_acp, r_new, r_nwa, r_nwq, r_ret, r_irt, r_zrt, r_lrt, r_drt, r_art, r_thr, r_cV0, r_cV1, r_cV2, r_cV3, r_cV4, r_cV5, r_cI0, r_cS0, r_cS1, r_cS2, r_cS3, r_cX0, r_cX1, r_cX2, r_cX3, r_rc, r_oi, r_refx, r_i10, r_i01, r_rfs, r_mem0, r_memc, r_beq, r_kl0, r_klz, r_kl1i, r_kl1r, r_kl1n, r_kl1l, r_kl1d, List.length_cons, List.length_nil, List.getElem?_cons_zero, List.getElem?_cons_succ, List.set_cons_zero, List.set_cons_succ, true_and, and_true, not_true, not_false_eq_true, false_implies, true_implies, or_true, true_or, or_false, false_or, Bool.or_false, Bool.false_or, decide_false, decide_true, Nat.reduceLT, Nat.reduceLeDiff, Nat.reduceAdd, Nat.reduceSub, ↓reduceIte, Nat.reduceEqDiff, Nat.lt_add_one]
  rw [elt, o2, o3, o4] at hGo
  exact hK I' L' _ rfl (Go_tr hmA key.1 (by simp [z_A.all]) (by simp; exact ⟨ne g1 x1 (by decide), ne g1 x3 (by decide)⟩) hGo)
end BEST
