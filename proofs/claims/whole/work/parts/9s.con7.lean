/-! the constructors: the reference -/
section CON7
variable {G : mz_G} {K : mz_K} {X : mz_X} {T : mz_T} {I : mz_I} {L : mz_L} {T0 : mz_T} {I0 : mz_I} {L0 : mz_L}
theorem st_I {o c k : Nat} {v : Int32} {R : List (Nat × Nat)} {S : List Nat} {z : Nat → Int32} (h : c_st T0 I0 L0 o c T I L R S z) : c_st T0 I0 L0 o c T (mz_u I o k v) L R S (m_u z k v) := by
  obtain ⟨h1, h2, h3, h4, h5⟩ := h
  exact ⟨nw_I h1 h2, h2, h3, h4, by rw [mz_u_row, h5]⟩
theorem st_I2 {o c k : Nat} {v : Int32} {R : List (Nat × Nat)} {S : List Nat} {z : Nat → Int32} {J : mz_I} (h : c_st T0 I0 L0 o c T I L R S z) (e : J = mz_u I o k v) : c_st T0 I0 L0 o c T J L R S (m_u z k v) := by rw [e]; exact st_I h
theorem st_ar {T1 : mz_T} {J : mz_I} {L1 : mz_L} {o c f q : Nat} {x : Nat × Nat} {R : List (Nat × Nat)} {S : List Nat} {z : Nat → Int32} (h : c_st T0 I0 L0 o c T I L R S z) (w : n_w T (T.1 ++ [(q, x)], mz_z T.2 q none) I J L L1 [q]) (hf : ∀ r, r ∈ R → r.1 ≠ f) (e : T1 = (T.1 ++ [(q, x)], mz_u (mz_z T.2 q none) o f (some q))) : c_st T0 I0 L0 o c T1 J L1 ((f, q) :: R) (S ++ [q]) z := by rw [e]; exact st_ob h w hf
set_option maxHeartbeats 8000000 in
set_option maxRecDepth 100000 in
theorem c_X12i {o : Nat} (hn : n_w T0 T I0 I L0 L [o]) (ho : (o, 0, 12) ∈ T.1) (hz : ∀ i, I o i = 0)
    (h : ∀ T' I' L' D m rr ms s0 s1, D 0 = o → n_w T0 T' I0 I' L0 L' (w_MA D) → p_Mo T' D → (∀ cs, r_S I' D (r_begun m rr 1) false ms s0 s1 5 8 0 cs (-1)) → K none T' I' L') : mz_Ctr G M_X12_init [.ref o] T I L K := by
  refine mz_ofl mk_X12_init rfl (Nat.le_of_ble_eq_true rfl) (Nat.le_of_ble_eq_true rfl) [some (.ref o)] rfl ?_
  refine mz_vc ok_X12_init [] [(), (), (), (), (), (), (), (), (), (), (), (), (), (), (), (), (), (), (), (), (), (), (), (), (), (), (), (), (), ()] ?_
  simp only [cd_X12_init, List.mem_append, ho, r_rn0, r_rnc, r_vk0, r_vkc, r_vks, r_kci, r_kcv, r_ild, r_ald, r_lld, r_dld, r_Li, r_La, r_Ll, r_Ld, r_Ki, r_Ka, r_Kl, r_Kd, r_Kn, r_ist, r_ast, r_lst, r_dst, r_iinc, r_int, r_lng, r_dbl, r_i2, r_i1, r_l2, r_lsh, r_i2z, r_l2z, r_i2l, r_l2i, r_i2d, r_lcmp, r_ddiv, r_dcmpl, r_dup, r_dup2, r_pop, r_one_int, r_one_ref, r_go, r_if, r_ic, r_tsw, r_lsw, r_sw0, r_swc, r_lk0, r_lkc, r_kp, r_gI, r_gL, r_gR, r_pI, r_pZ, r_pL, r_pR, r_gs, r_ia, r_ca, r_za, r_la, r_da, r_aa, r_ias, r_cas, r_zas, r_las, r_das, r_aas, r_acp, r_new, r_nwa, r_nwq, r_ret, r_irt, r_zrt, r_lrt, r_drt, r_art, r_thr, r_cV0, r_cV1, r_cV2, r_cV3, r_cV4, r_cV5, r_cI0, r_cS0, r_cS1, r_cS2, r_cS3, r_cX0, r_cX1, r_cX2, r_cX3, r_rc, r_oi, r_refx, r_i10, r_i01, r_rfs, r_mem0, r_memc, r_beq, r_kl0, r_klz, r_kl1i, r_kl1r, r_kl1n, r_kl1l, r_kl1d, List.length_cons, List.length_nil, List.getElem?_cons_zero, List.getElem?_cons_succ, List.set_cons_zero, List.set_cons_succ, true_and, and_true, not_true, not_false_eq_true, false_implies, true_implies, or_true, true_or, or_false, false_or, Bool.or_false, Bool.false_or, decide_false, decide_true, Nat.reduceLT, Nat.reduceLeDiff, Nat.reduceAdd, Nat.reduceSub, ↓reduceIte, Nat.reduceEqDiff, Nat.lt_add_one]
  have s0 := st_0 hn ho
  intro d1 hd10
  have hd1 : ∀ x ∈ T.1, x.1 ≠ d1 := hd10
  have nd1 : d1 ≠ o := Ne.symm (hd1 _ s0.2.2.1)
  obtain ⟨T1, eT1⟩ : ∃ t : mz_T, t = (T.1 ++ [(d1, 1, 268)], mz_u (mz_z T.2 d1 none) o 1 (some d1)) := ⟨_, rfl⟩
  obtain ⟨J1, eJ1⟩ : ∃ J : mz_I, J = mz_z I d1 0 := ⟨_, rfl⟩
  obtain ⟨L1, eL1⟩ : ∃ J : mz_L, J = mz_z L d1 0 := ⟨_, rfl⟩
  have w1 : n_w T (T.1 ++ [(d1, 1, 268)], mz_z T.2 d1 none) I J1 L L1 [d1] := by rw [eJ1, eL1]; exact nw_new (T0 := T) (T := T) (I0 := I) (I := I) (L0 := L) (L := L) (x := (1, 268)) (v := 0) (w := 0) nw_0 hd1
  have s1 := st_ar s0 w1 (by simp) eT1
  have el1 : T1.1 = T.1 ++ [(d1, 1, 268)] := by rw [eT1]
  have rw1 : J1 d1 = fun _ => 0 := by rw [eJ1]; exact if_pos rfl
  have md1 : (d1, 1, 268) ∈ T1.1 := by rw [eT1]; exact nw_lst
  have el19 : d1 ≠ o := nd1
  intro d2 hd20
  have hd2 : ∀ x ∈ T1.1, x.1 ≠ d2 := fun x hx => hd20 x (by rw [el1] at hx; first | exact hx | (simp only [List.mem_append] at hx; exact hx))
  have nd2 : d2 ≠ o := Ne.symm (hd2 _ s1.2.2.1)
  refine ⟨n_ix 0 nw_lst (by decide) (by decide), n_ix 1 nw_lst (by decide) (by decide), ?_⟩
  obtain ⟨T2, eT2⟩ : ∃ t : mz_T, t = (T1.1 ++ [(d2, 1, 2)], mz_u (mz_z T1.2 d2 none) o 2 (some d2)) := ⟨_, rfl⟩
  obtain ⟨J2, eJ2⟩ : ∃ J : mz_I, J = mz_u (mz_u (mz_z J1 d2 0) d2 (Int32.toNatClampNeg 0) 5) d2 (Int32.toNatClampNeg 1) 8 := ⟨_, rfl⟩
  obtain ⟨L2, eL2⟩ : ∃ J : mz_L, J = mz_z L1 d2 0 := ⟨_, rfl⟩
  have w2 : n_w T1 (T1.1 ++ [(d2, 1, 2)], mz_z T1.2 d2 none) J1 J2 L1 L2 [d2] := by rw [eJ2, eL2]; exact nw_I (f := Int32.toNatClampNeg 1) (v := 8) (nw_I (f := Int32.toNatClampNeg 0) (v := 5) (nw_new (T0 := T1) (T := T1) (I0 := J1) (I := J1) (L0 := L1) (L := L1) (x := (1, 2)) (v := 0) (w := 0) nw_0 hd2) (by simp)) (by simp)
  have s2 := st_ar s1 w2 (by simp) eT2
  have el2 : T2.1 = T.1 ++ [(d1, 1, 268)] ++ [(d2, 1, 2)] := by rw [eT2]; exact congrArg (fun l => l ++ [(d2, 1, 2)]) el1
  have rw1 := (nw_I2 w2 md1).trans rw1
  have md1 := nw_mem w2 md1
  have md1 : (d1, 1, 268) ∈ T2.1 := by rw [eT2]; exact md1
  have rw2 : J2 d2 = m_u (m_u (fun _ => 0) (Int32.toNatClampNeg 0) 5) (Int32.toNatClampNeg 1) 8 := by rw [eJ2]; simp only [mz_u_row]; rw [show mz_z J1 d2 (0 : Int32) d2 = fun _ => 0 from if_pos rfl]
  have md2 : (d2, 1, 2) ∈ T2.1 := by rw [eT2]; exact nw_lst
  have el29 : d2 ≠ o := nd2
  intro d3 hd30
  have hd3 : ∀ x ∈ T2.1, x.1 ≠ d3 := fun x hx => hd30 x (by rw [el2] at hx; first | exact hx | (simp only [List.mem_append] at hx; exact hx))
  have nd3 : d3 ≠ o := Ne.symm (hd3 _ s2.2.2.1)
  obtain ⟨T3, eT3⟩ : ∃ t : mz_T, t = (T2.1 ++ [(d3, 1, 1608)], mz_u (mz_z T2.2 d3 none) o 3 (some d3)) := ⟨_, rfl⟩
  obtain ⟨J3, eJ3⟩ : ∃ J : mz_I, J = mz_z J2 d3 0 := ⟨_, rfl⟩
  obtain ⟨L3, eL3⟩ : ∃ J : mz_L, J = mz_z L2 d3 0 := ⟨_, rfl⟩
  have w3 : n_w T2 (T2.1 ++ [(d3, 1, 1608)], mz_z T2.2 d3 none) J2 J3 L2 L3 [d3] := by rw [eJ3, eL3]; exact nw_new (T0 := T2) (T := T2) (I0 := J2) (I := J2) (L0 := L2) (L := L2) (x := (1, 1608)) (v := 0) (w := 0) nw_0 hd3
  have s3 := st_ar s2 w3 (by simp) eT3
  have el3 : T3.1 = T.1 ++ [(d1, 1, 268)] ++ [(d2, 1, 2)] ++ [(d3, 1, 1608)] := by rw [eT3]; exact congrArg (fun l => l ++ [(d3, 1, 1608)]) el2
  have rw1 := (nw_I2 w3 md1).trans rw1
  have rw2 := (nw_I2 w3 md2).trans rw2
  have md1 := nw_mem w3 md1
  have md1 : (d1, 1, 268) ∈ T3.1 := by rw [eT3]; exact md1
  have md2 := nw_mem w3 md2
  have md2 : (d2, 1, 2) ∈ T3.1 := by rw [eT3]; exact md2
  have rw3 : J3 d3 = fun _ => 0 := by rw [eJ3]; exact if_pos rfl
  have md3 : (d3, 1, 1608) ∈ T3.1 := by rw [eT3]; exact nw_lst
  have el39 : d3 ≠ o := nd3
  intro d5 hd50
  have hd5 : ∀ x ∈ T3.1, x.1 ≠ d5 := fun x hx => hd50 x (by rw [el3] at hx; first | exact hx | (simp only [List.mem_append] at hx; exact hx))
  have nd5 : d5 ≠ o := Ne.symm (hd5 _ s3.2.2.1)
  have k15 := hd5 _ md1
  obtain ⟨T4, eT4⟩ : ∃ t : mz_T, t = (T3.1 ++ [(d5, 1, 268)], mz_u (mz_z T3.2 d5 none) o 5 (some d5)) := ⟨_, rfl⟩
  obtain ⟨J4, eJ4⟩ : ∃ J : mz_I, J = mz_z J3 d5 0 := ⟨_, rfl⟩
  obtain ⟨L4, eL4⟩ : ∃ J : mz_L, J = mz_z L3 d5 0 := ⟨_, rfl⟩
  have w4 : n_w T3 (T3.1 ++ [(d5, 1, 268)], mz_z T3.2 d5 none) J3 J4 L3 L4 [d5] := by rw [eJ4, eL4]; exact nw_new (T0 := T3) (T := T3) (I0 := J3) (I := J3) (L0 := L3) (L := L3) (x := (1, 268)) (v := 0) (w := 0) nw_0 hd5
  have s4 := st_ar s3 w4 (by simp) eT4
  have el4 : T4.1 = T.1 ++ [(d1, 1, 268)] ++ [(d2, 1, 2)] ++ [(d3, 1, 1608)] ++ [(d5, 1, 268)] := by rw [eT4]; exact congrArg (fun l => l ++ [(d5, 1, 268)]) el3
  have rw1 := (nw_I2 w4 md1).trans rw1
  have rw2 := (nw_I2 w4 md2).trans rw2
  have rw3 := (nw_I2 w4 md3).trans rw3
  have md1 := nw_mem w4 md1
  have md1 : (d1, 1, 268) ∈ T4.1 := by rw [eT4]; exact md1
  have md2 := nw_mem w4 md2
  have md2 : (d2, 1, 2) ∈ T4.1 := by rw [eT4]; exact md2
  have md3 := nw_mem w4 md3
  have md3 : (d3, 1, 1608) ∈ T4.1 := by rw [eT4]; exact md3
  have rw5 : J4 d5 = fun _ => 0 := by rw [eJ4]; exact if_pos rfl
  have md5 : (d5, 1, 268) ∈ T4.1 := by rw [eT4]; exact nw_lst
  have el59 : d5 ≠ o := nd5
  intro d6 hd60
  have hd6 : ∀ x ∈ T4.1, x.1 ≠ d6 := fun x hx => hd60 x (by rw [el4] at hx; first | exact hx | (simp only [List.mem_append] at hx; exact hx))
  have nd6 : d6 ≠ o := Ne.symm (hd6 _ s4.2.2.1)
  have k26 := hd6 _ md2
  obtain ⟨T5, eT5⟩ : ∃ t : mz_T, t = (T4.1 ++ [(d6, 1, 2)], mz_u (mz_z T4.2 d6 none) o 6 (some d6)) := ⟨_, rfl⟩
  obtain ⟨J5, eJ5⟩ : ∃ J : mz_I, J = mz_z J4 d6 0 := ⟨_, rfl⟩
  obtain ⟨L5, eL5⟩ : ∃ J : mz_L, J = mz_z L4 d6 0 := ⟨_, rfl⟩
  have w5 : n_w T4 (T4.1 ++ [(d6, 1, 2)], mz_z T4.2 d6 none) J4 J5 L4 L5 [d6] := by rw [eJ5, eL5]; exact nw_new (T0 := T4) (T := T4) (I0 := J4) (I := J4) (L0 := L4) (L := L4) (x := (1, 2)) (v := 0) (w := 0) nw_0 hd6
  have s5 := st_ar s4 w5 (by simp) eT5
  have el5 : T5.1 = T.1 ++ [(d1, 1, 268)] ++ [(d2, 1, 2)] ++ [(d3, 1, 1608)] ++ [(d5, 1, 268)] ++ [(d6, 1, 2)] := by rw [eT5]; exact congrArg (fun l => l ++ [(d6, 1, 2)]) el4
  have rw1 := (nw_I2 w5 md1).trans rw1
  have rw2 := (nw_I2 w5 md2).trans rw2
  have rw3 := (nw_I2 w5 md3).trans rw3
  have rw5 := (nw_I2 w5 md5).trans rw5
  have md1 := nw_mem w5 md1
  have md1 : (d1, 1, 268) ∈ T5.1 := by rw [eT5]; exact md1
  have md2 := nw_mem w5 md2
  have md2 : (d2, 1, 2) ∈ T5.1 := by rw [eT5]; exact md2
  have md3 := nw_mem w5 md3
  have md3 : (d3, 1, 1608) ∈ T5.1 := by rw [eT5]; exact md3
  have md5 := nw_mem w5 md5
  have md5 : (d5, 1, 268) ∈ T5.1 := by rw [eT5]; exact md5
  have rw6 : J5 d6 = fun _ => 0 := by rw [eJ5]; exact if_pos rfl
  have md6 : (d6, 1, 2) ∈ T5.1 := by rw [eT5]; exact nw_lst
  have el69 : d6 ≠ o := nd6
  intro d8 hd80
  have hd8 : ∀ x ∈ T5.1, x.1 ≠ d8 := fun x hx => hd80 x (by rw [el5] at hx; first | exact hx | (simp only [List.mem_append] at hx; exact hx))
  have nd8 : d8 ≠ o := Ne.symm (hd8 _ s5.2.2.1)
  refine ⟨n_ix 0 nw_lst (by decide) (by decide), n_ix 1 nw_lst (by decide) (by decide), n_ix 2 nw_lst (by decide) (by decide), n_ix 3 nw_lst (by decide) (by decide), n_ix 4 nw_lst (by decide) (by decide), n_ix 5 nw_lst (by decide) (by decide), n_ix 6 nw_lst (by decide) (by decide), ?_⟩
  obtain ⟨T6, eT6⟩ : ∃ t : mz_T, t = (T5.1 ++ [(d8, 1, 7)], mz_u (mz_z T5.2 d8 none) o 8 (some d8)) := ⟨_, rfl⟩
  obtain ⟨J6, eJ6⟩ : ∃ J : mz_I, J = mz_u (mz_u (mz_u (mz_u (mz_u (mz_u (mz_u (mz_z J5 d8 0) d8 (Int32.toNatClampNeg 0) 4) d8 (Int32.toNatClampNeg 1) 2) d8 (Int32.toNatClampNeg 2) 3) d8 (Int32.toNatClampNeg 3) 3) d8 (Int32.toNatClampNeg 4) 3) d8 (Int32.toNatClampNeg 5) 3) d8 (Int32.toNatClampNeg 6) 3 := ⟨_, rfl⟩
  obtain ⟨L6, eL6⟩ : ∃ J : mz_L, J = mz_z L5 d8 0 := ⟨_, rfl⟩
  have w6 : n_w T5 (T5.1 ++ [(d8, 1, 7)], mz_z T5.2 d8 none) J5 J6 L5 L6 [d8] := by rw [eJ6, eL6]; exact nw_I (f := Int32.toNatClampNeg 6) (v := 3) (nw_I (f := Int32.toNatClampNeg 5) (v := 3) (nw_I (f := Int32.toNatClampNeg 4) (v := 3) (nw_I (f := Int32.toNatClampNeg 3) (v := 3) (nw_I (f := Int32.toNatClampNeg 2) (v := 3) (nw_I (f := Int32.toNatClampNeg 1) (v := 2) (nw_I (f := Int32.toNatClampNeg 0) (v := 4) (nw_new (T0 := T5) (T := T5) (I0 := J5) (I := J5) (L0 := L5) (L := L5) (x := (1, 7)) (v := 0) (w := 0) nw_0 hd8) (by simp)) (by simp)) (by simp)) (by simp)) (by simp)) (by simp)) (by simp)
  have s6 := st_ar s5 w6 (by simp) eT6
  have el6 : T6.1 = T.1 ++ [(d1, 1, 268)] ++ [(d2, 1, 2)] ++ [(d3, 1, 1608)] ++ [(d5, 1, 268)] ++ [(d6, 1, 2)] ++ [(d8, 1, 7)] := by rw [eT6]; exact congrArg (fun l => l ++ [(d8, 1, 7)]) el5
  have rw1 := (nw_I2 w6 md1).trans rw1
  have rw2 := (nw_I2 w6 md2).trans rw2
  have rw3 := (nw_I2 w6 md3).trans rw3
  have rw5 := (nw_I2 w6 md5).trans rw5
  have rw6 := (nw_I2 w6 md6).trans rw6
  have md1 := nw_mem w6 md1
  have md1 : (d1, 1, 268) ∈ T6.1 := by rw [eT6]; exact md1
  have md2 := nw_mem w6 md2
  have md2 : (d2, 1, 2) ∈ T6.1 := by rw [eT6]; exact md2
  have md3 := nw_mem w6 md3
  have md3 : (d3, 1, 1608) ∈ T6.1 := by rw [eT6]; exact md3
  have md5 := nw_mem w6 md5
  have md5 : (d5, 1, 268) ∈ T6.1 := by rw [eT6]; exact md5
  have md6 := nw_mem w6 md6
  have md6 : (d6, 1, 2) ∈ T6.1 := by rw [eT6]; exact md6
  have rw8 : J6 d8 = m_u (m_u (m_u (m_u (m_u (m_u (m_u (fun _ => 0) (Int32.toNatClampNeg 0) 4) (Int32.toNatClampNeg 1) 2) (Int32.toNatClampNeg 2) 3) (Int32.toNatClampNeg 3) 3) (Int32.toNatClampNeg 4) 3) (Int32.toNatClampNeg 5) 3) (Int32.toNatClampNeg 6) 3 := by rw [eJ6]; simp only [mz_u_row]; rw [show mz_z J5 d8 (0 : Int32) d8 = fun _ => 0 from if_pos rfl]
  have md8 : (d8, 1, 7) ∈ T6.1 := by rw [eT6]; exact nw_lst
  have el89 : d8 ≠ o := nd8
  intro d9 hd90
  have hd9 : ∀ x ∈ T6.1, x.1 ≠ d9 := fun x hx => hd90 x (by rw [el6] at hx; first | exact hx | (simp only [List.mem_append] at hx; exact hx))
  have nd9 : d9 ≠ o := Ne.symm (hd9 _ s6.2.2.1)
  refine ⟨n_ix 0 nw_lst (by decide) (by decide), n_ix 1 nw_lst (by decide) (by decide), n_ix 2 nw_lst (by decide) (by decide), n_ix 3 nw_lst (by decide) (by decide), n_ix 4 nw_lst (by decide) (by decide), n_ix 5 nw_lst (by decide) (by decide), n_ix 6 nw_lst (by decide) (by decide), n_ix 7 nw_lst (by decide) (by decide), n_ix 8 nw_lst (by decide) (by decide), n_ix 9 nw_lst (by decide) (by decide), n_ix 10 nw_lst (by decide) (by decide), n_ix 11 nw_lst (by decide) (by decide), n_ix 12 nw_lst (by decide) (by decide), n_ix 13 nw_lst (by decide) (by decide), n_ix 14 nw_lst (by decide) (by decide), n_ix 15 nw_lst (by decide) (by decide), n_ix 16 nw_lst (by decide) (by decide), n_ix 17 nw_lst (by decide) (by decide), n_ix 18 nw_lst (by decide) (by decide), n_ix 19 nw_lst (by decide) (by decide), n_ix 20 nw_lst (by decide) (by decide), n_ix 21 nw_lst (by decide) (by decide), n_ix 22 nw_lst (by decide) (by decide), n_ix 23 nw_lst (by decide) (by decide), n_ix 24 nw_lst (by decide) (by decide), n_ix 25 nw_lst (by decide) (by decide), n_ix 26 nw_lst (by decide) (by decide), n_ix 27 nw_lst (by decide) (by decide), n_ix 28 nw_lst (by decide) (by decide), n_ix 29 nw_lst (by decide) (by decide), n_ix 30 nw_lst (by decide) (by decide), n_ix 31 nw_lst (by decide) (by decide), n_ix 32 nw_lst (by decide) (by decide), n_ix 33 nw_lst (by decide) (by decide), n_ix 34 nw_lst (by decide) (by decide), n_ix 35 nw_lst (by decide) (by decide), n_ix 36 nw_lst (by decide) (by decide), n_ix 37 nw_lst (by decide) (by decide), n_ix 38 nw_lst (by decide) (by decide), n_ix 39 nw_lst (by decide) (by decide), n_ix 40 nw_lst (by decide) (by decide), n_ix 41 nw_lst (by decide) (by decide), n_ix 42 nw_lst (by decide) (by decide), n_ix 43 nw_lst (by decide) (by decide), n_ix 44 nw_lst (by decide) (by decide), n_ix 45 nw_lst (by decide) (by decide), n_ix 46 nw_lst (by decide) (by decide), n_ix 47 nw_lst (by decide) (by decide), n_ix 48 nw_lst (by decide) (by decide), n_ix 49 nw_lst (by decide) (by decide), n_ix 50 nw_lst (by decide) (by decide), n_ix 51 nw_lst (by decide) (by decide), n_ix 52 nw_lst (by decide) (by decide), n_ix 53 nw_lst (by decide) (by decide), n_ix 54 nw_lst (by decide) (by decide), n_ix 55 nw_lst (by decide) (by decide), ?_⟩
  obtain ⟨T7, eT7⟩ : ∃ t : mz_T, t = (T6.1 ++ [(d9, 1, 56)], mz_u (mz_z T6.2 d9 none) o 9 (some d9)) := ⟨_, rfl⟩
  obtain ⟨J7, eJ7⟩ : ∃ J : mz_I, J = mz_u (mz_u (mz_u (mz_u (mz_u (mz_u (mz_u (mz_u (mz_u (mz_u (mz_u (mz_u (mz_u (mz_u (mz_u (mz_u (mz_u (mz_u (mz_u (mz_u (mz_u (mz_u (mz_u (mz_u (mz_u (mz_u (mz_u (mz_u (mz_u (mz_u (mz_u (mz_u (mz_u (mz_u (mz_u (mz_u (mz_u (mz_u (mz_u (mz_u (mz_u (mz_u (mz_u (mz_u (mz_u (mz_u (mz_u (mz_u (mz_u (mz_u (mz_u (mz_u (mz_u (mz_u (mz_u (mz_u (mz_z J6 d9 0) d9 (Int32.toNatClampNeg 0) 0) d9 (Int32.toNatClampNeg 1) 2) d9 (Int32.toNatClampNeg 2) 1) d9 (Int32.toNatClampNeg 3) 2) d9 (Int32.toNatClampNeg 4) 2) d9 (Int32.toNatClampNeg 5) 2) d9 (Int32.toNatClampNeg 6) 3) d9 (Int32.toNatClampNeg 7) 2) d9 (Int32.toNatClampNeg 8) 0) d9 (Int32.toNatClampNeg 9) 0) d9 (Int32.toNatClampNeg 10) 1) d9 (Int32.toNatClampNeg 11) 0) d9 (Int32.toNatClampNeg 12) 0) d9 (Int32.toNatClampNeg 13) 1) d9 (Int32.toNatClampNeg 14) 1) d9 (Int32.toNatClampNeg 15) 1) d9 (Int32.toNatClampNeg 16) 0) d9 (Int32.toNatClampNeg 17) 1) d9 (Int32.toNatClampNeg 18) 1) d9 (Int32.toNatClampNeg 19) 1) d9 (Int32.toNatClampNeg 20) 2) d9 (Int32.toNatClampNeg 21) 1) d9 (Int32.toNatClampNeg 22) 1) d9 (Int32.toNatClampNeg 23) 2) d9 (Int32.toNatClampNeg 24) 0) d9 (Int32.toNatClampNeg 25) 1) d9 (Int32.toNatClampNeg 26) 1) d9 (Int32.toNatClampNeg 27) 1) d9 (Int32.toNatClampNeg 28) 1) d9 (Int32.toNatClampNeg 29) 2) d9 (Int32.toNatClampNeg 30) 2) d9 (Int32.toNatClampNeg 31) 2) d9 (Int32.toNatClampNeg 32) 1) d9 (Int32.toNatClampNeg 33) 1) d9 (Int32.toNatClampNeg 34) 2) d9 (Int32.toNatClampNeg 35) 1) d9 (Int32.toNatClampNeg 36) 0) d9 (Int32.toNatClampNeg 37) 2) d9 (Int32.toNatClampNeg 38) 1) d9 (Int32.toNatClampNeg 39) 2) d9 (Int32.toNatClampNeg 40) 0) d9 (Int32.toNatClampNeg 41) 1) d9 (Int32.toNatClampNeg 42) 1) d9 (Int32.toNatClampNeg 43) 1) d9 (Int32.toNatClampNeg 44) 2) d9 (Int32.toNatClampNeg 45) 1) d9 (Int32.toNatClampNeg 46) 0) d9 (Int32.toNatClampNeg 47) 2) d9 (Int32.toNatClampNeg 48) 0) d9 (Int32.toNatClampNeg 49) 1) d9 (Int32.toNatClampNeg 50) 1) d9 (Int32.toNatClampNeg 51) 1) d9 (Int32.toNatClampNeg 52) 2) d9 (Int32.toNatClampNeg 53) 1) d9 (Int32.toNatClampNeg 54) 2) d9 (Int32.toNatClampNeg 55) 2 := ⟨_, rfl⟩
  obtain ⟨L7, eL7⟩ : ∃ J : mz_L, J = mz_z L6 d9 0 := ⟨_, rfl⟩
  have w7 : n_w T6 (T6.1 ++ [(d9, 1, 56)], mz_z T6.2 d9 none) J6 J7 L6 L7 [d9] := by rw [eJ7, eL7]; exact nw_I (f := Int32.toNatClampNeg 55) (v := 2) (nw_I (f := Int32.toNatClampNeg 54) (v := 2) (nw_I (f := Int32.toNatClampNeg 53) (v := 1) (nw_I (f := Int32.toNatClampNeg 52) (v := 2) (nw_I (f := Int32.toNatClampNeg 51) (v := 1) (nw_I (f := Int32.toNatClampNeg 50) (v := 1) (nw_I (f := Int32.toNatClampNeg 49) (v := 1) (nw_I (f := Int32.toNatClampNeg 48) (v := 0) (nw_I (f := Int32.toNatClampNeg 47) (v := 2) (nw_I (f := Int32.toNatClampNeg 46) (v := 0) (nw_I (f := Int32.toNatClampNeg 45) (v := 1) (nw_I (f := Int32.toNatClampNeg 44) (v := 2) (nw_I (f := Int32.toNatClampNeg 43) (v := 1) (nw_I (f := Int32.toNatClampNeg 42) (v := 1) (nw_I (f := Int32.toNatClampNeg 41) (v := 1) (nw_I (f := Int32.toNatClampNeg 40) (v := 0) (nw_I (f := Int32.toNatClampNeg 39) (v := 2) (nw_I (f := Int32.toNatClampNeg 38) (v := 1) (nw_I (f := Int32.toNatClampNeg 37) (v := 2) (nw_I (f := Int32.toNatClampNeg 36) (v := 0) (nw_I (f := Int32.toNatClampNeg 35) (v := 1) (nw_I (f := Int32.toNatClampNeg 34) (v := 2) (nw_I (f := Int32.toNatClampNeg 33) (v := 1) (nw_I (f := Int32.toNatClampNeg 32) (v := 1) (nw_I (f := Int32.toNatClampNeg 31) (v := 2) (nw_I (f := Int32.toNatClampNeg 30) (v := 2) (nw_I (f := Int32.toNatClampNeg 29) (v := 2) (nw_I (f := Int32.toNatClampNeg 28) (v := 1) (nw_I (f := Int32.toNatClampNeg 27) (v := 1) (nw_I (f := Int32.toNatClampNeg 26) (v := 1) (nw_I (f := Int32.toNatClampNeg 25) (v := 1) (nw_I (f := Int32.toNatClampNeg 24) (v := 0) (nw_I (f := Int32.toNatClampNeg 23) (v := 2) (nw_I (f := Int32.toNatClampNeg 22) (v := 1) (nw_I (f := Int32.toNatClampNeg 21) (v := 1) (nw_I (f := Int32.toNatClampNeg 20) (v := 2) (nw_I (f := Int32.toNatClampNeg 19) (v := 1) (nw_I (f := Int32.toNatClampNeg 18) (v := 1) (nw_I (f := Int32.toNatClampNeg 17) (v := 1) (nw_I (f := Int32.toNatClampNeg 16) (v := 0) (nw_I (f := Int32.toNatClampNeg 15) (v := 1) (nw_I (f := Int32.toNatClampNeg 14) (v := 1) (nw_I (f := Int32.toNatClampNeg 13) (v := 1) (nw_I (f := Int32.toNatClampNeg 12) (v := 0) (nw_I (f := Int32.toNatClampNeg 11) (v := 0) (nw_I (f := Int32.toNatClampNeg 10) (v := 1) (nw_I (f := Int32.toNatClampNeg 9) (v := 0) (nw_I (f := Int32.toNatClampNeg 8) (v := 0) (nw_I (f := Int32.toNatClampNeg 7) (v := 2) (nw_I (f := Int32.toNatClampNeg 6) (v := 3) (nw_I (f := Int32.toNatClampNeg 5) (v := 2) (nw_I (f := Int32.toNatClampNeg 4) (v := 2) (nw_I (f := Int32.toNatClampNeg 3) (v := 2) (nw_I (f := Int32.toNatClampNeg 2) (v := 1) (nw_I (f := Int32.toNatClampNeg 1) (v := 2) (nw_I (f := Int32.toNatClampNeg 0) (v := 0) (nw_new (T0 := T6) (T := T6) (I0 := J6) (I := J6) (L0 := L6) (L := L6) (x := (1, 56)) (v := 0) (w := 0) nw_0 hd9) (by simp)) (by simp)) (by simp)) (by simp)) (by simp)) (by simp)) (by simp)) (by simp)) (by simp)) (by simp)) (by simp)) (by simp)) (by simp)) (by simp)) (by simp)) (by simp)) (by simp)) (by simp)) (by simp)) (by simp)) (by simp)) (by simp)) (by simp)) (by simp)) (by simp)) (by simp)) (by simp)) (by simp)) (by simp)) (by simp)) (by simp)) (by simp)) (by simp)) (by simp)) (by simp)) (by simp)) (by simp)) (by simp)) (by simp)) (by simp)) (by simp)) (by simp)) (by simp)) (by simp)) (by simp)) (by simp)) (by simp)) (by simp)) (by simp)) (by simp)) (by simp)) (by simp)) (by simp)) (by simp)) (by simp)) (by simp)
  have s7 := st_ar s6 w7 (by simp) eT7
  have el7 : T7.1 = T.1 ++ [(d1, 1, 268)] ++ [(d2, 1, 2)] ++ [(d3, 1, 1608)] ++ [(d5, 1, 268)] ++ [(d6, 1, 2)] ++ [(d8, 1, 7)] ++ [(d9, 1, 56)] := by rw [eT7]; exact congrArg (fun l => l ++ [(d9, 1, 56)]) el6
  have rw1 := (nw_I2 w7 md1).trans rw1
  have rw2 := (nw_I2 w7 md2).trans rw2
  have rw3 := (nw_I2 w7 md3).trans rw3
  have rw5 := (nw_I2 w7 md5).trans rw5
  have rw6 := (nw_I2 w7 md6).trans rw6
  have rw8 := (nw_I2 w7 md8).trans rw8
  have md1 := nw_mem w7 md1
  have md1 : (d1, 1, 268) ∈ T7.1 := by rw [eT7]; exact md1
  have md2 := nw_mem w7 md2
  have md2 : (d2, 1, 2) ∈ T7.1 := by rw [eT7]; exact md2
  have md3 := nw_mem w7 md3
  have md3 : (d3, 1, 1608) ∈ T7.1 := by rw [eT7]; exact md3
  have md5 := nw_mem w7 md5
  have md5 : (d5, 1, 268) ∈ T7.1 := by rw [eT7]; exact md5
  have md6 := nw_mem w7 md6
  have md6 : (d6, 1, 2) ∈ T7.1 := by rw [eT7]; exact md6
  have md8 := nw_mem w7 md8
  have md8 : (d8, 1, 7) ∈ T7.1 := by rw [eT7]; exact md8
  have rw9 : J7 d9 = m_u (m_u (m_u (m_u (m_u (m_u (m_u (m_u (m_u (m_u (m_u (m_u (m_u (m_u (m_u (m_u (m_u (m_u (m_u (m_u (m_u (m_u (m_u (m_u (m_u (m_u (m_u (m_u (m_u (m_u (m_u (m_u (m_u (m_u (m_u (m_u (m_u (m_u (m_u (m_u (m_u (m_u (m_u (m_u (m_u (m_u (m_u (m_u (m_u (m_u (m_u (m_u (m_u (m_u (m_u (m_u (fun _ => 0) (Int32.toNatClampNeg 0) 0) (Int32.toNatClampNeg 1) 2) (Int32.toNatClampNeg 2) 1) (Int32.toNatClampNeg 3) 2) (Int32.toNatClampNeg 4) 2) (Int32.toNatClampNeg 5) 2) (Int32.toNatClampNeg 6) 3) (Int32.toNatClampNeg 7) 2) (Int32.toNatClampNeg 8) 0) (Int32.toNatClampNeg 9) 0) (Int32.toNatClampNeg 10) 1) (Int32.toNatClampNeg 11) 0) (Int32.toNatClampNeg 12) 0) (Int32.toNatClampNeg 13) 1) (Int32.toNatClampNeg 14) 1) (Int32.toNatClampNeg 15) 1) (Int32.toNatClampNeg 16) 0) (Int32.toNatClampNeg 17) 1) (Int32.toNatClampNeg 18) 1) (Int32.toNatClampNeg 19) 1) (Int32.toNatClampNeg 20) 2) (Int32.toNatClampNeg 21) 1) (Int32.toNatClampNeg 22) 1) (Int32.toNatClampNeg 23) 2) (Int32.toNatClampNeg 24) 0) (Int32.toNatClampNeg 25) 1) (Int32.toNatClampNeg 26) 1) (Int32.toNatClampNeg 27) 1) (Int32.toNatClampNeg 28) 1) (Int32.toNatClampNeg 29) 2) (Int32.toNatClampNeg 30) 2) (Int32.toNatClampNeg 31) 2) (Int32.toNatClampNeg 32) 1) (Int32.toNatClampNeg 33) 1) (Int32.toNatClampNeg 34) 2) (Int32.toNatClampNeg 35) 1) (Int32.toNatClampNeg 36) 0) (Int32.toNatClampNeg 37) 2) (Int32.toNatClampNeg 38) 1) (Int32.toNatClampNeg 39) 2) (Int32.toNatClampNeg 40) 0) (Int32.toNatClampNeg 41) 1) (Int32.toNatClampNeg 42) 1) (Int32.toNatClampNeg 43) 1) (Int32.toNatClampNeg 44) 2) (Int32.toNatClampNeg 45) 1) (Int32.toNatClampNeg 46) 0) (Int32.toNatClampNeg 47) 2) (Int32.toNatClampNeg 48) 0) (Int32.toNatClampNeg 49) 1) (Int32.toNatClampNeg 50) 1) (Int32.toNatClampNeg 51) 1) (Int32.toNatClampNeg 52) 2) (Int32.toNatClampNeg 53) 1) (Int32.toNatClampNeg 54) 2) (Int32.toNatClampNeg 55) 2 := by rw [eJ7]; simp only [mz_u_row]; rw [show mz_z J6 d9 (0 : Int32) d9 = fun _ => 0 from if_pos rfl]
  have md9 : (d9, 1, 56) ∈ T7.1 := by rw [eT7]; exact nw_lst
  have el99 : d9 ≠ o := nd9
  intro d10 hd100
  have hd10 : ∀ x ∈ T7.1, x.1 ≠ d10 := fun x hx => hd100 x (by rw [el7] at hx; first | exact hx | (simp only [List.mem_append] at hx; exact hx))
  have nd10 : d10 ≠ o := Ne.symm (hd10 _ s7.2.2.1)
  refine ⟨n_ix 0 nw_lst (by decide) (by decide), n_ix 1 nw_lst (by decide) (by decide), n_ix 2 nw_lst (by decide) (by decide), n_ix 3 nw_lst (by decide) (by decide), n_ix 4 nw_lst (by decide) (by decide), n_ix 5 nw_lst (by decide) (by decide), n_ix 6 nw_lst (by decide) (by decide), n_ix 7 nw_lst (by decide) (by decide), n_ix 8 nw_lst (by decide) (by decide), n_ix 9 nw_lst (by decide) (by decide), n_ix 10 nw_lst (by decide) (by decide), n_ix 11 nw_lst (by decide) (by decide), n_ix 12 nw_lst (by decide) (by decide), n_ix 13 nw_lst (by decide) (by decide), n_ix 14 nw_lst (by decide) (by decide), n_ix 15 nw_lst (by decide) (by decide), n_ix 16 nw_lst (by decide) (by decide), n_ix 17 nw_lst (by decide) (by decide), ?_⟩
  obtain ⟨T8, eT8⟩ : ∃ t : mz_T, t = (T7.1 ++ [(d10, 1, 18)], mz_u (mz_z T7.2 d10 none) o 10 (some d10)) := ⟨_, rfl⟩
  obtain ⟨J8, eJ8⟩ : ∃ J : mz_I, J = mz_u (mz_u (mz_u (mz_u (mz_u (mz_u (mz_u (mz_u (mz_u (mz_u (mz_u (mz_u (mz_u (mz_u (mz_u (mz_u (mz_u (mz_u (mz_z J7 d10 0) d10 (Int32.toNatClampNeg 0) 0) d10 (Int32.toNatClampNeg 1) 0) d10 (Int32.toNatClampNeg 2) (-1)) d10 (Int32.toNatClampNeg 3) 0) d10 (Int32.toNatClampNeg 4) 1) d10 (Int32.toNatClampNeg 5) 0) d10 (Int32.toNatClampNeg 6) 0) d10 (Int32.toNatClampNeg 7) 1) d10 (Int32.toNatClampNeg 8) (-1)) d10 (Int32.toNatClampNeg 9) 1) d10 (Int32.toNatClampNeg 10) 1) d10 (Int32.toNatClampNeg 11) 1) d10 (Int32.toNatClampNeg 12) 0) d10 (Int32.toNatClampNeg 13) (-1)) d10 (Int32.toNatClampNeg 14) (-2)) d10 (Int32.toNatClampNeg 15) 0) d10 (Int32.toNatClampNeg 16) 2) d10 (Int32.toNatClampNeg 17) 0 := ⟨_, rfl⟩
  obtain ⟨L8, eL8⟩ : ∃ J : mz_L, J = mz_z L7 d10 0 := ⟨_, rfl⟩
  have w8 : n_w T7 (T7.1 ++ [(d10, 1, 18)], mz_z T7.2 d10 none) J7 J8 L7 L8 [d10] := by rw [eJ8, eL8]; exact nw_I (f := Int32.toNatClampNeg 17) (v := 0) (nw_I (f := Int32.toNatClampNeg 16) (v := 2) (nw_I (f := Int32.toNatClampNeg 15) (v := 0) (nw_I (f := Int32.toNatClampNeg 14) (v := (-2)) (nw_I (f := Int32.toNatClampNeg 13) (v := (-1)) (nw_I (f := Int32.toNatClampNeg 12) (v := 0) (nw_I (f := Int32.toNatClampNeg 11) (v := 1) (nw_I (f := Int32.toNatClampNeg 10) (v := 1) (nw_I (f := Int32.toNatClampNeg 9) (v := 1) (nw_I (f := Int32.toNatClampNeg 8) (v := (-1)) (nw_I (f := Int32.toNatClampNeg 7) (v := 1) (nw_I (f := Int32.toNatClampNeg 6) (v := 0) (nw_I (f := Int32.toNatClampNeg 5) (v := 0) (nw_I (f := Int32.toNatClampNeg 4) (v := 1) (nw_I (f := Int32.toNatClampNeg 3) (v := 0) (nw_I (f := Int32.toNatClampNeg 2) (v := (-1)) (nw_I (f := Int32.toNatClampNeg 1) (v := 0) (nw_I (f := Int32.toNatClampNeg 0) (v := 0) (nw_new (T0 := T7) (T := T7) (I0 := J7) (I := J7) (L0 := L7) (L := L7) (x := (1, 18)) (v := 0) (w := 0) nw_0 hd10) (by simp)) (by simp)) (by simp)) (by simp)) (by simp)) (by simp)) (by simp)) (by simp)) (by simp)) (by simp)) (by simp)) (by simp)) (by simp)) (by simp)) (by simp)) (by simp)) (by simp)) (by simp)
  have s8 := st_ar s7 w8 (by simp) eT8
  have el8 : T8.1 = T.1 ++ [(d1, 1, 268)] ++ [(d2, 1, 2)] ++ [(d3, 1, 1608)] ++ [(d5, 1, 268)] ++ [(d6, 1, 2)] ++ [(d8, 1, 7)] ++ [(d9, 1, 56)] ++ [(d10, 1, 18)] := by rw [eT8]; exact congrArg (fun l => l ++ [(d10, 1, 18)]) el7
  have rw1 := (nw_I2 w8 md1).trans rw1
  have rw2 := (nw_I2 w8 md2).trans rw2
  have rw3 := (nw_I2 w8 md3).trans rw3
  have rw5 := (nw_I2 w8 md5).trans rw5
  have rw6 := (nw_I2 w8 md6).trans rw6
  have rw8 := (nw_I2 w8 md8).trans rw8
  have rw9 := (nw_I2 w8 md9).trans rw9
  have md1 := nw_mem w8 md1
  have md1 : (d1, 1, 268) ∈ T8.1 := by rw [eT8]; exact md1
  have md2 := nw_mem w8 md2
  have md2 : (d2, 1, 2) ∈ T8.1 := by rw [eT8]; exact md2
  have md3 := nw_mem w8 md3
  have md3 : (d3, 1, 1608) ∈ T8.1 := by rw [eT8]; exact md3
  have md5 := nw_mem w8 md5
  have md5 : (d5, 1, 268) ∈ T8.1 := by rw [eT8]; exact md5
  have md6 := nw_mem w8 md6
  have md6 : (d6, 1, 2) ∈ T8.1 := by rw [eT8]; exact md6
  have md8 := nw_mem w8 md8
  have md8 : (d8, 1, 7) ∈ T8.1 := by rw [eT8]; exact md8
  have md9 := nw_mem w8 md9
  have md9 : (d9, 1, 56) ∈ T8.1 := by rw [eT8]; exact md9
  have rw10 : J8 d10 = m_u (m_u (m_u (m_u (m_u (m_u (m_u (m_u (m_u (m_u (m_u (m_u (m_u (m_u (m_u (m_u (m_u (m_u (fun _ => 0) (Int32.toNatClampNeg 0) 0) (Int32.toNatClampNeg 1) 0) (Int32.toNatClampNeg 2) (-1)) (Int32.toNatClampNeg 3) 0) (Int32.toNatClampNeg 4) 1) (Int32.toNatClampNeg 5) 0) (Int32.toNatClampNeg 6) 0) (Int32.toNatClampNeg 7) 1) (Int32.toNatClampNeg 8) (-1)) (Int32.toNatClampNeg 9) 1) (Int32.toNatClampNeg 10) 1) (Int32.toNatClampNeg 11) 1) (Int32.toNatClampNeg 12) 0) (Int32.toNatClampNeg 13) (-1)) (Int32.toNatClampNeg 14) (-2)) (Int32.toNatClampNeg 15) 0) (Int32.toNatClampNeg 16) 2) (Int32.toNatClampNeg 17) 0 := by rw [eJ8]; simp only [mz_u_row]; rw [show mz_z J7 d10 (0 : Int32) d10 = fun _ => 0 from if_pos rfl]
  have md10 : (d10, 1, 18) ∈ T8.1 := by rw [eT8]; exact nw_lst
  have el109 : d10 ≠ o := nd10
  intro d11 hd110
  have hd11 : ∀ x ∈ T8.1, x.1 ≠ d11 := fun x hx => hd110 x (by rw [el8] at hx; first | exact hx | (simp only [List.mem_append] at hx; exact hx))
  have nd11 : d11 ≠ o := Ne.symm (hd11 _ s8.2.2.1)
  refine ⟨n_ix 0 nw_lst (by decide) (by decide), n_ix 1 nw_lst (by decide) (by decide), n_ix 2 nw_lst (by decide) (by decide), n_ix 3 nw_lst (by decide) (by decide), n_ix 4 nw_lst (by decide) (by decide), n_ix 5 nw_lst (by decide) (by decide), n_ix 6 nw_lst (by decide) (by decide), n_ix 7 nw_lst (by decide) (by decide), n_ix 8 nw_lst (by decide) (by decide), n_ix 9 nw_lst (by decide) (by decide), ?_⟩
  obtain ⟨T9, eT9⟩ : ∃ t : mz_T, t = (T8.1 ++ [(d11, 1, 10)], mz_u (mz_z T8.2 d11 none) o 11 (some d11)) := ⟨_, rfl⟩
  obtain ⟨J9, eJ9⟩ : ∃ J : mz_I, J = mz_u (mz_u (mz_u (mz_u (mz_u (mz_u (mz_u (mz_u (mz_u (mz_u (mz_z J8 d11 0) d11 (Int32.toNatClampNeg 0) 0) d11 (Int32.toNatClampNeg 1) 0) d11 (Int32.toNatClampNeg 2) (-2)) d11 (Int32.toNatClampNeg 3) 0) d11 (Int32.toNatClampNeg 4) 2) d11 (Int32.toNatClampNeg 5) 0) d11 (Int32.toNatClampNeg 6) 0) d11 (Int32.toNatClampNeg 7) 2) d11 (Int32.toNatClampNeg 8) 0) d11 (Int32.toNatClampNeg 9) (-1) := ⟨_, rfl⟩
  obtain ⟨L9, eL9⟩ : ∃ J : mz_L, J = mz_z L8 d11 0 := ⟨_, rfl⟩
  have w9 : n_w T8 (T8.1 ++ [(d11, 1, 10)], mz_z T8.2 d11 none) J8 J9 L8 L9 [d11] := by rw [eJ9, eL9]; exact nw_I (f := Int32.toNatClampNeg 9) (v := (-1)) (nw_I (f := Int32.toNatClampNeg 8) (v := 0) (nw_I (f := Int32.toNatClampNeg 7) (v := 2) (nw_I (f := Int32.toNatClampNeg 6) (v := 0) (nw_I (f := Int32.toNatClampNeg 5) (v := 0) (nw_I (f := Int32.toNatClampNeg 4) (v := 2) (nw_I (f := Int32.toNatClampNeg 3) (v := 0) (nw_I (f := Int32.toNatClampNeg 2) (v := (-2)) (nw_I (f := Int32.toNatClampNeg 1) (v := 0) (nw_I (f := Int32.toNatClampNeg 0) (v := 0) (nw_new (T0 := T8) (T := T8) (I0 := J8) (I := J8) (L0 := L8) (L := L8) (x := (1, 10)) (v := 0) (w := 0) nw_0 hd11) (by simp)) (by simp)) (by simp)) (by simp)) (by simp)) (by simp)) (by simp)) (by simp)) (by simp)) (by simp)
  have s9 := st_ar s8 w9 (by simp) eT9
  have el9 : T9.1 = T.1 ++ [(d1, 1, 268)] ++ [(d2, 1, 2)] ++ [(d3, 1, 1608)] ++ [(d5, 1, 268)] ++ [(d6, 1, 2)] ++ [(d8, 1, 7)] ++ [(d9, 1, 56)] ++ [(d10, 1, 18)] ++ [(d11, 1, 10)] := by rw [eT9]; exact congrArg (fun l => l ++ [(d11, 1, 10)]) el8
  have rw1 := (nw_I2 w9 md1).trans rw1
  have rw2 := (nw_I2 w9 md2).trans rw2
  have rw3 := (nw_I2 w9 md3).trans rw3
  have rw5 := (nw_I2 w9 md5).trans rw5
  have rw6 := (nw_I2 w9 md6).trans rw6
  have rw8 := (nw_I2 w9 md8).trans rw8
  have rw9 := (nw_I2 w9 md9).trans rw9
  have rw10 := (nw_I2 w9 md10).trans rw10
  have md1 := nw_mem w9 md1
  have md1 : (d1, 1, 268) ∈ T9.1 := by rw [eT9]; exact md1
  have md2 := nw_mem w9 md2
  have md2 : (d2, 1, 2) ∈ T9.1 := by rw [eT9]; exact md2
  have md3 := nw_mem w9 md3
  have md3 : (d3, 1, 1608) ∈ T9.1 := by rw [eT9]; exact md3
  have md5 := nw_mem w9 md5
  have md5 : (d5, 1, 268) ∈ T9.1 := by rw [eT9]; exact md5
  have md6 := nw_mem w9 md6
  have md6 : (d6, 1, 2) ∈ T9.1 := by rw [eT9]; exact md6
  have md8 := nw_mem w9 md8
  have md8 : (d8, 1, 7) ∈ T9.1 := by rw [eT9]; exact md8
  have md9 := nw_mem w9 md9
  have md9 : (d9, 1, 56) ∈ T9.1 := by rw [eT9]; exact md9
  have md10 := nw_mem w9 md10
  have md10 : (d10, 1, 18) ∈ T9.1 := by rw [eT9]; exact md10
  have rw11 : J9 d11 = m_u (m_u (m_u (m_u (m_u (m_u (m_u (m_u (m_u (m_u (fun _ => 0) (Int32.toNatClampNeg 0) 0) (Int32.toNatClampNeg 1) 0) (Int32.toNatClampNeg 2) (-2)) (Int32.toNatClampNeg 3) 0) (Int32.toNatClampNeg 4) 2) (Int32.toNatClampNeg 5) 0) (Int32.toNatClampNeg 6) 0) (Int32.toNatClampNeg 7) 2) (Int32.toNatClampNeg 8) 0) (Int32.toNatClampNeg 9) (-1) := by rw [eJ9]; simp only [mz_u_row]; rw [show mz_z J8 d11 (0 : Int32) d11 = fun _ => 0 from if_pos rfl]
  have md11 : (d11, 1, 10) ∈ T9.1 := by rw [eT9]; exact nw_lst
  have el119 : d11 ≠ o := nd11
  intro d12 hd120
  have hd12 : ∀ x ∈ T9.1, x.1 ≠ d12 := fun x hx => hd120 x (by rw [el9] at hx; first | exact hx | (simp only [List.mem_append] at hx; exact hx))
  have nd12 : d12 ≠ o := Ne.symm (hd12 _ s9.2.2.1)
  refine ⟨n_ix 0 nw_lst (by decide) (by decide), n_ix 1 nw_lst (by decide) (by decide), n_ix 2 nw_lst (by decide) (by decide), n_ix 3 nw_lst (by decide) (by decide), n_ix 4 nw_lst (by decide) (by decide), n_ix 5 nw_lst (by decide) (by decide), n_ix 6 nw_lst (by decide) (by decide), n_ix 7 nw_lst (by decide) (by decide), n_ix 8 nw_lst (by decide) (by decide), n_ix 9 nw_lst (by decide) (by decide), n_ix 10 nw_lst (by decide) (by decide), n_ix 11 nw_lst (by decide) (by decide), n_ix 12 nw_lst (by decide) (by decide), n_ix 13 nw_lst (by decide) (by decide), n_ix 14 nw_lst (by decide) (by decide), ?_⟩
  obtain ⟨T10, eT10⟩ : ∃ t : mz_T, t = (T9.1 ++ [(d12, 1, 15)], mz_u (mz_z T9.2 d12 none) o 12 (some d12)) := ⟨_, rfl⟩
  obtain ⟨J10, eJ10⟩ : ∃ J : mz_I, J = mz_u (mz_u (mz_u (mz_u (mz_u (mz_u (mz_u (mz_u (mz_u (mz_u (mz_u (mz_u (mz_u (mz_u (mz_u (mz_z J9 d12 0) d12 (Int32.toNatClampNeg 0) 0) d12 (Int32.toNatClampNeg 1) 100) d12 (Int32.toNatClampNeg 2) 300) d12 (Int32.toNatClampNeg 3) 500) d12 (Int32.toNatClampNeg 4) 800) d12 (Int32.toNatClampNeg 5) 100) d12 (Int32.toNatClampNeg 6) 200) d12 (Int32.toNatClampNeg 7) 400) d12 (Int32.toNatClampNeg 8) 600) d12 (Int32.toNatClampNeg 9) 0) d12 (Int32.toNatClampNeg 10) 400) d12 (Int32.toNatClampNeg 11) 800) d12 (Int32.toNatClampNeg 12) 1200) d12 (Int32.toNatClampNeg 13) 1600) d12 (Int32.toNatClampNeg 14) 0 := ⟨_, rfl⟩
  obtain ⟨L10, eL10⟩ : ∃ J : mz_L, J = mz_z L9 d12 0 := ⟨_, rfl⟩
  have w10 : n_w T9 (T9.1 ++ [(d12, 1, 15)], mz_z T9.2 d12 none) J9 J10 L9 L10 [d12] := by rw [eJ10, eL10]; exact nw_I (f := Int32.toNatClampNeg 14) (v := 0) (nw_I (f := Int32.toNatClampNeg 13) (v := 1600) (nw_I (f := Int32.toNatClampNeg 12) (v := 1200) (nw_I (f := Int32.toNatClampNeg 11) (v := 800) (nw_I (f := Int32.toNatClampNeg 10) (v := 400) (nw_I (f := Int32.toNatClampNeg 9) (v := 0) (nw_I (f := Int32.toNatClampNeg 8) (v := 600) (nw_I (f := Int32.toNatClampNeg 7) (v := 400) (nw_I (f := Int32.toNatClampNeg 6) (v := 200) (nw_I (f := Int32.toNatClampNeg 5) (v := 100) (nw_I (f := Int32.toNatClampNeg 4) (v := 800) (nw_I (f := Int32.toNatClampNeg 3) (v := 500) (nw_I (f := Int32.toNatClampNeg 2) (v := 300) (nw_I (f := Int32.toNatClampNeg 1) (v := 100) (nw_I (f := Int32.toNatClampNeg 0) (v := 0) (nw_new (T0 := T9) (T := T9) (I0 := J9) (I := J9) (L0 := L9) (L := L9) (x := (1, 15)) (v := 0) (w := 0) nw_0 hd12) (by simp)) (by simp)) (by simp)) (by simp)) (by simp)) (by simp)) (by simp)) (by simp)) (by simp)) (by simp)) (by simp)) (by simp)) (by simp)) (by simp)) (by simp)
  have s10 := st_ar s9 w10 (by simp) eT10
  have el10 : T10.1 = T.1 ++ [(d1, 1, 268)] ++ [(d2, 1, 2)] ++ [(d3, 1, 1608)] ++ [(d5, 1, 268)] ++ [(d6, 1, 2)] ++ [(d8, 1, 7)] ++ [(d9, 1, 56)] ++ [(d10, 1, 18)] ++ [(d11, 1, 10)] ++ [(d12, 1, 15)] := by rw [eT10]; exact congrArg (fun l => l ++ [(d12, 1, 15)]) el9
  have rw1 := (nw_I2 w10 md1).trans rw1
  have rw2 := (nw_I2 w10 md2).trans rw2
  have rw3 := (nw_I2 w10 md3).trans rw3
  have rw5 := (nw_I2 w10 md5).trans rw5
  have rw6 := (nw_I2 w10 md6).trans rw6
  have rw8 := (nw_I2 w10 md8).trans rw8
  have rw9 := (nw_I2 w10 md9).trans rw9
  have rw10 := (nw_I2 w10 md10).trans rw10
  have rw11 := (nw_I2 w10 md11).trans rw11
  have md1 := nw_mem w10 md1
  have md1 : (d1, 1, 268) ∈ T10.1 := by rw [eT10]; exact md1
  have md2 := nw_mem w10 md2
  have md2 : (d2, 1, 2) ∈ T10.1 := by rw [eT10]; exact md2
  have md3 := nw_mem w10 md3
  have md3 : (d3, 1, 1608) ∈ T10.1 := by rw [eT10]; exact md3
  have md5 := nw_mem w10 md5
  have md5 : (d5, 1, 268) ∈ T10.1 := by rw [eT10]; exact md5
  have md6 := nw_mem w10 md6
  have md6 : (d6, 1, 2) ∈ T10.1 := by rw [eT10]; exact md6
  have md8 := nw_mem w10 md8
  have md8 : (d8, 1, 7) ∈ T10.1 := by rw [eT10]; exact md8
  have md9 := nw_mem w10 md9
  have md9 : (d9, 1, 56) ∈ T10.1 := by rw [eT10]; exact md9
  have md10 := nw_mem w10 md10
  have md10 : (d10, 1, 18) ∈ T10.1 := by rw [eT10]; exact md10
  have md11 := nw_mem w10 md11
  have md11 : (d11, 1, 10) ∈ T10.1 := by rw [eT10]; exact md11
  have rw12 : J10 d12 = m_u (m_u (m_u (m_u (m_u (m_u (m_u (m_u (m_u (m_u (m_u (m_u (m_u (m_u (m_u (fun _ => 0) (Int32.toNatClampNeg 0) 0) (Int32.toNatClampNeg 1) 100) (Int32.toNatClampNeg 2) 300) (Int32.toNatClampNeg 3) 500) (Int32.toNatClampNeg 4) 800) (Int32.toNatClampNeg 5) 100) (Int32.toNatClampNeg 6) 200) (Int32.toNatClampNeg 7) 400) (Int32.toNatClampNeg 8) 600) (Int32.toNatClampNeg 9) 0) (Int32.toNatClampNeg 10) 400) (Int32.toNatClampNeg 11) 800) (Int32.toNatClampNeg 12) 1200) (Int32.toNatClampNeg 13) 1600) (Int32.toNatClampNeg 14) 0 := by rw [eJ10]; simp only [mz_u_row]; rw [show mz_z J9 d12 (0 : Int32) d12 = fun _ => 0 from if_pos rfl]
  have md12 : (d12, 1, 15) ∈ T10.1 := by rw [eT10]; exact nw_lst
  have el129 : d12 ≠ o := nd12
  intro d13 hd130
  have hd13 : ∀ x ∈ T10.1, x.1 ≠ d13 := fun x hx => hd130 x (by rw [el10] at hx; first | exact hx | (simp only [List.mem_append] at hx; exact hx))
  have nd13 : d13 ≠ o := Ne.symm (hd13 _ s10.2.2.1)
  obtain ⟨T11, eT11⟩ : ∃ t : mz_T, t = (T10.1 ++ [(d13, 1, 220)], mz_u (mz_z T10.2 d13 none) o 13 (some d13)) := ⟨_, rfl⟩
  obtain ⟨J11, eJ11⟩ : ∃ J : mz_I, J = mz_z J10 d13 0 := ⟨_, rfl⟩
  obtain ⟨L11, eL11⟩ : ∃ J : mz_L, J = mz_z L10 d13 0 := ⟨_, rfl⟩
  have w11 : n_w T10 (T10.1 ++ [(d13, 1, 220)], mz_z T10.2 d13 none) J10 J11 L10 L11 [d13] := by rw [eJ11, eL11]; exact nw_new (T0 := T10) (T := T10) (I0 := J10) (I := J10) (L0 := L10) (L := L10) (x := (1, 220)) (v := 0) (w := 0) nw_0 hd13
  have s11 := st_ar s10 w11 (by simp) eT11
  have el11 : T11.1 = T.1 ++ [(d1, 1, 268)] ++ [(d2, 1, 2)] ++ [(d3, 1, 1608)] ++ [(d5, 1, 268)] ++ [(d6, 1, 2)] ++ [(d8, 1, 7)] ++ [(d9, 1, 56)] ++ [(d10, 1, 18)] ++ [(d11, 1, 10)] ++ [(d12, 1, 15)] ++ [(d13, 1, 220)] := by rw [eT11]; exact congrArg (fun l => l ++ [(d13, 1, 220)]) el10
  have rw1 := (nw_I2 w11 md1).trans rw1
  have rw2 := (nw_I2 w11 md2).trans rw2
  have rw3 := (nw_I2 w11 md3).trans rw3
  have rw5 := (nw_I2 w11 md5).trans rw5
  have rw6 := (nw_I2 w11 md6).trans rw6
  have rw8 := (nw_I2 w11 md8).trans rw8
  have rw9 := (nw_I2 w11 md9).trans rw9
  have rw10 := (nw_I2 w11 md10).trans rw10
  have rw11 := (nw_I2 w11 md11).trans rw11
  have rw12 := (nw_I2 w11 md12).trans rw12
  have md1 := nw_mem w11 md1
  have md1 : (d1, 1, 268) ∈ T11.1 := by rw [eT11]; exact md1
  have md2 := nw_mem w11 md2
  have md2 : (d2, 1, 2) ∈ T11.1 := by rw [eT11]; exact md2
  have md3 := nw_mem w11 md3
  have md3 : (d3, 1, 1608) ∈ T11.1 := by rw [eT11]; exact md3
  have md5 := nw_mem w11 md5
  have md5 : (d5, 1, 268) ∈ T11.1 := by rw [eT11]; exact md5
  have md6 := nw_mem w11 md6
  have md6 : (d6, 1, 2) ∈ T11.1 := by rw [eT11]; exact md6
  have md8 := nw_mem w11 md8
  have md8 : (d8, 1, 7) ∈ T11.1 := by rw [eT11]; exact md8
  have md9 := nw_mem w11 md9
  have md9 : (d9, 1, 56) ∈ T11.1 := by rw [eT11]; exact md9
  have md10 := nw_mem w11 md10
  have md10 : (d10, 1, 18) ∈ T11.1 := by rw [eT11]; exact md10
  have md11 := nw_mem w11 md11
  have md11 : (d11, 1, 10) ∈ T11.1 := by rw [eT11]; exact md11
  have md12 := nw_mem w11 md12
  have md12 : (d12, 1, 15) ∈ T11.1 := by rw [eT11]; exact md12
  have rw13 : J11 d13 = fun _ => 0 := by rw [eJ11]; exact if_pos rfl
  have md13 : (d13, 1, 220) ∈ T11.1 := by rw [eT11]; exact nw_lst
  have el139 : d13 ≠ o := nd13
  intro d14 hd140
  have hd14 : ∀ x ∈ T11.1, x.1 ≠ d14 := fun x hx => hd140 x (by rw [el11] at hx; first | exact hx | (simp only [List.mem_append] at hx; exact hx))
  have nd14 : d14 ≠ o := Ne.symm (hd14 _ s11.2.2.1)
  obtain ⟨T12, eT12⟩ : ∃ t : mz_T, t = (T11.1 ++ [(d14, 1, 64)], mz_u (mz_z T11.2 d14 none) o 14 (some d14)) := ⟨_, rfl⟩
  obtain ⟨J12, eJ12⟩ : ∃ J : mz_I, J = mz_z J11 d14 0 := ⟨_, rfl⟩
  obtain ⟨L12, eL12⟩ : ∃ J : mz_L, J = mz_z L11 d14 0 := ⟨_, rfl⟩
  have w12 : n_w T11 (T11.1 ++ [(d14, 1, 64)], mz_z T11.2 d14 none) J11 J12 L11 L12 [d14] := by rw [eJ12, eL12]; exact nw_new (T0 := T11) (T := T11) (I0 := J11) (I := J11) (L0 := L11) (L := L11) (x := (1, 64)) (v := 0) (w := 0) nw_0 hd14
  have s12 := st_ar s11 w12 (by simp) eT12
  have el12 : T12.1 = T.1 ++ [(d1, 1, 268)] ++ [(d2, 1, 2)] ++ [(d3, 1, 1608)] ++ [(d5, 1, 268)] ++ [(d6, 1, 2)] ++ [(d8, 1, 7)] ++ [(d9, 1, 56)] ++ [(d10, 1, 18)] ++ [(d11, 1, 10)] ++ [(d12, 1, 15)] ++ [(d13, 1, 220)] ++ [(d14, 1, 64)] := by rw [eT12]; exact congrArg (fun l => l ++ [(d14, 1, 64)]) el11
  have rw1 := (nw_I2 w12 md1).trans rw1
  have rw2 := (nw_I2 w12 md2).trans rw2
  have rw3 := (nw_I2 w12 md3).trans rw3
  have rw5 := (nw_I2 w12 md5).trans rw5
  have rw6 := (nw_I2 w12 md6).trans rw6
  have rw8 := (nw_I2 w12 md8).trans rw8
  have rw9 := (nw_I2 w12 md9).trans rw9
  have rw10 := (nw_I2 w12 md10).trans rw10
  have rw11 := (nw_I2 w12 md11).trans rw11
  have rw12 := (nw_I2 w12 md12).trans rw12
  have rw13 := (nw_I2 w12 md13).trans rw13
  have md1 := nw_mem w12 md1
  have md1 : (d1, 1, 268) ∈ T12.1 := by rw [eT12]; exact md1
  have md2 := nw_mem w12 md2
  have md2 : (d2, 1, 2) ∈ T12.1 := by rw [eT12]; exact md2
  have md3 := nw_mem w12 md3
  have md3 : (d3, 1, 1608) ∈ T12.1 := by rw [eT12]; exact md3
  have md5 := nw_mem w12 md5
  have md5 : (d5, 1, 268) ∈ T12.1 := by rw [eT12]; exact md5
  have md6 := nw_mem w12 md6
  have md6 : (d6, 1, 2) ∈ T12.1 := by rw [eT12]; exact md6
  have md8 := nw_mem w12 md8
  have md8 : (d8, 1, 7) ∈ T12.1 := by rw [eT12]; exact md8
  have md9 := nw_mem w12 md9
  have md9 : (d9, 1, 56) ∈ T12.1 := by rw [eT12]; exact md9
  have md10 := nw_mem w12 md10
  have md10 : (d10, 1, 18) ∈ T12.1 := by rw [eT12]; exact md10
  have md11 := nw_mem w12 md11
  have md11 : (d11, 1, 10) ∈ T12.1 := by rw [eT12]; exact md11
  have md12 := nw_mem w12 md12
  have md12 : (d12, 1, 15) ∈ T12.1 := by rw [eT12]; exact md12
  have md13 := nw_mem w12 md13
  have md13 : (d13, 1, 220) ∈ T12.1 := by rw [eT12]; exact md13
  have rw14 : J12 d14 = fun _ => 0 := by rw [eJ12]; exact if_pos rfl
  have md14 : (d14, 1, 64) ∈ T12.1 := by rw [eT12]; exact nw_lst
  have el149 : d14 ≠ o := nd14
  obtain ⟨J13, eJ13⟩ : ∃ J : mz_I, J = mz_u J12 o 15 (-1) := ⟨_, rfl⟩
  have s13 := st_I2 s12 eJ13
  have rw1 := (show J13 d1 = J12 d1 by rw [eJ13]; exact mz_u_ne nd1).trans rw1
  have rw2 := (show J13 d2 = J12 d2 by rw [eJ13]; exact mz_u_ne nd2).trans rw2
  have rw3 := (show J13 d3 = J12 d3 by rw [eJ13]; exact mz_u_ne nd3).trans rw3
  have rw5 := (show J13 d5 = J12 d5 by rw [eJ13]; exact mz_u_ne nd5).trans rw5
  have rw6 := (show J13 d6 = J12 d6 by rw [eJ13]; exact mz_u_ne nd6).trans rw6
  have rw8 := (show J13 d8 = J12 d8 by rw [eJ13]; exact mz_u_ne nd8).trans rw8
  have rw9 := (show J13 d9 = J12 d9 by rw [eJ13]; exact mz_u_ne nd9).trans rw9
  have rw10 := (show J13 d10 = J12 d10 by rw [eJ13]; exact mz_u_ne nd10).trans rw10
  have rw11 := (show J13 d11 = J12 d11 by rw [eJ13]; exact mz_u_ne nd11).trans rw11
  have rw12 := (show J13 d12 = J12 d12 by rw [eJ13]; exact mz_u_ne nd12).trans rw12
  have rw13 := (show J13 d13 = J12 d13 by rw [eJ13]; exact mz_u_ne nd13).trans rw13
  have rw14 := (show J13 d14 = J12 d14 by rw [eJ13]; exact mz_u_ne nd14).trans rw14
  have el13 := el12
  intro d16 hd160
  have hd16 : ∀ x ∈ T12.1, x.1 ≠ d16 := fun x hx => hd160 x (by rw [el13] at hx; first | exact hx | (simp only [List.mem_append] at hx; exact hx))
  have nd16 : d16 ≠ o := Ne.symm (hd16 _ s13.2.2.1)
  obtain ⟨T14, eT14⟩ : ∃ t : mz_T, t = (T12.1 ++ [(d16, 4, 1792)], mz_u (mz_z T12.2 d16 none) o 16 (some d16)) := ⟨_, rfl⟩
  obtain ⟨J14, eJ14⟩ : ∃ J : mz_I, J = mz_z J13 d16 0 := ⟨_, rfl⟩
  obtain ⟨L14, eL14⟩ : ∃ J : mz_L, J = mz_z L12 d16 0 := ⟨_, rfl⟩
  have w14 : n_w T12 (T12.1 ++ [(d16, 4, 1792)], mz_z T12.2 d16 none) J13 J14 L12 L14 [d16] := by rw [eJ14, eL14]; exact nw_new (T0 := T12) (T := T12) (I0 := J13) (I := J13) (L0 := L12) (L := L12) (x := (4, 1792)) (v := 0) (w := 0) nw_0 hd16
  have s14 := st_ar s13 w14 (by simp) eT14
  have el14 : T14.1 = T.1 ++ [(d1, 1, 268)] ++ [(d2, 1, 2)] ++ [(d3, 1, 1608)] ++ [(d5, 1, 268)] ++ [(d6, 1, 2)] ++ [(d8, 1, 7)] ++ [(d9, 1, 56)] ++ [(d10, 1, 18)] ++ [(d11, 1, 10)] ++ [(d12, 1, 15)] ++ [(d13, 1, 220)] ++ [(d14, 1, 64)] ++ [(d16, 4, 1792)] := by rw [eT14]; exact congrArg (fun l => l ++ [(d16, 4, 1792)]) el13
  have rw1 := (nw_I2 w14 md1).trans rw1
  have rw2 := (nw_I2 w14 md2).trans rw2
  have rw3 := (nw_I2 w14 md3).trans rw3
  have rw5 := (nw_I2 w14 md5).trans rw5
  have rw6 := (nw_I2 w14 md6).trans rw6
  have rw8 := (nw_I2 w14 md8).trans rw8
  have rw9 := (nw_I2 w14 md9).trans rw9
  have rw10 := (nw_I2 w14 md10).trans rw10
  have rw11 := (nw_I2 w14 md11).trans rw11
  have rw12 := (nw_I2 w14 md12).trans rw12
  have rw13 := (nw_I2 w14 md13).trans rw13
  have rw14 := (nw_I2 w14 md14).trans rw14
  have md1 := nw_mem w14 md1
  have md1 : (d1, 1, 268) ∈ T14.1 := by rw [eT14]; exact md1
  have md2 := nw_mem w14 md2
  have md2 : (d2, 1, 2) ∈ T14.1 := by rw [eT14]; exact md2
  have md3 := nw_mem w14 md3
  have md3 : (d3, 1, 1608) ∈ T14.1 := by rw [eT14]; exact md3
  have md5 := nw_mem w14 md5
  have md5 : (d5, 1, 268) ∈ T14.1 := by rw [eT14]; exact md5
  have md6 := nw_mem w14 md6
  have md6 : (d6, 1, 2) ∈ T14.1 := by rw [eT14]; exact md6
  have md8 := nw_mem w14 md8
  have md8 : (d8, 1, 7) ∈ T14.1 := by rw [eT14]; exact md8
  have md9 := nw_mem w14 md9
  have md9 : (d9, 1, 56) ∈ T14.1 := by rw [eT14]; exact md9
  have md10 := nw_mem w14 md10
  have md10 : (d10, 1, 18) ∈ T14.1 := by rw [eT14]; exact md10
  have md11 := nw_mem w14 md11
  have md11 : (d11, 1, 10) ∈ T14.1 := by rw [eT14]; exact md11
  have md12 := nw_mem w14 md12
  have md12 : (d12, 1, 15) ∈ T14.1 := by rw [eT14]; exact md12
  have md13 := nw_mem w14 md13
  have md13 : (d13, 1, 220) ∈ T14.1 := by rw [eT14]; exact md13
  have md14 := nw_mem w14 md14
  have md14 : (d14, 1, 64) ∈ T14.1 := by rw [eT14]; exact md14
  have rw16 : J14 d16 = fun _ => 0 := by rw [eJ14]; exact if_pos rfl
  have md16 : (d16, 4, 1792) ∈ T14.1 := by rw [eT14]; exact nw_lst
  have el169 : d16 ≠ o := nd16
  intro d17 hd170
  have hd17 : ∀ x ∈ T14.1, x.1 ≠ d17 := fun x hx => hd170 x (by rw [el14] at hx; first | exact hx | (simp only [List.mem_append] at hx; exact hx))
  have nd17 : d17 ≠ o := Ne.symm (hd17 _ s14.2.2.1)
  obtain ⟨T15, eT15⟩ : ∃ t : mz_T, t = (T14.1 ++ [(d17, 1, 1792)], mz_u (mz_z T14.2 d17 none) o 17 (some d17)) := ⟨_, rfl⟩
  obtain ⟨J15, eJ15⟩ : ∃ J : mz_I, J = mz_z J14 d17 0 := ⟨_, rfl⟩
  obtain ⟨L15, eL15⟩ : ∃ J : mz_L, J = mz_z L14 d17 0 := ⟨_, rfl⟩
  have w15 : n_w T14 (T14.1 ++ [(d17, 1, 1792)], mz_z T14.2 d17 none) J14 J15 L14 L15 [d17] := by rw [eJ15, eL15]; exact nw_new (T0 := T14) (T := T14) (I0 := J14) (I := J14) (L0 := L14) (L := L14) (x := (1, 1792)) (v := 0) (w := 0) nw_0 hd17
  have s15 := st_ar s14 w15 (by simp) eT15
  have el15 : T15.1 = T.1 ++ [(d1, 1, 268)] ++ [(d2, 1, 2)] ++ [(d3, 1, 1608)] ++ [(d5, 1, 268)] ++ [(d6, 1, 2)] ++ [(d8, 1, 7)] ++ [(d9, 1, 56)] ++ [(d10, 1, 18)] ++ [(d11, 1, 10)] ++ [(d12, 1, 15)] ++ [(d13, 1, 220)] ++ [(d14, 1, 64)] ++ [(d16, 4, 1792)] ++ [(d17, 1, 1792)] := by rw [eT15]; exact congrArg (fun l => l ++ [(d17, 1, 1792)]) el14
  have rw1 := (nw_I2 w15 md1).trans rw1
  have rw2 := (nw_I2 w15 md2).trans rw2
  have rw3 := (nw_I2 w15 md3).trans rw3
  have rw5 := (nw_I2 w15 md5).trans rw5
  have rw6 := (nw_I2 w15 md6).trans rw6
  have rw8 := (nw_I2 w15 md8).trans rw8
  have rw9 := (nw_I2 w15 md9).trans rw9
  have rw10 := (nw_I2 w15 md10).trans rw10
  have rw11 := (nw_I2 w15 md11).trans rw11
  have rw12 := (nw_I2 w15 md12).trans rw12
  have rw13 := (nw_I2 w15 md13).trans rw13
  have rw14 := (nw_I2 w15 md14).trans rw14
  have rw16 := (nw_I2 w15 md16).trans rw16
  have md1 := nw_mem w15 md1
  have md1 : (d1, 1, 268) ∈ T15.1 := by rw [eT15]; exact md1
  have md2 := nw_mem w15 md2
  have md2 : (d2, 1, 2) ∈ T15.1 := by rw [eT15]; exact md2
  have md3 := nw_mem w15 md3
  have md3 : (d3, 1, 1608) ∈ T15.1 := by rw [eT15]; exact md3
  have md5 := nw_mem w15 md5
  have md5 : (d5, 1, 268) ∈ T15.1 := by rw [eT15]; exact md5
  have md6 := nw_mem w15 md6
  have md6 : (d6, 1, 2) ∈ T15.1 := by rw [eT15]; exact md6
  have md8 := nw_mem w15 md8
  have md8 : (d8, 1, 7) ∈ T15.1 := by rw [eT15]; exact md8
  have md9 := nw_mem w15 md9
  have md9 : (d9, 1, 56) ∈ T15.1 := by rw [eT15]; exact md9
  have md10 := nw_mem w15 md10
  have md10 : (d10, 1, 18) ∈ T15.1 := by rw [eT15]; exact md10
  have md11 := nw_mem w15 md11
  have md11 : (d11, 1, 10) ∈ T15.1 := by rw [eT15]; exact md11
  have md12 := nw_mem w15 md12
  have md12 : (d12, 1, 15) ∈ T15.1 := by rw [eT15]; exact md12
  have md13 := nw_mem w15 md13
  have md13 : (d13, 1, 220) ∈ T15.1 := by rw [eT15]; exact md13
  have md14 := nw_mem w15 md14
  have md14 : (d14, 1, 64) ∈ T15.1 := by rw [eT15]; exact md14
  have md16 := nw_mem w15 md16
  have md16 : (d16, 4, 1792) ∈ T15.1 := by rw [eT15]; exact md16
  have rw17 : J15 d17 = fun _ => 0 := by rw [eJ15]; exact if_pos rfl
  have md17 : (d17, 1, 1792) ∈ T15.1 := by rw [eT15]; exact nw_lst
  have el179 : d17 ≠ o := nd17
  intro d19 hd190
  have hd19 : ∀ x ∈ T15.1, x.1 ≠ d19 := fun x hx => hd190 x (by rw [el15] at hx; first | exact hx | (simp only [List.mem_append] at hx; exact hx))
  have nd19 : d19 ≠ o := Ne.symm (hd19 _ s15.2.2.1)
  obtain ⟨T16, eT16⟩ : ∃ t : mz_T, t = (T15.1 ++ [(d19, 1, 8000)], mz_u (mz_z T15.2 d19 none) o 19 (some d19)) := ⟨_, rfl⟩
  obtain ⟨J16, eJ16⟩ : ∃ J : mz_I, J = mz_z J15 d19 0 := ⟨_, rfl⟩
  obtain ⟨L16, eL16⟩ : ∃ J : mz_L, J = mz_z L15 d19 0 := ⟨_, rfl⟩
  have w16 : n_w T15 (T15.1 ++ [(d19, 1, 8000)], mz_z T15.2 d19 none) J15 J16 L15 L16 [d19] := by rw [eJ16, eL16]; exact nw_new (T0 := T15) (T := T15) (I0 := J15) (I := J15) (L0 := L15) (L := L15) (x := (1, 8000)) (v := 0) (w := 0) nw_0 hd19
  have s16 := st_ar s15 w16 (by simp) eT16
  have el16 : T16.1 = T.1 ++ [(d1, 1, 268)] ++ [(d2, 1, 2)] ++ [(d3, 1, 1608)] ++ [(d5, 1, 268)] ++ [(d6, 1, 2)] ++ [(d8, 1, 7)] ++ [(d9, 1, 56)] ++ [(d10, 1, 18)] ++ [(d11, 1, 10)] ++ [(d12, 1, 15)] ++ [(d13, 1, 220)] ++ [(d14, 1, 64)] ++ [(d16, 4, 1792)] ++ [(d17, 1, 1792)] ++ [(d19, 1, 8000)] := by rw [eT16]; exact congrArg (fun l => l ++ [(d19, 1, 8000)]) el15
  have rw1 := (nw_I2 w16 md1).trans rw1
  have rw2 := (nw_I2 w16 md2).trans rw2
  have rw3 := (nw_I2 w16 md3).trans rw3
  have rw5 := (nw_I2 w16 md5).trans rw5
  have rw6 := (nw_I2 w16 md6).trans rw6
  have rw8 := (nw_I2 w16 md8).trans rw8
  have rw9 := (nw_I2 w16 md9).trans rw9
  have rw10 := (nw_I2 w16 md10).trans rw10
  have rw11 := (nw_I2 w16 md11).trans rw11
  have rw12 := (nw_I2 w16 md12).trans rw12
  have rw13 := (nw_I2 w16 md13).trans rw13
  have rw14 := (nw_I2 w16 md14).trans rw14
  have rw16 := (nw_I2 w16 md16).trans rw16
  have rw17 := (nw_I2 w16 md17).trans rw17
  have md1 := nw_mem w16 md1
  have md1 : (d1, 1, 268) ∈ T16.1 := by rw [eT16]; exact md1
  have md2 := nw_mem w16 md2
  have md2 : (d2, 1, 2) ∈ T16.1 := by rw [eT16]; exact md2
  have md3 := nw_mem w16 md3
  have md3 : (d3, 1, 1608) ∈ T16.1 := by rw [eT16]; exact md3
  have md5 := nw_mem w16 md5
  have md5 : (d5, 1, 268) ∈ T16.1 := by rw [eT16]; exact md5
  have md6 := nw_mem w16 md6
  have md6 : (d6, 1, 2) ∈ T16.1 := by rw [eT16]; exact md6
  have md8 := nw_mem w16 md8
  have md8 : (d8, 1, 7) ∈ T16.1 := by rw [eT16]; exact md8
  have md9 := nw_mem w16 md9
  have md9 : (d9, 1, 56) ∈ T16.1 := by rw [eT16]; exact md9
  have md10 := nw_mem w16 md10
  have md10 : (d10, 1, 18) ∈ T16.1 := by rw [eT16]; exact md10
  have md11 := nw_mem w16 md11
  have md11 : (d11, 1, 10) ∈ T16.1 := by rw [eT16]; exact md11
  have md12 := nw_mem w16 md12
  have md12 : (d12, 1, 15) ∈ T16.1 := by rw [eT16]; exact md12
  have md13 := nw_mem w16 md13
  have md13 : (d13, 1, 220) ∈ T16.1 := by rw [eT16]; exact md13
  have md14 := nw_mem w16 md14
  have md14 : (d14, 1, 64) ∈ T16.1 := by rw [eT16]; exact md14
  have md16 := nw_mem w16 md16
  have md16 : (d16, 4, 1792) ∈ T16.1 := by rw [eT16]; exact md16
  have md17 := nw_mem w16 md17
  have md17 : (d17, 1, 1792) ∈ T16.1 := by rw [eT16]; exact md17
  have rw19 : J16 d19 = fun _ => 0 := by rw [eJ16]; exact if_pos rfl
  have md19 : (d19, 1, 8000) ∈ T16.1 := by rw [eT16]; exact nw_lst
  have el199 : d19 ≠ o := nd19
  intro d20 hd200
  have hd20 : ∀ x ∈ T16.1, x.1 ≠ d20 := fun x hx => hd200 x (by rw [el16] at hx; first | exact hx | (simp only [List.mem_append] at hx; exact hx))
  have nd20 : d20 ≠ o := Ne.symm (hd20 _ s16.2.2.1)
  obtain ⟨T17, eT17⟩ : ∃ t : mz_T, t = (T16.1 ++ [(d20, 1, 3000)], mz_u (mz_z T16.2 d20 none) o 20 (some d20)) := ⟨_, rfl⟩
  obtain ⟨J17, eJ17⟩ : ∃ J : mz_I, J = mz_z J16 d20 0 := ⟨_, rfl⟩
  obtain ⟨L17, eL17⟩ : ∃ J : mz_L, J = mz_z L16 d20 0 := ⟨_, rfl⟩
  have w17 : n_w T16 (T16.1 ++ [(d20, 1, 3000)], mz_z T16.2 d20 none) J16 J17 L16 L17 [d20] := by rw [eJ17, eL17]; exact nw_new (T0 := T16) (T := T16) (I0 := J16) (I := J16) (L0 := L16) (L := L16) (x := (1, 3000)) (v := 0) (w := 0) nw_0 hd20
  have s17 := st_ar s16 w17 (by simp) eT17
  have el17 : T17.1 = T.1 ++ [(d1, 1, 268)] ++ [(d2, 1, 2)] ++ [(d3, 1, 1608)] ++ [(d5, 1, 268)] ++ [(d6, 1, 2)] ++ [(d8, 1, 7)] ++ [(d9, 1, 56)] ++ [(d10, 1, 18)] ++ [(d11, 1, 10)] ++ [(d12, 1, 15)] ++ [(d13, 1, 220)] ++ [(d14, 1, 64)] ++ [(d16, 4, 1792)] ++ [(d17, 1, 1792)] ++ [(d19, 1, 8000)] ++ [(d20, 1, 3000)] := by rw [eT17]; exact congrArg (fun l => l ++ [(d20, 1, 3000)]) el16
  have rw1 := (nw_I2 w17 md1).trans rw1
  have rw2 := (nw_I2 w17 md2).trans rw2
  have rw3 := (nw_I2 w17 md3).trans rw3
  have rw5 := (nw_I2 w17 md5).trans rw5
  have rw6 := (nw_I2 w17 md6).trans rw6
  have rw8 := (nw_I2 w17 md8).trans rw8
  have rw9 := (nw_I2 w17 md9).trans rw9
  have rw10 := (nw_I2 w17 md10).trans rw10
  have rw11 := (nw_I2 w17 md11).trans rw11
  have rw12 := (nw_I2 w17 md12).trans rw12
  have rw13 := (nw_I2 w17 md13).trans rw13
  have rw14 := (nw_I2 w17 md14).trans rw14
  have rw16 := (nw_I2 w17 md16).trans rw16
  have rw17 := (nw_I2 w17 md17).trans rw17
  have rw19 := (nw_I2 w17 md19).trans rw19
  have md1 := nw_mem w17 md1
  have md1 : (d1, 1, 268) ∈ T17.1 := by rw [eT17]; exact md1
  have md2 := nw_mem w17 md2
  have md2 : (d2, 1, 2) ∈ T17.1 := by rw [eT17]; exact md2
  have md3 := nw_mem w17 md3
  have md3 : (d3, 1, 1608) ∈ T17.1 := by rw [eT17]; exact md3
  have md5 := nw_mem w17 md5
  have md5 : (d5, 1, 268) ∈ T17.1 := by rw [eT17]; exact md5
  have md6 := nw_mem w17 md6
  have md6 : (d6, 1, 2) ∈ T17.1 := by rw [eT17]; exact md6
  have md8 := nw_mem w17 md8
  have md8 : (d8, 1, 7) ∈ T17.1 := by rw [eT17]; exact md8
  have md9 := nw_mem w17 md9
  have md9 : (d9, 1, 56) ∈ T17.1 := by rw [eT17]; exact md9
  have md10 := nw_mem w17 md10
  have md10 : (d10, 1, 18) ∈ T17.1 := by rw [eT17]; exact md10
  have md11 := nw_mem w17 md11
  have md11 : (d11, 1, 10) ∈ T17.1 := by rw [eT17]; exact md11
  have md12 := nw_mem w17 md12
  have md12 : (d12, 1, 15) ∈ T17.1 := by rw [eT17]; exact md12
  have md13 := nw_mem w17 md13
  have md13 : (d13, 1, 220) ∈ T17.1 := by rw [eT17]; exact md13
  have md14 := nw_mem w17 md14
  have md14 : (d14, 1, 64) ∈ T17.1 := by rw [eT17]; exact md14
  have md16 := nw_mem w17 md16
  have md16 : (d16, 4, 1792) ∈ T17.1 := by rw [eT17]; exact md16
  have md17 := nw_mem w17 md17
  have md17 : (d17, 1, 1792) ∈ T17.1 := by rw [eT17]; exact md17
  have md19 := nw_mem w17 md19
  have md19 : (d19, 1, 8000) ∈ T17.1 := by rw [eT17]; exact md19
  have rw20 : J17 d20 = fun _ => 0 := by rw [eJ17]; exact if_pos rfl
  have md20 : (d20, 1, 3000) ∈ T17.1 := by rw [eT17]; exact nw_lst
  have el209 : d20 ≠ o := nd20
  intro d22 hd220
  have hd22 : ∀ x ∈ T17.1, x.1 ≠ d22 := fun x hx => hd220 x (by rw [el17] at hx; first | exact hx | (simp only [List.mem_append] at hx; exact hx))
  have nd22 : d22 ≠ o := Ne.symm (hd22 _ s17.2.2.1)
  obtain ⟨T18, eT18⟩ : ∃ t : mz_T, t = (T17.1 ++ [(d22, 1, 4)], mz_u (mz_z T17.2 d22 none) o 22 (some d22)) := ⟨_, rfl⟩
  obtain ⟨J18, eJ18⟩ : ∃ J : mz_I, J = mz_z J17 d22 0 := ⟨_, rfl⟩
  obtain ⟨L18, eL18⟩ : ∃ J : mz_L, J = mz_z L17 d22 0 := ⟨_, rfl⟩
  have w18 : n_w T17 (T17.1 ++ [(d22, 1, 4)], mz_z T17.2 d22 none) J17 J18 L17 L18 [d22] := by rw [eJ18, eL18]; exact nw_new (T0 := T17) (T := T17) (I0 := J17) (I := J17) (L0 := L17) (L := L17) (x := (1, 4)) (v := 0) (w := 0) nw_0 hd22
  have s18 := st_ar s17 w18 (by simp) eT18
  have el18 : T18.1 = T.1 ++ [(d1, 1, 268)] ++ [(d2, 1, 2)] ++ [(d3, 1, 1608)] ++ [(d5, 1, 268)] ++ [(d6, 1, 2)] ++ [(d8, 1, 7)] ++ [(d9, 1, 56)] ++ [(d10, 1, 18)] ++ [(d11, 1, 10)] ++ [(d12, 1, 15)] ++ [(d13, 1, 220)] ++ [(d14, 1, 64)] ++ [(d16, 4, 1792)] ++ [(d17, 1, 1792)] ++ [(d19, 1, 8000)] ++ [(d20, 1, 3000)] ++ [(d22, 1, 4)] := by rw [eT18]; exact congrArg (fun l => l ++ [(d22, 1, 4)]) el17
  have rw1 := (nw_I2 w18 md1).trans rw1
  have rw2 := (nw_I2 w18 md2).trans rw2
  have rw3 := (nw_I2 w18 md3).trans rw3
  have rw5 := (nw_I2 w18 md5).trans rw5
  have rw6 := (nw_I2 w18 md6).trans rw6
  have rw8 := (nw_I2 w18 md8).trans rw8
  have rw9 := (nw_I2 w18 md9).trans rw9
  have rw10 := (nw_I2 w18 md10).trans rw10
  have rw11 := (nw_I2 w18 md11).trans rw11
  have rw12 := (nw_I2 w18 md12).trans rw12
  have rw13 := (nw_I2 w18 md13).trans rw13
  have rw14 := (nw_I2 w18 md14).trans rw14
  have rw16 := (nw_I2 w18 md16).trans rw16
  have rw17 := (nw_I2 w18 md17).trans rw17
  have rw19 := (nw_I2 w18 md19).trans rw19
  have rw20 := (nw_I2 w18 md20).trans rw20
  have md1 := nw_mem w18 md1
  have md1 : (d1, 1, 268) ∈ T18.1 := by rw [eT18]; exact md1
  have md2 := nw_mem w18 md2
  have md2 : (d2, 1, 2) ∈ T18.1 := by rw [eT18]; exact md2
  have md3 := nw_mem w18 md3
  have md3 : (d3, 1, 1608) ∈ T18.1 := by rw [eT18]; exact md3
  have md5 := nw_mem w18 md5
  have md5 : (d5, 1, 268) ∈ T18.1 := by rw [eT18]; exact md5
  have md6 := nw_mem w18 md6
  have md6 : (d6, 1, 2) ∈ T18.1 := by rw [eT18]; exact md6
  have md8 := nw_mem w18 md8
  have md8 : (d8, 1, 7) ∈ T18.1 := by rw [eT18]; exact md8
  have md9 := nw_mem w18 md9
  have md9 : (d9, 1, 56) ∈ T18.1 := by rw [eT18]; exact md9
  have md10 := nw_mem w18 md10
  have md10 : (d10, 1, 18) ∈ T18.1 := by rw [eT18]; exact md10
  have md11 := nw_mem w18 md11
  have md11 : (d11, 1, 10) ∈ T18.1 := by rw [eT18]; exact md11
  have md12 := nw_mem w18 md12
  have md12 : (d12, 1, 15) ∈ T18.1 := by rw [eT18]; exact md12
  have md13 := nw_mem w18 md13
  have md13 : (d13, 1, 220) ∈ T18.1 := by rw [eT18]; exact md13
  have md14 := nw_mem w18 md14
  have md14 : (d14, 1, 64) ∈ T18.1 := by rw [eT18]; exact md14
  have md16 := nw_mem w18 md16
  have md16 : (d16, 4, 1792) ∈ T18.1 := by rw [eT18]; exact md16
  have md17 := nw_mem w18 md17
  have md17 : (d17, 1, 1792) ∈ T18.1 := by rw [eT18]; exact md17
  have md19 := nw_mem w18 md19
  have md19 : (d19, 1, 8000) ∈ T18.1 := by rw [eT18]; exact md19
  have md20 := nw_mem w18 md20
  have md20 : (d20, 1, 3000) ∈ T18.1 := by rw [eT18]; exact md20
  have rw22 : J18 d22 = fun _ => 0 := by rw [eJ18]; exact if_pos rfl
  have md22 : (d22, 1, 4) ∈ T18.1 := by rw [eT18]; exact nw_lst
  have el229 : d22 ≠ o := nd22
  intro d23 hd230
  have hd23 : ∀ x ∈ T18.1, x.1 ≠ d23 := fun x hx => hd230 x (by rw [el18] at hx; first | exact hx | (simp only [List.mem_append] at hx; exact hx))
  have nd23 : d23 ≠ o := Ne.symm (hd23 _ s18.2.2.1)
  obtain ⟨T19, eT19⟩ : ∃ t : mz_T, t = (T18.1 ++ [(d23, 5, 60)], mz_u (mz_z T18.2 d23 none) o 23 (some d23)) := ⟨_, rfl⟩
  obtain ⟨J19, eJ19⟩ : ∃ J : mz_I, J = mz_z J18 d23 0 := ⟨_, rfl⟩
  obtain ⟨L19, eL19⟩ : ∃ J : mz_L, J = mz_z L18 d23 0 := ⟨_, rfl⟩
  have w19 : n_w T18 (T18.1 ++ [(d23, 5, 60)], mz_z T18.2 d23 none) J18 J19 L18 L19 [d23] := by rw [eJ19, eL19]; exact nw_new (T0 := T18) (T := T18) (I0 := J18) (I := J18) (L0 := L18) (L := L18) (x := (5, 60)) (v := 0) (w := 0) nw_0 hd23
  have s19 := st_ar s18 w19 (by simp) eT19
  have el19 : T19.1 = T.1 ++ [(d1, 1, 268)] ++ [(d2, 1, 2)] ++ [(d3, 1, 1608)] ++ [(d5, 1, 268)] ++ [(d6, 1, 2)] ++ [(d8, 1, 7)] ++ [(d9, 1, 56)] ++ [(d10, 1, 18)] ++ [(d11, 1, 10)] ++ [(d12, 1, 15)] ++ [(d13, 1, 220)] ++ [(d14, 1, 64)] ++ [(d16, 4, 1792)] ++ [(d17, 1, 1792)] ++ [(d19, 1, 8000)] ++ [(d20, 1, 3000)] ++ [(d22, 1, 4)] ++ [(d23, 5, 60)] := by rw [eT19]; exact congrArg (fun l => l ++ [(d23, 5, 60)]) el18
  have rw1 := (nw_I2 w19 md1).trans rw1
  have rw2 := (nw_I2 w19 md2).trans rw2
  have rw3 := (nw_I2 w19 md3).trans rw3
  have rw5 := (nw_I2 w19 md5).trans rw5
  have rw6 := (nw_I2 w19 md6).trans rw6
  have rw8 := (nw_I2 w19 md8).trans rw8
  have rw9 := (nw_I2 w19 md9).trans rw9
  have rw10 := (nw_I2 w19 md10).trans rw10
  have rw11 := (nw_I2 w19 md11).trans rw11
  have rw12 := (nw_I2 w19 md12).trans rw12
  have rw13 := (nw_I2 w19 md13).trans rw13
  have rw14 := (nw_I2 w19 md14).trans rw14
  have rw16 := (nw_I2 w19 md16).trans rw16
  have rw17 := (nw_I2 w19 md17).trans rw17
  have rw19 := (nw_I2 w19 md19).trans rw19
  have rw20 := (nw_I2 w19 md20).trans rw20
  have rw22 := (nw_I2 w19 md22).trans rw22
  have md1 := nw_mem w19 md1
  have md1 : (d1, 1, 268) ∈ T19.1 := by rw [eT19]; exact md1
  have md2 := nw_mem w19 md2
  have md2 : (d2, 1, 2) ∈ T19.1 := by rw [eT19]; exact md2
  have md3 := nw_mem w19 md3
  have md3 : (d3, 1, 1608) ∈ T19.1 := by rw [eT19]; exact md3
  have md5 := nw_mem w19 md5
  have md5 : (d5, 1, 268) ∈ T19.1 := by rw [eT19]; exact md5
  have md6 := nw_mem w19 md6
  have md6 : (d6, 1, 2) ∈ T19.1 := by rw [eT19]; exact md6
  have md8 := nw_mem w19 md8
  have md8 : (d8, 1, 7) ∈ T19.1 := by rw [eT19]; exact md8
  have md9 := nw_mem w19 md9
  have md9 : (d9, 1, 56) ∈ T19.1 := by rw [eT19]; exact md9
  have md10 := nw_mem w19 md10
  have md10 : (d10, 1, 18) ∈ T19.1 := by rw [eT19]; exact md10
  have md11 := nw_mem w19 md11
  have md11 : (d11, 1, 10) ∈ T19.1 := by rw [eT19]; exact md11
  have md12 := nw_mem w19 md12
  have md12 : (d12, 1, 15) ∈ T19.1 := by rw [eT19]; exact md12
  have md13 := nw_mem w19 md13
  have md13 : (d13, 1, 220) ∈ T19.1 := by rw [eT19]; exact md13
  have md14 := nw_mem w19 md14
  have md14 : (d14, 1, 64) ∈ T19.1 := by rw [eT19]; exact md14
  have md16 := nw_mem w19 md16
  have md16 : (d16, 4, 1792) ∈ T19.1 := by rw [eT19]; exact md16
  have md17 := nw_mem w19 md17
  have md17 : (d17, 1, 1792) ∈ T19.1 := by rw [eT19]; exact md17
  have md19 := nw_mem w19 md19
  have md19 : (d19, 1, 8000) ∈ T19.1 := by rw [eT19]; exact md19
  have md20 := nw_mem w19 md20
  have md20 : (d20, 1, 3000) ∈ T19.1 := by rw [eT19]; exact md20
  have md22 := nw_mem w19 md22
  have md22 : (d22, 1, 4) ∈ T19.1 := by rw [eT19]; exact md22
  have rw23 : J19 d23 = fun _ => 0 := by rw [eJ19]; exact if_pos rfl
  have md23 : (d23, 5, 60) ∈ T19.1 := by rw [eT19]; exact nw_lst
  have el239 : d23 ≠ o := nd23
  obtain ⟨J20, eJ20⟩ : ∃ J : mz_I, J = mz_u J19 o 25 (-1) := ⟨_, rfl⟩
  have s20 := st_I2 s19 eJ20
  have rw1 := (show J20 d1 = J19 d1 by rw [eJ20]; exact mz_u_ne nd1).trans rw1
  have rw2 := (show J20 d2 = J19 d2 by rw [eJ20]; exact mz_u_ne nd2).trans rw2
  have rw3 := (show J20 d3 = J19 d3 by rw [eJ20]; exact mz_u_ne nd3).trans rw3
  have rw5 := (show J20 d5 = J19 d5 by rw [eJ20]; exact mz_u_ne nd5).trans rw5
  have rw6 := (show J20 d6 = J19 d6 by rw [eJ20]; exact mz_u_ne nd6).trans rw6
  have rw8 := (show J20 d8 = J19 d8 by rw [eJ20]; exact mz_u_ne nd8).trans rw8
  have rw9 := (show J20 d9 = J19 d9 by rw [eJ20]; exact mz_u_ne nd9).trans rw9
  have rw10 := (show J20 d10 = J19 d10 by rw [eJ20]; exact mz_u_ne nd10).trans rw10
  have rw11 := (show J20 d11 = J19 d11 by rw [eJ20]; exact mz_u_ne nd11).trans rw11
  have rw12 := (show J20 d12 = J19 d12 by rw [eJ20]; exact mz_u_ne nd12).trans rw12
  have rw13 := (show J20 d13 = J19 d13 by rw [eJ20]; exact mz_u_ne nd13).trans rw13
  have rw14 := (show J20 d14 = J19 d14 by rw [eJ20]; exact mz_u_ne nd14).trans rw14
  have rw16 := (show J20 d16 = J19 d16 by rw [eJ20]; exact mz_u_ne nd16).trans rw16
  have rw17 := (show J20 d17 = J19 d17 by rw [eJ20]; exact mz_u_ne nd17).trans rw17
  have rw19 := (show J20 d19 = J19 d19 by rw [eJ20]; exact mz_u_ne nd19).trans rw19
  have rw20 := (show J20 d20 = J19 d20 by rw [eJ20]; exact mz_u_ne nd20).trans rw20
  have rw22 := (show J20 d22 = J19 d22 by rw [eJ20]; exact mz_u_ne nd22).trans rw22
  have rw23 := (show J20 d23 = J19 d23 by rw [eJ20]; exact mz_u_ne nd23).trans rw23
  have el20 := el19
  have key : ∀ K9 : mz_K, (∀ T I L, K none T I L → K9 none T I L) → ∀ T9 I9 L9, T9 = T19 → I9 = J20 → L9 = L19 → mz_Ctr G M_X12_begins [.ref o, .int 1] T9 I9 L9 K9 := by
    intro K9 hK9 T9 I9 L9 x1 x2 x3
    rw [x1, x2, x3]
    refine mz_apartC fun hU => ?_
    have hD : ∃ D : Nat → Nat, D = (fun j => [o, d1, d2, d3, 0, d5, d6, 0, d8, d9, d10, d11, d12, d13, d14, 0, d16, d17, 0, d19, d20, 0, d22, d23].getD j 0) := ⟨_, rfl⟩
    obtain ⟨D, eD⟩ := hD
    have hM : p_Mo T19 D := by
      rw [eD]
      exact ⟨s20.2.2.1, ⟨s20.2.2.2.1 (1, d1) (by simp), s20.2.2.2.1 (2, d2) (by simp), s20.2.2.2.1 (3, d3) (by simp), s20.2.2.2.1 (5, d5) (by simp), s20.2.2.2.1 (6, d6) (by simp), s20.2.2.2.1 (8, d8) (by simp), s20.2.2.2.1 (9, d9) (by simp), s20.2.2.2.1 (10, d10) (by simp), s20.2.2.2.1 (11, d11) (by simp), s20.2.2.2.1 (12, d12) (by simp), s20.2.2.2.1 (13, d13) (by simp), s20.2.2.2.1 (14, d14) (by simp), s20.2.2.2.1 (16, d16) (by simp), s20.2.2.2.1 (17, d17) (by simp), s20.2.2.2.1 (19, d19) (by simp), s20.2.2.2.1 (20, d20) (by simp), s20.2.2.2.1 (22, d22) (by simp), s20.2.2.2.1 (23, d23) (by simp)⟩, ⟨md1, md2, md3, md5, md6, md8, md9, md10, md11, md12, md13, md14, md16, md17, md19, md20, md22, md23⟩, ⟨k15, k26⟩⟩
    have eo : J20 o = m_u (m_u (I o) 15 (-1)) 25 (-1) := s20.2.2.2.2
    have z : ∀ i, i ≠ 15 → i ≠ 25 → J20 (D 0) i = 0 := fun i a b => by
      rw [eD]; show J20 o i = 0
      rw [eo, m_u_ne b, m_u_ne a]; exact hz i
    have z15 : J20 (D 0) 15 = -1 := by
      rw [eD]; show J20 o 15 = -1
      rw [eo, m_u_ne (by decide), m_u_eq]
    have z25 : J20 (D 0) 25 = -1 := by
      rw [eD]; show J20 o 25 = -1
      rw [eo, m_u_eq]
    have hMc : p_Mc J20 D := by
      rw [eD]
      exact ⟨(fun i hi => by show J20 d8 i = _; rw [rw8]; exact (by decide +kernel : ∀ i, i < 7 → (m_u (m_u (m_u (m_u (m_u (m_u (m_u (fun _ => 0) (Int32.toNatClampNeg 0) 4) (Int32.toNatClampNeg 1) 2) (Int32.toNatClampNeg 2) 3) (Int32.toNatClampNeg 3) 3) (Int32.toNatClampNeg 4) 3) (Int32.toNatClampNeg 5) 3) (Int32.toNatClampNeg 6) 3) i = d_box.getD i 0) i hi), (fun i hi => by show J20 d9 i = _; rw [rw9]; exact (by decide +kernel : ∀ i, i < 56 → (m_u (m_u (m_u (m_u (m_u (m_u (m_u (m_u (m_u (m_u (m_u (m_u (m_u (m_u (m_u (m_u (m_u (m_u (m_u (m_u (m_u (m_u (m_u (m_u (m_u (m_u (m_u (m_u (m_u (m_u (m_u (m_u (m_u (m_u (m_u (m_u (m_u (m_u (m_u (m_u (m_u (m_u (m_u (m_u (m_u (m_u (m_u (m_u (m_u (m_u (m_u (m_u (m_u (m_u (m_u (m_u (fun _ => 0) (Int32.toNatClampNeg 0) 0) (Int32.toNatClampNeg 1) 2) (Int32.toNatClampNeg 2) 1) (Int32.toNatClampNeg 3) 2) (Int32.toNatClampNeg 4) 2) (Int32.toNatClampNeg 5) 2) (Int32.toNatClampNeg 6) 3) (Int32.toNatClampNeg 7) 2) (Int32.toNatClampNeg 8) 0) (Int32.toNatClampNeg 9) 0) (Int32.toNatClampNeg 10) 1) (Int32.toNatClampNeg 11) 0) (Int32.toNatClampNeg 12) 0) (Int32.toNatClampNeg 13) 1) (Int32.toNatClampNeg 14) 1) (Int32.toNatClampNeg 15) 1) (Int32.toNatClampNeg 16) 0) (Int32.toNatClampNeg 17) 1) (Int32.toNatClampNeg 18) 1) (Int32.toNatClampNeg 19) 1) (Int32.toNatClampNeg 20) 2) (Int32.toNatClampNeg 21) 1) (Int32.toNatClampNeg 22) 1) (Int32.toNatClampNeg 23) 2) (Int32.toNatClampNeg 24) 0) (Int32.toNatClampNeg 25) 1) (Int32.toNatClampNeg 26) 1) (Int32.toNatClampNeg 27) 1) (Int32.toNatClampNeg 28) 1) (Int32.toNatClampNeg 29) 2) (Int32.toNatClampNeg 30) 2) (Int32.toNatClampNeg 31) 2) (Int32.toNatClampNeg 32) 1) (Int32.toNatClampNeg 33) 1) (Int32.toNatClampNeg 34) 2) (Int32.toNatClampNeg 35) 1) (Int32.toNatClampNeg 36) 0) (Int32.toNatClampNeg 37) 2) (Int32.toNatClampNeg 38) 1) (Int32.toNatClampNeg 39) 2) (Int32.toNatClampNeg 40) 0) (Int32.toNatClampNeg 41) 1) (Int32.toNatClampNeg 42) 1) (Int32.toNatClampNeg 43) 1) (Int32.toNatClampNeg 44) 2) (Int32.toNatClampNeg 45) 1) (Int32.toNatClampNeg 46) 0) (Int32.toNatClampNeg 47) 2) (Int32.toNatClampNeg 48) 0) (Int32.toNatClampNeg 49) 1) (Int32.toNatClampNeg 50) 1) (Int32.toNatClampNeg 51) 1) (Int32.toNatClampNeg 52) 2) (Int32.toNatClampNeg 53) 1) (Int32.toNatClampNeg 54) 2) (Int32.toNatClampNeg 55) 2) i = d_shp.getD i 0) i hi), (fun i hi => by show J20 d10 i = _; rw [rw10]; exact (by decide +kernel : ∀ i, i < 18 → (m_u (m_u (m_u (m_u (m_u (m_u (m_u (m_u (m_u (m_u (m_u (m_u (m_u (m_u (m_u (m_u (m_u (m_u (fun _ => 0) (Int32.toNatClampNeg 0) 0) (Int32.toNatClampNeg 1) 0) (Int32.toNatClampNeg 2) (-1)) (Int32.toNatClampNeg 3) 0) (Int32.toNatClampNeg 4) 1) (Int32.toNatClampNeg 5) 0) (Int32.toNatClampNeg 6) 0) (Int32.toNatClampNeg 7) 1) (Int32.toNatClampNeg 8) (-1)) (Int32.toNatClampNeg 9) 1) (Int32.toNatClampNeg 10) 1) (Int32.toNatClampNeg 11) 1) (Int32.toNatClampNeg 12) 0) (Int32.toNatClampNeg 13) (-1)) (Int32.toNatClampNeg 14) (-2)) (Int32.toNatClampNeg 15) 0) (Int32.toNatClampNeg 16) 2) (Int32.toNatClampNeg 17) 0) i = mz_KICKS.getD i 0) i hi), (fun i hi => by show J20 d11 i = _; rw [rw11]; exact (by decide +kernel : ∀ i, i < 10 → (m_u (m_u (m_u (m_u (m_u (m_u (m_u (m_u (m_u (m_u (fun _ => 0) (Int32.toNatClampNeg 0) 0) (Int32.toNatClampNeg 1) 0) (Int32.toNatClampNeg 2) (-2)) (Int32.toNatClampNeg 3) 0) (Int32.toNatClampNeg 4) 2) (Int32.toNatClampNeg 5) 0) (Int32.toNatClampNeg 6) 0) (Int32.toNatClampNeg 7) 2) (Int32.toNatClampNeg 8) 0) (Int32.toNatClampNeg 9) (-1)) i = mz_LONGS.getD i 0) i hi), (fun i hi => by show J20 d12 i = _; rw [rw12]; exact (by decide +kernel : ∀ i, i < 15 → (m_u (m_u (m_u (m_u (m_u (m_u (m_u (m_u (m_u (m_u (m_u (m_u (m_u (m_u (m_u (fun _ => 0) (Int32.toNatClampNeg 0) 0) (Int32.toNatClampNeg 1) 100) (Int32.toNatClampNeg 2) 300) (Int32.toNatClampNeg 3) 500) (Int32.toNatClampNeg 4) 800) (Int32.toNatClampNeg 5) 100) (Int32.toNatClampNeg 6) 200) (Int32.toNatClampNeg 7) 400) (Int32.toNatClampNeg 8) 600) (Int32.toNatClampNeg 9) 0) (Int32.toNatClampNeg 10) 400) (Int32.toNatClampNeg 11) 800) (Int32.toNatClampNeg 12) 1200) (Int32.toNatClampNeg 13) 1600) (Int32.toNatClampNeg 14) 0) i = mz_POINTS.getD i 0) i hi)⟩
    have h2 : J20 (D 2) 0 = 5 ∧ J20 (D 2) 1 = 8 := by
      rw [eD]
      show J20 d2 0 = 5 ∧ J20 d2 1 = 8
      rw [rw2]
      decide +kernel
    have hS : ∀ cs, r_S J20 D (J20 (D 1), 0, d_rr J20 D) false (J20 (D 5)) (J20 (D 6) 0) (J20 (D 6) 1) 5 8 0 cs (-1) := fun cs =>
      ⟨⟨hMc, Or.inl z15⟩, ⟨rfl, z 4 (by decide) (by decide), Nat.zero_le _, fun i j hi => absurd hi (Nat.not_lt_zero _)⟩, ⟨z 7 (by decide) (by decide), fun _ _ => rfl, rfl, rfl⟩, h2, ⟨z 24 (by decide) (by decide), Nat.zero_le _, fun i hi => absurd hi (Nat.not_lt_zero _), z25⟩⟩
    have e0 : D 0 = o := by rw [eD]; rfl
    have hSp : d_Sp J20 D := Or.inl z15
    rw [← e0]
    refine c_beginsM (n0 := 1) hM hMc (by decide) (fun I' z9 hz9 hG => ?_)
    subst hz9
    have hv : ∀ cs, r_S I' D (r_begun (J20 (D 1)) (d_rr J20 D) 1) false (J20 (D 5)) (J20 (D 6) 0) (J20 (D 6) 1) 5 8 0 cs (-1) ∧ fr J20 I' (w_MA D) := fun cs => r_S_G2 (rr' := w_rr (o_fits (o_draw (o_zeroB (J20 (D 1)) 1)) (m_dk (o_zeroB (J20 (D 1)) 1))) 0 (d_rr J20 D) (o_app (o_draw (o_zeroB (J20 (D 1)) 1)) (m_dk (o_zeroB (J20 (D 1)) 1)))) hU hM (hS cs) (G2_rr (d_Go2 hU hM hSp hG) (rr_cg (fun i j hi _ => absurd hi (Nat.not_lt_zero _)))) (mn_le (Nat.zero_le _))
    refine hK9 _ _ _ (h _ _ _ D _ _ _ _ _ e0 (nw_fr (nw_sub s20.1 (fun a ha => ?_)) (hv (fun _ => 0)).2 (fun _ q => q)) hM (fun cs => (hv cs).1))
    rw [eD] at ha
    unfold w_MA at ha
    simp only [List.getD_cons_zero, List.getD_cons_succ, List.mem_cons, List.not_mem_nil, or_false] at ha
    simp only [List.mem_append, List.mem_cons, List.not_mem_nil, or_false, or_assoc]
    exact ha
  refine key _ (fun T9 I9 L9 q9 => ?_) _ _ _ (by rw [eT19, eT18, eT17, eT16, eT15, eT14, eT12, eT11, eT10, eT9, eT8, eT7, eT6, eT5, eT4, eT3, eT2, eT1]) (by rw [eJ20, eJ19, eJ18, eJ17, eJ16, eJ15, eJ14, eJ13, eJ12, eJ11, eJ10, eJ9, eJ8, eJ7, eJ6, eJ5, eJ4, eJ3, eJ2, eJ1]) (by rw [eL19, eL18, eL17, eL16, eL15, eL14, eL12, eL11, eL10, eL9, eL8, eL7, eL6, eL5, eL4, eL3, eL2, eL1])
  simp only [cd_X12_init, List.mem_append, r_rn0, r_rnc, r_vk0, r_vkc, r_vks, r_kci, r_kcv, r_ild, r_ald, r_lld, r_dld, r_Li, r_La, r_Ll, r_Ld, r_Ki, r_Ka, r_Kl, r_Kd, r_Kn, r_ist, r_ast, r_lst, r_dst, r_iinc, r_int, r_lng, r_dbl, r_i2, r_i1, r_l2, r_lsh, r_i2z, r_l2z, r_i2l, r_l2i, r_i2d, r_lcmp, r_ddiv, r_dcmpl, r_dup, r_dup2, r_pop, r_one_int, r_one_ref, r_go, r_if, r_ic, r_tsw, r_lsw, r_sw0, r_swc, r_lk0, r_lkc, r_kp, r_gI, r_gL, r_gR, r_pI, r_pZ, r_pL, r_pR, r_gs, r_ia, r_ca, r_za, r_la, r_da, r_aa, r_ias, r_cas, r_zas, r_las, r_das, r_aas, r_acp, r_new, r_nwa, r_nwq, r_ret, r_irt, r_zrt, r_lrt, r_drt, r_art, r_thr, r_cV0, r_cV1, r_cV2, r_cV3, r_cV4, r_cV5, r_cI0, r_cS0, r_cS1, r_cS2, r_cS3, r_cX0, r_cX1, r_cX2, r_cX3, r_rc, r_oi, r_refx, r_i10, r_i01, r_rfs, r_mem0, r_memc, r_beq, r_kl0, r_klz, r_kl1i, r_kl1r, r_kl1n, r_kl1l, r_kl1d, List.length_cons, List.length_nil, List.getElem?_cons_zero, List.getElem?_cons_succ, List.set_cons_zero, List.set_cons_succ, true_and, and_true, not_true, not_false_eq_true, false_implies, true_implies, or_true, true_or, or_false, false_or, Bool.or_false, Bool.false_or, decide_false, decide_true, Nat.reduceLT, Nat.reduceLeDiff, Nat.reduceAdd, Nat.reduceSub, ↓reduceIte, Nat.reduceEqDiff, Nat.lt_add_one]
  exact q9
end CON7
