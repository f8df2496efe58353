/-! the reference's face: texts, memory -/
section REF7
variable {G : mz_G} {K : mz_K} {X : mz_X} {T : mz_T} {I : mz_I} {L : mz_L}
variable {D : Nat → Nat} {many n : Nat} {m : Nat → Int32} {rr : Nat → Nat → Int32} {has : Bool} {ms : Nat → Int32} {s0 s1 dly lim : Int32} {cs : Nat → Int32} {fl : Int32}

theorem r_S_tx {I' : mz_I} {s : g_S} {n' : Nat} {cs' : Nat → Int32} {fl' : Int32} (hU : ∀ a x y, (a, x) ∈ T.1 → (a, y) ∈ T.1 → x = y) (hM : p_Mo T D) (h : r_S I D s has ms s0 s1 dly lim n cs fl) (hf : fr I I' [D 0, D 23]) (hr : ∀ i, i ≠ 24 → i ≠ 25 → I' (D 0) i = I (D 0) i) (hn : I' (D 0) 24 = zI n') (hn' : n' ≤ 60) (hc : ∀ i, i < n' → I' (D 23) i = cs' i) (hfl : I' (D 0) 25 = fl') : r_S I' D s has ms s0 s1 dly lim n' cs' fl' ∧ fr I I' (w_MA D) := by
  obtain ⟨h0, -, ⟨t1, t2, t3, t5, t6, t8, t9, t10, t11, t12, t13, t14, t16, t17, t19, t20, t22, t23⟩, -⟩ := id hM
  obtain ⟨⟨hMc, hSp⟩, ⟨e1, e2, e3, e4⟩, ⟨e5, e6, e7, e8⟩, ⟨e9, e10⟩, -⟩ := h
  have o : ∀ {a : Nat} {x : Nat × Nat}, (a, x) ∈ T.1 → x ≠ (0, 12) → x ≠ (5, 60) → I' a = I a := fun q hx hy => hf _ (by simp; exact ⟨mz_ne hU q h0 hx, mz_ne hU q t23 hy⟩)
  refine ⟨⟨⟨p_Mc_fr hMc hf (Mc_ne hU hM (fun a ha => by
    simp only [List.mem_cons, List.not_mem_nil, or_false] at ha
    rcases ha with e | e <;> subst e
    · exact ⟨_, h0, by decide, by decide, by decide, by decide, by decide⟩
    · exact ⟨_, t23, by decide, by decide, by decide, by decide, by decide⟩)), d_Sp_fr hSp (hr 15 (by decide) (by decide)) (o t14 (by decide) (by decide))⟩, ⟨by rw [o t1 (by decide) (by decide)]; exact e1, by rw [hr 4 (by decide) (by decide)]; exact e2, e3, by rw [o t3 (by decide) (by decide)]; exact e4⟩, ⟨by rw [hr 7 (by decide) (by decide)]; exact e5, by rw [o t5 (by decide) (by decide)]; exact e6, by rw [o t6 (by decide) (by decide)]; exact e7, by rw [o t6 (by decide) (by decide)]; exact e8⟩, ⟨by rw [o t2 (by decide) (by decide)]; exact e9, by rw [o t2 (by decide) (by decide)]; exact e10⟩, ⟨hn, hn', hc, hfl⟩⟩, fr_tr hf fr_refl (by unfold w_MA; simp) (fun _ q => q)⟩
theorem c_appendP {x : Int32} (hM : p_Mo T D) (hC : r_S I D (m, many, rr) has ms s0 s1 dly lim n cs fl) (h : ∀ I', r_S I' D (m, many, rr) has ms s0 s1 dly lim (if n = 60 then n else n + 1) (fun i => if i = n then vp_nar .char x else cs i) fl → r_N I I' D (if n = 60 then 1 else 0) → K none T I' L) : mz_Ctr G M_X12_append [.ref (D 0), .int x] T I L K := by
  refine mz_apartC fun hU => ?_
  obtain ⟨h0, ⟨r1, r2, r3, r5, r6, r8, r9, r10, r11, r12, r13, r14, r16, r17, r19, r20, r22, r23⟩, ⟨t1, t2, t3, t5, t6, t8, t9, t10, t11, t12, t13, t14, t16, t17, t19, t20, t22, t23⟩, ⟨u1, u2⟩⟩ := id hM
  obtain ⟨⟨hMc, hSp⟩, ⟨e1, e2, e3, e4⟩, e5, ⟨e6, e7⟩, e8⟩ := id hC
  have e1 : I (D 1) = m := e1
  have e2 : I (D 0) 4 = zI many := e2
  have e3 : many ≤ 6 := e3
  obtain ⟨e8a, e8b, e8c, e8d⟩ := e8
  refine mz_ofl mk_X12_append rfl (Nat.le_of_ble_eq_true rfl) (Nat.le_of_ble_eq_true rfl) [some (.ref (D 0)), some (.int x)] rfl ?_
  refine mz_vc ok_X12_append [] [(), (), (), (), (), (), (), (), (), (), (), (), (), (), (), (), (), (), (), (), (), (), (), (), (), (), (), (), (), ()] ?_
  simp only [cd_X12_append, h0, r1, r23, r_rn0, r_rnc, r_vk0, r_vkc, r_vks, r_kci, r_kcv, r_ild, r_ald, r_lld, r_dld, r_Li, r_La, r_Ll, r_Ld, r_Ki, r_Ka, r_Kl, r_Kd, r_Kn, r_ist, r_ast, r_lst, r_dst, r_iinc, r_int, r_lng, r_dbl, r_i2, r_i1, r_l2, r_lsh, r_i2z, r_l2z, r_i2l, r_l2i, r_i2d, r_lcmp, r_ddiv, r_dcmpl, r_dup, r_dup2, r_pop, r_one_int, r_one_ref, r_go, r_if, r_ic, r_tsw, r_lsw, r_sw0, r_swc, r_lk0, r_lkc, r_kp, r_gI, r_gL, r_gR, r_pI, r_pZ, r_pL, r_pR, r_gs, r_ia, r_ca, r_za, r_la, r_da, r_aa, r_ias, r_cas, r_zas, r_las, r_das, r_aas, r_acp, r_new, r_nwa, r_nwq, r_ret, r_irt, r_zrt, r_lrt, r_drt, r_art, r_thr, r_cV0, r_cV1, r_cV2, r_cV3, r_cV4, r_cV5, r_cI0, r_cS0, r_cS1, r_cS2, r_cS3, r_cX0, r_cX1, r_cX2, r_cX3, r_rc, r_oi, r_refx, r_i10, r_i01, r_rfs, r_mem0, r_memc, r_beq, r_kl0, r_klz, r_kl1i, r_kl1r, r_kl1n, r_kl1l, r_kl1d, List.length_cons, List.length_nil, List.getElem?_cons_zero, List.getElem?_cons_succ, List.set_cons_zero, List.set_cons_succ, true_and, and_true, not_true, not_false_eq_true, false_implies, true_implies, or_true, true_or, or_false, false_or, Bool.or_false, Bool.false_or, decide_false, decide_true, Nat.reduceLT, Nat.reduceLeDiff, Nat.reduceAdd, Nat.reduceSub, ↓reduceIte, Nat.reduceEqDiff, Nat.lt_add_one]
  rw [e8a]
  by_cases q : n = 60
  · rw [if_pos q, if_pos q] at h
    obtain ⟨w1, w2⟩ := r_S_0 (x := 1) hU hM hC fr_refl
    subst q
    refine ⟨fun v => absurd (by decide) v, fun _ => ?_⟩
    rw [mz_u_eq]
    exact ⟨fun _ => h _ (r_S_tx hU hM w1 fr_refl (fun _ _ _ => rfl) w1.2.2.2.2.1 (Nat.le_refl _) (fun i hi => by rw [if_neg (by omega)]; exact w1.2.2.2.2.2.2.1 i hi) w1.2.2.2.2.2.2.2).1 w2, fun v => absurd (by decide) v⟩
  · rw [if_neg q, if_neg q] at h
    obtain ⟨w1, w2⟩ := r_S_0 (x := 0) hU hM hC fr_refl
    have q60 : ¬ zI (n : Int) = 60 := fun v => q (by
      have := congrArg Int32.toInt v
      rw [z_toInt (by omega), show (60 : Int32).toInt = 60 from rfl] at this; omega)
    refine ⟨fun _ => ?_, fun v => absurd q60 v⟩
    rw [mz_u_eq]
    refine ⟨fun v => absurd rfl v, fun _ => ?_⟩
    have n0 : D 0 ≠ D 23 := mz_ne hU h0 t23 (by decide)
    have e24 : mz_u I (D 0) 0 0 (D 0) 24 = zI n := w1.2.2.2.2.1
    rw [mz_u_ne n0, e24, z_nat (by omega), Int.toNat_natCast, z_1]
    refine ⟨⟨60, t23, z_in (by omega) (by omega) (by decide)⟩, ?_⟩
    obtain ⟨v1, v2⟩ := r_S_tx (I' := mz_u (mz_u (mz_u I (D 0) 0 0) (D 23) n (vp_nar .char x)) (D 0) 24 (zI ((n + 1 : Nat) : Int))) (n' := n + 1) (cs' := fun i => if i = n then vp_nar .char x else cs i) (fl' := fl) hU hM w1 (fr_u2 (fr_u2 fr_refl (by simp)) (by simp)) (fun i a _ => by rw [mz_u_nk a, mz_u_ne n0]) mz_u_eq (by omega) (fun i hi => by
      rw [mz_u_ne (Ne.symm n0), mz_u_at]
      by_cases z : i = n
      · simp [z]
      · have := w1.2.2.2.2.2.2.1 i (by omega)
        simp [z, this]) (by rw [mz_u_nk (by decide), mz_u_ne n0]; exact w1.2.2.2.2.2.2.2)
    exact h _ v1 ⟨fr_tr w2.1 v2 (fun _ q => q) (fun _ q => q), by rw [mz_u_nk (by decide), mz_u_ne n0, mz_u_eq]⟩
end REF7
