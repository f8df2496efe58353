/-! the class's face: garbage, placements, texts, memory -/
section FACE5
variable {G : mz_G} {K : mz_K} {X : mz_X} {T : mz_T} {I : mz_I} {L : mz_L}
variable {V : Nat → Nat} {A : z_A} {Aj : Nat → z_A} {sn : z_A} {Y D : Nat → Nat} {B many n : Nat} {m : Nat → Int32} {rr : Nat → Nat → Int32} {has : Bool} {ms : Nat → Int32} {s0 s1 dly lim : Int32} {cs : Nat → Int32} {fl : Int32}

/-- what lies outside of the games changes -/
theorem w_C_off {I' : mz_I} {L' : mz_L} (hU : ∀ a x y, (a, x) ∈ T.1 → (a, y) ∈ T.1 → x = y) (hS : w_Sh T V A Aj sn Y D) (hC : w_C T I L V A Aj sn Y B m many rr has ms s0 s1 dly lim n cs fl) (hf : fr I I' [V 7, V 8, V 9, Y 0, Y 2, Y 4, Y 5, Y 6, Y 7, Y 8]) (hl : fr L L' [Y 9]) :
    p_R T I' L' A B m ∧ (∃ nw, p_M T I' L' (V 2) (V 3) Aj nw many B rr) ∧ p_N T I' L' (V 2) sn has B ms s0 s1 ∧ (I' A.g 7 = dly ∧ I' A.g 8 = lim) ∧ (∀ j, j < 448 → I' (V 5) j = f_lt j) ∧ fr I I' (w_CA V A Aj sn Y) ∧ fr L L' (w_CL A Aj sn Y) := by
  obtain ⟨c1, ⟨nw, c2⟩, c3, ⟨c4, c4'⟩, c5, c6, -⟩ := id hC
  obtain ⟨-, -, ⟨fv1, fv2, fv3⟩, ⟨fd1, fd2, fd3⟩, ⟨tx1, tx2, tx3⟩, -, -, -, out, -⟩ := id hS
  obtain ⟨y1, -, ⟨⟨ya, yb, yc⟩, ⟨yd, ye, yf⟩, y5, y6, y7, y8, y9⟩, -⟩ := id c6.1
  have hA := c1.sh
  have hAj := c2.1.2.2.2.1
  have hsn := c3.1.2.2
  have hme := c2.1.1
  have ty : ∀ {a : Nat} {x : Nat × Nat}, (a, x) ∈ T.1 → x ∉ z_sh → a ∉ A.all ∧ (∀ j, j < 6 → a ∉ (Aj j).all) ∧ a ∉ sn.all := fun q hx => ⟨z_out hU hA q hx, fun j hj => z_out hU (hAj j hj).2 q hx, z_out hU hsn q hx⟩
  have all : ∀ b, b ∈ [V 7, V 8, V 9, Y 0, Y 2, Y 4, Y 5, Y 6, Y 7, Y 8] → b ∉ A.all ∧ (∀ j, j < 6 → b ∉ (Aj j).all) ∧ b ∉ sn.all := by
    intro b hb
    simp only [List.mem_cons, List.not_mem_nil, or_false] at hb
    rcases hb with e | e | e | e | e | e | e | e | e | e <;> subst e
    · exact out _ (by simp)
    · exact ty tx1 (by decide)
    · exact ty tx3 (by decide)
    · exact ty y1 (by decide)
    · exact out _ (by simp)
    · exact out _ (by simp)
    · exact out _ (by simp)
    · exact out _ (by simp)
    · exact ty y7 (by decide)
    · exact ty y8 (by decide)
  have h9 := ty y9 (by decide)
  have eA : ∀ a, a ∈ A.all → I' a = I a := fun a ha => hf a (fun q => (all a q).1 ha)
  have eAj : ∀ j, j < 6 → ∀ a, a ∈ (Aj j).all → I' a = I a ∧ L' a = L a := fun j hj a ha => ⟨hf a (fun q => (all a q).2.1 j hj ha), hl a (fun q => by rw [List.mem_singleton.mp q] at ha; exact h9.2.1 j hj ha)⟩
  have esn : ∀ a, a ∈ sn.all → I' a = I a ∧ L' a = L a := fun a ha => ⟨hf a (fun q => (all a q).2.2 ha), hl a (fun q => by rw [List.mem_singleton.mp q] at ha; exact h9.2.2 ha)⟩
  have ne : ∀ {a b : Nat} {x y : Nat × Nat}, (a, x) ∈ T.1 → (b, y) ∈ T.1 → x ≠ y → a ≠ b := fun a b c => mz_ne hU a b c
  have eme : I' (V 2) = I (V 2) := hf _ (by
    simp only [List.mem_cons, List.not_mem_nil, or_false, not_or]
    exact ⟨ne hme fd2 (by decide), ne hme tx1 (by decide), ne hme tx3 (by decide), ne hme y1 (by decide), ne hme yb (by decide), ne hme ye (by decide), ne hme y5 (by decide), ne hme y6 (by decide), ne hme y7 (by decide), ne hme y8 (by decide)⟩)
  have e5 : I' (V 5) = I (V 5) := hf _ (by
    simp only [List.mem_cons, List.not_mem_nil, or_false, not_or]
    exact ⟨ne fv3 fd2 (by decide), ne fv3 tx1 (by decide), ne fv3 tx3 (by decide), ne fv3 y1 (by decide), ne fv3 yb (by decide), ne fv3 ye (by decide), ne fv3 y5 (by decide), ne fv3 y6 (by decide), ne fv3 y7 (by decide), ne fv3 y8 (by decide)⟩)
  refine ⟨p_R_fr c1 eA (hl _ (fun q => h9.1 (by rw [← List.mem_singleton.mp q]; exact z_bm))), ⟨nw, p_M_fr c2 eme eAj⟩, p_N_fr c3 (by rw [eme]) (fun a ha => (esn a ha).1) (fun a ha => (esn a ha).2), ⟨by rw [eA _ z_gm]; exact c4, by rw [eA _ z_gm]; exact c4'⟩, by rw [e5]; exact c5, fr_tr hf fr_refl (fun a ha => ?_) (fun _ q => q), fr_tr hl fr_refl (fun a ha => ?_) (fun _ q => q)⟩
  · unfold w_CA
    refine List.mem_append_left _ ?_
    simp only [List.mem_cons, List.not_mem_nil, or_false] at ha ⊢
    rcases ha with e | e | e | e | e | e | e | e | e | e <;> simp [e]
  · unfold w_CL
    rw [List.mem_singleton.mp ha]; simp
theorem c_faultF (hS : w_Sh T V A Aj sn Y D) (hC : w_C T I L V A Aj sn Y B m many rr has ms s0 s1 dly lim n cs fl) (h : K (some (.int fl)) T I L) : mz_CtrX G M_X11_faultPosition [.ref (V 0)] T I L K X := by
  obtain ⟨⟨t0, q1, q2, q3⟩, -, -, -, ⟨tx1, -⟩, -⟩ := id hS
  obtain ⟨-, -, -, -, -, -, -, -, c8, -⟩ := id hC
  refine mz_ofXl (by decide +kernel) rfl (Nat.le_of_ble_eq_true rfl) (Nat.le_of_ble_eq_true rfl) [some (.ref (V 0))] rfl ?_
  refine mz_vc ok_X11_faultPosition [] [(), (), (), (), (), (), (), (), (), (), (), (), (), (), (), (), (), (), (), (), (), (), (), (), (), (), (), (), (), ()] ?_
  simp only [cd_X11_faultPosition, t0, q1, q2, q3, tx1, r_rn0, r_rnc, r_vk0, r_vkc, r_vks, r_kci, r_kcv, r_ild, r_ald, r_lld, r_dld, r_Li, r_La, r_Ll, r_Ld, r_Ki, r_Ka, r_Kl, r_Kd, r_Kn, r_ist, r_ast, r_lst, r_dst, r_iinc, r_int, r_lng, r_dbl, r_i2, r_i1, r_l2, r_lsh, r_i2z, r_l2z, r_i2l, r_l2i, r_i2d, r_lcmp, r_ddiv, r_dcmpl, r_dup, r_dup2, r_pop, r_one_int, r_one_ref, r_go, r_if, r_ic, r_tsw, r_lsw, r_sw0, r_swc, r_lk0, r_lkc, r_kp, r_gI, r_gL, r_gR, r_pI, r_pZ, r_pL, r_pR, r_gs, r_ia, r_ca, r_za, r_la, r_da, r_aa, r_ias, r_cas, r_zas, r_las, r_das, r_aas, r_acp, r_new, r_nwa, r_nwq, r_ret, r_irt, r_zrt, r_lrt, r_drt, r_art, r_thr, r_cV0, r_cV1, r_cV2, r_cV3, r_cV4, r_cV5, r_cI0, r_cS0, r_cS1, r_cS2, r_cS3, r_cX0, r_cX1, r_cX2, r_cX3, r_rc, r_oi, r_refx, r_i10, r_i01, r_rfs, r_mem0, r_memc, r_beq, r_kl0, r_klz, r_kl1i, r_kl1r, r_kl1n, r_kl1l, r_kl1d, List.length_cons, List.length_nil, List.getElem?_cons_zero, List.getElem?_cons_succ, List.set_cons_zero, List.set_cons_succ, true_and, and_true, not_true, not_false_eq_true, false_implies, true_implies, or_true, true_or, or_false, false_or, Bool.or_false, Bool.false_or, decide_false, decide_true, Nat.reduceLT, Nat.reduceLeDiff, Nat.reduceAdd, Nat.reduceSub, ↓reduceIte, Nat.reduceEqDiff, Nat.lt_add_one]
  rw [c8]; exact h
theorem c_appendF {x : Int32} (hS : w_Sh T V A Aj sn Y D) (hC : w_C T I L V A Aj sn Y B m many rr has ms s0 s1 dly lim n cs fl) (h0 : n = 60 → X "java/lang/IllegalStateException" T I L)
    (h : n < 60 → ∀ I' L', w_NS T I L I' L' V A Aj sn Y B (m, many, rr) has ms s0 s1 dly lim (n + 1) (fun i => if i = n then vp_nar .char x else cs i) fl → K none T I' L') : mz_CtrX G M_X11_append [.ref (V 0), .int x] T I L K X := by
  refine mz_apartX fun hU => ?_
  obtain ⟨⟨t0, q1, q2, q3⟩, ⟨hE, en1, en2, en3, en4⟩, hfi, ⟨fd1, fd2, fd3⟩, htx, -, -, ⟨dj1, dj2, dj3, dj4⟩, out, hYd, -⟩ := id hS
  obtain ⟨c1, ⟨nw, c2⟩, c3, ⟨c4, c4'⟩, c5, c6, -⟩ := id hC
  obtain ⟨⟨g1, g2, g3, g4, g5⟩, ⟨f1, f2, f3⟩, ⟨x1, x2, x3⟩, -, hS9⟩ := id c1.sh
  obtain ⟨i1, -⟩ := id hS9
  obtain ⟨he, -⟩ := id hE
  obtain ⟨-, -, -, -, -, -, c7, c9, c8, c10⟩ := id hC
  refine mz_ofXl (by decide +kernel) rfl (Nat.le_of_ble_eq_true rfl) (Nat.le_of_ble_eq_true rfl) [some (.ref (V 0)), some (.int x)] rfl ?_
  refine mz_vc ok_X11_append [] [(), (), (), (), (), (), (), (), (), (), (), (), (), (), (), (), (), (), (), (), (), (), (), (), (), (), (), (), (), ()] ?_
  simp only [cd_X11_append, t0, q1, q2, q3, g1, g2, g3, g4, g5, he, x1, x2, x3, htx.1, r_rn0, r_rnc, r_vk0, r_vkc, r_vks, r_kci, r_kcv, r_ild, r_ald, r_lld, r_dld, r_Li, r_La, r_Ll, r_Ld, r_Ki, r_Ka, r_Kl, r_Kd, r_Kn, r_ist, r_ast, r_lst, r_dst, r_iinc, r_int, r_lng, r_dbl, r_i2, r_i1, r_l2, r_lsh, r_i2z, r_l2z, r_i2l, r_l2i, r_i2d, r_lcmp, r_ddiv, r_dcmpl, r_dup, r_dup2, r_pop, r_one_int, r_one_ref, r_go, r_if, r_ic, r_tsw, r_lsw, r_sw0, r_swc, r_lk0, r_lkc, r_kp, r_gI, r_gL, r_gR, r_pI, r_pZ, r_pL, r_pR, r_gs, r_ia, r_ca, r_za, r_la, r_da, r_aa, r_ias, r_cas, r_zas, r_las, r_das, r_aas, r_acp, r_new, r_nwa, r_nwq, r_ret, r_irt, r_zrt, r_lrt, r_drt, r_art, r_thr, r_cV0, r_cV1, r_cV2, r_cV3, r_cV4, r_cV5, r_cI0, r_cS0, r_cS1, r_cS2, r_cS3, r_cX0, r_cX1, r_cX2, r_cX3, r_rc, r_oi, r_refx, r_i10, r_i01, r_rfs, r_mem0, r_memc, r_beq, r_kl0, r_klz, r_kl1i, r_kl1r, r_kl1n, r_kl1l, r_kl1d, List.length_cons, List.length_nil, List.getElem?_cons_zero, List.getElem?_cons_succ, List.set_cons_zero, List.set_cons_succ, true_and, and_true, not_true, not_false_eq_true, false_implies, true_implies, or_true, true_or, or_false, false_or, Bool.or_false, Bool.false_or, decide_false, decide_true, Nat.reduceLT, Nat.reduceLeDiff, Nat.reduceAdd, Nat.reduceSub, ↓reduceIte, Nat.reduceEqDiff, Nat.lt_add_one]
  refine c_addT htx c7 c9 (fun e => ?_) (fun e I' f e1 e2 e3 => ?_)
  · simp only [cd_X11_append, t0, q1, q2, q3, g1, g2, g3, g4, g5, he, x1, x2, x3, htx.1, r_rn0, r_rnc, r_vk0, r_vkc, r_vks, r_kci, r_kcv, r_ild, r_ald, r_lld, r_dld, r_Li, r_La, r_Ll, r_Ld, r_Ki, r_Ka, r_Kl, r_Kd, r_Kn, r_ist, r_ast, r_lst, r_dst, r_iinc, r_int, r_lng, r_dbl, r_i2, r_i1, r_l2, r_lsh, r_i2z, r_l2z, r_i2l, r_l2i, r_i2d, r_lcmp, r_ddiv, r_dcmpl, r_dup, r_dup2, r_pop, r_one_int, r_one_ref, r_go, r_if, r_ic, r_tsw, r_lsw, r_sw0, r_swc, r_lk0, r_lkc, r_kp, r_gI, r_gL, r_gR, r_pI, r_pZ, r_pL, r_pR, r_gs, r_ia, r_ca, r_za, r_la, r_da, r_aa, r_ias, r_cas, r_zas, r_las, r_das, r_aas, r_acp, r_new, r_nwa, r_nwq, r_ret, r_irt, r_zrt, r_lrt, r_drt, r_art, r_thr, r_cV0, r_cV1, r_cV2, r_cV3, r_cV4, r_cV5, r_cI0, r_cS0, r_cS1, r_cS2, r_cS3, r_cX0, r_cX1, r_cX2, r_cX3, r_rc, r_oi, r_refx, r_i10, r_i01, r_rfs, r_mem0, r_memc, r_beq, r_kl0, r_klz, r_kl1i, r_kl1r, r_kl1n, r_kl1l, r_kl1d, List.length_cons, List.length_nil, List.getElem?_cons_zero, List.getElem?_cons_succ, List.set_cons_zero, List.set_cons_succ, true_and, and_true, not_true, not_false_eq_true, false_implies, true_implies, or_true, true_or, or_false, false_or, Bool.or_false, Bool.false_or, decide_false, decide_true, Nat.reduceLT, Nat.reduceLeDiff, Nat.reduceAdd, Nat.reduceSub, ↓reduceIte, Nat.reduceEqDiff, Nat.lt_add_one]
    exact h0 e
  · simp only [cd_X11_append, t0, q1, q2, q3, g1, g2, g3, g4, g5, he, x1, x2, x3, htx.1, r_rn0, r_rnc, r_vk0, r_vkc, r_vks, r_kci, r_kcv, r_ild, r_ald, r_lld, r_dld, r_Li, r_La, r_Ll, r_Ld, r_Ki, r_Ka, r_Kl, r_Kd, r_Kn, r_ist, r_ast, r_lst, r_dst, r_iinc, r_int, r_lng, r_dbl, r_i2, r_i1, r_l2, r_lsh, r_i2z, r_l2z, r_i2l, r_l2i, r_i2d, r_lcmp, r_ddiv, r_dcmpl, r_dup, r_dup2, r_pop, r_one_int, r_one_ref, r_go, r_if, r_ic, r_tsw, r_lsw, r_sw0, r_swc, r_lk0, r_lkc, r_kp, r_gI, r_gL, r_gR, r_pI, r_pZ, r_pL, r_pR, r_gs, r_ia, r_ca, r_za, r_la, r_da, r_aa, r_ias, r_cas, r_zas, r_las, r_das, r_aas, r_acp, r_new, r_nwa, r_nwq, r_ret, r_irt, r_zrt, r_lrt, r_drt, r_art, r_thr, r_cV0, r_cV1, r_cV2, r_cV3, r_cV4, r_cV5, r_cI0, r_cS0, r_cS1, r_cS2, r_cS3, r_cX0, r_cX1, r_cX2, r_cX3, r_rc, r_oi, r_refx, r_i10, r_i01, r_rfs, r_mem0, r_memc, r_beq, r_kl0, r_klz, r_kl1i, r_kl1r, r_kl1n, r_kl1l, r_kl1d, List.length_cons, List.length_nil, List.getElem?_cons_zero, List.getElem?_cons_succ, List.set_cons_zero, List.set_cons_succ, true_and, and_true, not_true, not_false_eq_true, false_implies, true_implies, or_true, true_or, or_false, false_or, Bool.or_false, Bool.false_or, decide_false, decide_true, Nat.reduceLT, Nat.reduceLeDiff, Nat.reduceAdd, Nat.reduceSub, ↓reduceIte, Nat.reduceEqDiff, Nat.lt_add_one]
    have f' : fr I I' [V 7, V 8, V 9, Y 0, Y 2, Y 4, Y 5, Y 6, Y 7, Y 8] := fr_tr f fr_refl (by simp) (fun _ q => q)
    obtain ⟨o1, o2, o3, o4, o5, o6, o7⟩ := w_C_off (L' := L) hU hS hC f' fr_refl
    obtain ⟨y1, -, ⟨⟨ya, yb, yc⟩, ⟨yd, ye, yf⟩, y5, y6, y7, y8, y9⟩, -⟩ := id c6.1
    have ne : ∀ {a b : Nat} {x y : Nat × Nat}, (a, x) ∈ T.1 → (b, y) ∈ T.1 → x ≠ y → a ≠ b := fun a b c => mz_ne hU a b c
    obtain ⟨tx1, tx2, tx3⟩ := id htx
    have hy : ∀ {a : Nat} {x : Nat × Nat}, (a, x) ∈ T.1 → x ≠ (0, 5) → x ≠ (5, 60) → I' a = I a := fun q e1 e2 => f _ (by simp; exact ⟨ne q tx1 e1, ne q tx3 e2⟩)
    refine h e I' L ⟨⟨o1, o2, o3, o4, o5, p_Se_fr c6 (hy y1 (by decide) (by decide)) (hy yb (by decide) (by decide)) (hy y5 (by decide) (by decide)) rfl, ⟨e1, by omega, by rw [e2 2 (by decide)]; exact c8, fun i hi => ?_, by rw [e2 1 (by decide)]; show I (V 8) 1 = if 60 = n then _ else cs 60; rw [if_neg (by omega)]; exact c10.2⟩⟩, o6, o7⟩
    rw [e3]
    by_cases q : i = n
    · rw [if_pos q]; simp [q]
    · rw [if_neg q, c10.1 i hi]; simp [q]
theorem c_undoF {k9 : Nat} (hb : (if m 221 = 1 then 0 else 1) = k9) (hS : w_Sh T V A Aj sn Y D) (hC : w_C T I L V A Aj sn Y B m many rr has ms s0 s1 dly lim n cs fl) (h : k9 < many → ∀ I' L', w_NS T I L I' L' V A Aj sn Y B (rr (many - k9 - 1), many - k9, rr) has ms s0 s1 dly lim n cs fl → K (some (.int (zI (many - k9 : Nat)))) T I' L') (h0 : many ≤ k9 → X "java/lang/UnsupportedOperationException" T I L) : mz_CtrX G M_X11_undo [.ref (V 0)] T I L K X := by
  refine mz_apartX fun hU => ?_
  obtain ⟨⟨t0, q1, q2, q3⟩, ⟨hE, en1, en2, en3, en4⟩, hfi, ⟨fd1, fd2, fd3⟩, htx, -, -, ⟨dj1, dj2, dj3, dj4⟩, out, hYd, -⟩ := id hS
  obtain ⟨c1, ⟨nw, c2⟩, c3, ⟨c4, c4'⟩, c5, c6, -⟩ := id hC
  obtain ⟨⟨g1, g2, g3, g4, g5⟩, ⟨f1, f2, f3⟩, ⟨x1, x2, x3⟩, -, hS9⟩ := id c1.sh
  obtain ⟨i1, -⟩ := id hS9
  obtain ⟨he, -⟩ := id hE
  have e9 : (if decide (m 221 = 1) = true then 0 else 1) = k9 := by
    rw [← hb]
    by_cases q : m 221 = 1
    · rw [if_pos q, if_pos (by simpa using q)]
    · rw [if_neg q, if_neg (by simpa using q)]
  refine mz_ofXl (by decide +kernel) rfl (Nat.le_of_ble_eq_true rfl) (Nat.le_of_ble_eq_true rfl) [some (.ref (V 0)), none] rfl ?_
  refine mz_vc ok_X11_undo [] [(), (), (), (), (), (), (), (), (), (), (), (), (), (), (), (), (), (), (), (), (), (), (), (), (), (), (), (), (), ()] ?_
  simp only [cd_X11_undo, t0, q1, q2, q3, g1, g2, g3, g4, g5, he, x1, x2, x3, en1, c2.1.1, r_rn0, r_rnc, r_vk0, r_vkc, r_vks, r_kci, r_kcv, r_ild, r_ald, r_lld, r_dld, r_Li, r_La, r_Ll, r_Ld, r_Ki, r_Ka, r_Kl, r_Kd, r_Kn, r_ist, r_ast, r_lst, r_dst, r_iinc, r_int, r_lng, r_dbl, r_i2, r_i1, r_l2, r_lsh, r_i2z, r_l2z, r_i2l, r_l2i, r_i2d, r_lcmp, r_ddiv, r_dcmpl, r_dup, r_dup2, r_pop, r_one_int, r_one_ref, r_go, r_if, r_ic, r_tsw, r_lsw, r_sw0, r_swc, r_lk0, r_lkc, r_kp, r_gI, r_gL, r_gR, r_pI, r_pZ, r_pL, r_pR, r_gs, r_ia, r_ca, r_za, r_la, r_da, r_aa, r_ias, r_cas, r_zas, r_las, r_das, r_aas, r_acp, r_new, r_nwa, r_nwq, r_ret, r_irt, r_zrt, r_lrt, r_drt, r_art, r_thr, r_cV0, r_cV1, r_cV2, r_cV3, r_cV4, r_cV5, r_cI0, r_cS0, r_cS1, r_cS2, r_cS3, r_cX0, r_cX1, r_cX2, r_cX3, r_rc, r_oi, r_refx, r_i10, r_i01, r_rfs, r_mem0, r_memc, r_beq, r_kl0, r_klz, r_kl1i, r_kl1r, r_kl1n, r_kl1l, r_kl1d, List.length_cons, List.length_nil, List.getElem?_cons_zero, List.getElem?_cons_succ, List.set_cons_zero, List.set_cons_succ, true_and, and_true, not_true, not_false_eq_true, false_implies, true_implies, or_true, true_or, or_false, false_or, Bool.or_false, Bool.false_or, decide_false, decide_true, Nat.reduceLT, Nat.reduceLeDiff, Nat.reduceAdd, Nat.reduceSub, ↓reduceIte, Nat.reduceEqDiff, Nat.lt_add_one]
  refine c_goBack (ov := decide (m 221 = 1)) c2 c1.sh ?_ dj1 (fun e => ?_) (fun e I' L' nw' f fl' hM hR g7 me3 => ?_)
  · rw [c1.over.1]
    rcases c1.over.2 with e | e <;> rw [e] <;> rfl
  · rw [e9] at e
    simp only [cd_X11_undo, t0, q1, q2, q3, g1, g2, g3, g4, g5, he, x1, x2, x3, en1, c2.1.1, r_rn0, r_rnc, r_vk0, r_vkc, r_vks, r_kci, r_kcv, r_ild, r_ald, r_lld, r_dld, r_Li, r_La, r_Ll, r_Ld, r_Ki, r_Ka, r_Kl, r_Kd, r_Kn, r_ist, r_ast, r_lst, r_dst, r_iinc, r_int, r_lng, r_dbl, r_i2, r_i1, r_l2, r_lsh, r_i2z, r_l2z, r_i2l, r_l2i, r_i2d, r_lcmp, r_ddiv, r_dcmpl, r_dup, r_dup2, r_pop, r_one_int, r_one_ref, r_go, r_if, r_ic, r_tsw, r_lsw, r_sw0, r_swc, r_lk0, r_lkc, r_kp, r_gI, r_gL, r_gR, r_pI, r_pZ, r_pL, r_pR, r_gs, r_ia, r_ca, r_za, r_la, r_da, r_aa, r_ias, r_cas, r_zas, r_las, r_das, r_aas, r_acp, r_new, r_nwa, r_nwq, r_ret, r_irt, r_zrt, r_lrt, r_drt, r_art, r_thr, r_cV0, r_cV1, r_cV2, r_cV3, r_cV4, r_cV5, r_cI0, r_cS0, r_cS1, r_cS2, r_cS3, r_cX0, r_cX1, r_cX2, r_cX3, r_rc, r_oi, r_refx, r_i10, r_i01, r_rfs, r_mem0, r_memc, r_beq, r_kl0, r_klz, r_kl1i, r_kl1r, r_kl1n, r_kl1l, r_kl1d, List.length_cons, List.length_nil, List.getElem?_cons_zero, List.getElem?_cons_succ, List.set_cons_zero, List.set_cons_succ, true_and, and_true, not_true, not_false_eq_true, false_implies, true_implies, or_true, true_or, or_false, false_or, Bool.or_false, Bool.false_or, decide_false, decide_true, Nat.reduceLT, Nat.reduceLeDiff, Nat.reduceAdd, Nat.reduceSub, ↓reduceIte, Nat.reduceEqDiff, Nat.lt_add_one]
    exact h0 e
  · rw [e9] at e hM hR ⊢
    simp only [cd_X11_undo, t0, q1, q2, q3, g1, g2, g3, g4, g5, he, x1, x2, x3, en1, c2.1.1, r_rn0, r_rnc, r_vk0, r_vkc, r_vks, r_kci, r_kcv, r_ild, r_ald, r_lld, r_dld, r_Li, r_La, r_Ll, r_Ld, r_Ki, r_Ka, r_Kl, r_Kd, r_Kn, r_ist, r_ast, r_lst, r_dst, r_iinc, r_int, r_lng, r_dbl, r_i2, r_i1, r_l2, r_lsh, r_i2z, r_l2z, r_i2l, r_l2i, r_i2d, r_lcmp, r_ddiv, r_dcmpl, r_dup, r_dup2, r_pop, r_one_int, r_one_ref, r_go, r_if, r_ic, r_tsw, r_lsw, r_sw0, r_swc, r_lk0, r_lkc, r_kp, r_gI, r_gL, r_gR, r_pI, r_pZ, r_pL, r_pR, r_gs, r_ia, r_ca, r_za, r_la, r_da, r_aa, r_ias, r_cas, r_zas, r_las, r_das, r_aas, r_acp, r_new, r_nwa, r_nwq, r_ret, r_irt, r_zrt, r_lrt, r_drt, r_art, r_thr, r_cV0, r_cV1, r_cV2, r_cV3, r_cV4, r_cV5, r_cI0, r_cS0, r_cS1, r_cS2, r_cS3, r_cX0, r_cX1, r_cX2, r_cX3, r_rc, r_oi, r_refx, r_i10, r_i01, r_rfs, r_mem0, r_memc, r_beq, r_kl0, r_klz, r_kl1i, r_kl1r, r_kl1n, r_kl1l, r_kl1d, List.length_cons, List.length_nil, List.getElem?_cons_zero, List.getElem?_cons_succ, List.set_cons_zero, List.set_cons_succ, true_and, and_true, not_true, not_false_eq_true, false_implies, true_implies, or_true, true_or, or_false, false_or, Bool.or_false, Bool.false_or, decide_false, decide_true, Nat.reduceLT, Nat.reduceLeDiff, Nat.reduceAdd, Nat.reduceSub, ↓reduceIte, Nat.reduceEqDiff, Nat.lt_add_one]
    have hm6 := c2.2.1.2.2.2
    refine ⟨fun _ => h e I' L' ?_, fun q => ?_⟩
    · exact w_C_Go hU hS hC (Nat.le_refl _) ⟨fr_tr f fr_refl (fun a ha => by
        simp only [List.mem_cons, List.mem_append] at ha ⊢
        rcases ha with q | q
        · exact Or.inl q
        · exact Or.inr (Or.inl q)) (fun _ q => q), fr_tr fl' fr_refl (fun a ha => List.mem_cons.mpr (Or.inl (List.mem_singleton.mp ha))) (fun _ q => q), hR, ⟨nw', hM⟩, g7, me3⟩
    · have := congrArg Int32.toInt (Decidable.not_not.mp q)
      rw [z_toInt (by omega), show (0 : Int32).toInt = 0 from rfl] at this; omega
theorem c_restoreF (hS : w_Sh T V A Aj sn Y D) (hC : w_C T I L V A Aj sn Y B m many rr has ms s0 s1 dly lim n cs fl) (h : has = true → ∀ I' L', w_NS T I L I' L' V A Aj sn Y B (ms, 0, rr) has ms s0 s1 s0 s1 n cs fl → K none T I' L') (h0 : has = false → X "java/util/NoSuchElementException" T I L) : mz_CtrX G M_X11_restore [.ref (V 0)] T I L K X := by
  refine mz_apartX fun hU => ?_
  obtain ⟨⟨t0, q1, q2, q3⟩, ⟨hE, en1, en2, en3, en4⟩, hfi, ⟨fd1, fd2, fd3⟩, htx, -, -, ⟨dj1, dj2, dj3, dj4⟩, out, hYd, -⟩ := id hS
  obtain ⟨c1, ⟨nw, c2⟩, c3, ⟨c4, c4'⟩, c5, c6, -⟩ := id hC
  obtain ⟨⟨g1, g2, g3, g4, g5⟩, ⟨f1, f2, f3⟩, ⟨x1, x2, x3⟩, -, hS9⟩ := id c1.sh
  obtain ⟨i1, -⟩ := id hS9
  obtain ⟨he, -⟩ := id hE
  obtain ⟨⟨m1, m2, m3, m4, m5⟩, ⟨m6, m7, m8, m9⟩, m10⟩ := id c2
  refine mz_ofXl (by decide +kernel) rfl (Nat.le_of_ble_eq_true rfl) (Nat.le_of_ble_eq_true rfl) [some (.ref (V 0))] rfl ?_
  refine mz_vc ok_X11_restore [] [(), (), (), (), (), (), (), (), (), (), (), (), (), (), (), (), (), (), (), (), (), (), (), (), (), (), (), (), (), ()] ?_
  simp only [cd_X11_restore, t0, q1, q2, q3, g1, g2, g3, g4, g5, he, x1, x2, x3, en1, m1, r_rn0, r_rnc, r_vk0, r_vkc, r_vks, r_kci, r_kcv, r_ild, r_ald, r_lld, r_dld, r_Li, r_La, r_Ll, r_Ld, r_Ki, r_Ka, r_Kl, r_Kd, r_Kn, r_ist, r_ast, r_lst, r_dst, r_iinc, r_int, r_lng, r_dbl, r_i2, r_i1, r_l2, r_lsh, r_i2z, r_l2z, r_i2l, r_l2i, r_i2d, r_lcmp, r_ddiv, r_dcmpl, r_dup, r_dup2, r_pop, r_one_int, r_one_ref, r_go, r_if, r_ic, r_tsw, r_lsw, r_sw0, r_swc, r_lk0, r_lkc, r_kp, r_gI, r_gL, r_gR, r_pI, r_pZ, r_pL, r_pR, r_gs, r_ia, r_ca, r_za, r_la, r_da, r_aa, r_ias, r_cas, r_zas, r_las, r_das, r_aas, r_acp, r_new, r_nwa, r_nwq, r_ret, r_irt, r_zrt, r_lrt, r_drt, r_art, r_thr, r_cV0, r_cV1, r_cV2, r_cV3, r_cV4, r_cV5, r_cI0, r_cS0, r_cS1, r_cS2, r_cS3, r_cX0, r_cX1, r_cX2, r_cX3, r_rc, r_oi, r_refx, r_i10, r_i01, r_rfs, r_mem0, r_memc, r_beq, r_kl0, r_klz, r_kl1i, r_kl1r, r_kl1n, r_kl1l, r_kl1d, List.length_cons, List.length_nil, List.getElem?_cons_zero, List.getElem?_cons_succ, List.set_cons_zero, List.set_cons_succ, true_and, and_true, not_true, not_false_eq_true, false_implies, true_implies, or_true, true_or, or_false, false_or, Bool.or_false, Bool.false_or, decide_false, decide_true, Nat.reduceLT, Nat.reduceLeDiff, Nat.reduceAdd, Nat.reduceSub, ↓reduceIte, Nat.reduceEqDiff, Nat.lt_add_one]
  refine c_goSnap c3 c1.sh dj3 (fun e => ?_) (fun e I' L' f fl' hR g7 g8 me1 me2 => ?_)
  · simp only [cd_X11_restore, t0, q1, q2, q3, g1, g2, g3, g4, g5, he, x1, x2, x3, en1, m1, r_rn0, r_rnc, r_vk0, r_vkc, r_vks, r_kci, r_kcv, r_ild, r_ald, r_lld, r_dld, r_Li, r_La, r_Ll, r_Ld, r_Ki, r_Ka, r_Kl, r_Kd, r_Kn, r_ist, r_ast, r_lst, r_dst, r_iinc, r_int, r_lng, r_dbl, r_i2, r_i1, r_l2, r_lsh, r_i2z, r_l2z, r_i2l, r_l2i, r_i2d, r_lcmp, r_ddiv, r_dcmpl, r_dup, r_dup2, r_pop, r_one_int, r_one_ref, r_go, r_if, r_ic, r_tsw, r_lsw, r_sw0, r_swc, r_lk0, r_lkc, r_kp, r_gI, r_gL, r_gR, r_pI, r_pZ, r_pL, r_pR, r_gs, r_ia, r_ca, r_za, r_la, r_da, r_aa, r_ias, r_cas, r_zas, r_las, r_das, r_aas, r_acp, r_new, r_nwa, r_nwq, r_ret, r_irt, r_zrt, r_lrt, r_drt, r_art, r_thr, r_cV0, r_cV1, r_cV2, r_cV3, r_cV4, r_cV5, r_cI0, r_cS0, r_cS1, r_cS2, r_cS3, r_cX0, r_cX1, r_cX2, r_cX3, r_rc, r_oi, r_refx, r_i10, r_i01, r_rfs, r_mem0, r_memc, r_beq, r_kl0, r_klz, r_kl1i, r_kl1r, r_kl1n, r_kl1l, r_kl1d, List.length_cons, List.length_nil, List.getElem?_cons_zero, List.getElem?_cons_succ, List.set_cons_zero, List.set_cons_succ, true_and, and_true, not_true, not_false_eq_true, false_implies, true_implies, or_true, true_or, or_false, false_or, Bool.or_false, Bool.false_or, decide_false, decide_true, Nat.reduceLT, Nat.reduceLeDiff, Nat.reduceAdd, Nat.reduceSub, ↓reduceIte, Nat.reduceEqDiff, Nat.lt_add_one]
    exact h0 e
  · simp only [cd_X11_restore, t0, q1, q2, q3, g1, g2, g3, g4, g5, he, x1, x2, x3, en1, m1, r_rn0, r_rnc, r_vk0, r_vkc, r_vks, r_kci, r_kcv, r_ild, r_ald, r_lld, r_dld, r_Li, r_La, r_Ll, r_Ld, r_Ki, r_Ka, r_Kl, r_Kd, r_Kn, r_ist, r_ast, r_lst, r_dst, r_iinc, r_int, r_lng, r_dbl, r_i2, r_i1, r_l2, r_lsh, r_i2z, r_l2z, r_i2l, r_l2i, r_i2d, r_lcmp, r_ddiv, r_dcmpl, r_dup, r_dup2, r_pop, r_one_int, r_one_ref, r_go, r_if, r_ic, r_tsw, r_lsw, r_sw0, r_swc, r_lk0, r_lkc, r_kp, r_gI, r_gL, r_gR, r_pI, r_pZ, r_pL, r_pR, r_gs, r_ia, r_ca, r_za, r_la, r_da, r_aa, r_ias, r_cas, r_zas, r_las, r_das, r_aas, r_acp, r_new, r_nwa, r_nwq, r_ret, r_irt, r_zrt, r_lrt, r_drt, r_art, r_thr, r_cV0, r_cV1, r_cV2, r_cV3, r_cV4, r_cV5, r_cI0, r_cS0, r_cS1, r_cS2, r_cS3, r_cX0, r_cX1, r_cX2, r_cX3, r_rc, r_oi, r_refx, r_i10, r_i01, r_rfs, r_mem0, r_memc, r_beq, r_kl0, r_klz, r_kl1i, r_kl1r, r_kl1n, r_kl1l, r_kl1d, List.length_cons, List.length_nil, List.getElem?_cons_zero, List.getElem?_cons_succ, List.set_cons_zero, List.set_cons_succ, true_and, and_true, not_true, not_false_eq_true, false_implies, true_implies, or_true, true_or, or_false, false_or, Bool.or_false, Bool.false_or, decide_false, decide_true, Nat.reduceLT, Nat.reduceLeDiff, Nat.reduceAdd, Nat.reduceSub, ↓reduceIte, Nat.reduceEqDiff, Nat.lt_add_one]
    have f' : fr I I' (V 2 :: (A.all ++ z_rec Aj)) := fr_tr f fr_refl (fun a ha => by
        simp only [List.mem_cons, List.mem_append] at ha ⊢
        rcases ha with q | q
        · exact Or.inl q
        · exact Or.inr (Or.inl q)) (fun _ q => q)
    have l' : fr L L' (A.b :: z_rec Aj) := fr_tr fl' fr_refl (fun a ha => List.mem_cons.mpr (Or.inl (List.mem_singleton.mp ha))) (fun _ q => q)
    have w := w_C_G hU hS hC (Nat.le_refl _) f' l' hR ⟨nw, (⟨⟨m1, m2, m3, m4, m5⟩, ⟨by rw [me1 1 (by decide)]; exact m6, m7, me2, by decide⟩, fun i hi => absurd hi (Nat.not_lt_zero _)⟩ : p_M T I' L' (V 2) (V 3) Aj nw 0 B rr)⟩ (fun i hi => me1 i (by omega))
    rw [g7, g8] at w
    exact h e I' L' w
theorem c_saveF (hS : w_Sh T V A Aj sn Y D) (hC : w_C T I L V A Aj sn Y B m many rr has ms s0 s1 dly lim n cs fl) (h : ∀ I' L', w_NS T I L I' L' V A Aj sn Y B (m, many, rr) true m dly lim dly lim n cs fl → K none T I' L') : mz_CtrX G M_X11_save [.ref (V 0)] T I L K X := by
  refine mz_apartX fun hU => ?_
  obtain ⟨⟨t0, q1, q2, q3⟩, ⟨hE, en1, en2, en3, en4⟩, hfi, ⟨fd1, fd2, fd3⟩, htx, -, -, ⟨dj1, dj2, dj3, dj4⟩, out, hYd, -⟩ := id hS
  obtain ⟨c1, ⟨nw, c2⟩, c3, ⟨c4, c4'⟩, c5, c6, -⟩ := id hC
  obtain ⟨⟨g1, g2, g3, g4, g5⟩, ⟨f1, f2, f3⟩, ⟨x1, x2, x3⟩, -, hS9⟩ := id c1.sh
  obtain ⟨i1, -⟩ := id hS9
  obtain ⟨he, -⟩ := id hE
  obtain ⟨⟨m1, m2, m3, m4, m5⟩, ⟨m6, m7, m8, m9⟩, m10⟩ := id c2
  obtain ⟨⟨n1, n2, n3⟩, -⟩ := id c3
  obtain ⟨-, -, -, -, -, -, d7⟩ := id hC
  obtain ⟨fv1, fv2, fv3⟩ := hfi
  refine mz_ofXl (by decide +kernel) rfl (Nat.le_of_ble_eq_true rfl) (Nat.le_of_ble_eq_true rfl) [some (.ref (V 0))] rfl ?_
  refine mz_vc ok_X11_save [] [(), (), (), (), (), (), (), (), (), (), (), (), (), (), (), (), (), (), (), (), (), (), (), (), (), (), (), (), (), ()] ?_
  simp only [cd_X11_save, t0, q1, q2, q3, g1, g2, g3, g4, g5, he, x1, x2, x3, en1, m1, r_rn0, r_rnc, r_vk0, r_vkc, r_vks, r_kci, r_kcv, r_ild, r_ald, r_lld, r_dld, r_Li, r_La, r_Ll, r_Ld, r_Ki, r_Ka, r_Kl, r_Kd, r_Kn, r_ist, r_ast, r_lst, r_dst, r_iinc, r_int, r_lng, r_dbl, r_i2, r_i1, r_l2, r_lsh, r_i2z, r_l2z, r_i2l, r_l2i, r_i2d, r_lcmp, r_ddiv, r_dcmpl, r_dup, r_dup2, r_pop, r_one_int, r_one_ref, r_go, r_if, r_ic, r_tsw, r_lsw, r_sw0, r_swc, r_lk0, r_lkc, r_kp, r_gI, r_gL, r_gR, r_pI, r_pZ, r_pL, r_pR, r_gs, r_ia, r_ca, r_za, r_la, r_da, r_aa, r_ias, r_cas, r_zas, r_las, r_das, r_aas, r_acp, r_new, r_nwa, r_nwq, r_ret, r_irt, r_zrt, r_lrt, r_drt, r_art, r_thr, r_cV0, r_cV1, r_cV2, r_cV3, r_cV4, r_cV5, r_cI0, r_cS0, r_cS1, r_cS2, r_cS3, r_cX0, r_cX1, r_cX2, r_cX3, r_rc, r_oi, r_refx, r_i10, r_i01, r_rfs, r_mem0, r_memc, r_beq, r_kl0, r_klz, r_kl1i, r_kl1r, r_kl1n, r_kl1l, r_kl1d, List.length_cons, List.length_nil, List.getElem?_cons_zero, List.getElem?_cons_succ, List.set_cons_zero, List.set_cons_succ, true_and, and_true, not_true, not_false_eq_true, false_implies, true_implies, or_true, true_or, or_false, false_or, Bool.or_false, Bool.false_or, decide_false, decide_true, Nat.reduceLT, Nat.reduceLeDiff, Nat.reduceAdd, Nat.reduceSub, ↓reduceIte, Nat.reduceEqDiff, Nat.lt_add_one]
  refine c_keep m1 n2 n3 c1 dj2 (fun I' L' f fl' hN me4 => ?_)
  simp only [cd_X11_save, t0, q1, q2, q3, g1, g2, g3, g4, g5, he, x1, x2, x3, en1, m1, r_rn0, r_rnc, r_vk0, r_vkc, r_vks, r_kci, r_kcv, r_ild, r_ald, r_lld, r_dld, r_Li, r_La, r_Ll, r_Ld, r_Ki, r_Ka, r_Kl, r_Kd, r_Kn, r_ist, r_ast, r_lst, r_dst, r_iinc, r_int, r_lng, r_dbl, r_i2, r_i1, r_l2, r_lsh, r_i2z, r_l2z, r_i2l, r_l2i, r_i2d, r_lcmp, r_ddiv, r_dcmpl, r_dup, r_dup2, r_pop, r_one_int, r_one_ref, r_go, r_if, r_ic, r_tsw, r_lsw, r_sw0, r_swc, r_lk0, r_lkc, r_kp, r_gI, r_gL, r_gR, r_pI, r_pZ, r_pL, r_pR, r_gs, r_ia, r_ca, r_za, r_la, r_da, r_aa, r_ias, r_cas, r_zas, r_las, r_das, r_aas, r_acp, r_new, r_nwa, r_nwq, r_ret, r_irt, r_zrt, r_lrt, r_drt, r_art, r_thr, r_cV0, r_cV1, r_cV2, r_cV3, r_cV4, r_cV5, r_cI0, r_cS0, r_cS1, r_cS2, r_cS3, r_cX0, r_cX1, r_cX2, r_cX3, r_rc, r_oi, r_refx, r_i10, r_i01, r_rfs, r_mem0, r_memc, r_beq, r_kl0, r_klz, r_kl1i, r_kl1r, r_kl1n, r_kl1l, r_kl1d, List.length_cons, List.length_nil, List.getElem?_cons_zero, List.getElem?_cons_succ, List.set_cons_zero, List.set_cons_succ, true_and, and_true, not_true, not_false_eq_true, false_implies, true_implies, or_true, true_or, or_false, false_or, Bool.or_false, Bool.false_or, decide_false, decide_true, Nat.reduceLT, Nat.reduceLeDiff, Nat.reduceAdd, Nat.reduceSub, ↓reduceIte, Nat.reduceEqDiff, Nat.lt_add_one]
  rw [c4, c4'] at hN
  have hsn := n3
  have hmA : V 2 ∉ A.all := z_out hU c1.sh m1 (by decide)
  have ty : ∀ {a : Nat} {x : Nat × Nat}, (a, x) ∈ T.1 → x ∉ z_sh → x ≠ (0, 6) → I' a = I a := fun q e1 e2 => f _ (by
    simp only [List.mem_cons, not_or]
    exact ⟨mz_ne hU q m1 e2, z_out hU hsn q e1⟩)
  have eA : ∀ a, a ∈ A.all → I' a = I a := fun a ha => f a (by
    simp only [List.mem_cons, not_or]
    exact ⟨fun e => hmA (by rw [← e]; exact ha), fun q => dj2 a ha q⟩)
  have eAj : ∀ j, j < 6 → ∀ a, a ∈ (Aj j).all → I' a = I a ∧ L' a = L a := fun j hj a ha => ⟨f a (by
    simp only [List.mem_cons, not_or]
    exact ⟨fun e => z_out hU (m4 j hj).2 m1 (by decide) (by rw [← e]; exact ha), fun q => dj4 j hj a ha q⟩), fl' a (fun q => dj4 j hj a ha (by rw [List.mem_singleton.mp q]; exact z_bm))⟩
  obtain ⟨y1, -, ⟨⟨ya, yb, yc⟩, ⟨yd, ye, yf⟩, y5, y6, y7, y8, y9⟩, -⟩ := id c6.1
  obtain ⟨tx1, tx2, tx3⟩ := id htx
  have ey : ∀ a, a ∈ [V 7, Y 2, Y 4, Y 5, Y 6] → a ≠ V 2 → I' a = I a := fun a ha hne => f a (by
    simp only [List.mem_cons, not_or]
    exact ⟨hne, (out a ha).2.2⟩)
  refine h I' L' ⟨⟨p_R_fr c1 eA (fl' _ (fun q => dj2 A.b z_bm (by rw [List.mem_singleton.mp q]; exact z_bm))), ⟨nw, ⟨⟨m1, m2, m3, m4, m5⟩, ⟨by rw [me4 1 (by decide)]; exact m6, m7, by rw [me4 2 (by decide)]; exact m8, m9⟩, fun i hi => p_R_fr (m10 i hi) (fun a ha => (eAj _ (Nat.mod_lt _ (by decide)) a ha).1) ((eAj _ (Nat.mod_lt _ (by decide)) _ z_bm).2)⟩⟩, hN, ⟨by rw [eA _ z_gm]; exact c4, by rw [eA _ z_gm]; exact c4'⟩, by rw [ty fv3 (by decide) (by decide)]; exact c5, p_Se_fr c6 (ty y1 (by decide) (by decide)) (ey _ (by simp) (mz_ne hU yb m1 (by decide))) (ey _ (by simp) (mz_ne hU y5 m1 (by decide))) (fl' _ (fun q => z_out hU hsn y9 (by decide) (by rw [List.mem_singleton.mp q]; exact z_bm))), by rw [ty tx1 (by decide) (by decide), ty tx3 (by decide) (by decide)]; exact d7⟩, fr_tr f fr_refl (fun a ha => ?_) (fun _ q => q), fr_tr fl' fr_refl (fun a ha => ?_) (fun _ q => q)⟩
  · unfold w_CA
    simp only [List.mem_cons, List.mem_append] at ha ⊢
    rcases ha with e | e
    · exact Or.inl (Or.inl e)
    · exact Or.inr (Or.inr (Or.inr e))
  · unfold w_CL
    simp only [List.mem_cons, List.mem_append]
    exact Or.inr (Or.inr (Or.inr (by rw [List.mem_singleton.mp ha]; exact z_bm)))

end FACE5
