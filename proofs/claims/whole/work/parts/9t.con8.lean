/-! the constructors: the class -/
section CON8
variable {G : mz_G} {K : mz_K} {X : mz_X} {T : mz_T} {I : mz_I} {L : mz_L} {T0 : mz_T} {I0 : mz_I} {L0 : mz_L}
theorem tx_nw {S : List Nat} {a b : Nat} (w : n_w T0 T I0 I L0 L S) (p : p_Tx T0 a b) : p_Tx T a b := ⟨nw_mem w p.1, tv_nw w p.1 p.2.1, nw_mem w p.2.2⟩
theorem tx_T {o i a b : Nat} {v : Option Nat} (hne : a ≠ o) (p : p_Tx T a b) : p_Tx (T.1, mz_u T.2 o i v) a b := ⟨p.1, tv_T hne p.2.1, p.2.2⟩
/-- what the class's objects are, without the reference -/
def w_Sc (T : mz_T) (V : Nat → Nat) (A : z_A) (Aj : Nat → z_A) (sn : z_A) (Y : Nat → Nat) : Prop :=
  ((V 0, 0, 11) ∈ T.1 ∧ T.2 (V 0) 0 = some (V 1) ∧ T.2 (V 0) 1 = some A.g ∧ T.2 (V 0) 2 = some (V 8)) ∧
  (p_E T (V 1) A ∧ T.2 (V 1) 1 = some (V 2) ∧ T.2 (V 1) 2 = some (V 4) ∧ T.2 (V 1) 3 = some (Y 0) ∧ T.2 (V 1) 4 = some (V 6)) ∧
  ((V 4, 0, 3) ∈ T.1 ∧ T.2 (V 4) 0 = some (V 5) ∧ (V 5, 1, 448) ∈ T.1) ∧ p_Field T (V 6) (V 7) ∧ p_Tx T (V 8) (V 9) ∧
  ((∀ j, j < 6 → z_dj (Aj j) A) ∧ z_dj A sn ∧ z_dj sn A ∧ (∀ j, j < 6 → z_dj (Aj j) sn)) ∧
  (∀ a, a ∈ [V 7, Y 2, Y 4, Y 5, Y 6] → a ∉ z_A.all A ∧ (∀ j, j < 6 → a ∉ (Aj j).all) ∧ a ∉ z_A.all sn) ∧ (V 7 ≠ Y 2 ∧ V 7 ≠ Y 4)
theorem sc_nw {S : List Nat} {V : Nat → Nat} {A : z_A} {Aj : Nat → z_A} {sn : z_A} {Y : Nat → Nat} (w : n_w T0 T I0 I L0 L S) (h : w_Sc T0 V A Aj sn Y) : w_Sc T V A Aj sn Y := by
  obtain ⟨⟨a1, a2, a3, a4⟩, ⟨⟨b1, b2⟩, b3, b4, b5, b6⟩, ⟨c1, c2, c3⟩, d1, d2, d3⟩ := h
  exact ⟨⟨nw_mem w a1, tv_nw w a1 a2, tv_nw w a1 a3, tv_nw w a1 a4⟩, ⟨⟨nw_mem w b1, tv_nw w b1 b2⟩, tv_nw w b1 b3, tv_nw w b1 b4, tv_nw w b1 b5, tv_nw w b1 b6⟩, ⟨nw_mem w c1, tv_nw w c1 c2, nw_mem w c3⟩, fd_nw w d1, tx_nw w d2, d3⟩
theorem c_X11i {o : Nat} (hn : n_w T0 T I0 I L0 L [o]) (ho : (o, 0, 11) ∈ T.1)
    (h : ∀ T' I' L' V A Aj sn Y cs, V 0 = o → n_w T0 T' I0 I' L0 L' [o] → w_Sc T' V A Aj sn Y → (∀ rr ms s0 s1, w_C T' I' L' V A Aj sn Y 0 (o_begun 1) 1 (s_push 0 rr (o_begun 1)) false ms s0 s1 5 8 0 cs (-1)) → I' (Y 0) 1 = 0 → K none T' I' L') : mz_Ctr G M_X11_init [.ref o] T I L K := by
  refine mz_ofl mk_X11_init rfl (Nat.le_of_ble_eq_true rfl) (Nat.le_of_ble_eq_true rfl) [some (.ref o)] rfl ?_
  refine mz_vc ok_X11_init [] [(), (), (), (), (), (), (), (), (), (), (), (), (), (), (), (), (), (), (), (), (), (), (), (), (), (), (), (), (), ()] ?_
  simp only [cd_X11_init, List.mem_append, ho, r_rn0, r_rnc, r_vk0, r_vkc, r_vks, r_kci, r_kcv, r_ild, r_ald, r_lld, r_dld, r_Li, r_La, r_Ll, r_Ld, r_Ki, r_Ka, r_Kl, r_Kd, r_Kn, r_ist, r_ast, r_lst, r_dst, r_iinc, r_int, r_lng, r_dbl, r_i2, r_i1, r_l2, r_lsh, r_i2z, r_l2z, r_i2l, r_l2i, r_i2d, r_lcmp, r_ddiv, r_dcmpl, r_dup, r_dup2, r_pop, r_one_int, r_one_ref, r_go, r_if, r_ic, r_tsw, r_lsw, r_sw0, r_swc, r_lk0, r_lkc, r_kp, r_gI, r_gL, r_gR, r_pI, r_pZ, r_pL, r_pR, r_gs, r_ia, r_ca, r_za, r_la, r_da, r_aa, r_ias, r_cas, r_zas, r_las, r_das, r_aas, r_acp, r_new, r_nwa, r_nwq, r_ret, r_irt, r_zrt, r_lrt, r_drt, r_art, r_thr, r_cV0, r_cV1, r_cV2, r_cV3, r_cV4, r_cV5, r_cI0, r_cS0, r_cS1, r_cS2, r_cS3, r_cX0, r_cX1, r_cX2, r_cX3, r_rc, r_oi, r_refx, r_i10, r_i01, r_rfs, r_mem0, r_memc, r_beq, r_kl0, r_klz, r_kl1i, r_kl1r, r_kl1n, r_kl1l, r_kl1d, List.length_cons, List.length_nil, List.getElem?_cons_zero, List.getElem?_cons_succ, List.set_cons_zero, List.set_cons_succ, true_and, and_true, not_true, not_false_eq_true, false_implies, true_implies, or_true, true_or, or_false, false_or, Bool.or_false, Bool.false_or, decide_false, decide_true, Nat.reduceLT, Nat.reduceLeDiff, Nat.reduceAdd, Nat.reduceSub, ↓reduceIte, Nat.reduceEqDiff, Nat.lt_add_one]
  have s0 := st_0 hn ho
  intro en hen
  have nen : en ≠ o := Ne.symm (hen _ ho)
  refine c_X1i (nw_ob hen) nw_lst (fun T1 I1 L1 V A Aj sn Y eV w1 hW => ?_)
  have oK : o ∉ e_keys V A Aj sn Y := fun e => w1.2.2 o e _ ho rfl
  have w1' : n_w T T1 I I1 L L1 (V 2 :: (z_A.all A ++ z_rec Aj)) := nw_sub w1 (fun a q => by
    unfold e_keys
    simp only [List.mem_cons, List.mem_append, z_rec_mem, z_rc_mem, List.not_mem_nil, or_false] at q ⊢
    rcases q with e | e | e
    · simp [e]
    · simp [e]
    · exact Or.inr (Or.inr (Or.inr e)))
  have s1 := st_ob (f := 0) (q := en) s0 w1' (by simp)
  have hO1 : (o, 0, 11) ∈ T1.1 := s1.2.2.1
  have hW1 := ew_T (o := o) (i := 0) (v := some en) oK hW
  have e1 : mz_u T1.2 o 0 (some en) o 0 = some en := mz_u_eq
  have hen1 : (en, 0, 1) ∈ T1.1 := by rw [← eV]; exact hW.1.1.1
  have e2 : mz_u T1.2 o 0 (some en) en 0 = some A.g := by
    have q := hW1.1.1.2
    rw [eV] at q; exact q
  simp only [cd_X11_init, List.mem_append, hO1, e1, hen1, e2, r_rn0, r_rnc, r_vk0, r_vkc, r_vks, r_kci, r_kcv, r_ild, r_ald, r_lld, r_dld, r_Li, r_La, r_Ll, r_Ld, r_Ki, r_Ka, r_Kl, r_Kd, r_Kn, r_ist, r_ast, r_lst, r_dst, r_iinc, r_int, r_lng, r_dbl, r_i2, r_i1, r_l2, r_lsh, r_i2z, r_l2z, r_i2l, r_l2i, r_i2d, r_lcmp, r_ddiv, r_dcmpl, r_dup, r_dup2, r_pop, r_one_int, r_one_ref, r_go, r_if, r_ic, r_tsw, r_lsw, r_sw0, r_swc, r_lk0, r_lkc, r_kp, r_gI, r_gL, r_gR, r_pI, r_pZ, r_pL, r_pR, r_gs, r_ia, r_ca, r_za, r_la, r_da, r_aa, r_ias, r_cas, r_zas, r_las, r_das, r_aas, r_acp, r_new, r_nwa, r_nwq, r_ret, r_irt, r_zrt, r_lrt, r_drt, r_art, r_thr, r_cV0, r_cV1, r_cV2, r_cV3, r_cV4, r_cV5, r_cI0, r_cS0, r_cS1, r_cS2, r_cS3, r_cX0, r_cX1, r_cX2, r_cX3, r_rc, r_oi, r_refx, r_i10, r_i01, r_rfs, r_mem0, r_memc, r_beq, r_kl0, r_klz, r_kl1i, r_kl1r, r_kl1n, r_kl1l, r_kl1d, List.length_cons, List.length_nil, List.getElem?_cons_zero, List.getElem?_cons_succ, List.set_cons_zero, List.set_cons_succ, true_and, and_true, not_true, not_false_eq_true, false_implies, true_implies, or_true, true_or, or_false, false_or, Bool.or_false, Bool.false_or, decide_false, decide_true, Nat.reduceLT, Nat.reduceLeDiff, Nat.reduceAdd, Nat.reduceSub, ↓reduceIte, Nat.reduceEqDiff, Nat.lt_add_one]
  have hW2 := ew_T (o := o) (i := 1) (v := some A.g) oK hW1
  have s2 := st_ob (T := (T1.1, mz_u T1.2 o 0 (some en))) (T1 := (T1.1, mz_u T1.2 o 0 (some en))) (f := 1) (q := A.g) s1 nw_0 (by simp)
  intro tx htx
  have ntx : tx ≠ o := Ne.symm (htx _ hO1)
  refine c_X5i (nw_ob (T := (T1.1, mz_u (mz_u T1.2 o 0 (some en)) o 1 (some A.g))) htx) nw_lst (fun i => congrFun (if_pos rfl) i) (fun T3 I3 L3 ta w3 pT v1 v2 v3 => ?_)
  have s3 := st_ob (T := (T1.1, mz_u (mz_u T1.2 o 0 (some en)) o 1 (some A.g))) (f := 2) (q := tx) s2 w3 (by simp)
  have hO3 : (o, 0, 11) ∈ T3.1 := s3.2.2.1
  have hW3 := ew_T (o := o) (i := 2) (v := some tx) oK (ew_nw (T0 := (T1.1, mz_u (mz_u T1.2 o 0 (some en)) o 1 (some A.g))) w3 hW2)
  have pT3 := tx_T (o := o) (i := 2) (v := some tx) ntx pT
  have e3 : mz_u T3.2 o 2 (some tx) o 0 = some en := s3.2.2.2.1 (0, en) (by simp)
  have hen3 : (en, 0, 1) ∈ T3.1 := by rw [← eV]; exact hW3.1.1.1
  simp only [cd_X11_init, List.mem_append, hO3, e3, hen3, r_rn0, r_rnc, r_vk0, r_vkc, r_vks, r_kci, r_kcv, r_ild, r_ald, r_lld, r_dld, r_Li, r_La, r_Ll, r_Ld, r_Ki, r_Ka, r_Kl, r_Kd, r_Kn, r_ist, r_ast, r_lst, r_dst, r_iinc, r_int, r_lng, r_dbl, r_i2, r_i1, r_l2, r_lsh, r_i2z, r_l2z, r_i2l, r_l2i, r_i2d, r_lcmp, r_ddiv, r_dcmpl, r_dup, r_dup2, r_pop, r_one_int, r_one_ref, r_go, r_if, r_ic, r_tsw, r_lsw, r_sw0, r_swc, r_lk0, r_lkc, r_kp, r_gI, r_gL, r_gR, r_pI, r_pZ, r_pL, r_pR, r_gs, r_ia, r_ca, r_za, r_la, r_da, r_aa, r_ias, r_cas, r_zas, r_las, r_das, r_aas, r_acp, r_new, r_nwa, r_nwq, r_ret, r_irt, r_zrt, r_lrt, r_drt, r_art, r_thr, r_cV0, r_cV1, r_cV2, r_cV3, r_cV4, r_cV5, r_cI0, r_cS0, r_cS1, r_cS2, r_cS3, r_cX0, r_cX1, r_cX2, r_cX3, r_rc, r_oi, r_refx, r_i10, r_i01, r_rfs, r_mem0, r_memc, r_beq, r_kl0, r_klz, r_kl1i, r_kl1r, r_kl1n, r_kl1l, r_kl1d, List.length_cons, List.length_nil, List.getElem?_cons_zero, List.getElem?_cons_succ, List.set_cons_zero, List.set_cons_succ, true_and, and_true, not_true, not_false_eq_true, false_implies, true_implies, or_true, true_or, or_false, false_or, Bool.or_false, Bool.false_or, decide_false, decide_true, Nat.reduceLT, Nat.reduceLeDiff, Nat.reduceAdd, Nat.reduceSub, ↓reduceIte, Nat.reduceEqDiff, Nat.lt_add_one]
  obtain ⟨⟨hE, a3, a4, a5, a6⟩, ⟨b1, b2, b3⟩, c1, c2, c3, ⟨d1, d2, d3, d4⟩, d5, d6, ⟨j1, j2, j3, j4, j5⟩, ⟨k1, k2⟩, ⟨i1, i2, i3, i4, i5⟩⟩ := id hW3
  refine mz_apartC fun hU => ?_
  have hM : p_M (T3.1, mz_u T3.2 o 2 (some tx)) I3 L3 (V 2) (V 3) Aj 0 0 0 (fun _ _ => 0) := ⟨⟨d1, d2, d3, d5, j1⟩, ⟨i3 1, by decide, i3 2, by decide⟩, fun i hi => absurd hi (Nat.not_lt_zero _)⟩
  rw [← eV]
  refine c_beginE (n0 := 1) hE a3 c2 hM j2 (by decide) (fun I' L' hG => ?_)
  obtain ⟨g1, g2, g3, ⟨nw', g4⟩, g5, g6⟩ := hG
  obtain ⟨f1, f2⟩ := new_all (n0 := 1) (by decide)
  rw [f2] at g3
  rw [f1] at g4
  have ty : ∀ {a : Nat} {x : Nat × Nat}, (a, x) ∈ T3.1 → x ∉ z_sh → x ≠ (0, 6) → I' a = I3 a := fun {a x} q h1 h2 => g1 a (by
    simp only [List.mem_cons, List.mem_append, z_rec_mem, not_or]
    exact ⟨mz_ne hU q d1 h2, z_out hU c2 q h1, fun ⟨j, hj, e⟩ => z_out hU (d5 j hj).2 q h1 e⟩)
  simp only [cd_X11_init, List.mem_append, r_rn0, r_rnc, r_vk0, r_vkc, r_vks, r_kci, r_kcv, r_ild, r_ald, r_lld, r_dld, r_Li, r_La, r_Ll, r_Ld, r_Ki, r_Ka, r_Kl, r_Kd, r_Kn, r_ist, r_ast, r_lst, r_dst, r_iinc, r_int, r_lng, r_dbl, r_i2, r_i1, r_l2, r_lsh, r_i2z, r_l2z, r_i2l, r_l2i, r_i2d, r_lcmp, r_ddiv, r_dcmpl, r_dup, r_dup2, r_pop, r_one_int, r_one_ref, r_go, r_if, r_ic, r_tsw, r_lsw, r_sw0, r_swc, r_lk0, r_lkc, r_kp, r_gI, r_gL, r_gR, r_pI, r_pZ, r_pL, r_pR, r_gs, r_ia, r_ca, r_za, r_la, r_da, r_aa, r_ias, r_cas, r_zas, r_las, r_das, r_aas, r_acp, r_new, r_nwa, r_nwq, r_ret, r_irt, r_zrt, r_lrt, r_drt, r_art, r_thr, r_cV0, r_cV1, r_cV2, r_cV3, r_cV4, r_cV5, r_cI0, r_cS0, r_cS1, r_cS2, r_cS3, r_cX0, r_cX1, r_cX2, r_cX3, r_rc, r_oi, r_refx, r_i10, r_i01, r_rfs, r_mem0, r_memc, r_beq, r_kl0, r_klz, r_kl1i, r_kl1r, r_kl1n, r_kl1l, r_kl1d, List.length_cons, List.length_nil, List.getElem?_cons_zero, List.getElem?_cons_succ, List.set_cons_zero, List.set_cons_succ, true_and, and_true, not_true, not_false_eq_true, false_implies, true_implies, or_true, true_or, or_false, false_or, Bool.or_false, Bool.false_or, decide_false, decide_true, Nat.reduceLT, Nat.reduceLeDiff, Nat.reduceAdd, Nat.reduceSub, ↓reduceIte, Nat.reduceEqDiff, Nat.lt_add_one]
  refine h (T3.1, mz_u T3.2 o 2 (some tx)) I' L' (fun j => match j with | 0 => o | 8 => tx | 9 => ta | j => V j) A Aj sn Y (fun i => if i < 60 then I' ta i else I' tx 1) rfl ?_ ⟨⟨hO3, ?_, s3.2.2.2.1 (1, A.g) (by simp), s3.2.2.2.1 (2, tx) (by simp)⟩, ⟨hE, a3, a4, a5, a6⟩, ⟨b1, b2, b3⟩, c1, pT3, ⟨j2, j3, j4, j5⟩, k1, k2⟩ (fun rr ms s0 s1 => ⟨g3, ⟨nw', p_M_x g4 (fun i j hi hj => ?_)⟩, ⟨⟨d1, d4, c3⟩, ?_, fun q => absurd q (by decide)⟩, ⟨?_, ?_⟩, fun j hj => ?_, ⟨d6, Or.inl ?_⟩, ⟨?_, by decide, ?_, fun i hi => ?_, ?_⟩⟩) ?_
  · refine nw_sub (nw_frL (nw_fr s3.1 g1 (fun a ha => ?_)) g2 (fun a ha => ?_)) (by simp)
    · simp only [List.mem_append]
      exact Or.inl (Or.inl (Or.inr ha))
    · simp only [List.mem_append]
      refine Or.inl (Or.inl (Or.inr ?_))
      rcases List.mem_cons.mp ha with e | e
      · rw [e]; exact List.mem_cons_of_mem _ (List.mem_append_left _ z_bm)
      · exact List.mem_cons_of_mem _ (List.mem_append_right _ e)
  · show mz_u T3.2 o 2 (some tx) o 0 = some (V 1)
    rw [eV]; exact e3
  · have hi : i < 1 := hi
    rw [show i = 0 by omega]; rfl
  · show I' (V 2) 4 = b2i false
    rw [g6 4 (by decide)]; exact i3 4
  · rw [g5 7 (by decide)]; exact i1
  · rw [g5 8 (by decide)]; exact i2
  · show I' (V 5) j = f_lt j
    rw [ty b3 (by decide) (by decide)]; exact i5 j hj
  · rw [ty d6.1 (by decide) (by decide)]; exact i4 1
  · show I' tx 3 = zI (0 : Nat)
    rw [ty pT3.1 (by decide) (by decide)]; exact v3
  · show I' tx 2 = -1
    rw [ty pT3.1 (by decide) (by decide)]; exact v2
  · exact (if_pos hi).symm
  · exact (if_neg (by decide)).symm
  · rw [ty d6.1 (by decide) (by decide)]; exact i4 1
end CON8
