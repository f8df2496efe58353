/-! frames, and the rest of Position and Field -/
/-- the picture of whole numbers is the same outside of some addresses -/
def fr {α : Type} (I I' : Nat → Nat → α) (S : List Nat) : Prop := ∀ a, a ∉ S → I' a = I a
theorem fr_refl {α : Type} {I : Nat → Nat → α} {S : List Nat} : fr I I S := fun _ _ => rfl
theorem fr_u {α : Type} {I : Nat → Nat → α} {p k : Nat} {v : α} : fr I (mz_u I p k v) [p] := fun a h => mz_u_ne (by simpa using h)
theorem fr_row {α : Type} {I : Nat → Nat → α} {p : Nat} {v : Nat → α} : fr I (mz_row I p v) [p] := fun a h => mz_row_ne (by simpa using h)
theorem fr_tr {α : Type} {I J J' : Nat → Nat → α} {S S' S'' : List Nat} (h : fr I J S) (h' : fr J J' S') (hs : ∀ a, a ∈ S → a ∈ S'') (hs' : ∀ a, a ∈ S' → a ∈ S'') : fr I J' S'' := fun a ha => (h' a (fun q => ha (hs' a q))).trans (h a (fun q => ha (hs a q)))
theorem fr_u2 {α : Type} {I J : Nat → Nat → α} {S : List Nat} {p k : Nat} {v : α} (h : fr I J S) (hp : p ∈ S) : fr I (mz_u J p k v) S := fr_tr h fr_u (fun _ q => q) (fun a q => by rw [List.mem_singleton.mp q]; exact hp)
theorem fr_row2 {α : Type} {I J : Nat → Nat → α} {S : List Nat} {p : Nat} {v : Nat → α} (h : fr I J S) (hp : p ∈ S) : fr I (mz_row J p v) S := fr_tr h fr_row (fun _ q => q) (fun a q => by rw [List.mem_singleton.mp q]; exact hp)
theorem fr_tr1 {α : Type} {I J J' : Nat → Nat → α} {S S' : List Nat} (h : fr I J S) (h' : fr J J' S') (hs : ∀ a, a ∈ S' → a ∈ S) : fr I J' S := fr_tr h h' (fun _ q => q) hs
theorem fr_ne1 {α : Type} {I J : Nat → Nat → α} {p b : Nat} (h : fr I J [p]) (hb : b ≠ p) : J b = I b := h b (by simpa using hb)
section POS3
variable {G : mz_G} {K : mz_K} {T : mz_T} {I : mz_I} {L : mz_L}
/-- where a kind appears -/
def s_c0 (kd : Nat) : Int := if kd = 1 then 4 else 3
def s_r0 (kd : Nat) : Int := if kd = 1 then 20 else if kd = 0 then 18 else 19
theorem c_appearP {p kd : Nat} (h1 : (p, 0, 8) ∈ T.1) (hk : kd < 7) (h : ∀ I', fr I I' [p] → p_Pos T I' p kd 0 (s_c0 kd) (s_r0 kd) → K none T I' L) : mz_Ctr G M_X8_appear [.ref p, .int (zI kd)] T I L K := by
  refine mz_ofl mk_X8_appear rfl (Nat.le_of_ble_eq_true rfl) (Nat.le_of_ble_eq_true rfl) [some (.ref p), some (.int (zI kd))] rfl ?_
  have fin : ∀ c r : Int, c = s_c0 kd → r = s_r0 kd → K none T (mz_u (mz_u (mz_u (mz_u I p 0 (zI kd)) p 1 0) p 2 (zI c)) p 3 (zI r)) L := by
    intro c r hc hr
    refine h _ (fr_u2 (fr_u2 (fr_u2 fr_u (List.mem_singleton_self _)) (List.mem_singleton_self _)) (List.mem_singleton_self _)) ⟨h1, ?_, ?_, ?_, ?_, hk, by decide, ?_, ?_⟩
    · simp [mz_u_at]
    · simp [mz_u_at]; rfl
    · simp [mz_u_at, hc]
    · simp [mz_u_at, hr]
    · unfold s_c0; split <;> omega
    · unfold s_r0; split <;> (try split) <;> omega
  refine mz_vc ok_X8_appear [] [(), (), (), (), (), (), (), (), (), (), (), (), (), (), (), (), (), (), (), (), (), (), (), (), (), (), (), (), (), ()] ?_
  simp only [cd_X8_appear, h1, r_rn0, r_rnc, r_vk0, r_vkc, r_vks, r_kci, r_kcv, r_ild, r_ald, r_lld, r_dld, r_Li, r_La, r_Ll, r_Ld, r_Ki, r_Ka, r_Kl, r_Kd, r_Kn, r_ist, r_ast, r_lst, r_dst, r_iinc, r_int, r_lng, r_dbl, r_i2, r_i1, r_l2, r_lsh, r_i2z, r_l2z, r_i2l, r_l2i, r_i2d, r_lcmp, r_ddiv, r_dcmpl, r_dup, r_dup2, r_pop, r_one_int, r_one_ref, r_go, r_if, r_ic, r_tsw, r_lsw, r_sw0, r_swc, r_lk0, r_lkc, r_kp, r_gI, r_gL, r_gR, r_pI, r_pZ, r_pL, r_pR, r_gs, r_ia, r_ca, r_za, r_la, r_da, r_aa, r_ias, r_cas, r_zas, r_las, r_das, r_aas, r_acp, r_new, r_nwa, r_nwq, r_ret, r_irt, r_zrt, r_lrt, r_drt, r_art, r_thr, r_cV0, r_cV1, r_cV2, r_cV3, r_cV4, r_cV5, r_cI0, r_cS0, r_cS1, r_cS2, r_cS3, r_cX0, r_cX1, r_cX2, r_cX3, r_rc, r_oi, r_refx, r_i10, r_i01, r_rfs, r_mem0, r_memc, r_beq, r_kl0, r_klz, r_kl1i, r_kl1r, r_kl1n, r_kl1l, r_kl1d, List.length_cons, List.length_nil, List.getElem?_cons_zero, List.getElem?_cons_succ, List.set_cons_zero, List.set_cons_succ, true_and, and_true, not_true, not_false_eq_true, false_implies, true_implies, or_true, true_or, or_false, false_or, Bool.or_false, Bool.false_or, decide_false, decide_true, Nat.reduceLT, Nat.reduceLeDiff, Nat.reduceAdd, Nat.reduceSub, ↓reduceIte, Nat.reduceEqDiff, Nat.lt_add_one]
  rw [l_1, z_eq (by omega) (by omega), l_0]
  have l4 : (4 : Int32) = zI 4 := rfl
  have l3 : (3 : Int32) = zI 3 := rfl
  have l20 : (20 : Int32) = zI 20 := rfl
  have l18 : (18 : Int32) = zI 18 := rfl
  have l19 : (19 : Int32) = zI 19 := rfl
  simp (disch := omega) only [z_eq, l4, l3, l20, l18, l19]
  rw [l_0] at fin
  have a1 : ¬ (kd : Int) = 1 → s_c0 kd = 3 := fun q => by unfold s_c0; rw [if_neg (by omega)]
  have a2 : (kd : Int) = 1 → s_c0 kd = 4 := fun q => by unfold s_c0; rw [if_pos (by omega)]
  have a3 : (kd : Int) = 1 → s_r0 kd = 20 := fun q => by unfold s_r0; rw [if_pos (by omega)]
  have a4 : (kd : Int) = 0 → s_r0 kd = 18 := fun q => by unfold s_r0; rw [if_neg (by omega), if_pos (by omega)]
  have a5 : ¬ (kd : Int) = 1 → ¬ (kd : Int) = 0 → s_r0 kd = 19 := fun q q2 => by unfold s_r0; rw [if_neg (by omega), if_neg (by omega)]
  refine ⟨fun q => ⟨fun q2 => ⟨fun q3 => fin 3 19 (a1 q).symm (a5 q q3).symm, fun q3 => fin 3 18 (a1 q).symm (a4 (Classical.not_not.mp q3)).symm⟩, fun q2 => absurd q q2⟩, fun q => ⟨fun q2 => absurd q2 q, fun q2 => fin 4 20 (a2 (Classical.not_not.mp q)).symm (a3 (Classical.not_not.mp q)).symm⟩⟩
theorem c_copyP {p q kd s : Nat} {c r : Int} (h1 : (p, 0, 8) ∈ T.1) (hq : p_Pos T I q kd s c r) (h : ∀ I', fr I I' [p] → p_Pos T I' p kd s c r → K none T I' L) : mz_Ctr G M_X8_copyFrom [.ref p, .ref q] T I L K := by
  obtain ⟨g1, g2, g3, g4, g5, hk, hs, hc, hr⟩ := id hq
  refine mz_ofl mk_X8_copyFrom rfl (Nat.le_of_ble_eq_true rfl) (Nat.le_of_ble_eq_true rfl) [some (.ref p), some (.ref q)] rfl ?_
  refine mz_vc ok_X8_copyFrom [] [(), (), (), (), (), (), (), (), (), (), (), (), (), (), (), (), (), (), (), (), (), (), (), (), (), (), (), (), (), ()] ?_
  simp only [cd_X8_copyFrom, h1, g1, r_rn0, r_rnc, r_vk0, r_vkc, r_vks, r_kci, r_kcv, r_ild, r_ald, r_lld, r_dld, r_Li, r_La, r_Ll, r_Ld, r_Ki, r_Ka, r_Kl, r_Kd, r_Kn, r_ist, r_ast, r_lst, r_dst, r_iinc, r_int, r_lng, r_dbl, r_i2, r_i1, r_l2, r_lsh, r_i2z, r_l2z, r_i2l, r_l2i, r_i2d, r_lcmp, r_ddiv, r_dcmpl, r_dup, r_dup2, r_pop, r_one_int, r_one_ref, r_go, r_if, r_ic, r_tsw, r_lsw, r_sw0, r_swc, r_lk0, r_lkc, r_kp, r_gI, r_gL, r_gR, r_pI, r_pZ, r_pL, r_pR, r_gs, r_ia, r_ca, r_za, r_la, r_da, r_aa, r_ias, r_cas, r_zas, r_las, r_das, r_aas, r_acp, r_new, r_nwa, r_nwq, r_ret, r_irt, r_zrt, r_lrt, r_drt, r_art, r_thr, r_cV0, r_cV1, r_cV2, r_cV3, r_cV4, r_cV5, r_cI0, r_cS0, r_cS1, r_cS2, r_cS3, r_cX0, r_cX1, r_cX2, r_cX3, r_rc, r_oi, r_refx, r_i10, r_i01, r_rfs, r_mem0, r_memc, r_beq, r_kl0, r_klz, r_kl1i, r_kl1r, r_kl1n, r_kl1l, r_kl1d, List.length_cons, List.length_nil, List.getElem?_cons_zero, List.getElem?_cons_succ, List.set_cons_zero, List.set_cons_succ, true_and, and_true, not_true, not_false_eq_true, false_implies, true_implies, or_true, true_or, or_false, false_or, Bool.or_false, Bool.false_or, decide_false, decide_true, Nat.reduceLT, Nat.reduceLeDiff, Nat.reduceAdd, Nat.reduceSub, ↓reduceIte, Nat.reduceEqDiff, Nat.lt_add_one]
  refine h _ (fr_u2 (fr_u2 (fr_u2 fr_u (List.mem_singleton_self _)) (List.mem_singleton_self _)) (List.mem_singleton_self _)) ⟨h1, ?_, ?_, ?_, ?_, hk, hs, hc, hr⟩ <;> by_cases e : q = p <;> simp [mz_u_at, g2, g3, g4, g5, e]
  all_goals (subst e; simp [mz_u_at, g2, g3, g4, g5])
theorem c_sameP {p q kd s kd' s' : Nat} {c r c' r' : Int} (hp : p_Pos T I p kd s c r) (hq : p_Pos T I q kd' s' c' r') (ht : kd = kd' → s = s' → c = c' → r = r' → K (some (.int 1)) T I L) (hn : ¬ (kd = kd' ∧ s = s' ∧ c = c' ∧ r = r') → K (some (.int 0)) T I L) : mz_Ctr G M_X8_isSame [.ref p, .ref q] T I L K := by
  obtain ⟨g1, g2, g3, g4, g5, gk, gs, gc, gr⟩ := id hq
  obtain ⟨h1, h2, h3, h4, h5, hk, hs, hc, hr⟩ := id hp
  refine mz_ofl mk_X8_isSame rfl (Nat.le_of_ble_eq_true rfl) (Nat.le_of_ble_eq_true rfl) [some (.ref p), some (.ref q)] rfl ?_
  refine mz_vc ok_X8_isSame [] [(), (), (), (), (), (), (), (), (), (), (), (), (), (), (), (), (), (), (), (), (), (), (), (), (), (), (), (), (), ()] ?_
  simp only [cd_X8_isSame, h1, g1, h2, h3, h4, h5, g2, g3, g4, g5, r_rn0, r_rnc, r_vk0, r_vkc, r_vks, r_kci, r_kcv, r_ild, r_ald, r_lld, r_dld, r_Li, r_La, r_Ll, r_Ld, r_Ki, r_Ka, r_Kl, r_Kd, r_Kn, r_ist, r_ast, r_lst, r_dst, r_iinc, r_int, r_lng, r_dbl, r_i2, r_i1, r_l2, r_lsh, r_i2z, r_l2z, r_i2l, r_l2i, r_i2d, r_lcmp, r_ddiv, r_dcmpl, r_dup, r_dup2, r_pop, r_one_int, r_one_ref, r_go, r_if, r_ic, r_tsw, r_lsw, r_sw0, r_swc, r_lk0, r_lkc, r_kp, r_gI, r_gL, r_gR, r_pI, r_pZ, r_pL, r_pR, r_gs, r_ia, r_ca, r_za, r_la, r_da, r_aa, r_ias, r_cas, r_zas, r_las, r_das, r_aas, r_acp, r_new, r_nwa, r_nwq, r_ret, r_irt, r_zrt, r_lrt, r_drt, r_art, r_thr, r_cV0, r_cV1, r_cV2, r_cV3, r_cV4, r_cV5, r_cI0, r_cS0, r_cS1, r_cS2, r_cS3, r_cX0, r_cX1, r_cX2, r_cX3, r_rc, r_oi, r_refx, r_i10, r_i01, r_rfs, r_mem0, r_memc, r_beq, r_kl0, r_klz, r_kl1i, r_kl1r, r_kl1n, r_kl1l, r_kl1d, List.length_cons, List.length_nil, List.getElem?_cons_zero, List.getElem?_cons_succ, List.set_cons_zero, List.set_cons_succ, true_and, and_true, not_true, not_false_eq_true, false_implies, true_implies, or_true, true_or, or_false, false_or, Bool.or_false, Bool.false_or, decide_false, decide_true, Nat.reduceLT, Nat.reduceLeDiff, Nat.reduceAdd, Nat.reduceSub, ↓reduceIte, Nat.reduceEqDiff, Nat.lt_add_one]
  simp (disch := omega) only [z_eq]
  refine ⟨fun a => hn (by omega), fun a => ⟨fun b => hn (by omega), fun b => ⟨fun d => hn (by omega), fun d => ⟨fun e => hn (by omega), fun e => ht (by omega) (by omega) (by omega) (by omega)⟩⟩⟩⟩
/-- a piece covers a cell -/
def s_has (kd s : Nat) (c r : Int) (x : Int) : Bool := (List.range 4).any (fun j => decide (r * 10 + c + s_cell kd s j = x))
theorem s_has_t {kd s : Nat} {c r x : Int} : s_has kd s c r x = true ↔ ∃ j, j < 4 ∧ r * 10 + c + s_cell kd s j = x := by
  simp [s_has]
theorem s_has_f {kd s : Nat} {c r x : Int} (h : ∀ j, j < 4 → ¬ r * 10 + c + s_cell kd s j = x) : s_has kd s c r x = false := by
  cases hq : s_has kd s c r x with
  | false => rfl
  | true => obtain ⟨j, hj, e⟩ := s_has_t.mp hq; exact absurd e (h j hj)
theorem c_has {p kd s : Nat} {c r x : Int} (hp : p_Pos T I p kd s c r) (hx : -100000 ≤ x ∧ x ≤ 100000) (h : K (some (.int (b2i (s_has kd s c r x)))) T I L) : mz_Ctr G M_X8_has [.ref p, .int (zI x)] T I L K := by
  obtain ⟨h1, h2, h3, h4, h5, hk, hs, hc, hr⟩ := id hp
  refine mz_ofl mk_X8_has rfl (Nat.le_of_ble_eq_true rfl) (Nat.le_of_ble_eq_true rfl) [some (.ref p), some (.int (zI x)), none] rfl ?_
  have key := mz_loop (N := 4) (fun n => (∀ j, j < n → ¬ r * 10 + c + s_cell kd s j = x) → mz_W G M_X8_has K mz_nX 2 [some (.ref p), some (.int (zI x)), some (.int (zI n))] [] T I L (0, 0)) ?_ ?_ 0 (Nat.zero_le _)
  · refine mz_vc ok_X8_has [2] [(), (), (), (), (), (), (), (), (), (), (), (), (), (), (), (), (), (), (), (), (), (), (), (), (), (), (), (), (), ()] ?_
    simp only [cd_X8_has, h1, r_rn0, r_rnc, r_vk0, r_vkc, r_vks, r_kci, r_kcv, r_ild, r_ald, r_lld, r_dld, r_Li, r_La, r_Ll, r_Ld, r_Ki, r_Ka, r_Kl, r_Kd, r_Kn, r_ist, r_ast, r_lst, r_dst, r_iinc, r_int, r_lng, r_dbl, r_i2, r_i1, r_l2, r_lsh, r_i2z, r_l2z, r_i2l, r_l2i, r_i2d, r_lcmp, r_ddiv, r_dcmpl, r_dup, r_dup2, r_pop, r_one_int, r_one_ref, r_go, r_if, r_ic, r_tsw, r_lsw, r_sw0, r_swc, r_lk0, r_lkc, r_kp, r_gI, r_gL, r_gR, r_pI, r_pZ, r_pL, r_pR, r_gs, r_ia, r_ca, r_za, r_la, r_da, r_aa, r_ias, r_cas, r_zas, r_las, r_das, r_aas, r_acp, r_new, r_nwa, r_nwq, r_ret, r_irt, r_zrt, r_lrt, r_drt, r_art, r_thr, r_cV0, r_cV1, r_cV2, r_cV3, r_cV4, r_cV5, r_cI0, r_cS0, r_cS1, r_cS2, r_cS3, r_cX0, r_cX1, r_cX2, r_cX3, r_rc, r_oi, r_refx, r_i10, r_i01, r_rfs, r_mem0, r_memc, r_beq, r_kl0, r_klz, r_kl1i, r_kl1r, r_kl1n, r_kl1l, r_kl1d, List.length_cons, List.length_nil, List.getElem?_cons_zero, List.getElem?_cons_succ, List.set_cons_zero, List.set_cons_succ, true_and, and_true, not_true, not_false_eq_true, false_implies, true_implies, or_true, true_or, or_false, false_or, Bool.or_false, Bool.false_or, decide_false, decide_true, Nat.reduceLT, Nat.reduceLeDiff, Nat.reduceAdd, Nat.reduceSub, ↓reduceIte, Nat.reduceEqDiff, Nat.lt_add_one]
    exact key (fun i hi => absurd hi (Nat.not_lt_zero i))
  · intro hall
    refine mz_vc ok_X8_has [2] [(), (), (), (), (), (), (), (), (), (), (), (), (), (), (), (), (), (), (), (), (), (), (), (), (), (), (), (), (), ()] ?_
    simp only [cd_X8_has, h1, r_rn0, r_rnc, r_vk0, r_vkc, r_vks, r_kci, r_kcv, r_ild, r_ald, r_lld, r_dld, r_Li, r_La, r_Ll, r_Ld, r_Ki, r_Ka, r_Kl, r_Kd, r_Kn, r_ist, r_ast, r_lst, r_dst, r_iinc, r_int, r_lng, r_dbl, r_i2, r_i1, r_l2, r_lsh, r_i2z, r_l2z, r_i2l, r_l2i, r_i2d, r_lcmp, r_ddiv, r_dcmpl, r_dup, r_dup2, r_pop, r_one_int, r_one_ref, r_go, r_if, r_ic, r_tsw, r_lsw, r_sw0, r_swc, r_lk0, r_lkc, r_kp, r_gI, r_gL, r_gR, r_pI, r_pZ, r_pL, r_pR, r_gs, r_ia, r_ca, r_za, r_la, r_da, r_aa, r_ias, r_cas, r_zas, r_las, r_das, r_aas, r_acp, r_new, r_nwa, r_nwq, r_ret, r_irt, r_zrt, r_lrt, r_drt, r_art, r_thr, r_cV0, r_cV1, r_cV2, r_cV3, r_cV4, r_cV5, r_cI0, r_cS0, r_cS1, r_cS2, r_cS3, r_cX0, r_cX1, r_cX2, r_cX3, r_rc, r_oi, r_refx, r_i10, r_i01, r_rfs, r_mem0, r_memc, r_beq, r_kl0, r_klz, r_kl1i, r_kl1r, r_kl1n, r_kl1l, r_kl1d, List.length_cons, List.length_nil, List.getElem?_cons_zero, List.getElem?_cons_succ, List.set_cons_zero, List.set_cons_succ, true_and, and_true, not_true, not_false_eq_true, false_implies, true_implies, or_true, true_or, or_false, false_or, Bool.or_false, Bool.false_or, decide_false, decide_true, Nat.reduceLT, Nat.reduceLeDiff, Nat.reduceAdd, Nat.reduceSub, ↓reduceIte, Nat.reduceEqDiff, Nat.lt_add_one]
    refine ⟨fun _ => ?_, fun q => absurd (by decide) q⟩
    rw [s_has_f hall] at h; exact h
  · intro n hn ih hpre
    refine mz_vc ok_X8_has [2] [(), (), (), (), (), (), (), (), (), (), (), (), (), (), (), (), (), (), (), (), (), (), (), (), (), (), (), (), (), ()] ?_
    simp only [cd_X8_has, h1, r_rn0, r_rnc, r_vk0, r_vkc, r_vks, r_kci, r_kcv, r_ild, r_ald, r_lld, r_dld, r_Li, r_La, r_Ll, r_Ld, r_Ki, r_Ka, r_Kl, r_Kd, r_Kn, r_ist, r_ast, r_lst, r_dst, r_iinc, r_int, r_lng, r_dbl, r_i2, r_i1, r_l2, r_lsh, r_i2z, r_l2z, r_i2l, r_l2i, r_i2d, r_lcmp, r_ddiv, r_dcmpl, r_dup, r_dup2, r_pop, r_one_int, r_one_ref, r_go, r_if, r_ic, r_tsw, r_lsw, r_sw0, r_swc, r_lk0, r_lkc, r_kp, r_gI, r_gL, r_gR, r_pI, r_pZ, r_pL, r_pR, r_gs, r_ia, r_ca, r_za, r_la, r_da, r_aa, r_ias, r_cas, r_zas, r_las, r_das, r_aas, r_acp, r_new, r_nwa, r_nwq, r_ret, r_irt, r_zrt, r_lrt, r_drt, r_art, r_thr, r_cV0, r_cV1, r_cV2, r_cV3, r_cV4, r_cV5, r_cI0, r_cS0, r_cS1, r_cS2, r_cS3, r_cX0, r_cX1, r_cX2, r_cX3, r_rc, r_oi, r_refx, r_i10, r_i01, r_rfs, r_mem0, r_memc, r_beq, r_kl0, r_klz, r_kl1i, r_kl1r, r_kl1n, r_kl1l, r_kl1d, List.length_cons, List.length_nil, List.getElem?_cons_zero, List.getElem?_cons_succ, List.set_cons_zero, List.set_cons_succ, true_and, and_true, not_true, not_false_eq_true, false_implies, true_implies, or_true, true_or, or_false, false_or, Bool.or_false, Bool.false_or, decide_false, decide_true, Nat.reduceLT, Nat.reduceLeDiff, Nat.reduceAdd, Nat.reduceSub, ↓reduceIte, Nat.reduceEqDiff, Nat.lt_add_one]
    refine ⟨z_no (b := 4) (by omega) (by omega) hn, fun _ => c_cellAt hp hn ?_⟩
    simp only [cd_X8_has, h1, r_rn0, r_rnc, r_vk0, r_vkc, r_vks, r_kci, r_kcv, r_ild, r_ald, r_lld, r_dld, r_Li, r_La, r_Ll, r_Ld, r_Ki, r_Ka, r_Kl, r_Kd, r_Kn, r_ist, r_ast, r_lst, r_dst, r_iinc, r_int, r_lng, r_dbl, r_i2, r_i1, r_l2, r_lsh, r_i2z, r_l2z, r_i2l, r_l2i, r_i2d, r_lcmp, r_ddiv, r_dcmpl, r_dup, r_dup2, r_pop, r_one_int, r_one_ref, r_go, r_if, r_ic, r_tsw, r_lsw, r_sw0, r_swc, r_lk0, r_lkc, r_kp, r_gI, r_gL, r_gR, r_pI, r_pZ, r_pL, r_pR, r_gs, r_ia, r_ca, r_za, r_la, r_da, r_aa, r_ias, r_cas, r_zas, r_las, r_das, r_aas, r_acp, r_new, r_nwa, r_nwq, r_ret, r_irt, r_zrt, r_lrt, r_drt, r_art, r_thr, r_cV0, r_cV1, r_cV2, r_cV3, r_cV4, r_cV5, r_cI0, r_cS0, r_cS1, r_cS2, r_cS3, r_cX0, r_cX1, r_cX2, r_cX3, r_rc, r_oi, r_refx, r_i10, r_i01, r_rfs, r_mem0, r_memc, r_beq, r_kl0, r_klz, r_kl1i, r_kl1r, r_kl1n, r_kl1l, r_kl1d, List.length_cons, List.length_nil, List.getElem?_cons_zero, List.getElem?_cons_succ, List.set_cons_zero, List.set_cons_succ, true_and, and_true, not_true, not_false_eq_true, false_implies, true_implies, or_true, true_or, or_false, false_or, Bool.or_false, Bool.false_or, decide_false, decide_true, Nat.reduceLT, Nat.reduceLeDiff, Nat.reduceAdd, Nat.reduceSub, ↓reduceIte, Nat.reduceEqDiff, Nat.lt_add_one]
    have hce := s_cell_lt (kd := kd) (s := s) (j := n) hk hs hn
    rw [z_1, z_eq (by omega) (by omega)]
    refine ⟨fun q => ih (fun j hj => ?_), fun q => ?_⟩
    · by_cases e : j = n
      · rw [e]; exact q
      · exact hpre j (by omega)
    · rw [s_has_t.mpr ⟨n, hn, Classical.not_not.mp q⟩] at h; exact h
theorem c_above {p kd s lo : Nat} {c r : Int} (hp : p_Pos T I p kd s c r) (hlo : lo ≤ 100) (h : K (some (.int (b2i (decide ((lo : Int) * 10 ≤ r * 10 + c + s_cell kd s 0))))) T I L) : mz_Ctr G M_X8_isAllAtOrAbove [.ref p, .int (zI lo)] T I L K := by
  obtain ⟨h1, h2, h3, h4, h5, hk, hs, hc, hr⟩ := id hp
  refine mz_ofl mk_X8_isAllAtOrAbove rfl (Nat.le_of_ble_eq_true rfl) (Nat.le_of_ble_eq_true rfl) [some (.ref p), some (.int (zI lo))] rfl ?_
  refine mz_vc ok_X8_isAllAtOrAbove [] [(), (), (), (), (), (), (), (), (), (), (), (), (), (), (), (), (), (), (), (), (), (), (), (), (), (), (), (), (), ()] ?_
  simp only [cd_X8_isAllAtOrAbove, h1, r_rn0, r_rnc, r_vk0, r_vkc, r_vks, r_kci, r_kcv, r_ild, r_ald, r_lld, r_dld, r_Li, r_La, r_Ll, r_Ld, r_Ki, r_Ka, r_Kl, r_Kd, r_Kn, r_ist, r_ast, r_lst, r_dst, r_iinc, r_int, r_lng, r_dbl, r_i2, r_i1, r_l2, r_lsh, r_i2z, r_l2z, r_i2l, r_l2i, r_i2d, r_lcmp, r_ddiv, r_dcmpl, r_dup, r_dup2, r_pop, r_one_int, r_one_ref, r_go, r_if, r_ic, r_tsw, r_lsw, r_sw0, r_swc, r_lk0, r_lkc, r_kp, r_gI, r_gL, r_gR, r_pI, r_pZ, r_pL, r_pR, r_gs, r_ia, r_ca, r_za, r_la, r_da, r_aa, r_ias, r_cas, r_zas, r_las, r_das, r_aas, r_acp, r_new, r_nwa, r_nwq, r_ret, r_irt, r_zrt, r_lrt, r_drt, r_art, r_thr, r_cV0, r_cV1, r_cV2, r_cV3, r_cV4, r_cV5, r_cI0, r_cS0, r_cS1, r_cS2, r_cS3, r_cX0, r_cX1, r_cX2, r_cX3, r_rc, r_oi, r_refx, r_i10, r_i01, r_rfs, r_mem0, r_memc, r_beq, r_kl0, r_klz, r_kl1i, r_kl1r, r_kl1n, r_kl1l, r_kl1d, List.length_cons, List.length_nil, List.getElem?_cons_zero, List.getElem?_cons_succ, List.set_cons_zero, List.set_cons_succ, true_and, and_true, not_true, not_false_eq_true, false_implies, true_implies, or_true, true_or, or_false, false_or, Bool.or_false, Bool.false_or, decide_false, decide_true, Nat.reduceLT, Nat.reduceLeDiff, Nat.reduceAdd, Nat.reduceSub, ↓reduceIte, Nat.reduceEqDiff, Nat.lt_add_one]
  refine c_cellAt (j := 0) hp (by decide) ?_
  simp only [cd_X8_isAllAtOrAbove, h1, r_rn0, r_rnc, r_vk0, r_vkc, r_vks, r_kci, r_kcv, r_ild, r_ald, r_lld, r_dld, r_Li, r_La, r_Ll, r_Ld, r_Ki, r_Ka, r_Kl, r_Kd, r_Kn, r_ist, r_ast, r_lst, r_dst, r_iinc, r_int, r_lng, r_dbl, r_i2, r_i1, r_l2, r_lsh, r_i2z, r_l2z, r_i2l, r_l2i, r_i2d, r_lcmp, r_ddiv, r_dcmpl, r_dup, r_dup2, r_pop, r_one_int, r_one_ref, r_go, r_if, r_ic, r_tsw, r_lsw, r_sw0, r_swc, r_lk0, r_lkc, r_kp, r_gI, r_gL, r_gR, r_pI, r_pZ, r_pL, r_pR, r_gs, r_ia, r_ca, r_za, r_la, r_da, r_aa, r_ias, r_cas, r_zas, r_las, r_das, r_aas, r_acp, r_new, r_nwa, r_nwq, r_ret, r_irt, r_zrt, r_lrt, r_drt, r_art, r_thr, r_cV0, r_cV1, r_cV2, r_cV3, r_cV4, r_cV5, r_cI0, r_cS0, r_cS1, r_cS2, r_cS3, r_cX0, r_cX1, r_cX2, r_cX3, r_rc, r_oi, r_refx, r_i10, r_i01, r_rfs, r_mem0, r_memc, r_beq, r_kl0, r_klz, r_kl1i, r_kl1r, r_kl1n, r_kl1l, r_kl1d, List.length_cons, List.length_nil, List.getElem?_cons_zero, List.getElem?_cons_succ, List.set_cons_zero, List.set_cons_succ, true_and, and_true, not_true, not_false_eq_true, false_implies, true_implies, or_true, true_or, or_false, false_or, Bool.or_false, Bool.false_or, decide_false, decide_true, Nat.reduceLT, Nat.reduceLeDiff, Nat.reduceAdd, Nat.reduceSub, ↓reduceIte, Nat.reduceEqDiff, Nat.lt_add_one]
  have hce := s_cell_lt (kd := kd) (s := s) (j := 0) hk hs (by decide)
  rw [l_10, z_mul, z_lt (by omega) (by omega)]
  refine ⟨fun q => ?_, fun q => ?_⟩
  · rw [decide_eq_false (by omega)] at h; exact h
  · rw [decide_eq_true (by omega)] at h; exact h
/-- how far a piece slides -/
def s_sl (e : Nat → Bool) (kd s : Nat) (r d : Int) : Nat → Int → Nat
  | 0, _ => 0
  | n + 1, c => if s_fit e kd s (c + d) r then s_sl e kd s r d n (c + d) + 1 else 0
theorem c_slide {p kd s f k : Nat} {c r d : Int} (hp : p_Pos T I p kd s c r) (hf : p_Field T f k) (hd : d = -1 ∨ d = 1) (hc9 : -50 ≤ c ∧ c ≤ 50)
    (h : ∀ I', fr I I' [p] → p_Pos T I' p kd s (c + d * (s_sl (s_fl (I k)) kd s r d 10 c : Nat)) r → K (some (.int (zI (s_sl (s_fl (I k)) kd s r d 10 c)))) T I' L) : mz_Ctr G M_X8_slideBy [.ref p, .int (zI d), .ref f] T I L K := by
  refine mz_apartC fun hU => ?_
  obtain ⟨h1, h2, h3, h4, h5, hk, hs, hc, hr⟩ := id hp
  obtain ⟨f1, f2, f3⟩ := id hf
  have hne : k ≠ p := mz_ne hU f2 h1 (by decide)
  refine mz_ofl mk_X8_slideBy rfl (Nat.le_of_ble_eq_true rfl) (Nat.le_of_ble_eq_true rfl) [some (.ref p), some (.int (zI d)), some (.ref f), none] rfl ?_
  have key := mz_loop (N := 10) (fun n => ∀ I', fr I I' [p] → p_Pos T I' p kd s (c + d * n) r → s_sl (s_fl (I k)) kd s r d 10 c = n + s_sl (s_fl (I k)) kd s r d (10 - n) (c + d * n) → mz_W G M_X8_slideBy K mz_nX 2 [some (.ref p), some (.int (zI d)), some (.ref f), some (.int (zI n))] [] T I' L (0, 0)) ?_ ?_ 0 (Nat.zero_le _)
  · refine mz_vc ok_X8_slideBy [2] [(), (), (), (), (), (), (), (), (), (), (), (), (), (), (), (), (), (), (), (), (), (), (), (), (), (), (), (), (), ()] ?_
    simp only [cd_X8_slideBy, h1, f1, r_rn0, r_rnc, r_vk0, r_vkc, r_vks, r_kci, r_kcv, r_ild, r_ald, r_lld, r_dld, r_Li, r_La, r_Ll, r_Ld, r_Ki, r_Ka, r_Kl, r_Kd, r_Kn, r_ist, r_ast, r_lst, r_dst, r_iinc, r_int, r_lng, r_dbl, r_i2, r_i1, r_l2, r_lsh, r_i2z, r_l2z, r_i2l, r_l2i, r_i2d, r_lcmp, r_ddiv, r_dcmpl, r_dup, r_dup2, r_pop, r_one_int, r_one_ref, r_go, r_if, r_ic, r_tsw, r_lsw, r_sw0, r_swc, r_lk0, r_lkc, r_kp, r_gI, r_gL, r_gR, r_pI, r_pZ, r_pL, r_pR, r_gs, r_ia, r_ca, r_za, r_la, r_da, r_aa, r_ias, r_cas, r_zas, r_las, r_das, r_aas, r_acp, r_new, r_nwa, r_nwq, r_ret, r_irt, r_zrt, r_lrt, r_drt, r_art, r_thr, r_cV0, r_cV1, r_cV2, r_cV3, r_cV4, r_cV5, r_cI0, r_cS0, r_cS1, r_cS2, r_cS3, r_cX0, r_cX1, r_cX2, r_cX3, r_rc, r_oi, r_refx, r_i10, r_i01, r_rfs, r_mem0, r_memc, r_beq, r_kl0, r_klz, r_kl1i, r_kl1r, r_kl1n, r_kl1l, r_kl1d, List.length_cons, List.length_nil, List.getElem?_cons_zero, List.getElem?_cons_succ, List.set_cons_zero, List.set_cons_succ, true_and, and_true, not_true, not_false_eq_true, false_implies, true_implies, or_true, true_or, or_false, false_or, Bool.or_false, Bool.false_or, decide_false, decide_true, Nat.reduceLT, Nat.reduceLeDiff, Nat.reduceAdd, Nat.reduceSub, ↓reduceIte, Nat.reduceEqDiff, Nat.lt_add_one]
    exact key I fr_refl (by simpa using hp) (by simp)
  · intro I' hf' hp' he
    refine mz_vc ok_X8_slideBy [2] [(), (), (), (), (), (), (), (), (), (), (), (), (), (), (), (), (), (), (), (), (), (), (), (), (), (), (), (), (), ()] ?_
    simp only [cd_X8_slideBy, h1, f1, r_rn0, r_rnc, r_vk0, r_vkc, r_vks, r_kci, r_kcv, r_ild, r_ald, r_lld, r_dld, r_Li, r_La, r_Ll, r_Ld, r_Ki, r_Ka, r_Kl, r_Kd, r_Kn, r_ist, r_ast, r_lst, r_dst, r_iinc, r_int, r_lng, r_dbl, r_i2, r_i1, r_l2, r_lsh, r_i2z, r_l2z, r_i2l, r_l2i, r_i2d, r_lcmp, r_ddiv, r_dcmpl, r_dup, r_dup2, r_pop, r_one_int, r_one_ref, r_go, r_if, r_ic, r_tsw, r_lsw, r_sw0, r_swc, r_lk0, r_lkc, r_kp, r_gI, r_gL, r_gR, r_pI, r_pZ, r_pL, r_pR, r_gs, r_ia, r_ca, r_za, r_la, r_da, r_aa, r_ias, r_cas, r_zas, r_las, r_das, r_aas, r_acp, r_new, r_nwa, r_nwq, r_ret, r_irt, r_zrt, r_lrt, r_drt, r_art, r_thr, r_cV0, r_cV1, r_cV2, r_cV3, r_cV4, r_cV5, r_cI0, r_cS0, r_cS1, r_cS2, r_cS3, r_cX0, r_cX1, r_cX2, r_cX3, r_rc, r_oi, r_refx, r_i10, r_i01, r_rfs, r_mem0, r_memc, r_beq, r_kl0, r_klz, r_kl1i, r_kl1r, r_kl1n, r_kl1l, r_kl1d, List.length_cons, List.length_nil, List.getElem?_cons_zero, List.getElem?_cons_succ, List.set_cons_zero, List.set_cons_succ, true_and, and_true, not_true, not_false_eq_true, false_implies, true_implies, or_true, true_or, or_false, false_or, Bool.or_false, Bool.false_or, decide_false, decide_true, Nat.reduceLT, Nat.reduceLeDiff, Nat.reduceAdd, Nat.reduceSub, ↓reduceIte, Nat.reduceEqDiff, Nat.lt_add_one]
    refine ⟨fun _ => ?_, fun q => absurd (by decide) q⟩
    have e : s_sl (s_fl (I k)) kd s r d 10 c = 10 := by rw [he]; rfl
    rw [e] at h
    exact h I' hf' hp'
  · intro n hn ih I' hf' hp' he
    obtain ⟨g1, g2, g3, g4, g5, gk, gs, gc, gr⟩ := id hp'
    refine mz_vc ok_X8_slideBy [2] [(), (), (), (), (), (), (), (), (), (), (), (), (), (), (), (), (), (), (), (), (), (), (), (), (), (), (), (), (), ()] ?_
    simp only [cd_X8_slideBy, h1, f1, r_rn0, r_rnc, r_vk0, r_vkc, r_vks, r_kci, r_kcv, r_ild, r_ald, r_lld, r_dld, r_Li, r_La, r_Ll, r_Ld, r_Ki, r_Ka, r_Kl, r_Kd, r_Kn, r_ist, r_ast, r_lst, r_dst, r_iinc, r_int, r_lng, r_dbl, r_i2, r_i1, r_l2, r_lsh, r_i2z, r_l2z, r_i2l, r_l2i, r_i2d, r_lcmp, r_ddiv, r_dcmpl, r_dup, r_dup2, r_pop, r_one_int, r_one_ref, r_go, r_if, r_ic, r_tsw, r_lsw, r_sw0, r_swc, r_lk0, r_lkc, r_kp, r_gI, r_gL, r_gR, r_pI, r_pZ, r_pL, r_pR, r_gs, r_ia, r_ca, r_za, r_la, r_da, r_aa, r_ias, r_cas, r_zas, r_las, r_das, r_aas, r_acp, r_new, r_nwa, r_nwq, r_ret, r_irt, r_zrt, r_lrt, r_drt, r_art, r_thr, r_cV0, r_cV1, r_cV2, r_cV3, r_cV4, r_cV5, r_cI0, r_cS0, r_cS1, r_cS2, r_cS3, r_cX0, r_cX1, r_cX2, r_cX3, r_rc, r_oi, r_refx, r_i10, r_i01, r_rfs, r_mem0, r_memc, r_beq, r_kl0, r_klz, r_kl1i, r_kl1r, r_kl1n, r_kl1l, r_kl1d, List.length_cons, List.length_nil, List.getElem?_cons_zero, List.getElem?_cons_succ, List.set_cons_zero, List.set_cons_succ, true_and, and_true, not_true, not_false_eq_true, false_implies, true_implies, or_true, true_or, or_false, false_or, Bool.or_false, Bool.false_or, decide_false, decide_true, Nat.reduceLT, Nat.reduceLeDiff, Nat.reduceAdd, Nat.reduceSub, ↓reduceIte, Nat.reduceEqDiff, Nat.lt_add_one]
    refine ⟨z_no (b := 10) (by omega) (by omega) hn, fun _ => ?_⟩
    rw [g4, z_add]
    have b1 : c + d * n + d = c + d * (n + 1 : Nat) := by rcases hd with e | e <;> subst e <;> omega
    have b2 : -100 ≤ c + d * n + d ∧ c + d * n + d ≤ 100 := by rcases hd with e | e <;> subst e <;> omega
    have hp2 := p_Pos_c hp' b2
    have hf2 : fr I (mz_u I' p 2 (zI (c + d * n + d))) [p] := fr_u2 hf' (List.mem_singleton_self _)
    refine c_fits hp2 hf ?_
    rw [fr_ne1 hf2 hne]
    obtain ⟨m, hm⟩ : ∃ m, 10 - n = m + 1 := ⟨9 - n, by omega⟩
    have hm2 : 10 - (n + 1) = m := by omega
    rw [hm] at he
    simp only [cd_X8_slideBy, h1, f1, b2i_0, r_rn0, r_rnc, r_vk0, r_vkc, r_vks, r_kci, r_kcv, r_ild, r_ald, r_lld, r_dld, r_Li, r_La, r_Ll, r_Ld, r_Ki, r_Ka, r_Kl, r_Kd, r_Kn, r_ist, r_ast, r_lst, r_dst, r_iinc, r_int, r_lng, r_dbl, r_i2, r_i1, r_l2, r_lsh, r_i2z, r_l2z, r_i2l, r_l2i, r_i2d, r_lcmp, r_ddiv, r_dcmpl, r_dup, r_dup2, r_pop, r_one_int, r_one_ref, r_go, r_if, r_ic, r_tsw, r_lsw, r_sw0, r_swc, r_lk0, r_lkc, r_kp, r_gI, r_gL, r_gR, r_pI, r_pZ, r_pL, r_pR, r_gs, r_ia, r_ca, r_za, r_la, r_da, r_aa, r_ias, r_cas, r_zas, r_las, r_das, r_aas, r_acp, r_new, r_nwa, r_nwq, r_ret, r_irt, r_zrt, r_lrt, r_drt, r_art, r_thr, r_cV0, r_cV1, r_cV2, r_cV3, r_cV4, r_cV5, r_cI0, r_cS0, r_cS1, r_cS2, r_cS3, r_cX0, r_cX1, r_cX2, r_cX3, r_rc, r_oi, r_refx, r_i10, r_i01, r_rfs, r_mem0, r_memc, r_beq, r_kl0, r_klz, r_kl1i, r_kl1r, r_kl1n, r_kl1l, r_kl1d, List.length_cons, List.length_nil, List.getElem?_cons_zero, List.getElem?_cons_succ, List.set_cons_zero, List.set_cons_succ, true_and, and_true, not_true, not_false_eq_true, false_implies, true_implies, or_true, true_or, or_false, false_or, Bool.or_false, Bool.false_or, decide_false, decide_true, Nat.reduceLT, Nat.reduceLeDiff, Nat.reduceAdd, Nat.reduceSub, ↓reduceIte, Nat.reduceEqDiff, Nat.lt_add_one]
    rw [z_1]
    refine ⟨fun q => ?_, fun q => ?_⟩
    · have q : s_fit (s_fl (I k)) kd s (c + d * n + d) r = true := by simpa using q
      refine ih _ hf2 (by rw [← b1]; exact hp2) ?_
      rw [hm2, he, ← b1]
      simp [s_sl, q]; omega
    · have q : s_fit (s_fl (I k)) kd s (c + d * n + d) r = false := by simpa using q
      have e : s_sl (s_fl (I k)) kd s r d 10 c = n := by rw [he]; simp [s_sl, q]
      rw [e] at h
      rw [mz_u_eq, z_sub, show c + d * n + d - d = c + d * n by omega]
      exact h _ (fr_u2 hf2 (List.mem_singleton_self _)) (p_Pos_c hp2 (by omega))
end POS3
