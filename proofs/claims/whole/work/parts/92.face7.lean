/-! the class's face: play -/
section FACE7
variable {G : mz_G} {K : mz_K} {X : mz_X} {T : mz_T} {I : mz_I} {L : mz_L}
variable {V : Nat → Nat} {A : z_A} {Aj : Nat → z_A} {sn : z_A} {Y D : Nat → Nat} {B many n : Nat} {m : Nat → Int32} {rr : Nat → Nat → Int32} {has : Bool} {ms : Nat → Int32} {s0 s1 dly lim : Int32} {cs : Nat → Int32} {fl : Int32}

/-- one letter, carried out -/
noncomputable def r_do (dly lim : Int32) (c : Int32) (s : g_S) : g_S :=
  if c = 108 then (o_shift s.1 (-1) lim, s.2) else if c = 114 then (o_shift s.1 1 lim, s.2)
  else if c = 76 then (o_slide s.1 (-1) lim, s.2) else if c = 82 then (o_slide s.1 1 lim, s.2)
  else if c = 99 then (o_rot s.1 1 lim, s.2) else if c = 97 then (o_rot s.1 (-1) lim, s.2)
  else if c = 100 then (o_hand s.1, s.2) else if c = 120 then r_drop s else if c = 116 then r_tick dly s
  else if s.1 233 = 1 then s else g_hold s
def g_is (c : Int32) : Bool := decide (c = 108) || decide (c = 114) || decide (c = 76) || decide (c = 82) || decide (c = 99) || decide (c = 97) || decide (c = 100) || decide (c = 120) || decide (c = 116)
def g_ok (c : Int32) (s : g_S) : Bool := g_is c || !decide (s.1 233 = 1)
theorem z_lit {c : Int32} {k : Int} (h : c.toInt = k) : c = zI k := by rw [← h]; exact z_of c
theorem z_litn {c d : Int32} (h : ¬ c.toInt = d.toInt) : ¬ c = d := fun e => h (by rw [e])
theorem c_shiftG {d : Int} (hU : ∀ a x y, (a, x) ∈ T.1 → (a, y) ∈ T.1 → x = y) (hS : w_Sh T V A Aj sn Y D) (hC : w_C T I L V A Aj sn Y B m many rr has ms s0 s1 dly lim n cs fl) (hB : B < 1000000000) (hl : m 221 = 0) (hd : d = -1 ∨ d = 1) (h : ∀ I' L', w_NS T I L I' L' V A Aj sn Y (B + 1) (o_shift m d lim, many, rr) has ms s0 s1 dly lim n cs fl → K (some (.int (b2i (m_fit m d 0)))) T I' L') : mz_Ctr G M_X1_shiftPiece [.ref (V 1), .int (zI d)] T I L K := by
  obtain ⟨⟨t0, q1, q2, q3⟩, ⟨hE, en1, en2, en3, en4⟩, hfi, ⟨fd1, fd2, fd3⟩, htx, -, -, ⟨dj1, dj2, dj3, dj4⟩, out, hYd, -⟩ := id hS
  obtain ⟨c1, ⟨nw, c2⟩, c3, ⟨c4, c4'⟩, c5, c6, -⟩ := id hC
  obtain ⟨⟨g1, g2, g3, g4, g5⟩, ⟨f1, f2, f3⟩, ⟨x1, x2, x3⟩, -, hS9⟩ := id c1.sh
  obtain ⟨i1, -⟩ := id hS9
  obtain ⟨he, -⟩ := id hE
  refine c_shiftE hE c1 hl hd hB (fun I' f hR => ?_)
  rw [c4'] at hR
  exact h I' L (w_C_st hU hS hC (Nat.le_succ _) f (by simp [z_A.all]) (by simp; exact ⟨mz_ne hU g1 x1 (by decide), mz_ne hU g1 x3 (by decide)⟩) hR)
theorem c_slideG {d : Int} (hU : ∀ a x y, (a, x) ∈ T.1 → (a, y) ∈ T.1 → x = y) (hS : w_Sh T V A Aj sn Y D) (hC : w_C T I L V A Aj sn Y B m many rr has ms s0 s1 dly lim n cs fl) (hB : B < 1000000000) (hl : m 221 = 0) (hd : d = -1 ∨ d = 1) (h : ∀ I' L', w_NS T I L I' L' V A Aj sn Y (B + 1) (o_slide m d lim, many, rr) has ms s0 s1 dly lim n cs fl → K (some (.int (zI (m_sl m d)))) T I' L') : mz_Ctr G M_X1_slidePiece [.ref (V 1), .int (zI d)] T I L K := by
  obtain ⟨⟨t0, q1, q2, q3⟩, ⟨hE, en1, en2, en3, en4⟩, hfi, ⟨fd1, fd2, fd3⟩, htx, -, -, ⟨dj1, dj2, dj3, dj4⟩, out, hYd, -⟩ := id hS
  obtain ⟨c1, ⟨nw, c2⟩, c3, ⟨c4, c4'⟩, c5, c6, -⟩ := id hC
  obtain ⟨⟨g1, g2, g3, g4, g5⟩, ⟨f1, f2, f3⟩, ⟨x1, x2, x3⟩, -, hS9⟩ := id c1.sh
  obtain ⟨i1, -⟩ := id hS9
  obtain ⟨he, -⟩ := id hE
  refine c_slideE hE c1 hl hd hB (fun I' f hR => ?_)
  rw [c4'] at hR
  exact h I' L (w_C_st hU hS hC (Nat.le_succ _) f (by simp [z_A.all]) (by simp; exact ⟨mz_ne hU g1 x1 (by decide), mz_ne hU g1 x3 (by decide)⟩) hR)
theorem c_rotG {d : Int} (hU : ∀ a x y, (a, x) ∈ T.1 → (a, y) ∈ T.1 → x = y) (hS : w_Sh T V A Aj sn Y D) (hC : w_C T I L V A Aj sn Y B m many rr has ms s0 s1 dly lim n cs fl) (hB : B < 1000000000) (hl : m 221 = 0) (hd : d = -1 ∨ d = 1) (h : ∀ I' L', w_NS T I L I' L' V A Aj sn Y (B + 1) (o_rot m d lim, many, rr) has ms s0 s1 dly lim n cs fl → K (some (.int (m_ra m d))) T I' L') : mz_Ctr G M_X1_turnPiece [.ref (V 1), .int (zI d)] T I L K := by
  obtain ⟨⟨t0, q1, q2, q3⟩, ⟨hE, en1, en2, en3, en4⟩, hfi, ⟨fd1, fd2, fd3⟩, htx, -, -, ⟨dj1, dj2, dj3, dj4⟩, out, hYd, -⟩ := id hS
  obtain ⟨c1, ⟨nw, c2⟩, c3, ⟨c4, c4'⟩, c5, c6, -⟩ := id hC
  obtain ⟨⟨g1, g2, g3, g4, g5⟩, ⟨f1, f2, f3⟩, ⟨x1, x2, x3⟩, -, hS9⟩ := id c1.sh
  obtain ⟨i1, -⟩ := id hS9
  obtain ⟨he, -⟩ := id hE
  unfold m_ra o_rot at h
  refine c_turnE hE c1 hl hd hB (fun i i1 i2 i3 I' f hR => ?_) (fun i1 I' f hR => ?_)
  · rw [c4'] at hR
    rw [ki_some i1 i2 i3] at h
    exact h I' L (w_C_st hU hS hC (Nat.le_succ _) f (by simp [z_A.all]) (by simp; exact ⟨mz_ne hU g1 x1 (by decide), mz_ne hU g1 x3 (by decide)⟩) hR)
  · rw [ki_none i1] at h
    exact h I' L (w_C_st hU hS hC (Nat.le_succ _) f (by simp [z_A.all]) (by simp; exact ⟨mz_ne hU g1 x1 (by decide), mz_ne hU g1 x3 (by decide)⟩) hR)
theorem c_sinkG (hU : ∀ a x y, (a, x) ∈ T.1 → (a, y) ∈ T.1 → x = y) (hS : w_Sh T V A Aj sn Y D) (hC : w_C T I L V A Aj sn Y B m many rr has ms s0 s1 dly lim n cs fl) (hl : m 221 = 0) (h : ∀ I' L', w_NS T I L I' L' V A Aj sn Y B (o_hand m, many, rr) has ms s0 s1 dly lim n cs fl → K (some (.int (b2i (m_fit m 0 (-1))))) T I' L') : mz_Ctr G M_X1_sinkPiece [.ref (V 1)] T I L K := by
  obtain ⟨⟨t0, q1, q2, q3⟩, ⟨hE, en1, en2, en3, en4⟩, hfi, ⟨fd1, fd2, fd3⟩, htx, -, -, ⟨dj1, dj2, dj3, dj4⟩, out, hYd, -⟩ := id hS
  obtain ⟨c1, ⟨nw, c2⟩, c3, ⟨c4, c4'⟩, c5, c6, -⟩ := id hC
  obtain ⟨⟨g1, g2, g3, g4, g5⟩, ⟨f1, f2, f3⟩, ⟨x1, x2, x3⟩, -, hS9⟩ := id c1.sh
  obtain ⟨i1, -⟩ := id hS9
  obtain ⟨he, -⟩ := id hE
  unfold o_hand at h
  refine c_sinkE hE c1 hl (fun hf I' f hR => ?_) (fun hf => ?_)
  · rw [if_pos hf, hf] at h
    exact h I' L (w_C_st hU hS hC (Nat.le_refl _) f (by simp [z_A.all]) (by simp; exact ⟨mz_ne hU g1 x1 (by decide), mz_ne hU g1 x3 (by decide), mz_ne hU g1 i1 (by decide)⟩) hR)
  · rw [if_neg (by rw [hf]; decide), hf] at h
    exact h I L ⟨hC, fr_refl, fr_refl⟩
theorem g_rest {c : Int32} {s : g_S} (q108 : ¬ c.toInt = 108) (q114 : ¬ c.toInt = 114) (q76 : ¬ c.toInt = 76) (q82 : ¬ c.toInt = 82) (q99 : ¬ c.toInt = 99) (q97 : ¬ c.toInt = 97) (q100 : ¬ c.toInt = 100) (q120 : ¬ c.toInt = 120) (q116 : ¬ c.toInt = 116) : g_is c = false ∧ r_do dly lim c s = (if s.1 233 = 1 then s else g_hold s) := by
  have a1 := z_litn (d := 108) q108
  have a2 := z_litn (d := 114) q114
  have a3 := z_litn (d := 76) q76
  have a4 := z_litn (d := 82) q82
  have a5 := z_litn (d := 99) q99
  have a6 := z_litn (d := 97) q97
  have a7 := z_litn (d := 100) q100
  have a8 := z_litn (d := 120) q120
  have a9 := z_litn (d := 116) q116
  constructor
  · unfold g_is
    rw [decide_eq_false a1, decide_eq_false a2, decide_eq_false a3, decide_eq_false a4, decide_eq_false a5, decide_eq_false a6, decide_eq_false a7, decide_eq_false a8, decide_eq_false a9]; rfl
  · unfold r_do
    rw [if_neg a1, if_neg a2, if_neg a3, if_neg a4, if_neg a5, if_neg a6, if_neg a7, if_neg a8, if_neg a9]
theorem c_dropR (hU : ∀ a x y, (a, x) ∈ T.1 → (a, y) ∈ T.1 → x = y) (hS : w_Sh T V A Aj sn Y D) (hC : w_C T I L V A Aj sn Y B m many rr has ms s0 s1 dly lim n cs fl) (hB : B < 1000000000) (hl : m 221 = 0) (h : ∀ I' L', w_NS T I L I' L' V A Aj sn Y (B + 1) (r_drop (m, many, rr)) has ms s0 s1 dly lim n cs fl → K (some (.int (zI (m_n (o_fill (o_dropm m)))))) T I' L') : mz_Ctr G M_X1_dropPiece [.ref (V 1)] T I L K :=
  c_dropG hU hS hC hB hl (fun I' L' w => h I' L' ⟨w_C_x w.1 (drop_x (s := (m, many, rr)) (d_ok_R hC.1 hl)), w.2⟩)
theorem c_tickR (hU : ∀ a x y, (a, x) ∈ T.1 → (a, y) ∈ T.1 → x = y) (hS : w_Sh T V A Aj sn Y D) (hC : w_C T I L V A Aj sn Y B m many rr has ms s0 s1 dly lim n cs fl) (hB : B < 1000000000) (hl : m 221 = 0) (h : ∀ I' L', w_NS T I L I' L' V A Aj sn Y (B + 1) (r_tick dly (m, many, rr)) has ms s0 s1 dly lim n cs fl → K none T I' L') : mz_Ctr G M_X1_passTick [.ref (V 1)] T I L K :=
  c_tickG hU hS hC hB hl (fun I' L' w => h I' L' ⟨w_C_x w.1 tick_x, w.2⟩)
/-- ticks, as long as the game isn't over -/
noncomputable def r_tks (dly : Int32) : Nat → g_S → g_S
  | 0, s => s
  | k + 1, s => if s.1 221 = 0 then r_tks dly k (r_tick dly s) else s
theorem r_tks_over {dly : Int32} {s : g_S} (h : s.1 221 ≠ 0) : ∀ k, r_tks dly k s = s
  | 0 => rfl
  | k + 1 => by unfold r_tks; rw [if_neg h]
theorem r_tks_go {dly : Int32} {s : g_S} (h : s.1 221 = 0) {k : Nat} : r_tks dly (k + 1) s = r_tks dly k (r_tick dly s) := if_pos h
/-- all states on the way are in order -/
def k_tks (dly : Int32) : Nat → g_S → Prop
  | 0, s => r_ok s.1
  | k + 1, s => r_ok s.1 ∧ (s.1 221 = 0 → k_tks dly k (r_tick dly s))
theorem k_tks_over {s : g_S} (h : s.1 221 ≠ 0) (hr : r_ok s.1) : ∀ k, k_tks dly k s
  | 0 => hr
  | k + 1 => ⟨hr, fun q => absurd q h⟩
theorem c_ticksF {x : Int32} (hS : w_Sh T V A Aj sn Y D) (hC : w_C T I L V A Aj sn Y B m many rr has ms s0 s1 dly lim n cs fl) (hB : B + 200 < 1000000000) (h : ∀ j : Nat, m 221 = 0 → x = zI j → 1 ≤ j → j ≤ 200 → k_tks dly j (m, many, rr) → ∀ I' L', w_NS T I L I' L' V A Aj sn Y (B + 200) (r_tks dly j (m, many, rr)) has ms s0 s1 dly lim n cs fl → K (some (.int ((r_tks dly j (m, many, rr)).1 237 - m 237))) T I' L') (hx : ¬ (1 ≤ x ∧ x ≤ 200) → X "java/lang/IllegalArgumentException" T I L) (h0 : (1 ≤ x ∧ x ≤ 200) → m 221 ≠ 0 → X "java/lang/IllegalStateException" T I L) : mz_CtrX G M_X11_tick [.ref (V 0), .int x] T I L K X := by
  refine mz_apartX fun hU => ?_
  obtain ⟨⟨t0, q1, q2, q3⟩, ⟨hE, en1, en2, en3, en4⟩, hfi, ⟨fd1, fd2, fd3⟩, htx, -, -, ⟨dj1, dj2, dj3, dj4⟩, out, hYd, -⟩ := id hS
  obtain ⟨c1, ⟨nw, c2⟩, c3, ⟨c4, c4'⟩, c5, c6, -⟩ := id hC
  obtain ⟨⟨g1, g2, g3, g4, g5⟩, ⟨f1, f2, f3⟩, ⟨x1, x2, x3⟩, -, hS9⟩ := id c1.sh
  obtain ⟨i1, -⟩ := id hS9
  obtain ⟨he, -⟩ := id hE
  refine mz_ofXl (by decide +kernel) rfl (Nat.le_of_ble_eq_true rfl) (Nat.le_of_ble_eq_true rfl) [some (.ref (V 0)), some (.int x), none, none] rfl ?_
  refine mz_vc ok_X11_tick [26] [(), (), (), (), (), (), (), (), (), (), (), (), (), (), (), (), (), (), (), (), (), (), (), (), (), (), (), (), (), ()] ?_
  simp only [cd_X11_tick, t0, q1, q2, q3, g1, g2, g3, g4, g5, he, x1, x2, x3, i1, r_rn0, r_rnc, r_vk0, r_vkc, r_vks, r_kci, r_kcv, r_ild, r_ald, r_lld, r_dld, r_Li, r_La, r_Ll, r_Ld, r_Ki, r_Ka, r_Kl, r_Kd, r_Kn, r_ist, r_ast, r_lst, r_dst, r_iinc, r_int, r_lng, r_dbl, r_i2, r_i1, r_l2, r_lsh, r_i2z, r_l2z, r_i2l, r_l2i, r_i2d, r_lcmp, r_ddiv, r_dcmpl, r_dup, r_dup2, r_pop, r_one_int, r_one_ref, r_go, r_if, r_ic, r_tsw, r_lsw, r_sw0, r_swc, r_lk0, r_lkc, r_kp, r_gI, r_gL, r_gR, r_pI, r_pZ, r_pL, r_pR, r_gs, r_ia, r_ca, r_za, r_la, r_da, r_aa, r_ias, r_cas, r_zas, r_las, r_das, r_aas, r_acp, r_new, r_nwa, r_nwq, r_ret, r_irt, r_zrt, r_lrt, r_drt, r_art, r_thr, r_cV0, r_cV1, r_cV2, r_cV3, r_cV4, r_cV5, r_cI0, r_cS0, r_cS1, r_cS2, r_cS3, r_cX0, r_cX1, r_cX2, r_cX3, r_rc, r_oi, r_refx, r_i10, r_i01, r_rfs, r_mem0, r_memc, r_beq, r_kl0, r_klz, r_kl1i, r_kl1r, r_kl1n, r_kl1l, r_kl1d, List.length_cons, List.length_nil, List.getElem?_cons_zero, List.getElem?_cons_succ, List.set_cons_zero, List.set_cons_succ, true_and, and_true, not_true, not_false_eq_true, false_implies, true_implies, or_true, true_or, or_false, false_or, Bool.or_false, Bool.false_or, decide_false, decide_true, Nat.reduceLT, Nat.reduceLeDiff, Nat.reduceAdd, Nat.reduceSub, ↓reduceIte, Nat.reduceEqDiff, Nat.lt_add_one]
  refine c_needRange (fun q5 => ?_) hx
  obtain ⟨N, rfl, hN1, hN⟩ := z_get (a := 1) (b := 200) (by decide) q5
  simp only [cd_X11_tick, t0, q1, q2, q3, g1, g2, g3, g4, g5, he, x1, x2, x3, i1, r_rn0, r_rnc, r_vk0, r_vkc, r_vks, r_kci, r_kcv, r_ild, r_ald, r_lld, r_dld, r_Li, r_La, r_Ll, r_Ld, r_Ki, r_Ka, r_Kl, r_Kd, r_Kn, r_ist, r_ast, r_lst, r_dst, r_iinc, r_int, r_lng, r_dbl, r_i2, r_i1, r_l2, r_lsh, r_i2z, r_l2z, r_i2l, r_l2i, r_i2d, r_lcmp, r_ddiv, r_dcmpl, r_dup, r_dup2, r_pop, r_one_int, r_one_ref, r_go, r_if, r_ic, r_tsw, r_lsw, r_sw0, r_swc, r_lk0, r_lkc, r_kp, r_gI, r_gL, r_gR, r_pI, r_pZ, r_pL, r_pR, r_gs, r_ia, r_ca, r_za, r_la, r_da, r_aa, r_ias, r_cas, r_zas, r_las, r_das, r_aas, r_acp, r_new, r_nwa, r_nwq, r_ret, r_irt, r_zrt, r_lrt, r_drt, r_art, r_thr, r_cV0, r_cV1, r_cV2, r_cV3, r_cV4, r_cV5, r_cI0, r_cS0, r_cS1, r_cS2, r_cS3, r_cX0, r_cX1, r_cX2, r_cX3, r_rc, r_oi, r_refx, r_i10, r_i01, r_rfs, r_mem0, r_memc, r_beq, r_kl0, r_klz, r_kl1i, r_kl1r, r_kl1n, r_kl1l, r_kl1d, List.length_cons, List.length_nil, List.getElem?_cons_zero, List.getElem?_cons_succ, List.set_cons_zero, List.set_cons_succ, true_and, and_true, not_true, not_false_eq_true, false_implies, true_implies, or_true, true_or, or_false, false_or, Bool.or_false, Bool.false_or, decide_false, decide_true, Nat.reduceLT, Nat.reduceLeDiff, Nat.reduceAdd, Nat.reduceSub, ↓reduceIte, Nat.reduceEqDiff, Nat.lt_add_one]
  refine c_needPiece t0 q2 g1 (fun q => ?_) (fun q => h0 q5 (by rw [← c1.over.1]; exact q))
  rw [c1.over.1] at q
  simp only [cd_X11_tick, t0, q1, q2, q3, g1, g2, g3, g4, g5, he, x1, x2, x3, i1, r_rn0, r_rnc, r_vk0, r_vkc, r_vks, r_kci, r_kcv, r_ild, r_ald, r_lld, r_dld, r_Li, r_La, r_Ll, r_Ld, r_Ki, r_Ka, r_Kl, r_Kd, r_Kn, r_ist, r_ast, r_lst, r_dst, r_iinc, r_int, r_lng, r_dbl, r_i2, r_i1, r_l2, r_lsh, r_i2z, r_l2z, r_i2l, r_l2i, r_i2d, r_lcmp, r_ddiv, r_dcmpl, r_dup, r_dup2, r_pop, r_one_int, r_one_ref, r_go, r_if, r_ic, r_tsw, r_lsw, r_sw0, r_swc, r_lk0, r_lkc, r_kp, r_gI, r_gL, r_gR, r_pI, r_pZ, r_pL, r_pR, r_gs, r_ia, r_ca, r_za, r_la, r_da, r_aa, r_ias, r_cas, r_zas, r_las, r_das, r_aas, r_acp, r_new, r_nwa, r_nwq, r_ret, r_irt, r_zrt, r_lrt, r_drt, r_art, r_thr, r_cV0, r_cV1, r_cV2, r_cV3, r_cV4, r_cV5, r_cI0, r_cS0, r_cS1, r_cS2, r_cS3, r_cX0, r_cX1, r_cX2, r_cX3, r_rc, r_oi, r_refx, r_i10, r_i01, r_rfs, r_mem0, r_memc, r_beq, r_kl0, r_klz, r_kl1i, r_kl1r, r_kl1n, r_kl1l, r_kl1d, List.length_cons, List.length_nil, List.getElem?_cons_zero, List.getElem?_cons_succ, List.set_cons_zero, List.set_cons_succ, true_and, and_true, not_true, not_false_eq_true, false_implies, true_implies, or_true, true_or, or_false, false_or, Bool.or_false, Bool.false_or, decide_false, decide_true, Nat.reduceLT, Nat.reduceLeDiff, Nat.reduceAdd, Nat.reduceSub, ↓reduceIte, Nat.reduceEqDiff, Nat.lt_add_one]
  have h9 := fun u => h N q rfl hN1 hN u
  have key : ∀ k i : Nat, i + k = N → ∀ (s : g_S) I1 L1, w_NS T I L I1 L1 V A Aj sn Y (B + i) s has ms s0 s1 dly lim n cs fl → r_tks dly k s = r_tks dly N (m, many, rr) → (k_tks dly k s → k_tks dly N (m, many, rr)) → mz_W G M_X11_tick K X 26 [some (.ref (V 0)), some (.int (zI N)), some (.int (I A.s 2)), some (.int (zI i))] [] T I1 L1 (2, 12) := by
    intro k
    induction k with
    | zero =>
      intro i hi s I1 L1 w e ek
      have hi : i = N := by omega
      subst hi
      obtain ⟨w1, w2, w3⟩ := w
      refine mz_vc ok_X11_tick [26] [(), (), (), (), (), (), (), (), (), (), (), (), (), (), (), (), (), (), (), (), (), (), (), (), (), (), (), (), (), ()] ?_
      simp only [cd_X11_tick, t0, q1, q2, q3, g1, g2, g3, g4, g5, he, x1, x2, x3, i1, r_rn0, r_rnc, r_vk0, r_vkc, r_vks, r_kci, r_kcv, r_ild, r_ald, r_lld, r_dld, r_Li, r_La, r_Ll, r_Ld, r_Ki, r_Ka, r_Kl, r_Kd, r_Kn, r_ist, r_ast, r_lst, r_dst, r_iinc, r_int, r_lng, r_dbl, r_i2, r_i1, r_l2, r_lsh, r_i2z, r_l2z, r_i2l, r_l2i, r_i2d, r_lcmp, r_ddiv, r_dcmpl, r_dup, r_dup2, r_pop, r_one_int, r_one_ref, r_go, r_if, r_ic, r_tsw, r_lsw, r_sw0, r_swc, r_lk0, r_lkc, r_kp, r_gI, r_gL, r_gR, r_pI, r_pZ, r_pL, r_pR, r_gs, r_ia, r_ca, r_za, r_la, r_da, r_aa, r_ias, r_cas, r_zas, r_las, r_das, r_aas, r_acp, r_new, r_nwa, r_nwq, r_ret, r_irt, r_zrt, r_lrt, r_drt, r_art, r_thr, r_cV0, r_cV1, r_cV2, r_cV3, r_cV4, r_cV5, r_cI0, r_cS0, r_cS1, r_cS2, r_cS3, r_cX0, r_cX1, r_cX2, r_cX3, r_rc, r_oi, r_refx, r_i10, r_i01, r_rfs, r_mem0, r_memc, r_beq, r_kl0, r_klz, r_kl1i, r_kl1r, r_kl1n, r_kl1l, r_kl1d, List.length_cons, List.length_nil, List.getElem?_cons_zero, List.getElem?_cons_succ, List.set_cons_zero, List.set_cons_succ, true_and, and_true, not_true, not_false_eq_true, false_implies, true_implies, or_true, true_or, or_false, false_or, Bool.or_false, Bool.false_or, decide_false, decide_true, Nat.reduceLT, Nat.reduceLeDiff, Nat.reduceAdd, Nat.reduceSub, ↓reduceIte, Nat.reduceEqDiff, Nat.lt_add_one]
      refine ⟨fun _ => ?_, fun q => absurd (Int32.le_refl _) q⟩
      have e2 := w1.1.sc.2.2.1
      have e3 := c1.sc.2.2.1
      rw [e2, e3]
      have e : s = r_tks dly i (m, many, rr) := e
      subst e
      exact h9 (ek (r_ok_R w1.1 (by omega))) I1 L1 ⟨w_C_B hU hS w1 (by omega), w2, w3⟩
    | succ k ih =>
      intro i hi s I1 L1 w e ek
      obtain ⟨w1, w2, w3⟩ := id w
      have e2 := w1.1.sc.2.2.1
      have e3 := c1.sc.2.2.1
      have eo := w1.1.over.1
      refine mz_vc ok_X11_tick [26] [(), (), (), (), (), (), (), (), (), (), (), (), (), (), (), (), (), (), (), (), (), (), (), (), (), (), (), (), (), ()] ?_
      simp only [cd_X11_tick, t0, q1, q2, q3, g1, g2, g3, g4, g5, he, x1, x2, x3, i1, r_rn0, r_rnc, r_vk0, r_vkc, r_vks, r_kci, r_kcv, r_ild, r_ald, r_lld, r_dld, r_Li, r_La, r_Ll, r_Ld, r_Ki, r_Ka, r_Kl, r_Kd, r_Kn, r_ist, r_ast, r_lst, r_dst, r_iinc, r_int, r_lng, r_dbl, r_i2, r_i1, r_l2, r_lsh, r_i2z, r_l2z, r_i2l, r_l2i, r_i2d, r_lcmp, r_ddiv, r_dcmpl, r_dup, r_dup2, r_pop, r_one_int, r_one_ref, r_go, r_if, r_ic, r_tsw, r_lsw, r_sw0, r_swc, r_lk0, r_lkc, r_kp, r_gI, r_gL, r_gR, r_pI, r_pZ, r_pL, r_pR, r_gs, r_ia, r_ca, r_za, r_la, r_da, r_aa, r_ias, r_cas, r_zas, r_las, r_das, r_aas, r_acp, r_new, r_nwa, r_nwq, r_ret, r_irt, r_zrt, r_lrt, r_drt, r_art, r_thr, r_cV0, r_cV1, r_cV2, r_cV3, r_cV4, r_cV5, r_cI0, r_cS0, r_cS1, r_cS2, r_cS3, r_cX0, r_cX1, r_cX2, r_cX3, r_rc, r_oi, r_refx, r_i10, r_i01, r_rfs, r_mem0, r_memc, r_beq, r_kl0, r_klz, r_kl1i, r_kl1r, r_kl1n, r_kl1l, r_kl1d, List.length_cons, List.length_nil, List.getElem?_cons_zero, List.getElem?_cons_succ, List.set_cons_zero, List.set_cons_succ, true_and, and_true, not_true, not_false_eq_true, false_implies, true_implies, or_true, true_or, or_false, false_or, Bool.or_false, Bool.false_or, decide_false, decide_true, Nat.reduceLT, Nat.reduceLeDiff, Nat.reduceAdd, Nat.reduceSub, ↓reduceIte, Nat.reduceEqDiff, Nat.lt_add_one]
      refine ⟨z_no (by omega) (by omega) (by omega), fun _ => ?_⟩
      rw [e2, e3, eo]
      refine ⟨fun q7 => ?_, fun q7 => ?_⟩
      · rw [r_tks_over q7] at e
        subst e
        exact h9 (ek (k_tks_over q7 (r_ok_R w1.1 (by omega)) _)) I1 L1 ⟨w_C_B hU hS w1 (by omega), w2, w3⟩
      · have q7 : s.1 221 = 0 := Decidable.not_not.mp q7
        rw [r_tks_go q7] at e
        refine c_tickR hU hS w1 (by omega) q7 (fun I2 L2 w' => ?_)
        obtain ⟨v1, v2, v3⟩ := w'
        simp only [cd_X11_tick, t0, q1, q2, q3, g1, g2, g3, g4, g5, he, x1, x2, x3, i1, r_rn0, r_rnc, r_vk0, r_vkc, r_vks, r_kci, r_kcv, r_ild, r_ald, r_lld, r_dld, r_Li, r_La, r_Ll, r_Ld, r_Ki, r_Ka, r_Kl, r_Kd, r_Kn, r_ist, r_ast, r_lst, r_dst, r_iinc, r_int, r_lng, r_dbl, r_i2, r_i1, r_l2, r_lsh, r_i2z, r_l2z, r_i2l, r_l2i, r_i2d, r_lcmp, r_ddiv, r_dcmpl, r_dup, r_dup2, r_pop, r_one_int, r_one_ref, r_go, r_if, r_ic, r_tsw, r_lsw, r_sw0, r_swc, r_lk0, r_lkc, r_kp, r_gI, r_gL, r_gR, r_pI, r_pZ, r_pL, r_pR, r_gs, r_ia, r_ca, r_za, r_la, r_da, r_aa, r_ias, r_cas, r_zas, r_las, r_das, r_aas, r_acp, r_new, r_nwa, r_nwq, r_ret, r_irt, r_zrt, r_lrt, r_drt, r_art, r_thr, r_cV0, r_cV1, r_cV2, r_cV3, r_cV4, r_cV5, r_cI0, r_cS0, r_cS1, r_cS2, r_cS3, r_cX0, r_cX1, r_cX2, r_cX3, r_rc, r_oi, r_refx, r_i10, r_i01, r_rfs, r_mem0, r_memc, r_beq, r_kl0, r_klz, r_kl1i, r_kl1r, r_kl1n, r_kl1l, r_kl1d, List.length_cons, List.length_nil, List.getElem?_cons_zero, List.getElem?_cons_succ, List.set_cons_zero, List.set_cons_succ, true_and, and_true, not_true, not_false_eq_true, false_implies, true_implies, or_true, true_or, or_false, false_or, Bool.or_false, Bool.false_or, decide_false, decide_true, Nat.reduceLT, Nat.reduceLeDiff, Nat.reduceAdd, Nat.reduceSub, ↓reduceIte, Nat.reduceEqDiff, Nat.lt_add_one]
        rw [z_1, ← e3]
        exact mz_forget (ih (i + 1) (by omega) _ I2 L2 ⟨v1, fr_tr w2 v2 (fun _ q => q) (fun _ q => q), fr_tr w3 v3 (fun _ q => q) (fun _ q => q)⟩ e (fun u => ek ⟨r_ok_R w1.1 (by omega), fun _ => u⟩)) rfl (mz_fg_s (mz_fg_s (mz_fg_s (mz_fg_s mz_fg_0))))
  exact mz_forget (key N 0 (by omega) (m, many, rr) I L ⟨hC, fr_refl, fr_refl⟩ rfl id) rfl (mz_fg_s (mz_fg_s (mz_fg_s (mz_fg_s mz_fg_0))))
theorem c_carryF {c : Int32} (hU : ∀ a x y, (a, x) ∈ T.1 → (a, y) ∈ T.1 → x = y) (hS : w_Sh T V A Aj sn Y D) (hC : w_C T I L V A Aj sn Y B m many rr has ms s0 s1 dly lim n cs fl) (hB : B < 1000000000) (hl : m 221 = 0) (h : ∀ I' L', w_NS T I L I' L' V A Aj sn Y (B + 1) (r_do dly lim c (m, many, rr)) has ms s0 s1 dly lim n cs fl → K (some (.int (b2i (g_ok c (m, many, rr))))) T I' L') : mz_Ctr G M_X11_carryOut [.ref (V 0), .int c] T I L K := by
  obtain ⟨⟨t0, q1, q2, q3⟩, ⟨hE, en1, en2, en3, en4⟩, hfi, ⟨fd1, fd2, fd3⟩, htx, -, -, ⟨dj1, dj2, dj3, dj4⟩, out, hYd, -⟩ := id hS
  obtain ⟨c1, ⟨nw, c2⟩, c3, ⟨c4, c4'⟩, c5, c6, -⟩ := id hC
  obtain ⟨⟨g1, g2, g3, g4, g5⟩, ⟨f1, f2, f3⟩, ⟨x1, x2, x3⟩, -, hS9⟩ := id c1.sh
  obtain ⟨i1, -⟩ := id hS9
  obtain ⟨he, -⟩ := id hE
  have h9 : ∀ I' L' B' s, g_is c = true → B' ≤ B + 1 → w_NS T I L I' L' V A Aj sn Y B' s has ms s0 s1 dly lim n cs fl → r_do dly lim c (m, many, rr) = s → K (some (.int 1)) T I' L' := by
    intro I' L' B' s hi hB' w e
    subst e
    have := h I' L' ⟨w_C_B hU hS w.1 hB', w.2.1, w.2.2⟩
    unfold g_ok at this
    rw [hi] at this; exact this
  refine mz_ofl mk_X11_carryOut rfl (Nat.le_of_ble_eq_true rfl) (Nat.le_of_ble_eq_true rfl) [some (.ref (V 0)), some (.int c)] rfl ?_
  refine mz_vc ok_X11_carryOut [] [(), (), (), (), (), (), (), (), (), (), (), (), (), (), (), (), (), (), (), (), (), (), (), (), (), (), (), (), (), ()] ?_
  simp only [cd_X11_carryOut, t0, q1, q2, q3, g1, g2, g3, g4, g5, he, x1, x2, x3, r_rn0, r_rnc, r_vk0, r_vkc, r_vks, r_kci, r_kcv, r_ild, r_ald, r_lld, r_dld, r_Li, r_La, r_Ll, r_Ld, r_Ki, r_Ka, r_Kl, r_Kd, r_Kn, r_ist, r_ast, r_lst, r_dst, r_iinc, r_int, r_lng, r_dbl, r_i2, r_i1, r_l2, r_lsh, r_i2z, r_l2z, r_i2l, r_l2i, r_i2d, r_lcmp, r_ddiv, r_dcmpl, r_dup, r_dup2, r_pop, r_one_int, r_one_ref, r_go, r_if, r_ic, r_tsw, r_lsw, r_sw0, r_swc, r_lk0, r_lkc, r_kp, r_gI, r_gL, r_gR, r_pI, r_pZ, r_pL, r_pR, r_gs, r_ia, r_ca, r_za, r_la, r_da, r_aa, r_ias, r_cas, r_zas, r_las, r_das, r_aas, r_acp, r_new, r_nwa, r_nwq, r_ret, r_irt, r_zrt, r_lrt, r_drt, r_art, r_thr, r_cV0, r_cV1, r_cV2, r_cV3, r_cV4, r_cV5, r_cI0, r_cS0, r_cS1, r_cS2, r_cS3, r_cX0, r_cX1, r_cX2, r_cX3, r_rc, r_oi, r_refx, r_i10, r_i01, r_rfs, r_mem0, r_memc, r_beq, r_kl0, r_klz, r_kl1i, r_kl1r, r_kl1n, r_kl1l, r_kl1d, List.length_cons, List.length_nil, List.getElem?_cons_zero, List.getElem?_cons_succ, List.set_cons_zero, List.set_cons_succ, true_and, and_true, not_true, not_false_eq_true, false_implies, true_implies, or_true, true_or, or_false, false_or, Bool.or_false, Bool.false_or, decide_false, decide_true, Nat.reduceLT, Nat.reduceLeDiff, Nat.reduceAdd, Nat.reduceSub, ↓reduceIte, Nat.reduceEqDiff, Nat.lt_add_one]
  refine ⟨fun q => ?_, fun q76 => ⟨fun q => ?_, fun q82 => ⟨fun q => ?_, fun q97 => ⟨fun q => ?_, fun q99 => ⟨fun q => ?_, fun q100 => ⟨fun q => ?_, fun q108 => ⟨fun q => ?_, fun q114 => ⟨fun q => ?_, fun q116 => ⟨fun q => ?_, fun q120 => ⟨fun q5 => ?_, fun q5 => ?_⟩⟩⟩⟩⟩⟩⟩⟩⟩⟩
  · have q := z_lit q
    subst q
    refine c_slideG (d := -1) hU hS hC hB hl (Or.inl rfl) (fun I' L' w => ?_)
    simp only [cd_X11_carryOut, t0, q1, q2, q3, g1, g2, g3, g4, g5, he, x1, x2, x3, r_rn0, r_rnc, r_vk0, r_vkc, r_vks, r_kci, r_kcv, r_ild, r_ald, r_lld, r_dld, r_Li, r_La, r_Ll, r_Ld, r_Ki, r_Ka, r_Kl, r_Kd, r_Kn, r_ist, r_ast, r_lst, r_dst, r_iinc, r_int, r_lng, r_dbl, r_i2, r_i1, r_l2, r_lsh, r_i2z, r_l2z, r_i2l, r_l2i, r_i2d, r_lcmp, r_ddiv, r_dcmpl, r_dup, r_dup2, r_pop, r_one_int, r_one_ref, r_go, r_if, r_ic, r_tsw, r_lsw, r_sw0, r_swc, r_lk0, r_lkc, r_kp, r_gI, r_gL, r_gR, r_pI, r_pZ, r_pL, r_pR, r_gs, r_ia, r_ca, r_za, r_la, r_da, r_aa, r_ias, r_cas, r_zas, r_las, r_das, r_aas, r_acp, r_new, r_nwa, r_nwq, r_ret, r_irt, r_zrt, r_lrt, r_drt, r_art, r_thr, r_cV0, r_cV1, r_cV2, r_cV3, r_cV4, r_cV5, r_cI0, r_cS0, r_cS1, r_cS2, r_cS3, r_cX0, r_cX1, r_cX2, r_cX3, r_rc, r_oi, r_refx, r_i10, r_i01, r_rfs, r_mem0, r_memc, r_beq, r_kl0, r_klz, r_kl1i, r_kl1r, r_kl1n, r_kl1l, r_kl1d, List.length_cons, List.length_nil, List.getElem?_cons_zero, List.getElem?_cons_succ, List.set_cons_zero, List.set_cons_succ, true_and, and_true, not_true, not_false_eq_true, false_implies, true_implies, or_true, true_or, or_false, false_or, Bool.or_false, Bool.false_or, decide_false, decide_true, Nat.reduceLT, Nat.reduceLeDiff, Nat.reduceAdd, Nat.reduceSub, ↓reduceIte, Nat.reduceEqDiff, Nat.lt_add_one]
    exact h9 I' L' _ _ (by decide) (Nat.le_refl _) w (by unfold r_do; repeat (first | rw [if_pos (by decide)] | rw [if_neg (by decide)]))
  · have q := z_lit q
    subst q
    refine c_slideG (d := 1) hU hS hC hB hl (Or.inr rfl) (fun I' L' w => ?_)
    simp only [cd_X11_carryOut, t0, q1, q2, q3, g1, g2, g3, g4, g5, he, x1, x2, x3, r_rn0, r_rnc, r_vk0, r_vkc, r_vks, r_kci, r_kcv, r_ild, r_ald, r_lld, r_dld, r_Li, r_La, r_Ll, r_Ld, r_Ki, r_Ka, r_Kl, r_Kd, r_Kn, r_ist, r_ast, r_lst, r_dst, r_iinc, r_int, r_lng, r_dbl, r_i2, r_i1, r_l2, r_lsh, r_i2z, r_l2z, r_i2l, r_l2i, r_i2d, r_lcmp, r_ddiv, r_dcmpl, r_dup, r_dup2, r_pop, r_one_int, r_one_ref, r_go, r_if, r_ic, r_tsw, r_lsw, r_sw0, r_swc, r_lk0, r_lkc, r_kp, r_gI, r_gL, r_gR, r_pI, r_pZ, r_pL, r_pR, r_gs, r_ia, r_ca, r_za, r_la, r_da, r_aa, r_ias, r_cas, r_zas, r_las, r_das, r_aas, r_acp, r_new, r_nwa, r_nwq, r_ret, r_irt, r_zrt, r_lrt, r_drt, r_art, r_thr, r_cV0, r_cV1, r_cV2, r_cV3, r_cV4, r_cV5, r_cI0, r_cS0, r_cS1, r_cS2, r_cS3, r_cX0, r_cX1, r_cX2, r_cX3, r_rc, r_oi, r_refx, r_i10, r_i01, r_rfs, r_mem0, r_memc, r_beq, r_kl0, r_klz, r_kl1i, r_kl1r, r_kl1n, r_kl1l, r_kl1d, List.length_cons, List.length_nil, List.getElem?_cons_zero, List.getElem?_cons_succ, List.set_cons_zero, List.set_cons_succ, true_and, and_true, not_true, not_false_eq_true, false_implies, true_implies, or_true, true_or, or_false, false_or, Bool.or_false, Bool.false_or, decide_false, decide_true, Nat.reduceLT, Nat.reduceLeDiff, Nat.reduceAdd, Nat.reduceSub, ↓reduceIte, Nat.reduceEqDiff, Nat.lt_add_one]
    exact h9 I' L' _ _ (by decide) (Nat.le_refl _) w (by unfold r_do; repeat (first | rw [if_pos (by decide)] | rw [if_neg (by decide)]))
  · have q := z_lit q
    subst q
    refine c_rotG (d := -1) hU hS hC hB hl (Or.inl rfl) (fun I' L' w => ?_)
    simp only [cd_X11_carryOut, t0, q1, q2, q3, g1, g2, g3, g4, g5, he, x1, x2, x3, r_rn0, r_rnc, r_vk0, r_vkc, r_vks, r_kci, r_kcv, r_ild, r_ald, r_lld, r_dld, r_Li, r_La, r_Ll, r_Ld, r_Ki, r_Ka, r_Kl, r_Kd, r_Kn, r_ist, r_ast, r_lst, r_dst, r_iinc, r_int, r_lng, r_dbl, r_i2, r_i1, r_l2, r_lsh, r_i2z, r_l2z, r_i2l, r_l2i, r_i2d, r_lcmp, r_ddiv, r_dcmpl, r_dup, r_dup2, r_pop, r_one_int, r_one_ref, r_go, r_if, r_ic, r_tsw, r_lsw, r_sw0, r_swc, r_lk0, r_lkc, r_kp, r_gI, r_gL, r_gR, r_pI, r_pZ, r_pL, r_pR, r_gs, r_ia, r_ca, r_za, r_la, r_da, r_aa, r_ias, r_cas, r_zas, r_las, r_das, r_aas, r_acp, r_new, r_nwa, r_nwq, r_ret, r_irt, r_zrt, r_lrt, r_drt, r_art, r_thr, r_cV0, r_cV1, r_cV2, r_cV3, r_cV4, r_cV5, r_cI0, r_cS0, r_cS1, r_cS2, r_cS3, r_cX0, r_cX1, r_cX2, r_cX3, r_rc, r_oi, r_refx, r_i10, r_i01, r_rfs, r_mem0, r_memc, r_beq, r_kl0, r_klz, r_kl1i, r_kl1r, r_kl1n, r_kl1l, r_kl1d, List.length_cons, List.length_nil, List.getElem?_cons_zero, List.getElem?_cons_succ, List.set_cons_zero, List.set_cons_succ, true_and, and_true, not_true, not_false_eq_true, false_implies, true_implies, or_true, true_or, or_false, false_or, Bool.or_false, Bool.false_or, decide_false, decide_true, Nat.reduceLT, Nat.reduceLeDiff, Nat.reduceAdd, Nat.reduceSub, ↓reduceIte, Nat.reduceEqDiff, Nat.lt_add_one]
    exact h9 I' L' _ _ (by decide) (Nat.le_refl _) w (by unfold r_do; repeat (first | rw [if_pos (by decide)] | rw [if_neg (by decide)]))
  · have q := z_lit q
    subst q
    refine c_rotG (d := 1) hU hS hC hB hl (Or.inr rfl) (fun I' L' w => ?_)
    simp only [cd_X11_carryOut, t0, q1, q2, q3, g1, g2, g3, g4, g5, he, x1, x2, x3, r_rn0, r_rnc, r_vk0, r_vkc, r_vks, r_kci, r_kcv, r_ild, r_ald, r_lld, r_dld, r_Li, r_La, r_Ll, r_Ld, r_Ki, r_Ka, r_Kl, r_Kd, r_Kn, r_ist, r_ast, r_lst, r_dst, r_iinc, r_int, r_lng, r_dbl, r_i2, r_i1, r_l2, r_lsh, r_i2z, r_l2z, r_i2l, r_l2i, r_i2d, r_lcmp, r_ddiv, r_dcmpl, r_dup, r_dup2, r_pop, r_one_int, r_one_ref, r_go, r_if, r_ic, r_tsw, r_lsw, r_sw0, r_swc, r_lk0, r_lkc, r_kp, r_gI, r_gL, r_gR, r_pI, r_pZ, r_pL, r_pR, r_gs, r_ia, r_ca, r_za, r_la, r_da, r_aa, r_ias, r_cas, r_zas, r_las, r_das, r_aas, r_acp, r_new, r_nwa, r_nwq, r_ret, r_irt, r_zrt, r_lrt, r_drt, r_art, r_thr, r_cV0, r_cV1, r_cV2, r_cV3, r_cV4, r_cV5, r_cI0, r_cS0, r_cS1, r_cS2, r_cS3, r_cX0, r_cX1, r_cX2, r_cX3, r_rc, r_oi, r_refx, r_i10, r_i01, r_rfs, r_mem0, r_memc, r_beq, r_kl0, r_klz, r_kl1i, r_kl1r, r_kl1n, r_kl1l, r_kl1d, List.length_cons, List.length_nil, List.getElem?_cons_zero, List.getElem?_cons_succ, List.set_cons_zero, List.set_cons_succ, true_and, and_true, not_true, not_false_eq_true, false_implies, true_implies, or_true, true_or, or_false, false_or, Bool.or_false, Bool.false_or, decide_false, decide_true, Nat.reduceLT, Nat.reduceLeDiff, Nat.reduceAdd, Nat.reduceSub, ↓reduceIte, Nat.reduceEqDiff, Nat.lt_add_one]
    exact h9 I' L' _ _ (by decide) (Nat.le_refl _) w (by unfold r_do; repeat (first | rw [if_pos (by decide)] | rw [if_neg (by decide)]))
  · have q := z_lit q
    subst q
    refine c_sinkG hU hS hC hl (fun I' L' w => ?_)
    simp only [cd_X11_carryOut, t0, q1, q2, q3, g1, g2, g3, g4, g5, he, x1, x2, x3, r_rn0, r_rnc, r_vk0, r_vkc, r_vks, r_kci, r_kcv, r_ild, r_ald, r_lld, r_dld, r_Li, r_La, r_Ll, r_Ld, r_Ki, r_Ka, r_Kl, r_Kd, r_Kn, r_ist, r_ast, r_lst, r_dst, r_iinc, r_int, r_lng, r_dbl, r_i2, r_i1, r_l2, r_lsh, r_i2z, r_l2z, r_i2l, r_l2i, r_i2d, r_lcmp, r_ddiv, r_dcmpl, r_dup, r_dup2, r_pop, r_one_int, r_one_ref, r_go, r_if, r_ic, r_tsw, r_lsw, r_sw0, r_swc, r_lk0, r_lkc, r_kp, r_gI, r_gL, r_gR, r_pI, r_pZ, r_pL, r_pR, r_gs, r_ia, r_ca, r_za, r_la, r_da, r_aa, r_ias, r_cas, r_zas, r_las, r_das, r_aas, r_acp, r_new, r_nwa, r_nwq, r_ret, r_irt, r_zrt, r_lrt, r_drt, r_art, r_thr, r_cV0, r_cV1, r_cV2, r_cV3, r_cV4, r_cV5, r_cI0, r_cS0, r_cS1, r_cS2, r_cS3, r_cX0, r_cX1, r_cX2, r_cX3, r_rc, r_oi, r_refx, r_i10, r_i01, r_rfs, r_mem0, r_memc, r_beq, r_kl0, r_klz, r_kl1i, r_kl1r, r_kl1n, r_kl1l, r_kl1d, List.length_cons, List.length_nil, List.getElem?_cons_zero, List.getElem?_cons_succ, List.set_cons_zero, List.set_cons_succ, true_and, and_true, not_true, not_false_eq_true, false_implies, true_implies, or_true, true_or, or_false, false_or, Bool.or_false, Bool.false_or, decide_false, decide_true, Nat.reduceLT, Nat.reduceLeDiff, Nat.reduceAdd, Nat.reduceSub, ↓reduceIte, Nat.reduceEqDiff, Nat.lt_add_one]
    exact h9 I' L' _ _ (by decide) (Nat.le_succ _) w (by unfold r_do; repeat (first | rw [if_pos (by decide)] | rw [if_neg (by decide)]))
  · have q := z_lit q
    subst q
    refine c_shiftG (d := -1) hU hS hC hB hl (Or.inl rfl) (fun I' L' w => ?_)
    simp only [cd_X11_carryOut, t0, q1, q2, q3, g1, g2, g3, g4, g5, he, x1, x2, x3, r_rn0, r_rnc, r_vk0, r_vkc, r_vks, r_kci, r_kcv, r_ild, r_ald, r_lld, r_dld, r_Li, r_La, r_Ll, r_Ld, r_Ki, r_Ka, r_Kl, r_Kd, r_Kn, r_ist, r_ast, r_lst, r_dst, r_iinc, r_int, r_lng, r_dbl, r_i2, r_i1, r_l2, r_lsh, r_i2z, r_l2z, r_i2l, r_l2i, r_i2d, r_lcmp, r_ddiv, r_dcmpl, r_dup, r_dup2, r_pop, r_one_int, r_one_ref, r_go, r_if, r_ic, r_tsw, r_lsw, r_sw0, r_swc, r_lk0, r_lkc, r_kp, r_gI, r_gL, r_gR, r_pI, r_pZ, r_pL, r_pR, r_gs, r_ia, r_ca, r_za, r_la, r_da, r_aa, r_ias, r_cas, r_zas, r_las, r_das, r_aas, r_acp, r_new, r_nwa, r_nwq, r_ret, r_irt, r_zrt, r_lrt, r_drt, r_art, r_thr, r_cV0, r_cV1, r_cV2, r_cV3, r_cV4, r_cV5, r_cI0, r_cS0, r_cS1, r_cS2, r_cS3, r_cX0, r_cX1, r_cX2, r_cX3, r_rc, r_oi, r_refx, r_i10, r_i01, r_rfs, r_mem0, r_memc, r_beq, r_kl0, r_klz, r_kl1i, r_kl1r, r_kl1n, r_kl1l, r_kl1d, List.length_cons, List.length_nil, List.getElem?_cons_zero, List.getElem?_cons_succ, List.set_cons_zero, List.set_cons_succ, true_and, and_true, not_true, not_false_eq_true, false_implies, true_implies, or_true, true_or, or_false, false_or, Bool.or_false, Bool.false_or, decide_false, decide_true, Nat.reduceLT, Nat.reduceLeDiff, Nat.reduceAdd, Nat.reduceSub, ↓reduceIte, Nat.reduceEqDiff, Nat.lt_add_one]
    exact h9 I' L' _ _ (by decide) (Nat.le_refl _) w (by unfold r_do; repeat (first | rw [if_pos (by decide)] | rw [if_neg (by decide)]))
  · have q := z_lit q
    subst q
    refine c_shiftG (d := 1) hU hS hC hB hl (Or.inr rfl) (fun I' L' w => ?_)
    simp only [cd_X11_carryOut, t0, q1, q2, q3, g1, g2, g3, g4, g5, he, x1, x2, x3, r_rn0, r_rnc, r_vk0, r_vkc, r_vks, r_kci, r_kcv, r_ild, r_ald, r_lld, r_dld, r_Li, r_La, r_Ll, r_Ld, r_Ki, r_Ka, r_Kl, r_Kd, r_Kn, r_ist, r_ast, r_lst, r_dst, r_iinc, r_int, r_lng, r_dbl, r_i2, r_i1, r_l2, r_lsh, r_i2z, r_l2z, r_i2l, r_l2i, r_i2d, r_lcmp, r_ddiv, r_dcmpl, r_dup, r_dup2, r_pop, r_one_int, r_one_ref, r_go, r_if, r_ic, r_tsw, r_lsw, r_sw0, r_swc, r_lk0, r_lkc, r_kp, r_gI, r_gL, r_gR, r_pI, r_pZ, r_pL, r_pR, r_gs, r_ia, r_ca, r_za, r_la, r_da, r_aa, r_ias, r_cas, r_zas, r_las, r_das, r_aas, r_acp, r_new, r_nwa, r_nwq, r_ret, r_irt, r_zrt, r_lrt, r_drt, r_art, r_thr, r_cV0, r_cV1, r_cV2, r_cV3, r_cV4, r_cV5, r_cI0, r_cS0, r_cS1, r_cS2, r_cS3, r_cX0, r_cX1, r_cX2, r_cX3, r_rc, r_oi, r_refx, r_i10, r_i01, r_rfs, r_mem0, r_memc, r_beq, r_kl0, r_klz, r_kl1i, r_kl1r, r_kl1n, r_kl1l, r_kl1d, List.length_cons, List.length_nil, List.getElem?_cons_zero, List.getElem?_cons_succ, List.set_cons_zero, List.set_cons_succ, true_and, and_true, not_true, not_false_eq_true, false_implies, true_implies, or_true, true_or, or_false, false_or, Bool.or_false, Bool.false_or, decide_false, decide_true, Nat.reduceLT, Nat.reduceLeDiff, Nat.reduceAdd, Nat.reduceSub, ↓reduceIte, Nat.reduceEqDiff, Nat.lt_add_one]
    exact h9 I' L' _ _ (by decide) (Nat.le_refl _) w (by unfold r_do; repeat (first | rw [if_pos (by decide)] | rw [if_neg (by decide)]))
  · have q := z_lit q
    subst q
    refine c_tickR hU hS hC hB hl (fun I' L' w => ?_)
    simp only [cd_X11_carryOut, t0, q1, q2, q3, g1, g2, g3, g4, g5, he, x1, x2, x3, r_rn0, r_rnc, r_vk0, r_vkc, r_vks, r_kci, r_kcv, r_ild, r_ald, r_lld, r_dld, r_Li, r_La, r_Ll, r_Ld, r_Ki, r_Ka, r_Kl, r_Kd, r_Kn, r_ist, r_ast, r_lst, r_dst, r_iinc, r_int, r_lng, r_dbl, r_i2, r_i1, r_l2, r_lsh, r_i2z, r_l2z, r_i2l, r_l2i, r_i2d, r_lcmp, r_ddiv, r_dcmpl, r_dup, r_dup2, r_pop, r_one_int, r_one_ref, r_go, r_if, r_ic, r_tsw, r_lsw, r_sw0, r_swc, r_lk0, r_lkc, r_kp, r_gI, r_gL, r_gR, r_pI, r_pZ, r_pL, r_pR, r_gs, r_ia, r_ca, r_za, r_la, r_da, r_aa, r_ias, r_cas, r_zas, r_las, r_das, r_aas, r_acp, r_new, r_nwa, r_nwq, r_ret, r_irt, r_zrt, r_lrt, r_drt, r_art, r_thr, r_cV0, r_cV1, r_cV2, r_cV3, r_cV4, r_cV5, r_cI0, r_cS0, r_cS1, r_cS2, r_cS3, r_cX0, r_cX1, r_cX2, r_cX3, r_rc, r_oi, r_refx, r_i10, r_i01, r_rfs, r_mem0, r_memc, r_beq, r_kl0, r_klz, r_kl1i, r_kl1r, r_kl1n, r_kl1l, r_kl1d, List.length_cons, List.length_nil, List.getElem?_cons_zero, List.getElem?_cons_succ, List.set_cons_zero, List.set_cons_succ, true_and, and_true, not_true, not_false_eq_true, false_implies, true_implies, or_true, true_or, or_false, false_or, Bool.or_false, Bool.false_or, decide_false, decide_true, Nat.reduceLT, Nat.reduceLeDiff, Nat.reduceAdd, Nat.reduceSub, ↓reduceIte, Nat.reduceEqDiff, Nat.lt_add_one]
    exact h9 I' L' _ _ (by decide) (Nat.le_refl _) w (by unfold r_do; repeat (first | rw [if_pos (by decide)] | rw [if_neg (by decide)]))
  · have q := z_lit q
    subst q
    refine c_dropR hU hS hC hB hl (fun I' L' w => ?_)
    simp only [cd_X11_carryOut, t0, q1, q2, q3, g1, g2, g3, g4, g5, he, x1, x2, x3, r_rn0, r_rnc, r_vk0, r_vkc, r_vks, r_kci, r_kcv, r_ild, r_ald, r_lld, r_dld, r_Li, r_La, r_Ll, r_Ld, r_Ki, r_Ka, r_Kl, r_Kd, r_Kn, r_ist, r_ast, r_lst, r_dst, r_iinc, r_int, r_lng, r_dbl, r_i2, r_i1, r_l2, r_lsh, r_i2z, r_l2z, r_i2l, r_l2i, r_i2d, r_lcmp, r_ddiv, r_dcmpl, r_dup, r_dup2, r_pop, r_one_int, r_one_ref, r_go, r_if, r_ic, r_tsw, r_lsw, r_sw0, r_swc, r_lk0, r_lkc, r_kp, r_gI, r_gL, r_gR, r_pI, r_pZ, r_pL, r_pR, r_gs, r_ia, r_ca, r_za, r_la, r_da, r_aa, r_ias, r_cas, r_zas, r_las, r_das, r_aas, r_acp, r_new, r_nwa, r_nwq, r_ret, r_irt, r_zrt, r_lrt, r_drt, r_art, r_thr, r_cV0, r_cV1, r_cV2, r_cV3, r_cV4, r_cV5, r_cI0, r_cS0, r_cS1, r_cS2, r_cS3, r_cX0, r_cX1, r_cX2, r_cX3, r_rc, r_oi, r_refx, r_i10, r_i01, r_rfs, r_mem0, r_memc, r_beq, r_kl0, r_klz, r_kl1i, r_kl1r, r_kl1n, r_kl1l, r_kl1d, List.length_cons, List.length_nil, List.getElem?_cons_zero, List.getElem?_cons_succ, List.set_cons_zero, List.set_cons_succ, true_and, and_true, not_true, not_false_eq_true, false_implies, true_implies, or_true, true_or, or_false, false_or, Bool.or_false, Bool.false_or, decide_false, decide_true, Nat.reduceLT, Nat.reduceLeDiff, Nat.reduceAdd, Nat.reduceSub, ↓reduceIte, Nat.reduceEqDiff, Nat.lt_add_one]
    exact h9 I' L' _ _ (by decide) (Nat.le_refl _) w (by unfold r_do; repeat (first | rw [if_pos (by decide)] | rw [if_neg (by decide)]))
  · have hne : g_is c = false ∧ r_do dly lim c (m, many, rr) = (if m 233 = 1 then (m, many, rr) else g_hold (m, many, rr)) := g_rest q108 q114 q76 q82 q99 q97 q100 q120 q116
    obtain ⟨-, e5, -⟩ := c1.live hl
    rw [e5] at q5
    unfold g_ok at h
    rw [hne.1, hne.2, if_neg (by rw [q5]; decide), show ((m, many, rr) : g_S).1 233 = 0 from q5] at h
    refine c_holdG hU hS hC hl (fun I' L' w => ?_)
    simp only [cd_X11_carryOut, t0, q1, q2, q3, g1, g2, g3, g4, g5, he, x1, x2, x3, r_rn0, r_rnc, r_vk0, r_vkc, r_vks, r_kci, r_kcv, r_ild, r_ald, r_lld, r_dld, r_Li, r_La, r_Ll, r_Ld, r_Ki, r_Ka, r_Kl, r_Kd, r_Kn, r_ist, r_ast, r_lst, r_dst, r_iinc, r_int, r_lng, r_dbl, r_i2, r_i1, r_l2, r_lsh, r_i2z, r_l2z, r_i2l, r_l2i, r_i2d, r_lcmp, r_ddiv, r_dcmpl, r_dup, r_dup2, r_pop, r_one_int, r_one_ref, r_go, r_if, r_ic, r_tsw, r_lsw, r_sw0, r_swc, r_lk0, r_lkc, r_kp, r_gI, r_gL, r_gR, r_pI, r_pZ, r_pL, r_pR, r_gs, r_ia, r_ca, r_za, r_la, r_da, r_aa, r_ias, r_cas, r_zas, r_las, r_das, r_aas, r_acp, r_new, r_nwa, r_nwq, r_ret, r_irt, r_zrt, r_lrt, r_drt, r_art, r_thr, r_cV0, r_cV1, r_cV2, r_cV3, r_cV4, r_cV5, r_cI0, r_cS0, r_cS1, r_cS2, r_cS3, r_cX0, r_cX1, r_cX2, r_cX3, r_rc, r_oi, r_refx, r_i10, r_i01, r_rfs, r_mem0, r_memc, r_beq, r_kl0, r_klz, r_kl1i, r_kl1r, r_kl1n, r_kl1l, r_kl1d, List.length_cons, List.length_nil, List.getElem?_cons_zero, List.getElem?_cons_succ, List.set_cons_zero, List.set_cons_succ, true_and, and_true, not_true, not_false_eq_true, false_implies, true_implies, or_true, true_or, or_false, false_or, Bool.or_false, Bool.false_or, decide_false, decide_true, Nat.reduceLT, Nat.reduceLeDiff, Nat.reduceAdd, Nat.reduceSub, ↓reduceIte, Nat.reduceEqDiff, Nat.lt_add_one]
    exact h I' L' ⟨w_C_B hU hS w.1 (Nat.le_succ _), w.2.1, w.2.2⟩
  · have hne : g_is c = false ∧ r_do dly lim c (m, many, rr) = (if m 233 = 1 then (m, many, rr) else g_hold (m, many, rr)) := g_rest q108 q114 q76 q82 q99 q97 q100 q120 q116
    obtain ⟨-, e5, -⟩ := c1.live hl
    have e6 := c1.used
    rw [e5] at e6 q5
    have q5 := e6.resolve_left q5
    unfold g_ok at h
    rw [hne.1, hne.2, if_pos q5, show ((m, many, rr) : g_S).1 233 = 1 from q5] at h
    exact h I L ⟨w_C_B hU hS hC (Nat.le_succ _), fr_refl, fr_refl⟩
/-- a letter, as often as it is asked for -/
noncomputable def r_reps (dly lim c : Int32) : Nat → g_S × Int32 → g_S × Int32
  | 0, p => p
  | k + 1, p => if p.1.1 221 = 0 then r_reps dly lim c k (r_do dly lim c p.1, p.2 + b2i (g_ok c p.1)) else p
theorem r_reps_over {c : Int32} {p : g_S × Int32} (h : p.1.1 221 ≠ 0) : ∀ k, r_reps dly lim c k p = p
  | 0 => rfl
  | k + 1 => if_neg h
theorem r_reps_go {c : Int32} {p : g_S × Int32} (h : p.1.1 221 = 0) {k : Nat} : r_reps dly lim c (k + 1) p = r_reps dly lim c k (r_do dly lim c p.1, p.2 + b2i (g_ok c p.1)) := if_pos h
/-- a text, from its i-th sign on -/
noncomputable def r_play (dly lim : Int32) (cs : Nat → Int32) : Nat → Nat → g_S × Int32 → g_S × Int32
  | 0, _, p => p
  | k + 1, i, p => r_play dly lim cs k (i + 1) (r_reps dly lim (cs i) (t_tm cs i) p)
/-- all states on the way are in order -/
def k_reps (dly lim c : Int32) : Nat → g_S × Int32 → Prop
  | 0, p => r_ok p.1.1
  | k + 1, p => r_ok p.1.1 ∧ (p.1.1 221 = 0 → k_reps dly lim c k (r_do dly lim c p.1, p.2 + b2i (g_ok c p.1)))
theorem k_reps_over {c : Int32} {p : g_S × Int32} (h : p.1.1 221 ≠ 0) (hr : r_ok p.1.1) : ∀ k, k_reps dly lim c k p
  | 0 => hr
  | k + 1 => ⟨hr, fun q => absurd q h⟩
def k_play (dly lim : Int32) (cs : Nat → Int32) : Nat → Nat → g_S × Int32 → Prop
  | 0, _, p => r_ok p.1.1
  | k + 1, i, p => k_reps dly lim (cs i) (t_tm cs i) p ∧ k_play dly lim cs k (i + 1) (r_reps dly lim (cs i) (t_tm cs i) p)
theorem t_go_cg {cs' : Nat → Int32} (h : ∀ i, i < n → cs i = cs' i) : ∀ k i af, i + k = n → t_go cs n k i af = t_go cs' n k i af
  | 0, _, _, _ => rfl
  | k + 1, i, af, e => by
    unfold t_go
    rw [h i (by omega), t_go_cg h k (i + 1) _ (by omega)]
theorem t_fault_cg {cs' : Nat → Int32} (h : ∀ i, i < n → cs i = cs' i) : t_fault cs n = t_fault cs' n := t_go_cg h n 0 false (by omega)
theorem t_tm_cg {cs' : Nat → Int32} {i : Nat} (h : ∀ j, j ≤ i → cs j = cs' j) : t_tm cs i = t_tm cs' i := by
  unfold t_tm
  rw [h i (Nat.le_refl _), h (i - 1) (by omega)]
theorem c_playF (hS : w_Sh T V A Aj sn Y D) (hC : w_C T I L V A Aj sn Y B m many rr has ms s0 s1 dly lim n cs fl) (hB : B + 600 < 1000000000) (h : m 221 = 0 → t_fault cs n = -1 → k_play dly lim cs n 0 ((m, many, rr), 0) → ∀ I' L' cs', w_NS T I L I' L' V A Aj sn Y (B + 600) (r_play dly lim cs n 0 ((m, many, rr), 0)).1 has ms s0 s1 dly lim 0 cs' (-1) → K (some (.int (r_play dly lim cs n 0 ((m, many, rr), 0)).2)) T I' L')
    (h1 : t_fault cs n ≠ -1 → ∀ I' L' cs', w_NS T I L I' L' V A Aj sn Y B (m, many, rr) has ms s0 s1 dly lim 0 cs' (t_fault cs n) → X "java/lang/IllegalArgumentException" T I' L')
    (h0 : t_fault cs n = -1 → m 221 ≠ 0 → ∀ I' L' cs', w_NS T I L I' L' V A Aj sn Y B (m, many, rr) has ms s0 s1 dly lim 0 cs' (-1) → X "java/lang/IllegalStateException" T I' L') : mz_CtrX G M_X11_play [.ref (V 0)] T I L K X := by
  refine mz_apartX fun hU => ?_
  obtain ⟨⟨t0, q1, q2, q3⟩, ⟨hE, en1, en2, en3, en4⟩, hfi, ⟨fd1, fd2, fd3⟩, htx, -, -, ⟨dj1, dj2, dj3, dj4⟩, out, hYd, -⟩ := id hS
  obtain ⟨c1, ⟨nw, c2⟩, c3, ⟨c4, c4'⟩, c5, c6, -⟩ := id hC
  obtain ⟨⟨g1, g2, g3, g4, g5⟩, ⟨f1, f2, f3⟩, ⟨x1, x2, x3⟩, -, hS9⟩ := id c1.sh
  obtain ⟨i1, -⟩ := id hS9
  obtain ⟨he, -⟩ := id hE
  obtain ⟨-, -, -, -, -, -, c7, c9, c8, c10⟩ := id hC
  obtain ⟨tx1, tx2, tx3⟩ := id htx
  have ne : ∀ {a b : Nat} {x y : Nat × Nat}, (a, x) ∈ T.1 → (b, y) ∈ T.1 → x ≠ y → a ≠ b := fun a b c => mz_ne hU a b c
  have ef : t_fault (I (V 9)) n = t_fault cs n := t_fault_cg (fun i hi => c10.1 i (by omega))
  refine mz_ofXl (by decide +kernel) rfl (Nat.le_of_ble_eq_true rfl) (Nat.le_of_ble_eq_true rfl) [some (.ref (V 0)), none, none, none, none] rfl ?_
  refine mz_vc ok_X11_play [29, 58] [(), (), (), (), (), (), (), (), (), (), (), (), (), (), (), (), (), (), (), (), (), (), (), (), (), (), (), (), (), ()] ?_
  simp only [cd_X11_play, t0, q1, q2, q3, g1, g2, g3, g4, g5, he, x1, x2, x3, tx1, tx2, r_rn0, r_rnc, r_vk0, r_vkc, r_vks, r_kci, r_kcv, r_ild, r_ald, r_lld, r_dld, r_Li, r_La, r_Ll, r_Ld, r_Ki, r_Ka, r_Kl, r_Kd, r_Kn, r_ist, r_ast, r_lst, r_dst, r_iinc, r_int, r_lng, r_dbl, r_i2, r_i1, r_l2, r_lsh, r_i2z, r_l2z, r_i2l, r_l2i, r_i2d, r_lcmp, r_ddiv, r_dcmpl, r_dup, r_dup2, r_pop, r_one_int, r_one_ref, r_go, r_if, r_ic, r_tsw, r_lsw, r_sw0, r_swc, r_lk0, r_lkc, r_kp, r_gI, r_gL, r_gR, r_pI, r_pZ, r_pL, r_pR, r_gs, r_ia, r_ca, r_za, r_la, r_da, r_aa, r_ias, r_cas, r_zas, r_las, r_das, r_aas, r_acp, r_new, r_nwa, r_nwq, r_ret, r_irt, r_zrt, r_lrt, r_drt, r_art, r_thr, r_cV0, r_cV1, r_cV2, r_cV3, r_cV4, r_cV5, r_cI0, r_cS0, r_cS1, r_cS2, r_cS3, r_cX0, r_cX1, r_cX2, r_cX3, r_rc, r_oi, r_refx, r_i10, r_i01, r_rfs, r_mem0, r_memc, r_beq, r_kl0, r_klz, r_kl1i, r_kl1r, r_kl1n, r_kl1l, r_kl1d, List.length_cons, List.length_nil, List.getElem?_cons_zero, List.getElem?_cons_succ, List.set_cons_zero, List.set_cons_succ, true_and, and_true, not_true, not_false_eq_true, false_implies, true_implies, or_true, true_or, or_false, false_or, Bool.or_false, Bool.false_or, decide_false, decide_true, Nat.reduceLT, Nat.reduceLeDiff, Nat.reduceAdd, Nat.reduceSub, ↓reduceIte, Nat.reduceEqDiff, Nat.lt_add_one]
  refine c_finish htx c7 c9 (fun I' f e1 e2 e3 => ?_)
  rw [ef] at e2 ⊢
  obtain ⟨o1, o2, o3, o4, o5, o6, o7⟩ := w_C_off (L' := L) hU hS hC (fr_tr f fr_refl (by simp) (fun _ q => q)) fr_refl
  obtain ⟨y1, -, ⟨⟨ya, yb, yc⟩, ⟨yd, ye, yf⟩, y5, y6, y7, y8, y9⟩, -⟩ := id c6.1
  have hy : ∀ {a : Nat} {x : Nat × Nat}, (a, x) ∈ T.1 → x ≠ (0, 5) → I' a = I a := fun q e1 => f _ (by simp; exact ne q tx1 e1)
  have e9 : I' (V 9) = I (V 9) := hy tx3 (by decide)
  have w0 : w_NS T I L I' L V A Aj sn Y B (m, many, rr) has ms s0 s1 dly lim 0 (fun i => if i = 60 then zI n else cs i) (t_fault cs n) := ⟨⟨o1, o2, o3, o4, o5, p_Se_fr c6 (hy y1 (by decide)) (hy yb (by decide)) (hy y5 (by decide)) rfl, ⟨e3, by decide, e2, fun i hi => by rw [e9, c10.1 i hi]; simp; intro q; omega, by rw [e1]; simp⟩⟩, o6, o7⟩
  simp only [cd_X11_play, t0, q1, q2, q3, g1, g2, g3, g4, g5, he, x1, x2, x3, tx1, tx2, r_rn0, r_rnc, r_vk0, r_vkc, r_vks, r_kci, r_kcv, r_ild, r_ald, r_lld, r_dld, r_Li, r_La, r_Ll, r_Ld, r_Ki, r_Ka, r_Kl, r_Kd, r_Kn, r_ist, r_ast, r_lst, r_dst, r_iinc, r_int, r_lng, r_dbl, r_i2, r_i1, r_l2, r_lsh, r_i2z, r_l2z, r_i2l, r_l2i, r_i2d, r_lcmp, r_ddiv, r_dcmpl, r_dup, r_dup2, r_pop, r_one_int, r_one_ref, r_go, r_if, r_ic, r_tsw, r_lsw, r_sw0, r_swc, r_lk0, r_lkc, r_kp, r_gI, r_gL, r_gR, r_pI, r_pZ, r_pL, r_pR, r_gs, r_ia, r_ca, r_za, r_la, r_da, r_aa, r_ias, r_cas, r_zas, r_las, r_das, r_aas, r_acp, r_new, r_nwa, r_nwq, r_ret, r_irt, r_zrt, r_lrt, r_drt, r_art, r_thr, r_cV0, r_cV1, r_cV2, r_cV3, r_cV4, r_cV5, r_cI0, r_cS0, r_cS1, r_cS2, r_cS3, r_cX0, r_cX1, r_cX2, r_cX3, r_rc, r_oi, r_refx, r_i10, r_i01, r_rfs, r_mem0, r_memc, r_beq, r_kl0, r_klz, r_kl1i, r_kl1r, r_kl1n, r_kl1l, r_kl1d, List.length_cons, List.length_nil, List.getElem?_cons_zero, List.getElem?_cons_succ, List.set_cons_zero, List.set_cons_succ, true_and, and_true, not_true, not_false_eq_true, false_implies, true_implies, or_true, true_or, or_false, false_or, Bool.or_false, Bool.false_or, decide_false, decide_true, Nat.reduceLT, Nat.reduceLeDiff, Nat.reduceAdd, Nat.reduceSub, ↓reduceIte, Nat.reduceEqDiff, Nat.lt_add_one]
  refine ⟨fun q => ?_, fun q => ?_⟩
  · have q : t_fault cs n = -1 := by
      by_cases v : t_fault cs n = -1
      · exact v
      · rw [decide_eq_false v] at q; exact absurd rfl q
    rw [q] at w0
    have eo : I' A.g 6 = m 221 := w0.1.1.over.1
    refine c_needPiece t0 q2 g1 (fun v => ?_) (fun v => h0 q (by rw [← eo]; exact v) I' L _ w0)
    have hl : m 221 = 0 := eo.symm.trans v
    simp only [cd_X11_play, t0, q1, q2, q3, g1, g2, g3, g4, g5, he, x1, x2, x3, tx1, tx2, r_rn0, r_rnc, r_vk0, r_vkc, r_vks, r_kci, r_kcv, r_ild, r_ald, r_lld, r_dld, r_Li, r_La, r_Ll, r_Ld, r_Ki, r_Ka, r_Kl, r_Kd, r_Kn, r_ist, r_ast, r_lst, r_dst, r_iinc, r_int, r_lng, r_dbl, r_i2, r_i1, r_l2, r_lsh, r_i2z, r_l2z, r_i2l, r_l2i, r_i2d, r_lcmp, r_ddiv, r_dcmpl, r_dup, r_dup2, r_pop, r_one_int, r_one_ref, r_go, r_if, r_ic, r_tsw, r_lsw, r_sw0, r_swc, r_lk0, r_lkc, r_kp, r_gI, r_gL, r_gR, r_pI, r_pZ, r_pL, r_pR, r_gs, r_ia, r_ca, r_za, r_la, r_da, r_aa, r_ias, r_cas, r_zas, r_las, r_das, r_aas, r_acp, r_new, r_nwa, r_nwq, r_ret, r_irt, r_zrt, r_lrt, r_drt, r_art, r_thr, r_cV0, r_cV1, r_cV2, r_cV3, r_cV4, r_cV5, r_cI0, r_cS0, r_cS1, r_cS2, r_cS3, r_cX0, r_cX1, r_cX2, r_cX3, r_rc, r_oi, r_refx, r_i10, r_i01, r_rfs, r_mem0, r_memc, r_beq, r_kl0, r_klz, r_kl1i, r_kl1r, r_kl1n, r_kl1l, r_kl1d, List.length_cons, List.length_nil, List.getElem?_cons_zero, List.getElem?_cons_succ, List.set_cons_zero, List.set_cons_succ, true_and, and_true, not_true, not_false_eq_true, false_implies, true_implies, or_true, true_or, or_false, false_or, Bool.or_false, Bool.false_or, decide_false, decide_true, Nat.reduceLT, Nat.reduceLeDiff, Nat.reduceAdd, Nat.reduceSub, ↓reduceIte, Nat.reduceEqDiff, Nat.lt_add_one]
    have h9 := fun u => h hl q u
    have c60 : (fun i => if i = 60 then zI (n : Int) else cs i) 60 = zI n := if_pos rfl
    generalize hcs : (fun i => if i = 60 then zI (n : Int) else cs i) = cs2 at w0 c60
    have ecs : ∀ i, i < 60 → cs2 i = cs i := fun i hi => by rw [← hcs]; exact if_neg (by omega)
    have outer : ∀ k i : Nat, i + k = n → ∀ (p : g_S × Int32) B' I1 L1, B' + 9 * k ≤ B + 600 → w_NS T I L I1 L1 V A Aj sn Y B' p.1 has ms s0 s1 dly lim 0 cs2 (-1) → r_play dly lim cs k i p = r_play dly lim cs n 0 ((m, many, rr), 0) → (k_play dly lim cs k i p → k_play dly lim cs n 0 ((m, many, rr), 0)) → mz_W G M_X11_play K X 29 [some (.ref (V 0)), some (.int p.2), some (.int (zI i)), none, none] [] T I1 L1 (1, 6) := by
      intro k
      induction k with
      | zero =>
        intro i hi p B' I1 L1 hB' w e ek
        have hi : i = n := by omega
        subst hi
        obtain ⟨w1, w2, w3⟩ := w
        obtain ⟨-, -, -, -, -, -, d1, d2, d3, d4, d5⟩ := id w1
        refine mz_vc ok_X11_play [29, 58] [(), (), (), (), (), (), (), (), (), (), (), (), (), (), (), (), (), (), (), (), (), (), (), (), (), (), (), (), (), ()] ?_
        simp only [cd_X11_play, t0, q1, q2, q3, g1, g2, g3, g4, g5, he, x1, x2, x3, tx1, tx2, r_rn0, r_rnc, r_vk0, r_vkc, r_vks, r_kci, r_kcv, r_ild, r_ald, r_lld, r_dld, r_Li, r_La, r_Ll, r_Ld, r_Ki, r_Ka, r_Kl, r_Kd, r_Kn, r_ist, r_ast, r_lst, r_dst, r_iinc, r_int, r_lng, r_dbl, r_i2, r_i1, r_l2, r_lsh, r_i2z, r_l2z, r_i2l, r_l2i, r_i2d, r_lcmp, r_ddiv, r_dcmpl, r_dup, r_dup2, r_pop, r_one_int, r_one_ref, r_go, r_if, r_ic, r_tsw, r_lsw, r_sw0, r_swc, r_lk0, r_lkc, r_kp, r_gI, r_gL, r_gR, r_pI, r_pZ, r_pL, r_pR, r_gs, r_ia, r_ca, r_za, r_la, r_da, r_aa, r_ias, r_cas, r_zas, r_las, r_das, r_aas, r_acp, r_new, r_nwa, r_nwq, r_ret, r_irt, r_zrt, r_lrt, r_drt, r_art, r_thr, r_cV0, r_cV1, r_cV2, r_cV3, r_cV4, r_cV5, r_cI0, r_cS0, r_cS1, r_cS2, r_cS3, r_cX0, r_cX1, r_cX2, r_cX3, r_rc, r_oi, r_refx, r_i10, r_i01, r_rfs, r_mem0, r_memc, r_beq, r_kl0, r_klz, r_kl1i, r_kl1r, r_kl1n, r_kl1l, r_kl1d, List.length_cons, List.length_nil, List.getElem?_cons_zero, List.getElem?_cons_succ, List.set_cons_zero, List.set_cons_succ, true_and, and_true, not_true, not_false_eq_true, false_implies, true_implies, or_true, true_or, or_false, false_or, Bool.or_false, Bool.false_or, decide_false, decide_true, Nat.reduceLT, Nat.reduceLeDiff, Nat.reduceAdd, Nat.reduceSub, ↓reduceIte, Nat.reduceEqDiff, Nat.lt_add_one]
        rw [d5, c60]
        refine ⟨fun _ => ?_, fun q => absurd (Int32.le_refl _) q⟩
        have e : p = r_play dly lim cs i 0 ((m, many, rr), 0) := e
        subst e
        exact h9 (ek (r_ok_R w1.1 (by omega))) I1 L1 cs2 ⟨w_C_B hU hS w1 (by omega), w2, w3⟩
      | succ k ih =>
        intro i hi p B' I1 L1 hB' w e ek
        obtain ⟨w1, w2, w3⟩ := id w
        obtain ⟨-, -, -, -, -, -, d1, d2, d3, d4, d5⟩ := id w1
        refine mz_vc ok_X11_play [29, 58] [(), (), (), (), (), (), (), (), (), (), (), (), (), (), (), (), (), (), (), (), (), (), (), (), (), (), (), (), (), ()] ?_
        simp only [cd_X11_play, t0, q1, q2, q3, g1, g2, g3, g4, g5, he, x1, x2, x3, tx1, tx2, r_rn0, r_rnc, r_vk0, r_vkc, r_vks, r_kci, r_kcv, r_ild, r_ald, r_lld, r_dld, r_Li, r_La, r_Ll, r_Ld, r_Ki, r_Ka, r_Kl, r_Kd, r_Kn, r_ist, r_ast, r_lst, r_dst, r_iinc, r_int, r_lng, r_dbl, r_i2, r_i1, r_l2, r_lsh, r_i2z, r_l2z, r_i2l, r_l2i, r_i2d, r_lcmp, r_ddiv, r_dcmpl, r_dup, r_dup2, r_pop, r_one_int, r_one_ref, r_go, r_if, r_ic, r_tsw, r_lsw, r_sw0, r_swc, r_lk0, r_lkc, r_kp, r_gI, r_gL, r_gR, r_pI, r_pZ, r_pL, r_pR, r_gs, r_ia, r_ca, r_za, r_la, r_da, r_aa, r_ias, r_cas, r_zas, r_las, r_das, r_aas, r_acp, r_new, r_nwa, r_nwq, r_ret, r_irt, r_zrt, r_lrt, r_drt, r_art, r_thr, r_cV0, r_cV1, r_cV2, r_cV3, r_cV4, r_cV5, r_cI0, r_cS0, r_cS1, r_cS2, r_cS3, r_cX0, r_cX1, r_cX2, r_cX3, r_rc, r_oi, r_refx, r_i10, r_i01, r_rfs, r_mem0, r_memc, r_beq, r_kl0, r_klz, r_kl1i, r_kl1r, r_kl1n, r_kl1l, r_kl1d, List.length_cons, List.length_nil, List.getElem?_cons_zero, List.getElem?_cons_succ, List.set_cons_zero, List.set_cons_succ, true_and, and_true, not_true, not_false_eq_true, false_implies, true_implies, or_true, true_or, or_false, false_or, Bool.or_false, Bool.false_or, decide_false, decide_true, Nat.reduceLT, Nat.reduceLeDiff, Nat.reduceAdd, Nat.reduceSub, ↓reduceIte, Nat.reduceEqDiff, Nat.lt_add_one]
        rw [d5, c60]
        refine ⟨z_no (by omega) (by omega) (by omega), fun _ => ⟨z_no (b := 60) (by omega) (by omega) (by omega), fun _ => ?_⟩⟩
        refine c_times htx (by omega) ?_
        rw [t_tm_cg (cs' := cs) (fun j hj => (d4 j (by omega)).trans (ecs j (by omega)))]
        simp only [cd_X11_play, t0, q1, q2, q3, g1, g2, g3, g4, g5, he, x1, x2, x3, tx1, tx2, r_rn0, r_rnc, r_vk0, r_vkc, r_vks, r_kci, r_kcv, r_ild, r_ald, r_lld, r_dld, r_Li, r_La, r_Ll, r_Ld, r_Ki, r_Ka, r_Kl, r_Kd, r_Kn, r_ist, r_ast, r_lst, r_dst, r_iinc, r_int, r_lng, r_dbl, r_i2, r_i1, r_l2, r_lsh, r_i2z, r_l2z, r_i2l, r_l2i, r_i2d, r_lcmp, r_ddiv, r_dcmpl, r_dup, r_dup2, r_pop, r_one_int, r_one_ref, r_go, r_if, r_ic, r_tsw, r_lsw, r_sw0, r_swc, r_lk0, r_lkc, r_kp, r_gI, r_gL, r_gR, r_pI, r_pZ, r_pL, r_pR, r_gs, r_ia, r_ca, r_za, r_la, r_da, r_aa, r_ias, r_cas, r_zas, r_las, r_das, r_aas, r_acp, r_new, r_nwa, r_nwq, r_ret, r_irt, r_zrt, r_lrt, r_drt, r_art, r_thr, r_cV0, r_cV1, r_cV2, r_cV3, r_cV4, r_cV5, r_cI0, r_cS0, r_cS1, r_cS2, r_cS3, r_cX0, r_cX1, r_cX2, r_cX3, r_rc, r_oi, r_refx, r_i10, r_i01, r_rfs, r_mem0, r_memc, r_beq, r_kl0, r_klz, r_kl1i, r_kl1r, r_kl1n, r_kl1l, r_kl1d, List.length_cons, List.length_nil, List.getElem?_cons_zero, List.getElem?_cons_succ, List.set_cons_zero, List.set_cons_succ, true_and, and_true, not_true, not_false_eq_true, false_implies, true_implies, or_true, true_or, or_false, false_or, Bool.or_false, Bool.false_or, decide_false, decide_true, Nat.reduceLT, Nat.reduceLeDiff, Nat.reduceAdd, Nat.reduceSub, ↓reduceIte, Nat.reduceEqDiff, Nat.lt_add_one]
        have ht : t_tm cs i ≤ 9 := t_tm_le
        have inner : ∀ r j : Nat, j + r = t_tm cs i → ∀ (p : g_S × Int32) B' I1 L1, B' + r + 9 * k ≤ B + 600 → w_NS T I L I1 L1 V A Aj sn Y B' p.1 has ms s0 s1 dly lim 0 cs2 (-1) → r_play dly lim cs k (i + 1) (r_reps dly lim (cs i) r p) = r_play dly lim cs n 0 ((m, many, rr), 0) → (k_reps dly lim (cs i) r p ∧ k_play dly lim cs k (i + 1) (r_reps dly lim (cs i) r p) → k_play dly lim cs n 0 ((m, many, rr), 0)) → mz_W G M_X11_play K X 58 [some (.ref (V 0)), some (.int p.2), some (.int (zI i)), some (.int (zI (t_tm cs i))), some (.int (zI j))] [] T I1 L1 (1, 6) := by
          intro r
          induction r with
          | zero =>
            intro j hj p B' I1 L1 hB' w e ek
            have hj : j = t_tm cs i := by omega
            subst hj
            refine mz_vc ok_X11_play [29, 58] [(), (), (), (), (), (), (), (), (), (), (), (), (), (), (), (), (), (), (), (), (), (), (), (), (), (), (), (), (), ()] ?_
            simp only [cd_X11_play, t0, q1, q2, q3, g1, g2, g3, g4, g5, he, x1, x2, x3, tx1, tx2, r_rn0, r_rnc, r_vk0, r_vkc, r_vks, r_kci, r_kcv, r_ild, r_ald, r_lld, r_dld, r_Li, r_La, r_Ll, r_Ld, r_Ki, r_Ka, r_Kl, r_Kd, r_Kn, r_ist, r_ast, r_lst, r_dst, r_iinc, r_int, r_lng, r_dbl, r_i2, r_i1, r_l2, r_lsh, r_i2z, r_l2z, r_i2l, r_l2i, r_i2d, r_lcmp, r_ddiv, r_dcmpl, r_dup, r_dup2, r_pop, r_one_int, r_one_ref, r_go, r_if, r_ic, r_tsw, r_lsw, r_sw0, r_swc, r_lk0, r_lkc, r_kp, r_gI, r_gL, r_gR, r_pI, r_pZ, r_pL, r_pR, r_gs, r_ia, r_ca, r_za, r_la, r_da, r_aa, r_ias, r_cas, r_zas, r_las, r_das, r_aas, r_acp, r_new, r_nwa, r_nwq, r_ret, r_irt, r_zrt, r_lrt, r_drt, r_art, r_thr, r_cV0, r_cV1, r_cV2, r_cV3, r_cV4, r_cV5, r_cI0, r_cS0, r_cS1, r_cS2, r_cS3, r_cX0, r_cX1, r_cX2, r_cX3, r_rc, r_oi, r_refx, r_i10, r_i01, r_rfs, r_mem0, r_memc, r_beq, r_kl0, r_klz, r_kl1i, r_kl1r, r_kl1n, r_kl1l, r_kl1d, List.length_cons, List.length_nil, List.getElem?_cons_zero, List.getElem?_cons_succ, List.set_cons_zero, List.set_cons_succ, true_and, and_true, not_true, not_false_eq_true, false_implies, true_implies, or_true, true_or, or_false, false_or, Bool.or_false, Bool.false_or, decide_false, decide_true, Nat.reduceLT, Nat.reduceLeDiff, Nat.reduceAdd, Nat.reduceSub, ↓reduceIte, Nat.reduceEqDiff, Nat.lt_add_one]
            refine ⟨fun _ => ?_, fun q => absurd (Int32.le_refl _) q⟩
            rw [z_1]
            exact mz_forget (ih (i + 1) (by omega) p B' I1 L1 (by omega) w e (fun u => ek ⟨r_ok_R w.1.1 (by omega), u⟩)) rfl (mz_fg_s (mz_fg_s (mz_fg_s (mz_fg_n (mz_fg_n mz_fg_0)))))
          | succ r ih2 =>
            intro j hj p B' I1 L1 hB' w e ek
            obtain ⟨w1, w2, w3⟩ := id w
            obtain ⟨v1, -, -, -, -, -, d1, d2, d3, d4, d5⟩ := id w1
            refine mz_vc ok_X11_play [29, 58] [(), (), (), (), (), (), (), (), (), (), (), (), (), (), (), (), (), (), (), (), (), (), (), (), (), (), (), (), (), ()] ?_
            simp only [cd_X11_play, t0, q1, q2, q3, g1, g2, g3, g4, g5, he, x1, x2, x3, tx1, tx2, r_rn0, r_rnc, r_vk0, r_vkc, r_vks, r_kci, r_kcv, r_ild, r_ald, r_lld, r_dld, r_Li, r_La, r_Ll, r_Ld, r_Ki, r_Ka, r_Kl, r_Kd, r_Kn, r_ist, r_ast, r_lst, r_dst, r_iinc, r_int, r_lng, r_dbl, r_i2, r_i1, r_l2, r_lsh, r_i2z, r_l2z, r_i2l, r_l2i, r_i2d, r_lcmp, r_ddiv, r_dcmpl, r_dup, r_dup2, r_pop, r_one_int, r_one_ref, r_go, r_if, r_ic, r_tsw, r_lsw, r_sw0, r_swc, r_lk0, r_lkc, r_kp, r_gI, r_gL, r_gR, r_pI, r_pZ, r_pL, r_pR, r_gs, r_ia, r_ca, r_za, r_la, r_da, r_aa, r_ias, r_cas, r_zas, r_las, r_das, r_aas, r_acp, r_new, r_nwa, r_nwq, r_ret, r_irt, r_zrt, r_lrt, r_drt, r_art, r_thr, r_cV0, r_cV1, r_cV2, r_cV3, r_cV4, r_cV5, r_cI0, r_cS0, r_cS1, r_cS2, r_cS3, r_cX0, r_cX1, r_cX2, r_cX3, r_rc, r_oi, r_refx, r_i10, r_i01, r_rfs, r_mem0, r_memc, r_beq, r_kl0, r_klz, r_kl1i, r_kl1r, r_kl1n, r_kl1l, r_kl1d, List.length_cons, List.length_nil, List.getElem?_cons_zero, List.getElem?_cons_succ, List.set_cons_zero, List.set_cons_succ, true_and, and_true, not_true, not_false_eq_true, false_implies, true_implies, or_true, true_or, or_false, false_or, Bool.or_false, Bool.false_or, decide_false, decide_true, Nat.reduceLT, Nat.reduceLeDiff, Nat.reduceAdd, Nat.reduceSub, ↓reduceIte, Nat.reduceEqDiff, Nat.lt_add_one]
            refine ⟨z_no (by omega) (by omega) (by omega), fun _ => ?_⟩
            rw [v1.over.1]
            refine ⟨fun q7 => ?_, fun q7 => ?_⟩
            · rw [r_reps_over q7] at e ek
              rw [z_1]
              exact mz_forget (ih (i + 1) (by omega) p B' I1 L1 (by omega) w e (fun u => ek ⟨k_reps_over q7 (r_ok_R w1.1 (by omega)) _, u⟩)) rfl (mz_fg_s (mz_fg_s (mz_fg_s (mz_fg_n (mz_fg_n mz_fg_0)))))
            · have q7 : p.1.1 221 = 0 := Decidable.not_not.mp q7
              rw [r_reps_go q7] at e ek
              rw [z_nat (by omega), Int.toNat_natCast, d4 i (by omega), ecs i (by omega)]
              refine ⟨⟨60, tx3, z_in (by omega) (by omega) (by decide)⟩, ?_⟩
              refine c_carryF hU hS w1 (by omega) q7 (fun I2 L2 w' => ?_)
              have w'' : w_NS T I L I2 L2 V A Aj sn Y (B' + 1) (r_do dly lim (cs i) p.1) has ms s0 s1 dly lim 0 cs2 (-1) := ⟨w'.1, fr_tr w2 w'.2.1 (fun _ q => q) (fun _ q => q), fr_tr w3 w'.2.2 (fun _ q => q) (fun _ q => q)⟩
              simp only [cd_X11_play, t0, q1, q2, q3, g1, g2, g3, g4, g5, he, x1, x2, x3, tx1, tx2, r_rn0, r_rnc, r_vk0, r_vkc, r_vks, r_kci, r_kcv, r_ild, r_ald, r_lld, r_dld, r_Li, r_La, r_Ll, r_Ld, r_Ki, r_Ka, r_Kl, r_Kd, r_Kn, r_ist, r_ast, r_lst, r_dst, r_iinc, r_int, r_lng, r_dbl, r_i2, r_i1, r_l2, r_lsh, r_i2z, r_l2z, r_i2l, r_l2i, r_i2d, r_lcmp, r_ddiv, r_dcmpl, r_dup, r_dup2, r_pop, r_one_int, r_one_ref, r_go, r_if, r_ic, r_tsw, r_lsw, r_sw0, r_swc, r_lk0, r_lkc, r_kp, r_gI, r_gL, r_gR, r_pI, r_pZ, r_pL, r_pR, r_gs, r_ia, r_ca, r_za, r_la, r_da, r_aa, r_ias, r_cas, r_zas, r_las, r_das, r_aas, r_acp, r_new, r_nwa, r_nwq, r_ret, r_irt, r_zrt, r_lrt, r_drt, r_art, r_thr, r_cV0, r_cV1, r_cV2, r_cV3, r_cV4, r_cV5, r_cI0, r_cS0, r_cS1, r_cS2, r_cS3, r_cX0, r_cX1, r_cX2, r_cX3, r_rc, r_oi, r_refx, r_i10, r_i01, r_rfs, r_mem0, r_memc, r_beq, r_kl0, r_klz, r_kl1i, r_kl1r, r_kl1n, r_kl1l, r_kl1d, List.length_cons, List.length_nil, List.getElem?_cons_zero, List.getElem?_cons_succ, List.set_cons_zero, List.set_cons_succ, true_and, and_true, not_true, not_false_eq_true, false_implies, true_implies, or_true, true_or, or_false, false_or, Bool.or_false, Bool.false_or, decide_false, decide_true, Nat.reduceLT, Nat.reduceLeDiff, Nat.reduceAdd, Nat.reduceSub, ↓reduceIte, Nat.reduceEqDiff, Nat.lt_add_one]
              rw [z_1]
              refine ⟨fun v => ?_, fun v => ?_⟩
              · have v : g_ok (cs i) p.1 = false := by
                  cases hv : g_ok (cs i) p.1 with
                  | false => rfl
                  | true => rw [show g_ok (cs i) (p.1.1, p.1.2.1, p.1.2.2) = true from hv] at v; exact absurd v (by decide)
                rw [v, show p.2 + b2i false = p.2 from Int32.add_zero _] at e
                have ev : p.2 + b2i (g_ok (cs i) p.1) = p.2 := by rw [v]; exact Int32.add_zero _
                exact ih2 (j + 1) (by omega) (r_do dly lim (cs i) p.1, p.2) (B' + 1) I2 L2 (by omega) w'' e (fun u => ek ⟨⟨r_ok_R w1.1 (by omega), fun _ => by rw [ev]; exact u.1⟩, by rw [ev]; exact u.2⟩)
              · have v : g_ok (cs i) p.1 = true := by
                  cases hv : g_ok (cs i) p.1 with
                  | true => rfl
                  | false => rw [show g_ok (cs i) (p.1.1, p.1.2.1, p.1.2.2) = false from hv] at v; exact absurd rfl v
                rw [v] at e
                have ev : p.2 + b2i (g_ok (cs i) p.1) = p.2 + 1 := by rw [v]; rfl
                exact ih2 (j + 1) (by omega) (r_do dly lim (cs i) p.1, p.2 + 1) (B' + 1) I2 L2 (by omega) w'' e (fun u => ek ⟨⟨r_ok_R w1.1 (by omega), fun _ => by rw [ev]; exact u.1⟩, by rw [ev]; exact u.2⟩)
        exact inner (t_tm cs i) 0 (by omega) p B' I1 L1 (by omega) w e ek
    exact mz_forget (outer n 0 (by omega) ((m, many, rr), 0) B I' L (by omega) w0 rfl id) rfl (mz_fg_s (mz_fg_s (mz_fg_s (mz_fg_n (mz_fg_n mz_fg_0)))))
  · have q : t_fault cs n ≠ -1 := fun v => by
      rw [decide_eq_true v] at q
      exact q (by decide)
    exact h1 q I' L _ w0
end FACE7
