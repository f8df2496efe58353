/-! the class's face: play -/
section FACE7
variable {G : mz_G} {K : mz_K} {X : mz_X} {T : mz_T} {I : mz_I} {L : mz_L}
variable {V : Nat → Nat} {A : z_A} {Aj : Nat → z_A} {sn : z_A} {Y D : Nat → Nat} {B many n : Nat} {m : Nat → Int32} {rr : Nat → Nat → Int32} {has : Bool} {ms : Nat → Int32} {s0 s1 dly lim : Int32} {cs : Nat → Int32} {fl : Int32}

/-- one letter, carried out -/
noncomputable def g_do (dly lim : Int32) (c : Int32) (s : g_S) : g_S :=
  if c = 108 then (o_shift s.1 (-1) lim, s.2) else if c = 114 then (o_shift s.1 1 lim, s.2)
  else if c = 76 then (o_slide s.1 (-1) lim, s.2) else if c = 82 then (o_slide s.1 1 lim, s.2)
  else if c = 99 then (o_rot s.1 1 lim, s.2) else if c = 97 then (o_rot s.1 (-1) lim, s.2)
  else if c = 100 then (o_hand s.1, s.2) else if c = 120 then g_drop s else if c = 116 then g_tick dly s
  else if s.1 233 = 1 then s else g_hold s
def g_is (c : Int32) : Bool := decide (c = 108) || decide (c = 114) || decide (c = 76) || decide (c = 82) || decide (c = 99) || decide (c = 97) || decide (c = 100) || decide (c = 120) || decide (c = 116)
def g_ok (c : Int32) (s : g_S) : Bool := g_is c || !decide (s.1 233 = 1)
theorem lsw_10 {c : Int32} {P : Nat → Prop} : True := trivial
theorem c_carryF {c : Int32} (hS : w_Sh T V A Aj sn Y D) (hC : w_C T I L V A Aj sn Y B m many rr has ms s0 s1 dly lim n cs fl) (hB : B < 1000000000) (hl : m 221 = 0) (h : ∀ I' L', w_NS T I L I' L' V A Aj sn Y (B + 1) (g_do dly lim c (m, many, rr)) has ms s0 s1 dly lim n cs fl → K (some (.int (b2i (g_ok c (m, many, rr))))) T I' L') : mz_Ctr G M_X11_carryOut [.ref (V 0), .int c] T I L K := by
  refine mz_apartC fun hU => ?_
  obtain ⟨⟨t0, q1, q2, q3⟩, ⟨hE, en1, en2, en3, en4⟩, hfi, ⟨fd1, fd2, fd3⟩, htx, -, -, ⟨dj1, dj2, dj3, dj4⟩, out, hYd, -⟩ := id hS
  obtain ⟨c1, ⟨nw, c2⟩, c3, ⟨c4, c4'⟩, c5, c6, -⟩ := id hC
  obtain ⟨⟨g1, g2, g3, g4, g5⟩, ⟨f1, f2, f3⟩, ⟨x1, x2, x3⟩, -, hS9⟩ := id c1.sh
  obtain ⟨i1, -⟩ := id hS9
  obtain ⟨he, -⟩ := id hE
  have h9 : ∀ I' L' B' s, B' ≤ B + 1 → w_NS T I L I' L' V A Aj sn Y B' s has ms s0 s1 dly lim n cs fl → s = g_do dly lim c (m, many, rr) → K (some (.int (b2i (g_ok c (m, many, rr))))) T I' L' := by
    intro I' L' B' s hB' w e
    subst e
    exact h I' L' ⟨w_C_B hU hS w.1 hB', w.2.1, w.2.2⟩
  refine mz_ofl mk_X11_carryOut rfl (Nat.le_of_ble_eq_true rfl) (Nat.le_of_ble_eq_true rfl) [some (.ref (V 0)), some (.int c)] rfl ?_
  refine mz_vc ok_X11_carryOut [208] [(), (), (), (), (), (), (), (), (), (), (), (), (), (), (), (), (), (), (), (), (), (), (), (), (), (), (), (), (), ()] ?_
  simp only [cd_X11_carryOut, t0, q1, q2, q3, g1, g2, g3, g4, g5, he, x1, x2, x3, r_rn0, r_rnc, r_vk0, r_vkc, r_vks, r_kci, r_kcv, r_ild, r_ald, r_lld, r_dld, r_Li, r_La, r_Ll, r_Ld, r_Ki, r_Ka, r_Kl, r_Kd, r_Kn, r_ist, r_ast, r_lst, r_dst, r_iinc, r_int, r_lng, r_dbl, r_i2, r_i1, r_l2, r_lsh, r_i2z, r_l2z, r_i2l, r_l2i, r_i2d, r_lcmp, r_ddiv, r_dcmpl, r_dup, r_dup2, r_pop, r_one_int, r_one_ref, r_go, r_if, r_ic, r_tsw, r_lsw, r_sw0, r_swc, r_lk0, r_lkc, r_kp, r_gI, r_gL, r_gR, r_pI, r_pZ, r_pL, r_pR, r_gs, r_ia, r_ca, r_za, r_la, r_da, r_aa, r_ias, r_cas, r_zas, r_las, r_das, r_aas, r_acp, r_new, r_nwa, r_nwq, r_ret, r_irt, r_zrt, r_lrt, r_drt, r_art, r_thr, r_cV0, r_cV1, r_cV2, r_cV3, r_cV4, r_cV5, r_cI0, r_cS0, r_cS1, r_cS2, r_cS3, r_cX0, r_cX1, r_cX2, r_cX3, r_rc, r_oi, r_refx, r_i10, r_i01, r_rfs, r_mem0, r_memc, r_beq, r_kl0, r_klz, r_kl1i, r_kl1r, r_kl1n, r_kl1l, r_kl1d, List.length_cons, List.length_nil, List.getElem?_cons_zero, List.getElem?_cons_succ, List.set_cons_zero, List.set_cons_succ, true_and, and_true, not_true, not_false_eq_true, false_implies, true_implies, or_true, true_or, or_false, false_or, Bool.or_false, Bool.false_or, decide_false, decide_true, Nat.reduceLT, Nat.reduceLeDiff, Nat.reduceAdd, Nat.reduceSub, ↓reduceIte, Nat.reduceEqDiff, Nat.lt_add_one]
  skip
end FACE7
