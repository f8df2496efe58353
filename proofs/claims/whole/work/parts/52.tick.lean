/-! the engine: tick -/
section TICK
variable {G : mz_G} {K : mz_K} {T : mz_T} {I : mz_I} {L : mz_L}
theorem z_toF {a : Int} (h : -2147483648 ≤ a ∧ a < 2147483648) : (zI a).toInt = a := by
  unfold zI
  rw [Int32.toInt_ofInt]
  exact Int.bmod_eq_of_le (by have : (Int32.size : Int) = 4294967296 := rfl
                              omega) (by have : (Int32.size : Int) = 4294967296 := rfl
                                         omega)
theorem z_rng (x : Int32) : -2147483648 ≤ x.toInt ∧ x.toInt < 2147483648 := ⟨Int32.le_toInt x, Int32.toInt_lt x⟩
theorem z_ltF {x y : Int32} : x < y ↔ x.toInt < y.toInt := Int32.lt_iff_toInt_lt
theorem z_leF {x y : Int32} : x ≤ y ↔ x.toInt ≤ y.toInt := Int32.le_iff_toInt_le
theorem w_lv_ge {x : Int32} : -300000000 ≤ (w_lv x).toInt := by
  unfold w_lv
  split
  · rename_i h
    have h1 := z_rng (x / 10)
    have e10 : (10 : Int32).toInt = 10 := rfl
    have hd : -214748365 ≤ (x / 10).toInt ∧ (x / 10).toInt ≤ 214748365 := by
      have hx := z_rng x
      rw [Int32.toInt_div_of_ne_right _ _ (by decide : (10 : Int32) ≠ -1), e10]
      have := Int.tdiv_eq_ediv (a := x.toInt) (b := 10)
      constructor
      · have h2 := Int.mul_tdiv_add_tmod x.toInt 10
        have h3 := Int.tmod_lt_of_pos x.toInt (b := 10) (by decide)
        have h4 := Int.lt_tmod_of_pos x.toInt (b := 10) (by decide)
        omega
      · have h2 := Int.mul_tdiv_add_tmod x.toInt 10
        have h3 := Int.tmod_lt_of_pos x.toInt (b := 10) (by decide)
        have h4 := Int.lt_tmod_of_pos x.toInt (b := 10) (by decide)
        omega
    have e1 : (1 + x / 10) = zI (1 + (x / 10).toInt) := by rw [l_1, z_of (x / 10), z_add, ← z_of]
    rw [e1, z_toF (by omega)]
    omega
  · decide
theorem p_R_tk {A : z_A} {B : Nat} {m : Nat → Int32} {v : Int32} (hU : ∀ a x y, (a, x) ∈ T.1 → (a, y) ∈ T.1 → x = y) (h : p_R T I L A B m) : p_R T (mz_u I A.s 7 v) L A B (m_u m 242 v) := by
  obtain ⟨⟨g1, g2, g3, g4, g5⟩, ⟨f1, f2, f3⟩, ⟨x1, x2, x3⟩, ⟨b1, b2, b3⟩, ⟨s1, s2, s3, s4, s5⟩⟩ := id h.sh
  have n0 : ∀ {a : Nat} {x : Nat × Nat}, (a, x) ∈ T.1 → x ≠ (0, 9) → mz_u I A.s 7 v a = I a := fun q e => mz_u_ne (mz_ne hU q s1 e)
  have hm : ∀ j, j ≠ 242 → m_u m 242 v j = m j := fun j e => m_u_ne e
  have em : s_fm (m_u m 242 v) = s_fm m := s_fm_eq (fun i hi => hm i (by omega))
  have ek := n0 f2 (by decide)
  have eg := n0 g1 (by decide)
  have eb := n0 b1 (by decide)
  have ev := n0 b2 (by decide)
  have ex := n0 x1 (by decide)
  have ep := n0 x3 (by decide)
  have ec := n0 s2 (by decide)
  have el := n0 s3 (by decide)
  refine ⟨h.sh, ?_, ?_, ?_, ?_, ?_, ?_, ?_, ?_, ?_, ?_, ?_, ?_, ?_, ?_⟩
  · intro i hi; rw [ek, hm i (by omega)]; exact h.fld i hi
  · rw [em]; exact h.nof
  · rw [eg, hm 221 (by decide)]; exact h.over
  · rw [eg, hm 232 (by decide)]; exact h.held
  · rw [eg]; exact h.used
  · obtain ⟨kd, s, c, r, ⟨p1, p2, p3, p4, p5, p6⟩, ho⟩ := h.pos
    exact ⟨kd, s, c, r, ⟨p1, by rw [ep]; exact p2, by rw [ep]; exact p3, by rw [ep]; exact p4, by rw [ep]; exact p5, p6⟩, by rw [em, hm 221 (by decide), hm 222 (by decide), hm 223 (by decide), hm 224 (by decide), hm 225 (by decide)]; exact ho⟩
  · rw [hm 221 (by decide)]
    intro q
    obtain ⟨h1, h2, h3, h4⟩ := h.live q
    exact ⟨fun i a b => by rw [ex, hm _ (by omega)]; exact h1 i a b, by rw [eg, hm 233 (by decide)]; exact h2, by rw [hm 229 (by decide)]; exact h3, by rw [hm 226 (by decide), hm 235 (by decide)]; exact h4⟩
  · obtain ⟨z, h1, h2, h3, h4, h5, h6, h7⟩ := h.bags
    exact ⟨z, by rw [hm 267 (by decide)]; exact h1, by rw [hm 220 (by decide)]; exact h2, h3, by rw [ev]; exact h4, h5, by rw [eb]; exact h6, h7⟩
  · obtain ⟨h0, h1, h2, h3, h4, h5, h6, h7, h8⟩ := h.sc
    rw [mz_u_eq, m_u_eq, mz_u_nk (show (0 : Nat) ≠ 7 by decide), mz_u_nk (show (1 : Nat) ≠ 7 by decide), mz_u_nk (show (2 : Nat) ≠ 7 by decide), mz_u_nk (show (3 : Nat) ≠ 7 by decide), mz_u_nk (show (4 : Nat) ≠ 7 by decide), mz_u_nk (show (5 : Nat) ≠ 7 by decide), mz_u_nk (show (6 : Nat) ≠ 7 by decide), mz_u_nk (show (8 : Nat) ≠ 7 by decide), hm 234 (by decide), hm 236 (by decide), hm 237 (by decide), hm 238 (by decide), hm 239 (by decide), hm 240 (by decide), hm 241 (by decide), hm 266 (by decide)]
    exact ⟨h0, h1, h2, h3, h4, h5, h6, rfl, h8⟩
  · rw [hm 235 (by decide), hm 236 (by decide)]; exact h.lev
  · rw [hm 266 (by decide)]; exact h.hard
  · rw [hm 237 (by decide), hm 265 (by decide)]; exact h.pcs
  · intro sp n a b
    rw [ec, hm _ (by omega)]; exact h.cnt sp n a b
  · rw [hm 265 (by decide), el]
    intro q w hw
    rw [hm _ (by omega)]; exact h.lat q w hw
def o_tk (m : Nat → Int32) : Nat → Int32 := m_u m 242 (m 242 + 1)
def o_rest (m : Nat → Int32) : Nat → Int32 := m_u (o_tk m) 227 (m 227 + 1)
def m_tlock (m : Nat → Int32) (dly : Int32) : Bool := !m_fit m 0 (-1) && decide (dly ≤ m 227 + 1)
noncomputable def o_tick (m : Nat → Int32) (le dly : Int32) : Nat → Int32 :=
  if m_fit m 0 (-1) then (if 11 - m 235 ≤ m 226 + 1 then o_falls (o_tk m) else m_u (o_tk m) 226 (m 226 + 1))
  else if dly ≤ m 227 + 1 then o_lock (o_rest m) le else o_rest m
/-- rows that differ in what isn't the piece's place or the field -/
theorem m_same {m m' : Nat → Int32} (h : ∀ j, j < 220 ∨ (222 ≤ j ∧ j ≤ 225) → m' j = m j) : m_kd m' = m_kd m ∧ m_st m' = m_st m ∧ m_c m' = m_c m ∧ m_r m' = m_r m ∧ s_fm m' = s_fm m := by
  refine ⟨?_, ?_, ?_, ?_, s_fm_eq (fun i hi => h i (by omega))⟩
  · unfold m_kd; rw [h 222 (by decide)]
  · unfold m_st; rw [h 223 (by decide)]
  · unfold m_c; rw [h 224 (by decide)]
  · unfold m_r; rw [h 225 (by decide)]
/-- a step that leaves the records -/
theorem Go_st {me ra nw many B B' : Nat} {A : z_A} {Aj : Nat → z_A} {m' : Nat → Int32} {rr : Nat → Nat → Int32} {I' : mz_I} {S : List Nat} (hU : ∀ a x y, (a, x) ∈ T.1 → (a, y) ∈ T.1 → x = y) (hA : p_GA T A) (hM : p_M T I L me ra Aj nw many B rr) (hdj : ∀ j, j < 6 → z_dj (Aj j) A) (hf : fr I I' S) (hS : ∀ a, a ∈ S → a ∈ A.all) (hg : A.g ∉ S) (hR : p_R T I' L A B' m') (hB : B ≤ B') : p_Go T I L I' L A me ra Aj many B' m' rr := by
  have hmA : me ∉ A.all := z_out hU hA hM.1.1 (by decide)
  exact ⟨fr_tr hf fr_refl (fun a ha => List.mem_cons_of_mem _ (List.mem_append_left _ (hS a ha))) (fun _ q => q), fr_refl, hR, ⟨nw, p_M_B (M_step hU hM hA hdj hf hS (fr_refl : fr L L [A.b])) hB⟩, fun i _ => by rw [hf _ hg], fun i _ => by rw [hf _ (fun e => hmA (hS _ e))]⟩
theorem c_tickE {en me ra nw many B fi lt : Nat} {A : z_A} {Aj : Nat → z_A} {m : Nat → Int32} {rr : Nat → Nat → Int32} (hE : p_E T en A) (hE1 : T.2 en 1 = some me) (hE2 : T.2 en 2 = some fi) (hfi : (fi, 0, 3) ∈ T.1 ∧ T.2 fi 0 = some lt ∧ (lt, 1, 448) ∈ T.1) (h : p_R T I L A B m) (hl : m 221 = 0) (hB : B < 1000000000) (hM : p_M T I L me ra Aj nw many B rr) (hdj : ∀ j, j < 6 → z_dj (Aj j) A)
    (hK : ∀ I' L' le, le = s_lc (I lt) (m_kd m) (m_st m) (m_c m) 4 → p_Go T I L I' L' A me ra Aj (if m_tlock m (I A.g 7) then w_mn (m_lfit (o_rest m) le) many else many) (B + 1) (o_tick m le (I A.g 7)) (if m_tlock m (I A.g 7) then w_rr (m_lfit (o_rest m) le) many rr (o_app (o_draw (o_lock1 (o_rest m) le)) (m_dk (o_lock1 (o_rest m) le))) else rr) → K none T I' L') : mz_Ctr G M_X1_passTick [.ref en] T I L K := by
  refine mz_apartC fun hU => ?_
  obtain ⟨e1, e2⟩ := id hE
  have hA := h.sh
  obtain ⟨⟨g1, g2, g3, g4, g5⟩, hF, hX, ⟨b1, b2, b3⟩, hS⟩ := id hA
  obtain ⟨x1, x2, x3⟩ := id hX
  obtain ⟨s1, s2, s3, s4, s5⟩ := id hS
  obtain ⟨i1, i2, i3⟩ := id hfi
  have m1 : (me, 0, 6) ∈ T.1 := hM.1.1
  have hmA : me ∉ A.all := z_out hU hA m1 (by decide)
  have ne : ∀ {a b : Nat} {x y : Nat × Nat}, (a, x) ∈ T.1 → (b, y) ∈ T.1 → x ≠ y → a ≠ b := fun a b c => mz_ne hU a b c
  obtain ⟨hp, hq, hfit⟩ := h.now hl
  obtain ⟨p1, p2, p3, p4, p5, p6⟩ := id hp
  obtain ⟨hpc, hus, hin, hfa⟩ := h.live hl
  have hb := s_fit_b p6.1 p6.2.1 hfit
  have hsp : A.s ≠ A.p := ne s1 x3 (by decide)
  have hsx : A.x ≠ A.s := ne x1 s1 (by decide)
  have hps : A.p ≠ A.s := Ne.symm hsp
  have hpx : A.p ≠ A.x := ne x3 x1 (by decide)
  have hks : A.k ≠ A.s := ne hF.2.1 s1 (by decide)
  have hgs : A.g ≠ A.s := ne g1 s1 (by decide)
  have hgx : A.g ≠ A.x := ne g1 x1 (by decide)
  have hss : A.s ≠ A.x := Ne.symm hsx
  have ett : I A.s 7 + 1 = m 242 + 1 := by rw [h.sc.2.2.2.2.2.2.2.1]
  have hR1 : p_R T (mz_u I A.s 7 (m 242 + 1)) L A B (o_tk m) := p_R_tk hU h
  have kt : ∀ j, j ≠ 242 → o_tk m j = m j := fun j e => m_u_ne e
  obtain ⟨t1, t2, t3, t4, t5⟩ := m_same (m := m) (m' := o_tk m) (fun j hj => kt j (by omega))
  have hlt : o_tk m 221 = 0 := by rw [kt 221 (by decide)]; exact hl
  have hp1 : p_Pos T (mz_u I A.s 7 (m 242 + 1)) A.p (m_kd m) (m_st m) (m_c m) (m_r m) := ⟨p1, by rw [mz_u_ne hps]; exact p2, by rw [mz_u_ne hps]; exact p3, by rw [mz_u_ne hps]; exact p4, by rw [mz_u_ne hps]; exact p5, p6⟩
  have hfl : ∀ i, i < 220 → s_fl ((mz_u I A.s 7 (m 242 + 1)) A.k) i = s_fm m i := by
    intro i hi; rw [mz_u_ne hks]; exact h.fl i hi
  have ecan : s_fit (s_fl ((mz_u I A.s 7 (m 242 + 1)) A.k)) (m_kd m) (m_st m) (m_c m) (m_r m - 1) = m_fit m 0 (-1) := by
    rw [s_fit_cg hfl]; unfold m_fit; rw [Int.add_zero]; rfl
  have ex1 : I A.x 1 = m 226 := hpc 1 (by decide) (by decide)
  have ex2 : I A.x 2 = m 227 := hpc 2 (by decide) (by decide)
  have es1 : I A.s 1 = m 236 := h.sc.2.1
  refine mz_ofl mk_X1_passTick rfl (Nat.le_of_ble_eq_true rfl) (Nat.le_of_ble_eq_true rfl) [some (.ref en), none] rfl ?_
  refine mz_vc ok_X1_passTick [] [(), (), (), (), (), (), (), (), (), (), (), (), (), (), (), (), (), (), (), (), (), (), (), (), (), (), (), (), (), ()] ?_
  simp only [cd_X1_passTick, e1, e2, g1, g2, g3, g5, x1, x2, x3, s1, r_rn0, r_rnc, r_vk0, r_vkc, r_vks, r_kci, r_kcv, r_ild, r_ald, r_lld, r_dld, r_Li, r_La, r_Ll, r_Ld, r_Ki, r_Ka, r_Kl, r_Kd, r_Kn, r_ist, r_ast, r_lst, r_dst, r_iinc, r_int, r_lng, r_dbl, r_i2, r_i1, r_l2, r_lsh, r_i2z, r_l2z, r_i2l, r_l2i, r_i2d, r_lcmp, r_ddiv, r_dcmpl, r_dup, r_dup2, r_pop, r_one_int, r_one_ref, r_go, r_if, r_ic, r_tsw, r_lsw, r_sw0, r_swc, r_lk0, r_lkc, r_kp, r_gI, r_gL, r_gR, r_pI, r_pZ, r_pL, r_pR, r_gs, r_ia, r_ca, r_za, r_la, r_da, r_aa, r_ias, r_cas, r_zas, r_las, r_das, r_aas, r_acp, r_new, r_nwa, r_nwq, r_ret, r_irt, r_zrt, r_lrt, r_drt, r_art, r_thr, r_cV0, r_cV1, r_cV2, r_cV3, r_cV4, r_cV5, r_cI0, r_cS0, r_cS1, r_cS2, r_cS3, r_cX0, r_cX1, r_cX2, r_cX3, r_rc, r_oi, r_refx, r_i10, r_i01, r_rfs, r_mem0, r_memc, r_beq, r_kl0, r_klz, r_kl1i, r_kl1r, r_kl1n, r_kl1l, r_kl1d, List.length_cons, List.length_nil, List.getElem?_cons_zero, List.getElem?_cons_succ, List.set_cons_zero, List.set_cons_succ, true_and, and_true, not_true, not_false_eq_true, false_implies, true_implies, or_true, true_or, or_false, false_or, Bool.or_false, Bool.false_or, decide_false, decide_true, Nat.reduceLT, Nat.reduceLeDiff, Nat.reduceAdd, Nat.reduceSub, ↓reduceIte, Nat.reduceEqDiff, Nat.lt_add_one]
  rw [ett]
  refine c_canFall hp1 hF (by omega) ?_
  rw [ecan]
  simp only [cd_X1_passTick, e1, e2, g1, g2, g3, g5, x1, x2, x3, s1, b2i_0, r_rn0, r_rnc, r_vk0, r_vkc, r_vks, r_kci, r_kcv, r_ild, r_ald, r_lld, r_dld, r_Li, r_La, r_Ll, r_Ld, r_Ki, r_Ka, r_Kl, r_Kd, r_Kn, r_ist, r_ast, r_lst, r_dst, r_iinc, r_int, r_lng, r_dbl, r_i2, r_i1, r_l2, r_lsh, r_i2z, r_l2z, r_i2l, r_l2i, r_i2d, r_lcmp, r_ddiv, r_dcmpl, r_dup, r_dup2, r_pop, r_one_int, r_one_ref, r_go, r_if, r_ic, r_tsw, r_lsw, r_sw0, r_swc, r_lk0, r_lkc, r_kp, r_gI, r_gL, r_gR, r_pI, r_pZ, r_pL, r_pR, r_gs, r_ia, r_ca, r_za, r_la, r_da, r_aa, r_ias, r_cas, r_zas, r_las, r_das, r_aas, r_acp, r_new, r_nwa, r_nwq, r_ret, r_irt, r_zrt, r_lrt, r_drt, r_art, r_thr, r_cV0, r_cV1, r_cV2, r_cV3, r_cV4, r_cV5, r_cI0, r_cS0, r_cS1, r_cS2, r_cS3, r_cX0, r_cX1, r_cX2, r_cX3, r_rc, r_oi, r_refx, r_i10, r_i01, r_rfs, r_mem0, r_memc, r_beq, r_kl0, r_klz, r_kl1i, r_kl1r, r_kl1n, r_kl1l, r_kl1d, List.length_cons, List.length_nil, List.getElem?_cons_zero, List.getElem?_cons_succ, List.set_cons_zero, List.set_cons_succ, true_and, and_true, not_true, not_false_eq_true, false_implies, true_implies, or_true, true_or, or_false, false_or, Bool.or_false, Bool.false_or, decide_false, decide_true, Nat.reduceLT, Nat.reduceLeDiff, Nat.reduceAdd, Nat.reduceSub, ↓reduceIte, Nat.reduceEqDiff, Nat.lt_add_one]
  refine ⟨fun q => ?_, fun q => ?_⟩
  · -- it rests
    have q : m_fit m 0 (-1) = false := by simpa using q
    simp only [mz_u_ne hsx, mz_u_eq, mz_u_ne hgx, mz_u_ne hgs, ex2]
    have hR2 : p_R T (mz_u (mz_u I A.s 7 (m 242 + 1)) A.x 2 (m 227 + 1)) L A B (o_rest m) := by
      refine p_R_pc (kd := m_kd m) (s := m_st m) (c := m_c m) (r := m_r m) hU hR1 (Nat.le_refl _) (fun j hj => m_u_ne (by omega)) (fr_u2 fr_refl (by simp)) ?_ hlt ?_ (by rw [t5]; exact hfit) ?_ ?_ ?_
      · obtain ⟨w1, w2, w3, w4, w5, w6⟩ := id hp1
        exact ⟨w1, by rw [mz_u_ne hpx]; exact w2, by rw [mz_u_ne hpx]; exact w3, by rw [mz_u_ne hpx]; exact w4, by rw [mz_u_ne hpx]; exact w5, w6⟩
      · unfold o_rest
        rw [m_u_ne (by decide), m_u_ne (by decide), m_u_ne (by decide), m_u_ne (by decide), kt 222 (by decide), kt 223 (by decide), kt 224 (by decide), kt 225 (by decide)]
        exact hq
      · intro i a b
        unfold o_rest
        by_cases e : i = 2
        · subst e; rw [mz_u_eq, m_u_eq]
        · rw [mz_u_nk e, m_u_ne (by omega), kt _ (by omega), mz_u_ne hsx]; exact hpc i a b
      · unfold o_rest; rw [m_u_ne (by decide), kt 229 (by decide)]; exact hin
      · unfold o_rest; rw [m_u_ne (by decide), kt 226 (by decide), kt 235 (by decide)]; exact hfa
    have q3 : fr I (mz_u (mz_u I A.s 7 (m 242 + 1)) A.x 2 (m 227 + 1)) [A.s, A.x] := fr_u2 (fr_u2 fr_refl (by simp)) (by simp)
    have sub3 : ∀ a, a ∈ [A.s, A.x] → a ∈ A.all := by simp [z_A.all]
    have hg3 : A.g ∉ [A.s, A.x] := by simp; exact ⟨hgs, hgx⟩
    refine ⟨fun q2 => ?_, fun q2 => ?_⟩
    · have q2 : ¬ I A.g 7 ≤ m 227 + 1 := Int32.not_le.mpr q2
      have et : m_tlock m (I A.g 7) = false := by unfold m_tlock; rw [q, decide_eq_false q2]; rfl
      have eo : ∀ le, o_tick m le (I A.g 7) = o_rest m := fun le => by unfold o_tick; rw [if_neg (by rw [q]; decide), if_neg q2]
      refine hK _ L _ rfl ?_
      rw [et, eo]
      exact Go_st hU hA hM hdj q3 sub3 hg3 (p_R_B hR2 (Nat.le_succ B)) (Nat.le_succ B)
    · have q2 : I A.g 7 ≤ m 227 + 1 := by simpa using q2
      have et : m_tlock m (I A.g 7) = true := by unfold m_tlock; rw [q, decide_eq_true q2]; rfl
      have eo : ∀ le, o_tick m le (I A.g 7) = o_lock (o_rest m) le := fun le => by unfold o_tick; rw [if_neg (by rw [q]; decide), if_pos q2]
      have hM3 := M_step hU hM hA hdj q3 sub3 (fr_refl : fr L L [A.b])
      have elt : (mz_u (mz_u I A.s 7 (m 242 + 1)) A.x 2 (m 227 + 1)) lt = I lt := q3 _ (by simp; exact ⟨ne i3 s1 (by decide), ne i3 x1 (by decide)⟩)
      have kr : ∀ j, j ≠ 242 → j ≠ 227 → o_rest m j = m j := fun j e e' => by unfold o_rest; rw [m_u_ne e', kt j e]
      obtain ⟨r1, r2, r3, r4, r5⟩ := m_same (m := m) (m' := o_rest m) (fun j hj => kr j (by omega) (by omega))
      refine c_lockE hE hE1 hE2 hfi hR2 (by rw [kr 221 (by decide) (by decide)]; exact hl) hB hM3 hdj (fun I' L' hGo => ?_)
      simp only [cd_X1_passTick, e1, e2, g1, g2, g3, g5, x1, x2, x3, s1, r_rn0, r_rnc, r_vk0, r_vkc, r_vks, r_kci, r_kcv, r_ild, r_ald, r_lld, r_dld, r_Li, r_La, r_Ll, r_Ld, r_Ki, r_Ka, r_Kl, r_Kd, r_Kn, r_ist, r_ast, r_lst, r_dst, r_iinc, r_int, r_lng, r_dbl, r_i2, r_i1, r_l2, r_lsh, r_i2z, r_l2z, r_i2l, r_l2i, r_i2d, r_lcmp, r_ddiv, r_dcmpl, r_dup, r_dup2, r_pop, r_one_int, r_one_ref, r_go, r_if, r_ic, r_tsw, r_lsw, r_sw0, r_swc, r_lk0, r_lkc, r_kp, r_gI, r_gL, r_gR, r_pI, r_pZ, r_pL, r_pR, r_gs, r_ia, r_ca, r_za, r_la, r_da, r_aa, r_ias, r_cas, r_zas, r_las, r_das, r_aas, r_acp, r_new, r_nwa, r_nwq, r_ret, r_irt, r_zrt, r_lrt, r_drt, r_art, r_thr, r_cV0, r_cV1, r_cV2, r_cV3, r_cV4, r_cV5, r_cI0, r_cS0, r_cS1, r_cS2, r_cS3, r_cX0, r_cX1, r_cX2, r_cX3, r_rc, r_oi, r_refx, r_i10, r_i01, r_rfs, r_mem0, r_memc, r_beq, r_kl0, r_klz, r_kl1i, r_kl1r, r_kl1n, r_kl1l, r_kl1d, List.length_cons, List.length_nil, List.getElem?_cons_zero, List.getElem?_cons_succ, List.set_cons_zero, List.set_cons_succ, true_and, and_true, not_true, not_false_eq_true, false_implies, true_implies, or_true, true_or, or_false, false_or, Bool.or_false, Bool.false_or, decide_false, decide_true, Nat.reduceLT, Nat.reduceLeDiff, Nat.reduceAdd, Nat.reduceSub, ↓reduceIte, Nat.reduceEqDiff, Nat.lt_add_one]
      rw [elt, r1, r2, r3] at hGo
      refine hK I' L' _ rfl ?_
      rw [et, eo]
      exact Go_tr hmA q3 sub3 hg3 hGo
  · -- it can fall
    have q : m_fit m 0 (-1) = true := by simpa using q
    simp only [mz_u_ne hsx, mz_u_eq, mz_u_ne hss, ex1]
    refine c_level hS ?_
    simp only [cd_X1_passTick, e1, e2, g1, g2, g3, g5, x1, x2, x3, s1, r_rn0, r_rnc, r_vk0, r_vkc, r_vks, r_kci, r_kcv, r_ild, r_ald, r_lld, r_dld, r_Li, r_La, r_Ll, r_Ld, r_Ki, r_Ka, r_Kl, r_Kd, r_Kn, r_ist, r_ast, r_lst, r_dst, r_iinc, r_int, r_lng, r_dbl, r_i2, r_i1, r_l2, r_lsh, r_i2z, r_l2z, r_i2l, r_l2i, r_i2d, r_lcmp, r_ddiv, r_dcmpl, r_dup, r_dup2, r_pop, r_one_int, r_one_ref, r_go, r_if, r_ic, r_tsw, r_lsw, r_sw0, r_swc, r_lk0, r_lkc, r_kp, r_gI, r_gL, r_gR, r_pI, r_pZ, r_pL, r_pR, r_gs, r_ia, r_ca, r_za, r_la, r_da, r_aa, r_ias, r_cas, r_zas, r_las, r_das, r_aas, r_acp, r_new, r_nwa, r_nwq, r_ret, r_irt, r_zrt, r_lrt, r_drt, r_art, r_thr, r_cV0, r_cV1, r_cV2, r_cV3, r_cV4, r_cV5, r_cI0, r_cS0, r_cS1, r_cS2, r_cS3, r_cX0, r_cX1, r_cX2, r_cX3, r_rc, r_oi, r_refx, r_i10, r_i01, r_rfs, r_mem0, r_memc, r_beq, r_kl0, r_klz, r_kl1i, r_kl1r, r_kl1n, r_kl1l, r_kl1d, List.length_cons, List.length_nil, List.getElem?_cons_zero, List.getElem?_cons_succ, List.set_cons_zero, List.set_cons_succ, true_and, and_true, not_true, not_false_eq_true, false_implies, true_implies, or_true, true_or, or_false, false_or, Bool.or_false, Bool.false_or, decide_false, decide_true, Nat.reduceLT, Nat.reduceLeDiff, Nat.reduceAdd, Nat.reduceSub, ↓reduceIte, Nat.reduceEqDiff, Nat.lt_add_one]
    simp only [mz_u_ne hss, mz_u_nk (show (1 : Nat) ≠ 7 by decide), es1]
    rw [← h.lev]
    have hlv1 := w_lv_le (x := m 236)
    have hlv2 := w_lv_ge (x := m 236)
    rw [← h.lev] at hlv1 hlv2
    have e11 : ((11 : Int32) - m 235).toInt = 11 - (m 235).toInt := by
      rw [z_of (m 235), show (11 : Int32) = zI 11 from rfl, z_sub, z_toF (by omega), ← z_of]
    have h26 := z_rng (m 226)
    have e26 : (m 226 + 1).toInt = (m 226).toInt + 1 := by
      rw [z_of (m 226), l_1, z_add, z_toF (by omega), ← z_of]
    have et : m_tlock m (I A.g 7) = false := by unfold m_tlock; rw [q]; rfl
    have eo : ∀ le, o_tick m le (I A.g 7) = (if 11 - m 235 ≤ m 226 + 1 then o_falls (o_tk m) else m_u (o_tk m) 226 (m 226 + 1)) := fun le => by unfold o_tick; rw [if_pos q]
    refine ⟨fun q2 => ?_, fun q2 => ?_⟩
    · have q3 : ¬ 11 - m 235 ≤ m 226 + 1 := Int32.not_le.mpr q2
      refine hK _ L _ rfl ?_
      rw [et, eo, if_neg q3]
      have f3 : fr I (mz_u (mz_u I A.s 7 (m 242 + 1)) A.x 1 (m 226 + 1)) [A.s, A.x] := fr_u2 (fr_u2 fr_refl (by simp)) (by simp)
      refine Go_st hU hA hM hdj f3 (by simp [z_A.all]) (by simp; exact ⟨hgs, hgx⟩) (p_R_B ?_ (Nat.le_succ B)) (Nat.le_succ B)
      refine p_R_pc (kd := m_kd m) (s := m_st m) (c := m_c m) (r := m_r m) hU hR1 (Nat.le_refl _) (fun j hj => m_u_ne (by omega)) (fr_u2 fr_refl (by simp)) ?_ hlt ?_ (by rw [t5]; exact hfit) ?_ ?_ ?_
      · obtain ⟨w1, w2, w3, w4, w5, w6⟩ := id hp1
        exact ⟨w1, by rw [mz_u_ne hpx]; exact w2, by rw [mz_u_ne hpx]; exact w3, by rw [mz_u_ne hpx]; exact w4, by rw [mz_u_ne hpx]; exact w5, w6⟩
      · rw [m_u_ne (by decide), m_u_ne (by decide), m_u_ne (by decide), m_u_ne (by decide), kt 222 (by decide), kt 223 (by decide), kt 224 (by decide), kt 225 (by decide)]
        exact hq
      · intro i a b
        by_cases e : i = 1
        · subst e; rw [mz_u_eq, m_u_eq]
        · rw [mz_u_nk e, m_u_ne (by omega), kt _ (by omega), mz_u_ne hsx]; exact hpc i a b
      · rw [m_u_ne (by decide), kt 229 (by decide)]; exact hin
      · rw [m_u_eq, kt 235 (by decide), e26]
        rw [z_ltF, e26, e11] at q2; exact q2
    · have q3 : 11 - m 235 ≤ m 226 + 1 := by simpa using q2
      refine c_noteFall hX ?_
      simp only [cd_X1_passTick, e1, e2, g1, g2, g3, g5, x1, x2, x3, s1, r_rn0, r_rnc, r_vk0, r_vkc, r_vks, r_kci, r_kcv, r_ild, r_ald, r_lld, r_dld, r_Li, r_La, r_Ll, r_Ld, r_Ki, r_Ka, r_Kl, r_Kd, r_Kn, r_ist, r_ast, r_lst, r_dst, r_iinc, r_int, r_lng, r_dbl, r_i2, r_i1, r_l2, r_lsh, r_i2z, r_l2z, r_i2l, r_l2i, r_i2d, r_lcmp, r_ddiv, r_dcmpl, r_dup, r_dup2, r_pop, r_one_int, r_one_ref, r_go, r_if, r_ic, r_tsw, r_lsw, r_sw0, r_swc, r_lk0, r_lkc, r_kp, r_gI, r_gL, r_gR, r_pI, r_pZ, r_pL, r_pR, r_gs, r_ia, r_ca, r_za, r_la, r_da, r_aa, r_ias, r_cas, r_zas, r_las, r_das, r_aas, r_acp, r_new, r_nwa, r_nwq, r_ret, r_irt, r_zrt, r_lrt, r_drt, r_art, r_thr, r_cV0, r_cV1, r_cV2, r_cV3, r_cV4, r_cV5, r_cI0, r_cS0, r_cS1, r_cS2, r_cS3, r_cX0, r_cX1, r_cX2, r_cX3, r_rc, r_oi, r_refx, r_i10, r_i01, r_rfs, r_mem0, r_memc, r_beq, r_kl0, r_klz, r_kl1i, r_kl1r, r_kl1n, r_kl1l, r_kl1d, List.length_cons, List.length_nil, List.getElem?_cons_zero, List.getElem?_cons_succ, List.set_cons_zero, List.set_cons_succ, true_and, and_true, not_true, not_false_eq_true, false_implies, true_implies, or_true, true_or, or_false, false_or, Bool.or_false, Bool.false_or, decide_false, decide_true, Nat.reduceLT, Nat.reduceLeDiff, Nat.reduceAdd, Nat.reduceSub, ↓reduceIte, Nat.reduceEqDiff, Nat.lt_add_one]
      have hJ : fr (mz_u I A.s 7 (m 242 + 1)) (mz_u (mz_u (mz_u I A.s 7 (m 242 + 1)) A.x 1 (m 226 + 1)) A.p 3 (mz_u (mz_u I A.s 7 (m 242 + 1)) A.x 1 (m 226 + 1) A.p 3 - 1)) [A.x, A.p] := fr_u2 (fr_u2 fr_refl (by simp)) (by simp)
      have hxp : A.x ≠ A.p := Ne.symm hpx
      have key := fall_R hU hR1 hlt hJ (by
        rw [t1, t2, t3, t4]
        obtain ⟨w1, w2, w3, w4, w5, w6⟩ := id hp1
        refine ⟨w1, by rw [mz_u_nk (by decide), mz_u_ne hpx]; exact w2, by rw [mz_u_nk (by decide), mz_u_ne hpx]; exact w3, by rw [mz_u_nk (by decide), mz_u_ne hpx]; exact w4, ?_, ⟨w6.1, w6.2.1, w6.2.2.1, by omega⟩⟩
        rw [mz_u_eq, mz_u_ne hpx, w5, l_1, z_sub]) (by unfold m_fit; rw [t1, t2, t3, t4, t5]; exact q) (fun i a b => by rw [mz_u_ne hxp, mz_u_nk (by omega)])
      refine hK _ L _ rfl ?_
      rw [et, eo, if_pos q3]
      exact Go_st (S := [A.s, A.x, A.p]) hU hA hM hdj (fr_tr (fr_u : fr I (mz_u I A.s 7 (m 242 + 1)) [A.s]) key.1 (by simp) (by simp)) (by simp [z_A.all]) (by simp; exact ⟨hgs, hgx, ne g1 x3 (by decide)⟩) (p_R_B key.2 (Nat.le_succ B)) (Nat.le_succ B)
end TICK
