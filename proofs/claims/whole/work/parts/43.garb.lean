/-! the engine: garbage -/
section GARB
variable {G : mz_G} {K : mz_K} {T : mz_T} {I : mz_I} {L : mz_L}
def o_garb (m : Nat → Int32) (n ho : Nat) : Nat → Int32 := fun j => if j < 220 then (if 10 * n ≤ j then m (j - 10 * n) else if j % 10 = ho then 0 else 8) else m j
def m_gok (m : Nat → Int32) (n ho : Nat) : Bool := decide (s_gh (s_fm m) 10 + n ≤ 22) && s_fit (s_fm (o_garb m n ho)) (m_kd m) (m_st m) (m_c m) (m_r m)
theorem s_hn_cg {e e' : Nat → Bool} (h : ∀ i, i < 220 → e i = e' i) {c : Nat} (hc : c < 10) : ∀ n, n ≤ 22 → s_hn e c n = s_hn e' c n
  | 0, _ => rfl
  | n + 1, hn => by unfold s_hn; rw [h _ (by omega), s_hn_cg h hc n (by omega)]
theorem s_ht_cg {e e' : Nat → Bool} (h : ∀ i, i < 220 → e i = e' i) {c : Nat} (hc : c < 10) : s_ht e c = s_ht e' c := s_hn_cg h hc 22 (Nat.le_refl _)
theorem s_gh_cg {e e' : Nat → Bool} (h : ∀ i, i < 220 → e i = e' i) : ∀ n, n ≤ 10 → s_gh e n = s_gh e' n
  | 0, _ => rfl
  | n + 1, hn => by unfold s_gh; rw [s_ht_cg h (by omega), s_gh_cg h n (by omega)]
theorem s_rc_full {e : Nat → Bool} {r : Nat} {c : Nat} (hc : c < 10) (h : e (10 * r + c) = false) : s_full e r = false := by
  have key : ∀ n, c < n → n ≤ 10 → s_rc e r n < n := by
    intro n
    induction n with
    | zero => intro a; omega
    | succ n ih =>
      intro a b
      unfold s_rc
      by_cases q : c = n
      · subst q; rw [h]; have := s_rc_le (e := e) (r := r) c; simp; omega
      · have := ih (by omega) (by omega); split <;> omega
  unfold s_full
  have := key 10 hc (Nat.le_refl _)
  exact decide_eq_false (by omega)
theorem garb_nof {m : Nat → Int32} {n ho : Nat} (hho : ho < 10) (h : ∀ r, r < 22 → s_full (s_fm m) r = false) : ∀ r, r < 22 → s_full (s_fm (o_garb m n ho)) r = false := by
  intro r hr
  by_cases q : n ≤ r
  · have e : s_full (s_fm (o_garb m n ho)) r = s_full (s_fm m) (r - n) := by
      unfold s_full
      have : s_rc (s_fm (o_garb m n ho)) r 10 = s_rc (s_fm m) (r - n) 10 := by
        have key : ∀ k, k ≤ 10 → s_rc (s_fm (o_garb m n ho)) r k = s_rc (s_fm m) (r - n) k := by
          intro k
          induction k with
          | zero => intro _; rfl
          | succ k ih =>
            intro hk
            unfold s_rc
            rw [ih (by omega)]
            have e2 : s_fm (o_garb m n ho) (10 * r + k) = s_fm m (10 * (r - n) + k) := by
              unfold s_fm o_garb
              rw [if_pos (by omega), if_pos (by omega), show 10 * r + k - 10 * n = 10 * (r - n) + k by omega]
              simp [show 10 * r + k < 220 by omega, show 10 * (r - n) + k < 220 by omega]
            rw [e2]
        exact key 10 (Nat.le_refl _)
      rw [this]
    rw [e]; exact h _ (by omega)
  · refine s_rc_full hho ?_
    unfold s_fm o_garb
    rw [if_pos (by omega), if_neg (by omega), if_pos (by omega)]
    simp
theorem garb_R {A : z_A} {B n ho : Nat} {m : Nat → Int32} {I' : mz_I} (hU : ∀ a x y, (a, x) ∈ T.1 → (a, y) ∈ T.1 → x = y) (h : p_R T I L A B m) (hl : m 221 = 0) (hho : ho < 10) (hf : ∀ a, a ∈ A.all → a ≠ A.k → I' a = I a) (hk : ∀ i, i < 220 → I' A.k i = o_garb m n ho i - 1) (hfit : s_fit (s_fm (o_garb m n ho)) (m_kd m) (m_st m) (m_c m) (m_r m) = true) : p_R T I' L A B (o_garb m n ho) := by
  obtain ⟨⟨g1, g2, g3, g4, g5⟩, ⟨f1, f2, f3⟩, ⟨x1, x2, x3⟩, ⟨b1, b2, b3⟩, ⟨s1, s2, s3, s4, s5⟩⟩ := id h.sh
  have n0 : ∀ {a : Nat} {x : Nat × Nat}, a ∈ A.all → (a, x) ∈ T.1 → x ≠ (1, 220) → I' a = I a := fun {a x} hm q e => hf a hm (mz_ne hU q f2 e)
  have hm : ∀ j, 220 ≤ j → o_garb m n ho j = m j := fun j a => if_neg (by omega)
  have eg : I' A.g = I A.g := n0 z_gm g1 (by decide)
  have eb : I' A.b = I A.b := n0 z_bm b1 (by decide)
  have ev : I' A.v = I A.v := n0 (by simp [z_A.all]) b2 (by decide)
  have es : I' A.s = I A.s := n0 (by simp [z_A.all]) s1 (by decide)
  have ec : I' A.c = I A.c := n0 (by simp [z_A.all]) s2 (by decide)
  have el : I' A.l = I A.l := n0 (by simp [z_A.all]) s3 (by decide)
  have ex : I' A.x = I A.x := n0 (by simp [z_A.all]) x1 (by decide)
  have ep : I' A.p = I A.p := n0 (by simp [z_A.all]) x3 (by decide)
  obtain ⟨⟨p1, p2, p3, p4, p5, p6⟩, hq, -⟩ := h.now hl
  refine ⟨h.sh, hk, garb_nof hho h.nof, ?_, ?_, ?_, ?_, ?_, ?_, ?_, ?_, ?_, ?_, ?_, ?_⟩
  · rw [eg, hm 221 (by decide)]; exact h.over
  · rw [eg, hm 232 (by decide)]; exact h.held
  · rw [eg]; exact h.used
  · exact ⟨_, _, _, _, ⟨p1, by rw [ep]; exact p2, by rw [ep]; exact p3, by rw [ep]; exact p4, by rw [ep]; exact p5, p6⟩, fun _ => ⟨by rw [hm 222 (by decide), hm 223 (by decide), hm 224 (by decide), hm 225 (by decide)]; exact hq, hfit⟩⟩
  · intro q
    obtain ⟨h1, h2, h3, h4⟩ := h.live hl
    exact ⟨fun i a b => by rw [ex, hm _ (by omega)]; exact h1 i a b, by rw [eg, hm 233 (by decide)]; exact h2, by rw [hm 229 (by decide)]; exact h3, by rw [hm 226 (by decide), hm 235 (by decide)]; exact h4⟩
  · obtain ⟨z, h1, h2, h3, h4, h5, h6, h7⟩ := h.bags
    exact ⟨z, by rw [hm 267 (by decide)]; exact h1, by rw [hm 220 (by decide)]; exact h2, h3, by rw [ev]; exact h4, h5, by rw [eb]; exact h6, h7⟩
  · rw [es, hm 234 (by decide), hm 236 (by decide), hm 237 (by decide), hm 238 (by decide), hm 239 (by decide), hm 240 (by decide), hm 241 (by decide), hm 242 (by decide), hm 266 (by decide)]
    exact h.sc
  · rw [hm 235 (by decide), hm 236 (by decide)]; exact h.lev
  · rw [hm 266 (by decide)]; exact h.hard
  · rw [hm 237 (by decide), hm 265 (by decide)]; exact h.pcs
  · intro sp n a b
    rw [ec, hm _ (by omega)]; exact h.cnt sp n a b
  · rw [hm 265 (by decide), el]
    intro q w hw
    rw [hm _ (by omega)]; exact h.lat q w hw
theorem c_garbE {en rf rk n ho B : Nat} {A : z_A} {m : Nat → Int32} (hE : p_E T en A) (hE4 : T.2 en 4 = some rf) (hrf : p_Field T rf rk) (hrk : rk ∉ A.all) (h : p_R T I L A B m) (hl : m 221 = 0) (hn : n ≤ 4) (hho : ho < 10)
    (hn9 : m_gok m n ho = false → ∀ I', fr I I' [rk] → K (some (.int 0)) T I' L)
    (ht : m_gok m n ho = true → ∀ I', fr I I' [rk, A.k] → p_R T I' L A B (o_garb m n ho) → K (some (.int 1)) T I' L) : mz_Ctr G M_X1_addGarbage [.ref en, .int (zI n), .int (zI ho)] T I L K := by
  refine mz_apartC fun hU => ?_
  obtain ⟨e1, e2⟩ := id hE
  obtain ⟨⟨g1, g2, g3, g4, g5⟩, hF, hX, hB9, hS⟩ := id h.sh
  obtain ⟨f1, f2, f3⟩ := id hF
  obtain ⟨x1, x2, x3⟩ := id hX
  obtain ⟨r1, r2, r3⟩ := id hrf
  obtain ⟨hp, hq, hfit⟩ := h.now hl
  have hkk : A.k ≠ rk := fun e => hrk (by simp [z_A.all, ← e])
  have hpk : A.p ≠ rk := mz_ne hU x3 r2 (by decide)
  refine mz_ofl mk_X1_addGarbage rfl (Nat.le_of_ble_eq_true rfl) (Nat.le_of_ble_eq_true rfl) [some (.ref en), some (.int (zI n)), some (.int (zI ho)), none] rfl ?_
  refine mz_vc ok_X1_addGarbage [] [(), (), (), (), (), (), (), (), (), (), (), (), (), (), (), (), (), (), (), (), (), (), (), (), (), (), (), (), (), ()] ?_
  simp only [cd_X1_addGarbage, e1, e2, hE4, g1, g2, g3, f1, x1, x2, x3, r1, r_rn0, r_rnc, r_vk0, r_vkc, r_vks, r_kci, r_kcv, r_ild, r_ald, r_lld, r_dld, r_Li, r_La, r_Ll, r_Ld, r_Ki, r_Ka, r_Kl, r_Kd, r_Kn, r_ist, r_ast, r_lst, r_dst, r_iinc, r_int, r_lng, r_dbl, r_i2, r_i1, r_l2, r_lsh, r_i2z, r_l2z, r_i2l, r_l2i, r_i2d, r_lcmp, r_ddiv, r_dcmpl, r_dup, r_dup2, r_pop, r_one_int, r_one_ref, r_go, r_if, r_ic, r_tsw, r_lsw, r_sw0, r_swc, r_lk0, r_lkc, r_kp, r_gI, r_gL, r_gR, r_pI, r_pZ, r_pL, r_pR, r_gs, r_ia, r_ca, r_za, r_la, r_da, r_aa, r_ias, r_cas, r_zas, r_las, r_das, r_aas, r_acp, r_new, r_nwa, r_nwq, r_ret, r_irt, r_zrt, r_lrt, r_drt, r_art, r_thr, r_cV0, r_cV1, r_cV2, r_cV3, r_cV4, r_cV5, r_cI0, r_cS0, r_cS1, r_cS2, r_cS3, r_cX0, r_cX1, r_cX2, r_cX3, r_rc, r_oi, r_refx, r_i10, r_i01, r_rfs, r_mem0, r_memc, r_beq, r_kl0, r_klz, r_kl1i, r_kl1r, r_kl1n, r_kl1l, r_kl1d, List.length_cons, List.length_nil, List.getElem?_cons_zero, List.getElem?_cons_succ, List.set_cons_zero, List.set_cons_succ, true_and, and_true, not_true, not_false_eq_true, false_implies, true_implies, or_true, true_or, or_false, false_or, Bool.or_false, Bool.false_or, decide_false, decide_true, Nat.reduceLT, Nat.reduceLeDiff, Nat.reduceAdd, Nat.reduceSub, ↓reduceIte, Nat.reduceEqDiff, Nat.lt_add_one]
  refine c_greatestHeight hF ?_
  simp only [cd_X1_addGarbage, e1, e2, hE4, g1, g2, g3, f1, x1, x2, x3, r1, r_rn0, r_rnc, r_vk0, r_vkc, r_vks, r_kci, r_kcv, r_ild, r_ald, r_lld, r_dld, r_Li, r_La, r_Ll, r_Ld, r_Ki, r_Ka, r_Kl, r_Kd, r_Kn, r_ist, r_ast, r_lst, r_dst, r_iinc, r_int, r_lng, r_dbl, r_i2, r_i1, r_l2, r_lsh, r_i2z, r_l2z, r_i2l, r_l2i, r_i2d, r_lcmp, r_ddiv, r_dcmpl, r_dup, r_dup2, r_pop, r_one_int, r_one_ref, r_go, r_if, r_ic, r_tsw, r_lsw, r_sw0, r_swc, r_lk0, r_lkc, r_kp, r_gI, r_gL, r_gR, r_pI, r_pZ, r_pL, r_pR, r_gs, r_ia, r_ca, r_za, r_la, r_da, r_aa, r_ias, r_cas, r_zas, r_las, r_das, r_aas, r_acp, r_new, r_nwa, r_nwq, r_ret, r_irt, r_zrt, r_lrt, r_drt, r_art, r_thr, r_cV0, r_cV1, r_cV2, r_cV3, r_cV4, r_cV5, r_cI0, r_cS0, r_cS1, r_cS2, r_cS3, r_cX0, r_cX1, r_cX2, r_cX3, r_rc, r_oi, r_refx, r_i10, r_i01, r_rfs, r_mem0, r_memc, r_beq, r_kl0, r_klz, r_kl1i, r_kl1r, r_kl1n, r_kl1l, r_kl1d, List.length_cons, List.length_nil, List.getElem?_cons_zero, List.getElem?_cons_succ, List.set_cons_zero, List.set_cons_succ, true_and, and_true, not_true, not_false_eq_true, false_implies, true_implies, or_true, true_or, or_false, false_or, Bool.or_false, Bool.false_or, decide_false, decide_true, Nat.reduceLT, Nat.reduceLeDiff, Nat.reduceAdd, Nat.reduceSub, ↓reduceIte, Nat.reduceEqDiff, Nat.lt_add_one]
  have eh : s_gh (s_fl (I A.k)) 10 = s_gh (s_fm m) 10 := s_gh_cg h.fl 10 (Nat.le_refl _)
  have hgl := s_gh_le (e := s_fm m) 10
  rw [eh, l_22, z_add, z_le (by omega) (by omega)]
  refine ⟨fun q => ?_, fun q => hn9 (by unfold m_gok; rw [decide_eq_false (by omega)]; rfl) I fr_refl⟩
  refine c_copyF hrf hF ?_
  simp only [cd_X1_addGarbage, e1, e2, hE4, g1, g2, g3, f1, x1, x2, x3, r1, r_rn0, r_rnc, r_vk0, r_vkc, r_vks, r_kci, r_kcv, r_ild, r_ald, r_lld, r_dld, r_Li, r_La, r_Ll, r_Ld, r_Ki, r_Ka, r_Kl, r_Kd, r_Kn, r_ist, r_ast, r_lst, r_dst, r_iinc, r_int, r_lng, r_dbl, r_i2, r_i1, r_l2, r_lsh, r_i2z, r_l2z, r_i2l, r_l2i, r_i2d, r_lcmp, r_ddiv, r_dcmpl, r_dup, r_dup2, r_pop, r_one_int, r_one_ref, r_go, r_if, r_ic, r_tsw, r_lsw, r_sw0, r_swc, r_lk0, r_lkc, r_kp, r_gI, r_gL, r_gR, r_pI, r_pZ, r_pL, r_pR, r_gs, r_ia, r_ca, r_za, r_la, r_da, r_aa, r_ias, r_cas, r_zas, r_las, r_das, r_aas, r_acp, r_new, r_nwa, r_nwq, r_ret, r_irt, r_zrt, r_lrt, r_drt, r_art, r_thr, r_cV0, r_cV1, r_cV2, r_cV3, r_cV4, r_cV5, r_cI0, r_cS0, r_cS1, r_cS2, r_cS3, r_cX0, r_cX1, r_cX2, r_cX3, r_rc, r_oi, r_refx, r_i10, r_i01, r_rfs, r_mem0, r_memc, r_beq, r_kl0, r_klz, r_kl1i, r_kl1r, r_kl1n, r_kl1l, r_kl1d, List.length_cons, List.length_nil, List.getElem?_cons_zero, List.getElem?_cons_succ, List.set_cons_zero, List.set_cons_succ, true_and, and_true, not_true, not_false_eq_true, false_implies, true_implies, or_true, true_or, or_false, false_or, Bool.or_false, Bool.false_or, decide_false, decide_true, Nat.reduceLT, Nat.reduceLeDiff, Nat.reduceAdd, Nat.reduceSub, ↓reduceIte, Nat.reduceEqDiff, Nat.lt_add_one]
  refine c_raise hrf (by omega) hho (fun I1 q1 h1 => ?_)
  simp only [cd_X1_addGarbage, e1, e2, hE4, g1, g2, g3, f1, x1, x2, x3, r1, r_rn0, r_rnc, r_vk0, r_vkc, r_vks, r_kci, r_kcv, r_ild, r_ald, r_lld, r_dld, r_Li, r_La, r_Ll, r_Ld, r_Ki, r_Ka, r_Kl, r_Kd, r_Kn, r_ist, r_ast, r_lst, r_dst, r_iinc, r_int, r_lng, r_dbl, r_i2, r_i1, r_l2, r_lsh, r_i2z, r_l2z, r_i2l, r_l2i, r_i2d, r_lcmp, r_ddiv, r_dcmpl, r_dup, r_dup2, r_pop, r_one_int, r_one_ref, r_go, r_if, r_ic, r_tsw, r_lsw, r_sw0, r_swc, r_lk0, r_lkc, r_kp, r_gI, r_gL, r_gR, r_pI, r_pZ, r_pL, r_pR, r_gs, r_ia, r_ca, r_za, r_la, r_da, r_aa, r_ias, r_cas, r_zas, r_las, r_das, r_aas, r_acp, r_new, r_nwa, r_nwq, r_ret, r_irt, r_zrt, r_lrt, r_drt, r_art, r_thr, r_cV0, r_cV1, r_cV2, r_cV3, r_cV4, r_cV5, r_cI0, r_cS0, r_cS1, r_cS2, r_cS3, r_cX0, r_cX1, r_cX2, r_cX3, r_rc, r_oi, r_refx, r_i10, r_i01, r_rfs, r_mem0, r_memc, r_beq, r_kl0, r_klz, r_kl1i, r_kl1r, r_kl1n, r_kl1l, r_kl1d, List.length_cons, List.length_nil, List.getElem?_cons_zero, List.getElem?_cons_succ, List.set_cons_zero, List.set_cons_succ, true_and, and_true, not_true, not_false_eq_true, false_implies, true_implies, or_true, true_or, or_false, false_or, Bool.or_false, Bool.false_or, decide_false, decide_true, Nat.reduceLT, Nat.reduceLeDiff, Nat.reduceAdd, Nat.reduceSub, ↓reduceIte, Nat.reduceEqDiff, Nat.lt_add_one]
  have q2 : fr I I1 [rk] := fr_tr1 (fr_row : fr I (mz_row I rk (va_cpy (I A.k) (I rk) 0 0 220)) [rk]) q1 (fun _ q => q)
  have h2 : ∀ i, i < 220 → I1 rk i = o_garb m n ho i - 1 := by
    intro i hi
    rw [h1 i hi, mz_row_eq]
    unfold o_garb
    rw [if_pos hi]
    by_cases c1 : 10 * n ≤ i
    · rw [if_pos c1, if_pos c1]
      unfold va_cpy
      rw [if_pos (by omega), show 0 + (i - 10 * n - 0) = i - 10 * n by omega]
      exact h.fld _ (by omega)
    · rw [if_neg c1, if_neg c1]
      by_cases c2 : i % 10 = ho
      · rw [if_pos c2, if_pos c2]; rfl
      · rw [if_neg c2, if_neg c2]; rfl
  have hp1 : p_Pos T I1 A.p (m_kd m) (m_st m) (m_c m) (m_r m) := by
    obtain ⟨p1, p2, p3, p4, p5, p6⟩ := hp
    have e := fr_ne1 q2 hpk
    exact ⟨p1, by rw [e]; exact p2, by rw [e]; exact p3, by rw [e]; exact p4, by rw [e]; exact p5, p6⟩
  refine c_fits hp1 hrf ?_
  rw [s_fit_cg (fl_of h2)]
  have eok : m_gok m n ho = s_fit (s_fm (o_garb m n ho)) (m_kd m) (m_st m) (m_c m) (m_r m) := by unfold m_gok; rw [decide_eq_true (by omega)]; rfl
  rw [← eok]
  simp only [cd_X1_addGarbage, e1, e2, hE4, g1, g2, g3, f1, x1, x2, x3, r1, b2i_0, r_rn0, r_rnc, r_vk0, r_vkc, r_vks, r_kci, r_kcv, r_ild, r_ald, r_lld, r_dld, r_Li, r_La, r_Ll, r_Ld, r_Ki, r_Ka, r_Kl, r_Kd, r_Kn, r_ist, r_ast, r_lst, r_dst, r_iinc, r_int, r_lng, r_dbl, r_i2, r_i1, r_l2, r_lsh, r_i2z, r_l2z, r_i2l, r_l2i, r_i2d, r_lcmp, r_ddiv, r_dcmpl, r_dup, r_dup2, r_pop, r_one_int, r_one_ref, r_go, r_if, r_ic, r_tsw, r_lsw, r_sw0, r_swc, r_lk0, r_lkc, r_kp, r_gI, r_gL, r_gR, r_pI, r_pZ, r_pL, r_pR, r_gs, r_ia, r_ca, r_za, r_la, r_da, r_aa, r_ias, r_cas, r_zas, r_las, r_das, r_aas, r_acp, r_new, r_nwa, r_nwq, r_ret, r_irt, r_zrt, r_lrt, r_drt, r_art, r_thr, r_cV0, r_cV1, r_cV2, r_cV3, r_cV4, r_cV5, r_cI0, r_cS0, r_cS1, r_cS2, r_cS3, r_cX0, r_cX1, r_cX2, r_cX3, r_rc, r_oi, r_refx, r_i10, r_i01, r_rfs, r_mem0, r_memc, r_beq, r_kl0, r_klz, r_kl1i, r_kl1r, r_kl1n, r_kl1l, r_kl1d, List.length_cons, List.length_nil, List.getElem?_cons_zero, List.getElem?_cons_succ, List.set_cons_zero, List.set_cons_succ, true_and, and_true, not_true, not_false_eq_true, false_implies, true_implies, or_true, true_or, or_false, false_or, Bool.or_false, Bool.false_or, decide_false, decide_true, Nat.reduceLT, Nat.reduceLeDiff, Nat.reduceAdd, Nat.reduceSub, ↓reduceIte, Nat.reduceEqDiff, Nat.lt_add_one]
  refine ⟨fun q3 => ?_, fun q3 => ?_⟩
  · rw [q3]
    exact ⟨Or.inl rfl, hn9 q3 I1 q2⟩
  · have q3 : m_gok m n ho = true := by simpa using q3
    refine c_copyF hF hrf ?_
    simp only [cd_X1_addGarbage, e1, e2, hE4, g1, g2, g3, f1, x1, x2, x3, r1, r_rn0, r_rnc, r_vk0, r_vkc, r_vks, r_kci, r_kcv, r_ild, r_ald, r_lld, r_dld, r_Li, r_La, r_Ll, r_Ld, r_Ki, r_Ka, r_Kl, r_Kd, r_Kn, r_ist, r_ast, r_lst, r_dst, r_iinc, r_int, r_lng, r_dbl, r_i2, r_i1, r_l2, r_lsh, r_i2z, r_l2z, r_i2l, r_l2i, r_i2d, r_lcmp, r_ddiv, r_dcmpl, r_dup, r_dup2, r_pop, r_one_int, r_one_ref, r_go, r_if, r_ic, r_tsw, r_lsw, r_sw0, r_swc, r_lk0, r_lkc, r_kp, r_gI, r_gL, r_gR, r_pI, r_pZ, r_pL, r_pR, r_gs, r_ia, r_ca, r_za, r_la, r_da, r_aa, r_ias, r_cas, r_zas, r_las, r_das, r_aas, r_acp, r_new, r_nwa, r_nwq, r_ret, r_irt, r_zrt, r_lrt, r_drt, r_art, r_thr, r_cV0, r_cV1, r_cV2, r_cV3, r_cV4, r_cV5, r_cI0, r_cS0, r_cS1, r_cS2, r_cS3, r_cX0, r_cX1, r_cX2, r_cX3, r_rc, r_oi, r_refx, r_i10, r_i01, r_rfs, r_mem0, r_memc, r_beq, r_kl0, r_klz, r_kl1i, r_kl1r, r_kl1n, r_kl1l, r_kl1d, List.length_cons, List.length_nil, List.getElem?_cons_zero, List.getElem?_cons_succ, List.set_cons_zero, List.set_cons_succ, true_and, and_true, not_true, not_false_eq_true, false_implies, true_implies, or_true, true_or, or_false, false_or, Bool.or_false, Bool.false_or, decide_false, decide_true, Nat.reduceLT, Nat.reduceLeDiff, Nat.reduceAdd, Nat.reduceSub, ↓reduceIte, Nat.reduceEqDiff, Nat.lt_add_one]
    rw [q3]
    refine ⟨Or.inr rfl, ht q3 _ (fr_row2 (fr_tr q2 fr_refl (by simp) (fun _ q => q)) (by simp)) (garb_R hU h hl hho (fun a ha hne => ?_) (fun i hi => ?_) (by rw [← eok]; exact q3))⟩
    · rw [mz_row_ne hne]
      exact fr_ne1 q2 (fun e => hrk (e ▸ ha))
    · rw [mz_row_eq]
      unfold va_cpy
      rw [if_pos (by omega), show 0 + (i - 0) = i by omega]
      exact h2 i hi
end GARB
