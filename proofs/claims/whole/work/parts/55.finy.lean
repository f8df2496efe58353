/-! Finesse: explore -/
section FIN5
variable {G : mz_G} {K : mz_K} {T : mz_T} {I : mz_I} {L : mz_L}
theorem f_sp_c {sp : Nat} : f_sp (sp / 16) (f_c sp) = sp := by unfold f_sp f_c; omega
def f_at (T : mz_T) (I : mz_I) (ap kd sp : Nat) : Prop := ∃ (s : Nat) (c r : Int), p_Pos T I ap kd s c r ∧ f_sp s c = sp ∧ -3 ≤ c ∧ c ≤ 12
theorem c_mvF {ap op ok kd sp : Nat} {d : Int} (hp : p_Pos T I ap kd (sp / 16) (f_c sp) 9) (hF : p_Field T op ok) (ho : ∀ i, i < 220 → s_fl (I ok) i = e_no i) (hw : f_w kd (sp / 16) (f_c sp) = true) (hd : d = -1 ∨ d = 1)
    (h : ∀ I' v, fr I I' [ap] → f_at T I' ap kd (f_mv kd sp d) → K (some (.int v)) T I' L) : mz_Ctr G M_X8_moveBy [.ref ap, .int (zI d), .int 0, .ref op] T I L K := by
  obtain ⟨p1, p2, p3, p4, p5, hk, hs, hc, hr⟩ := id hp
  have hb := f_w_b hk hs hw
  refine c_moveBy (dr := 0) hp hF (by rcases hd with e | e <;> subst e <;> omega) (by omega) (fun q => ?_) (fun q => ?_)
  · rw [s_fit_cg ho, f_fit hk hs (by omega)] at q
    refine h _ _ (fr_u2 (fr_u2 fr_refl (List.mem_singleton.mpr rfl)) (List.mem_singleton.mpr rfl)) ⟨_, _, _, p_Pos_mv hp (by rcases hd with e | e <;> subst e <;> omega) (by omega), ?_, ?_⟩
    · unfold f_mv; rw [if_pos q]
    · have := f_w_b hk hs q
      omega
  · rw [s_fit_cg ho, f_fit hk hs (by omega)] at q
    refine h _ _ fr_refl ⟨_, _, _, hp, ?_, by omega⟩
    unfold f_mv; rw [q, if_neg (by decide)]
theorem f_s_fit {kd s : Nat} {d : Int} : ∀ n c, 0 < f_s kd s d n c → f_w kd s (c + d * (f_s kd s d n c : Nat)) = true
  | 0, c => fun h => absurd h (Nat.lt_irrefl _)
  | n + 1, c => fun h => by
    unfold f_s at h ⊢
    split at h
    · rename_i q
      rw [if_pos q]
      by_cases e : f_s kd s d n (c + d) = 0
      · rw [e]
        have : c + d * ((0 + 1 : Nat) : Int) = c + d := by simp
        rw [this]; exact q
      · have := f_s_fit (kd := kd) (s := s) (d := d) n (c + d) (Nat.pos_of_ne_zero e)
        have e2 : c + d * ((f_s kd s d n (c + d) + 1 : Nat) : Int) = c + d + d * (f_s kd s d n (c + d) : Nat) := by
          rw [Int.natCast_add, Int.mul_add]; simp; omega
        rw [e2]; exact this
    · exact absurd h (Nat.lt_irrefl _)
theorem c_sdF {ap op ok kd sp : Nat} {d : Int} (hp : p_Pos T I ap kd (sp / 16) (f_c sp) 9) (hF : p_Field T op ok) (ho : ∀ i, i < 220 → s_fl (I ok) i = e_no i) (hw : f_w kd (sp / 16) (f_c sp) = true) (hd : d = -1 ∨ d = 1)
    (h : ∀ I' v, fr I I' [ap] → f_at T I' ap kd (f_sd kd sp d) → K (some (.int v)) T I' L) : mz_Ctr G M_X8_slideBy [.ref ap, .int (zI d), .ref op] T I L K := by
  obtain ⟨p1, p2, p3, p4, p5, hk, hs, hc, hr⟩ := id hp
  have hb := f_w_b hk hs hw
  refine c_slide hp hF hd (by omega) (fun I' q hp' => ?_)
  rw [s_sl_cg ho, f_sl hk hs] at hp'
  refine h _ _ q ⟨_, _, _, hp', rfl, ?_⟩
  by_cases e : f_s kd (sp / 16) d 10 (f_c sp) = 0
  · rw [e]; simp; omega
  · have := f_w_b hk hs (f_s_fit (kd := kd) (s := sp / 16) (d := d) 10 (f_c sp) (Nat.pos_of_ne_zero e))
    omega
theorem c_tkF {ap op ok kd sp : Nat} {d : Int} (hp : p_Pos T I ap kd (sp / 16) (f_c sp) 9) (hF : p_Field T op ok) (ho : ∀ i, i < 220 → s_fl (I ok) i = e_no i) (hw : f_w kd (sp / 16) (f_c sp) = true) (hd : d = -1 ∨ d = 1)
    (h : ∀ I' v, fr I I' [ap] → f_at T I' ap kd (f_tk kd sp d (s_km kd) 0) → K (some (.int v)) T I' L) : mz_Ctr G M_X8_turnBy [.ref ap, .int (zI d), .ref op] T I L K := by
  obtain ⟨p1, p2, p3, p4, p5, hk, hs, hc, hr⟩ := id hp
  have hb := f_w_b hk hs hw
  have ek : ∀ i, i < s_km kd → s_kf (s_fl (I ok)) kd (sp / 16) (f_c sp) 9 d i = f_w kd (s_rot (sp / 16) d) (f_c sp + d * s_kt kd (2 * i)) := fun i hi => by
    rw [← f_kf hk hi]; unfold s_kf; rw [s_fit_cg ho]
  refine c_turn hp hF hd (by omega) (by omega) (fun i hi q1 q2 I' q hp' => ?_) (fun q1 I' q hp' => ?_)
  · rw [ek i hi] at q1
    have hx := f_w_b hk s_rot_lt q1
    refine h _ _ q ⟨_, _, _, hp', ?_, by omega⟩
    rw [f_tkt q1 _ _ (Nat.zero_le _) (by omega) (fun j _ b => by rw [← ek j (by omega)]; exact q2 j b)]
  · refine h _ _ q ⟨_, _, _, hp', ?_, by omega⟩
    rw [f_tkn _ _ (fun j _ b => by rw [← ek j (by omega)]; exact q1 j (by omega))]
def f_St (T : mz_T) (I I' : mz_I) (fi lt qu ap kd : Nat) (Q : List (Nat × Nat)) : Prop := fr I I' [fi, lt, qu, ap] ∧ f_S I' fi lt qu kd Q ∧ (∃ (s : Nat) (c r : Int), p_Pos T I' ap kd s c r) ∧ (∀ j, j < 448 → j / 64 ≠ kd → I' lt j = I lt j)
theorem f_St_ap {I1 I2 : mz_I} {fi lt qu ap kd sp : Nat} {Q : List (Nat × Nat)} (h : f_St T I I1 fi lt qu ap kd Q) (hn : fi ≠ ap ∧ lt ≠ ap ∧ qu ≠ ap) (hf : fr I1 I2 [ap]) (ha : ∃ (s : Nat) (c r : Int), p_Pos T I2 ap kd s c r) : f_St T I I2 fi lt qu ap kd Q := by
  obtain ⟨h1, ⟨h2, h3, h4, h5, h6⟩, h7, h8⟩ := h
  obtain ⟨n1, n2, n3⟩ := hn
  have e1 := fr_ne1 hf n1
  have e2 := fr_ne1 hf n2
  have e3 := fr_ne1 hf n3
  exact ⟨fr_tr1 h1 hf (by simp), ⟨by rw [e1]; exact h2, h3, by rw [e3]; exact h4, by rw [e2]; exact h5, h6⟩, ha, by rw [e2]; exact h8⟩
theorem f_St_re {I1 I2 : mz_I} {fi lt qu ap kd s : Nat} {c r : Int} {Q Q' : List (Nat × Nat)} (h : f_St T I I1 fi lt qu ap kd Q) (hn : fi ≠ ap ∧ lt ≠ ap ∧ qu ≠ ap) (hp : p_Pos T I1 ap kd s c r) (hf : fr I1 I2 [fi, lt, qu]) (h2 : f_S I2 fi lt qu kd Q') (h3 : ∀ j, j < 448 → j / 64 ≠ kd → I2 lt j = I1 lt j) : f_St T I I2 fi lt qu ap kd Q' := by
  obtain ⟨h1, -, h7, h8⟩ := h
  obtain ⟨n1, n2, n3⟩ := hn
  have e : I2 ap = I1 ap := hf _ (by simp; exact ⟨Ne.symm n1, Ne.symm n2, Ne.symm n3⟩)
  obtain ⟨p1, p2, p3, p4, p5, p6⟩ := hp
  exact ⟨fr_tr1 h1 hf (by simp), h2, ⟨s, c, r, p1, by rw [e]; exact p2, by rw [e]; exact p3, by rw [e]; exact p4, by rw [e]; exact p5, p6⟩, fun j a b => by rw [h3 j a b, h8 j a b]⟩
theorem c_exploreF {fi lt qu op ok ap kd : Nat} (hS : p_FS T fi lt qu op ok ap) (hk : kd < 7) (hopen : ∀ i, i < 220 → I ok i = -1) (hok : ok ∉ [fi, lt, qu, ap]) (hlt : ∀ j, j < 64 → I lt (64 * kd + j) = -1)
    (h : ∀ I', fr I I' [fi, lt, qu, ap] → (∀ j, j < 64 → I' lt (64 * kd + j) = f_val (f_fin kd) j) → (∀ j, j < 448 → j / 64 ≠ kd → I' lt j = I lt j) → K none T I' L) : mz_Ctr G M_X3_explore [.ref fi, .int (zI kd)] T I L K := by
  refine mz_apartC fun hU => ?_
  obtain ⟨h1, ⟨r0, r1, r2, r3⟩, h2, h3, h4, h5⟩ := id hS
  have n1 : fi ≠ ap := mz_ne hU h1 h5 (by decide)
  have n2 : lt ≠ ap := mz_ne hU h2 h5 (by decide)
  have n3 : qu ≠ ap := mz_ne hU h3 h5 (by decide)
  have n4 : lt ≠ fi := mz_ne hU h2 h1 (by decide)
  have n5 : qu ≠ fi := mz_ne hU h3 h1 (by decide)
  have hn : fi ≠ ap ∧ lt ≠ ap ∧ qu ≠ ap := ⟨n1, n2, n3⟩
  have ho : ∀ I', fr I I' [fi, lt, qu, ap] → ∀ i, i < 220 → s_fl (I' ok) i = e_no i := fun I' q i hi => by
    unfold s_fl e_no; rw [q _ hok, hopen i hi]; rfl
  have dir : ∀ (d : Int) (i sp n : Nat) (Q : List (Nat × Nat)) (I1 : mz_I), (d = -1 ∨ d = 1) → sp < 64 → f_w kd (sp / 16) (f_c sp) = true → n < 1000 → f_St T I I1 fi lt qu ap kd Q → (∀ I2, f_St T I I2 fi lt qu ap kd (f_dir kd Q sp n d) → mz_W G M_X3_explore K mz_nX 72 [some (.ref fi), some (.int (zI kd)), some (.int (zI i)), some (.int (zI sp)), some (.int (zI n)), some (.int (zI (d + 2)))] [] T I2 L (0, 0)) → mz_W G M_X3_explore K mz_nX 72 [some (.ref fi), some (.int (zI kd)), some (.int (zI i)), some (.int (zI sp)), some (.int (zI n)), some (.int (zI d))] [] T I1 L (0, 0) := by
    intro d i sp n Q I1 hd hsp hw hn9 h9 k9
    refine mz_vc ok_X3_explore [72] [(), (), (), (), (), (), (), (), (), (), (), (), (), (), (), (), (), (), (), (), (), (), (), (), (), (), (), (), (), ()] ?_
    simp only [cd_X3_explore, h1, r0, r1, r2, r3, h5, r_rn0, r_rnc, r_vk0, r_vkc, r_vks, r_kci, r_kcv, r_ild, r_ald, r_lld, r_dld, r_Li, r_La, r_Ll, r_Ld, r_Ki, r_Ka, r_Kl, r_Kd, r_Kn, r_ist, r_ast, r_lst, r_dst, r_iinc, r_int, r_lng, r_dbl, r_i2, r_i1, r_l2, r_lsh, r_i2z, r_l2z, r_i2l, r_l2i, r_i2d, r_lcmp, r_ddiv, r_dcmpl, r_dup, r_dup2, r_pop, r_one_int, r_one_ref, r_go, r_if, r_ic, r_tsw, r_lsw, r_sw0, r_swc, r_lk0, r_lkc, r_kp, r_gI, r_gL, r_gR, r_pI, r_pZ, r_pL, r_pR, r_gs, r_ia, r_ca, r_za, r_la, r_da, r_aa, r_ias, r_cas, r_zas, r_las, r_das, r_aas, r_acp, r_new, r_nwa, r_nwq, r_ret, r_irt, r_zrt, r_lrt, r_drt, r_art, r_thr, r_cV0, r_cV1, r_cV2, r_cV3, r_cV4, r_cV5, r_cI0, r_cS0, r_cS1, r_cS2, r_cS3, r_cX0, r_cX1, r_cX2, r_cX3, r_rc, r_oi, r_refx, r_i10, r_i01, r_rfs, r_mem0, r_memc, r_beq, r_kl0, r_klz, r_kl1i, r_kl1r, r_kl1n, r_kl1l, r_kl1d, List.length_cons, List.length_nil, List.getElem?_cons_zero, List.getElem?_cons_succ, List.set_cons_zero, List.set_cons_succ, true_and, and_true, not_true, not_false_eq_true, false_implies, true_implies, or_true, true_or, or_false, false_or, Bool.or_false, Bool.false_or, decide_false, decide_true, Nat.reduceLT, Nat.reduceLeDiff, Nat.reduceAdd, Nat.reduceSub, ↓reduceIte, Nat.reduceEqDiff, Nat.lt_add_one]
    refine ⟨fun q => absurd q ?_, fun _ => ?_⟩
    · rw [l_1, z_lt (by omega) (by omega)]; omega
    obtain ⟨s0, c0, r0', hp0⟩ := h9.2.2.1
    refine c_goToF hS hp0 hsp (fun J1 f1 hp1 => ?_)
    have g1 := f_St_ap (sp := 0) h9 hn f1 ⟨_, _, _, hp1⟩
    simp only [cd_X3_explore, h1, r0, r1, r2, r3, h5, r_rn0, r_rnc, r_vk0, r_vkc, r_vks, r_kci, r_kcv, r_ild, r_ald, r_lld, r_dld, r_Li, r_La, r_Ll, r_Ld, r_Ki, r_Ka, r_Kl, r_Kd, r_Kn, r_ist, r_ast, r_lst, r_dst, r_iinc, r_int, r_lng, r_dbl, r_i2, r_i1, r_l2, r_lsh, r_i2z, r_l2z, r_i2l, r_l2i, r_i2d, r_lcmp, r_ddiv, r_dcmpl, r_dup, r_dup2, r_pop, r_one_int, r_one_ref, r_go, r_if, r_ic, r_tsw, r_lsw, r_sw0, r_swc, r_lk0, r_lkc, r_kp, r_gI, r_gL, r_gR, r_pI, r_pZ, r_pL, r_pR, r_gs, r_ia, r_ca, r_za, r_la, r_da, r_aa, r_ias, r_cas, r_zas, r_las, r_das, r_aas, r_acp, r_new, r_nwa, r_nwq, r_ret, r_irt, r_zrt, r_lrt, r_drt, r_art, r_thr, r_cV0, r_cV1, r_cV2, r_cV3, r_cV4, r_cV5, r_cI0, r_cS0, r_cS1, r_cS2, r_cS3, r_cX0, r_cX1, r_cX2, r_cX3, r_rc, r_oi, r_refx, r_i10, r_i01, r_rfs, r_mem0, r_memc, r_beq, r_kl0, r_klz, r_kl1i, r_kl1r, r_kl1n, r_kl1l, r_kl1d, List.length_cons, List.length_nil, List.getElem?_cons_zero, List.getElem?_cons_succ, List.set_cons_zero, List.set_cons_succ, true_and, and_true, not_true, not_false_eq_true, false_implies, true_implies, or_true, true_or, or_false, false_or, Bool.or_false, Bool.false_or, decide_false, decide_true, Nat.reduceLT, Nat.reduceLeDiff, Nat.reduceAdd, Nat.reduceSub, ↓reduceIte, Nat.reduceEqDiff, Nat.lt_add_one]
    refine c_mvF hp1 h4 (ho _ g1.1) hw hd (fun J2 v2 f2 a2 => ?_)
    obtain ⟨s2, c2, r2', hp2, e2, b2⟩ := a2
    have g2 := f_St_ap (sp := 0) g1 hn f2 ⟨_, _, _, hp2⟩
    simp only [cd_X3_explore, h1, r0, r1, r2, r3, h5, r_rn0, r_rnc, r_vk0, r_vkc, r_vks, r_kci, r_kcv, r_ild, r_ald, r_lld, r_dld, r_Li, r_La, r_Ll, r_Ld, r_Ki, r_Ka, r_Kl, r_Kd, r_Kn, r_ist, r_ast, r_lst, r_dst, r_iinc, r_int, r_lng, r_dbl, r_i2, r_i1, r_l2, r_lsh, r_i2z, r_l2z, r_i2l, r_l2i, r_i2d, r_lcmp, r_ddiv, r_dcmpl, r_dup, r_dup2, r_pop, r_one_int, r_one_ref, r_go, r_if, r_ic, r_tsw, r_lsw, r_sw0, r_swc, r_lk0, r_lkc, r_kp, r_gI, r_gL, r_gR, r_pI, r_pZ, r_pL, r_pR, r_gs, r_ia, r_ca, r_za, r_la, r_da, r_aa, r_ias, r_cas, r_zas, r_las, r_das, r_aas, r_acp, r_new, r_nwa, r_nwq, r_ret, r_irt, r_zrt, r_lrt, r_drt, r_art, r_thr, r_cV0, r_cV1, r_cV2, r_cV3, r_cV4, r_cV5, r_cI0, r_cS0, r_cS1, r_cS2, r_cS3, r_cX0, r_cX1, r_cX2, r_cX3, r_rc, r_oi, r_refx, r_i10, r_i01, r_rfs, r_mem0, r_memc, r_beq, r_kl0, r_klz, r_kl1i, r_kl1r, r_kl1n, r_kl1l, r_kl1d, List.length_cons, List.length_nil, List.getElem?_cons_zero, List.getElem?_cons_succ, List.set_cons_zero, List.set_cons_succ, true_and, and_true, not_true, not_false_eq_true, false_implies, true_implies, or_true, true_or, or_false, false_or, Bool.or_false, Bool.false_or, decide_false, decide_true, Nat.reduceLT, Nat.reduceLeDiff, Nat.reduceAdd, Nat.reduceSub, ↓reduceIte, Nat.reduceEqDiff, Nat.lt_add_one]
    refine c_reachF hS g2.2.1 hp2 b2 hn9 (fun J3 f3 q3 w3 => ?_)
    rw [e2] at q3
    have g3 := f_St_re g2 hn hp2 f3 q3 w3
    simp only [cd_X3_explore, h1, r0, r1, r2, r3, h5, r_rn0, r_rnc, r_vk0, r_vkc, r_vks, r_kci, r_kcv, r_ild, r_ald, r_lld, r_dld, r_Li, r_La, r_Ll, r_Ld, r_Ki, r_Ka, r_Kl, r_Kd, r_Kn, r_ist, r_ast, r_lst, r_dst, r_iinc, r_int, r_lng, r_dbl, r_i2, r_i1, r_l2, r_lsh, r_i2z, r_l2z, r_i2l, r_l2i, r_i2d, r_lcmp, r_ddiv, r_dcmpl, r_dup, r_dup2, r_pop, r_one_int, r_one_ref, r_go, r_if, r_ic, r_tsw, r_lsw, r_sw0, r_swc, r_lk0, r_lkc, r_kp, r_gI, r_gL, r_gR, r_pI, r_pZ, r_pL, r_pR, r_gs, r_ia, r_ca, r_za, r_la, r_da, r_aa, r_ias, r_cas, r_zas, r_las, r_das, r_aas, r_acp, r_new, r_nwa, r_nwq, r_ret, r_irt, r_zrt, r_lrt, r_drt, r_art, r_thr, r_cV0, r_cV1, r_cV2, r_cV3, r_cV4, r_cV5, r_cI0, r_cS0, r_cS1, r_cS2, r_cS3, r_cX0, r_cX1, r_cX2, r_cX3, r_rc, r_oi, r_refx, r_i10, r_i01, r_rfs, r_mem0, r_memc, r_beq, r_kl0, r_klz, r_kl1i, r_kl1r, r_kl1n, r_kl1l, r_kl1d, List.length_cons, List.length_nil, List.getElem?_cons_zero, List.getElem?_cons_succ, List.set_cons_zero, List.set_cons_succ, true_and, and_true, not_true, not_false_eq_true, false_implies, true_implies, or_true, true_or, or_false, false_or, Bool.or_false, Bool.false_or, decide_false, decide_true, Nat.reduceLT, Nat.reduceLeDiff, Nat.reduceAdd, Nat.reduceSub, ↓reduceIte, Nat.reduceEqDiff, Nat.lt_add_one]
    obtain ⟨s3, c3, r3', hp3⟩ := g3.2.2.1
    refine c_goToF hS hp3 hsp (fun J4 f4 hp4 => ?_)
    have g4 := f_St_ap (sp := 0) g3 hn f4 ⟨_, _, _, hp4⟩
    simp only [cd_X3_explore, h1, r0, r1, r2, r3, h5, r_rn0, r_rnc, r_vk0, r_vkc, r_vks, r_kci, r_kcv, r_ild, r_ald, r_lld, r_dld, r_Li, r_La, r_Ll, r_Ld, r_Ki, r_Ka, r_Kl, r_Kd, r_Kn, r_ist, r_ast, r_lst, r_dst, r_iinc, r_int, r_lng, r_dbl, r_i2, r_i1, r_l2, r_lsh, r_i2z, r_l2z, r_i2l, r_l2i, r_i2d, r_lcmp, r_ddiv, r_dcmpl, r_dup, r_dup2, r_pop, r_one_int, r_one_ref, r_go, r_if, r_ic, r_tsw, r_lsw, r_sw0, r_swc, r_lk0, r_lkc, r_kp, r_gI, r_gL, r_gR, r_pI, r_pZ, r_pL, r_pR, r_gs, r_ia, r_ca, r_za, r_la, r_da, r_aa, r_ias, r_cas, r_zas, r_las, r_das, r_aas, r_acp, r_new, r_nwa, r_nwq, r_ret, r_irt, r_zrt, r_lrt, r_drt, r_art, r_thr, r_cV0, r_cV1, r_cV2, r_cV3, r_cV4, r_cV5, r_cI0, r_cS0, r_cS1, r_cS2, r_cS3, r_cX0, r_cX1, r_cX2, r_cX3, r_rc, r_oi, r_refx, r_i10, r_i01, r_rfs, r_mem0, r_memc, r_beq, r_kl0, r_klz, r_kl1i, r_kl1r, r_kl1n, r_kl1l, r_kl1d, List.length_cons, List.length_nil, List.getElem?_cons_zero, List.getElem?_cons_succ, List.set_cons_zero, List.set_cons_succ, true_and, and_true, not_true, not_false_eq_true, false_implies, true_implies, or_true, true_or, or_false, false_or, Bool.or_false, Bool.false_or, decide_false, decide_true, Nat.reduceLT, Nat.reduceLeDiff, Nat.reduceAdd, Nat.reduceSub, ↓reduceIte, Nat.reduceEqDiff, Nat.lt_add_one]
    refine c_sdF hp4 h4 (ho _ g4.1) hw hd (fun J5 v5 f5 a5 => ?_)
    obtain ⟨s5, c5, r5', hp5, e5, b5⟩ := a5
    have g5 := f_St_ap (sp := 0) g4 hn f5 ⟨_, _, _, hp5⟩
    simp only [cd_X3_explore, h1, r0, r1, r2, r3, h5, r_rn0, r_rnc, r_vk0, r_vkc, r_vks, r_kci, r_kcv, r_ild, r_ald, r_lld, r_dld, r_Li, r_La, r_Ll, r_Ld, r_Ki, r_Ka, r_Kl, r_Kd, r_Kn, r_ist, r_ast, r_lst, r_dst, r_iinc, r_int, r_lng, r_dbl, r_i2, r_i1, r_l2, r_lsh, r_i2z, r_l2z, r_i2l, r_l2i, r_i2d, r_lcmp, r_ddiv, r_dcmpl, r_dup, r_dup2, r_pop, r_one_int, r_one_ref, r_go, r_if, r_ic, r_tsw, r_lsw, r_sw0, r_swc, r_lk0, r_lkc, r_kp, r_gI, r_gL, r_gR, r_pI, r_pZ, r_pL, r_pR, r_gs, r_ia, r_ca, r_za, r_la, r_da, r_aa, r_ias, r_cas, r_zas, r_las, r_das, r_aas, r_acp, r_new, r_nwa, r_nwq, r_ret, r_irt, r_zrt, r_lrt, r_drt, r_art, r_thr, r_cV0, r_cV1, r_cV2, r_cV3, r_cV4, r_cV5, r_cI0, r_cS0, r_cS1, r_cS2, r_cS3, r_cX0, r_cX1, r_cX2, r_cX3, r_rc, r_oi, r_refx, r_i10, r_i01, r_rfs, r_mem0, r_memc, r_beq, r_kl0, r_klz, r_kl1i, r_kl1r, r_kl1n, r_kl1l, r_kl1d, List.length_cons, List.length_nil, List.getElem?_cons_zero, List.getElem?_cons_succ, List.set_cons_zero, List.set_cons_succ, true_and, and_true, not_true, not_false_eq_true, false_implies, true_implies, or_true, true_or, or_false, false_or, Bool.or_false, Bool.false_or, decide_false, decide_true, Nat.reduceLT, Nat.reduceLeDiff, Nat.reduceAdd, Nat.reduceSub, ↓reduceIte, Nat.reduceEqDiff, Nat.lt_add_one]
    refine c_reachF hS g5.2.1 hp5 b5 hn9 (fun J6 f6 q6 w6 => ?_)
    rw [e5] at q6
    have g6 := f_St_re g5 hn hp5 f6 q6 w6
    simp only [cd_X3_explore, h1, r0, r1, r2, r3, h5, r_rn0, r_rnc, r_vk0, r_vkc, r_vks, r_kci, r_kcv, r_ild, r_ald, r_lld, r_dld, r_Li, r_La, r_Ll, r_Ld, r_Ki, r_Ka, r_Kl, r_Kd, r_Kn, r_ist, r_ast, r_lst, r_dst, r_iinc, r_int, r_lng, r_dbl, r_i2, r_i1, r_l2, r_lsh, r_i2z, r_l2z, r_i2l, r_l2i, r_i2d, r_lcmp, r_ddiv, r_dcmpl, r_dup, r_dup2, r_pop, r_one_int, r_one_ref, r_go, r_if, r_ic, r_tsw, r_lsw, r_sw0, r_swc, r_lk0, r_lkc, r_kp, r_gI, r_gL, r_gR, r_pI, r_pZ, r_pL, r_pR, r_gs, r_ia, r_ca, r_za, r_la, r_da, r_aa, r_ias, r_cas, r_zas, r_las, r_das, r_aas, r_acp, r_new, r_nwa, r_nwq, r_ret, r_irt, r_zrt, r_lrt, r_drt, r_art, r_thr, r_cV0, r_cV1, r_cV2, r_cV3, r_cV4, r_cV5, r_cI0, r_cS0, r_cS1, r_cS2, r_cS3, r_cX0, r_cX1, r_cX2, r_cX3, r_rc, r_oi, r_refx, r_i10, r_i01, r_rfs, r_mem0, r_memc, r_beq, r_kl0, r_klz, r_kl1i, r_kl1r, r_kl1n, r_kl1l, r_kl1d, List.length_cons, List.length_nil, List.getElem?_cons_zero, List.getElem?_cons_succ, List.set_cons_zero, List.set_cons_succ, true_and, and_true, not_true, not_false_eq_true, false_implies, true_implies, or_true, true_or, or_false, false_or, Bool.or_false, Bool.false_or, decide_false, decide_true, Nat.reduceLT, Nat.reduceLeDiff, Nat.reduceAdd, Nat.reduceSub, ↓reduceIte, Nat.reduceEqDiff, Nat.lt_add_one]
    obtain ⟨s6, c6, r6', hp6⟩ := g6.2.2.1
    refine c_goToF hS hp6 hsp (fun J7 f7 hp7 => ?_)
    have g7 := f_St_ap (sp := 0) g6 hn f7 ⟨_, _, _, hp7⟩
    simp only [cd_X3_explore, h1, r0, r1, r2, r3, h5, r_rn0, r_rnc, r_vk0, r_vkc, r_vks, r_kci, r_kcv, r_ild, r_ald, r_lld, r_dld, r_Li, r_La, r_Ll, r_Ld, r_Ki, r_Ka, r_Kl, r_Kd, r_Kn, r_ist, r_ast, r_lst, r_dst, r_iinc, r_int, r_lng, r_dbl, r_i2, r_i1, r_l2, r_lsh, r_i2z, r_l2z, r_i2l, r_l2i, r_i2d, r_lcmp, r_ddiv, r_dcmpl, r_dup, r_dup2, r_pop, r_one_int, r_one_ref, r_go, r_if, r_ic, r_tsw, r_lsw, r_sw0, r_swc, r_lk0, r_lkc, r_kp, r_gI, r_gL, r_gR, r_pI, r_pZ, r_pL, r_pR, r_gs, r_ia, r_ca, r_za, r_la, r_da, r_aa, r_ias, r_cas, r_zas, r_las, r_das, r_aas, r_acp, r_new, r_nwa, r_nwq, r_ret, r_irt, r_zrt, r_lrt, r_drt, r_art, r_thr, r_cV0, r_cV1, r_cV2, r_cV3, r_cV4, r_cV5, r_cI0, r_cS0, r_cS1, r_cS2, r_cS3, r_cX0, r_cX1, r_cX2, r_cX3, r_rc, r_oi, r_refx, r_i10, r_i01, r_rfs, r_mem0, r_memc, r_beq, r_kl0, r_klz, r_kl1i, r_kl1r, r_kl1n, r_kl1l, r_kl1d, List.length_cons, List.length_nil, List.getElem?_cons_zero, List.getElem?_cons_succ, List.set_cons_zero, List.set_cons_succ, true_and, and_true, not_true, not_false_eq_true, false_implies, true_implies, or_true, true_or, or_false, false_or, Bool.or_false, Bool.false_or, decide_false, decide_true, Nat.reduceLT, Nat.reduceLeDiff, Nat.reduceAdd, Nat.reduceSub, ↓reduceIte, Nat.reduceEqDiff, Nat.lt_add_one]
    refine c_tkF hp7 h4 (ho _ g7.1) hw hd (fun J8 v8 f8 a8 => ?_)
    obtain ⟨s8, c8, r8', hp8, e8, b8⟩ := a8
    have g8 := f_St_ap (sp := 0) g7 hn f8 ⟨_, _, _, hp8⟩
    simp only [cd_X3_explore, h1, r0, r1, r2, r3, h5, r_rn0, r_rnc, r_vk0, r_vkc, r_vks, r_kci, r_kcv, r_ild, r_ald, r_lld, r_dld, r_Li, r_La, r_Ll, r_Ld, r_Ki, r_Ka, r_Kl, r_Kd, r_Kn, r_ist, r_ast, r_lst, r_dst, r_iinc, r_int, r_lng, r_dbl, r_i2, r_i1, r_l2, r_lsh, r_i2z, r_l2z, r_i2l, r_l2i, r_i2d, r_lcmp, r_ddiv, r_dcmpl, r_dup, r_dup2, r_pop, r_one_int, r_one_ref, r_go, r_if, r_ic, r_tsw, r_lsw, r_sw0, r_swc, r_lk0, r_lkc, r_kp, r_gI, r_gL, r_gR, r_pI, r_pZ, r_pL, r_pR, r_gs, r_ia, r_ca, r_za, r_la, r_da, r_aa, r_ias, r_cas, r_zas, r_las, r_das, r_aas, r_acp, r_new, r_nwa, r_nwq, r_ret, r_irt, r_zrt, r_lrt, r_drt, r_art, r_thr, r_cV0, r_cV1, r_cV2, r_cV3, r_cV4, r_cV5, r_cI0, r_cS0, r_cS1, r_cS2, r_cS3, r_cX0, r_cX1, r_cX2, r_cX3, r_rc, r_oi, r_refx, r_i10, r_i01, r_rfs, r_mem0, r_memc, r_beq, r_kl0, r_klz, r_kl1i, r_kl1r, r_kl1n, r_kl1l, r_kl1d, List.length_cons, List.length_nil, List.getElem?_cons_zero, List.getElem?_cons_succ, List.set_cons_zero, List.set_cons_succ, true_and, and_true, not_true, not_false_eq_true, false_implies, true_implies, or_true, true_or, or_false, false_or, Bool.or_false, Bool.false_or, decide_false, decide_true, Nat.reduceLT, Nat.reduceLeDiff, Nat.reduceAdd, Nat.reduceSub, ↓reduceIte, Nat.reduceEqDiff, Nat.lt_add_one]
    refine c_reachF hS g8.2.1 hp8 b8 hn9 (fun J9 f9 q9 w9 => ?_)
    rw [e8] at q9
    have g9 := f_St_re g8 hn hp8 f9 q9 w9
    simp only [cd_X3_explore, h1, r0, r1, r2, r3, h5, r_rn0, r_rnc, r_vk0, r_vkc, r_vks, r_kci, r_kcv, r_ild, r_ald, r_lld, r_dld, r_Li, r_La, r_Ll, r_Ld, r_Ki, r_Ka, r_Kl, r_Kd, r_Kn, r_ist, r_ast, r_lst, r_dst, r_iinc, r_int, r_lng, r_dbl, r_i2, r_i1, r_l2, r_lsh, r_i2z, r_l2z, r_i2l, r_l2i, r_i2d, r_lcmp, r_ddiv, r_dcmpl, r_dup, r_dup2, r_pop, r_one_int, r_one_ref, r_go, r_if, r_ic, r_tsw, r_lsw, r_sw0, r_swc, r_lk0, r_lkc, r_kp, r_gI, r_gL, r_gR, r_pI, r_pZ, r_pL, r_pR, r_gs, r_ia, r_ca, r_za, r_la, r_da, r_aa, r_ias, r_cas, r_zas, r_las, r_das, r_aas, r_acp, r_new, r_nwa, r_nwq, r_ret, r_irt, r_zrt, r_lrt, r_drt, r_art, r_thr, r_cV0, r_cV1, r_cV2, r_cV3, r_cV4, r_cV5, r_cI0, r_cS0, r_cS1, r_cS2, r_cS3, r_cX0, r_cX1, r_cX2, r_cX3, r_rc, r_oi, r_refx, r_i10, r_i01, r_rfs, r_mem0, r_memc, r_beq, r_kl0, r_klz, r_kl1i, r_kl1r, r_kl1n, r_kl1l, r_kl1d, List.length_cons, List.length_nil, List.getElem?_cons_zero, List.getElem?_cons_succ, List.set_cons_zero, List.set_cons_succ, true_and, and_true, not_true, not_false_eq_true, false_implies, true_implies, or_true, true_or, or_false, false_or, Bool.or_false, Bool.false_or, decide_false, decide_true, Nat.reduceLT, Nat.reduceLeDiff, Nat.reduceAdd, Nat.reduceSub, ↓reduceIte, Nat.reduceEqDiff, Nat.lt_add_one]
    rw [l_2, z_add]
    exact k9 J9 g9
  have loop : ∀ (n i : Nat) (Q : List (Nat × Nat)) (I1 : mz_I), i < 1000 → f_St T I I1 fi lt qu ap kd Q → f_ok kd n i Q = true → f_go kd n i Q = f_fin kd → mz_W G M_X3_explore K mz_nX 20 [some (.ref fi), some (.int (zI kd)), some (.int (zI i)), none, none, none] [] T I1 L (0, 0) := by
    intro n
    induction n with
    | zero => intro i Q I1 _ _ q; exact absurd q (by unfold f_ok; decide)
    | succ n ih =>
      intro i Q I1 hi hst hok9 hgo
      obtain ⟨w1, w2, w3, w4, w5⟩ := id hst.2.1
      refine mz_vc ok_X3_explore [20, 72] [(), (), (), (), (), (), (), (), (), (), (), (), (), (), (), (), (), (), (), (), (), (), (), (), (), (), (), (), (), ()] ?_
      simp only [cd_X3_explore, h1, r0, r1, r2, r3, h5, w1, r_rn0, r_rnc, r_vk0, r_vkc, r_vks, r_kci, r_kcv, r_ild, r_ald, r_lld, r_dld, r_Li, r_La, r_Ll, r_Ld, r_Ki, r_Ka, r_Kl, r_Kd, r_Kn, r_ist, r_ast, r_lst, r_dst, r_iinc, r_int, r_lng, r_dbl, r_i2, r_i1, r_l2, r_lsh, r_i2z, r_l2z, r_i2l, r_l2i, r_i2d, r_lcmp, r_ddiv, r_dcmpl, r_dup, r_dup2, r_pop, r_one_int, r_one_ref, r_go, r_if, r_ic, r_tsw, r_lsw, r_sw0, r_swc, r_lk0, r_lkc, r_kp, r_gI, r_gL, r_gR, r_pI, r_pZ, r_pL, r_pR, r_gs, r_ia, r_ca, r_za, r_la, r_da, r_aa, r_ias, r_cas, r_zas, r_las, r_das, r_aas, r_acp, r_new, r_nwa, r_nwq, r_ret, r_irt, r_zrt, r_lrt, r_drt, r_art, r_thr, r_cV0, r_cV1, r_cV2, r_cV3, r_cV4, r_cV5, r_cI0, r_cS0, r_cS1, r_cS2, r_cS3, r_cX0, r_cX1, r_cX2, r_cX3, r_rc, r_oi, r_refx, r_i10, r_i01, r_rfs, r_mem0, r_memc, r_beq, r_kl0, r_klz, r_kl1i, r_kl1r, r_kl1n, r_kl1l, r_kl1d, List.length_cons, List.length_nil, List.getElem?_cons_zero, List.getElem?_cons_succ, List.set_cons_zero, List.set_cons_succ, true_and, and_true, not_true, not_false_eq_true, false_implies, true_implies, or_true, true_or, or_false, false_or, Bool.or_false, Bool.false_or, decide_false, decide_true, Nat.reduceLT, Nat.reduceLeDiff, Nat.reduceAdd, Nat.reduceSub, ↓reduceIte, Nat.reduceEqDiff, Nat.lt_add_one]
      rw [z_le (by omega) (by omega)]
      refine ⟨fun q => ?_, fun q => ⟨fun q2 => ?_, fun _ => ?_⟩⟩
      · have : ¬ i < Q.length := by omega
        unfold f_go at hgo
        rw [if_neg this] at hgo
        rw [hgo] at w4
        exact h I1 hst.1 w4 hst.2.2.2
      · rw [show (64 : Int32) = zI 64 from rfl, z_le (by omega) (by omega)] at q2
        omega
      · have hlt' : i < Q.length := by omega
        unfold f_go at hgo
        unfold f_ok at hok9
        rw [if_pos hlt'] at hgo hok9
        rw [Bool.and_eq_true, Bool.and_eq_true, Bool.and_eq_true, Bool.and_eq_true, decide_eq_true_eq, decide_eq_true_eq] at hok9
        obtain ⟨⟨⟨⟨k1, k2⟩, k3⟩, k4⟩, k5⟩ := hok9
        rw [z_nat (by omega), Int.toNat_natCast, w3 i hlt']
        generalize hsp : (Q.getD i (0, 0)).1 = sp at k1 k2 k3 k4
        refine ⟨⟨64, h3, z_in (by omega) (by omega) (by decide)⟩, ?_⟩
        obtain ⟨s0, c0, r0', hp0⟩ := hst.2.2.1
        refine c_goToF hS hp0 k1 (fun J1 f1 hp1 => ?_)
        have g1 := f_St_ap (sp := 0) hst hn f1 ⟨_, _, _, hp1⟩
        obtain ⟨-, -, p3, p4, -⟩ := id hp1
        simp only [cd_X3_explore, h1, r0, r1, r2, r3, h5, p3, p4, r_rn0, r_rnc, r_vk0, r_vkc, r_vks, r_kci, r_kcv, r_ild, r_ald, r_lld, r_dld, r_Li, r_La, r_Ll, r_Ld, r_Ki, r_Ka, r_Kl, r_Kd, r_Kn, r_ist, r_ast, r_lst, r_dst, r_iinc, r_int, r_lng, r_dbl, r_i2, r_i1, r_l2, r_lsh, r_i2z, r_l2z, r_i2l, r_l2i, r_i2d, r_lcmp, r_ddiv, r_dcmpl, r_dup, r_dup2, r_pop, r_one_int, r_one_ref, r_go, r_if, r_ic, r_tsw, r_lsw, r_sw0, r_swc, r_lk0, r_lkc, r_kp, r_gI, r_gL, r_gR, r_pI, r_pZ, r_pL, r_pR, r_gs, r_ia, r_ca, r_za, r_la, r_da, r_aa, r_ias, r_cas, r_zas, r_las, r_das, r_aas, r_acp, r_new, r_nwa, r_nwq, r_ret, r_irt, r_zrt, r_lrt, r_drt, r_art, r_thr, r_cV0, r_cV1, r_cV2, r_cV3, r_cV4, r_cV5, r_cI0, r_cS0, r_cS1, r_cS2, r_cS3, r_cX0, r_cX1, r_cX2, r_cX3, r_rc, r_oi, r_refx, r_i10, r_i01, r_rfs, r_mem0, r_memc, r_beq, r_kl0, r_klz, r_kl1i, r_kl1r, r_kl1n, r_kl1l, r_kl1d, List.length_cons, List.length_nil, List.getElem?_cons_zero, List.getElem?_cons_succ, List.set_cons_zero, List.set_cons_succ, true_and, and_true, not_true, not_false_eq_true, false_implies, true_implies, or_true, true_or, or_false, false_or, Bool.or_false, Bool.false_or, decide_false, decide_true, Nat.reduceLT, Nat.reduceLeDiff, Nat.reduceAdd, Nat.reduceSub, ↓reduceIte, Nat.reduceEqDiff, Nat.lt_add_one]
        refine c_leastTo h1 r0 h2 hk (by omega) ?_
        have el : s_lt (J1 lt) kd (sp / 16) (zI ((sp % 16 : Nat) - 3 : Int)).toInt = zI (f_in Q sp : Nat) := by
          rw [z_toInt (by omega), s_lt, if_neg (by omega), show (kd * 4 + sp / 16) * 16 + (((sp % 16 : Nat) : Int) - 3 + 3).toNat = 64 * kd + sp by omega, ← f_in_v k3]
          exact g1.2.1.2.2.2.1 sp k1
        rw [el]
        simp only [cd_X3_explore, h1, r0, r1, r2, r3, h5, r_rn0, r_rnc, r_vk0, r_vkc, r_vks, r_kci, r_kcv, r_ild, r_ald, r_lld, r_dld, r_Li, r_La, r_Ll, r_Ld, r_Ki, r_Ka, r_Kl, r_Kd, r_Kn, r_ist, r_ast, r_lst, r_dst, r_iinc, r_int, r_lng, r_dbl, r_i2, r_i1, r_l2, r_lsh, r_i2z, r_l2z, r_i2l, r_l2i, r_i2d, r_lcmp, r_ddiv, r_dcmpl, r_dup, r_dup2, r_pop, r_one_int, r_one_ref, r_go, r_if, r_ic, r_tsw, r_lsw, r_sw0, r_swc, r_lk0, r_lkc, r_kp, r_gI, r_gL, r_gR, r_pI, r_pZ, r_pL, r_pR, r_gs, r_ia, r_ca, r_za, r_la, r_da, r_aa, r_ias, r_cas, r_zas, r_las, r_das, r_aas, r_acp, r_new, r_nwa, r_nwq, r_ret, r_irt, r_zrt, r_lrt, r_drt, r_art, r_thr, r_cV0, r_cV1, r_cV2, r_cV3, r_cV4, r_cV5, r_cI0, r_cS0, r_cS1, r_cS2, r_cS3, r_cX0, r_cX1, r_cX2, r_cX3, r_rc, r_oi, r_refx, r_i10, r_i01, r_rfs, r_mem0, r_memc, r_beq, r_kl0, r_klz, r_kl1i, r_kl1r, r_kl1n, r_kl1l, r_kl1d, List.length_cons, List.length_nil, List.getElem?_cons_zero, List.getElem?_cons_succ, List.set_cons_zero, List.set_cons_succ, true_and, and_true, not_true, not_false_eq_true, false_implies, true_implies, or_true, true_or, or_false, false_or, Bool.or_false, Bool.false_or, decide_false, decide_true, Nat.reduceLT, Nat.reduceLeDiff, Nat.reduceAdd, Nat.reduceSub, ↓reduceIte, Nat.reduceEqDiff, Nat.lt_add_one]
        rw [z_1]
        refine dir (-1) i sp (f_in Q sp + 1) Q J1 (Or.inl rfl) k1 k2 (by omega) g1 (fun I2 g2 => ?_)
        refine dir 1 i sp (f_in Q sp + 1) _ I2 (Or.inr rfl) k1 k2 (by omega) g2 (fun I3 g3 => ?_)
        refine mz_vc ok_X3_explore [20] [(), (), (), (), (), (), (), (), (), (), (), (), (), (), (), (), (), (), (), (), (), (), (), (), (), (), (), (), (), ()] ?_
        simp only [cd_X3_explore, h1, r0, r1, r2, r3, h5, r_rn0, r_rnc, r_vk0, r_vkc, r_vks, r_kci, r_kcv, r_ild, r_ald, r_lld, r_dld, r_Li, r_La, r_Ll, r_Ld, r_Ki, r_Ka, r_Kl, r_Kd, r_Kn, r_ist, r_ast, r_lst, r_dst, r_iinc, r_int, r_lng, r_dbl, r_i2, r_i1, r_l2, r_lsh, r_i2z, r_l2z, r_i2l, r_l2i, r_i2d, r_lcmp, r_ddiv, r_dcmpl, r_dup, r_dup2, r_pop, r_one_int, r_one_ref, r_go, r_if, r_ic, r_tsw, r_lsw, r_sw0, r_swc, r_lk0, r_lkc, r_kp, r_gI, r_gL, r_gR, r_pI, r_pZ, r_pL, r_pR, r_gs, r_ia, r_ca, r_za, r_la, r_da, r_aa, r_ias, r_cas, r_zas, r_las, r_das, r_aas, r_acp, r_new, r_nwa, r_nwq, r_ret, r_irt, r_zrt, r_lrt, r_drt, r_art, r_thr, r_cV0, r_cV1, r_cV2, r_cV3, r_cV4, r_cV5, r_cI0, r_cS0, r_cS1, r_cS2, r_cS3, r_cX0, r_cX1, r_cX2, r_cX3, r_rc, r_oi, r_refx, r_i10, r_i01, r_rfs, r_mem0, r_memc, r_beq, r_kl0, r_klz, r_kl1i, r_kl1r, r_kl1n, r_kl1l, r_kl1d, List.length_cons, List.length_nil, List.getElem?_cons_zero, List.getElem?_cons_succ, List.set_cons_zero, List.set_cons_succ, true_and, and_true, not_true, not_false_eq_true, false_implies, true_implies, or_true, true_or, or_false, false_or, Bool.or_false, Bool.false_or, decide_false, decide_true, Nat.reduceLT, Nat.reduceLeDiff, Nat.reduceAdd, Nat.reduceSub, ↓reduceIte, Nat.reduceEqDiff, Nat.lt_add_one]
        refine ⟨fun _ => ?_, fun q => absurd (by decide) q⟩
        rw [z_1]
        have es : f_dir kd (f_dir kd Q sp (f_in Q sp + 1) (-1)) sp (f_in Q sp + 1) 1 = f_step kd Q i := by unfold f_step; rw [hsp]
        rw [es] at g3
        exact mz_forget (ih (i + 1) _ I3 (by omega) g3 k5 hgo) rfl (mz_fg_s (mz_fg_s (mz_fg_s (mz_fg_n (mz_fg_n (mz_fg_n mz_fg_0))))))
  refine mz_ofl mk_X3_explore rfl (Nat.le_of_ble_eq_true rfl) (Nat.le_of_ble_eq_true rfl) [some (.ref fi), some (.int (zI kd)), none, none, none, none] rfl ?_
  refine mz_vc ok_X3_explore [20] [(), (), (), (), (), (), (), (), (), (), (), (), (), (), (), (), (), (), (), (), (), (), (), (), (), (), (), (), (), ()] ?_
  simp only [cd_X3_explore, h1, r0, r1, r2, r3, h5, r_rn0, r_rnc, r_vk0, r_vkc, r_vks, r_kci, r_kcv, r_ild, r_ald, r_lld, r_dld, r_Li, r_La, r_Ll, r_Ld, r_Ki, r_Ka, r_Kl, r_Kd, r_Kn, r_ist, r_ast, r_lst, r_dst, r_iinc, r_int, r_lng, r_dbl, r_i2, r_i1, r_l2, r_lsh, r_i2z, r_l2z, r_i2l, r_l2i, r_i2d, r_lcmp, r_ddiv, r_dcmpl, r_dup, r_dup2, r_pop, r_one_int, r_one_ref, r_go, r_if, r_ic, r_tsw, r_lsw, r_sw0, r_swc, r_lk0, r_lkc, r_kp, r_gI, r_gL, r_gR, r_pI, r_pZ, r_pL, r_pR, r_gs, r_ia, r_ca, r_za, r_la, r_da, r_aa, r_ias, r_cas, r_zas, r_las, r_das, r_aas, r_acp, r_new, r_nwa, r_nwq, r_ret, r_irt, r_zrt, r_lrt, r_drt, r_art, r_thr, r_cV0, r_cV1, r_cV2, r_cV3, r_cV4, r_cV5, r_cI0, r_cS0, r_cS1, r_cS2, r_cS3, r_cX0, r_cX1, r_cX2, r_cX3, r_rc, r_oi, r_refx, r_i10, r_i01, r_rfs, r_mem0, r_memc, r_beq, r_kl0, r_klz, r_kl1i, r_kl1r, r_kl1n, r_kl1l, r_kl1d, List.length_cons, List.length_nil, List.getElem?_cons_zero, List.getElem?_cons_succ, List.set_cons_zero, List.set_cons_succ, true_and, and_true, not_true, not_false_eq_true, false_implies, true_implies, or_true, true_or, or_false, false_or, Bool.or_false, Bool.false_or, decide_false, decide_true, Nat.reduceLT, Nat.reduceLeDiff, Nat.reduceAdd, Nat.reduceSub, ↓reduceIte, Nat.reduceEqDiff, Nat.lt_add_one]
  refine c_appearP h5 hk (fun J1 f1 hp1 => ?_)
  simp only [cd_X3_explore, h1, r0, r1, r2, r3, h5, r_rn0, r_rnc, r_vk0, r_vkc, r_vks, r_kci, r_kcv, r_ild, r_ald, r_lld, r_dld, r_Li, r_La, r_Ll, r_Ld, r_Ki, r_Ka, r_Kl, r_Kd, r_Kn, r_ist, r_ast, r_lst, r_dst, r_iinc, r_int, r_lng, r_dbl, r_i2, r_i1, r_l2, r_lsh, r_i2z, r_l2z, r_i2l, r_l2i, r_i2d, r_lcmp, r_ddiv, r_dcmpl, r_dup, r_dup2, r_pop, r_one_int, r_one_ref, r_go, r_if, r_ic, r_tsw, r_lsw, r_sw0, r_swc, r_lk0, r_lkc, r_kp, r_gI, r_gL, r_gR, r_pI, r_pZ, r_pL, r_pR, r_gs, r_ia, r_ca, r_za, r_la, r_da, r_aa, r_ias, r_cas, r_zas, r_las, r_das, r_aas, r_acp, r_new, r_nwa, r_nwq, r_ret, r_irt, r_zrt, r_lrt, r_drt, r_art, r_thr, r_cV0, r_cV1, r_cV2, r_cV3, r_cV4, r_cV5, r_cI0, r_cS0, r_cS1, r_cS2, r_cS3, r_cX0, r_cX1, r_cX2, r_cX3, r_rc, r_oi, r_refx, r_i10, r_i01, r_rfs, r_mem0, r_memc, r_beq, r_kl0, r_klz, r_kl1i, r_kl1r, r_kl1n, r_kl1l, r_kl1d, List.length_cons, List.length_nil, List.getElem?_cons_zero, List.getElem?_cons_succ, List.set_cons_zero, List.set_cons_succ, true_and, and_true, not_true, not_false_eq_true, false_implies, true_implies, or_true, true_or, or_false, false_or, Bool.or_false, Bool.false_or, decide_false, decide_true, Nat.reduceLT, Nat.reduceLeDiff, Nat.reduceAdd, Nat.reduceSub, ↓reduceIte, Nat.reduceEqDiff, Nat.lt_add_one]
  have g1 : f_St T I J1 fi lt qu ap kd [] := by
    have e4 : J1 lt = I lt := by rw [fr_ne1 f1 n2, mz_u_ne n4]
    refine ⟨fr_tr (fr_u : fr I (mz_u I fi 4 0) [fi]) f1 (by simp) (by simp), ⟨?_, by decide, fun i hi => absurd hi (Nat.not_lt_zero _), fun j hj => ?_, fun q hq => by cases hq⟩, ⟨_, _, _, hp1⟩, fun j _ _ => by rw [e4]⟩
    · rw [fr_ne1 f1 n1, mz_u_eq]; rfl
    · rw [e4, hlt j hj]; rfl
  have hb := s_0b (kd := kd)
  refine c_reachF (n := 0) hS g1.2.1 hp1 (by omega) (by decide) (fun J2 f2 q2 w2 => ?_)
  have g2 := f_St_re g1 hn hp1 f2 q2 w2
  simp only [cd_X3_explore, h1, r0, r1, r2, r3, h5, r_rn0, r_rnc, r_vk0, r_vkc, r_vks, r_kci, r_kcv, r_ild, r_ald, r_lld, r_dld, r_Li, r_La, r_Ll, r_Ld, r_Ki, r_Ka, r_Kl, r_Kd, r_Kn, r_ist, r_ast, r_lst, r_dst, r_iinc, r_int, r_lng, r_dbl, r_i2, r_i1, r_l2, r_lsh, r_i2z, r_l2z, r_i2l, r_l2i, r_i2d, r_lcmp, r_ddiv, r_dcmpl, r_dup, r_dup2, r_pop, r_one_int, r_one_ref, r_go, r_if, r_ic, r_tsw, r_lsw, r_sw0, r_swc, r_lk0, r_lkc, r_kp, r_gI, r_gL, r_gR, r_pI, r_pZ, r_pL, r_pR, r_gs, r_ia, r_ca, r_za, r_la, r_da, r_aa, r_ias, r_cas, r_zas, r_las, r_das, r_aas, r_acp, r_new, r_nwa, r_nwq, r_ret, r_irt, r_zrt, r_lrt, r_drt, r_art, r_thr, r_cV0, r_cV1, r_cV2, r_cV3, r_cV4, r_cV5, r_cI0, r_cS0, r_cS1, r_cS2, r_cS3, r_cX0, r_cX1, r_cX2, r_cX3, r_rc, r_oi, r_refx, r_i10, r_i01, r_rfs, r_mem0, r_memc, r_beq, r_kl0, r_klz, r_kl1i, r_kl1r, r_kl1n, r_kl1l, r_kl1d, List.length_cons, List.length_nil, List.getElem?_cons_zero, List.getElem?_cons_succ, List.set_cons_zero, List.set_cons_succ, true_and, and_true, not_true, not_false_eq_true, false_implies, true_implies, or_true, true_or, or_false, false_or, Bool.or_false, Bool.false_or, decide_false, decide_true, Nat.reduceLT, Nat.reduceLeDiff, Nat.reduceAdd, Nat.reduceSub, ↓reduceIte, Nat.reduceEqDiff, Nat.lt_add_one]
  exact loop 64 0 _ J2 (by decide) g2 (f_okT kd hk) rfl
end FIN5
