/-! Finesse: the search for its table -/
section FIN3
variable {G : mz_G} {K : mz_K} {T : mz_T} {I : mz_I} {L : mz_L}
def f_LO : List Nat := [0, 2, 0, 1, 0, 0, 0, 0, 0, 1, 0, 0, 0, 1, 0, 0, 0, 1, 0, 0, 0, 1, 0, 0, 0, 1, 0, 0]
def f_HI : List Nat := [3, 2, 3, 1, 1, 1, 1, 1, 2, 2, 2, 1, 2, 2, 2, 1, 2, 2, 2, 1, 2, 2, 2, 1, 2, 2, 2, 1]
def f_w (kd s : Nat) (c : Int) : Bool := decide (0 ≤ c + (f_LO.getD (kd * 4 + s) 0 : Nat)) && decide (c + (f_HI.getD (kd * 4 + s) 0 : Nat) < 10)
def e_no : Nat → Bool := fun _ => false
theorem f_ext : ∀ kd, kd < 7 → ∀ s, s < 4 → (∀ j, j < 4 → f_LO.getD (kd * 4 + s) 0 ≤ s_cell kd s j % 10 ∧ s_cell kd s j % 10 ≤ f_HI.getD (kd * 4 + s) 0) ∧ (∃ j, j < 4 ∧ s_cell kd s j % 10 = f_LO.getD (kd * 4 + s) 0) ∧ (∃ j, j < 4 ∧ s_cell kd s j % 10 = f_HI.getD (kd * 4 + s) 0) := by decide +kernel
theorem f_fit {kd s : Nat} {c r : Int} (hk : kd < 7) (hs : s < 4) (hr : 0 ≤ r ∧ r ≤ 18) : s_fit e_no kd s c r = f_w kd s c := by
  obtain ⟨h1, ⟨j1, h2, h3⟩, ⟨j2, h4, h5⟩⟩ := f_ext kd hk s hs
  cases hw : f_w kd s c with
  | true =>
    unfold f_w at hw
    rw [Bool.and_eq_true, decide_eq_true_eq, decide_eq_true_eq] at hw
    refine s_fit_t.mpr fun j hj => ?_
    have := h1 j hj
    have := (s_cell_lt hk hs hj).1
    rw [s_at_in (by omega)]
    rfl
  | false =>
    unfold f_w at hw
    rw [Bool.and_eq_false_iff, decide_eq_false_iff_not, decide_eq_false_iff_not] at hw
    rcases hw with hw | hw
    · exact s_fit_f j1 h2 (s_at_out (Or.inl (by omega)))
    · exact s_fit_f j2 h4 (s_at_out (Or.inr (Or.inl (by omega))))
def f_s (kd s : Nat) (d : Int) : Nat → Int → Nat
  | 0, _ => 0
  | n + 1, c => if f_w kd s (c + d) then f_s kd s d n (c + d) + 1 else 0
theorem f_sl {kd s : Nat} {d : Int} (hk : kd < 7) (hs : s < 4) : ∀ n c, s_sl e_no kd s 9 d n c = f_s kd s d n c
  | 0, _ => rfl
  | n + 1, c => by unfold s_sl f_s; rw [f_fit hk hs (by decide), f_sl hk hs n]
theorem f_kf {kd s i : Nat} {c d : Int} (hk : kd < 7) (hi : i < s_km kd) : s_kf e_no kd s c 9 d i = f_w kd (s_rot s d) (c + d * s_kt kd (2 * i)) := by
  unfold s_kf
  have := s_kt_lt (kd := kd) (i := 2 * i + 1) (by have := s_km_le (kd := kd); omega)
  exact f_fit hk s_rot_lt (by omega)
theorem f_w_b {kd s : Nat} {c : Int} (hk : kd < 7) (hs : s < 4) (h : f_w kd s c = true) : -3 ≤ c ∧ c ≤ 9 := by
  rw [← f_fit (r := 9) hk hs (by decide)] at h
  exact (s_fit_b hk hs h).1
/-! a list of spots with their inputs -/
def f_sp (s : Nat) (c : Int) : Nat := s * 16 + (c + 3).toNat
def f_has (Q : List (Nat × Nat)) (j : Nat) : Bool := (Q.find? (fun q => q.1 == j)).isSome
def f_in (Q : List (Nat × Nat)) (j : Nat) : Nat := match Q.find? (fun q => q.1 == j) with
  | some q => q.2
  | none => 0
def f_val (Q : List (Nat × Nat)) (j : Nat) : Int32 := match Q.find? (fun q => q.1 == j) with
  | some q => zI q.2
  | none => -1
def f_reach (Q : List (Nat × Nat)) (sp n : Nat) : List (Nat × Nat) := if f_has Q sp = false ∧ Q.length < 64 then Q ++ [(sp, n)] else Q
theorem f_val_snoc {Q : List (Nat × Nat)} {sp n j : Nat} (h : f_has Q sp = false) : f_val (Q ++ [(sp, n)]) j = if j = sp then zI n else f_val Q j := by
  unfold f_val
  rw [List.find?_append]
  by_cases e : j = sp
  · subst e
    unfold f_has at h
    rw [Option.isSome_eq_false_iff, Option.isNone_iff_eq_none] at h
    rw [h, if_pos rfl]
    simp
  · rw [if_neg e]
    have : (sp == j) = false := by simpa using fun q => e q.symm
    rw [List.find?_cons, this, List.find?_nil, Option.or_none]
theorem f_has_v {Q : List (Nat × Nat)} {j : Nat} (hq : ∀ q, q ∈ Q → q.2 < 1000) : f_val Q j = -1 ↔ f_has Q j = false := by
  unfold f_val f_has
  cases h : Q.find? (fun q => q.1 == j) with
  | none => simp
  | some q =>
    have := hq q (List.mem_of_find?_eq_some h)
    simp only [Option.isSome_some]
    constructor
    · intro e
      rw [l_m1, z_eq (by omega) (by omega)] at e
      omega
    · intro e; cases e
theorem f_in_v {Q : List (Nat × Nat)} {j : Nat} (h : f_has Q j = true) : f_val Q j = zI (f_in Q j) := by
  unfold f_has at h
  unfold f_val f_in
  cases e : Q.find? (fun q => q.1 == j) with
  | none => rw [e] at h; cases h
  | some q => rfl
/-- the objects of a Finesse -/
def p_FS (T : mz_T) (fi lt qu op ok ap : Nat) : Prop := (fi, 0, 3) ∈ T.1 ∧ (T.2 fi 0 = some lt ∧ T.2 fi 1 = some qu ∧ T.2 fi 2 = some op ∧ T.2 fi 3 = some ap) ∧ (lt, 1, 448) ∈ T.1 ∧ (qu, 1, 64) ∈ T.1 ∧ p_Field T op ok ∧ (ap, 0, 8) ∈ T.1
/-- a search that has got that far -/
def f_S (I : mz_I) (fi lt qu kd : Nat) (Q : List (Nat × Nat)) : Prop :=
  I fi 4 = zI (Q.length : Nat) ∧ Q.length ≤ 64 ∧ (∀ i, i < Q.length → I qu i = zI ((Q.getD i (0, 0)).1 : Nat)) ∧ (∀ j, j < 64 → I lt (64 * kd + j) = f_val Q j) ∧ (∀ q, q ∈ Q → q.2 < 1000)
theorem f_reach_lt {Q : List (Nat × Nat)} {sp n : Nat} (h : Q.length ≤ 64) : (f_reach Q sp n).length ≤ 64 := by
  unfold f_reach
  split
  · rename_i h; rw [List.length_append]; show Q.length + 1 ≤ 64; omega
  · exact h
theorem c_reachF {fi lt qu op ok ap kd s n : Nat} {c r : Int} {Q : List (Nat × Nat)} (hS : p_FS T fi lt qu op ok ap) (hQ : f_S I fi lt qu kd Q) (hp : p_Pos T I ap kd s c r) (hc : -3 ≤ c ∧ c ≤ 12) (hn : n < 1000)
    (h : ∀ I', fr I I' [fi, lt, qu] → f_S I' fi lt qu kd (f_reach Q (f_sp s c) n) → (∀ j, j < 448 → j / 64 ≠ kd → I' lt j = I lt j) → K none T I' L) : mz_Ctr G M_X3_reach [.ref fi, .int (zI n)] T I L K := by
  refine mz_apartC fun hU => ?_
  obtain ⟨h1, ⟨r0, r1, r2, r3⟩, h2, h3, h4, h5⟩ := id hS
  obtain ⟨p1, p2, p3, p4, p5, hk, hs, hc9, hr⟩ := id hp
  obtain ⟨q1, q2, q3, q4, q5⟩ := id hQ
  have n1 : lt ≠ fi := mz_ne hU h2 h1 (by decide)
  have n2 : qu ≠ fi := mz_ne hU h3 h1 (by decide)
  have n3 : qu ≠ lt := mz_ne hU h3 h2 (by decide)
  refine mz_ofl mk_X3_reach rfl (Nat.le_of_ble_eq_true rfl) (Nat.le_of_ble_eq_true rfl) [some (.ref fi), some (.int (zI n)), none, none] rfl ?_
  refine mz_vc ok_X3_reach [] [(), (), (), (), (), (), (), (), (), (), (), (), (), (), (), (), (), (), (), (), (), (), (), (), (), (), (), (), (), ()] ?_
  simp only [cd_X3_reach, h1, r0, r1, r3, h5, p2, p3, p4, q1, r_rn0, r_rnc, r_vk0, r_vkc, r_vks, r_kci, r_kcv, r_ild, r_ald, r_lld, r_dld, r_Li, r_La, r_Ll, r_Ld, r_Ki, r_Ka, r_Kl, r_Kd, r_Kn, r_ist, r_ast, r_lst, r_dst, r_iinc, r_int, r_lng, r_dbl, r_i2, r_i1, r_l2, r_lsh, r_i2z, r_l2z, r_i2l, r_l2i, r_i2d, r_lcmp, r_ddiv, r_dcmpl, r_dup, r_dup2, r_pop, r_one_int, r_one_ref, r_go, r_if, r_ic, r_tsw, r_lsw, r_sw0, r_swc, r_lk0, r_lkc, r_kp, r_gI, r_gL, r_gR, r_pI, r_pZ, r_pL, r_pR, r_gs, r_ia, r_ca, r_za, r_la, r_da, r_aa, r_ias, r_cas, r_zas, r_las, r_das, r_aas, r_acp, r_new, r_nwa, r_nwq, r_ret, r_irt, r_zrt, r_lrt, r_drt, r_art, r_thr, r_cV0, r_cV1, r_cV2, r_cV3, r_cV4, r_cV5, r_cI0, r_cS0, r_cS1, r_cS2, r_cS3, r_cX0, r_cX1, r_cX2, r_cX3, r_rc, r_oi, r_refx, r_i10, r_i01, r_rfs, r_mem0, r_memc, r_beq, r_kl0, r_klz, r_kl1i, r_kl1r, r_kl1n, r_kl1l, r_kl1d, List.length_cons, List.length_nil, List.getElem?_cons_zero, List.getElem?_cons_succ, List.set_cons_zero, List.set_cons_succ, true_and, and_true, not_true, not_false_eq_true, false_implies, true_implies, or_true, true_or, or_false, false_or, Bool.or_false, Bool.false_or, decide_false, decide_true, Nat.reduceLT, Nat.reduceLeDiff, Nat.reduceAdd, Nat.reduceSub, ↓reduceIte, Nat.reduceEqDiff, Nat.lt_add_one]
  have hsp : f_sp s c < 64 := by unfold f_sp; omega
  have e2 : (kd * 4 + s) * 16 + (c + 3).toNat = 64 * kd + f_sp s c := by unfold f_sp; omega
  refine c_indexOf hk hs ?_
  rw [z_toInt (by omega), if_neg (by omega), e2]
  simp only [cd_X3_reach, h1, r0, r1, r3, h5, p2, p3, p4, q1, r_rn0, r_rnc, r_vk0, r_vkc, r_vks, r_kci, r_kcv, r_ild, r_ald, r_lld, r_dld, r_Li, r_La, r_Ll, r_Ld, r_Ki, r_Ka, r_Kl, r_Kd, r_Kn, r_ist, r_ast, r_lst, r_dst, r_iinc, r_int, r_lng, r_dbl, r_i2, r_i1, r_l2, r_lsh, r_i2z, r_l2z, r_i2l, r_l2i, r_i2d, r_lcmp, r_ddiv, r_dcmpl, r_dup, r_dup2, r_pop, r_one_int, r_one_ref, r_go, r_if, r_ic, r_tsw, r_lsw, r_sw0, r_swc, r_lk0, r_lkc, r_kp, r_gI, r_gL, r_gR, r_pI, r_pZ, r_pL, r_pR, r_gs, r_ia, r_ca, r_za, r_la, r_da, r_aa, r_ias, r_cas, r_zas, r_las, r_das, r_aas, r_acp, r_new, r_nwa, r_nwq, r_ret, r_irt, r_zrt, r_lrt, r_drt, r_art, r_thr, r_cV0, r_cV1, r_cV2, r_cV3, r_cV4, r_cV5, r_cI0, r_cS0, r_cS1, r_cS2, r_cS3, r_cX0, r_cX1, r_cX2, r_cX3, r_rc, r_oi, r_refx, r_i10, r_i01, r_rfs, r_mem0, r_memc, r_beq, r_kl0, r_klz, r_kl1i, r_kl1r, r_kl1n, r_kl1l, r_kl1d, List.length_cons, List.length_nil, List.getElem?_cons_zero, List.getElem?_cons_succ, List.set_cons_zero, List.set_cons_succ, true_and, and_true, not_true, not_false_eq_true, false_implies, true_implies, or_true, true_or, or_false, false_or, Bool.or_false, Bool.false_or, decide_false, decide_true, Nat.reduceLT, Nat.reduceLeDiff, Nat.reduceAdd, Nat.reduceSub, ↓reduceIte, Nat.reduceEqDiff, Nat.lt_add_one]
  have e1 : zI (s : Int) * 16 + zI c + 3 = zI (f_sp s c : Nat) := by
    rw [l_16, l_3, z_mul, z_add, z_add]; unfold f_sp; congr 1; omega
  have n6 : lt ≠ ap := mz_ne hU h2 h5 (by decide)
  rw [z_nat (by omega), Int.toNat_natCast, q4 _ hsp]
  have e64 : (64 : Int32) = zI 64 := rfl
  refine ⟨fun q => absurd q ?_, fun _ => ⟨⟨448, h2, z_in (by omega) (by omega) (by decide)⟩, fun e => ?_, fun e => ⟨fun e3 => absurd e3 ?_, fun _ => ⟨fun e3 => ?_, fun e3 => ?_⟩⟩⟩⟩
  · rw [l_m1, z_eq (by omega) (by omega)]; omega
  · have : ¬ f_has Q (f_sp s c) = false := fun q => e ((f_has_v q5).mpr q)
    have eq : f_reach Q (f_sp s c) n = Q := if_neg (fun q => this q.1)
    exact h I fr_refl (by rw [eq]; exact hQ) (fun _ _ _ => rfl)
  · rw [l_0, z_lt (by omega) (by omega)]; omega
  · have : ¬ Q.length < 64 := by
      rw [show (64 : Int32) = zI 64 from rfl, z_le (by omega) (by omega)] at e3; omega
    have eq : f_reach Q (f_sp s c) n = Q := if_neg (fun q => this q.2)
    exact h I fr_refl (by rw [eq]; exact hQ) (fun _ _ _ => rfl)
  · have e3 : Q.length < 64 := by
      rw [show (64 : Int32) = zI 64 from rfl, z_le (by omega) (by omega)] at e3; omega
    have hno : f_has Q (f_sp s c) = false := (f_has_v q5).mp (by simpa using e)
    have eq : f_reach Q (f_sp s c) n = Q ++ [(f_sp s c, n)] := if_pos ⟨hno, e3⟩
    rw [mz_u_ne (Ne.symm n6), p3, p4, e1, mz_u_ne (Ne.symm n1), q1, z_nat (by omega), Int.toNat_natCast, mz_u_ne (Ne.symm n2), mz_u_ne (Ne.symm n1), q1, z_1]
    refine ⟨⟨448, h2, z_in (by omega) (by omega) (by decide)⟩, ⟨64, h3, z_in (by omega) (by omega) (by decide)⟩, ?_⟩
    refine h _ ?_ ?_ ?_
    · exact fr_u2 (fr_u2 (fr_u2 fr_refl (by simp)) (by simp)) (by simp)
    · rw [eq]
      refine ⟨?_, ?_, ?_, ?_, ?_⟩
      · rw [mz_u_eq, List.length_append]; rfl
      · rw [List.length_append]; show Q.length + 1 ≤ 64; omega
      · intro i hi
        rw [List.length_append] at hi
        have hi : i < Q.length + 1 := hi
        rw [mz_u_ne n2]
        by_cases e : i = Q.length
        · subst e
          rw [mz_u_eq, List.getD_eq_getElem?_getD, List.getElem?_append_right (Nat.le_refl _), Nat.sub_self]; rfl
        · rw [mz_u_nk e, mz_u_ne n3, q3 i (by omega), List.getD_eq_getElem?_getD, List.getD_eq_getElem?_getD, List.getElem?_append_left (by omega)]
      · intro j hj
        rw [mz_u_ne n1, mz_u_ne (Ne.symm n3), f_val_snoc hno]
        by_cases e : j = f_sp s c
        · rw [if_pos e, e, mz_u_eq]
        · rw [if_neg e, mz_u_nk (by omega)]; exact q4 j hj
      · intro q hq
        rcases List.mem_append.mp hq with hq | hq
        · exact q5 q hq
        · rw [List.mem_singleton.mp hq]; exact hn
    · intro j _ hj
      rw [mz_u_ne n1, mz_u_ne (Ne.symm n3), mz_u_nk (by omega)]
theorem c_goToF {fi lt qu op ok ap kd s sp : Nat} {c r : Int} (hS : p_FS T fi lt qu op ok ap) (hp : p_Pos T I ap kd s c r) (hsp : sp < 64) (h : ∀ I', fr I I' [ap] → p_Pos T I' ap kd (sp / 16) ((sp % 16 : Nat) - 3 : Int) 9 → K none T I' L) : mz_Ctr G M_X3_goTo [.ref fi, .int (zI sp)] T I L K := by
  obtain ⟨h1, ⟨r0, r1, r2, r3⟩, h2, h3, h4, h5⟩ := id hS
  obtain ⟨p1, p2, p3, p4, p5, hk, hs, hc9, hr⟩ := id hp
  refine mz_ofl mk_X3_goTo rfl (Nat.le_of_ble_eq_true rfl) (Nat.le_of_ble_eq_true rfl) [some (.ref fi), some (.int (zI sp))] rfl ?_
  refine mz_vc ok_X3_goTo [] [(), (), (), (), (), (), (), (), (), (), (), (), (), (), (), (), (), (), (), (), (), (), (), (), (), (), (), (), (), ()] ?_
  simp only [cd_X3_goTo, h1, r3, h5, r_rn0, r_rnc, r_vk0, r_vkc, r_vks, r_kci, r_kcv, r_ild, r_ald, r_lld, r_dld, r_Li, r_La, r_Ll, r_Ld, r_Ki, r_Ka, r_Kl, r_Kd, r_Kn, r_ist, r_ast, r_lst, r_dst, r_iinc, r_int, r_lng, r_dbl, r_i2, r_i1, r_l2, r_lsh, r_i2z, r_l2z, r_i2l, r_l2i, r_i2d, r_lcmp, r_ddiv, r_dcmpl, r_dup, r_dup2, r_pop, r_one_int, r_one_ref, r_go, r_if, r_ic, r_tsw, r_lsw, r_sw0, r_swc, r_lk0, r_lkc, r_kp, r_gI, r_gL, r_gR, r_pI, r_pZ, r_pL, r_pR, r_gs, r_ia, r_ca, r_za, r_la, r_da, r_aa, r_ias, r_cas, r_zas, r_las, r_das, r_aas, r_acp, r_new, r_nwa, r_nwq, r_ret, r_irt, r_zrt, r_lrt, r_drt, r_art, r_thr, r_cV0, r_cV1, r_cV2, r_cV3, r_cV4, r_cV5, r_cI0, r_cS0, r_cS1, r_cS2, r_cS3, r_cX0, r_cX1, r_cX2, r_cX3, r_rc, r_oi, r_refx, r_i10, r_i01, r_rfs, r_mem0, r_memc, r_beq, r_kl0, r_klz, r_kl1i, r_kl1r, r_kl1n, r_kl1l, r_kl1d, List.length_cons, List.length_nil, List.getElem?_cons_zero, List.getElem?_cons_succ, List.set_cons_zero, List.set_cons_succ, true_and, and_true, not_true, not_false_eq_true, false_implies, true_implies, or_true, true_or, or_false, false_or, Bool.or_false, Bool.false_or, decide_false, decide_true, Nat.reduceLT, Nat.reduceLeDiff, Nat.reduceAdd, Nat.reduceSub, ↓reduceIte, Nat.reduceEqDiff, Nat.lt_add_one]
  have e1 : zI (sp : Int) / 16 = zI ((sp / 16 : Nat) : Int) := by rw [l_16, z_div (by omega) (by decide)]; rfl
  have e2 : zI (sp : Int) - zI (sp : Int) / 16 * 16 - 3 = zI ((sp % 16 : Nat) - 3 : Int) := by rw [l_16, l_3, z_mod (by omega) (by decide), z_sub]; rfl
  rw [e1, ← e1, e2, e1]
  refine ⟨by decide, by decide, ?_⟩
  refine h _ ?_ ⟨h5, ?_, ?_, ?_, ?_, hk, by omega, by omega, by decide⟩
  · exact fr_u2 (fr_u2 (fr_u2 fr_refl (by simp)) (by simp)) (by simp)
  · rw [mz_u_nk (by decide), mz_u_nk (by decide), mz_u_nk (by decide)]; exact p2
  · rw [mz_u_nk (by decide), mz_u_nk (by decide), mz_u_eq]
  · rw [mz_u_nk (by decide), mz_u_eq]
  · rw [mz_u_eq]; rfl
end FIN3
