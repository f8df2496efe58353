/-! the search for placements: spots, keys -/
section SRCH
variable {G : mz_G} {K : mz_K} {T : mz_T} {I : mz_I} {L : mz_L}
/-- the objects of a Search: itself, field, its row, after, its row, from, at, seen, queue, keys -/
def p_Sh (T : mz_T) (Y : Nat → Nat) : Prop := (Y 0, 0, 10) ∈ T.1 ∧ (T.2 (Y 0) 2 = some (Y 1) ∧ T.2 (Y 0) 3 = some (Y 3) ∧ T.2 (Y 0) 4 = some (Y 5) ∧ T.2 (Y 0) 5 = some (Y 6) ∧ T.2 (Y 0) 6 = some (Y 7) ∧ T.2 (Y 0) 7 = some (Y 8) ∧ T.2 (Y 0) 9 = some (Y 9)) ∧
  (p_Field T (Y 1) (Y 2) ∧ p_Field T (Y 3) (Y 4) ∧ (Y 5, 0, 8) ∈ T.1 ∧ (Y 6, 0, 8) ∈ T.1 ∧ (Y 7, 1, 2048) ∈ T.1 ∧ (Y 8, 1, 2048) ∈ T.1 ∧ (Y 9, 2, 512) ∈ T.1) ∧ (Y 2 ≠ Y 4 ∧ Y 5 ≠ Y 6 ∧ Y 7 ≠ Y 8)
def x_e (x : s_P) : Nat := x.1 * 512 + (x.2.1 + 3).toNat * 32 + (x.2.2 + 3).toNat
def x_d (n : Nat) : s_P := (n / 512, ((n / 32 % 16 : Nat) : Int) - 3, ((n % 32 : Nat) : Int) - 3)
theorem x_e_lt {m : Nat → Int32} {x : s_P} (hk : m_kd m < 7) (h : x_in m x) : x_e x < 2048 := by
  have := x_in_b hk h; have := h.1; unfold x_e; omega
theorem x_de {m : Nat → Int32} {x : s_P} (hk : m_kd m < 7) (h : x_in m x) : x_d (x_e x) = x := by
  have := x_in_b hk h; have := h.1
  obtain ⟨s, c, r⟩ := x
  unfold x_d x_e
  simp only at *
  refine Prod.ext ?_ (Prod.ext ?_ ?_)
  · simp only; omega
  · simp only; omega
  · simp only; omega
theorem z_spd : ∀ n : Nat, n < 2048 → zI n >>> (9 &&& 31) = zI (n / 512 : Nat) ∧ ((zI n >>> (5 &&& 31)) &&& 15) - 3 = zI (((n / 32 % 16 : Nat) : Int) - 3) ∧ (zI n &&& 31) - 3 = zI (((n % 32 : Nat) : Int) - 3) := by decide +kernel
theorem z_spe1 : ∀ s : Nat, s < 4 → zI s <<< (9 &&& 31) = zI (s * 512 : Nat) := by decide
theorem z_spe2 : ∀ k : Nat, k < 16 → zI k <<< (5 &&& 31) = zI (k * 32 : Nat) := by decide
theorem c_goToS {p n kd : Nat} (h1 : (p, 0, 8) ∈ T.1) (hk : kd < 7) (hkd : I p 0 = zI kd) (hn : n < 2048) (h : ∀ I', fr I I' [p] → p_Pos T I' p kd (x_d n).1 (x_d n).2.1 (x_d n).2.2 → K none T I' L) : mz_Ctr G M_X10_goTo [.int (zI n), .ref p] T I L K := by
  obtain ⟨e1, e2, e3⟩ := z_spd n hn
  refine mz_ofl mk_X10_goTo rfl (Nat.le_of_ble_eq_true rfl) (Nat.le_of_ble_eq_true rfl) [some (.int (zI n)), some (.ref p)] rfl ?_
  refine mz_vc ok_X10_goTo [] [(), (), (), (), (), (), (), (), (), (), (), (), (), (), (), (), (), (), (), (), (), (), (), (), (), (), (), (), (), ()] ?_
  simp only [cd_X10_goTo, h1, r_rn0, r_rnc, r_vk0, r_vkc, r_vks, r_kci, r_kcv, r_ild, r_ald, r_lld, r_dld, r_Li, r_La, r_Ll, r_Ld, r_Ki, r_Ka, r_Kl, r_Kd, r_Kn, r_ist, r_ast, r_lst, r_dst, r_iinc, r_int, r_lng, r_dbl, r_i2, r_i1, r_l2, r_lsh, r_i2z, r_l2z, r_i2l, r_l2i, r_i2d, r_lcmp, r_ddiv, r_dcmpl, r_dup, r_dup2, r_pop, r_one_int, r_one_ref, r_go, r_if, r_ic, r_tsw, r_lsw, r_sw0, r_swc, r_lk0, r_lkc, r_kp, r_gI, r_gL, r_gR, r_pI, r_pZ, r_pL, r_pR, r_gs, r_ia, r_ca, r_za, r_la, r_da, r_aa, r_ias, r_cas, r_zas, r_las, r_das, r_aas, r_acp, r_new, r_nwa, r_nwq, r_ret, r_irt, r_zrt, r_lrt, r_drt, r_art, r_thr, r_cV0, r_cV1, r_cV2, r_cV3, r_cV4, r_cV5, r_cI0, r_cS0, r_cS1, r_cS2, r_cS3, r_cX0, r_cX1, r_cX2, r_cX3, r_rc, r_oi, r_refx, r_i10, r_i01, r_rfs, r_mem0, r_memc, r_beq, r_kl0, r_klz, r_kl1i, r_kl1r, r_kl1n, r_kl1l, r_kl1d, List.length_cons, List.length_nil, List.getElem?_cons_zero, List.getElem?_cons_succ, List.set_cons_zero, List.set_cons_succ, true_and, and_true, not_true, not_false_eq_true, false_implies, true_implies, or_true, true_or, or_false, false_or, Bool.or_false, Bool.false_or, decide_false, decide_true, Nat.reduceLT, Nat.reduceLeDiff, Nat.reduceAdd, Nat.reduceSub, ↓reduceIte, Nat.reduceEqDiff, Nat.lt_add_one]
  rw [e1, e2, e3]
  refine h _ ?_ ⟨h1, ?_, ?_, ?_, ?_, hk, ?_, ?_, ?_⟩
  · exact fr_u2 (fr_u2 (fr_u2 fr_refl (by simp)) (by simp)) (by simp)
  · rw [mz_u_nk (by decide), mz_u_nk (by decide), mz_u_nk (by decide)]; exact hkd
  · rw [mz_u_nk (by decide), mz_u_nk (by decide), mz_u_eq]; rfl
  · rw [mz_u_nk (by decide), mz_u_eq]; rfl
  · rw [mz_u_eq]; rfl
  · show n / 512 < 4; omega
  · show -100 ≤ ((n / 32 % 16 : Nat) : Int) - 3 ∧ ((n / 32 % 16 : Nat) : Int) - 3 ≤ 100; omega
  · show -100 ≤ ((n % 32 : Nat) : Int) - 3 ∧ ((n % 32 : Nat) : Int) - 3 ≤ 100; omega
/-- the queue of a search -/
def x_S (m : Nat → Int32) (I : mz_I) (Y : Nat → Nat) (Q : List s_P) : Prop := I (Y 0) 8 = zI (Q.length : Nat) ∧ Q.Nodup ∧ (∀ x, x ∈ Q → x_in m x) ∧ (∀ j, j < Q.length → I (Y 8) j = zI (x_e (Q.getD j (0, 0, 0)) : Nat)) ∧ (∀ sp, sp < 2048 → I (Y 7) sp = b2i (Q.any (fun y => x_e y == sp)))
def x_re (Q : List s_P) (x : s_P) : List s_P := if x ∈ Q then Q else Q ++ [x]
theorem x_any {m : Nat → Int32} {Q : List s_P} {x : s_P} (hk : m_kd m < 7) (hq : ∀ x, x ∈ Q → x_in m x) (h : x_in m x) : Q.any (fun y => x_e y == x_e x) = true ↔ x ∈ Q := by
  rw [List.any_eq_true]
  constructor
  · rintro ⟨y, hy, e⟩
    have e : x_e y = x_e x := by simpa using e
    have := x_de hk (hq y hy)
    rw [e, x_de hk h] at this
    rw [this]; exact hy
  · intro hx
    exact ⟨x, hx, by simp⟩
theorem x_len {m : Nat → Int32} {Q : List s_P} (hk : m_kd m < 7) (hn : Q.Nodup) (hq : ∀ x, x ∈ Q → x_in m x) : Q.length ≤ 2048 := by
  have h1 : (Q.map x_e).Nodup := l_map hn (fun x y hx hy e => by rw [← x_de hk (hq x hx), ← x_de hk (hq y hy), e])
  have := l_pig (n := 2048) h1 (fun v hv => by
    obtain ⟨x, hx, e⟩ := List.mem_map.mp hv
    rw [← e]; exact x_e_lt hk (hq x hx))
  rwa [List.length_map] at this
theorem x_re_ok {m : Nat → Int32} {Q : List s_P} {x : s_P} (hn : Q.Nodup) (hq : ∀ x, x ∈ Q → x_in m x) (h : x_in m x) : (x_re Q x).Nodup ∧ ∀ y, y ∈ x_re Q x → x_in m y := by
  unfold x_re
  split
  · exact ⟨hn, hq⟩
  · rename_i q
    refine ⟨List.nodup_append.mpr ⟨hn, List.nodup_cons.mpr ⟨List.not_mem_nil, List.nodup_nil⟩, fun a ha b hb e => ?_⟩, fun y hy => ?_⟩
    · rw [List.mem_singleton.mp hb] at e; exact q (by rw [← e]; exact ha)
    · rcases List.mem_append.mp hy with hy | hy
      · exact hq y hy
      · rw [List.mem_singleton.mp hy]; exact h
theorem c_reachS {Y : Nat → Nat} {m : Nat → Int32} {Q : List s_P} {x : s_P} (hS : p_Sh T Y) (hk : m_kd m < 7) (hQ : x_S m I Y Q) (hp : p_Pos T I (Y 6) (m_kd m) x.1 x.2.1 x.2.2) (hx : x_in m x)
    (h : ∀ I', fr I I' [Y 0, Y 7, Y 8] → x_S m I' Y (x_re Q x) → (∀ i, i ≠ 8 → I' (Y 0) i = I (Y 0) i) → K none T I' L) : mz_Ctr G M_X10_reach [.ref (Y 0)] T I L K := by
  refine mz_apartC fun hU => ?_
  obtain ⟨h1, ⟨r2, r3, r4, r5, r6, r7, r9⟩, ⟨t1, t2, t3, t4, t5, t6, t7⟩, ⟨d1, d2, d3⟩⟩ := id hS
  obtain ⟨p1, p2, p3, p4, p5, -, hs, hc9, hr⟩ := id hp
  obtain ⟨q1, q2, q3, q4, q5⟩ := id hQ
  have n1 : Y 7 ≠ Y 0 := mz_ne hU t5 h1 (by decide)
  have n2 : Y 8 ≠ Y 0 := mz_ne hU t6 h1 (by decide)
  have hb := x_in_b hk hx
  have he := x_e_lt hk hx
  refine mz_ofl mk_X10_reach rfl (Nat.le_of_ble_eq_true rfl) (Nat.le_of_ble_eq_true rfl) [some (.ref (Y 0)), none, none] rfl ?_
  refine mz_vc ok_X10_reach [] [(), (), (), (), (), (), (), (), (), (), (), (), (), (), (), (), (), (), (), (), (), (), (), (), (), (), (), (), (), ()] ?_
  simp only [cd_X10_reach, h1, r5, r6, r7, t4, p3, p4, p5, q1, r_rn0, r_rnc, r_vk0, r_vkc, r_vks, r_kci, r_kcv, r_ild, r_ald, r_lld, r_dld, r_Li, r_La, r_Ll, r_Ld, r_Ki, r_Ka, r_Kl, r_Kd, r_Kn, r_ist, r_ast, r_lst, r_dst, r_iinc, r_int, r_lng, r_dbl, r_i2, r_i1, r_l2, r_lsh, r_i2z, r_l2z, r_i2l, r_l2i, r_i2d, r_lcmp, r_ddiv, r_dcmpl, r_dup, r_dup2, r_pop, r_one_int, r_one_ref, r_go, r_if, r_ic, r_tsw, r_lsw, r_sw0, r_swc, r_lk0, r_lkc, r_kp, r_gI, r_gL, r_gR, r_pI, r_pZ, r_pL, r_pR, r_gs, r_ia, r_ca, r_za, r_la, r_da, r_aa, r_ias, r_cas, r_zas, r_las, r_das, r_aas, r_acp, r_new, r_nwa, r_nwq, r_ret, r_irt, r_zrt, r_lrt, r_drt, r_art, r_thr, r_cV0, r_cV1, r_cV2, r_cV3, r_cV4, r_cV5, r_cI0, r_cS0, r_cS1, r_cS2, r_cS3, r_cX0, r_cX1, r_cX2, r_cX3, r_rc, r_oi, r_refx, r_i10, r_i01, r_rfs, r_mem0, r_memc, r_beq, r_kl0, r_klz, r_kl1i, r_kl1r, r_kl1n, r_kl1l, r_kl1d, List.length_cons, List.length_nil, List.getElem?_cons_zero, List.getElem?_cons_succ, List.set_cons_zero, List.set_cons_succ, true_and, and_true, not_true, not_false_eq_true, false_implies, true_implies, or_true, true_or, or_false, false_or, Bool.or_false, Bool.false_or, decide_false, decide_true, Nat.reduceLT, Nat.reduceLeDiff, Nat.reduceAdd, Nat.reduceSub, ↓reduceIte, Nat.reduceEqDiff, Nat.lt_add_one]
  have e1 : zI (x.1 : Int) <<< (9 &&& 31) + (zI x.2.1 + 3) <<< (5 &&& 31) + zI x.2.2 + 3 = zI (x_e x : Nat) := by
    have ec : zI x.2.1 + 3 = zI ((x.2.1 + 3).toNat : Nat) := by rw [l_3, z_add]; congr 1; omega
    rw [ec, z_spe1 _ hs, z_spe2 _ (by omega), l_3, z_add, z_add, z_add]
    unfold x_e
    congr 1; omega
  rw [e1, z_nat (by omega), Int.toNat_natCast, q5 _ he]
  have e2048 : (2048 : Int32) = zI 2048 := rfl
  have same : x ∈ Q → K none T I L := fun q => h I fr_refl (by unfold x_re; rw [if_pos q]; exact hQ) (fun _ _ => rfl)
  refine ⟨fun q => absurd q ?_, fun _ => ⟨fun q => absurd q ?_, fun _ => ⟨⟨2048, t5, z_in (by omega) (by omega) (by decide)⟩, fun q => ?_, fun q => ⟨fun w2 => absurd w2 ?_, fun _ => ⟨fun w2 => absurd w2 ?_, fun _ => ?_⟩⟩⟩⟩⟩
  · rw [l_0, z_lt (by omega) (by omega)]; omega
  · rw [e2048, z_le (by omega) (by omega)]; omega
  · rw [b2i_0] at q
    exact same ((x_any hk q3 hx).mp (by simpa using q))
  · have := x_len hk q2 q3
    rw [l_0, z_lt (by omega) (by omega)]; omega
  · have q9 : x ∉ Q := fun e => q (by rw [(x_any hk q3 hx).mpr e]; decide)
    have := x_re_ok q2 q3 hx
    have hl := x_len hk this.1 this.2
    unfold x_re at hl
    rw [if_neg q9, List.length_append] at hl
    have hl : Q.length + 1 ≤ 2048 := hl
    rw [e2048, z_le (by omega) (by omega)]; omega
  · have q9 : x ∉ Q := fun e => q (by rw [(x_any hk q3 hx).mpr e]; decide)
    have hre := x_re_ok q2 q3 hx
    have hl := x_len hk hre.1 hre.2
    have eq : x_re Q x = Q ++ [x] := if_neg q9
    rw [eq] at hl h hre
    rw [List.length_append] at hl
    have hl : Q.length + 1 ≤ 2048 := hl
    rw [mz_u_ne (Ne.symm n1), q1, z_nat (by omega), Int.toNat_natCast, mz_u_ne (Ne.symm n2), mz_u_ne (Ne.symm n1), q1, z_1]
    refine ⟨⟨2048, t5, z_in (by omega) (by omega) (by decide)⟩, ⟨2048, t6, z_in (by omega) (by omega) (by decide)⟩, ?_⟩
    refine h _ ?_ ⟨?_, hre.1, hre.2, ?_, ?_⟩ ?_
    · exact fr_u2 (fr_u2 (fr_u2 fr_refl (by simp)) (by simp)) (by simp)
    · rw [mz_u_eq, List.length_append]; rfl
    · intro j hj
      rw [List.length_append] at hj
      have hj : j < Q.length + 1 := hj
      rw [mz_u_ne n2]
      by_cases e : j = Q.length
      · subst e
        rw [mz_u_eq, List.getD_eq_getElem?_getD, List.getElem?_append_right (Nat.le_refl _), Nat.sub_self]; rfl
      · rw [mz_u_nk e, mz_u_ne (Ne.symm d3), q4 j (by omega), List.getD_eq_getElem?_getD, List.getD_eq_getElem?_getD, List.getElem?_append_left (by omega)]
    · intro sp hsp
      rw [mz_u_ne n1, mz_u_ne d3, List.any_append]
      by_cases e : sp = x_e x
      · rw [e, mz_u_eq]; simp [b2i]
      · rw [mz_u_nk e, q5 sp hsp]
        have : (x_e x == sp) = false := by simpa using fun q => e q.symm
        simp [this]
    · intro i hi
      rw [mz_u_nk hi, mz_u_ne (Ne.symm n2), mz_u_ne (Ne.symm n1)]
theorem s_hon_cg {e e' : Nat → Bool} (h : ∀ i, i < 220 → e i = e' i) {c : Nat} (hc : c < 10) : ∀ n, n ≤ 22 → s_hon e c n = s_hon e' c n
  | 0, _ => rfl
  | n + 1, hn => by unfold s_hon; rw [s_hon_cg h hc n (by omega), h _ (by omega)]
theorem s_ho_cg {e e' : Nat → Bool} (h : ∀ i, i < 220 → e i = e' i) : ∀ n, n ≤ 10 → s_ho e n = s_ho e' n
  | 0, _ => rfl
  | n + 1, hn => by unfold s_ho; rw [s_ho_cg h n (by omega), s_ht_cg h (by omega), s_hon_cg h (by omega) _ s_ht_le]
theorem s_th_cg {e e' : Nat → Bool} (h : ∀ i, i < 220 → e i = e' i) : ∀ n, n ≤ 10 → s_th e n = s_th e' n
  | 0, _ => rfl
  | n + 1, hn => by unfold s_th; rw [s_th_cg h n (by omega), s_ht_cg h (by omega)]
theorem s_ro_cg {e e' : Nat → Bool} (h : ∀ i, i < 220 → e i = e' i) : ∀ n, n ≤ 9 → s_ro e n = s_ro e' n
  | 0, _ => rfl
  | n + 1, hn => by unfold s_ro; rw [s_ro_cg h n (by omega), s_ht_cg h (by omega), s_ht_cg h (by omega)]
theorem c_keyS {Y : Nat → Nat} {m : Nat → Int32} {x : s_P} (hS : p_Sh T Y) (hk : m_kd m < 7) (hkd : m 222 = zI (m_kd m)) (hf : ∀ i, i < 220 → I (Y 2) i = m i - 1) (hnf : ∀ r, r < 22 → s_full (s_fm m) r = false) (hp : p_Pos T I (Y 6) (m_kd m) x.1 x.2.1 x.2.2) (hx : x_in m x)
    (h : ∀ I', fr I I' [Y 4] → K (some (.long (zL (x_key m x : Nat)))) T I' L) : mz_Ctr G M_X10_keyOfPlacement [.ref (Y 0)] T I L K := by
  refine mz_apartC fun hU => ?_
  obtain ⟨h1, ⟨r2, r3, r4, r5, r6, r7, r9⟩, ⟨t1, t2, t3, t4, t5, t6, t7⟩, ⟨d1, d2, d3⟩⟩ := id hS
  obtain ⟨f1, f2, f3⟩ := id t1
  obtain ⟨a1, a2, a3⟩ := id t2
  have n1 : Y 6 ≠ Y 4 := mz_ne hU t4 a2 (by decide)
  obtain ⟨k1, k2, k3, k4, k5⟩ := x_row_m hk hx
  have e222 : x_row m x 222 = zI (m_kd m) := by rw [x_row_o (by decide)]; exact hkd
  refine mz_ofl mk_X10_keyOfPlacement rfl (Nat.le_of_ble_eq_true rfl) (Nat.le_of_ble_eq_true rfl) [some (.ref (Y 0)), none, none, none] rfl ?_
  refine mz_vc ok_X10_keyOfPlacement [77] [(), (), (), (), (), (), (), (), (), (), (), (), (), (), (), (), (), (), (), (), (), (), (), (), (), (), (), (), (), ()] ?_
  simp only [cd_X10_keyOfPlacement, h1, r2, r3, r5, t4, f1, a1, r_rn0, r_rnc, r_vk0, r_vkc, r_vks, r_kci, r_kcv, r_ild, r_ald, r_lld, r_dld, r_Li, r_La, r_Ll, r_Ld, r_Ki, r_Ka, r_Kl, r_Kd, r_Kn, r_ist, r_ast, r_lst, r_dst, r_iinc, r_int, r_lng, r_dbl, r_i2, r_i1, r_l2, r_lsh, r_i2z, r_l2z, r_i2l, r_l2i, r_i2d, r_lcmp, r_ddiv, r_dcmpl, r_dup, r_dup2, r_pop, r_one_int, r_one_ref, r_go, r_if, r_ic, r_tsw, r_lsw, r_sw0, r_swc, r_lk0, r_lkc, r_kp, r_gI, r_gL, r_gR, r_pI, r_pZ, r_pL, r_pR, r_gs, r_ia, r_ca, r_za, r_la, r_da, r_aa, r_ias, r_cas, r_zas, r_las, r_das, r_aas, r_acp, r_new, r_nwa, r_nwq, r_ret, r_irt, r_zrt, r_lrt, r_drt, r_art, r_thr, r_cV0, r_cV1, r_cV2, r_cV3, r_cV4, r_cV5, r_cI0, r_cS0, r_cS1, r_cS2, r_cS3, r_cX0, r_cX1, r_cX2, r_cX3, r_rc, r_oi, r_refx, r_i10, r_i01, r_rfs, r_mem0, r_memc, r_beq, r_kl0, r_klz, r_kl1i, r_kl1r, r_kl1n, r_kl1l, r_kl1d, List.length_cons, List.length_nil, List.getElem?_cons_zero, List.getElem?_cons_succ, List.set_cons_zero, List.set_cons_succ, true_and, and_true, not_true, not_false_eq_true, false_implies, true_implies, or_true, true_or, or_false, false_or, Bool.or_false, Bool.false_or, decide_false, decide_true, Nat.reduceLT, Nat.reduceLeDiff, Nat.reduceAdd, Nat.reduceSub, ↓reduceIte, Nat.reduceEqDiff, Nat.lt_add_one]
  refine c_copyF t2 t1 ?_
  simp only [cd_X10_keyOfPlacement, h1, r2, r3, r5, t4, f1, a1, r_rn0, r_rnc, r_vk0, r_vkc, r_vks, r_kci, r_kcv, r_ild, r_ald, r_lld, r_dld, r_Li, r_La, r_Ll, r_Ld, r_Ki, r_Ka, r_Kl, r_Kd, r_Kn, r_ist, r_ast, r_lst, r_dst, r_iinc, r_int, r_lng, r_dbl, r_i2, r_i1, r_l2, r_lsh, r_i2z, r_l2z, r_i2l, r_l2i, r_i2d, r_lcmp, r_ddiv, r_dcmpl, r_dup, r_dup2, r_pop, r_one_int, r_one_ref, r_go, r_if, r_ic, r_tsw, r_lsw, r_sw0, r_swc, r_lk0, r_lkc, r_kp, r_gI, r_gL, r_gR, r_pI, r_pZ, r_pL, r_pR, r_gs, r_ia, r_ca, r_za, r_la, r_da, r_aa, r_ias, r_cas, r_zas, r_las, r_das, r_aas, r_acp, r_new, r_nwa, r_nwq, r_ret, r_irt, r_zrt, r_lrt, r_drt, r_art, r_thr, r_cV0, r_cV1, r_cV2, r_cV3, r_cV4, r_cV5, r_cI0, r_cS0, r_cS1, r_cS2, r_cS3, r_cX0, r_cX1, r_cX2, r_cX3, r_rc, r_oi, r_refx, r_i10, r_i01, r_rfs, r_mem0, r_memc, r_beq, r_kl0, r_klz, r_kl1i, r_kl1r, r_kl1n, r_kl1l, r_kl1d, List.length_cons, List.length_nil, List.getElem?_cons_zero, List.getElem?_cons_succ, List.set_cons_zero, List.set_cons_succ, true_and, and_true, not_true, not_false_eq_true, false_implies, true_implies, or_true, true_or, or_false, false_or, Bool.or_false, Bool.false_or, decide_false, decide_true, Nat.reduceLT, Nat.reduceLeDiff, Nat.reduceAdd, Nat.reduceSub, ↓reduceIte, Nat.reduceEqDiff, Nat.lt_add_one]
  have g1 : fr I (mz_row I (Y 4) (va_cpy (I (Y 2)) (I (Y 4)) 0 0 220)) [Y 4] := fr_row
  have hpf : ∀ J : mz_I, fr I J [Y 4] → p_Pos T J (Y 6) (m_kd m) x.1 x.2.1 x.2.2 := by
    intro J hJ
    obtain ⟨w1, w2, w3, w4, w5, w6⟩ := id hp
    have e := fr_ne1 hJ n1
    exact ⟨w1, by rw [e]; exact w2, by rw [e]; exact w3, by rw [e]; exact w4, by rw [e]; exact w5, w6⟩
  refine c_fillWith t2 (hpf _ g1) (fun I1 q1 h1' => ?_)
  simp only [cd_X10_keyOfPlacement, h1, r2, r3, r5, t4, f1, a1, r_rn0, r_rnc, r_vk0, r_vkc, r_vks, r_kci, r_kcv, r_ild, r_ald, r_lld, r_dld, r_Li, r_La, r_Ll, r_Ld, r_Ki, r_Ka, r_Kl, r_Kd, r_Kn, r_ist, r_ast, r_lst, r_dst, r_iinc, r_int, r_lng, r_dbl, r_i2, r_i1, r_l2, r_lsh, r_i2z, r_l2z, r_i2l, r_l2i, r_i2d, r_lcmp, r_ddiv, r_dcmpl, r_dup, r_dup2, r_pop, r_one_int, r_one_ref, r_go, r_if, r_ic, r_tsw, r_lsw, r_sw0, r_swc, r_lk0, r_lkc, r_kp, r_gI, r_gL, r_gR, r_pI, r_pZ, r_pL, r_pR, r_gs, r_ia, r_ca, r_za, r_la, r_da, r_aa, r_ias, r_cas, r_zas, r_las, r_das, r_aas, r_acp, r_new, r_nwa, r_nwq, r_ret, r_irt, r_zrt, r_lrt, r_drt, r_art, r_thr, r_cV0, r_cV1, r_cV2, r_cV3, r_cV4, r_cV5, r_cI0, r_cS0, r_cS1, r_cS2, r_cS3, r_cX0, r_cX1, r_cX2, r_cX3, r_rc, r_oi, r_refx, r_i10, r_i01, r_rfs, r_mem0, r_memc, r_beq, r_kl0, r_klz, r_kl1i, r_kl1r, r_kl1n, r_kl1l, r_kl1d, List.length_cons, List.length_nil, List.getElem?_cons_zero, List.getElem?_cons_succ, List.set_cons_zero, List.set_cons_succ, true_and, and_true, not_true, not_false_eq_true, false_implies, true_implies, or_true, true_or, or_false, false_or, Bool.or_false, Bool.false_or, decide_false, decide_true, Nat.reduceLT, Nat.reduceLeDiff, Nat.reduceAdd, Nat.reduceSub, ↓reduceIte, Nat.reduceEqDiff, Nat.lt_add_one]
  have g2 : fr I I1 [Y 4] := fr_tr1 g1 q1 (fun _ q => q)
  have ek1 : ∀ i, i < 220 → I1 (Y 4) i = o_fill (x_row m x) i - 1 := by
    intro i hi
    rw [h1' i hi, mz_row_eq]
    unfold o_fill
    rw [k1, k2, k3, k4, e222]
    by_cases c : s_has (m_kd m) x.1 x.2.1 x.2.2 (i : Int) = true
    · rw [if_pos c, if_pos ⟨hi, c⟩, Int32.add_sub_cancel]
    · rw [if_neg c, if_neg (fun e => c e.2), x_row_o (by omega), ← hf i hi]
      unfold va_cpy
      rw [if_pos (by omega)]
      congr 1; omega
  have fl1 := fl_of ek1
  refine c_clear t2 (fun I2 q2 h2 h2' => ?_)
  have g3 : fr I I2 [Y 4] := fr_tr1 g2 q2 (fun _ q => q)
  have ek2 : ∀ i, i < 220 → I2 (Y 4) i = x_af m x i - 1 := by
    refine clear_of ek1 (fun r c hr hc hfu => ?_) (fun i a b => ?_)
    · have := h2 r c hr hc (by rw [s_full_cg fl1 hr]; exact hfu)
      rw [s_nk_cg fl1 r (by omega)] at this
      exact this
    · refine h2' i ?_ b
      rw [s_nk_cg fl1 22 (Nat.le_refl _)]; exact a
  have enn : 22 - s_nk (s_fl (I1 (Y 4))) 22 = x_n m x := by rw [s_nk_cg fl1 22 (Nat.le_refl _)]; rfl
  have hn4 : x_n m x ≤ 4 := fill_four (by rw [k5]; exact hnf)
  rw [enn]
  have fl2 := fl_of ek2
  have hb0 := (x_pt_lt (w := 0) hk hx (by decide))
  have hb1 := (x_pt_lt (w := 1) hk hx (by decide)).1
  have hb2 := (x_pt_lt (w := 2) hk hx (by decide)).1
  have hb3 := (x_pt_lt (w := 3) hk hx (by decide)).1
  have ln : ∀ w, w ≤ 8 → x_kn m x w < 1000000000000000000 := by
    intro w hw
    by_cases q : w = 0
    · subst q; exact Nat.lt_of_lt_of_le (Nat.zero_lt_one) (by decide)
    · have := x_kn_lt hk hx w (by omega) hw
      have h9 : 5 * 256 ^ (w - 1) ≤ 5 * 256 ^ 7 := Nat.mul_le_mul_left _ (Nat.pow_le_pow_right (by decide) (by omega))
      have h8 : 5 * 256 ^ 7 < 1000000000000000000 := by decide
      omega
  simp only [cd_X10_keyOfPlacement, h1, r2, r3, r5, t4, f1, a1, r_rn0, r_rnc, r_vk0, r_vkc, r_vks, r_kci, r_kcv, r_ild, r_ald, r_lld, r_dld, r_Li, r_La, r_Ll, r_Ld, r_Ki, r_Ka, r_Kl, r_Kd, r_Kn, r_ist, r_ast, r_lst, r_dst, r_iinc, r_int, r_lng, r_dbl, r_i2, r_i1, r_l2, r_lsh, r_i2z, r_l2z, r_i2l, r_l2i, r_i2d, r_lcmp, r_ddiv, r_dcmpl, r_dup, r_dup2, r_pop, r_one_int, r_one_ref, r_go, r_if, r_ic, r_tsw, r_lsw, r_sw0, r_swc, r_lk0, r_lkc, r_kp, r_gI, r_gL, r_gR, r_pI, r_pZ, r_pL, r_pR, r_gs, r_ia, r_ca, r_za, r_la, r_da, r_aa, r_ias, r_cas, r_zas, r_las, r_das, r_aas, r_acp, r_new, r_nwa, r_nwq, r_ret, r_irt, r_zrt, r_lrt, r_drt, r_art, r_thr, r_cV0, r_cV1, r_cV2, r_cV3, r_cV4, r_cV5, r_cI0, r_cS0, r_cS1, r_cS2, r_cS3, r_cX0, r_cX1, r_cX2, r_cX3, r_rc, r_oi, r_refx, r_i10, r_i01, r_rfs, r_mem0, r_memc, r_beq, r_kl0, r_klz, r_kl1i, r_kl1r, r_kl1n, r_kl1l, r_kl1d, List.length_cons, List.length_nil, List.getElem?_cons_zero, List.getElem?_cons_succ, List.set_cons_zero, List.set_cons_succ, true_and, and_true, not_true, not_false_eq_true, false_implies, true_implies, or_true, true_or, or_false, false_or, Bool.or_false, Bool.false_or, decide_false, decide_true, Nat.reduceLT, Nat.reduceLeDiff, Nat.reduceAdd, Nat.reduceSub, ↓reduceIte, Nat.reduceEqDiff, Nat.lt_add_one]
  refine c_countHoles t2 ?_
  rw [s_ho_cg fl2 10 (Nat.le_refl _)]
  simp only [cd_X10_keyOfPlacement, h1, r2, r3, r5, t4, f1, a1, r_rn0, r_rnc, r_vk0, r_vkc, r_vks, r_kci, r_kcv, r_ild, r_ald, r_lld, r_dld, r_Li, r_La, r_Ll, r_Ld, r_Ki, r_Ka, r_Kl, r_Kd, r_Kn, r_ist, r_ast, r_lst, r_dst, r_iinc, r_int, r_lng, r_dbl, r_i2, r_i1, r_l2, r_lsh, r_i2z, r_l2z, r_i2l, r_l2i, r_i2d, r_lcmp, r_ddiv, r_dcmpl, r_dup, r_dup2, r_pop, r_one_int, r_one_ref, r_go, r_if, r_ic, r_tsw, r_lsw, r_sw0, r_swc, r_lk0, r_lkc, r_kp, r_gI, r_gL, r_gR, r_pI, r_pZ, r_pL, r_pR, r_gs, r_ia, r_ca, r_za, r_la, r_da, r_aa, r_ias, r_cas, r_zas, r_las, r_das, r_aas, r_acp, r_new, r_nwa, r_nwq, r_ret, r_irt, r_zrt, r_lrt, r_drt, r_art, r_thr, r_cV0, r_cV1, r_cV2, r_cV3, r_cV4, r_cV5, r_cI0, r_cS0, r_cS1, r_cS2, r_cS3, r_cX0, r_cX1, r_cX2, r_cX3, r_rc, r_oi, r_refx, r_i10, r_i01, r_rfs, r_mem0, r_memc, r_beq, r_kl0, r_klz, r_kl1i, r_kl1r, r_kl1n, r_kl1l, r_kl1d, List.length_cons, List.length_nil, List.getElem?_cons_zero, List.getElem?_cons_succ, List.set_cons_zero, List.set_cons_succ, true_and, and_true, not_true, not_false_eq_true, false_implies, true_implies, or_true, true_or, or_false, false_or, Bool.or_false, Bool.false_or, decide_false, decide_true, Nat.reduceLT, Nat.reduceLeDiff, Nat.reduceAdd, Nat.reduceSub, ↓reduceIte, Nat.reduceEqDiff, Nat.lt_add_one]
  refine c_totalHeight t2 ?_
  rw [s_th_cg fl2 10 (Nat.le_refl _)]
  simp only [cd_X10_keyOfPlacement, h1, r2, r3, r5, t4, f1, a1, r_rn0, r_rnc, r_vk0, r_vkc, r_vks, r_kci, r_kcv, r_ild, r_ald, r_lld, r_dld, r_Li, r_La, r_Ll, r_Ld, r_Ki, r_Ka, r_Kl, r_Kd, r_Kn, r_ist, r_ast, r_lst, r_dst, r_iinc, r_int, r_lng, r_dbl, r_i2, r_i1, r_l2, r_lsh, r_i2z, r_l2z, r_i2l, r_l2i, r_i2d, r_lcmp, r_ddiv, r_dcmpl, r_dup, r_dup2, r_pop, r_one_int, r_one_ref, r_go, r_if, r_ic, r_tsw, r_lsw, r_sw0, r_swc, r_lk0, r_lkc, r_kp, r_gI, r_gL, r_gR, r_pI, r_pZ, r_pL, r_pR, r_gs, r_ia, r_ca, r_za, r_la, r_da, r_aa, r_ias, r_cas, r_zas, r_las, r_das, r_aas, r_acp, r_new, r_nwa, r_nwq, r_ret, r_irt, r_zrt, r_lrt, r_drt, r_art, r_thr, r_cV0, r_cV1, r_cV2, r_cV3, r_cV4, r_cV5, r_cI0, r_cS0, r_cS1, r_cS2, r_cS3, r_cX0, r_cX1, r_cX2, r_cX3, r_rc, r_oi, r_refx, r_i10, r_i01, r_rfs, r_mem0, r_memc, r_beq, r_kl0, r_klz, r_kl1i, r_kl1r, r_kl1n, r_kl1l, r_kl1d, List.length_cons, List.length_nil, List.getElem?_cons_zero, List.getElem?_cons_succ, List.set_cons_zero, List.set_cons_succ, true_and, and_true, not_true, not_false_eq_true, false_implies, true_implies, or_true, true_or, or_false, false_or, Bool.or_false, Bool.false_or, decide_false, decide_true, Nat.reduceLT, Nat.reduceLeDiff, Nat.reduceAdd, Nat.reduceSub, ↓reduceIte, Nat.reduceEqDiff, Nat.lt_add_one]
  refine c_roughness t2 ?_
  rw [s_ro_cg fl2 9 (Nat.le_refl _)]
  simp only [cd_X10_keyOfPlacement, h1, r2, r3, r5, t4, f1, a1, r_rn0, r_rnc, r_vk0, r_vkc, r_vks, r_kci, r_kcv, r_ild, r_ald, r_lld, r_dld, r_Li, r_La, r_Ll, r_Ld, r_Ki, r_Ka, r_Kl, r_Kd, r_Kn, r_ist, r_ast, r_lst, r_dst, r_iinc, r_int, r_lng, r_dbl, r_i2, r_i1, r_l2, r_lsh, r_i2z, r_l2z, r_i2l, r_l2i, r_i2d, r_lcmp, r_ddiv, r_dcmpl, r_dup, r_dup2, r_pop, r_one_int, r_one_ref, r_go, r_if, r_ic, r_tsw, r_lsw, r_sw0, r_swc, r_lk0, r_lkc, r_kp, r_gI, r_gL, r_gR, r_pI, r_pZ, r_pL, r_pR, r_gs, r_ia, r_ca, r_za, r_la, r_da, r_aa, r_ias, r_cas, r_zas, r_las, r_das, r_aas, r_acp, r_new, r_nwa, r_nwq, r_ret, r_irt, r_zrt, r_lrt, r_drt, r_art, r_thr, r_cV0, r_cV1, r_cV2, r_cV3, r_cV4, r_cV5, r_cI0, r_cS0, r_cS1, r_cS2, r_cS3, r_cX0, r_cX1, r_cX2, r_cX3, r_rc, r_oi, r_refx, r_i10, r_i01, r_rfs, r_mem0, r_memc, r_beq, r_kl0, r_klz, r_kl1i, r_kl1r, r_kl1n, r_kl1l, r_kl1d, List.length_cons, List.length_nil, List.getElem?_cons_zero, List.getElem?_cons_succ, List.set_cons_zero, List.set_cons_succ, true_and, and_true, not_true, not_false_eq_true, false_implies, true_implies, or_true, true_or, or_false, false_or, Bool.or_false, Bool.false_or, decide_false, decide_true, Nat.reduceLT, Nat.reduceLeDiff, Nat.reduceAdd, Nat.reduceSub, ↓reduceIte, Nat.reduceEqDiff, Nat.lt_add_one]
  have s4 : (4 : Int32) - zI (x_n m x : Nat) = zI (x_kn m x 1 : Nat) := by
    rw [l_4, z_sub]; congr 1
    show (4 : Int) - (x_n m x : Nat) = ((0 * 256 + x_pt m x 0 : Nat) : Int)
    have : x_pt m x 0 = 4 - x_n m x := rfl
    omega
  have step : ∀ w v : Nat, w ≤ 6 → x_pt m x w = v → v < 256 → zL (x_kn m x w : Nat) <<< ((8 : Int32).toInt64 &&& 63) + (zI (v : Nat)).toInt64 = zL (x_kn m x (w + 1) : Nat) := by
    intro w v hw hv hv2
    have h7 : x_kn m x w < 18014398509481984 := by
      by_cases q : w = 0
      · subst q; exact Nat.lt_of_lt_of_le (Nat.zero_lt_one) (by decide)
      · have := x_kn_lt hk hx w (by omega) (by omega)
        have h9 : 5 * 256 ^ (w - 1) ≤ 5 * 256 ^ 6 := Nat.mul_le_mul_left _ (Nat.pow_le_pow_right (by decide) (by omega))
        have h8 : 5 * 256 ^ 6 < 18014398509481984 := by decide
        omega
    rw [w_shl h7, w_64 (by omega), w_add]
    congr 1
    show ((x_kn m x w * 256 : Nat) : Int) + (v : Int) = ((x_kn m x w * 256 + x_pt m x w : Nat) : Int)
    omega
  have k11 : x_kn m x 1 ≤ 4 := by
    show 0 * 256 + x_pt m x 0 ≤ 4
    omega
  rw [s4, w_64 (by omega), step 1 (s_ho (s_fm (x_af m x)) 10) (by decide) rfl hb1, step 2 (s_th (s_fm (x_af m x)) 10) (by decide) rfl hb2, step 3 (s_ro (s_fm (x_af m x)) 9) (by decide) rfl hb3]
  refine mz_loop (N := 4) (fun n => mz_W G M_X10_keyOfPlacement K mz_nX 77 [some (.ref (Y 0)), some (.long (zL (x_kn m x (4 + n) : Nat))), none, some (.int (zI n))] [] T I2 L (0, 0)) ?_ ?_ 0 (Nat.zero_le _)
  · refine mz_vc ok_X10_keyOfPlacement [77] [(), (), (), (), (), (), (), (), (), (), (), (), (), (), (), (), (), (), (), (), (), (), (), (), (), (), (), (), (), ()] ?_
    simp only [cd_X10_keyOfPlacement, h1, r2, r3, r5, t4, f1, a1, r_rn0, r_rnc, r_vk0, r_vkc, r_vks, r_kci, r_kcv, r_ild, r_ald, r_lld, r_dld, r_Li, r_La, r_Ll, r_Ld, r_Ki, r_Ka, r_Kl, r_Kd, r_Kn, r_ist, r_ast, r_lst, r_dst, r_iinc, r_int, r_lng, r_dbl, r_i2, r_i1, r_l2, r_lsh, r_i2z, r_l2z, r_i2l, r_l2i, r_i2d, r_lcmp, r_ddiv, r_dcmpl, r_dup, r_dup2, r_pop, r_one_int, r_one_ref, r_go, r_if, r_ic, r_tsw, r_lsw, r_sw0, r_swc, r_lk0, r_lkc, r_kp, r_gI, r_gL, r_gR, r_pI, r_pZ, r_pL, r_pR, r_gs, r_ia, r_ca, r_za, r_la, r_da, r_aa, r_ias, r_cas, r_zas, r_las, r_das, r_aas, r_acp, r_new, r_nwa, r_nwq, r_ret, r_irt, r_zrt, r_lrt, r_drt, r_art, r_thr, r_cV0, r_cV1, r_cV2, r_cV3, r_cV4, r_cV5, r_cI0, r_cS0, r_cS1, r_cS2, r_cS3, r_cX0, r_cX1, r_cX2, r_cX3, r_rc, r_oi, r_refx, r_i10, r_i01, r_rfs, r_mem0, r_memc, r_beq, r_kl0, r_klz, r_kl1i, r_kl1r, r_kl1n, r_kl1l, r_kl1d, List.length_cons, List.length_nil, List.getElem?_cons_zero, List.getElem?_cons_succ, List.set_cons_zero, List.set_cons_succ, true_and, and_true, not_true, not_false_eq_true, false_implies, true_implies, or_true, true_or, or_false, false_or, Bool.or_false, Bool.false_or, decide_false, decide_true, Nat.reduceLT, Nat.reduceLeDiff, Nat.reduceAdd, Nat.reduceSub, ↓reduceIte, Nat.reduceEqDiff, Nat.lt_add_one]
    exact ⟨fun _ => h I2 g3, fun q => absurd (by decide) q⟩
  · intro n hn ih
    refine mz_vc ok_X10_keyOfPlacement [77] [(), (), (), (), (), (), (), (), (), (), (), (), (), (), (), (), (), (), (), (), (), (), (), (), (), (), (), (), (), ()] ?_
    simp only [cd_X10_keyOfPlacement, h1, r2, r3, r5, t4, f1, a1, r_rn0, r_rnc, r_vk0, r_vkc, r_vks, r_kci, r_kcv, r_ild, r_ald, r_lld, r_dld, r_Li, r_La, r_Ll, r_Ld, r_Ki, r_Ka, r_Kl, r_Kd, r_Kn, r_ist, r_ast, r_lst, r_dst, r_iinc, r_int, r_lng, r_dbl, r_i2, r_i1, r_l2, r_lsh, r_i2z, r_l2z, r_i2l, r_l2i, r_i2d, r_lcmp, r_ddiv, r_dcmpl, r_dup, r_dup2, r_pop, r_one_int, r_one_ref, r_go, r_if, r_ic, r_tsw, r_lsw, r_sw0, r_swc, r_lk0, r_lkc, r_kp, r_gI, r_gL, r_gR, r_pI, r_pZ, r_pL, r_pR, r_gs, r_ia, r_ca, r_za, r_la, r_da, r_aa, r_ias, r_cas, r_zas, r_las, r_das, r_aas, r_acp, r_new, r_nwa, r_nwq, r_ret, r_irt, r_zrt, r_lrt, r_drt, r_art, r_thr, r_cV0, r_cV1, r_cV2, r_cV3, r_cV4, r_cV5, r_cI0, r_cS0, r_cS1, r_cS2, r_cS3, r_cX0, r_cX1, r_cX2, r_cX3, r_rc, r_oi, r_refx, r_i10, r_i01, r_rfs, r_mem0, r_memc, r_beq, r_kl0, r_klz, r_kl1i, r_kl1r, r_kl1n, r_kl1l, r_kl1d, List.length_cons, List.length_nil, List.getElem?_cons_zero, List.getElem?_cons_succ, List.set_cons_zero, List.set_cons_succ, true_and, and_true, not_true, not_false_eq_true, false_implies, true_implies, or_true, true_or, or_false, false_or, Bool.or_false, Bool.false_or, decide_false, decide_true, Nat.reduceLT, Nat.reduceLeDiff, Nat.reduceAdd, Nat.reduceSub, ↓reduceIte, Nat.reduceEqDiff, Nat.lt_add_one]
    refine ⟨z_no (b := 4) (by omega) (by omega) hn, fun _ => c_cellAt (hpf _ g3) hn ?_⟩
    have hc := x_cell hk hx hn
    rw [show x.2.2 * 10 + x.2.1 + (s_cell (m_kd m) x.1 n : Int) = (x_ce m x n : Nat) from hc.1]
    simp only [cd_X10_keyOfPlacement, h1, r2, r3, r5, t4, f1, a1, r_rn0, r_rnc, r_vk0, r_vkc, r_vks, r_kci, r_kcv, r_ild, r_ald, r_lld, r_dld, r_Li, r_La, r_Ll, r_Ld, r_Ki, r_Ka, r_Kl, r_Kd, r_Kn, r_ist, r_ast, r_lst, r_dst, r_iinc, r_int, r_lng, r_dbl, r_i2, r_i1, r_l2, r_lsh, r_i2z, r_l2z, r_i2l, r_l2i, r_i2d, r_lcmp, r_ddiv, r_dcmpl, r_dup, r_dup2, r_pop, r_one_int, r_one_ref, r_go, r_if, r_ic, r_tsw, r_lsw, r_sw0, r_swc, r_lk0, r_lkc, r_kp, r_gI, r_gL, r_gR, r_pI, r_pZ, r_pL, r_pR, r_gs, r_ia, r_ca, r_za, r_la, r_da, r_aa, r_ias, r_cas, r_zas, r_las, r_das, r_aas, r_acp, r_new, r_nwa, r_nwq, r_ret, r_irt, r_zrt, r_lrt, r_drt, r_art, r_thr, r_cV0, r_cV1, r_cV2, r_cV3, r_cV4, r_cV5, r_cI0, r_cS0, r_cS1, r_cS2, r_cS3, r_cX0, r_cX1, r_cX2, r_cX3, r_rc, r_oi, r_refx, r_i10, r_i01, r_rfs, r_mem0, r_memc, r_beq, r_kl0, r_klz, r_kl1i, r_kl1r, r_kl1n, r_kl1l, r_kl1d, List.length_cons, List.length_nil, List.getElem?_cons_zero, List.getElem?_cons_succ, List.set_cons_zero, List.set_cons_succ, true_and, and_true, not_true, not_false_eq_true, false_implies, true_implies, or_true, true_or, or_false, false_or, Bool.or_false, Bool.false_or, decide_false, decide_true, Nat.reduceLT, Nat.reduceLeDiff, Nat.reduceAdd, Nat.reduceSub, ↓reduceIte, Nat.reduceEqDiff, Nat.lt_add_one]
    have ew : x_pt m x (4 + n) = x_ce m x n := by
      unfold x_pt
      rw [if_neg (by omega), if_neg (by omega), if_neg (by omega), if_neg (by omega), Nat.add_sub_cancel_left]
    by_cases q3 : n = 3
    · subst q3
      have h7 : x_kn m x (4 + 3) < 18014398509481984 := by
        have := x_kn_lt hk hx 7 (by decide) (by decide)
        have h8 : 5 * 256 ^ (7 - 1) < 18014398509481984 := by decide
        show x_kn m x 7 < _
        omega
      have e9 : zL (x_kn m x (4 + 3) : Nat) <<< ((8 : Int32).toInt64 &&& 63) + (zI (x_ce m x 3 : Nat)).toInt64 = zL (x_kn m x (4 + (3 + 1)) : Nat) := by
        rw [w_shl h7, w_64 (by omega), w_add]
        congr 1
      rw [e9, z_1]
      exact ih
    · rw [step (4 + n) (x_ce m x n) (by omega) ew (by omega), z_1]
      exact ih
end SRCH
