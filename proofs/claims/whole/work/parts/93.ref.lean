/-! the reference's face: its state, moves -/
section REF
variable {G : mz_G} {K : mz_K} {X : mz_X} {T : mz_T} {I : mz_I} {L : mz_L}
variable {D : Nat → Nat} {many n : Nat} {m : Nat → Int32} {rr : Nat → Nat → Int32} {has : Bool} {ms : Nat → Int32} {s0 s1 dly lim : Int32} {cs : Nat → Int32} {fl : Int32}

/-- the reference's state -/
def r_S (I : mz_I) (D : Nat → Nat) (s : g_S) (has : Bool) (ms : Nat → Int32) (s0 s1 dly lim : Int32) (n : Nat) (cs : Nat → Int32) (fl : Int32) : Prop :=
  (p_Mc I D ∧ d_Sp I D) ∧ (I (D 1) = s.1 ∧ I (D 0) 4 = zI s.2.1 ∧ s.2.1 ≤ 6 ∧ (∀ i j, i < s.2.1 → j < 268 → I (D 3) (268 * i + j) = s.2.2 i j)) ∧ (I (D 0) 7 = b2i has ∧ (∀ j, j < 268 → I (D 5) j = ms j) ∧ I (D 6) 0 = s0 ∧ I (D 6) 1 = s1) ∧ (I (D 2) 0 = dly ∧ I (D 2) 1 = lim) ∧ (I (D 0) 24 = zI n ∧ n ≤ 60 ∧ (∀ i, i < n → I (D 23) i = cs i) ∧ I (D 0) 25 = fl)
/-- what a call of the reference leaves: only its own rows changed, and whether it threw -/
def r_N (I I' : mz_I) (D : Nat → Nat) (x : Int32) : Prop := fr I I' (w_MA D) ∧ I' (D 0) 0 = x
theorem d_0 (hM : p_Mo T D) (hU : ∀ a x y, (a, x) ∈ T.1 → (a, y) ∈ T.1 → x = y) {a : Nat} {x : Nat × Nat} (h : (a, x) ∈ T.1) (hx : x ≠ (0, 12)) : a ≠ D 0 := mz_ne hU h hM.1 hx
/-- the reference notes whether it threw -/
theorem r_S_0 {I1 : mz_I} {s : g_S} {x : Int32} (hU : ∀ a x y, (a, x) ∈ T.1 → (a, y) ∈ T.1 → x = y) (hM : p_Mo T D) (h : r_S I1 D s has ms s0 s1 dly lim n cs fl) (hf : fr I I1 (w_MA D)) : r_S (mz_u I1 (D 0) 0 x) D s has ms s0 s1 dly lim n cs fl ∧ r_N I (mz_u I1 (D 0) 0 x) D x := by
  obtain ⟨h0, -, ⟨t1, t2, t3, t5, t6, t8, t9, t10, t11, t12, t13, t14, t16, t17, t19, t20, t22, t23⟩, -⟩ := id hM
  obtain ⟨⟨hMc, hSp⟩, ⟨e1, e2, e3, e4⟩, ⟨e5, e6, e7, e8⟩, ⟨e9, e10⟩, ⟨e11, e12, e13, e14⟩⟩ := h
  have n0 : ∀ {a : Nat} {x : Nat × Nat}, (a, x) ∈ T.1 → x ≠ (0, 12) → a ≠ D 0 := fun q hx => mz_ne hU q h0 hx
  refine ⟨⟨⟨p_Mc_fr hMc (fr_u : fr I1 (mz_u I1 (D 0) 0 x) [D 0]) (by simp; exact ⟨n0 t8 (by decide), n0 t9 (by decide), n0 t10 (by decide), n0 t11 (by decide), n0 t12 (by decide)⟩), d_Sp_fr hSp (mz_u_nk (by decide)) (mz_u_ne (n0 t14 (by decide)))⟩, ⟨?_, ?_, e3, ?_⟩, ⟨?_, ?_, ?_, ?_⟩, ⟨?_, ?_⟩, ⟨?_, e12, ?_, ?_⟩⟩, fr_u2 hf (by unfold w_MA; simp), mz_u_eq⟩
  · rw [mz_u_ne (n0 t1 (by decide))]; exact e1
  · rw [mz_u_nk (by decide)]; exact e2
  · rw [mz_u_ne (n0 t3 (by decide))]; exact e4
  · rw [mz_u_nk (by decide)]; exact e5
  · rw [mz_u_ne (n0 t5 (by decide))]; exact e6
  · rw [mz_u_ne (n0 t6 (by decide))]; exact e7
  · rw [mz_u_ne (n0 t6 (by decide))]; exact e8
  · rw [mz_u_ne (n0 t2 (by decide))]; exact e9
  · rw [mz_u_ne (n0 t2 (by decide))]; exact e10
  · rw [mz_u_nk (by decide)]; exact e11
  · rw [mz_u_ne (n0 t23 (by decide))]; exact e13
  · rw [mz_u_nk (by decide)]; exact e14
/-- a step of the reference that may record -/
theorem r_S_G2 {I' : mz_I} {many' : Nat} {g' : Nat → Int32} {rr' : Nat → Nat → Int32} (hU : ∀ a x y, (a, x) ∈ T.1 → (a, y) ∈ T.1 → x = y) (hM : p_Mo T D) (h : r_S I D (m, many, rr) has ms s0 s1 dly lim n cs fl) (hG : d_G2 I I' D many' g' rr') (hm : many' ≤ 6) : r_S I' D (g', many', rr') has ms s0 s1 dly lim n cs fl ∧ fr I I' (w_MA D) := by
  obtain ⟨h0, -, ⟨t1, t2, t3, t5, t6, t8, t9, t10, t11, t12, t13, t14, t16, t17, t19, t20, t22, t23⟩, ⟨u1, u2⟩⟩ := id hM
  obtain ⟨⟨hMc, hSp⟩, ⟨e1, e2, e3, e4⟩, ⟨e5, e6, e7, e8⟩, ⟨e9, e10⟩, ⟨e11, e12, e13, e14⟩⟩ := h
  obtain ⟨g1, g2, g3, g4, g5, g6⟩ := hG
  have ne : ∀ {a b : Nat} {x y : Nat × Nat}, (a, x) ∈ T.1 → (b, y) ∈ T.1 → x ≠ y → a ≠ b := fun a b c => mz_ne hU a b c
  have o : ∀ {a : Nat} {x : Nat × Nat}, (a, x) ∈ T.1 → x ≠ (0, 12) → x ≠ (1, 268) → x ≠ (1, 1608) → x ≠ (1, 64) → I' a = I a := fun q a b c d => g1 _ (by simp; exact ⟨ne q h0 a, ne q t1 b, ne q t3 c, ne q t14 d⟩)
  have o5 : I' (D 5) = I (D 5) := g1 _ (by simp; exact ⟨ne t5 h0 (by decide), Ne.symm u1, ne t5 t3 (by decide), ne t5 t14 (by decide)⟩)
  refine ⟨⟨⟨Mc_015 hU hM hMc g1, g6⟩, ⟨g4, g3, hm, g5⟩, ⟨?_, ?_, ?_, ?_⟩, ⟨?_, ?_⟩, ⟨?_, e12, ?_, ?_⟩⟩, fr_tr g1 fr_refl (by unfold w_MA; simp) (fun _ q => q)⟩
  · rw [g2 7 (by decide) (by decide)]; exact e5
  · rw [o5]; exact e6
  · rw [o t6 (by decide) (by decide) (by decide) (by decide)]; exact e7
  · rw [o t6 (by decide) (by decide) (by decide) (by decide)]; exact e8
  · rw [o t2 (by decide) (by decide) (by decide) (by decide)]; exact e9
  · rw [o t2 (by decide) (by decide) (by decide) (by decide)]; exact e10
  · rw [g2 24 (by decide) (by decide)]; exact e11
  · rw [o t23 (by decide) (by decide) (by decide) (by decide)]; exact e13
  · rw [g2 25 (by decide) (by decide)]; exact e14
/-- a step of the reference that changes its row only -/
theorem r_S_1 {I' : mz_I} {g' : Nat → Int32} (hU : ∀ a x y, (a, x) ∈ T.1 → (a, y) ∈ T.1 → x = y) (hM : p_Mo T D) (h : r_S I D (m, many, rr) has ms s0 s1 dly lim n cs fl) (hf : fr I I' [D 1]) (hg : I' (D 1) = g') : r_S I' D (g', many, rr) has ms s0 s1 dly lim n cs fl ∧ fr I I' (w_MA D) := by
  obtain ⟨h0, -, ⟨t1, t2, t3, t5, t6, t8, t9, t10, t11, t12, t13, t14, -⟩, -⟩ := id hM
  obtain ⟨⟨hMc, hSp⟩, ⟨e1, e2, e3, e4⟩, -⟩ := id h
  have e0 : I' (D 0) = I (D 0) := hf _ (by simp; exact mz_ne hU h0 t1 (by decide))
  refine r_S_G2 hU hM h ⟨fr_tr hf fr_refl (by simp) (fun _ q => q), fun i _ _ => by rw [e0], by rw [e0]; exact e2, hg, fun i j hi hj => ?_, d_Sp_fr hSp (by rw [e0]) (hf _ (by simp; exact mz_ne hU t14 t1 (by decide)))⟩ e3
  rw [hf _ (by simp; exact mz_ne hU t3 t1 (by decide))]; exact e4 i j hi hj
theorem rr_cg {b : Bool} {rr' : Nat → Nat → Int32} {a : Nat → Int32} (h : ∀ i j, i < many → j < 268 → rr i j = rr' i j) : ∀ i j, i < w_mn b many → j < 268 → w_rr b many rr a i j = w_rr b many rr' a i j := by
  intro i j hi hj
  unfold w_mn s_mn at hi
  unfold w_rr
  cases b with
  | false => exact h i j hi hj
  | true =>
    show s_push many rr a i j = s_push many rr' a i j
    unfold s_push
    by_cases q2 : many < 6
    · rw [if_pos q2, if_pos q2]
      rw [if_pos rfl, if_pos q2] at hi
      by_cases q3 : i = many
      · rw [if_pos q3, if_pos q3]
      · rw [if_neg q3, if_neg q3]; exact h i j (by omega) hj
    · rw [if_neg q2, if_neg q2]
      rw [if_pos rfl, if_neg q2] at hi
      by_cases q3 : i = 5
      · rw [if_pos q3, if_pos q3]
      · rw [if_neg q3, if_neg q3]; exact h (i + 1) j (by omega) hj
theorem mn_le {b : Bool} (h : many ≤ 6) : w_mn b many ≤ 6 := by
  unfold w_mn s_mn
  split
  · split <;> omega
  · exact h
def k_dir (m : Nat → Int32) (x : Int32) : Int32 := if m 221 = 0 then (if x = -1 ∨ x = 1 then 0 else 2) else 1
theorem k_dir_0 {x : Int32} (h : k_dir m x = 0) : m 221 = 0 ∧ ∃ d : Int, x = zI d ∧ (d = -1 ∨ d = 1) ∧ x.toInt = d := by
  unfold k_dir at h
  by_cases q : m 221 = 0
  · rw [if_pos q] at h
    by_cases q2 : x = -1 ∨ x = 1
    · refine ⟨q, ?_⟩
      rcases q2 with rfl | rfl
      · exact ⟨-1, by decide, Or.inl rfl, by decide⟩
      · exact ⟨1, by decide, Or.inr rfl, by decide⟩
    · rw [if_neg q2] at h; exact absurd h (by decide)
  · rw [if_neg q] at h; exact absurd h (by decide)
theorem c_lacksM {x : Int32} (hM : p_Mo T D) (hC : r_S I D (m, many, rr) has ms s0 s1 dly lim n cs fl) (ho : r_ok m) (h : K (some (.int (k_dir m x))) T I L) : mz_Ctr G M_X12_lacks [.ref (D 0), .int x] T I L K := by
  refine mz_apartC fun hU => ?_
  obtain ⟨h0, ⟨r1, r2, r3, r5, r6, r8, r9, r10, r11, r12, r13, r14, r16, r17, r19, r20, r22, r23⟩, ⟨t1, t2, t3, t5, t6, t8, t9, t10, t11, t12, t13, t14, t16, t17, t19, t20, t22, t23⟩, ⟨u1, u2⟩⟩ := id hM
  obtain ⟨⟨hMc, hSp⟩, ⟨e1, e2, e3, e4⟩, e5, ⟨e6, e7⟩, e8⟩ := id hC
  have e1 : I (D 1) = m := e1
  have e2 : I (D 0) 4 = zI many := e2
  have e3 : many ≤ 6 := e3
  have ho := ho.1
  subst e1
  refine mz_ofl mk_X12_lacks rfl (Nat.le_of_ble_eq_true rfl) (Nat.le_of_ble_eq_true rfl) [some (.ref (D 0)), some (.int x)] rfl ?_
  refine mz_vc ok_X12_lacks [] [(), (), (), (), (), (), (), (), (), (), (), (), (), (), (), (), (), (), (), (), (), (), (), (), (), (), (), (), (), ()] ?_
  simp only [cd_X12_lacks, h0, r1, ix_221 t1, n_221, r_rn0, r_rnc, r_vk0, r_vkc, r_vks, r_kci, r_kcv, r_ild, r_ald, r_lld, r_dld, r_Li, r_La, r_Ll, r_Ld, r_Ki, r_Ka, r_Kl, r_Kd, r_Kn, r_ist, r_ast, r_lst, r_dst, r_iinc, r_int, r_lng, r_dbl, r_i2, r_i1, r_l2, r_lsh, r_i2z, r_l2z, r_i2l, r_l2i, r_i2d, r_lcmp, r_ddiv, r_dcmpl, r_dup, r_dup2, r_pop, r_one_int, r_one_ref, r_go, r_if, r_ic, r_tsw, r_lsw, r_sw0, r_swc, r_lk0, r_lkc, r_kp, r_gI, r_gL, r_gR, r_pI, r_pZ, r_pL, r_pR, r_gs, r_ia, r_ca, r_za, r_la, r_da, r_aa, r_ias, r_cas, r_zas, r_las, r_das, r_aas, r_acp, r_new, r_nwa, r_nwq, r_ret, r_irt, r_zrt, r_lrt, r_drt, r_art, r_thr, r_cV0, r_cV1, r_cV2, r_cV3, r_cV4, r_cV5, r_cI0, r_cS0, r_cS1, r_cS2, r_cS3, r_cX0, r_cX1, r_cX2, r_cX3, r_rc, r_oi, r_refx, r_i10, r_i01, r_rfs, r_mem0, r_memc, r_beq, r_kl0, r_klz, r_kl1i, r_kl1r, r_kl1n, r_kl1l, r_kl1d, List.length_cons, List.length_nil, List.getElem?_cons_zero, List.getElem?_cons_succ, List.set_cons_zero, List.set_cons_succ, true_and, and_true, not_true, not_false_eq_true, false_implies, true_implies, or_true, true_or, or_false, false_or, Bool.or_false, Bool.false_or, decide_false, decide_true, Nat.reduceLT, Nat.reduceLeDiff, Nat.reduceAdd, Nat.reduceSub, ↓reduceIte, Nat.reduceEqDiff, Nat.lt_add_one]
  unfold k_dir at h
  rcases ho with q | q
  · rw [q] at h ⊢
    rw [if_pos rfl] at h
    refine ⟨fun _ => ⟨fun v => ?_, fun v => ⟨fun v2 => ?_, fun v2 => ?_⟩⟩, fun v => absurd v (by decide)⟩
    · rw [if_pos (Or.inl v)] at h; exact h
    · rw [if_neg (fun u => u.elim v v2)] at h; exact h
    · rw [if_pos (Or.inr (Decidable.not_not.mp v2))] at h; exact h
  · rw [q] at h ⊢
    rw [if_neg (by decide)] at h
    exact ⟨fun v => absurd rfl v, fun _ => h⟩
end REF
