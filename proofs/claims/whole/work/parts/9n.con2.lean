/-! the constructors: memory, finesse, search, text -/
section CON2
variable {G : mz_G} {K : mz_K} {T : mz_T} {I : mz_I} {L : mz_L} {T0 : mz_T} {I0 : mz_I} {L0 : mz_L}
theorem dj_of {A A0 : z_A} {S : List Nat} (p : p_GA T0 A0) (h : n_w T0 T I0 I L0 L S) (hs : ∀ a, a ∈ z_A.all A → a ∈ S) : z_dj A A0 ∧ z_dj A0 A := by
  have key : ∀ a, a ∈ z_A.all A → a ∈ z_A.all A0 → False := fun a q r => by
    obtain ⟨x, -, hx⟩ := z_mem p a r
    exact h.2.2 a (hs a q) (a, x) hx rfl
  exact ⟨fun a q r => key a q r, fun a q r => key a r q⟩
def z_rc (Aj : Nat → z_A) (i : Nat) : List Nat := (List.range i).flatMap (fun j => (Aj j).all)
theorem z_rc_mem {Aj : Nat → z_A} {a i : Nat} : a ∈ z_rc Aj i ↔ ∃ j, j < i ∧ a ∈ (Aj j).all := by
  simp [z_rc, List.mem_flatMap]
theorem ga_T {A : z_A} {o i : Nat} {v : Option Nat} (hne : o ∉ z_A.all A) (p : p_GA T A) : p_GA (T.1, mz_u T.2 o i v) A := by
  obtain ⟨⟨g1, g2, g3, g4, g5⟩, hf, hx, ⟨b1, b2, b3⟩, hs⟩ := p
  simp only [z_A.all, List.mem_cons, List.not_mem_nil, or_false, not_or] at hne
  obtain ⟨e1, e2, e3, e4, e5, e6, e7, e8, e9, e10⟩ := hne
  have e := mz_u_ne (f := T.2) (k := i) (v := v) (Ne.symm e1)
  exact ⟨⟨g1, (congrFun e 0).trans g2, (congrFun e 1).trans g3, (congrFun e 2).trans g4, (congrFun e 3).trans g5⟩, fd_T (Ne.symm e2) hf, px_T (Ne.symm e4) hx, ⟨b1, b2, (congrFun (mz_u_ne (Ne.symm e6)) 0).trans b3⟩, ps_T (Ne.symm e8) hs⟩
theorem c_X6i {o : Nat} (hn : n_w T0 T I0 I L0 L [o]) (ho : (o, 0, 6) ∈ T.1) (hz : ∀ i, I o i = 0)
    (h : ∀ T' I' L' ra sn Aj, n_w T0 T' I0 I' L0 L' (o :: ra :: (z_A.all sn ++ z_rc Aj 6)) → (o, 0, 6) ∈ T'.1 → (ra, 6, 6) ∈ T'.1 → T'.2 o 0 = some ra → T'.2 o 3 = some (z_A.g sn) → p_GA T' sn → (∀ j, j < 6 → T'.2 ra j = some (Aj j).g ∧ p_GA T' (Aj j)) → (∀ i j, i < 6 → j < 6 → i ≠ j → z_dj (Aj i) (Aj j)) → (∀ j, j < 6 → z_dj (Aj j) sn) → (∀ i, I' o i = 0) → K none T' I' L') : mz_Ctr G M_X6_init [.ref o] T I L K := by
  have key : ∀ (ra : Nat) (sn : z_A), o ≠ ra → ra ∉ z_A.all sn → ∀ (k i : Nat), i + k = 6 → ∀ T1 I1 L1 (Aj : Nat → z_A), n_w T0 T1 I0 I1 L0 L1 (o :: ra :: (z_A.all sn ++ z_rc Aj i)) → (o, 0, 6) ∈ T1.1 → (ra, 6, 6) ∈ T1.1 → T1.2 o 0 = some ra → T1.2 o 3 = some (z_A.g sn) → p_GA T1 sn → (∀ j, j < i → T1.2 ra j = some (Aj j).g ∧ p_GA T1 (Aj j) ∧ ra ∉ (Aj j).all) → (∀ a b, a < i → b < i → a ≠ b → z_dj (Aj a) (Aj b)) → (∀ j, j < i → z_dj (Aj j) sn) → (∀ i, I1 o i = 0) → mz_W G M_X6_init K mz_nX 26 [some (.ref o), some (.int (zI i))] [] T1 I1 L1 (11 + 10 * i, 288 + 282 * i) := by
    intro ra sn nox hrs k
    induction k with
    | zero =>
      intro i hi T1 I1 L1 Aj n1 h1 h2 h3 h4 h5 h6 h7 h8 h9
      have hi : i = 6 := by omega
      subst hi
      refine mz_vc ok_X6_init [26] [(), (), (), (), (), (), (), (), (), (), (), (), (), (), (), (), (), (), (), (), (), (), (), (), (), (), (), (), (), ()] ?_
      simp only [cd_X6_init, List.mem_append, r_rn0, r_rnc, r_vk0, r_vkc, r_vks, r_kci, r_kcv, r_ild, r_ald, r_lld, r_dld, r_Li, r_La, r_Ll, r_Ld, r_Ki, r_Ka, r_Kl, r_Kd, r_Kn, r_ist, r_ast, r_lst, r_dst, r_iinc, r_int, r_lng, r_dbl, r_i2, r_i1, r_l2, r_lsh, r_i2z, r_l2z, r_i2l, r_l2i, r_i2d, r_lcmp, r_ddiv, r_dcmpl, r_dup, r_dup2, r_pop, r_one_int, r_one_ref, r_go, r_if, r_ic, r_tsw, r_lsw, r_sw0, r_swc, r_lk0, r_lkc, r_kp, r_gI, r_gL, r_gR, r_pI, r_pZ, r_pL, r_pR, r_gs, r_ia, r_ca, r_za, r_la, r_da, r_aa, r_ias, r_cas, r_zas, r_las, r_das, r_aas, r_acp, r_new, r_nwa, r_nwq, r_ret, r_irt, r_zrt, r_lrt, r_drt, r_art, r_thr, r_cV0, r_cV1, r_cV2, r_cV3, r_cV4, r_cV5, r_cI0, r_cS0, r_cS1, r_cS2, r_cS3, r_cX0, r_cX1, r_cX2, r_cX3, r_rc, r_oi, r_refx, r_i10, r_i01, r_rfs, r_mem0, r_memc, r_beq, r_kl0, r_klz, r_kl1i, r_kl1r, r_kl1n, r_kl1l, r_kl1d, List.length_cons, List.length_nil, List.getElem?_cons_zero, List.getElem?_cons_succ, List.set_cons_zero, List.set_cons_succ, true_and, and_true, not_true, not_false_eq_true, false_implies, true_implies, or_true, true_or, or_false, false_or, Bool.or_false, Bool.false_or, decide_false, decide_true, Nat.reduceLT, Nat.reduceLeDiff, Nat.reduceAdd, Nat.reduceSub, ↓reduceIte, Nat.reduceEqDiff, Nat.lt_add_one]
      refine ⟨fun _ => ?_, fun v => absurd (by decide) v⟩
      exact h T1 I1 L1 ra sn Aj n1 h1 h2 h3 h4 h5 (fun j hj => ⟨(h6 j hj).1, (h6 j hj).2.1⟩) h7 h8 h9
    | succ k ih =>
      intro i hi T1 I1 L1 Aj n1 h1 h2 h3 h4 h5 h6 h7 h8 h9
      refine mz_vc ok_X6_init [26] [(), (), (), (), (), (), (), (), (), (), (), (), (), (), (), (), (), (), (), (), (), (), (), (), (), (), (), (), (), ()] ?_
      simp only [cd_X6_init, List.mem_append, h1, h3, r_rn0, r_rnc, r_vk0, r_vkc, r_vks, r_kci, r_kcv, r_ild, r_ald, r_lld, r_dld, r_Li, r_La, r_Ll, r_Ld, r_Ki, r_Ka, r_Kl, r_Kd, r_Kn, r_ist, r_ast, r_lst, r_dst, r_iinc, r_int, r_lng, r_dbl, r_i2, r_i1, r_l2, r_lsh, r_i2z, r_l2z, r_i2l, r_l2i, r_i2d, r_lcmp, r_ddiv, r_dcmpl, r_dup, r_dup2, r_pop, r_one_int, r_one_ref, r_go, r_if, r_ic, r_tsw, r_lsw, r_sw0, r_swc, r_lk0, r_lkc, r_kp, r_gI, r_gL, r_gR, r_pI, r_pZ, r_pL, r_pR, r_gs, r_ia, r_ca, r_za, r_la, r_da, r_aa, r_ias, r_cas, r_zas, r_las, r_das, r_aas, r_acp, r_new, r_nwa, r_nwq, r_ret, r_irt, r_zrt, r_lrt, r_drt, r_art, r_thr, r_cV0, r_cV1, r_cV2, r_cV3, r_cV4, r_cV5, r_cI0, r_cS0, r_cS1, r_cS2, r_cS3, r_cX0, r_cX1, r_cX2, r_cX3, r_rc, r_oi, r_refx, r_i10, r_i01, r_rfs, r_mem0, r_memc, r_beq, r_kl0, r_klz, r_kl1i, r_kl1r, r_kl1n, r_kl1l, r_kl1d, List.length_cons, List.length_nil, List.getElem?_cons_zero, List.getElem?_cons_succ, List.set_cons_zero, List.set_cons_succ, true_and, and_true, not_true, not_false_eq_true, false_implies, true_implies, or_true, true_or, or_false, false_or, Bool.or_false, Bool.false_or, decide_false, decide_true, Nat.reduceLT, Nat.reduceLeDiff, Nat.reduceAdd, Nat.reduceSub, ↓reduceIte, Nat.reduceEqDiff, Nat.lt_add_one]
      refine ⟨z_no (b := 6) (by omega) (by omega) (by omega), fun _ => ?_⟩
      refine ⟨by omega, by omega, ?_⟩
      intro q hq
      refine ⟨by omega, by omega, ?_⟩
      refine c_X4i (nw_ob hq) nw_lst (fun T2 I2 L2 A eA n2 pA _ _ => ?_)
      have frA : ∀ a, a ∈ z_A.all A → ∀ x ∈ T1.1, x.1 ≠ a := fun a ha => n2.2.2 a ha
      have hrA : ra ∉ z_A.all A := fun e => frA _ e _ h2 rfl
      have m2 := nw_mem n2 h2
      have m1 := nw_mem n2 h1
      have mA := pA.1.1
      rw [eA] at mA
      simp only [cd_X6_init, List.mem_append, r_rn0, r_rnc, r_vk0, r_vkc, r_vks, r_kci, r_kcv, r_ild, r_ald, r_lld, r_dld, r_Li, r_La, r_Ll, r_Ld, r_Ki, r_Ka, r_Kl, r_Kd, r_Kn, r_ist, r_ast, r_lst, r_dst, r_iinc, r_int, r_lng, r_dbl, r_i2, r_i1, r_l2, r_lsh, r_i2z, r_l2z, r_i2l, r_l2i, r_i2d, r_lcmp, r_ddiv, r_dcmpl, r_dup, r_dup2, r_pop, r_one_int, r_one_ref, r_go, r_if, r_ic, r_tsw, r_lsw, r_sw0, r_swc, r_lk0, r_lkc, r_kp, r_gI, r_gL, r_gR, r_pI, r_pZ, r_pL, r_pR, r_gs, r_ia, r_ca, r_za, r_la, r_da, r_aa, r_ias, r_cas, r_zas, r_las, r_das, r_aas, r_acp, r_new, r_nwa, r_nwq, r_ret, r_irt, r_zrt, r_lrt, r_drt, r_art, r_thr, r_cV0, r_cV1, r_cV2, r_cV3, r_cV4, r_cV5, r_cI0, r_cS0, r_cS1, r_cS2, r_cS3, r_cX0, r_cX1, r_cX2, r_cX3, r_rc, r_oi, r_refx, r_i10, r_i01, r_rfs, r_mem0, r_memc, r_beq, r_kl0, r_klz, r_kl1i, r_kl1r, r_kl1n, r_kl1l, r_kl1d, List.length_cons, List.length_nil, List.getElem?_cons_zero, List.getElem?_cons_succ, List.set_cons_zero, List.set_cons_succ, true_and, and_true, not_true, not_false_eq_true, false_implies, true_implies, or_true, true_or, or_false, false_or, Bool.or_false, Bool.false_or, decide_false, decide_true, Nat.reduceLT, Nat.reduceLeDiff, Nat.reduceAdd, Nat.reduceSub, ↓reduceIte, Nat.reduceEqDiff, Nat.lt_add_one]
      rw [z_nat (by omega), Int.toNat_natCast, z_1]
      refine ⟨⟨6, m2, z_in (by omega) (by omega) (by decide)⟩, mA, ?_⟩
      have ea : ∀ j, j < i → (fun j => if j = i then A else Aj j) j = Aj j := fun j hj => if_neg (by omega)
      have ei : (fun j => if j = i then A else Aj j) i = A := if_pos rfl
      have go := ih (i + 1) (by omega) (T2.1, mz_u T2.2 ra i (some q)) I2 L2 (fun j => if j = i then A else Aj j) ?_ m1 m2 ?_ ?_ (ga_T hrs (ga_nw n2 h5)) (fun j hj => ?_) (fun a b ha hb hab => ?_) (fun j hj => ?_) (fun j => by rw [nw_I2 n2 h1]; exact h9 j)
      · rw [show 11 + 10 * (i + 1) = 11 + 10 * i + 1 + 9 by omega, show 288 + 282 * (i + 1) = 288 + 282 * i + 9 + 273 by omega] at go
        exact go
      · refine nw_T (nw_sub (nw_tr n1 n2) (fun a ha => ?_)) (by simp)
        simp only [List.mem_cons, List.mem_append, z_rc_mem] at ha ⊢
        rcases ha with e | e | e | ⟨j, hj, e⟩
        · exact Or.inl (Or.inl e)
        · exact Or.inl (Or.inr (Or.inl e))
        · exact Or.inl (Or.inr (Or.inr (Or.inl e)))
        · by_cases z : j = i
          · subst z
            rw [if_pos rfl] at e; exact Or.inr e
          · rw [if_neg z] at e; exact Or.inl (Or.inr (Or.inr (Or.inr ⟨j, by omega, e⟩)))
      · show mz_u T2.2 ra i (some q) o 0 = some ra
        rw [mz_u_ne nox, nw_T2 n2 h1]; exact h3
      · show mz_u T2.2 ra i (some q) o 3 = some (z_A.g sn)
        rw [mz_u_ne nox, nw_T2 n2 h1]; exact h4
      · by_cases z : j = i
        · subst z
          rw [if_pos rfl]
          exact ⟨by rw [eA]; exact mz_u_eq, ga_T hrA pA, hrA⟩
        · obtain ⟨w1, w2, w3⟩ := h6 j (by omega)
          rw [if_neg z]
          exact ⟨by show mz_u T2.2 ra i (some q) ra j = _; rw [mz_u_nk z, nw_T2 n2 h2]; exact w1, ga_T w3 (ga_nw n2 w2), w3⟩
      · by_cases z : a = i
        · subst z
          rw [if_pos rfl, if_neg (show ¬ b = a by omega)]
          exact (dj_of (h6 b (by omega)).2.1 n2 (fun _ q => q)).1
        · rw [if_neg z]
          by_cases z2 : b = i
          · subst z2
            rw [if_pos rfl]
            exact (dj_of (h6 a (by omega)).2.1 n2 (fun _ q => q)).2
          · rw [if_neg z2]
            exact h7 a b (by omega) (by omega) hab
      · by_cases z : j = i
        · subst z
          rw [if_pos rfl]
          exact (dj_of h5 n2 (fun _ q => q)).1
        · rw [if_neg z]
          exact h8 j (by omega)
  refine mz_ofl mk_X6_init rfl (Nat.le_of_ble_eq_true rfl) (Nat.le_of_ble_eq_true rfl) [some (.ref o), none] rfl ?_
  refine mz_vc ok_X6_init [26] [(), (), (), (), (), (), (), (), (), (), (), (), (), (), (), (), (), (), (), (), (), (), (), (), (), (), (), (), (), ()] ?_
  simp only [cd_X6_init, List.mem_append, ho, r_rn0, r_rnc, r_vk0, r_vkc, r_vks, r_kci, r_kcv, r_ild, r_ald, r_lld, r_dld, r_Li, r_La, r_Ll, r_Ld, r_Ki, r_Ka, r_Kl, r_Kd, r_Kn, r_ist, r_ast, r_lst, r_dst, r_iinc, r_int, r_lng, r_dbl, r_i2, r_i1, r_l2, r_lsh, r_i2z, r_l2z, r_i2l, r_l2i, r_i2d, r_lcmp, r_ddiv, r_dcmpl, r_dup, r_dup2, r_pop, r_one_int, r_one_ref, r_go, r_if, r_ic, r_tsw, r_lsw, r_sw0, r_swc, r_lk0, r_lkc, r_kp, r_gI, r_gL, r_gR, r_pI, r_pZ, r_pL, r_pR, r_gs, r_ia, r_ca, r_za, r_la, r_da, r_aa, r_ias, r_cas, r_zas, r_las, r_das, r_aas, r_acp, r_new, r_nwa, r_nwq, r_ret, r_irt, r_zrt, r_lrt, r_drt, r_art, r_thr, r_cV0, r_cV1, r_cV2, r_cV3, r_cV4, r_cV5, r_cI0, r_cS0, r_cS1, r_cS2, r_cS3, r_cX0, r_cX1, r_cX2, r_cX3, r_rc, r_oi, r_refx, r_i10, r_i01, r_rfs, r_mem0, r_memc, r_beq, r_kl0, r_klz, r_kl1i, r_kl1r, r_kl1n, r_kl1l, r_kl1d, List.length_cons, List.length_nil, List.getElem?_cons_zero, List.getElem?_cons_succ, List.set_cons_zero, List.set_cons_succ, true_and, and_true, not_true, not_false_eq_true, false_implies, true_implies, or_true, true_or, or_false, false_or, Bool.or_false, Bool.false_or, decide_false, decide_true, Nat.reduceLT, Nat.reduceLeDiff, Nat.reduceAdd, Nat.reduceSub, ↓reduceIte, Nat.reduceEqDiff, Nat.lt_add_one]
  intro ra hra
  have nra : o ≠ ra := hra _ ho
  intro q hq0
  have hq : ∀ x ∈ T.1 ++ [(ra, 6, 6)], x.1 ≠ q := fun x hx => hq0 x (List.mem_append.mp hx)
  have n1 := nw_T (a := o) (f := 0) (v := some ra) (nw_new (x := (6, 6)) (v := 0) (w := 0) hn hra) (by simp)
  have hO1 : (o, 0, 6) ∈ T.1 ++ [(ra, 6, 6)] := List.mem_append_left _ ho
  refine c_X4i (nw_ob (T := (T.1 ++ [(ra, 6, 6)], mz_u (mz_z T.2 ra none) o 0 (some ra))) hq) nw_lst (fun T2 I2 L2 A eA n2 pA _ _ => ?_)
  have hO2 := nw_mem (T0 := (T.1 ++ [(ra, 6, 6)], mz_u (mz_z T.2 ra none) o 0 (some ra))) n2 hO1
  have hR2 := nw_mem (T0 := (T.1 ++ [(ra, 6, 6)], mz_u (mz_z T.2 ra none) o 0 (some ra))) (a := ra) (x := (6, 6)) n2 (List.mem_append_right _ List.mem_cons_self)
  have hrA : ra ∉ z_A.all A := fun e => n2.2.2 _ e (ra, 6, 6) (List.mem_append_right _ List.mem_cons_self) rfl
  have hoA : o ∉ z_A.all A := fun e => n2.2.2 _ e (o, 0, 6) hO1 rfl
  simp only [cd_X6_init, List.mem_append, hO2, r_rn0, r_rnc, r_vk0, r_vkc, r_vks, r_kci, r_kcv, r_ild, r_ald, r_lld, r_dld, r_Li, r_La, r_Ll, r_Ld, r_Ki, r_Ka, r_Kl, r_Kd, r_Kn, r_ist, r_ast, r_lst, r_dst, r_iinc, r_int, r_lng, r_dbl, r_i2, r_i1, r_l2, r_lsh, r_i2z, r_l2z, r_i2l, r_l2i, r_i2d, r_lcmp, r_ddiv, r_dcmpl, r_dup, r_dup2, r_pop, r_one_int, r_one_ref, r_go, r_if, r_ic, r_tsw, r_lsw, r_sw0, r_swc, r_lk0, r_lkc, r_kp, r_gI, r_gL, r_gR, r_pI, r_pZ, r_pL, r_pR, r_gs, r_ia, r_ca, r_za, r_la, r_da, r_aa, r_ias, r_cas, r_zas, r_las, r_das, r_aas, r_acp, r_new, r_nwa, r_nwq, r_ret, r_irt, r_zrt, r_lrt, r_drt, r_art, r_thr, r_cV0, r_cV1, r_cV2, r_cV3, r_cV4, r_cV5, r_cI0, r_cS0, r_cS1, r_cS2, r_cS3, r_cX0, r_cX1, r_cX2, r_cX3, r_rc, r_oi, r_refx, r_i10, r_i01, r_rfs, r_mem0, r_memc, r_beq, r_kl0, r_klz, r_kl1i, r_kl1r, r_kl1n, r_kl1l, r_kl1d, List.length_cons, List.length_nil, List.getElem?_cons_zero, List.getElem?_cons_succ, List.set_cons_zero, List.set_cons_succ, true_and, and_true, not_true, not_false_eq_true, false_implies, true_implies, or_true, true_or, or_false, false_or, Bool.or_false, Bool.false_or, decide_false, decide_true, Nat.reduceLT, Nat.reduceLeDiff, Nat.reduceAdd, Nat.reduceSub, ↓reduceIte, Nat.reduceEqDiff, Nat.lt_add_one]
  refine key ra A nra hrA 6 0 rfl (T2.1, mz_u T2.2 o 3 (some q)) I2 L2 (fun _ => A) ?_ hO2 hR2 ?_ ?_ (ga_T hoA pA) (fun j hj => absurd hj (Nat.not_lt_zero _)) (fun a b ha => absurd ha (Nat.not_lt_zero _)) (fun j hj => absurd hj (Nat.not_lt_zero _)) (fun i => ?_)
  · refine nw_T (nw_sub (nw_tr n1 n2) (fun a ha => ?_)) (by simp)
    simp only [List.mem_cons, List.mem_append, z_rc_mem, List.not_mem_nil, or_false] at ha ⊢
    rcases ha with e | e | e | ⟨j, hj, e⟩
    · exact Or.inl (Or.inr e)
    · exact Or.inl (Or.inl e)
    · exact Or.inr e
    · exact absurd hj (Nat.not_lt_zero _)
  · show mz_u T2.2 o 3 (some q) o 0 = some ra
    rw [mz_u_nk (by decide), nw_T2 n2 hO1]
    exact mz_u_eq
  · show mz_u T2.2 o 3 (some q) o 3 = some (z_A.g A)
    rw [mz_u_eq, eA]
  · rw [nw_I2 n2 hO1]
    exact (congrFun (if_neg nra) i).trans (hz i)
end CON2
