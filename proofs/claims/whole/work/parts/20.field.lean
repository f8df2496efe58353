section TRY
variable {G : mz_G} {K : mz_K} {T : mz_T} {I : mz_I} {L : mz_L}
/-- a field and its row of cells -/
def p_Field (T : mz_T) (f k : Nat) : Prop := (f, 0, 2) ∈ T.1 ∧ (k, 1, 220) ∈ T.1 ∧ T.2 f 0 = some k
def b2i (b : Bool) : Int32 := if b then 1 else 0
def s_filled (g : Nat → Int32) (c r : Int32) : Bool := decide (c < 0) || decide (10 ≤ c) || decide (r < 0) || decide (22 ≤ r) || decide (g (r * 10 + c).toNatClampNeg ≠ -1)
theorem ix_cell {k : Nat} {c r : Int32} (hk : (k, 1, 220) ∈ T.1) (a : ¬ c < 0) (b : ¬ 10 ≤ c) (d : ¬ r < 0) (e : r < 22) : mz_ix T 1 k (r * 10 + c) := by
  obtain ⟨i, hi, rfl⟩ := nI_of a
  obtain ⟨j, hj, rfl⟩ := nI_of d
  have hi2 : i < 10 := by
    by_cases h : i < 10
    · exact h
    · exact absurd (show nI 10 ≤ nI i from nI_le (by omega) hi) b
  have hj2 : j < 22 := by
    by_cases h : j < 22
    · exact h
    · exact absurd (show nI j < nI 22 from e) (nI_nlt (by omega) hj)
  refine ⟨220, hk, ?_⟩
  rw [show (10 : Int32) = nI 10 from rfl, pk_mul, nI_add]
  exact vp_in_nI (by omega) (by decide)
theorem c_isFilled {f k : Nat} {c r : Int32} (hf : p_Field T f k) (h : K (some (.int (b2i (s_filled (I k) c r)))) T I L) : mz_Ctr G M_X2_isFilled [.ref f, .int c, .int r] T I L K := by
  refine mz_ofl mk_X2_isFilled rfl (Nat.le_of_ble_eq_true rfl) (Nat.le_of_ble_eq_true rfl) [some (.ref f), some (.int c), some (.int r), none] rfl ?_
  refine mz_vc ok_X2_isFilled [] [(), (), (), (), (), (), (), (), (), (), (), ()] ?_
  obtain ⟨h1, h2, h3⟩ := hf
  simp only [cd_X2_isFilled, h1, h3, r_rn0, r_rnc, r_vk0, r_vkc, r_vks, r_kci, r_kcv, r_ild, r_ald, r_lld, r_dld, r_Li, r_La, r_Ll, r_Ld, r_Ki, r_Ka, r_Kl, r_Kd, r_Kn, r_ist, r_ast, r_lst, r_dst, r_iinc, r_int, r_lng, r_dbl, r_i2, r_i1, r_l2, r_lsh, r_i2z, r_l2z, r_i2l, r_l2i, r_i2d, r_lcmp, r_ddiv, r_dcmpl, r_dup, r_dup2, r_pop, r_one_int, r_one_ref, r_go, r_if, r_ic, r_tsw, r_lsw, r_sw0, r_swc, r_lk0, r_lkc, r_kp, r_gI, r_gL, r_gR, r_pI, r_pZ, r_pL, r_pR, r_gs, r_ia, r_ca, r_za, r_la, r_da, r_aa, r_ias, r_cas, r_zas, r_las, r_das, r_aas, r_acp, r_new, r_nwa, r_nwq, r_ret, r_irt, r_zrt, r_lrt, r_drt, r_art, r_thr, r_cV0, r_cV1, r_cV2, r_cV3, r_cV4, r_cV5, r_cI0, r_cS0, r_cS1, r_cS2, r_cS3, r_cX0, r_cX1, r_cX2, r_cX3, r_rc, r_oi, r_refx, r_i10, r_i01, r_rfs, r_mem0, r_memc, r_beq, r_kl0, r_klz, r_kl1i, r_kl1r, r_kl1n, r_kl1l, r_kl1d, List.length_cons, List.length_nil, List.getElem?_cons_zero, List.getElem?_cons_succ, List.set_cons_zero, List.set_cons_succ, true_and, and_true, not_true, not_false_eq_true, false_implies, true_implies, or_true, true_or, or_false, false_or, Bool.or_false, Bool.false_or, decide_false, decide_true, Nat.reduceLT, Nat.reduceLeDiff, Nat.reduceAdd, Nat.reduceSub, ↓reduceIte, Nat.reduceEqDiff, Nat.lt_add_one]
  refine ⟨fun a => ?_, fun a => ⟨fun b => ?_, fun b => ⟨fun d => ?_, fun d => ⟨fun e => ⟨?_, fun x => ?_, fun x => ?_⟩, fun e => ?_⟩⟩⟩⟩
  · simpa [b2i, s_filled, a] using h
  · simpa [b2i, s_filled, a, b] using h
  · simpa [b2i, s_filled, a, b, d] using h
  · exact ix_cell h2 a b d e
  · simpa [b2i, s_filled, a, b, d, e, x, Int32.not_le.mpr e] using h
  · simpa [b2i, s_filled, a, b, d, e, x, Int32.not_le.mpr e] using h
  · simpa [b2i, s_filled, a, b, d, e, Int32.not_lt.mp e] using h
end TRY
