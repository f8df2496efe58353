/-! long numbers, bits, and the bags -/
section LNum
def zL (x : Int) : Int64 := Int64.ofInt x
theorem w_add (a b : Int) : zL a + zL b = zL (a + b) := (Int64.ofInt_add a b).symm
theorem w_sub (a b : Int) : zL a - zL b = zL (a - b) := (Int64.ofInt_sub a b).symm
theorem w_mul (a b : Int) : zL a * zL b = zL (a * b) := (Int64.ofInt_mul a b).symm
theorem w_32 (a : Int) : (zL a).toInt32 = zI a := Int64.toInt32_ofInt
theorem w_64 {a : Int} (h : -1073741824 ≤ a ∧ a < 2147483648) : (zI a).toInt64 = zL a :=
  Int32.toInt64_ofInt (by have : Int32.minValue.toInt = -2147483648 := rfl
                          omega) (by have : Int32.maxValue.toInt = 2147483647 := rfl
                                     omega)
theorem w_toInt {a : Int} (h : -4611686018427387904 ≤ a ∧ a < 4611686018427387904) : (zL a).toInt = a := by
  unfold zL
  rw [Int64.toInt_ofInt]
  exact Int.bmod_eq_of_le (by have : (Int64.size : Int) = 18446744073709551616 := rfl
                              omega) (by have : (Int64.size : Int) = 18446744073709551616 := rfl
                                         omega)
theorem w_div {a b : Int} (ha : 0 ≤ a ∧ a < 4611686018427387904) (hb : 0 < b ∧ b < 4611686018427387904) : zL a / zL b = zL (a / b) := by
  have m1 : Int64.minValue.toInt = -9223372036854775808 := rfl
  have m2 : Int64.maxValue.toInt = 9223372036854775807 := rfl
  unfold zL
  rw [← Int64.ofInt_tdiv (by omega) (by omega) (by omega) (by omega), Int.tdiv_eq_ediv_of_nonneg ha.1]
theorem w_mod {a b : Int} (ha : 0 ≤ a ∧ a < 4611686018427387904) (hb : 0 < b ∧ b < 4611686018427387904) : zL a - zL a / zL b * zL b = zL (a % b) := by
  rw [w_div ha hb, w_mul, w_sub]
  congr 1
  have := Int.mul_ediv_add_emod a b
  have e : b * (a / b) = a / b * b := Int.mul_comm _ _
  omega
theorem w_and {n : Nat} (h : n < 4611686018427387904) : zL n &&& 2147483647 = zL ((n % 2147483648 : Nat) : Int) := by
  apply Int64.toBitVec_inj.mp
  rw [Int64.toBitVec_and]
  apply BitVec.eq_of_toNat_eq
  rw [BitVec.toNat_and]
  have e1 : ∀ m : Nat, m < 4611686018427387904 → (zL (m : Int)).toBitVec.toNat = m := by
    intro m hm
    show (BitVec.ofInt 64 (m : Int)).toNat = m
    rw [BitVec.ofInt_natCast, BitVec.toNat_ofNat]
    exact Nat.mod_eq_of_lt (by omega)
  rw [e1 n h, e1 _ (by omega)]
  have e2 : (2147483647 : Int64).toBitVec.toNat = 2 ^ 31 - 1 := by decide
  rw [e2, Nat.and_two_pow_sub_one_eq_mod]
end LNum
/-! drawing -/
theorem q_zE : ∃ f : Nat → Nat, ∀ z, f z = (z * 1103515245 + 12345) % 2147483648 := ⟨fun z => (z * 1103515245 + 12345) % 2147483648, fun _ => rfl⟩
noncomputable def q_z : Nat → Nat := Classical.choose q_zE
theorem q_z_eq (z : Nat) : q_z z = (z * 1103515245 + 12345) % 2147483648 := Classical.choose_spec q_zE z
theorem q_z_lt (z : Nat) : q_z z < 2147483648 := by rw [q_z_eq]; omega
def q_pc (b : Nat) : Nat := b % 2 + b / 2 % 2 + b / 4 % 2 + b / 8 % 2 + b / 16 % 2 + b / 32 % 2 + b / 64 % 2
def q_sel (b : Nat) : Nat → Nat → Nat → Nat
  | 0, _, _ => 7
  | f + 1, k, i => if b / 2 ^ k % 2 = 1 then (if i = 0 then k else q_sel b f (k + 1) (i - 1)) else q_sel b f (k + 1) i
def q_b0 (b : Nat) : Nat := if b = 0 then 127 else b
/-- a state (number, bag): the kind that is drawn of it, and the state behind -/
noncomputable def q_kd (s : Nat × Nat) : Nat := q_sel (q_b0 s.2) 7 0 (q_z s.1 / 65536 % q_pc (q_b0 s.2))
noncomputable def q_nx (s : Nat × Nat) : Nat × Nat := (q_z s.1, q_b0 s.2 - 2 ^ q_kd s)
noncomputable def q_st : Nat → Nat × Nat → Nat × Nat
  | 0, s => s
  | n + 1, s => q_st n (q_nx s)
def q_ok (s : Nat × Nat) : Prop := s.1 < 2147483648 ∧ s.2 < 128
theorem q_fin : ∀ b, b < 128 → b ≠ 0 → 0 < q_pc b ∧ q_pc b ≤ 7 ∧ ∀ i, i < q_pc b → q_sel b 7 0 i < 7 ∧ b / 2 ^ q_sel b 7 0 i % 2 = 1 := by decide +kernel
theorem q_b0_ok {b : Nat} (h : b < 128) : q_b0 b < 128 ∧ q_b0 b ≠ 0 := by unfold q_b0; split <;> omega
theorem q_kd_lt {s : Nat × Nat} (h : q_ok s) : q_kd s < 7 := by
  have h0 := q_b0_ok h.2
  have h1 := q_fin _ h0.1 h0.2
  exact (h1.2.2 _ (Nat.mod_lt _ h1.1)).1
theorem q_nx_ok {s : Nat × Nat} (h : q_ok s) : q_ok (q_nx s) := by
  refine ⟨q_z_lt _, ?_⟩
  have h0 := q_b0_ok h.2
  show q_b0 s.2 - 2 ^ q_kd s < 128
  generalize 2 ^ q_kd s = m
  omega
theorem q_st_0 (s : Nat × Nat) : q_st 0 s = s := by rw [q_st]
theorem q_st_1 (n : Nat) (s : Nat × Nat) : q_st (n + 1) s = q_st n (q_nx s) := by rw [q_st]
theorem q_st_ok (n : Nat) : ∀ s : Nat × Nat, q_ok s → q_ok (q_st n s) := by
  induction n with
  | zero => intro s h; rw [q_st_0]; exact h
  | succ n ih => intro s h; rw [q_st_1]; exact ih _ (q_nx_ok h)
theorem q_st_s (n : Nat) : ∀ s : Nat × Nat, q_st (n + 1) s = q_nx (q_st n s) := by
  induction n with
  | zero => intro s; rw [q_st_1, q_st_0, q_st_0]
  | succ n ih => intro s; rw [q_st_1, ih, ← q_st_1]
theorem q_bit : ∀ b : Nat, b < 128 → ∀ k : Nat, k < 7 → (zI b >>> (zI k &&& 31)) &&& 1 = zI (b / 2 ^ k % 2 : Nat) ∧ zI b - (1 <<< (zI k &&& 31)) = zI ((b : Int) - 2 ^ k) ∧ (1 <<< (zI k &&& 31) : Int32) = zI (2 ^ k : Nat) := by decide +kernel
section BAGS
variable {G : mz_G} {K : mz_K} {T : mz_T} {I : mz_I} {L : mz_L}
theorem c_bits {b : Nat} (hb : b < 128) (h : K (some (.int (zI (q_pc b)))) T I L) : mz_Ctr G M_J6_bitCount_0f7a4 [.int (zI b)] T I L K := by
  refine mz_ofl mk_J6_bitCount_0f7a4 rfl (Nat.le_of_ble_eq_true rfl) (Nat.le_of_ble_eq_true rfl) [some (.int (zI b))] rfl ?_
  refine mz_vc ok_J6_bitCount_0f7a4 [] [(), (), (), (), (), (), (), (), (), (), (), (), (), (), (), (), (), (), (), (), (), (), (), (), (), (), (), (), (), ()] ?_
  simp only [cd_J6_bitCount_0f7a4, r_rn0, r_rnc, r_vk0, r_vkc, r_vks, r_kci, r_kcv, r_ild, r_ald, r_lld, r_dld, r_Li, r_La, r_Ll, r_Ld, r_Ki, r_Ka, r_Kl, r_Kd, r_Kn, r_ist, r_ast, r_lst, r_dst, r_iinc, r_int, r_lng, r_dbl, r_i2, r_i1, r_l2, r_lsh, r_i2z, r_l2z, r_i2l, r_l2i, r_i2d, r_lcmp, r_ddiv, r_dcmpl, r_dup, r_dup2, r_pop, r_one_int, r_one_ref, r_go, r_if, r_ic, r_tsw, r_lsw, r_sw0, r_swc, r_lk0, r_lkc, r_kp, r_gI, r_gL, r_gR, r_pI, r_pZ, r_pL, r_pR, r_gs, r_ia, r_ca, r_za, r_la, r_da, r_aa, r_ias, r_cas, r_zas, r_las, r_das, r_aas, r_acp, r_new, r_nwa, r_nwq, r_ret, r_irt, r_zrt, r_lrt, r_drt, r_art, r_thr, r_cV0, r_cV1, r_cV2, r_cV3, r_cV4, r_cV5, r_cI0, r_cS0, r_cS1, r_cS2, r_cS3, r_cX0, r_cX1, r_cX2, r_cX3, r_rc, r_oi, r_refx, r_i10, r_i01, r_rfs, r_mem0, r_memc, r_beq, r_kl0, r_klz, r_kl1i, r_kl1r, r_kl1n, r_kl1l, r_kl1d, List.length_cons, List.length_nil, List.getElem?_cons_zero, List.getElem?_cons_succ, List.set_cons_zero, List.set_cons_succ, true_and, and_true, not_true, not_false_eq_true, false_implies, true_implies, or_true, true_or, or_false, false_or, Bool.or_false, Bool.false_or, decide_false, decide_true, Nat.reduceLT, Nat.reduceLeDiff, Nat.reduceAdd, Nat.reduceSub, ↓reduceIte, Nat.reduceEqDiff, Nat.lt_add_one]
  refine Eq.mp (congrArg (fun v => K (some (.int v)) T I L) ?_) h
  clear h
  revert b
  decide +kernel
theorem c_fmod {x y : Nat} (hx : x < 1073741824) (hy : 0 < y ∧ y < 1073741824) (h : K (some (.int (zI (x % y : Nat)))) T I L) : mz_Ctr G M_J9_floorMod_7cf53 [.int (zI x), .int (zI y)] T I L K := by
  refine mz_ofl mk_J9_floorMod_7cf53 rfl (Nat.le_of_ble_eq_true rfl) (Nat.le_of_ble_eq_true rfl) [some (.int (zI x)), some (.int (zI y)), none] rfl ?_
  refine mz_vc ok_J9_floorMod_7cf53 [] [(), (), (), (), (), (), (), (), (), (), (), (), (), (), (), (), (), (), (), (), (), (), (), (), (), (), (), (), (), ()] ?_
  simp only [cd_J9_floorMod_7cf53, r_rn0, r_rnc, r_vk0, r_vkc, r_vks, r_kci, r_kcv, r_ild, r_ald, r_lld, r_dld, r_Li, r_La, r_Ll, r_Ld, r_Ki, r_Ka, r_Kl, r_Kd, r_Kn, r_ist, r_ast, r_lst, r_dst, r_iinc, r_int, r_lng, r_dbl, r_i2, r_i1, r_l2, r_lsh, r_i2z, r_l2z, r_i2l, r_l2i, r_i2d, r_lcmp, r_ddiv, r_dcmpl, r_dup, r_dup2, r_pop, r_one_int, r_one_ref, r_go, r_if, r_ic, r_tsw, r_lsw, r_sw0, r_swc, r_lk0, r_lkc, r_kp, r_gI, r_gL, r_gR, r_pI, r_pZ, r_pL, r_pR, r_gs, r_ia, r_ca, r_za, r_la, r_da, r_aa, r_ias, r_cas, r_zas, r_las, r_das, r_aas, r_acp, r_new, r_nwa, r_nwq, r_ret, r_irt, r_zrt, r_lrt, r_drt, r_art, r_thr, r_cV0, r_cV1, r_cV2, r_cV3, r_cV4, r_cV5, r_cI0, r_cS0, r_cS1, r_cS2, r_cS3, r_cX0, r_cX1, r_cX2, r_cX3, r_rc, r_oi, r_refx, r_i10, r_i01, r_rfs, r_mem0, r_memc, r_beq, r_kl0, r_klz, r_kl1i, r_kl1r, r_kl1n, r_kl1l, r_kl1d, List.length_cons, List.length_nil, List.getElem?_cons_zero, List.getElem?_cons_succ, List.set_cons_zero, List.set_cons_succ, true_and, and_true, not_true, not_false_eq_true, false_implies, true_implies, or_true, true_or, or_false, false_or, Bool.or_false, Bool.false_or, decide_false, decide_true, Nat.reduceLT, Nat.reduceLeDiff, Nat.reduceAdd, Nat.reduceSub, ↓reduceIte, Nat.reduceEqDiff, Nat.lt_add_one]
  have hm : x % y < y := Nat.mod_lt _ hy.1
  have e : zI (x : Int) - zI x / zI y * zI y = zI (x % y : Nat) := by rw [z_mod (by omega) (by omega)]; rfl
  rw [e, l_0, z_eq (by omega) (by omega)]
  refine ⟨by omega, fun _ => h, fun q => ⟨fun _ => h, fun q2 => absurd ?_ q⟩⟩
  have m1 : ∀ n : Nat, n < 1073741824 → (zI (n : Int)).toBitVec.msb = false := by
    intro n hn
    rw [BitVec.msb_eq_toInt]
    have := z_toInt (a := n) (by omega)
    have e2 : (zI (n : Int)).toBitVec.toInt = n := this
    rw [e2]
    exact decide_eq_false (by omega)
  rw [Int32.le_iff_toInt_le]
  have m2 : (zI (x : Int) ^^^ zI (y : Int)).toBitVec.msb = false := by
    rw [Int32.toBitVec_xor, BitVec.msb_xor, m1 x hx, m1 y hy.2]; rfl
  rw [BitVec.msb_eq_toInt] at m2
  have m3 := of_decide_eq_false m2
  show (0 : Int) ≤ (zI (x : Int) ^^^ zI (y : Int)).toBitVec.toInt
  omega
theorem c_fmodm (h : K (some (.int (zI 5))) T I L) : mz_Ctr G M_J9_floorMod_7cf53 [.int (zI (-1)), .int (zI 6)] T I L K := by
  refine mz_ofl mk_J9_floorMod_7cf53 rfl (Nat.le_of_ble_eq_true rfl) (Nat.le_of_ble_eq_true rfl) [some (.int (zI (-1))), some (.int (zI 6)), none] rfl ?_
  refine mz_vc ok_J9_floorMod_7cf53 [] [(), (), (), (), (), (), (), (), (), (), (), (), (), (), (), (), (), (), (), (), (), (), (), (), (), (), (), (), (), ()] ?_
  simp only [cd_J9_floorMod_7cf53, r_rn0, r_rnc, r_vk0, r_vkc, r_vks, r_kci, r_kcv, r_ild, r_ald, r_lld, r_dld, r_Li, r_La, r_Ll, r_Ld, r_Ki, r_Ka, r_Kl, r_Kd, r_Kn, r_ist, r_ast, r_lst, r_dst, r_iinc, r_int, r_lng, r_dbl, r_i2, r_i1, r_l2, r_lsh, r_i2z, r_l2z, r_i2l, r_l2i, r_i2d, r_lcmp, r_ddiv, r_dcmpl, r_dup, r_dup2, r_pop, r_one_int, r_one_ref, r_go, r_if, r_ic, r_tsw, r_lsw, r_sw0, r_swc, r_lk0, r_lkc, r_kp, r_gI, r_gL, r_gR, r_pI, r_pZ, r_pL, r_pR, r_gs, r_ia, r_ca, r_za, r_la, r_da, r_aa, r_ias, r_cas, r_zas, r_las, r_das, r_aas, r_acp, r_new, r_nwa, r_nwq, r_ret, r_irt, r_zrt, r_lrt, r_drt, r_art, r_thr, r_cV0, r_cV1, r_cV2, r_cV3, r_cV4, r_cV5, r_cI0, r_cS0, r_cS1, r_cS2, r_cS3, r_cX0, r_cX1, r_cX2, r_cX3, r_rc, r_oi, r_refx, r_i10, r_i01, r_rfs, r_mem0, r_memc, r_beq, r_kl0, r_klz, r_kl1i, r_kl1r, r_kl1n, r_kl1l, r_kl1d, List.length_cons, List.length_nil, List.getElem?_cons_zero, List.getElem?_cons_succ, List.set_cons_zero, List.set_cons_succ, true_and, and_true, not_true, not_false_eq_true, false_implies, true_implies, or_true, true_or, or_false, false_or, Bool.or_false, Bool.false_or, decide_false, decide_true, Nat.reduceLT, Nat.reduceLeDiff, Nat.reduceAdd, Nat.reduceSub, ↓reduceIte, Nat.reduceEqDiff, Nat.lt_add_one]
  refine ⟨by decide, fun q => absurd q (by decide), fun _ => ⟨fun q => absurd q (by decide), fun _ => ?_⟩⟩
  refine Eq.mp (congrArg (fun v => K (some (.int v)) T I L) ?_) h
  decide +kernel
/-- the remainder of a number from -1 on -/
theorem c_fmod6 {x : Int} {y : Nat} (hx : -1 ≤ x ∧ x < 1000) (hy : x % 6 = y) (h : K (some (.int (zI y))) T I L) : mz_Ctr G M_J9_floorMod_7cf53 [.int (zI x), .int (zI 6)] T I L K := by
  by_cases c : x = -1
  · subst c
    have : y = 5 := by omega
    subst this
    exact c_fmodm h
  · obtain ⟨n, rfl⟩ := Int.eq_ofNat_of_zero_le (show 0 ≤ x by omega)
    refine c_fmod (x := n) (y := 6) (by omega) (by decide) ?_
    rw [show n % 6 = y by omega]
    exact h
/-- the bags and their preview, and the state that the preview begins at -/
def p_Bags (T : mz_T) (I : mz_I) (L : mz_L) (b v : Nat) (s : Nat × Nat) : Prop := ((b, 0, 0) ∈ T.1 ∧ (v, 1, 5) ∈ T.1 ∧ T.2 b 0 = some v) ∧ (∀ i, i < 5 → I v i = zI (q_kd (q_st i s))) ∧ L b 1 = zL (q_st 5 s).1 ∧ I b 2 = zI (q_st 5 s).2 ∧ q_ok s
theorem c_draw {b : Nat} {s : Nat × Nat} (h1 : (b, 0, 0) ∈ T.1) (hz : L b 1 = zL s.1) (hb : I b 2 = zI s.2) (hok : q_ok s)
    (h : ∀ I' L', fr I I' [b] → fr L L' [b] → I' b 2 = zI (q_nx s).2 → L' b 1 = zL (q_nx s).1 → K (some (.int (zI (q_kd s)))) T I' L') : mz_Ctr G M_X0_draw [.ref b] T I L K := by
  refine mz_ofl mk_X0_draw rfl (Nat.le_of_ble_eq_true rfl) (Nat.le_of_ble_eq_true rfl) [some (.ref b), none, none, none] rfl ?_
  have h0 := q_b0_ok hok.2
  have h9 := q_fin _ h0.1 h0.2
  have h8 := h9.2.2 _ (Nat.mod_lt (q_z s.1 / 65536) h9.1)
  have hz9 := q_z_lt s.1
  have key := mz_loop (N := 7) (fun n => ∀ i : Nat, i < 10 → q_kd s = q_sel (q_b0 s.2) (7 - n) n i → ∀ I' L', fr I I' [b] → fr L L' [b] → I' b 2 = zI (q_b0 s.2) → L' b 1 = zL (q_z s.1) → mz_W G M_X0_draw K mz_nX 55 [some (.ref b), some (.int (zI i)), some (.int (zI n)), none] [] T I' L' (0, 0)) ?_ ?_ 0 (Nat.zero_le _)
  · have go : ∀ I', fr I I' [b] → I' b 2 = zI (q_b0 s.2) → mz_W G M_X0_draw K mz_nX 13 [some (.ref b), none, none, none] [] T I' L (0, 0) := by
      intro I' hf' hb'
      refine mz_vc ok_X0_draw [55] [(), (), (), (), (), (), (), (), (), (), (), (), (), (), (), (), (), (), (), (), (), (), (), (), (), (), (), (), (), ()] ?_
      simp only [cd_X0_draw, h1, r_rn0, r_rnc, r_vk0, r_vkc, r_vks, r_kci, r_kcv, r_ild, r_ald, r_lld, r_dld, r_Li, r_La, r_Ll, r_Ld, r_Ki, r_Ka, r_Kl, r_Kd, r_Kn, r_ist, r_ast, r_lst, r_dst, r_iinc, r_int, r_lng, r_dbl, r_i2, r_i1, r_l2, r_lsh, r_i2z, r_l2z, r_i2l, r_l2i, r_i2d, r_lcmp, r_ddiv, r_dcmpl, r_dup, r_dup2, r_pop, r_one_int, r_one_ref, r_go, r_if, r_ic, r_tsw, r_lsw, r_sw0, r_swc, r_lk0, r_lkc, r_kp, r_gI, r_gL, r_gR, r_pI, r_pZ, r_pL, r_pR, r_gs, r_ia, r_ca, r_za, r_la, r_da, r_aa, r_ias, r_cas, r_zas, r_las, r_das, r_aas, r_acp, r_new, r_nwa, r_nwq, r_ret, r_irt, r_zrt, r_lrt, r_drt, r_art, r_thr, r_cV0, r_cV1, r_cV2, r_cV3, r_cV4, r_cV5, r_cI0, r_cS0, r_cS1, r_cS2, r_cS3, r_cX0, r_cX1, r_cX2, r_cX3, r_rc, r_oi, r_refx, r_i10, r_i01, r_rfs, r_mem0, r_memc, r_beq, r_kl0, r_klz, r_kl1i, r_kl1r, r_kl1n, r_kl1l, r_kl1d, List.length_cons, List.length_nil, List.getElem?_cons_zero, List.getElem?_cons_succ, List.set_cons_zero, List.set_cons_succ, true_and, and_true, not_true, not_false_eq_true, false_implies, true_implies, or_true, true_or, or_false, false_or, Bool.or_false, Bool.false_or, decide_false, decide_true, Nat.reduceLT, Nat.reduceLeDiff, Nat.reduceAdd, Nat.reduceSub, ↓reduceIte, Nat.reduceEqDiff, Nat.lt_add_one]
      rw [hb', hz, mz_u_eq]
      have ez : zL (s.1 : Int) * 1103515245 + 12345 &&& 2147483647 = zL (q_z s.1) := by
        rw [show (1103515245 : Int64) = zL 1103515245 from rfl, show (12345 : Int64) = zL 12345 from rfl, w_mul, w_add, q_z_eq]
        exact w_and (n := s.1 * 1103515245 + 12345) (by have := hok.1; omega)
      rw [ez, show (65536 : Int64) = zL 65536 from rfl, w_div (by omega) (by omega), w_32]
      refine ⟨by decide, c_bits h0.1 ?_⟩
      simp only [cd_X0_draw, h1, r_rn0, r_rnc, r_vk0, r_vkc, r_vks, r_kci, r_kcv, r_ild, r_ald, r_lld, r_dld, r_Li, r_La, r_Ll, r_Ld, r_Ki, r_Ka, r_Kl, r_Kd, r_Kn, r_ist, r_ast, r_lst, r_dst, r_iinc, r_int, r_lng, r_dbl, r_i2, r_i1, r_l2, r_lsh, r_i2z, r_l2z, r_i2l, r_l2i, r_i2d, r_lcmp, r_ddiv, r_dcmpl, r_dup, r_dup2, r_pop, r_one_int, r_one_ref, r_go, r_if, r_ic, r_tsw, r_lsw, r_sw0, r_swc, r_lk0, r_lkc, r_kp, r_gI, r_gL, r_gR, r_pI, r_pZ, r_pL, r_pR, r_gs, r_ia, r_ca, r_za, r_la, r_da, r_aa, r_ias, r_cas, r_zas, r_las, r_das, r_aas, r_acp, r_new, r_nwa, r_nwq, r_ret, r_irt, r_zrt, r_lrt, r_drt, r_art, r_thr, r_cV0, r_cV1, r_cV2, r_cV3, r_cV4, r_cV5, r_cI0, r_cS0, r_cS1, r_cS2, r_cS3, r_cX0, r_cX1, r_cX2, r_cX3, r_rc, r_oi, r_refx, r_i10, r_i01, r_rfs, r_mem0, r_memc, r_beq, r_kl0, r_klz, r_kl1i, r_kl1r, r_kl1n, r_kl1l, r_kl1d, List.length_cons, List.length_nil, List.getElem?_cons_zero, List.getElem?_cons_succ, List.set_cons_zero, List.set_cons_succ, true_and, and_true, not_true, not_false_eq_true, false_implies, true_implies, or_true, true_or, or_false, false_or, Bool.or_false, Bool.false_or, decide_false, decide_true, Nat.reduceLT, Nat.reduceLeDiff, Nat.reduceAdd, Nat.reduceSub, ↓reduceIte, Nat.reduceEqDiff, Nat.lt_add_one]
      refine c_fmod (x := q_z s.1 / 65536) (by omega) (by omega) ?_
      simp only [cd_X0_draw, h1, r_rn0, r_rnc, r_vk0, r_vkc, r_vks, r_kci, r_kcv, r_ild, r_ald, r_lld, r_dld, r_Li, r_La, r_Ll, r_Ld, r_Ki, r_Ka, r_Kl, r_Kd, r_Kn, r_ist, r_ast, r_lst, r_dst, r_iinc, r_int, r_lng, r_dbl, r_i2, r_i1, r_l2, r_lsh, r_i2z, r_l2z, r_i2l, r_l2i, r_i2d, r_lcmp, r_ddiv, r_dcmpl, r_dup, r_dup2, r_pop, r_one_int, r_one_ref, r_go, r_if, r_ic, r_tsw, r_lsw, r_sw0, r_swc, r_lk0, r_lkc, r_kp, r_gI, r_gL, r_gR, r_pI, r_pZ, r_pL, r_pR, r_gs, r_ia, r_ca, r_za, r_la, r_da, r_aa, r_ias, r_cas, r_zas, r_las, r_das, r_aas, r_acp, r_new, r_nwa, r_nwq, r_ret, r_irt, r_zrt, r_lrt, r_drt, r_art, r_thr, r_cV0, r_cV1, r_cV2, r_cV3, r_cV4, r_cV5, r_cI0, r_cS0, r_cS1, r_cS2, r_cS3, r_cX0, r_cX1, r_cX2, r_cX3, r_rc, r_oi, r_refx, r_i10, r_i01, r_rfs, r_mem0, r_memc, r_beq, r_kl0, r_klz, r_kl1i, r_kl1r, r_kl1n, r_kl1l, r_kl1d, List.length_cons, List.length_nil, List.getElem?_cons_zero, List.getElem?_cons_succ, List.set_cons_zero, List.set_cons_succ, true_and, and_true, not_true, not_false_eq_true, false_implies, true_implies, or_true, true_or, or_false, false_or, Bool.or_false, Bool.false_or, decide_false, decide_true, Nat.reduceLT, Nat.reduceLeDiff, Nat.reduceAdd, Nat.reduceSub, ↓reduceIte, Nat.reduceEqDiff, Nat.lt_add_one]
      exact key _ (by have := Nat.mod_lt (q_z s.1 / 65536) h9.1; omega) rfl I' _ hf' fr_u hb' mz_u_eq
    refine mz_vc ok_X0_draw [13, 55] [(), (), (), (), (), (), (), (), (), (), (), (), (), (), (), (), (), (), (), (), (), (), (), (), (), (), (), (), (), ()] ?_
    simp only [cd_X0_draw, h1, hb, r_rn0, r_rnc, r_vk0, r_vkc, r_vks, r_kci, r_kcv, r_ild, r_ald, r_lld, r_dld, r_Li, r_La, r_Ll, r_Ld, r_Ki, r_Ka, r_Kl, r_Kd, r_Kn, r_ist, r_ast, r_lst, r_dst, r_iinc, r_int, r_lng, r_dbl, r_i2, r_i1, r_l2, r_lsh, r_i2z, r_l2z, r_i2l, r_l2i, r_i2d, r_lcmp, r_ddiv, r_dcmpl, r_dup, r_dup2, r_pop, r_one_int, r_one_ref, r_go, r_if, r_ic, r_tsw, r_lsw, r_sw0, r_swc, r_lk0, r_lkc, r_kp, r_gI, r_gL, r_gR, r_pI, r_pZ, r_pL, r_pR, r_gs, r_ia, r_ca, r_za, r_la, r_da, r_aa, r_ias, r_cas, r_zas, r_las, r_das, r_aas, r_acp, r_new, r_nwa, r_nwq, r_ret, r_irt, r_zrt, r_lrt, r_drt, r_art, r_thr, r_cV0, r_cV1, r_cV2, r_cV3, r_cV4, r_cV5, r_cI0, r_cS0, r_cS1, r_cS2, r_cS3, r_cX0, r_cX1, r_cX2, r_cX3, r_rc, r_oi, r_refx, r_i10, r_i01, r_rfs, r_mem0, r_memc, r_beq, r_kl0, r_klz, r_kl1i, r_kl1r, r_kl1n, r_kl1l, r_kl1d, List.length_cons, List.length_nil, List.getElem?_cons_zero, List.getElem?_cons_succ, List.set_cons_zero, List.set_cons_succ, true_and, and_true, not_true, not_false_eq_true, false_implies, true_implies, or_true, true_or, or_false, false_or, Bool.or_false, Bool.false_or, decide_false, decide_true, Nat.reduceLT, Nat.reduceLeDiff, Nat.reduceAdd, Nat.reduceSub, ↓reduceIte, Nat.reduceEqDiff, Nat.lt_add_one]
    have h2 := hok.2
    rw [l_0, z_eq (by omega) (by omega)]
    refine ⟨fun q => go I fr_refl ?_, fun q => go _ fr_u ?_⟩
    · rw [hb]; unfold q_b0; rw [if_neg (by omega)]
    · rw [mz_u_eq]; unfold q_b0; rw [if_pos (by omega)]; rfl
  · intro i hi he
    have := h8.1
    rw [show q_sel (q_b0 s.2) (7 - 7) 7 i = 7 from rfl] at he
    unfold q_kd at he; omega
  · intro n hn ih i hi he I' L' hf' hl' hb' hz'
    refine mz_vc ok_X0_draw [55] [(), (), (), (), (), (), (), (), (), (), (), (), (), (), (), (), (), (), (), (), (), (), (), (), (), (), (), (), (), ()] ?_
    simp only [cd_X0_draw, h1, hb', r_rn0, r_rnc, r_vk0, r_vkc, r_vks, r_kci, r_kcv, r_ild, r_ald, r_lld, r_dld, r_Li, r_La, r_Ll, r_Ld, r_Ki, r_Ka, r_Kl, r_Kd, r_Kn, r_ist, r_ast, r_lst, r_dst, r_iinc, r_int, r_lng, r_dbl, r_i2, r_i1, r_l2, r_lsh, r_i2z, r_l2z, r_i2l, r_l2i, r_i2d, r_lcmp, r_ddiv, r_dcmpl, r_dup, r_dup2, r_pop, r_one_int, r_one_ref, r_go, r_if, r_ic, r_tsw, r_lsw, r_sw0, r_swc, r_lk0, r_lkc, r_kp, r_gI, r_gL, r_gR, r_pI, r_pZ, r_pL, r_pR, r_gs, r_ia, r_ca, r_za, r_la, r_da, r_aa, r_ias, r_cas, r_zas, r_las, r_das, r_aas, r_acp, r_new, r_nwa, r_nwq, r_ret, r_irt, r_zrt, r_lrt, r_drt, r_art, r_thr, r_cV0, r_cV1, r_cV2, r_cV3, r_cV4, r_cV5, r_cI0, r_cS0, r_cS1, r_cS2, r_cS3, r_cX0, r_cX1, r_cX2, r_cX3, r_rc, r_oi, r_refx, r_i10, r_i01, r_rfs, r_mem0, r_memc, r_beq, r_kl0, r_klz, r_kl1i, r_kl1r, r_kl1n, r_kl1l, r_kl1d, List.length_cons, List.length_nil, List.getElem?_cons_zero, List.getElem?_cons_succ, List.set_cons_zero, List.set_cons_succ, true_and, and_true, not_true, not_false_eq_true, false_implies, true_implies, or_true, true_or, or_false, false_or, Bool.or_false, Bool.false_or, decide_false, decide_true, Nat.reduceLT, Nat.reduceLeDiff, Nat.reduceAdd, Nat.reduceSub, ↓reduceIte, Nat.reduceEqDiff, Nat.lt_add_one]
    have hb9 := q_bit _ h0.1 n hn
    rw [hb9.1, hb9.2.1, z_1, l_m1, l_1, l_0, z_add, z_eq (by omega) (by omega), z_eq (by omega) (by omega)]
    obtain ⟨m, hm⟩ : ∃ m, 7 - n = m + 1 := ⟨6 - n, by omega⟩
    have hm2 : 7 - (n + 1) = m := by omega
    rw [hm] at he
    rw [hm2] at ih
    have he2 : q_kd s = if q_b0 s.2 / 2 ^ n % 2 = 1 then (if i = 0 then n else q_sel (q_b0 s.2) m (n + 1) (i - 1)) else q_sel (q_b0 s.2) m (n + 1) i := he
    refine ⟨z_no (b := 7) (by omega) (by omega) hn, fun _ => ⟨fun q => ?_, fun q => ⟨fun q2 => ?_, fun q2 => ?_⟩⟩⟩
    · rw [if_neg (by omega)] at he2
      exact mz_forget (ih i hi he2 I' L' hf' hl' hb' hz') rfl (mz_fg_s (mz_fg_s (mz_fg_s (mz_fg_n mz_fg_0))))
    · rw [if_pos (by omega), if_neg (by omega)] at he2
      have e5 : (i : Int) + -1 = (i - 1 : Nat) := by omega
      rw [e5]
      exact mz_forget (ih (i - 1) (by omega) he2 I' L' hf' hl' hb' hz') rfl (mz_fg_s (mz_fg_s (mz_fg_s (mz_fg_n mz_fg_0))))
    · rw [if_pos (by omega), if_pos (by omega)] at he2
      have e4 : (q_nx s).2 = q_b0 s.2 - 2 ^ n := by
        show q_b0 s.2 - 2 ^ q_kd s = _
        rw [he2]
      have e6 : (2 : Nat) ^ n ≤ q_b0 s.2 := by
        by_cases h : 2 ^ n ≤ q_b0 s.2
        · exact h
        · rw [Nat.div_eq_of_lt (by omega)] at q; simp at q
      have e7 : ((q_b0 s.2 : Int) - 2 ^ n) = ((q_nx s).2 : Nat) := by
        rw [e4, Int.natCast_sub e6]; congr 1
      rw [← he2, he2, e7]
      rw [he2] at h
      exact h _ _ (fr_u2 hf' (List.mem_singleton_self _)) hl' mz_u_eq hz'
theorem fr_one {α : Type} {I I' : Nat → Nat → α} {p b : Nat} (h : fr I I' [p]) (hb : b ≠ p) : I' b = I b := fr_ne1 h hb
theorem c_takeB {b v : Nat} {s : Nat × Nat} (hB : p_Bags T I L b v s)
    (h : ∀ I' L', fr I I' [b, v] → fr L L' [b] → p_Bags T I' L' b v (q_nx s) → K (some (.int (zI (q_kd s)))) T I' L') : mz_Ctr G M_X0_take [.ref b] T I L K := by
  refine mz_apartC fun hU => ?_
  obtain ⟨⟨h1, h2, h3⟩, hv, hz, hb, hok⟩ := id hB
  have hne : v ≠ b := mz_ne hU h2 h1 (by decide)
  refine mz_ofl mk_X0_take rfl (Nat.le_of_ble_eq_true rfl) (Nat.le_of_ble_eq_true rfl) [some (.ref b), none, none] rfl ?_
  have key := mz_loop (N := 4) (fun n => ∀ I', fr I I' [b, v] → I' b = I b → (∀ i, i < n → I' v i = zI (q_kd (q_st (i + 1) s))) → (∀ i, n ≤ i → i < 5 → I' v i = I v i) → mz_W G M_X0_take K mz_nX 9 [some (.ref b), some (.int (zI (q_kd s))), some (.int (zI (n + 1 : Nat)))] [] T I' L (0, 0)) ?_ ?_ 0 (Nat.zero_le _)
  · refine mz_vc ok_X0_take [9] [(), (), (), (), (), (), (), (), (), (), (), (), (), (), (), (), (), (), (), (), (), (), (), (), (), (), (), (), (), ()] ?_
    simp only [cd_X0_take, h1, h3, r_rn0, r_rnc, r_vk0, r_vkc, r_vks, r_kci, r_kcv, r_ild, r_ald, r_lld, r_dld, r_Li, r_La, r_Ll, r_Ld, r_Ki, r_Ka, r_Kl, r_Kd, r_Kn, r_ist, r_ast, r_lst, r_dst, r_iinc, r_int, r_lng, r_dbl, r_i2, r_i1, r_l2, r_lsh, r_i2z, r_l2z, r_i2l, r_l2i, r_i2d, r_lcmp, r_ddiv, r_dcmpl, r_dup, r_dup2, r_pop, r_one_int, r_one_ref, r_go, r_if, r_ic, r_tsw, r_lsw, r_sw0, r_swc, r_lk0, r_lkc, r_kp, r_gI, r_gL, r_gR, r_pI, r_pZ, r_pL, r_pR, r_gs, r_ia, r_ca, r_za, r_la, r_da, r_aa, r_ias, r_cas, r_zas, r_las, r_das, r_aas, r_acp, r_new, r_nwa, r_nwq, r_ret, r_irt, r_zrt, r_lrt, r_drt, r_art, r_thr, r_cV0, r_cV1, r_cV2, r_cV3, r_cV4, r_cV5, r_cI0, r_cS0, r_cS1, r_cS2, r_cS3, r_cX0, r_cX1, r_cX2, r_cX3, r_rc, r_oi, r_refx, r_i10, r_i01, r_rfs, r_mem0, r_memc, r_beq, r_kl0, r_klz, r_kl1i, r_kl1r, r_kl1n, r_kl1l, r_kl1d, List.length_cons, List.length_nil, List.getElem?_cons_zero, List.getElem?_cons_succ, List.set_cons_zero, List.set_cons_succ, true_and, and_true, not_true, not_false_eq_true, false_implies, true_implies, or_true, true_or, or_false, false_or, Bool.or_false, Bool.false_or, decide_false, decide_true, Nat.reduceLT, Nat.reduceLeDiff, Nat.reduceAdd, Nat.reduceSub, ↓reduceIte, Nat.reduceEqDiff, Nat.lt_add_one]
    refine ⟨⟨5, h2, by rw [vp_in_iff]; decide⟩, ?_⟩
    have e0 := hv 0 (by decide)
    rw [q_st_0] at e0
    rw [show (0 : Int32).toNatClampNeg = 0 from rfl, e0]
    exact key I fr_refl rfl (fun i hi => absurd hi (Nat.not_lt_zero _)) (fun _ _ _ => rfl)
  · intro I' hf' hIb hlo hhi
    refine mz_vc ok_X0_take [9] [(), (), (), (), (), (), (), (), (), (), (), (), (), (), (), (), (), (), (), (), (), (), (), (), (), (), (), (), (), ()] ?_
    simp only [cd_X0_take, h1, h3, r_rn0, r_rnc, r_vk0, r_vkc, r_vks, r_kci, r_kcv, r_ild, r_ald, r_lld, r_dld, r_Li, r_La, r_Ll, r_Ld, r_Ki, r_Ka, r_Kl, r_Kd, r_Kn, r_ist, r_ast, r_lst, r_dst, r_iinc, r_int, r_lng, r_dbl, r_i2, r_i1, r_l2, r_lsh, r_i2z, r_l2z, r_i2l, r_l2i, r_i2d, r_lcmp, r_ddiv, r_dcmpl, r_dup, r_dup2, r_pop, r_one_int, r_one_ref, r_go, r_if, r_ic, r_tsw, r_lsw, r_sw0, r_swc, r_lk0, r_lkc, r_kp, r_gI, r_gL, r_gR, r_pI, r_pZ, r_pL, r_pR, r_gs, r_ia, r_ca, r_za, r_la, r_da, r_aa, r_ias, r_cas, r_zas, r_las, r_das, r_aas, r_acp, r_new, r_nwa, r_nwq, r_ret, r_irt, r_zrt, r_lrt, r_drt, r_art, r_thr, r_cV0, r_cV1, r_cV2, r_cV3, r_cV4, r_cV5, r_cI0, r_cS0, r_cS1, r_cS2, r_cS3, r_cX0, r_cX1, r_cX2, r_cX3, r_rc, r_oi, r_refx, r_i10, r_i01, r_rfs, r_mem0, r_memc, r_beq, r_kl0, r_klz, r_kl1i, r_kl1r, r_kl1n, r_kl1l, r_kl1d, List.length_cons, List.length_nil, List.getElem?_cons_zero, List.getElem?_cons_succ, List.set_cons_zero, List.set_cons_succ, true_and, and_true, not_true, not_false_eq_true, false_implies, true_implies, or_true, true_or, or_false, false_or, Bool.or_false, Bool.false_or, decide_false, decide_true, Nat.reduceLT, Nat.reduceLeDiff, Nat.reduceAdd, Nat.reduceSub, ↓reduceIte, Nat.reduceEqDiff, Nat.lt_add_one]
    refine ⟨fun _ => ?_, fun q => absurd (by decide) q⟩
    refine c_draw (s := q_st 5 s) h1 hz (by rw [hIb]; exact hb) (q_st_ok 5 s hok) (fun I2 L2 hf2 hl2 hb2 hz2 => ?_)
    simp only [cd_X0_take, h1, h3, r_rn0, r_rnc, r_vk0, r_vkc, r_vks, r_kci, r_kcv, r_ild, r_ald, r_lld, r_dld, r_Li, r_La, r_Ll, r_Ld, r_Ki, r_Ka, r_Kl, r_Kd, r_Kn, r_ist, r_ast, r_lst, r_dst, r_iinc, r_int, r_lng, r_dbl, r_i2, r_i1, r_l2, r_lsh, r_i2z, r_l2z, r_i2l, r_l2i, r_i2d, r_lcmp, r_ddiv, r_dcmpl, r_dup, r_dup2, r_pop, r_one_int, r_one_ref, r_go, r_if, r_ic, r_tsw, r_lsw, r_sw0, r_swc, r_lk0, r_lkc, r_kp, r_gI, r_gL, r_gR, r_pI, r_pZ, r_pL, r_pR, r_gs, r_ia, r_ca, r_za, r_la, r_da, r_aa, r_ias, r_cas, r_zas, r_las, r_das, r_aas, r_acp, r_new, r_nwa, r_nwq, r_ret, r_irt, r_zrt, r_lrt, r_drt, r_art, r_thr, r_cV0, r_cV1, r_cV2, r_cV3, r_cV4, r_cV5, r_cI0, r_cS0, r_cS1, r_cS2, r_cS3, r_cX0, r_cX1, r_cX2, r_cX3, r_rc, r_oi, r_refx, r_i10, r_i01, r_rfs, r_mem0, r_memc, r_beq, r_kl0, r_klz, r_kl1i, r_kl1r, r_kl1n, r_kl1l, r_kl1d, List.length_cons, List.length_nil, List.getElem?_cons_zero, List.getElem?_cons_succ, List.set_cons_zero, List.set_cons_succ, true_and, and_true, not_true, not_false_eq_true, false_implies, true_implies, or_true, true_or, or_false, false_or, Bool.or_false, Bool.false_or, decide_false, decide_true, Nat.reduceLT, Nat.reduceLeDiff, Nat.reduceAdd, Nat.reduceSub, ↓reduceIte, Nat.reduceEqDiff, Nat.lt_add_one]
    refine ⟨⟨5, h2, by rw [vp_in_iff]; decide⟩, ?_⟩
    rw [← q_st_s, q_st_1] at hb2 hz2
    have ev : ∀ i, I2 v i = I' v i := fun i => by rw [fr_ne1 hf2 hne]
    refine h _ _ (fr_u2 (fr_tr1 hf' hf2 (by simp)) (by simp)) hl2 ⟨⟨h1, h2, h3⟩, fun i hi => ?_, hz2, ?_, q_nx_ok hok⟩
    · rw [← q_st_1]
      by_cases e : i = 4
      · subst e; exact mz_u_eq
      · rw [mz_u_nk (by simpa using e), ev, hlo i (by omega)]
    · rw [mz_u_ne (Ne.symm hne)]; exact hb2
  · intro n hn ih I' hf' hIb hlo hhi
    refine mz_vc ok_X0_take [9] [(), (), (), (), (), (), (), (), (), (), (), (), (), (), (), (), (), (), (), (), (), (), (), (), (), (), (), (), (), ()] ?_
    simp only [cd_X0_take, h1, h3, r_rn0, r_rnc, r_vk0, r_vkc, r_vks, r_kci, r_kcv, r_ild, r_ald, r_lld, r_dld, r_Li, r_La, r_Ll, r_Ld, r_Ki, r_Ka, r_Kl, r_Kd, r_Kn, r_ist, r_ast, r_lst, r_dst, r_iinc, r_int, r_lng, r_dbl, r_i2, r_i1, r_l2, r_lsh, r_i2z, r_l2z, r_i2l, r_l2i, r_i2d, r_lcmp, r_ddiv, r_dcmpl, r_dup, r_dup2, r_pop, r_one_int, r_one_ref, r_go, r_if, r_ic, r_tsw, r_lsw, r_sw0, r_swc, r_lk0, r_lkc, r_kp, r_gI, r_gL, r_gR, r_pI, r_pZ, r_pL, r_pR, r_gs, r_ia, r_ca, r_za, r_la, r_da, r_aa, r_ias, r_cas, r_zas, r_las, r_das, r_aas, r_acp, r_new, r_nwa, r_nwq, r_ret, r_irt, r_zrt, r_lrt, r_drt, r_art, r_thr, r_cV0, r_cV1, r_cV2, r_cV3, r_cV4, r_cV5, r_cI0, r_cS0, r_cS1, r_cS2, r_cS3, r_cX0, r_cX1, r_cX2, r_cX3, r_rc, r_oi, r_refx, r_i10, r_i01, r_rfs, r_mem0, r_memc, r_beq, r_kl0, r_klz, r_kl1i, r_kl1r, r_kl1n, r_kl1l, r_kl1d, List.length_cons, List.length_nil, List.getElem?_cons_zero, List.getElem?_cons_succ, List.set_cons_zero, List.set_cons_succ, true_and, and_true, not_true, not_false_eq_true, false_implies, true_implies, or_true, true_or, or_false, false_or, Bool.or_false, Bool.false_or, decide_false, decide_true, Nat.reduceLT, Nat.reduceLeDiff, Nat.reduceAdd, Nat.reduceSub, ↓reduceIte, Nat.reduceEqDiff, Nat.lt_add_one]
    have e5 : zI ((n + 1 : Nat) : Int) - 1 = zI (n : Int) := by rw [l_1, z_sub]; congr 1; omega
    rw [z_1, e5, z_nat (by omega), z_nat (by omega), show ((n : Nat) : Int).toNat = n from rfl, show ((n + 1 : Nat) : Int).toNat = n + 1 from rfl]
    refine ⟨z_no (b := 5) (by omega) (by omega) (by omega), fun _ => ⟨⟨5, h2, z_in (by omega) (by omega) (by decide)⟩, ⟨5, h2, z_in (by omega) (by omega) (by decide)⟩, ?_⟩⟩
    refine ih _ (fr_u2 hf' (by simp)) (by rw [mz_u_ne (Ne.symm hne)]; exact hIb) (fun i hi => ?_) (fun i a b => ?_)
    · by_cases e : i = n
      · subst e; rw [mz_u_eq, hhi _ (by omega) (by omega), hv _ (by omega)]
      · rw [mz_u_nk e]; exact hlo i (by omega)
    · rw [mz_u_nk (by omega)]; exact hhi i (by omega) b
theorem c_beginB {b v n0 : Nat} (h1 : (b, 0, 0) ∈ T.1) (h2 : (v, 1, 5) ∈ T.1) (h3 : T.2 b 0 = some v) (hn0 : n0 < 2147483648)
    (h : ∀ I' L', fr I I' [b, v] → fr L L' [b] → p_Bags T I' L' b v (n0, 0) → K none T I' L') : mz_Ctr G M_X0_begin [.ref b, .int (zI n0)] T I L K := by
  refine mz_apartC fun hU => ?_
  have hne : v ≠ b := mz_ne hU h2 h1 (by decide)
  have hok : q_ok (n0, 0) := ⟨hn0, show 0 < 128 by decide⟩
  refine mz_ofl mk_X0_begin rfl (Nat.le_of_ble_eq_true rfl) (Nat.le_of_ble_eq_true rfl) [some (.ref b), some (.int (zI n0)), none] rfl ?_
  have key := mz_loop (N := 5) (fun n => ∀ I' L', fr I I' [b, v] → fr L L' [b] → I' b 2 = zI (q_st n (n0, 0)).2 → L' b 1 = zL (q_st n (n0, 0)).1 → (∀ i, i < n → I' v i = zI (q_kd (q_st i (n0, 0)))) → mz_W G M_X0_begin K mz_nX 13 [some (.ref b), some (.int (zI n0)), some (.int (zI n))] [] T I' L' (0, 0)) ?_ ?_ 0 (Nat.zero_le _)
  · refine mz_vc ok_X0_begin [13] [(), (), (), (), (), (), (), (), (), (), (), (), (), (), (), (), (), (), (), (), (), (), (), (), (), (), (), (), (), ()] ?_
    simp only [cd_X0_begin, h1, h3, r_rn0, r_rnc, r_vk0, r_vkc, r_vks, r_kci, r_kcv, r_ild, r_ald, r_lld, r_dld, r_Li, r_La, r_Ll, r_Ld, r_Ki, r_Ka, r_Kl, r_Kd, r_Kn, r_ist, r_ast, r_lst, r_dst, r_iinc, r_int, r_lng, r_dbl, r_i2, r_i1, r_l2, r_lsh, r_i2z, r_l2z, r_i2l, r_l2i, r_i2d, r_lcmp, r_ddiv, r_dcmpl, r_dup, r_dup2, r_pop, r_one_int, r_one_ref, r_go, r_if, r_ic, r_tsw, r_lsw, r_sw0, r_swc, r_lk0, r_lkc, r_kp, r_gI, r_gL, r_gR, r_pI, r_pZ, r_pL, r_pR, r_gs, r_ia, r_ca, r_za, r_la, r_da, r_aa, r_ias, r_cas, r_zas, r_las, r_das, r_aas, r_acp, r_new, r_nwa, r_nwq, r_ret, r_irt, r_zrt, r_lrt, r_drt, r_art, r_thr, r_cV0, r_cV1, r_cV2, r_cV3, r_cV4, r_cV5, r_cI0, r_cS0, r_cS1, r_cS2, r_cS3, r_cX0, r_cX1, r_cX2, r_cX3, r_rc, r_oi, r_refx, r_i10, r_i01, r_rfs, r_mem0, r_memc, r_beq, r_kl0, r_klz, r_kl1i, r_kl1r, r_kl1n, r_kl1l, r_kl1d, List.length_cons, List.length_nil, List.getElem?_cons_zero, List.getElem?_cons_succ, List.set_cons_zero, List.set_cons_succ, true_and, and_true, not_true, not_false_eq_true, false_implies, true_implies, or_true, true_or, or_false, false_or, Bool.or_false, Bool.false_or, decide_false, decide_true, Nat.reduceLT, Nat.reduceLeDiff, Nat.reduceAdd, Nat.reduceSub, ↓reduceIte, Nat.reduceEqDiff, Nat.lt_add_one]
    refine key _ _ (fr_u2 fr_refl (by simp)) (fr_u2 fr_refl (by simp)) ?_ ?_ (fun i hi => absurd hi (Nat.not_lt_zero _))
    · rw [mz_u_eq, q_st_0]; rfl
    · rw [mz_u_eq, q_st_0, w_64 (by omega)]
  · intro I' L' hf' hl' hb' hz' hv'
    refine mz_vc ok_X0_begin [13] [(), (), (), (), (), (), (), (), (), (), (), (), (), (), (), (), (), (), (), (), (), (), (), (), (), (), (), (), (), ()] ?_
    simp only [cd_X0_begin, h1, h3, r_rn0, r_rnc, r_vk0, r_vkc, r_vks, r_kci, r_kcv, r_ild, r_ald, r_lld, r_dld, r_Li, r_La, r_Ll, r_Ld, r_Ki, r_Ka, r_Kl, r_Kd, r_Kn, r_ist, r_ast, r_lst, r_dst, r_iinc, r_int, r_lng, r_dbl, r_i2, r_i1, r_l2, r_lsh, r_i2z, r_l2z, r_i2l, r_l2i, r_i2d, r_lcmp, r_ddiv, r_dcmpl, r_dup, r_dup2, r_pop, r_one_int, r_one_ref, r_go, r_if, r_ic, r_tsw, r_lsw, r_sw0, r_swc, r_lk0, r_lkc, r_kp, r_gI, r_gL, r_gR, r_pI, r_pZ, r_pL, r_pR, r_gs, r_ia, r_ca, r_za, r_la, r_da, r_aa, r_ias, r_cas, r_zas, r_las, r_das, r_aas, r_acp, r_new, r_nwa, r_nwq, r_ret, r_irt, r_zrt, r_lrt, r_drt, r_art, r_thr, r_cV0, r_cV1, r_cV2, r_cV3, r_cV4, r_cV5, r_cI0, r_cS0, r_cS1, r_cS2, r_cS3, r_cX0, r_cX1, r_cX2, r_cX3, r_rc, r_oi, r_refx, r_i10, r_i01, r_rfs, r_mem0, r_memc, r_beq, r_kl0, r_klz, r_kl1i, r_kl1r, r_kl1n, r_kl1l, r_kl1d, List.length_cons, List.length_nil, List.getElem?_cons_zero, List.getElem?_cons_succ, List.set_cons_zero, List.set_cons_succ, true_and, and_true, not_true, not_false_eq_true, false_implies, true_implies, or_true, true_or, or_false, false_or, Bool.or_false, Bool.false_or, decide_false, decide_true, Nat.reduceLT, Nat.reduceLeDiff, Nat.reduceAdd, Nat.reduceSub, ↓reduceIte, Nat.reduceEqDiff, Nat.lt_add_one]
    exact ⟨fun _ => h I' L' hf' hl' ⟨⟨h1, h2, h3⟩, hv', hz', hb', hok⟩, fun q => absurd (by decide) q⟩
  · intro n hn ih I' L' hf' hl' hb' hz' hv'
    refine mz_vc ok_X0_begin [13] [(), (), (), (), (), (), (), (), (), (), (), (), (), (), (), (), (), (), (), (), (), (), (), (), (), (), (), (), (), ()] ?_
    simp only [cd_X0_begin, h1, h3, r_rn0, r_rnc, r_vk0, r_vkc, r_vks, r_kci, r_kcv, r_ild, r_ald, r_lld, r_dld, r_Li, r_La, r_Ll, r_Ld, r_Ki, r_Ka, r_Kl, r_Kd, r_Kn, r_ist, r_ast, r_lst, r_dst, r_iinc, r_int, r_lng, r_dbl, r_i2, r_i1, r_l2, r_lsh, r_i2z, r_l2z, r_i2l, r_l2i, r_i2d, r_lcmp, r_ddiv, r_dcmpl, r_dup, r_dup2, r_pop, r_one_int, r_one_ref, r_go, r_if, r_ic, r_tsw, r_lsw, r_sw0, r_swc, r_lk0, r_lkc, r_kp, r_gI, r_gL, r_gR, r_pI, r_pZ, r_pL, r_pR, r_gs, r_ia, r_ca, r_za, r_la, r_da, r_aa, r_ias, r_cas, r_zas, r_las, r_das, r_aas, r_acp, r_new, r_nwa, r_nwq, r_ret, r_irt, r_zrt, r_lrt, r_drt, r_art, r_thr, r_cV0, r_cV1, r_cV2, r_cV3, r_cV4, r_cV5, r_cI0, r_cS0, r_cS1, r_cS2, r_cS3, r_cX0, r_cX1, r_cX2, r_cX3, r_rc, r_oi, r_refx, r_i10, r_i01, r_rfs, r_mem0, r_memc, r_beq, r_kl0, r_klz, r_kl1i, r_kl1r, r_kl1n, r_kl1l, r_kl1d, List.length_cons, List.length_nil, List.getElem?_cons_zero, List.getElem?_cons_succ, List.set_cons_zero, List.set_cons_succ, true_and, and_true, not_true, not_false_eq_true, false_implies, true_implies, or_true, true_or, or_false, false_or, Bool.or_false, Bool.false_or, decide_false, decide_true, Nat.reduceLT, Nat.reduceLeDiff, Nat.reduceAdd, Nat.reduceSub, ↓reduceIte, Nat.reduceEqDiff, Nat.lt_add_one]
    refine ⟨z_no (b := 5) (by omega) (by omega) hn, fun _ => ?_⟩
    refine c_draw (s := q_st n (n0, 0)) h1 hz' hb' (q_st_ok n _ hok) (fun I2 L2 hf2 hl2 hb2 hz2 => ?_)
    simp only [cd_X0_begin, h1, h3, r_rn0, r_rnc, r_vk0, r_vkc, r_vks, r_kci, r_kcv, r_ild, r_ald, r_lld, r_dld, r_Li, r_La, r_Ll, r_Ld, r_Ki, r_Ka, r_Kl, r_Kd, r_Kn, r_ist, r_ast, r_lst, r_dst, r_iinc, r_int, r_lng, r_dbl, r_i2, r_i1, r_l2, r_lsh, r_i2z, r_l2z, r_i2l, r_l2i, r_i2d, r_lcmp, r_ddiv, r_dcmpl, r_dup, r_dup2, r_pop, r_one_int, r_one_ref, r_go, r_if, r_ic, r_tsw, r_lsw, r_sw0, r_swc, r_lk0, r_lkc, r_kp, r_gI, r_gL, r_gR, r_pI, r_pZ, r_pL, r_pR, r_gs, r_ia, r_ca, r_za, r_la, r_da, r_aa, r_ias, r_cas, r_zas, r_las, r_das, r_aas, r_acp, r_new, r_nwa, r_nwq, r_ret, r_irt, r_zrt, r_lrt, r_drt, r_art, r_thr, r_cV0, r_cV1, r_cV2, r_cV3, r_cV4, r_cV5, r_cI0, r_cS0, r_cS1, r_cS2, r_cS3, r_cX0, r_cX1, r_cX2, r_cX3, r_rc, r_oi, r_refx, r_i10, r_i01, r_rfs, r_mem0, r_memc, r_beq, r_kl0, r_klz, r_kl1i, r_kl1r, r_kl1n, r_kl1l, r_kl1d, List.length_cons, List.length_nil, List.getElem?_cons_zero, List.getElem?_cons_succ, List.set_cons_zero, List.set_cons_succ, true_and, and_true, not_true, not_false_eq_true, false_implies, true_implies, or_true, true_or, or_false, false_or, Bool.or_false, Bool.false_or, decide_false, decide_true, Nat.reduceLT, Nat.reduceLeDiff, Nat.reduceAdd, Nat.reduceSub, ↓reduceIte, Nat.reduceEqDiff, Nat.lt_add_one]
    rw [z_1, z_nat (by omega), show ((n : Nat) : Int).toNat = n from rfl]
    refine ⟨⟨5, h2, z_in (by omega) (by omega) (by decide)⟩, ?_⟩
    rw [← q_st_s] at hb2 hz2
    refine ih _ _ (fr_u2 (fr_tr1 hf' hf2 (by simp)) (by simp)) (fr_tr1 hl' hl2 (by simp)) ?_ hz2 (fun i hi => ?_)
    · rw [mz_u_ne (Ne.symm hne)]; exact hb2
    · by_cases e : i = n
      · subst e; exact mz_u_eq
      · rw [mz_u_nk e, fr_ne1 hf2 hne]; exact hv' i (by omega)
theorem c_copyB {b v b2 v2 : Nat} {s : Nat × Nat} (h1 : (b, 0, 0) ∈ T.1) (h2 : (v, 1, 5) ∈ T.1) (h3 : T.2 b 0 = some v) (hB : p_Bags T I L b2 v2 s)
    (h : ∀ I' L', fr I I' [b, v] → fr L L' [b] → p_Bags T I' L' b v s → K none T I' L') : mz_Ctr G M_X0_copyFrom [.ref b, .ref b2] T I L K := by
  refine mz_apartC fun hU => ?_
  obtain ⟨⟨g1, g2, g3⟩, hv, hz, hb, hok⟩ := id hB
  have hne : v ≠ b := mz_ne hU h2 h1 (by decide)
  have hne2 : b2 ≠ v := mz_ne hU g1 h2 (by decide)
  refine mz_ofl mk_X0_copyFrom rfl (Nat.le_of_ble_eq_true rfl) (Nat.le_of_ble_eq_true rfl) [some (.ref b), some (.ref b2)] rfl ?_
  refine mz_vc ok_X0_copyFrom [] [(), (), (), (), (), (), (), (), (), (), (), (), (), (), (), (), (), (), (), (), (), (), (), (), (), (), (), (), (), ()] ?_
  simp only [cd_X0_copyFrom, h1, h3, g1, g3, r_rn0, r_rnc, r_vk0, r_vkc, r_vks, r_kci, r_kcv, r_ild, r_ald, r_lld, r_dld, r_Li, r_La, r_Ll, r_Ld, r_Ki, r_Ka, r_Kl, r_Kd, r_Kn, r_ist, r_ast, r_lst, r_dst, r_iinc, r_int, r_lng, r_dbl, r_i2, r_i1, r_l2, r_lsh, r_i2z, r_l2z, r_i2l, r_l2i, r_i2d, r_lcmp, r_ddiv, r_dcmpl, r_dup, r_dup2, r_pop, r_one_int, r_one_ref, r_go, r_if, r_ic, r_tsw, r_lsw, r_sw0, r_swc, r_lk0, r_lkc, r_kp, r_gI, r_gL, r_gR, r_pI, r_pZ, r_pL, r_pR, r_gs, r_ia, r_ca, r_za, r_la, r_da, r_aa, r_ias, r_cas, r_zas, r_las, r_das, r_aas, r_acp, r_new, r_nwa, r_nwq, r_ret, r_irt, r_zrt, r_lrt, r_drt, r_art, r_thr, r_cV0, r_cV1, r_cV2, r_cV3, r_cV4, r_cV5, r_cI0, r_cS0, r_cS1, r_cS2, r_cS3, r_cX0, r_cX1, r_cX2, r_cX3, r_rc, r_oi, r_refx, r_i10, r_i01, r_rfs, r_mem0, r_memc, r_beq, r_kl0, r_klz, r_kl1i, r_kl1r, r_kl1n, r_kl1l, r_kl1d, List.length_cons, List.length_nil, List.getElem?_cons_zero, List.getElem?_cons_succ, List.set_cons_zero, List.set_cons_succ, true_and, and_true, not_true, not_false_eq_true, false_implies, true_implies, or_true, true_or, or_false, false_or, Bool.or_false, Bool.false_or, decide_false, decide_true, Nat.reduceLT, Nat.reduceLeDiff, Nat.reduceAdd, Nat.reduceSub, ↓reduceIte, Nat.reduceEqDiff, Nat.lt_add_one]
  refine ⟨⟨by decide, by decide, by decide, 5, 5, g2, h2, by decide, by decide⟩, ?_⟩
  refine h _ _ (fr_u2 (fr_row2 fr_refl (by simp)) (by simp)) fr_u ⟨⟨h1, h2, h3⟩, fun i hi => ?_, ?_, ?_, hok⟩
  · rw [mz_u_ne hne, mz_row_eq]
    unfold va_cpy
    rw [if_pos (by simp; omega)]
    have := hv i hi
    simpa using this
  · rw [mz_u_eq]; exact hz
  · rw [mz_u_eq, mz_row_ne hne2]; exact hb
end BAGS
