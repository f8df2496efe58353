/-! the search for placements: keys in their order -/
section INS
variable {G : mz_G} {K : mz_K} {T : mz_T} {I : mz_I} {L : mz_L}
theorem w_lt {a b : Int} (ha : -4611686018427387904 ≤ a ∧ a < 4611686018427387904) (hb : -4611686018427387904 ≤ b ∧ b < 4611686018427387904) : zL a < zL b ↔ a < b := by
  rw [Int64.lt_iff_toInt_lt, w_toInt ha, w_toInt hb]
theorem w_le {a b : Int} (ha : -4611686018427387904 ≤ a ∧ a < 4611686018427387904) (hb : -4611686018427387904 ≤ b ∧ b < 4611686018427387904) : zL a ≤ zL b ↔ a ≤ b := by
  rw [Int64.le_iff_toInt_le, w_toInt ha, w_toInt hb]
theorem w_eq {a b : Int} (ha : -4611686018427387904 ≤ a ∧ a < 4611686018427387904) (hb : -4611686018427387904 ≤ b ∧ b < 4611686018427387904) : zL a = zL b ↔ a = b := by
  rw [← Int64.toInt_inj, w_toInt ha, w_toInt hb]
/-- how many of the first n keys stand ahead of a key -/
def x_rk (a : Nat → Nat) (k : Nat) : Nat → Nat
  | 0 => 0
  | n + 1 => if k < a n then x_rk a k n else n + 1
theorem x_rk_le {a : Nat → Nat} {k : Nat} : ∀ n, x_rk a k n ≤ n
  | 0 => Nat.le_refl 0
  | n + 1 => by unfold x_rk; have := x_rk_le (a := a) (k := k) n; split <;> omega
theorem x_rk_hi {a : Nat → Nat} {k : Nat} : ∀ n t, x_rk a k n ≤ t → t < n → k < a t
  | 0, t, _, h => absurd h (Nat.not_lt_zero _)
  | n + 1, t, h1, h2 => by
    unfold x_rk at h1
    split at h1
    · rename_i q
      by_cases e : t = n
      · rw [e]; exact q
      · exact x_rk_hi n t h1 (by omega)
    · omega
theorem x_rk_lo {a : Nat → Nat} {k : Nat} : ∀ n, 0 < x_rk a k n → a (x_rk a k n - 1) ≤ k
  | 0, h => absurd h (Nat.lt_irrefl _)
  | n + 1, h => by
    unfold x_rk at h ⊢
    split
    · rename_i q
      rw [if_pos q] at h
      exact x_rk_lo n h
    · rename_i q
      show a n ≤ k
      omega
def x_is (a : Nat → Nat) (r k t : Nat) : Nat := if t < r then a t else if t = r then k else a (t - 1)
def x_srt (a : Nat → Nat) (n : Nat) : Prop := ∀ i j, i < j → j < n → a i < a j
theorem x_is_srt {a : Nat → Nat} {n k : Nat} (h : x_srt a n) (hn : x_rk a k n = 0 ∨ a (x_rk a k n - 1) ≠ k) : x_srt (x_is a (x_rk a k n) k) (n + 1) := by
  have h1 := x_rk_le (a := a) (k := k) n
  have lo : ∀ t, t < x_rk a k n → a t < k := by
    intro t ht
    have h2 := x_rk_lo (a := a) (k := k) n (by omega)
    have h3 : a (x_rk a k n - 1) ≠ k := by rcases hn with e | e; · omega
                                           · exact e
    by_cases e : t = x_rk a k n - 1
    · subst e; omega
    · have := h t (x_rk a k n - 1) (by omega) (by omega); omega
  have hi := x_rk_hi (a := a) (k := k) n
  intro i j hij hj
  unfold x_is
  by_cases c1 : i < x_rk a k n
  · rw [if_pos c1]
    by_cases c2 : j < x_rk a k n
    · rw [if_pos c2]; exact h i j hij (by omega)
    · rw [if_neg c2]
      by_cases c3 : j = x_rk a k n
      · rw [if_pos c3]; exact lo i c1
      · rw [if_neg c3]
        have := hi (j - 1) (by omega) (by omega)
        have := lo i c1
        omega
  · rw [if_neg c1, if_neg (show ¬ j < x_rk a k n by omega), if_neg (show ¬ j = x_rk a k n by omega)]
    by_cases c3 : i = x_rk a k n
    · rw [if_pos c3]; exact hi (j - 1) (by omega) (by omega)
    · rw [if_neg c3]; exact h (i - 1) (j - 1) (by omega) (by omega)
theorem x_is_mem {a : Nat → Nat} {n r k v : Nat} (hr : r ≤ n) : (∃ t, t < n + 1 ∧ x_is a r k t = v) ↔ v = k ∨ ∃ t, t < n ∧ a t = v := by
  constructor
  · rintro ⟨t, ht, e⟩
    unfold x_is at e
    by_cases c1 : t < r
    · rw [if_pos c1] at e; exact Or.inr ⟨t, by omega, e⟩
    · rw [if_neg c1] at e
      by_cases c2 : t = r
      · rw [if_pos c2] at e; exact Or.inl e.symm
      · rw [if_neg c2] at e; exact Or.inr ⟨t - 1, by omega, e⟩
  · rintro (e | ⟨t, ht, e⟩)
    · exact ⟨r, by omega, by unfold x_is; rw [if_neg (Nat.lt_irrefl _), if_pos rfl, e]⟩
    · by_cases c1 : t < r
      · exact ⟨t, by omega, by unfold x_is; rw [if_pos c1, e]⟩
      · exact ⟨t + 1, by omega, by unfold x_is; rw [if_neg (by omega), if_neg (by omega), Nat.add_sub_cancel, e]⟩
/-- the keys of a search -/
def x_K (I : mz_I) (L : mz_L) (Y : Nat → Nat) (n : Nat) (a : Nat → Nat) : Prop := I (Y 0) 0 = zI n ∧ (∀ t, t < n → L (Y 9) t = zL (a t : Nat)) ∧ (∀ t, t < n → a t < 1000000000000000000) ∧ x_srt a n
theorem c_insS {Y : Nat → Nat} {n k sp : Nat} {a : Nat → Nat} (hS : p_Sh T Y) (hK : x_K I L Y n a) (hn : n < 512) (hk : k < 1000000000000000000) (hsp : sp < 1000000)
    (h0 : (∃ t, t < n ∧ a t = k) → K none T I L)
    (h1 : ¬ (∃ t, t < n ∧ a t = k) → ∀ I' L', fr I I' [Y 0] → fr L L' [Y 9] → x_K I' L' Y (n + 1) (x_is a (x_rk a k n) k) → (∀ i, i ≠ 0 → i ≠ 10 → I' (Y 0) i = I (Y 0) i) → (I' (Y 0) 10 = if x_rk a k n = 0 then zI sp else I (Y 0) 10) → K none T I' L') : mz_Ctr G M_X10_insert [.ref (Y 0), .long (zL (k : Nat)), .int (zI sp)] T I L K := by
  obtain ⟨s1, ⟨r2, r3, r4, r5, r6, r7, r9⟩, ⟨t1, t2, t3, t4, t5, t6, t7⟩, ⟨d1, d2, d3⟩⟩ := id hS
  obtain ⟨k1, k2, k3, k4⟩ := id hK
  have hrl := x_rk_le (a := a) (k := k) n
  have e512 : (512 : Int32) = zI 512 := rfl
  have old : (0 < x_rk a k n ∧ a (x_rk a k n - 1) = k) → ∃ t, t < n ∧ a t = k := fun q => ⟨_, by omega, q.2⟩
  have new : (x_rk a k n = 0 ∨ a (x_rk a k n - 1) ≠ k) → ¬ ∃ t, t < n ∧ a t = k := by
    rintro q ⟨t, ht, e⟩
    by_cases c : x_rk a k n ≤ t
    · have := x_rk_hi n t c ht; omega
    · have h2 := x_rk_lo (a := a) (k := k) n (by omega)
      have h3 : a (x_rk a k n - 1) ≠ k := by rcases q with e | e; · omega
                                             · exact e
      by_cases e2 : t = x_rk a k n - 1
      · rw [e2] at e; exact h3 e
      · have := k4 t (x_rk a k n - 1) (by omega) (by omega); omega
  have w79 : (x_rk a k n = 0 ∨ a (x_rk a k n - 1) ≠ k) → mz_W G M_X10_insert K mz_nX 69 [some (.ref (Y 0)), some (.long (zL (k : Nat))), none, some (.int (zI sp)), some (.int (zI (x_rk a k n : Nat))), none] [] T I L (0, 0) := by
    intro hnew
    have loop : ∀ i L', x_rk a k n ≤ i → i ≤ n → fr L L' [Y 9] → (∀ t, t < i → L' (Y 9) t = zL (a t : Nat)) → (∀ t, i < t → t ≤ n → L' (Y 9) t = zL (a (t - 1) : Nat)) → mz_W G M_X10_insert K mz_nX 75 [some (.ref (Y 0)), some (.long (zL (k : Nat))), none, some (.int (zI sp)), some (.int (zI (x_rk a k n : Nat))), some (.int (zI i))] [] T I L' (0, 0) := by
      intro i
      induction i with
      | zero =>
        intro L' h2 h3 hf hlo hhi
        have hr0 : x_rk a k n = 0 := by omega
        rw [hr0]
        refine mz_vc ok_X10_insert [75] [(), (), (), (), (), (), (), (), (), (), (), (), (), (), (), (), (), (), (), (), (), (), (), (), (), (), (), (), (), ()] ?_
        simp only [cd_X10_insert, s1, r9, k1, r_rn0, r_rnc, r_vk0, r_vkc, r_vks, r_kci, r_kcv, r_ild, r_ald, r_lld, r_dld, r_Li, r_La, r_Ll, r_Ld, r_Ki, r_Ka, r_Kl, r_Kd, r_Kn, r_ist, r_ast, r_lst, r_dst, r_iinc, r_int, r_lng, r_dbl, r_i2, r_i1, r_l2, r_lsh, r_i2z, r_l2z, r_i2l, r_l2i, r_i2d, r_lcmp, r_ddiv, r_dcmpl, r_dup, r_dup2, r_pop, r_one_int, r_one_ref, r_go, r_if, r_ic, r_tsw, r_lsw, r_sw0, r_swc, r_lk0, r_lkc, r_kp, r_gI, r_gL, r_gR, r_pI, r_pZ, r_pL, r_pR, r_gs, r_ia, r_ca, r_za, r_la, r_da, r_aa, r_ias, r_cas, r_zas, r_las, r_das, r_aas, r_acp, r_new, r_nwa, r_nwq, r_ret, r_irt, r_zrt, r_lrt, r_drt, r_art, r_thr, r_cV0, r_cV1, r_cV2, r_cV3, r_cV4, r_cV5, r_cI0, r_cS0, r_cS1, r_cS2, r_cS3, r_cX0, r_cX1, r_cX2, r_cX3, r_rc, r_oi, r_refx, r_i10, r_i01, r_rfs, r_mem0, r_memc, r_beq, r_kl0, r_klz, r_kl1i, r_kl1r, r_kl1n, r_kl1l, r_kl1d, List.length_cons, List.length_nil, List.getElem?_cons_zero, List.getElem?_cons_succ, List.set_cons_zero, List.set_cons_succ, true_and, and_true, not_true, not_false_eq_true, false_implies, true_implies, or_true, true_or, or_false, false_or, Bool.or_false, Bool.false_or, decide_false, decide_true, Nat.reduceLT, Nat.reduceLeDiff, Nat.reduceAdd, Nat.reduceSub, ↓reduceIte, Nat.reduceEqDiff, Nat.lt_add_one]
        refine ⟨fun _ => ?_, fun q => absurd (by decide) q⟩
        rw [z_nat (by omega), z_1]
        refine ⟨⟨512, t7, z_in (by omega) (by omega) (by decide)⟩, fun q => absurd (by decide) q, fun _ => ?_⟩
        refine h1 (new hnew) _ _ ?_ ?_ ⟨?_, ?_, ?_, x_is_srt k4 hnew⟩ ?_ ?_
        · exact fr_u2 (fr_u2 fr_refl (by simp)) (by simp)
        · exact fr_u2 hf (by simp)
        · rw [mz_u_nk (by decide), mz_u_eq]
        · intro t ht
          unfold x_is
          rw [hr0, if_neg (Nat.not_lt_zero _)]
          by_cases c : t = 0
          · subst c; rw [if_pos rfl]; exact mz_u_eq
          · rw [if_neg c, mz_u_nk (by omega)]; exact hhi t (by omega) (by omega)
        · intro t ht
          unfold x_is
          rw [hr0, if_neg (Nat.not_lt_zero _)]
          split
          · exact hk
          · exact k3 _ (by omega)
        · intro i a1 a2
          rw [mz_u_nk a2, mz_u_nk a1]
        · rw [if_pos hr0, mz_u_eq]
      | succ i ih =>
        intro L' h2 h3 hf hlo hhi
        refine mz_vc ok_X10_insert [75] [(), (), (), (), (), (), (), (), (), (), (), (), (), (), (), (), (), (), (), (), (), (), (), (), (), (), (), (), (), ()] ?_
        simp only [cd_X10_insert, s1, r9, k1, r_rn0, r_rnc, r_vk0, r_vkc, r_vks, r_kci, r_kcv, r_ild, r_ald, r_lld, r_dld, r_Li, r_La, r_Ll, r_Ld, r_Ki, r_Ka, r_Kl, r_Kd, r_Kn, r_ist, r_ast, r_lst, r_dst, r_iinc, r_int, r_lng, r_dbl, r_i2, r_i1, r_l2, r_lsh, r_i2z, r_l2z, r_i2l, r_l2i, r_i2d, r_lcmp, r_ddiv, r_dcmpl, r_dup, r_dup2, r_pop, r_one_int, r_one_ref, r_go, r_if, r_ic, r_tsw, r_lsw, r_sw0, r_swc, r_lk0, r_lkc, r_kp, r_gI, r_gL, r_gR, r_pI, r_pZ, r_pL, r_pR, r_gs, r_ia, r_ca, r_za, r_la, r_da, r_aa, r_ias, r_cas, r_zas, r_las, r_das, r_aas, r_acp, r_new, r_nwa, r_nwq, r_ret, r_irt, r_zrt, r_lrt, r_drt, r_art, r_thr, r_cV0, r_cV1, r_cV2, r_cV3, r_cV4, r_cV5, r_cI0, r_cS0, r_cS1, r_cS2, r_cS3, r_cX0, r_cX1, r_cX2, r_cX3, r_rc, r_oi, r_refx, r_i10, r_i01, r_rfs, r_mem0, r_memc, r_beq, r_kl0, r_klz, r_kl1i, r_kl1r, r_kl1n, r_kl1l, r_kl1d, List.length_cons, List.length_nil, List.getElem?_cons_zero, List.getElem?_cons_succ, List.set_cons_zero, List.set_cons_succ, true_and, and_true, not_true, not_false_eq_true, false_implies, true_implies, or_true, true_or, or_false, false_or, Bool.or_false, Bool.false_or, decide_false, decide_true, Nat.reduceLT, Nat.reduceLeDiff, Nat.reduceAdd, Nat.reduceSub, ↓reduceIte, Nat.reduceEqDiff, Nat.lt_add_one]
        rw [z_le (by omega) (by omega)]
        refine ⟨fun q => ?_, fun q => ?_⟩
        · have er : x_rk a k n = i + 1 := by omega
          rw [er, z_nat (by omega), Int.toNat_natCast, z_1]
          refine ⟨⟨512, t7, z_in (by omega) (by omega) (by decide)⟩, fun _ => ?_, fun q => absurd q ?_⟩
          · refine h1 (new hnew) _ _ ?_ ?_ ⟨?_, ?_, ?_, x_is_srt k4 hnew⟩ ?_ ?_
            · exact fr_u2 fr_refl (by simp)
            · exact fr_u2 hf (by simp)
            · rw [mz_u_eq]
            · intro t ht
              unfold x_is
              rw [er]
              by_cases c0 : t < i + 1
              · rw [if_pos c0, mz_u_nk (by omega)]; exact hlo t c0
              · rw [if_neg c0]
                by_cases c : t = i + 1
                · subst c; rw [if_pos rfl, mz_u_eq]
                · rw [if_neg c, mz_u_nk (by omega)]; exact hhi t (by omega) (by omega)
            · intro t ht
              unfold x_is
              split
              · exact k3 _ (by omega)
              · split
                · exact hk
                · exact k3 _ (by omega)
            · intro i a1 a2
              rw [mz_u_nk a1]
            · rw [if_neg (by omega), mz_u_nk (by decide)]
          · rw [l_0, z_eq (by omega) (by omega)]; omega
        · have e1 : zI ((i + 1 : Nat) : Int) - 1 = zI (i : Nat) := by rw [l_1, z_sub]; congr 1; omega
          have e2 : zI ((i + 1 : Nat) : Int) + -1 = zI (i : Nat) := by rw [l_m1, z_add]; congr 1; omega
          rw [e1, e2, z_nat (by omega), Int.toNat_natCast, z_nat (by omega), Int.toNat_natCast]
          refine ⟨⟨512, t7, z_in (by omega) (by omega) (by decide)⟩, ⟨512, t7, z_in (by omega) (by omega) (by decide)⟩, ?_⟩
          refine ih _ (by omega) (by omega) (fr_u2 hf (by simp)) (fun t ht => ?_) (fun t a1 a2 => ?_)
          · rw [mz_u_nk (by omega)]; exact hlo t (by omega)
          · by_cases c : t = i + 1
            · subst c; rw [mz_u_eq, Nat.add_sub_cancel]; exact hlo i (by omega)
            · rw [mz_u_nk c]; exact hhi t (by omega) a2
    refine mz_vc ok_X10_insert [75] [(), (), (), (), (), (), (), (), (), (), (), (), (), (), (), (), (), (), (), (), (), (), (), (), (), (), (), (), (), ()] ?_
    simp only [cd_X10_insert, s1, r9, k1, r_rn0, r_rnc, r_vk0, r_vkc, r_vks, r_kci, r_kcv, r_ild, r_ald, r_lld, r_dld, r_Li, r_La, r_Ll, r_Ld, r_Ki, r_Ka, r_Kl, r_Kd, r_Kn, r_ist, r_ast, r_lst, r_dst, r_iinc, r_int, r_lng, r_dbl, r_i2, r_i1, r_l2, r_lsh, r_i2z, r_l2z, r_i2l, r_l2i, r_i2d, r_lcmp, r_ddiv, r_dcmpl, r_dup, r_dup2, r_pop, r_one_int, r_one_ref, r_go, r_if, r_ic, r_tsw, r_lsw, r_sw0, r_swc, r_lk0, r_lkc, r_kp, r_gI, r_gL, r_gR, r_pI, r_pZ, r_pL, r_pR, r_gs, r_ia, r_ca, r_za, r_la, r_da, r_aa, r_ias, r_cas, r_zas, r_las, r_das, r_aas, r_acp, r_new, r_nwa, r_nwq, r_ret, r_irt, r_zrt, r_lrt, r_drt, r_art, r_thr, r_cV0, r_cV1, r_cV2, r_cV3, r_cV4, r_cV5, r_cI0, r_cS0, r_cS1, r_cS2, r_cS3, r_cX0, r_cX1, r_cX2, r_cX3, r_rc, r_oi, r_refx, r_i10, r_i01, r_rfs, r_mem0, r_memc, r_beq, r_kl0, r_klz, r_kl1i, r_kl1r, r_kl1n, r_kl1l, r_kl1d, List.length_cons, List.length_nil, List.getElem?_cons_zero, List.getElem?_cons_succ, List.set_cons_zero, List.set_cons_succ, true_and, and_true, not_true, not_false_eq_true, false_implies, true_implies, or_true, true_or, or_false, false_or, Bool.or_false, Bool.false_or, decide_false, decide_true, Nat.reduceLT, Nat.reduceLeDiff, Nat.reduceAdd, Nat.reduceSub, ↓reduceIte, Nat.reduceEqDiff, Nat.lt_add_one]
    exact loop n L hrl (Nat.le_refl _) fr_refl k2 (fun t a1 a2 => absurd a1 (by omega))
  have w31 : mz_W G M_X10_insert K mz_nX 49 [some (.ref (Y 0)), some (.long (zL (k : Nat))), none, some (.int (zI sp)), some (.int (zI (x_rk a k n : Nat))), none] [] T I L (0, 0) := by
    refine mz_vc ok_X10_insert [69] [(), (), (), (), (), (), (), (), (), (), (), (), (), (), (), (), (), (), (), (), (), (), (), (), (), (), (), (), (), ()] ?_
    simp only [cd_X10_insert, s1, r9, k1, r_rn0, r_rnc, r_vk0, r_vkc, r_vks, r_kci, r_kcv, r_ild, r_ald, r_lld, r_dld, r_Li, r_La, r_Ll, r_Ld, r_Ki, r_Ka, r_Kl, r_Kd, r_Kn, r_ist, r_ast, r_lst, r_dst, r_iinc, r_int, r_lng, r_dbl, r_i2, r_i1, r_l2, r_lsh, r_i2z, r_l2z, r_i2l, r_l2i, r_i2d, r_lcmp, r_ddiv, r_dcmpl, r_dup, r_dup2, r_pop, r_one_int, r_one_ref, r_go, r_if, r_ic, r_tsw, r_lsw, r_sw0, r_swc, r_lk0, r_lkc, r_kp, r_gI, r_gL, r_gR, r_pI, r_pZ, r_pL, r_pR, r_gs, r_ia, r_ca, r_za, r_la, r_da, r_aa, r_ias, r_cas, r_zas, r_las, r_das, r_aas, r_acp, r_new, r_nwa, r_nwq, r_ret, r_irt, r_zrt, r_lrt, r_drt, r_art, r_thr, r_cV0, r_cV1, r_cV2, r_cV3, r_cV4, r_cV5, r_cI0, r_cS0, r_cS1, r_cS2, r_cS3, r_cX0, r_cX1, r_cX2, r_cX3, r_rc, r_oi, r_refx, r_i10, r_i01, r_rfs, r_mem0, r_memc, r_beq, r_kl0, r_klz, r_kl1i, r_kl1r, r_kl1n, r_kl1l, r_kl1d, List.length_cons, List.length_nil, List.getElem?_cons_zero, List.getElem?_cons_succ, List.set_cons_zero, List.set_cons_succ, true_and, and_true, not_true, not_false_eq_true, false_implies, true_implies, or_true, true_or, or_false, false_or, Bool.or_false, Bool.false_or, decide_false, decide_true, Nat.reduceLT, Nat.reduceLeDiff, Nat.reduceAdd, Nat.reduceSub, ↓reduceIte, Nat.reduceEqDiff, Nat.lt_add_one]
    rw [l_0, z_le (by omega) (by omega)]
    refine ⟨fun q => w79 (Or.inl (by omega)), fun q => ?_⟩
    have e1 : zI ((x_rk a k n : Nat) : Int) - 1 = zI ((x_rk a k n - 1 : Nat) : Int) := by rw [l_1, z_sub]; congr 1; omega
    rw [e1, z_nat (by omega), Int.toNat_natCast, k2 _ (by omega)]
    have hx := k3 (x_rk a k n - 1) (by omega)
    refine ⟨⟨512, t7, z_in (by omega) (by omega) (by decide)⟩, ?_⟩
    rw [← l_0, lg_cmp_eq, w_eq (by omega) (by omega)]
    exact ⟨fun q2 => w79 (Or.inr (by omega)), fun q2 => h0 (old ⟨by omega, by omega⟩)⟩
  have loop1 : ∀ r, r ≤ n → x_rk a k r = x_rk a k n → mz_W G M_X10_insert K mz_nX 24 [some (.ref (Y 0)), some (.long (zL (k : Nat))), none, some (.int (zI sp)), some (.int (zI r)), none] [] T I L (0, 0) := by
    intro r
    induction r with
    | zero =>
      intro _ e
      have er : x_rk a k n = 0 := e.symm
      refine mz_vc ok_X10_insert [24, 49] [(), (), (), (), (), (), (), (), (), (), (), (), (), (), (), (), (), (), (), (), (), (), (), (), (), (), (), (), (), ()] ?_
      simp only [cd_X10_insert, s1, r9, k1, r_rn0, r_rnc, r_vk0, r_vkc, r_vks, r_kci, r_kcv, r_ild, r_ald, r_lld, r_dld, r_Li, r_La, r_Ll, r_Ld, r_Ki, r_Ka, r_Kl, r_Kd, r_Kn, r_ist, r_ast, r_lst, r_dst, r_iinc, r_int, r_lng, r_dbl, r_i2, r_i1, r_l2, r_lsh, r_i2z, r_l2z, r_i2l, r_l2i, r_i2d, r_lcmp, r_ddiv, r_dcmpl, r_dup, r_dup2, r_pop, r_one_int, r_one_ref, r_go, r_if, r_ic, r_tsw, r_lsw, r_sw0, r_swc, r_lk0, r_lkc, r_kp, r_gI, r_gL, r_gR, r_pI, r_pZ, r_pL, r_pR, r_gs, r_ia, r_ca, r_za, r_la, r_da, r_aa, r_ias, r_cas, r_zas, r_las, r_das, r_aas, r_acp, r_new, r_nwa, r_nwq, r_ret, r_irt, r_zrt, r_lrt, r_drt, r_art, r_thr, r_cV0, r_cV1, r_cV2, r_cV3, r_cV4, r_cV5, r_cI0, r_cS0, r_cS1, r_cS2, r_cS3, r_cX0, r_cX1, r_cX2, r_cX3, r_rc, r_oi, r_refx, r_i10, r_i01, r_rfs, r_mem0, r_memc, r_beq, r_kl0, r_klz, r_kl1i, r_kl1r, r_kl1n, r_kl1l, r_kl1d, List.length_cons, List.length_nil, List.getElem?_cons_zero, List.getElem?_cons_succ, List.set_cons_zero, List.set_cons_succ, true_and, and_true, not_true, not_false_eq_true, false_implies, true_implies, or_true, true_or, or_false, false_or, Bool.or_false, Bool.false_or, decide_false, decide_true, Nat.reduceLT, Nat.reduceLeDiff, Nat.reduceAdd, Nat.reduceSub, ↓reduceIte, Nat.reduceEqDiff, Nat.lt_add_one]
      refine ⟨fun _ => ?_, fun q => absurd (by decide) q⟩
      rw [er] at w31
      exact w31
    | succ r ih =>
      intro hr e
      refine mz_vc ok_X10_insert [24, 49] [(), (), (), (), (), (), (), (), (), (), (), (), (), (), (), (), (), (), (), (), (), (), (), (), (), (), (), (), (), ()] ?_
      simp only [cd_X10_insert, s1, r9, k1, r_rn0, r_rnc, r_vk0, r_vkc, r_vks, r_kci, r_kcv, r_ild, r_ald, r_lld, r_dld, r_Li, r_La, r_Ll, r_Ld, r_Ki, r_Ka, r_Kl, r_Kd, r_Kn, r_ist, r_ast, r_lst, r_dst, r_iinc, r_int, r_lng, r_dbl, r_i2, r_i1, r_l2, r_lsh, r_i2z, r_l2z, r_i2l, r_l2i, r_i2d, r_lcmp, r_ddiv, r_dcmpl, r_dup, r_dup2, r_pop, r_one_int, r_one_ref, r_go, r_if, r_ic, r_tsw, r_lsw, r_sw0, r_swc, r_lk0, r_lkc, r_kp, r_gI, r_gL, r_gR, r_pI, r_pZ, r_pL, r_pR, r_gs, r_ia, r_ca, r_za, r_la, r_da, r_aa, r_ias, r_cas, r_zas, r_las, r_das, r_aas, r_acp, r_new, r_nwa, r_nwq, r_ret, r_irt, r_zrt, r_lrt, r_drt, r_art, r_thr, r_cV0, r_cV1, r_cV2, r_cV3, r_cV4, r_cV5, r_cI0, r_cS0, r_cS1, r_cS2, r_cS3, r_cX0, r_cX1, r_cX2, r_cX3, r_rc, r_oi, r_refx, r_i10, r_i01, r_rfs, r_mem0, r_memc, r_beq, r_kl0, r_klz, r_kl1i, r_kl1r, r_kl1n, r_kl1l, r_kl1d, List.length_cons, List.length_nil, List.getElem?_cons_zero, List.getElem?_cons_succ, List.set_cons_zero, List.set_cons_succ, true_and, and_true, not_true, not_false_eq_true, false_implies, true_implies, or_true, true_or, or_false, false_or, Bool.or_false, Bool.false_or, decide_false, decide_true, Nat.reduceLT, Nat.reduceLeDiff, Nat.reduceAdd, Nat.reduceSub, ↓reduceIte, Nat.reduceEqDiff, Nat.lt_add_one]
      rw [l_0, z_le (by omega) (by omega)]
      refine ⟨fun q => absurd q (by omega), fun _ => ?_⟩
      have e1 : zI ((r + 1 : Nat) : Int) - 1 = zI (r : Nat) := by rw [l_1, z_sub]; congr 1; omega
      have e2 : zI ((r + 1 : Nat) : Int) + -1 = zI (r : Nat) := by rw [l_m1, z_add]; congr 1; omega
      have hx := k3 r (by omega)
      rw [← l_0, e1, e2, z_nat (by omega), Int.toNat_natCast, k2 r (by omega), lg_cmp_le, w_le (by omega) (by omega)]
      refine ⟨⟨512, t7, z_in (by omega) (by omega) (by decide)⟩, fun q => ?_, fun q => ?_⟩
      · have : x_rk a k (r + 1) = r + 1 := by unfold x_rk; rw [if_neg (by omega)]
        rw [← e, this] at w31
        exact w31
      · have : x_rk a k (r + 1) = x_rk a k r := by rw [x_rk, if_pos (by omega)]
        exact ih (by omega) (by rw [← this]; exact e)
  refine mz_ofl mk_X10_insert rfl (Nat.le_of_ble_eq_true rfl) (Nat.le_of_ble_eq_true rfl) [some (.ref (Y 0)), some (.long (zL (k : Nat))), none, some (.int (zI sp)), none, none] rfl ?_
  refine mz_vc ok_X10_insert [24] [(), (), (), (), (), (), (), (), (), (), (), (), (), (), (), (), (), (), (), (), (), (), (), (), (), (), (), (), (), ()] ?_
  simp only [cd_X10_insert, s1, r9, k1, r_rn0, r_rnc, r_vk0, r_vkc, r_vks, r_kci, r_kcv, r_ild, r_ald, r_lld, r_dld, r_Li, r_La, r_Ll, r_Ld, r_Ki, r_Ka, r_Kl, r_Kd, r_Kn, r_ist, r_ast, r_lst, r_dst, r_iinc, r_int, r_lng, r_dbl, r_i2, r_i1, r_l2, r_lsh, r_i2z, r_l2z, r_i2l, r_l2i, r_i2d, r_lcmp, r_ddiv, r_dcmpl, r_dup, r_dup2, r_pop, r_one_int, r_one_ref, r_go, r_if, r_ic, r_tsw, r_lsw, r_sw0, r_swc, r_lk0, r_lkc, r_kp, r_gI, r_gL, r_gR, r_pI, r_pZ, r_pL, r_pR, r_gs, r_ia, r_ca, r_za, r_la, r_da, r_aa, r_ias, r_cas, r_zas, r_las, r_das, r_aas, r_acp, r_new, r_nwa, r_nwq, r_ret, r_irt, r_zrt, r_lrt, r_drt, r_art, r_thr, r_cV0, r_cV1, r_cV2, r_cV3, r_cV4, r_cV5, r_cI0, r_cS0, r_cS1, r_cS2, r_cS3, r_cX0, r_cX1, r_cX2, r_cX3, r_rc, r_oi, r_refx, r_i10, r_i01, r_rfs, r_mem0, r_memc, r_beq, r_kl0, r_klz, r_kl1i, r_kl1r, r_kl1n, r_kl1l, r_kl1d, List.length_cons, List.length_nil, List.getElem?_cons_zero, List.getElem?_cons_succ, List.set_cons_zero, List.set_cons_succ, true_and, and_true, not_true, not_false_eq_true, false_implies, true_implies, or_true, true_or, or_false, false_or, Bool.or_false, Bool.false_or, decide_false, decide_true, Nat.reduceLT, Nat.reduceLeDiff, Nat.reduceAdd, Nat.reduceSub, ↓reduceIte, Nat.reduceEqDiff, Nat.lt_add_one]
  refine ⟨fun q => absurd q ?_, fun _ => ⟨fun _ => loop1 n (Nat.le_refl _) rfl, fun q => absurd ?_ q⟩⟩
  · rw [l_0, z_lt (by omega) (by omega)]; omega
  · rw [e512, z_lt (by omega) (by omega)]; omega
end INS
