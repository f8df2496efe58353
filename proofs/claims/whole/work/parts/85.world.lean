/-! the world of the law: the class's objects (V, A, Aj, sn, Y) beside the reference's (D) -/
section WORLD
variable {G : mz_G} {K : mz_K} {X : mz_X} {T : mz_T} {I : mz_I} {L : mz_L}
/-- all addresses of the class that may change -/
def w_CA (V : Nat → Nat) (A : z_A) (Aj : Nat → z_A) (sn : z_A) (Y : Nat → Nat) : List Nat := [V 2, V 7, V 8, V 9, Y 0, Y 2, Y 4, Y 5, Y 6, Y 7, Y 8] ++ (A.all ++ (z_rec Aj ++ sn.all))
def w_CL (A : z_A) (Aj : Nat → z_A) (sn : z_A) (Y : Nat → Nat) : List Nat := Y 9 :: (A.all ++ (z_rec Aj ++ sn.all))
def w_MA (D : Nat → Nat) : List Nat := [D 0, D 1, D 2, D 3, D 5, D 6, D 8, D 9, D 10, D 11, D 12, D 13, D 14, D 16, D 17, D 19, D 20, D 22, D 23]
/-- V: 0 the object, 1 engine, 2 memory, 3 its row of games, 4 finesse, 5 its table, 6 the raised field, 7 its row, 8 text, 9 its signs, 10 and 11 the law's rows for answers -/
def w_Sh (T : mz_T) (V : Nat → Nat) (A : z_A) (Aj : Nat → z_A) (sn : z_A) (Y D : Nat → Nat) : Prop :=
  ((V 0, 0, 11) ∈ T.1 ∧ T.2 (V 0) 0 = some (V 1) ∧ T.2 (V 0) 1 = some A.g ∧ T.2 (V 0) 2 = some (V 8)) ∧
  (p_E T (V 1) A ∧ T.2 (V 1) 1 = some (V 2) ∧ T.2 (V 1) 2 = some (V 4) ∧ T.2 (V 1) 3 = some (Y 0) ∧ T.2 (V 1) 4 = some (V 6)) ∧
  ((V 4, 0, 3) ∈ T.1 ∧ T.2 (V 4) 0 = some (V 5) ∧ (V 5, 1, 448) ∈ T.1) ∧ p_Field T (V 6) (V 7) ∧ p_Tx T (V 8) (V 9) ∧
  ((V 10, 2, 1) ∈ T.1 ∧ (V 11, 3, 1) ∈ T.1) ∧ p_Mo T D ∧
  ((∀ j, j < 6 → z_dj (Aj j) A) ∧ z_dj A sn ∧ z_dj sn A ∧ (∀ j, j < 6 → z_dj (Aj j) sn)) ∧
  (∀ a, a ∈ [V 7, Y 2, Y 4, Y 5, Y 6] → a ∉ A.all ∧ (∀ j, j < 6 → a ∉ (Aj j).all) ∧ a ∉ sn.all) ∧ (V 7 ≠ Y 2 ∧ V 7 ≠ Y 4) ∧
  (∀ a, a ∈ w_CA V A Aj sn Y → a ∉ w_MA D) ∧ (V 5 ∉ w_CA V A Aj sn Y ∧ V 5 ∉ w_MA D)
/-- the class's part -/
def w_C (T : mz_T) (I : mz_I) (L : mz_L) (V : Nat → Nat) (A : z_A) (Aj : Nat → z_A) (sn : z_A) (Y : Nat → Nat) (B : Nat) (m : Nat → Int32) (many : Nat) (rr : Nat → Nat → Int32) (has : Bool) (ms : Nat → Int32) (s0 s1 dly lim : Int32) (n : Nat) (cs : Nat → Int32) (fl : Int32) : Prop :=
  p_R T I L A B m ∧ (∃ nw, p_M T I L (V 2) (V 3) Aj nw many B rr) ∧ p_N T I L (V 2) sn has B ms s0 s1 ∧ (I A.g 7 = dly ∧ I A.g 8 = lim) ∧ (∀ j, j < 448 → I (V 5) j = f_lt j) ∧ p_Se T I L Y ∧ (I (V 8) 3 = zI n ∧ n ≤ 60 ∧ I (V 8) 2 = fl ∧ (∀ i, i < 60 → I (V 9) i = cs i) ∧ I (V 8) 1 = cs 60)
theorem p_N_fr {I' : mz_I} {L' : mz_L} {me : Nat} {sn : z_A} {has : Bool} {B : Nat} {m : Nat → Int32} {s0 s1 : Int32} (h : p_N T I L me sn has B m s0 s1) (h4 : I' me 4 = I me 4) (hf : ∀ a, a ∈ sn.all → I' a = I a) (hl : ∀ a, a ∈ sn.all → L' a = L a) : p_N T I' L' me sn has B m s0 s1 := by
  obtain ⟨h1, h2, h3⟩ := h
  have eg := hf sn.g z_gm
  exact ⟨h1, by rw [h4]; exact h2, fun q => by
    obtain ⟨a, b, c⟩ := h3 q
    exact ⟨p_R_fr a (fun a ha => hf a ha) (hl _ z_bm), by rw [eg]; exact b, by rw [eg]; exact c⟩⟩
theorem p_N_B {me : Nat} {sn : z_A} {has : Bool} {B B' : Nat} {m : Nat → Int32} {s0 s1 : Int32} (h : p_N T I L me sn has B m s0 s1) (hB : B ≤ B') : p_N T I L me sn has B' m s0 s1 := by
  obtain ⟨h1, h2, h3⟩ := h
  exact ⟨h1, h2, fun q => by
    obtain ⟨a, b, c⟩ := h3 q
    exact ⟨p_R_B a hB, b, c⟩⟩
theorem x_Kn_fr {I' : mz_I} {L' : mz_L} {Y : Nat → Nat} {m : Nat → Int32} {n : Nat} {a : Nat → Nat} {b : s_P} (h : x_Kn T I L Y m n a b) (h0 : I' (Y 0) = I (Y 0)) (h2 : I' (Y 2) = I (Y 2)) (h5 : I' (Y 5) = I (Y 5)) (h9 : L' (Y 9) = L (Y 9)) : x_Kn T I' L' Y m n a b := by
  obtain ⟨k1, k2, k3, k4, k5, ⟨w1, w2, w3, w4, w5, w6⟩, ⟨k7, k8⟩, k9, k10⟩ := h
  exact ⟨by rw [h0]; exact k1, k2, k3, k4, by rw [h2]; exact k5, ⟨w1, by rw [h5]; exact w2, by rw [h5]; exact w3, by rw [h5]; exact w4, by rw [h5]; exact w5, w6⟩, ⟨by rw [h0]; exact k7, by rw [h9]; exact k8⟩, k9, by rw [h0]; exact k10⟩
theorem p_Se_fr {I' : mz_I} {L' : mz_L} {Y : Nat → Nat} (h : p_Se T I L Y) (h0 : I' (Y 0) = I (Y 0)) (h2 : I' (Y 2) = I (Y 2)) (h5 : I' (Y 5) = I (Y 5)) (h9 : L' (Y 9) = L (Y 9)) : p_Se T I' L' Y := by
  obtain ⟨h1, h3⟩ := h
  refine ⟨h1, ?_⟩
  rcases h3 with q | ⟨m, n, a, b, q⟩
  · left; rw [h0]; exact q
  · right; exact ⟨m, n, a, b, x_Kn_fr q h0 h2 h5 h9⟩
theorem z_all_ne {A : z_A} (hU : ∀ a x y, (a, x) ∈ T.1 → (a, y) ∈ T.1 → x = y) (hA : p_GA T A) {a : Nat} {x : Nat × Nat} (h : (a, x) ∈ T.1) (hx : x ∉ z_sh) : a ∉ A.all := z_out hU hA h hx
/-- a step of the game -/
theorem w_C_G {V : Nat → Nat} {A : z_A} {Aj : Nat → z_A} {sn : z_A} {Y D : Nat → Nat} {B B' many many' n : Nat} {m m' : Nat → Int32} {rr rr' : Nat → Nat → Int32} {has : Bool} {ms : Nat → Int32} {s0 s1 dly lim : Int32} {cs : Nat → Int32} {fl : Int32} {I' : mz_I} {L' : mz_L} (hU : ∀ a x y, (a, x) ∈ T.1 → (a, y) ∈ T.1 → x = y) (hS : w_Sh T V A Aj sn Y D) (h : w_C T I L V A Aj sn Y B m many rr has ms s0 s1 dly lim n cs fl) (hB : B ≤ B') (g1 : fr I I' (V 2 :: (A.all ++ z_rec Aj))) (g2 : fr L L' (A.b :: z_rec Aj)) (g3 : p_R T I' L' A B' m') (g4 : ∃ nw', p_M T I' L' (V 2) (V 3) Aj nw' many' B' rr') (g6 : ∀ i, 3 ≤ i → I' (V 2) i = I (V 2) i) :
    w_C T I' L' V A Aj sn Y B' m' many' rr' has ms s0 s1 (I' A.g 7) (I' A.g 8) n cs fl ∧ fr I I' (w_CA V A Aj sn Y) ∧ fr L L' (w_CL A Aj sn Y) := by
  obtain ⟨c1, ⟨nw, c2⟩, c3, ⟨c4, c4'⟩, c5, c6, ⟨c7, c8, c9, c10⟩⟩ := h
  obtain ⟨-, -, ⟨f1, f2, f3⟩, -, ⟨tx1, tx2, tx3⟩, -, -, ⟨d1, d2, d3, d4⟩, d5, -, -, ⟨v5, -⟩⟩ := id hS
  have hA := c1.sh
  have hAj := c2.1.2.2.2.1
  have hme := c2.1.1
  have out : ∀ a, a ∉ A.all → (∀ j, j < 6 → a ∉ (Aj j).all) → a ≠ V 2 → I' a = I a := fun a h1 h2 h3 => g1 a (by
    simp only [List.mem_cons, List.mem_append, z_rec_mem, not_or]
    exact ⟨h3, h1, fun ⟨j, hj, ha⟩ => h2 j hj ha⟩)
  have outL : ∀ a, a ∉ A.all → (∀ j, j < 6 → a ∉ (Aj j).all) → L' a = L a := fun a h1 h2 => g2 a (by
    simp only [List.mem_cons, z_rec_mem, not_or]
    exact ⟨fun e => h1 (by rw [e]; exact z_bm), fun ⟨j, hj, ha⟩ => h2 j hj ha⟩)
  have ty : ∀ {a : Nat} {x : Nat × Nat}, (a, x) ∈ T.1 → x ∉ z_sh → a ∉ A.all ∧ (∀ j, j < 6 → a ∉ (Aj j).all) := fun q hx => ⟨z_out hU hA q hx, fun j hj => z_out hU (hAj j hj).2 q hx⟩
  have hY := c6.1
  obtain ⟨y1, -, ⟨t1, t2, t3, t4, t5, t6, t7⟩, -⟩ := id hY
  have eY0 : I' (Y 0) = I (Y 0) := out _ (ty y1 (by decide)).1 (ty y1 (by decide)).2 (mz_ne hU y1 hme (by decide))
  have eY9 : L' (Y 9) = L (Y 9) := outL _ (ty t7 (by decide)).1 (ty t7 (by decide)).2
  have eY2 : I' (Y 2) = I (Y 2) := out _ (d5 _ (by simp)).1 (d5 _ (by simp)).2.1 (mz_ne hU t1.2.1 hme (by decide))
  have eY5 : I' (Y 5) = I (Y 5) := out _ (d5 _ (by simp)).1 (d5 _ (by simp)).2.1 (mz_ne hU t3 hme (by decide))
  have esn : ∀ a, a ∈ sn.all → I' a = I a ∧ L' a = L a := fun a ha => by
    have h1 : a ∉ A.all := fun q => d2 a q ha
    have h2 : ∀ j, j < 6 → a ∉ (Aj j).all := fun j hj q => d4 j hj a q ha
    refine ⟨out a h1 h2 ?_, outL a h1 h2⟩
    intro e
    exact z_out hU c3.1.2.2 hme (by decide) (by rw [← e]; exact ha)
  have e8 : I' (V 8) = I (V 8) := out _ (ty tx1 (by decide)).1 (ty tx1 (by decide)).2 (mz_ne hU tx1 hme (by decide))
  have e9 : I' (V 9) = I (V 9) := out _ (ty tx3 (by decide)).1 (ty tx3 (by decide)).2 (mz_ne hU tx3 hme (by decide))
  have e5 : I' (V 5) = I (V 5) := out _ (ty f3 (by decide)).1 (ty f3 (by decide)).2 (mz_ne hU f3 hme (by decide))
  refine ⟨⟨g3, g4, p_N_B (p_N_fr c3 (g6 4 (by decide)) (fun a ha => (esn a ha).1) (fun a ha => (esn a ha).2)) hB, ⟨rfl, rfl⟩, by rw [e5]; exact c5, p_Se_fr c6 eY0 eY2 eY5 eY9, ⟨by rw [e8]; exact c7, c8, by rw [e8]; exact c9, by rw [e9]; exact c10.1, by rw [e8]; exact c10.2⟩⟩, ?_, ?_⟩
  · refine fr_tr g1 fr_refl (fun a ha => ?_) (fun _ q => q)
    unfold w_CA
    simp only [List.mem_cons, List.mem_append] at ha ⊢
    rcases ha with e | e | e
    · exact Or.inl (Or.inl e)
    · exact Or.inr (Or.inl e)
    · exact Or.inr (Or.inr (Or.inl e))
  · refine fr_tr g2 fr_refl (fun a ha => ?_) (fun _ q => q)
    unfold w_CL
    simp only [List.mem_cons, List.mem_append] at ha ⊢
    rcases ha with e | e
    · exact Or.inr (Or.inl (by rw [e]; exact z_bm))
    · exact Or.inr (Or.inr (Or.inl e))
theorem w_C_Go {V : Nat → Nat} {A : z_A} {Aj : Nat → z_A} {sn : z_A} {Y D : Nat → Nat} {B B' many many' n : Nat} {m m' : Nat → Int32} {rr rr' : Nat → Nat → Int32} {has : Bool} {ms : Nat → Int32} {s0 s1 dly lim : Int32} {cs : Nat → Int32} {fl : Int32} {I' : mz_I} {L' : mz_L} (hU : ∀ a x y, (a, x) ∈ T.1 → (a, y) ∈ T.1 → x = y) (hS : w_Sh T V A Aj sn Y D) (h : w_C T I L V A Aj sn Y B m many rr has ms s0 s1 dly lim n cs fl) (hB : B ≤ B') (hG : p_Go T I L I' L' A (V 2) (V 3) Aj many' B' m' rr') :
    w_C T I' L' V A Aj sn Y B' m' many' rr' has ms s0 s1 dly lim n cs fl ∧ fr I I' (w_CA V A Aj sn Y) ∧ fr L L' (w_CL A Aj sn Y) := by
  obtain ⟨g1, g2, g3, g4, g5, g6⟩ := hG
  have := w_C_G hU hS h hB g1 g2 g3 g4 g6
  rw [g5 7 (by decide), g5 8 (by decide), h.2.2.2.1.1, h.2.2.2.1.2] at this
  exact this
/-- FROM A WALK TO A CONTRACT, of a method that may throw, and of one with a table -/
theorem mz_ofXl {M : mz_M} {av : List Value} (hp9 : plainName (mz_my M).cls = true) (ht : mz_mt M = []) (hl1 : (lg_sl av).length ≤ mz_mL M) (hl2 : (mz_ar av).length ≤ mz_mL M) (lv : List (Option Value)) (hlv : mz_lv0 av (mz_mL M) = lv) (h : mz_W G M K X 0 lv [] T I L (0, 0)) : mz_CtrX G M av T I L K X :=
  mz_ofX hp9 ht hl1 hl2 (by rw [hlv]; exact h)
theorem mz_ofHl {M : mz_M} {av : List Value} (hp9 : plainName (mz_my M).cls = true) (hl1 : (lg_sl av).length ≤ mz_mL M) (hl2 : (mz_ar av).length ≤ mz_mL M) (lv : List (Option Value)) (hlv : mz_lv0 av (mz_mL M) = lv) (h : mz_W G M K mz_nX 0 lv [] T I L (0, 0)) : mz_CtrW G M av T I L K :=
  mz_ofH hp9 hl1 hl2 (by rw [hlv]; exact h)
def xI : String := "java/lang/IllegalArgumentException"
def xS : String := "java/lang/IllegalStateException"
theorem c_needRange {fb : Nat} {v lo hi : Int32} (h1 : (lo ≤ v ∧ v ≤ hi) → K none T I L) (h2 : ¬ (lo ≤ v ∧ v ≤ hi) → X "java/lang/IllegalArgumentException" T I L) : mz_CtrX G M_X11_needRange [.ref fb, .int v, .int lo, .int hi] T I L K X := by
  refine mz_ofXl (by decide +kernel) rfl (Nat.le_of_ble_eq_true rfl) (Nat.le_of_ble_eq_true rfl) [some (.ref fb), some (.int v), some (.int lo), some (.int hi)] rfl ?_
  refine mz_vc ok_X11_needRange [] [(), (), (), (), (), (), (), (), (), (), (), (), (), (), (), (), (), (), (), (), (), (), (), (), (), (), (), (), (), ()] ?_
  simp only [cd_X11_needRange, r_rn0, r_rnc, r_vk0, r_vkc, r_vks, r_kci, r_kcv, r_ild, r_ald, r_lld, r_dld, r_Li, r_La, r_Ll, r_Ld, r_Ki, r_Ka, r_Kl, r_Kd, r_Kn, r_ist, r_ast, r_lst, r_dst, r_iinc, r_int, r_lng, r_dbl, r_i2, r_i1, r_l2, r_lsh, r_i2z, r_l2z, r_i2l, r_l2i, r_i2d, r_lcmp, r_ddiv, r_dcmpl, r_dup, r_dup2, r_pop, r_one_int, r_one_ref, r_go, r_if, r_ic, r_tsw, r_lsw, r_sw0, r_swc, r_lk0, r_lkc, r_kp, r_gI, r_gL, r_gR, r_pI, r_pZ, r_pL, r_pR, r_gs, r_ia, r_ca, r_za, r_la, r_da, r_aa, r_ias, r_cas, r_zas, r_las, r_das, r_aas, r_acp, r_new, r_nwa, r_nwq, r_ret, r_irt, r_zrt, r_lrt, r_drt, r_art, r_thr, r_cV0, r_cV1, r_cV2, r_cV3, r_cV4, r_cV5, r_cI0, r_cS0, r_cS1, r_cS2, r_cS3, r_cX0, r_cX1, r_cX2, r_cX3, r_rc, r_oi, r_refx, r_i10, r_i01, r_rfs, r_mem0, r_memc, r_beq, r_kl0, r_klz, r_kl1i, r_kl1r, r_kl1n, r_kl1l, r_kl1d, List.length_cons, List.length_nil, List.getElem?_cons_zero, List.getElem?_cons_succ, List.set_cons_zero, List.set_cons_succ, true_and, and_true, not_true, not_false_eq_true, false_implies, true_implies, or_true, true_or, or_false, false_or, Bool.or_false, Bool.false_or, decide_false, decide_true, Nat.reduceLT, Nat.reduceLeDiff, Nat.reduceAdd, Nat.reduceSub, ↓reduceIte, Nat.reduceEqDiff, Nat.lt_add_one]
  refine ⟨fun q => h2 (fun e => Int32.not_le.mpr q e.1), fun q => ⟨fun q2 => h1 ⟨Int32.not_lt.mp q, q2⟩, fun q2 => h2 (fun e => q2 e.2)⟩⟩
theorem c_needDir {fb : Nat} {v : Int32} (h1 : (v = -1 ∨ v = 1) → K none T I L) (h2 : ¬ (v = -1 ∨ v = 1) → X "java/lang/IllegalArgumentException" T I L) : mz_CtrX G M_X11_needDirection [.ref fb, .int v] T I L K X := by
  refine mz_ofXl (by decide +kernel) rfl (Nat.le_of_ble_eq_true rfl) (Nat.le_of_ble_eq_true rfl) [some (.ref fb), some (.int v)] rfl ?_
  refine mz_vc ok_X11_needDirection [] [(), (), (), (), (), (), (), (), (), (), (), (), (), (), (), (), (), (), (), (), (), (), (), (), (), (), (), (), (), ()] ?_
  simp only [cd_X11_needDirection, r_rn0, r_rnc, r_vk0, r_vkc, r_vks, r_kci, r_kcv, r_ild, r_ald, r_lld, r_dld, r_Li, r_La, r_Ll, r_Ld, r_Ki, r_Ka, r_Kl, r_Kd, r_Kn, r_ist, r_ast, r_lst, r_dst, r_iinc, r_int, r_lng, r_dbl, r_i2, r_i1, r_l2, r_lsh, r_i2z, r_l2z, r_i2l, r_l2i, r_i2d, r_lcmp, r_ddiv, r_dcmpl, r_dup, r_dup2, r_pop, r_one_int, r_one_ref, r_go, r_if, r_ic, r_tsw, r_lsw, r_sw0, r_swc, r_lk0, r_lkc, r_kp, r_gI, r_gL, r_gR, r_pI, r_pZ, r_pL, r_pR, r_gs, r_ia, r_ca, r_za, r_la, r_da, r_aa, r_ias, r_cas, r_zas, r_las, r_das, r_aas, r_acp, r_new, r_nwa, r_nwq, r_ret, r_irt, r_zrt, r_lrt, r_drt, r_art, r_thr, r_cV0, r_cV1, r_cV2, r_cV3, r_cV4, r_cV5, r_cI0, r_cS0, r_cS1, r_cS2, r_cS3, r_cX0, r_cX1, r_cX2, r_cX3, r_rc, r_oi, r_refx, r_i10, r_i01, r_rfs, r_mem0, r_memc, r_beq, r_kl0, r_klz, r_kl1i, r_kl1r, r_kl1n, r_kl1l, r_kl1d, List.length_cons, List.length_nil, List.getElem?_cons_zero, List.getElem?_cons_succ, List.set_cons_zero, List.set_cons_succ, true_and, and_true, not_true, not_false_eq_true, false_implies, true_implies, or_true, true_or, or_false, false_or, Bool.or_false, Bool.false_or, decide_false, decide_true, Nat.reduceLT, Nat.reduceLeDiff, Nat.reduceAdd, Nat.reduceSub, ↓reduceIte, Nat.reduceEqDiff, Nat.lt_add_one]
  refine ⟨fun q => h1 (Or.inl q), fun q => ⟨fun q2 => h1 (Or.inr q2), fun q2 => h2 (fun e => e.elim q q2)⟩⟩
theorem c_needCell {fb : Nat} {c r : Int32} (h1 : d_ic c r = true → K none T I L) (h2 : d_ic c r = false → X "java/lang/IndexOutOfBoundsException" T I L) : mz_CtrX G M_X11_needCell [.ref fb, .int c, .int r] T I L K X := by
  refine mz_ofXl (by decide +kernel) rfl (Nat.le_of_ble_eq_true rfl) (Nat.le_of_ble_eq_true rfl) [some (.ref fb), some (.int c), some (.int r)] rfl ?_
  refine mz_vc ok_X11_needCell [] [(), (), (), (), (), (), (), (), (), (), (), (), (), (), (), (), (), (), (), (), (), (), (), (), (), (), (), (), (), ()] ?_
  simp only [cd_X11_needCell, r_rn0, r_rnc, r_vk0, r_vkc, r_vks, r_kci, r_kcv, r_ild, r_ald, r_lld, r_dld, r_Li, r_La, r_Ll, r_Ld, r_Ki, r_Ka, r_Kl, r_Kd, r_Kn, r_ist, r_ast, r_lst, r_dst, r_iinc, r_int, r_lng, r_dbl, r_i2, r_i1, r_l2, r_lsh, r_i2z, r_l2z, r_i2l, r_l2i, r_i2d, r_lcmp, r_ddiv, r_dcmpl, r_dup, r_dup2, r_pop, r_one_int, r_one_ref, r_go, r_if, r_ic, r_tsw, r_lsw, r_sw0, r_swc, r_lk0, r_lkc, r_kp, r_gI, r_gL, r_gR, r_pI, r_pZ, r_pL, r_pR, r_gs, r_ia, r_ca, r_za, r_la, r_da, r_aa, r_ias, r_cas, r_zas, r_las, r_das, r_aas, r_acp, r_new, r_nwa, r_nwq, r_ret, r_irt, r_zrt, r_lrt, r_drt, r_art, r_thr, r_cV0, r_cV1, r_cV2, r_cV3, r_cV4, r_cV5, r_cI0, r_cS0, r_cS1, r_cS2, r_cS3, r_cX0, r_cX1, r_cX2, r_cX3, r_rc, r_oi, r_refx, r_i10, r_i01, r_rfs, r_mem0, r_memc, r_beq, r_kl0, r_klz, r_kl1i, r_kl1r, r_kl1n, r_kl1l, r_kl1d, List.length_cons, List.length_nil, List.getElem?_cons_zero, List.getElem?_cons_succ, List.set_cons_zero, List.set_cons_succ, true_and, and_true, not_true, not_false_eq_true, false_implies, true_implies, or_true, true_or, or_false, false_or, Bool.or_false, Bool.false_or, decide_false, decide_true, Nat.reduceLT, Nat.reduceLeDiff, Nat.reduceAdd, Nat.reduceSub, ↓reduceIte, Nat.reduceEqDiff, Nat.lt_add_one]
  have ec : (10 ≤ c) ↔ ¬ (c ≤ 9) := by rw [z_leF, z_leF, show (10 : Int32).toInt = 10 from rfl, show (9 : Int32).toInt = 9 from rfl]; omega
  have er : (r < 22) ↔ (r ≤ 21) := by rw [z_ltF, z_leF, show (22 : Int32).toInt = 22 from rfl, show (21 : Int32).toInt = 21 from rfl]; omega
  unfold d_ic at h1 h2
  refine ⟨fun q => h2 ?_, fun q => ⟨fun q2 => h2 ?_, fun q2 => ⟨fun q3 => h2 ?_, fun q3 => ⟨fun q4 => h1 ?_, fun q4 => h2 ?_⟩⟩⟩⟩
  · rw [decide_eq_false (Int32.not_le.mpr q)]; rfl
  · rw [decide_eq_false (ec.mp q2), Bool.and_false]; rfl
  · rw [decide_eq_false (Int32.not_le.mpr q3), Bool.false_and, Bool.and_false]
  · rw [decide_eq_true (Int32.not_lt.mp q), decide_eq_true (Decidable.byContradiction (fun e => q2 (ec.mpr e))), decide_eq_true (Int32.not_lt.mp q3), decide_eq_true (er.mp q4)]; rfl
  · rw [decide_eq_false (fun e => q4 (er.mpr e)), Bool.and_false, Bool.and_false]
end WORLD
