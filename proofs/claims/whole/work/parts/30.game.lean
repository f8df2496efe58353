/-! a game, and the row of numbers that it answers to -/
abbrev z_A : Type := Nat → Nat
def z_A.g (A : z_A) : Nat := A 0
def z_A.f (A : z_A) : Nat := A 1
def z_A.k (A : z_A) : Nat := A 2
def z_A.x (A : z_A) : Nat := A 3
def z_A.p (A : z_A) : Nat := A 4
def z_A.b (A : z_A) : Nat := A 5
def z_A.v (A : z_A) : Nat := A 6
def z_A.s (A : z_A) : Nat := A 7
def z_A.c (A : z_A) : Nat := A 8
def z_A.l (A : z_A) : Nat := A 9
def z_A.all (A : z_A) : List Nat := [A.g, A.f, A.k, A.x, A.p, A.b, A.v, A.s, A.c, A.l]
def p_GA (T : mz_T) (A : z_A) : Prop := ((A.g, 0, 4) ∈ T.1 ∧ T.2 A.g 0 = some A.f ∧ T.2 A.g 1 = some A.x ∧ T.2 A.g 2 = some A.b ∧ T.2 A.g 3 = some A.s) ∧ p_Field T A.f A.k ∧ p_X T A.x A.p ∧ ((A.b, 0, 0) ∈ T.1 ∧ (A.v, 1, 5) ∈ T.1 ∧ T.2 A.b 0 = some A.v) ∧ p_S T A.s A.c A.l
/-- which cells of the reference's row are filled -/
def s_fm (m : Nat → Int32) (i : Nat) : Bool := decide (i < 220) && decide (m i ≠ 0)
def p_R (T : mz_T) (I : mz_I) (L : mz_L) (A : z_A) (B : Nat) (m : Nat → Int32) : Prop :=
  (p_GA T A) ∧
  (∀ i, i < 220 → I A.k i = m i - 1) ∧
  (∀ r, r < 22 → s_full (s_fm m) r = false) ∧
  (I A.g 6 = m 221 ∧ (m 221 = 0 ∨ m 221 = 1)) ∧
  (I A.g 4 = m 232 ∧ (m 232 = -1 ∨ ∃ kd : Nat, kd < 7 ∧ m 232 = zI kd)) ∧
  (I A.g 5 = 0 ∨ I A.g 5 = 1) ∧
  (∃ (kd s : Nat) (c r : Int), p_Pos T I A.p kd s c r ∧ (m 221 = 0 → (m 222 = zI kd ∧ m 223 = zI s ∧ m 224 = zI c ∧ m 225 = zI r) ∧ s_fit (s_fm m) kd s c r = true)) ∧
  (m 221 = 0 → (∀ i, 1 ≤ i → i ≤ 6 → I A.x i = m (225 + i)) ∧ I A.g 5 = m 233 ∧ (∃ n : Nat, n ≤ B ∧ m 229 = zI n) ∧ (m 226).toInt < 11 - (m 235).toInt) ∧
  (∃ z : Nat × Nat, m 267 = zI z.1 ∧ m 220 = zI z.2 ∧ p_Bags T I L A.b A.v z) ∧
  (I A.s 0 = m 234 ∧ I A.s 1 = m 236 ∧ I A.s 2 = m 237 ∧ I A.s 3 = m 238 ∧ I A.s 4 = m 239 ∧ I A.s 5 = m 240 ∧ I A.s 6 = m 241 ∧ I A.s 7 = m 242 ∧ I A.s 8 = m 266) ∧
  (m 235 = w_lv (m 236)) ∧
  (m 266 = 0 ∨ m 266 = 1) ∧
  (∃ n : Nat, n ≤ B ∧ m 237 = zI n ∧ (m 265 = 0 ↔ n = 0)) ∧
  (∀ sp n, sp < 3 → n < 5 → I A.c (5 * sp + n) = m (243 + 3 * n + sp)) ∧
  (m 265 ≠ 0 → ∀ w, w < 7 → I A.l w = m (258 + w))
theorem p_R.sh {T : mz_T} {I : mz_I} {L : mz_L} {A : z_A} {B : Nat} {m : Nat → Int32} (h : p_R T I L A B m) : p_GA T A := h.1
theorem p_R.fld {T : mz_T} {I : mz_I} {L : mz_L} {A : z_A} {B : Nat} {m : Nat → Int32} (h : p_R T I L A B m) : ∀ i, i < 220 → I A.k i = m i - 1 := h.2.1
theorem p_R.nof {T : mz_T} {I : mz_I} {L : mz_L} {A : z_A} {B : Nat} {m : Nat → Int32} (h : p_R T I L A B m) : ∀ r, r < 22 → s_full (s_fm m) r = false := h.2.2.1
theorem p_R.over {T : mz_T} {I : mz_I} {L : mz_L} {A : z_A} {B : Nat} {m : Nat → Int32} (h : p_R T I L A B m) : I A.g 6 = m 221 ∧ (m 221 = 0 ∨ m 221 = 1) := h.2.2.2.1
theorem p_R.held {T : mz_T} {I : mz_I} {L : mz_L} {A : z_A} {B : Nat} {m : Nat → Int32} (h : p_R T I L A B m) : I A.g 4 = m 232 ∧ (m 232 = -1 ∨ ∃ kd : Nat, kd < 7 ∧ m 232 = zI kd) := h.2.2.2.2.1
theorem p_R.used {T : mz_T} {I : mz_I} {L : mz_L} {A : z_A} {B : Nat} {m : Nat → Int32} (h : p_R T I L A B m) : I A.g 5 = 0 ∨ I A.g 5 = 1 := h.2.2.2.2.2.1
theorem p_R.pos {T : mz_T} {I : mz_I} {L : mz_L} {A : z_A} {B : Nat} {m : Nat → Int32} (h : p_R T I L A B m) : ∃ (kd s : Nat) (c r : Int), p_Pos T I A.p kd s c r ∧ (m 221 = 0 → (m 222 = zI kd ∧ m 223 = zI s ∧ m 224 = zI c ∧ m 225 = zI r) ∧ s_fit (s_fm m) kd s c r = true) := h.2.2.2.2.2.2.1
theorem p_R.live {T : mz_T} {I : mz_I} {L : mz_L} {A : z_A} {B : Nat} {m : Nat → Int32} (h : p_R T I L A B m) : m 221 = 0 → (∀ i, 1 ≤ i → i ≤ 6 → I A.x i = m (225 + i)) ∧ I A.g 5 = m 233 ∧ (∃ n : Nat, n ≤ B ∧ m 229 = zI n) ∧ (m 226).toInt < 11 - (m 235).toInt := h.2.2.2.2.2.2.2.1
theorem p_R.bags {T : mz_T} {I : mz_I} {L : mz_L} {A : z_A} {B : Nat} {m : Nat → Int32} (h : p_R T I L A B m) : ∃ z : Nat × Nat, m 267 = zI z.1 ∧ m 220 = zI z.2 ∧ p_Bags T I L A.b A.v z := h.2.2.2.2.2.2.2.2.1
theorem p_R.sc {T : mz_T} {I : mz_I} {L : mz_L} {A : z_A} {B : Nat} {m : Nat → Int32} (h : p_R T I L A B m) : I A.s 0 = m 234 ∧ I A.s 1 = m 236 ∧ I A.s 2 = m 237 ∧ I A.s 3 = m 238 ∧ I A.s 4 = m 239 ∧ I A.s 5 = m 240 ∧ I A.s 6 = m 241 ∧ I A.s 7 = m 242 ∧ I A.s 8 = m 266 := h.2.2.2.2.2.2.2.2.2.1
theorem p_R.lev {T : mz_T} {I : mz_I} {L : mz_L} {A : z_A} {B : Nat} {m : Nat → Int32} (h : p_R T I L A B m) : m 235 = w_lv (m 236) := h.2.2.2.2.2.2.2.2.2.2.1
theorem p_R.hard {T : mz_T} {I : mz_I} {L : mz_L} {A : z_A} {B : Nat} {m : Nat → Int32} (h : p_R T I L A B m) : m 266 = 0 ∨ m 266 = 1 := h.2.2.2.2.2.2.2.2.2.2.2.1
theorem p_R.pcs {T : mz_T} {I : mz_I} {L : mz_L} {A : z_A} {B : Nat} {m : Nat → Int32} (h : p_R T I L A B m) : ∃ n : Nat, n ≤ B ∧ m 237 = zI n ∧ (m 265 = 0 ↔ n = 0) := h.2.2.2.2.2.2.2.2.2.2.2.2.1
theorem p_R.cnt {T : mz_T} {I : mz_I} {L : mz_L} {A : z_A} {B : Nat} {m : Nat → Int32} (h : p_R T I L A B m) : ∀ sp n, sp < 3 → n < 5 → I A.c (5 * sp + n) = m (243 + 3 * n + sp) := h.2.2.2.2.2.2.2.2.2.2.2.2.2.1
theorem p_R.lat {T : mz_T} {I : mz_I} {L : mz_L} {A : z_A} {B : Nat} {m : Nat → Int32} (h : p_R T I L A B m) : m 265 ≠ 0 → ∀ w, w < 7 → I A.l w = m (258 + w) := h.2.2.2.2.2.2.2.2.2.2.2.2.2.2
section GAME
variable {G : mz_G} {K : mz_K} {T : mz_T} {I : mz_I} {L : mz_L}
theorem p_R_of {I' : mz_I} {L' : mz_L} {A A' : z_A} {B : Nat} {m : Nat → Int32} (h : p_R T I L A B m) (hA' : p_GA T A') (e1 : ∀ i, i < 220 → I' A'.k i = I A.k i) (e2 : ∀ i, i < 4 → I' A'.p i = I A.p i) (e3 : ∀ i, 1 ≤ i → i ≤ 6 → I' A'.x i = I A.x i) (e4 : ∀ i, i < 5 → I' A'.v i = I A.v i) (e5 : L' A'.b 1 = L A.b 1) (e6 : I' A'.b 2 = I A.b 2) (e7 : ∀ i, i < 9 → I' A'.s i = I A.s i) (e8 : ∀ i, i < 15 → I' A'.c i = I A.c i) (e9 : ∀ i, i < 7 → I' A'.l i = I A.l i) (e10 : ∀ i, 4 ≤ i → i ≤ 6 → I' A'.g i = I A.g i) : p_R T I' L' A' B m := by
  refine ⟨?_, ?_, ?_, ?_, ?_, ?_, ?_, ?_, ?_, ?_, ?_, ?_, ?_, ?_, ?_⟩
  · exact hA'
  · exact fun i hi => by rw [e1 i hi]; exact h.fld i hi
  · exact h.nof
  · exact by rw [e10 6 (by decide) (by decide)]; exact h.over
  · exact by rw [e10 4 (by decide) (by decide)]; exact h.held
  · exact by rw [e10 5 (by decide) (by decide)]; exact h.used
  · obtain ⟨kd, s, c, r, hp, ho⟩ := h.pos
    obtain ⟨h1, h2, h3, h4, h5, h6⟩ := hp
    exact ⟨kd, s, c, r, ⟨hA'.2.2.1.2.2, by rw [e2 0 (by decide)]; exact h2, by rw [e2 1 (by decide)]; exact h3, by rw [e2 2 (by decide)]; exact h4, by rw [e2 3 (by decide)]; exact h5, h6⟩, ho⟩
  · intro q
    obtain ⟨h1, h2, h3⟩ := h.live q
    exact ⟨fun i a b => by rw [e3 i a b]; exact h1 i a b, by rw [e10 5 (by decide) (by decide)]; exact h2, h3⟩
  · obtain ⟨z, h1, h2, h3, h4, h5, h6, h7⟩ := h.bags
    exact ⟨z, h1, h2, hA'.2.2.2.1, fun i hi => by rw [e4 i hi]; exact h4 i hi, by rw [e5]; exact h5, by rw [e6]; exact h6, h7⟩
  · rw [e7 0 (by decide), e7 1 (by decide), e7 2 (by decide), e7 3 (by decide), e7 4 (by decide), e7 5 (by decide), e7 6 (by decide), e7 7 (by decide), e7 8 (by decide)]
    exact h.sc
  · exact h.lev
  · exact h.hard
  · exact h.pcs
  · exact fun sp n a b => by rw [e8 _ (by omega)]; exact h.cnt sp n a b
  · exact fun q w hw => by rw [e9 w hw]; exact h.lat q w hw
theorem p_R_fr {I' : mz_I} {L' : mz_L} {A : z_A} {B : Nat} {m : Nat → Int32} (h : p_R T I L A B m) (e : ∀ a, a ∈ A.all → I' a = I a) (el : L' A.b = L A.b) : p_R T I' L' A B m := by
  have m0 : A.g ∈ A.all ∧ A.k ∈ A.all ∧ A.x ∈ A.all ∧ A.p ∈ A.all ∧ A.b ∈ A.all ∧ A.v ∈ A.all ∧ A.s ∈ A.all ∧ A.c ∈ A.all ∧ A.l ∈ A.all := by simp [z_A.all]
  obtain ⟨m1, m2, m3, m4, m5, m6, m7, m8, m9⟩ := m0
  exact p_R_of h h.sh (fun i _ => by rw [e _ m2]) (fun i _ => by rw [e _ m4]) (fun i _ _ => by rw [e _ m3]) (fun i _ => by rw [e _ m6]) (by rw [el]) (by rw [e _ m5]) (fun i _ => by rw [e _ m7]) (fun i _ => by rw [e _ m8]) (fun i _ => by rw [e _ m9]) (fun i _ _ => by rw [e _ m1])
theorem p_R_B {A : z_A} {B B' : Nat} {m : Nat → Int32} (h : p_R T I L A B m) (hB : B ≤ B') : p_R T I L A B' m := by
  refine ⟨h.sh, h.fld, h.nof, h.over, h.held, h.used, h.pos, ?_, h.bags, h.sc, h.lev, h.hard, ?_, h.cnt, h.lat⟩
  · intro q
    obtain ⟨h1, h2, ⟨n, h3, h4⟩, h5⟩ := h.live q
    exact ⟨h1, h2, ⟨n, Nat.le_trans h3 hB, h4⟩, h5⟩
  · obtain ⟨n, h3, h4⟩ := h.pcs
    exact ⟨n, Nat.le_trans h3 hB, h4⟩
theorem c_copyG {A A2 : z_A} {B : Nat} {m : Nat → Int32} (hA : p_GA T A) (hR : p_R T I L A2 B m)
    (h : ∀ I' L', fr I I' A.all → fr L L' [A.b] → p_R T I' L' A B m → (∀ i, 7 ≤ i → I' A.g i = I A.g i) → K none T I' L') : mz_Ctr G M_X4_copyFrom [.ref A.g, .ref A2.g] T I L K := by
  refine mz_apartC fun hU => ?_
  have ne : ∀ {a b : Nat} {x y : Nat × Nat}, (a, x) ∈ T.1 → (b, y) ∈ T.1 → x ≠ y → a ≠ b := fun a b c => mz_ne hU a b c
  have hA2 := hR.sh
  obtain ⟨⟨g1, g2, g3, g4, g5⟩, hF, hX, hB, hS⟩ := id hA
  obtain ⟨⟨j1, j2, j3, j4, j5⟩, iF, iX, iB, iS⟩ := id hA2
  obtain ⟨f1, f2, f3⟩ := id hF
  obtain ⟨x1, x2, x3⟩ := id hX
  obtain ⟨b1, b2, b3⟩ := id hB
  obtain ⟨s1, s2, s3, s4, s5⟩ := id hS
  obtain ⟨k1, k2, k3⟩ := id iF
  obtain ⟨y1, y2, y3⟩ := id iX
  obtain ⟨d1, d2, d3⟩ := id iB
  obtain ⟨t1, t2, t3, t4, t5⟩ := id iS
  obtain ⟨kd, st, c, r, hp, ho⟩ := hR.pos
  obtain ⟨z, z1, z2, hBg⟩ := hR.bags
  refine mz_ofl mk_X4_copyFrom rfl (Nat.le_of_ble_eq_true rfl) (Nat.le_of_ble_eq_true rfl) [some (.ref A.g), some (.ref A2.g)] rfl ?_
  refine mz_vc ok_X4_copyFrom [] [(), (), (), (), (), (), (), (), (), (), (), (), (), (), (), (), (), (), (), (), (), (), (), (), (), (), (), (), (), ()] ?_
  simp only [cd_X4_copyFrom, g1, g2, g3, g4, g5, j1, j2, j3, j4, j5, f1, x1, b1, s1, k1, y1, d1, t1, r_rn0, r_rnc, r_vk0, r_vkc, r_vks, r_kci, r_kcv, r_ild, r_ald, r_lld, r_dld, r_Li, r_La, r_Ll, r_Ld, r_Ki, r_Ka, r_Kl, r_Kd, r_Kn, r_ist, r_ast, r_lst, r_dst, r_iinc, r_int, r_lng, r_dbl, r_i2, r_i1, r_l2, r_lsh, r_i2z, r_l2z, r_i2l, r_l2i, r_i2d, r_lcmp, r_ddiv, r_dcmpl, r_dup, r_dup2, r_pop, r_one_int, r_one_ref, r_go, r_if, r_ic, r_tsw, r_lsw, r_sw0, r_swc, r_lk0, r_lkc, r_kp, r_gI, r_gL, r_gR, r_pI, r_pZ, r_pL, r_pR, r_gs, r_ia, r_ca, r_za, r_la, r_da, r_aa, r_ias, r_cas, r_zas, r_las, r_das, r_aas, r_acp, r_new, r_nwa, r_nwq, r_ret, r_irt, r_zrt, r_lrt, r_drt, r_art, r_thr, r_cV0, r_cV1, r_cV2, r_cV3, r_cV4, r_cV5, r_cI0, r_cS0, r_cS1, r_cS2, r_cS3, r_cX0, r_cX1, r_cX2, r_cX3, r_rc, r_oi, r_refx, r_i10, r_i01, r_rfs, r_mem0, r_memc, r_beq, r_kl0, r_klz, r_kl1i, r_kl1r, r_kl1n, r_kl1l, r_kl1d, List.length_cons, List.length_nil, List.getElem?_cons_zero, List.getElem?_cons_succ, List.set_cons_zero, List.set_cons_succ, true_and, and_true, not_true, not_false_eq_true, false_implies, true_implies, or_true, true_or, or_false, false_or, Bool.or_false, Bool.false_or, decide_false, decide_true, Nat.reduceLT, Nat.reduceLeDiff, Nat.reduceAdd, Nat.reduceSub, ↓reduceIte, Nat.reduceEqDiff, Nat.lt_add_one]
  refine c_copyF hF iF ?_
  simp only [cd_X4_copyFrom, g1, g2, g3, g4, g5, j1, j2, j3, j4, j5, f1, x1, b1, s1, k1, y1, d1, t1, r_rn0, r_rnc, r_vk0, r_vkc, r_vks, r_kci, r_kcv, r_ild, r_ald, r_lld, r_dld, r_Li, r_La, r_Ll, r_Ld, r_Ki, r_Ka, r_Kl, r_Kd, r_Kn, r_ist, r_ast, r_lst, r_dst, r_iinc, r_int, r_lng, r_dbl, r_i2, r_i1, r_l2, r_lsh, r_i2z, r_l2z, r_i2l, r_l2i, r_i2d, r_lcmp, r_ddiv, r_dcmpl, r_dup, r_dup2, r_pop, r_one_int, r_one_ref, r_go, r_if, r_ic, r_tsw, r_lsw, r_sw0, r_swc, r_lk0, r_lkc, r_kp, r_gI, r_gL, r_gR, r_pI, r_pZ, r_pL, r_pR, r_gs, r_ia, r_ca, r_za, r_la, r_da, r_aa, r_ias, r_cas, r_zas, r_las, r_das, r_aas, r_acp, r_new, r_nwa, r_nwq, r_ret, r_irt, r_zrt, r_lrt, r_drt, r_art, r_thr, r_cV0, r_cV1, r_cV2, r_cV3, r_cV4, r_cV5, r_cI0, r_cS0, r_cS1, r_cS2, r_cS3, r_cX0, r_cX1, r_cX2, r_cX3, r_rc, r_oi, r_refx, r_i10, r_i01, r_rfs, r_mem0, r_memc, r_beq, r_kl0, r_klz, r_kl1i, r_kl1r, r_kl1n, r_kl1l, r_kl1d, List.length_cons, List.length_nil, List.getElem?_cons_zero, List.getElem?_cons_succ, List.set_cons_zero, List.set_cons_succ, true_and, and_true, not_true, not_false_eq_true, false_implies, true_implies, or_true, true_or, or_false, false_or, Bool.or_false, Bool.false_or, decide_false, decide_true, Nat.reduceLT, Nat.reduceLeDiff, Nat.reduceAdd, Nat.reduceSub, ↓reduceIte, Nat.reduceEqDiff, Nat.lt_add_one]
  -- the field is copied
  have q1 : fr I (mz_row I A.k (va_cpy (I A2.k) (I A.k) 0 0 220)) [A.k] := fr_row
  have hp1 : p_Pos T (mz_row I A.k (va_cpy (I A2.k) (I A.k) 0 0 220)) A2.p kd st c r := by
    obtain ⟨e1, e2, e3, e4, e5, e6⟩ := hp
    have e := fr_ne1 q1 (ne y3 f2 (by decide))
    exact ⟨e1, by rw [e]; exact e2, by rw [e]; exact e3, by rw [e]; exact e4, by rw [e]; exact e5, e6⟩
  refine c_copyX hX iX hp1 (fun I2 q2 hp2 hx2 => ?_)
  simp only [cd_X4_copyFrom, g1, g2, g3, g4, g5, j1, j2, j3, j4, j5, f1, x1, b1, s1, k1, y1, d1, t1, r_rn0, r_rnc, r_vk0, r_vkc, r_vks, r_kci, r_kcv, r_ild, r_ald, r_lld, r_dld, r_Li, r_La, r_Ll, r_Ld, r_Ki, r_Ka, r_Kl, r_Kd, r_Kn, r_ist, r_ast, r_lst, r_dst, r_iinc, r_int, r_lng, r_dbl, r_i2, r_i1, r_l2, r_lsh, r_i2z, r_l2z, r_i2l, r_l2i, r_i2d, r_lcmp, r_ddiv, r_dcmpl, r_dup, r_dup2, r_pop, r_one_int, r_one_ref, r_go, r_if, r_ic, r_tsw, r_lsw, r_sw0, r_swc, r_lk0, r_lkc, r_kp, r_gI, r_gL, r_gR, r_pI, r_pZ, r_pL, r_pR, r_gs, r_ia, r_ca, r_za, r_la, r_da, r_aa, r_ias, r_cas, r_zas, r_las, r_das, r_aas, r_acp, r_new, r_nwa, r_nwq, r_ret, r_irt, r_zrt, r_lrt, r_drt, r_art, r_thr, r_cV0, r_cV1, r_cV2, r_cV3, r_cV4, r_cV5, r_cI0, r_cS0, r_cS1, r_cS2, r_cS3, r_cX0, r_cX1, r_cX2, r_cX3, r_rc, r_oi, r_refx, r_i10, r_i01, r_rfs, r_mem0, r_memc, r_beq, r_kl0, r_klz, r_kl1i, r_kl1r, r_kl1n, r_kl1l, r_kl1d, List.length_cons, List.length_nil, List.getElem?_cons_zero, List.getElem?_cons_succ, List.set_cons_zero, List.set_cons_succ, true_and, and_true, not_true, not_false_eq_true, false_implies, true_implies, or_true, true_or, or_false, false_or, Bool.or_false, Bool.false_or, decide_false, decide_true, Nat.reduceLT, Nat.reduceLeDiff, Nat.reduceAdd, Nat.reduceSub, ↓reduceIte, Nat.reduceEqDiff, Nat.lt_add_one]
  have f12 : fr I I2 [A.k, A.x, A.p] := fr_tr q1 q2 (by simp) (by simp)
  have hB2 : p_Bags T I2 L A2.b A2.v z := by
    obtain ⟨e1, e2, e3, e4, e5⟩ := hBg
    have ev : I2 A2.v = I A2.v := f12 _ (by simp; exact ⟨ne d2 f2 (by decide), ne d2 x1 (by decide), ne d2 x3 (by decide)⟩)
    have eb : I2 A2.b = I A2.b := f12 _ (by simp; exact ⟨ne d1 f2 (by decide), ne d1 x1 (by decide), ne d1 x3 (by decide)⟩)
    exact ⟨e1, fun i hi => by rw [ev]; exact e2 i hi, e3, by rw [eb]; exact e4, e5⟩
  refine c_copyB b1 b2 b3 hB2 (fun I3 L3 q3 ql3 hb3 => ?_)
  simp only [cd_X4_copyFrom, g1, g2, g3, g4, g5, j1, j2, j3, j4, j5, f1, x1, b1, s1, k1, y1, d1, t1, r_rn0, r_rnc, r_vk0, r_vkc, r_vks, r_kci, r_kcv, r_ild, r_ald, r_lld, r_dld, r_Li, r_La, r_Ll, r_Ld, r_Ki, r_Ka, r_Kl, r_Kd, r_Kn, r_ist, r_ast, r_lst, r_dst, r_iinc, r_int, r_lng, r_dbl, r_i2, r_i1, r_l2, r_lsh, r_i2z, r_l2z, r_i2l, r_l2i, r_i2d, r_lcmp, r_ddiv, r_dcmpl, r_dup, r_dup2, r_pop, r_one_int, r_one_ref, r_go, r_if, r_ic, r_tsw, r_lsw, r_sw0, r_swc, r_lk0, r_lkc, r_kp, r_gI, r_gL, r_gR, r_pI, r_pZ, r_pL, r_pR, r_gs, r_ia, r_ca, r_za, r_la, r_da, r_aa, r_ias, r_cas, r_zas, r_las, r_das, r_aas, r_acp, r_new, r_nwa, r_nwq, r_ret, r_irt, r_zrt, r_lrt, r_drt, r_art, r_thr, r_cV0, r_cV1, r_cV2, r_cV3, r_cV4, r_cV5, r_cI0, r_cS0, r_cS1, r_cS2, r_cS3, r_cX0, r_cX1, r_cX2, r_cX3, r_rc, r_oi, r_refx, r_i10, r_i01, r_rfs, r_mem0, r_memc, r_beq, r_kl0, r_klz, r_kl1i, r_kl1r, r_kl1n, r_kl1l, r_kl1d, List.length_cons, List.length_nil, List.getElem?_cons_zero, List.getElem?_cons_succ, List.set_cons_zero, List.set_cons_succ, true_and, and_true, not_true, not_false_eq_true, false_implies, true_implies, or_true, true_or, or_false, false_or, Bool.or_false, Bool.false_or, decide_false, decide_true, Nat.reduceLT, Nat.reduceLeDiff, Nat.reduceAdd, Nat.reduceSub, ↓reduceIte, Nat.reduceEqDiff, Nat.lt_add_one]
  have f13 : fr I I3 [A.k, A.x, A.p, A.b, A.v] := fr_tr f12 q3 (by simp) (by simp)
  have es2 : I3 A2.s = I A2.s := f13 _ (by simp; exact ⟨ne t1 f2 (by decide), ne t1 x1 (by decide), ne t1 x3 (by decide), ne t1 b1 (by decide), ne t1 b2 (by decide)⟩)
  have ec2 : I3 A2.c = I A2.c := f13 _ (by simp; exact ⟨ne t2 f2 (by decide), ne t2 x1 (by decide), ne t2 x3 (by decide), ne t2 b1 (by decide), ne t2 b2 (by decide)⟩)
  have el2 : I3 A2.l = I A2.l := f13 _ (by simp; exact ⟨ne t3 f2 (by decide), ne t3 x1 (by decide), ne t3 x3 (by decide), ne t3 b1 (by decide), ne t3 b2 (by decide)⟩)
  refine c_copyS hS iS ?_ (fun I4 q4 hs4 hc4 hl4 => ?_)
  · rw [es2, hR.sc.2.2.2.2.2.2.2.2]; exact hR.hard
  have f14 : fr I I4 [A.k, A.x, A.p, A.b, A.v, A.s, A.c, A.l] := fr_tr f13 q4 (by simp) (by simp)
  have eg2 : I4 A2.g = I A2.g := f14 _ (by simp; exact ⟨ne j1 f2 (by decide), ne j1 x1 (by decide), ne j1 x3 (by decide), ne j1 b1 (by decide), ne j1 b2 (by decide), ne j1 s1 (by decide), ne j1 s2 (by decide), ne j1 s3 (by decide)⟩)
  have eg1 : I4 A.g = I A.g := f14 _ (by simp; exact ⟨ne g1 f2 (by decide), ne g1 x1 (by decide), ne g1 x3 (by decide), ne g1 b1 (by decide), ne g1 b2 (by decide), ne g1 s1 (by decide), ne g1 s2 (by decide), ne g1 s3 (by decide)⟩)
  simp only [cd_X4_copyFrom, g1, g2, g3, g4, g5, j1, j2, j3, j4, j5, f1, x1, b1, s1, k1, y1, d1, t1, r_rn0, r_rnc, r_vk0, r_vkc, r_vks, r_kci, r_kcv, r_ild, r_ald, r_lld, r_dld, r_Li, r_La, r_Ll, r_Ld, r_Ki, r_Ka, r_Kl, r_Kd, r_Kn, r_ist, r_ast, r_lst, r_dst, r_iinc, r_int, r_lng, r_dbl, r_i2, r_i1, r_l2, r_lsh, r_i2z, r_l2z, r_i2l, r_l2i, r_i2d, r_lcmp, r_ddiv, r_dcmpl, r_dup, r_dup2, r_pop, r_one_int, r_one_ref, r_go, r_if, r_ic, r_tsw, r_lsw, r_sw0, r_swc, r_lk0, r_lkc, r_kp, r_gI, r_gL, r_gR, r_pI, r_pZ, r_pL, r_pR, r_gs, r_ia, r_ca, r_za, r_la, r_da, r_aa, r_ias, r_cas, r_zas, r_las, r_das, r_aas, r_acp, r_new, r_nwa, r_nwq, r_ret, r_irt, r_zrt, r_lrt, r_drt, r_art, r_thr, r_cV0, r_cV1, r_cV2, r_cV3, r_cV4, r_cV5, r_cI0, r_cS0, r_cS1, r_cS2, r_cS3, r_cX0, r_cX1, r_cX2, r_cX3, r_rc, r_oi, r_refx, r_i10, r_i01, r_rfs, r_mem0, r_memc, r_beq, r_kl0, r_klz, r_kl1i, r_kl1r, r_kl1n, r_kl1l, r_kl1d, List.length_cons, List.length_nil, List.getElem?_cons_zero, List.getElem?_cons_succ, List.set_cons_zero, List.set_cons_succ, true_and, and_true, not_true, not_false_eq_true, false_implies, true_implies, or_true, true_or, or_false, false_or, Bool.or_false, Bool.false_or, decide_false, decide_true, Nat.reduceLT, Nat.reduceLeDiff, Nat.reduceAdd, Nat.reduceSub, ↓reduceIte, Nat.reduceEqDiff, Nat.lt_add_one]
  simp only [mz_u_at, Nat.reduceEqDiff, and_false, if_false, eg2]
  refine ⟨hR.used, ?_, ?_⟩
  · rw [hR.over.1]; exact hR.over.2
  have mm : A.g ∈ A.all ∧ A.k ∈ A.all ∧ A.x ∈ A.all ∧ A.p ∈ A.all ∧ A.b ∈ A.all ∧ A.v ∈ A.all ∧ A.s ∈ A.all ∧ A.c ∈ A.all ∧ A.l ∈ A.all := by simp [z_A.all]
  obtain ⟨m1, m2, m3, m4, m5, m6, m7, m8, m9⟩ := mm
  have n1 : A.k ≠ A.g := ne f2 g1 (by decide)
  have n2 : A.x ≠ A.g := ne x1 g1 (by decide)
  have n3 : A.p ≠ A.g := ne x3 g1 (by decide)
  have n4 : A.b ≠ A.g := ne b1 g1 (by decide)
  have n5 : A.v ≠ A.g := ne b2 g1 (by decide)
  have n6 : A.s ≠ A.g := ne s1 g1 (by decide)
  have n7 : A.c ≠ A.g := ne s2 g1 (by decide)
  have n8 : A.l ≠ A.g := ne s3 g1 (by decide)
  have ek : I4 A.k = va_cpy (I A2.k) (I A.k) 0 0 220 := by
    rw [q4 _ (by simp; exact ⟨ne f2 s1 (by decide), ne f2 s2 (by decide), ne f2 s3 (by decide)⟩), q3 _ (by simp; exact ⟨ne f2 b1 (by decide), ne f2 b2 (by decide)⟩), q2 _ (by simp; exact ⟨ne f2 x1 (by decide), ne f2 x3 (by decide)⟩), mz_row_eq]
  have f24 : fr I2 I4 [A.b, A.v, A.s, A.c, A.l] := fr_tr q3 q4 (by simp) (by simp)
  have ep : I4 A.p = I2 A.p := f24 _ (by simp; exact ⟨ne x3 b1 (by decide), ne x3 b2 (by decide), ne x3 s1 (by decide), ne x3 s2 (by decide), ne x3 s3 (by decide)⟩)
  have ex : I4 A.x = I2 A.x := f24 _ (by simp; exact ⟨ne x1 b1 (by decide), ne x1 b2 (by decide), ne x1 s1 (by decide), ne x1 s2 (by decide), ne x1 s3 (by decide)⟩)
  have ev : I4 A.v = I3 A.v := q4 _ (by simp; exact ⟨ne b2 s1 (by decide), ne b2 s2 (by decide), ne b2 s3 (by decide)⟩)
  have eb : I4 A.b = I3 A.b := q4 _ (by simp; exact ⟨ne b1 s1 (by decide), ne b1 s2 (by decide), ne b1 s3 (by decide)⟩)
  have f1 : fr I I4 A.all := fr_tr f14 fr_refl (fun a q => by simp at q; rcases q with q | q | q | q | q | q | q | q <;> subst q <;> assumption) (fun _ q => q)
  refine h _ L3 (fr_u2 (fr_u2 (fr_u2 f1 m1) m1) m1) ql3 ?_ (fun i hi => ?_)
  · obtain ⟨y1, y2, y3, y4, y5, y6⟩ := hp2
    obtain ⟨w1, w2, w3, w4, w5, w6⟩ := hp
    obtain ⟨v1, v2, v3, v4, v5⟩ := hb3
    obtain ⟨u1, u2, u3, u4, u5⟩ := hBg
    have ex2 : mz_row I A.k (va_cpy (I A2.k) (I A.k) 0 0 220) A2.x = I A2.x := mz_row_ne (ne (by assumption) f2 (by decide))
    rw [ex2] at hx2
    refine p_R_of hR hA ?_ ?_ ?_ ?_ ?_ ?_ ?_ ?_ ?_ ?_
    · intro i hi
      rw [mz_u_ne n1, mz_u_ne n1, mz_u_ne n1, ek]
      unfold va_cpy
      rw [if_pos (by omega)]
      congr 1; omega
    · intro i hi
      rw [mz_u_ne n3, mz_u_ne n3, mz_u_ne n3, ep]
      have : i = 0 ∨ i = 1 ∨ i = 2 ∨ i = 3 := by omega
      rcases this with e | e | e | e <;> subst e
      · rw [y2, w2]
      · rw [y3, w3]
      · rw [y4, w4]
      · rw [y5, w5]
    · intro i a b
      rw [mz_u_ne n2, mz_u_ne n2, mz_u_ne n2, ex]
      obtain ⟨c1, c2, c3, c4, c5, c6⟩ := hx2
      have : i = 1 ∨ i = 2 ∨ i = 3 ∨ i = 4 ∨ i = 5 ∨ i = 6 := by omega
      rcases this with e | e | e | e | e | e <;> subst e <;> assumption
    · intro i hi
      rw [mz_u_ne n5, mz_u_ne n5, mz_u_ne n5, ev, v2 i hi, u2 i hi]
    · rw [v3, u3]
    · rw [mz_u_ne n4, mz_u_ne n4, mz_u_ne n4, eb, v4, u4]
    · intro i hi
      rw [mz_u_ne n6, mz_u_ne n6, mz_u_ne n6, hs4 i hi, es2]
    · intro i hi
      rw [mz_u_ne n7, mz_u_ne n7, mz_u_ne n7, hc4 i hi, ec2]
    · intro i hi
      rw [mz_u_ne n8, mz_u_ne n8, mz_u_ne n8, hl4 i hi, el2]
    · intro i a b
      have : i = 4 ∨ i = 5 ∨ i = 6 := by omega
      rcases this with e | e | e <;> subst e <;> simp [mz_u_at]
  · have a1 : ¬ i = 4 := by omega
    have a2 : ¬ i = 5 := by omega
    have a3 : ¬ i = 6 := by omega
    rw [mz_u_nk a3, mz_u_nk a2, mz_u_nk a1, eg1]
end GAME
