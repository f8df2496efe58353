/-! the engine: a new piece -/
section APPEAR
variable {G : mz_G} {K : mz_K} {T : mz_T} {I : mz_I} {L : mz_L}
/-- a game that waits for its next piece -/
def p_Q (T : mz_T) (I : mz_I) (L : mz_L) (A : z_A) (B : Nat) (m : Nat → Int32) : Prop :=
  (p_GA T A ∧ (∀ i, i < 220 → I A.k i = m i - 1) ∧ (∀ r, r < 22 → s_full (s_fm m) r = false)) ∧
  (I A.g 6 = 0 ∧ m 221 = 0) ∧ (I A.g 4 = m 232 ∧ (m 232 = -1 ∨ ∃ kd : Nat, kd < 7 ∧ m 232 = zI kd)) ∧ ((I A.g 5 = 0 ∨ I A.g 5 = 1) ∧ I A.g 5 = m 233) ∧
  (∃ z : Nat × Nat, m 267 = zI z.1 ∧ m 220 = zI z.2 ∧ p_Bags T I L A.b A.v z) ∧
  (I A.s 0 = m 234 ∧ I A.s 1 = m 236 ∧ I A.s 2 = m 237 ∧ I A.s 3 = m 238 ∧ I A.s 4 = m 239 ∧ I A.s 5 = m 240 ∧ I A.s 6 = m 241 ∧ I A.s 7 = m 242 ∧ I A.s 8 = m 266) ∧
  m 235 = w_lv (m 236) ∧ (m 266 = 0 ∨ m 266 = 1) ∧ (∃ n : Nat, n ≤ B ∧ m 237 = zI n ∧ (m 265 = 0 ↔ n = 0)) ∧
  (∀ sp n, sp < 3 → n < 5 → I A.c (5 * sp + n) = m (243 + 3 * n + sp)) ∧ (m 265 ≠ 0 → ∀ w, w < 7 → I A.l w = m (258 + w))
def o_app (m : Nat → Int32) (kd : Nat) : Nat → Int32 := m_u (m_u (m_u (m_u (m_u (m_u (m_u (m_u (m_u (m_u m 222 (zI kd)) 223 0) 224 (zI (s_c0 kd))) 225 (zI (s_r0 kd))) 226 0) 227 0) 228 0) 229 0) 230 (zI (s_r0 kd))) 231 (-1)
theorem app_out {m : Nat → Int32} {kd j : Nat} (h : j < 222 ∨ 231 < j) : o_app m kd j = m j := by
  unfold o_app
  rw [m_u_ne (by omega), m_u_ne (by omega), m_u_ne (by omega), m_u_ne (by omega), m_u_ne (by omega), m_u_ne (by omega), m_u_ne (by omega), m_u_ne (by omega), m_u_ne (by omega), m_u_ne (by omega)]
theorem app_in {m : Nat → Int32} {kd : Nat} : o_app m kd 222 = zI kd ∧ o_app m kd 223 = 0 ∧ o_app m kd 224 = zI (s_c0 kd) ∧ o_app m kd 225 = zI (s_r0 kd) ∧ o_app m kd 226 = 0 ∧ o_app m kd 227 = 0 ∧ o_app m kd 228 = 0 ∧ o_app m kd 229 = 0 ∧ o_app m kd 230 = zI (s_r0 kd) ∧ o_app m kd 231 = -1 := by
  simp [o_app, m_u]
theorem s_0b {kd : Nat} : (3 ≤ s_c0 kd ∧ s_c0 kd ≤ 4) ∧ (18 ≤ s_r0 kd ∧ s_r0 kd ≤ 20) := by
  unfold s_c0 s_r0
  constructor
  · split <;> omega
  · split <;> (try split) <;> omega
def o_fits (m : Nat → Int32) (kd : Nat) : Bool := s_fit (s_fm m) kd 0 (s_c0 kd) (s_r0 kd)
theorem live_R {A : z_A} {B kd : Nat} {m : Nat → Int32} {I' : mz_I} (hU : ∀ a x y, (a, x) ∈ T.1 → (a, y) ∈ T.1 → x = y) (h : p_Q T I L A B m) (hf : fr I I' [A.x, A.p]) (hp : p_Pos T I' A.p kd 0 (s_c0 kd) (s_r0 kd)) (hx : I' A.x 1 = 0 ∧ I' A.x 2 = 0 ∧ I' A.x 3 = 0 ∧ I' A.x 4 = 0 ∧ I' A.x 5 = zI (s_r0 kd) ∧ I' A.x 6 = -1) (hfit : o_fits m kd = true) : p_R T I' L A B (o_app m kd) := by
  obtain ⟨⟨hA, hfld, hnof⟩, ⟨ho1, ho2⟩, hh, ⟨hu1, hu2⟩, ⟨z, z1, z2, z3, z4, z5, z6, z7⟩, hsc, hlev, hhard, hpcs, hcnt, hlat⟩ := h
  obtain ⟨⟨g1, g2, g3, g4, g5⟩, ⟨f1, f2, f3⟩, ⟨x1, x2, x3⟩, ⟨b1, b2, b3⟩, ⟨s1, s2, s3, s4, s5⟩⟩ := id hA
  have n0 : ∀ {a : Nat} {x : Nat × Nat}, (a, x) ∈ T.1 → x ≠ (0, 7) → x ≠ (0, 8) → I' a = I a := fun {a x} q e1 e2 => hf a (by simp; exact ⟨mz_ne hU q x1 e1, mz_ne hU q x3 e2⟩)
  have em : s_fm (o_app m kd) = s_fm m := s_fm_eq (fun i hi => app_out (by omega))
  have ek := n0 f2 (by decide) (by decide)
  have eg := n0 g1 (by decide) (by decide)
  have eb := n0 b1 (by decide) (by decide)
  have ev := n0 b2 (by decide) (by decide)
  have es := n0 s1 (by decide) (by decide)
  have ec := n0 s2 (by decide) (by decide)
  have el := n0 s3 (by decide) (by decide)
  obtain ⟨a1, a2, a3, a4, a5, a6, a7, a8, a9, a10⟩ := app_in (m := m) (kd := kd)
  refine ⟨hA, ?_, ?_, ?_, ?_, ?_, ?_, ?_, ?_, ?_, ?_, ?_, ?_, ?_, ?_⟩
  · intro i hi; rw [ek, app_out (by omega)]; exact hfld i hi
  · rw [em]; exact hnof
  · rw [eg, app_out (by decide), ho1, ho2]; exact ⟨rfl, Or.inl rfl⟩
  · rw [eg, app_out (by decide)]; exact hh
  · rw [eg]; exact hu1
  · exact ⟨kd, 0, _, _, hp, fun _ => ⟨⟨a1, a2, a3, a4⟩, by rw [em]; exact hfit⟩⟩
  · intro q
    refine ⟨fun i a b => ?_, by rw [eg, app_out (by decide)]; exact hu2, ⟨0, Nat.zero_le _, by rw [a8]; rfl⟩, ?_⟩
    · obtain ⟨c1, c2, c3, c4, c5, c6⟩ := hx
      have : i = 1 ∨ i = 2 ∨ i = 3 ∨ i = 4 ∨ i = 5 ∨ i = 6 := by omega
      rcases this with e | e | e | e | e | e <;> subst e
      · rw [c1, a5]
      · rw [c2, a6]
      · rw [c3, a7]
      · rw [c4, a8]
      · rw [c5, a9]
      · rw [c6, a10]
    · rw [a5, app_out (by decide), hlev]
      have := w_lv_le (x := m 236)
      have e8 : (0 : Int32).toInt = 0 := rfl
      omega
  · exact ⟨z, by rw [app_out (by decide)]; exact z1, by rw [app_out (by decide)]; exact z2, z3, by rw [ev]; exact z4, z5, by rw [eb]; exact z6, z7⟩
  · rw [es, app_out (by decide), app_out (by decide), app_out (by decide), app_out (by decide), app_out (by decide), app_out (by decide), app_out (by decide), app_out (by decide), app_out (by decide)]
    exact hsc
  · rw [app_out (by decide), app_out (by decide)]; exact hlev
  · rw [app_out (by decide)]; exact hhard
  · rw [app_out (by decide), app_out (by decide)]; exact hpcs
  · intro sp n a b
    rw [ec, app_out (by omega)]; exact hcnt sp n a b
  · rw [app_out (by decide), el]
    intro q w hw
    rw [app_out (by omega)]; exact hlat q w hw
/-- a game that is over: what is told of its piece is nothing -/
theorem dead_R {A : z_A} {B : Nat} {m m' : Nat → Int32} {I' : mz_I} (hU : ∀ a x y, (a, x) ∈ T.1 → (a, y) ∈ T.1 → x = y) (h : p_Q T I L A B m) (hf : fr I I' [A.x, A.p, A.g]) (hp : ∃ (kd s : Nat) (c r : Int), p_Pos T I' A.p kd s c r) (hg : I' A.g 4 = I A.g 4 ∧ (I' A.g 5 = 0 ∨ I' A.g 5 = 1) ∧ I' A.g 6 = 1) (hm : ∀ j, j < 221 ∨ (231 < j ∧ j ≠ 233) → m' j = m j) (ho : m' 221 = 1) : p_R T I' L A B m' := by
  obtain ⟨⟨hA, hfld, hnof⟩, ⟨ho1, ho2⟩, hh, ⟨hu1, hu2⟩, ⟨z, z1, z2, z3, z4, z5, z6, z7⟩, hsc, hlev, hhard, hpcs, hcnt, hlat⟩ := h
  obtain ⟨⟨g1, g2, g3, g4, g5⟩, ⟨f1, f2, f3⟩, ⟨x1, x2, x3⟩, ⟨b1, b2, b3⟩, ⟨s1, s2, s3, s4, s5⟩⟩ := id hA
  have n0 : ∀ {a : Nat} {x : Nat × Nat}, (a, x) ∈ T.1 → x ≠ (0, 7) → x ≠ (0, 8) → x ≠ (0, 4) → I' a = I a := fun {a x} q e1 e2 e3 => hf a (by simp; exact ⟨mz_ne hU q x1 e1, mz_ne hU q x3 e2, mz_ne hU q g1 e3⟩)
  have em : s_fm m' = s_fm m := s_fm_eq (fun i hi => hm i (by omega))
  have ek := n0 f2 (by decide) (by decide) (by decide)
  have eb := n0 b1 (by decide) (by decide) (by decide)
  have ev := n0 b2 (by decide) (by decide) (by decide)
  have es := n0 s1 (by decide) (by decide) (by decide)
  have ec := n0 s2 (by decide) (by decide) (by decide)
  have el := n0 s3 (by decide) (by decide) (by decide)
  have o1 : ¬ m' 221 = 0 := by rw [ho]; decide
  refine ⟨hA, ?_, ?_, ?_, ?_, hg.2.1, ?_, ?_, ?_, ?_, ?_, ?_, ?_, ?_, ?_⟩
  · intro i hi; rw [ek, hm i (by omega)]; exact hfld i hi
  · rw [em]; exact hnof
  · rw [hg.2.2, ho]; exact ⟨rfl, Or.inr rfl⟩
  · rw [hg.1, hm 232 (by decide)]; exact hh
  · obtain ⟨kd, s, c, r, hp⟩ := hp
    exact ⟨kd, s, c, r, hp, fun q => absurd q o1⟩
  · intro q; exact absurd q o1
  · exact ⟨z, by rw [hm 267 (by decide)]; exact z1, by rw [hm 220 (by decide)]; exact z2, z3, by rw [ev]; exact z4, z5, by rw [eb]; exact z6, z7⟩
  · rw [es, hm 234 (by decide), hm 236 (by decide), hm 237 (by decide), hm 238 (by decide), hm 239 (by decide), hm 240 (by decide), hm 241 (by decide), hm 242 (by decide), hm 266 (by decide)]
    exact hsc
  · rw [hm 235 (by decide), hm 236 (by decide)]; exact hlev
  · rw [hm 266 (by decide)]; exact hhard
  · rw [hm 237 (by decide), hm 265 (by decide)]; exact hpcs
  · intro sp n a b
    rw [ec, hm _ (by omega)]; exact hcnt sp n a b
  · rw [hm 265 (by decide), el]
    intro q w hw
    rw [hm _ (by omega)]; exact hlat q w hw
/-- all addresses of the records -/
def z_rec (Aj : Nat → z_A) : List Nat := (List.range 6).flatMap (fun j => (Aj j).all)
theorem z_rec_mem {Aj : Nat → z_A} {a : Nat} : a ∈ z_rec Aj ↔ ∃ j, j < 6 ∧ a ∈ (Aj j).all := by
  simp [z_rec, List.mem_flatMap]
end APPEAR
