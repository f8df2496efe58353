/-! behind a lock the game waits for its next piece -/
section LOCKQ
variable {G : mz_G} {K : mz_K} {T : mz_T} {I : mz_I} {L : mz_L}
/-- the row behind a lock, ahead of the next piece -/
def o_lock1 (m : Nat → Int32) (le : Int32) : Nat → Int32 := m_u (o_score (o_clear (o_fill m)) (m_n (o_fill m)) (m_spin m) (decide (s_fc (s_fm (o_clear (o_fill m))) 22 = 0)) le) 233 0
theorem fill_out {m : Nat → Int32} {j : Nat} (h : 220 ≤ j) : o_clear (o_fill m) j = m j := by
  unfold o_clear o_fill
  rw [if_neg (by omega), if_neg (by omega)]
theorem lock_Q {A : z_A} {B : Nat} {m : Nat → Int32} {I' : mz_I} {le : Int32} (hU : ∀ a x y, (a, x) ∈ T.1 → (a, y) ∈ T.1 → x = y) (h : p_R T I L A B m) (hl : m 221 = 0) (hB : B < 1000000000) (hf : fr I I' [A.k, A.s, A.c, A.l, A.g])
    (hk : ∀ i, i < 220 → I' A.k i = o_clear (o_fill m) i - 1)
    (hs : I' A.s 0 = I A.s 0 + w_w2 (m_n (o_fill m)) (m_spin m) (w_hard (m_n (o_fill m)) (m_spin m) && decide (m 266 = 1)) (w_cb (I A.s 3) (m_n (o_fill m))) (decide (s_fc (s_fm (o_clear (o_fill m))) 22 = 0)) * w_lv (I A.s 1) ∧ I' A.s 1 = I A.s 1 + zI (m_n (o_fill m)) ∧ I' A.s 2 = I A.s 2 + 1 ∧ I' A.s 3 = w_cb (I A.s 3) (m_n (o_fill m)) ∧ I' A.s 4 = (if I A.s 4 < w_cb (I A.s 3) (m_n (o_fill m)) then w_cb (I A.s 3) (m_n (o_fill m)) else I A.s 4) ∧ I' A.s 5 = I A.s 5 + w_flt (m 229) le ∧ I' A.s 6 = I A.s 6 + m 229 ∧ I' A.s 7 = I A.s 7 ∧ I' A.s 8 = if 0 < m_n (o_fill m) then b2i (w_hard (m_n (o_fill m)) (m_spin m)) else I A.s 8)
    (hc : ∀ j, I' A.c j = if j = 5 * m_spin m + m_n (o_fill m) then I A.c j + 1 else I A.c j)
    (hla : I' A.l 0 = m 222 ∧ I' A.l 1 = zI (m_n (o_fill m)) ∧ I' A.l 2 = zI (m_spin m) ∧ I' A.l 3 = w_w2 (m_n (o_fill m)) (m_spin m) (w_hard (m_n (o_fill m)) (m_spin m) && decide (m 266 = 1)) (w_cb (I A.s 3) (m_n (o_fill m))) (decide (s_fc (s_fm (o_clear (o_fill m))) 22 = 0)) * w_lv (I A.s 1) ∧ I' A.l 4 = m 229 ∧ I' A.l 5 = le ∧ I' A.l 6 = b2i (w_hard (m_n (o_fill m)) (m_spin m) && decide (m 266 = 1)))
    (hg : I' A.g 4 = I A.g 4 ∧ I' A.g 5 = 0 ∧ I' A.g 6 = I A.g 6) : p_Q T I' L A (B + 1) (o_lock1 m le) := by
  obtain ⟨⟨g1, g2, g3, g4, g5⟩, ⟨f1, f2, f3⟩, ⟨x1, x2, x3⟩, ⟨b1, b2, b3⟩, ⟨s1, s2, s3, s4, s5⟩⟩ := id h.sh
  have ne : ∀ {a b : Nat} {x y : Nat × Nat}, (a, x) ∈ T.1 → (b, y) ∈ T.1 → x ≠ y → a ≠ b := fun a b c => mz_ne hU a b c
  have hn4 : m_n (o_fill m) ≤ 4 := fill_four h.nof
  have hsp := m_spin_le (m := m)
  have eb : I' A.b = I A.b := hf _ (by simp; exact ⟨ne b1 f2 (by decide), ne b1 s1 (by decide), ne b1 s2 (by decide), ne b1 s3 (by decide), ne b1 g1 (by decide)⟩)
  have ev : I' A.v = I A.v := hf _ (by simp; exact ⟨ne b2 f2 (by decide), ne b2 s1 (by decide), ne b2 s2 (by decide), ne b2 s3 (by decide), ne b2 g1 (by decide)⟩)
  have out : ∀ j, j ≠ 233 → (j < 234 ∨ j = 242 ∨ 266 < j) → o_lock1 m le j = o_clear (o_fill m) j := fun j a b => by unfold o_lock1; rw [m_u_ne a, score_out hn4 hsp b]
  have out2 : ∀ j, j ≠ 233 → 220 ≤ j → (j < 234 ∨ j = 242 ∨ 266 < j) → o_lock1 m le j = m j := fun j a b c => by rw [out j a c, fill_out b]
  have em : s_fm (o_lock1 m le) = s_fm (o_clear (o_fill m)) := s_fm_eq (fun i hi => out i (by omega) (by omega))
  have sco : ∀ j, j ≠ 233 → o_lock1 m le j = o_score (o_clear (o_fill m)) (m_n (o_fill m)) (m_spin m) (decide (s_fc (s_fm (o_clear (o_fill m))) 22 = 0)) le j := fun j a => by unfold o_lock1; rw [m_u_ne a]
  have fo := fun j (hj : 220 ≤ j) => fill_out (m := m) hj
  obtain ⟨c0, c1, c2, c3, c4, c5, c6, c7, c8⟩ := h.sc
  obtain ⟨k0, k1, k2, k3, k4, k5, k6, k7, k8⟩ := hs
  have lv : w_lv (m 236) = m 235 := h.lev.symm
  refine ⟨⟨h.sh, ?_, ?_⟩, ⟨?_, ?_⟩, ⟨?_, ?_⟩, ⟨Or.inl hg.2.1, ?_⟩, ?_, ?_, ?_, ?_, ?_, ?_, ?_⟩
  · intro i hi
    rw [hk i hi, out i (by omega) (by omega)]
  · rw [em]; exact clear_nof
  · rw [hg.2.2, h.over.1]; exact hl
  · rw [out2 _ (by decide) (by decide) (by decide)]; exact hl
  · rw [hg.1, out2 _ (by decide) (by decide) (by decide)]; exact h.held.1
  · rw [out2 _ (by decide) (by decide) (by decide)]; exact h.held.2
  · rw [hg.2.1]; unfold o_lock1; rw [m_u_eq]
  · obtain ⟨z, h1, h2, h3, h4, h5, h6, h7⟩ := h.bags
    exact ⟨z, by rw [out2 _ (by decide) (by decide) (by decide)]; exact h1, by rw [out2 _ (by decide) (by decide) (by decide)]; exact h2, h3, by rw [ev]; exact h4, h5, by rw [eb]; exact h6, h7⟩
  · rw [k0, k1, k2, k3, k4, k5, k6, k7, k8, c0, c1, c2, c3, c4, c5, c6, c7, c8, lv]
    rw [sco 234 (by decide), sco 236 (by decide), sco 237 (by decide), sco 238 (by decide), sco 239 (by decide), sco 240 (by decide), sco 241 (by decide), sco 242 (by decide), sco 266 (by decide)]
    have n1 : ∀ j, j = 234 ∨ j = 236 ∨ j = 237 ∨ j = 238 ∨ j = 239 ∨ j = 240 ∨ j = 241 ∨ j = 242 ∨ j = 266 → ¬ j = 243 + 3 * m_n (o_fill m) + m_spin m := by intro j hj; omega
    simp [o_score, fo 229 (by decide), fo 234 (by decide), fo 235 (by decide), fo 236 (by decide), fo 237 (by decide), fo 238 (by decide), fo 239 (by decide), fo 240 (by decide), fo 241 (by decide), fo 242 (by decide), fo 266 (by decide), n1 242 (by decide), n1 266 (by decide)]
  · rw [sco 235 (by decide), sco 236 (by decide)]
    simp [o_score]
  · rw [sco 266 (by decide)]
    have n2 : ¬ 266 = 243 + 3 * m_n (o_fill m) + m_spin m := by omega
    have n3 : o_score (o_clear (o_fill m)) (m_n (o_fill m)) (m_spin m) (decide (s_fc (s_fm (o_clear (o_fill m))) 22 = 0)) le 266 = if 0 < m_n (o_fill m) then b2i (w_hard (m_n (o_fill m)) (m_spin m)) else m 266 := by
      simp [o_score, n2, fo 266 (by decide)]
    rw [n3]
    split
    · exact b2i_01 _
    · exact h.hard
  · obtain ⟨n, hn, e, _⟩ := h.pcs
    refine ⟨n + 1, by omega, ?_, ?_⟩
    · rw [sco 237 (by decide)]
      simp [o_score, fo 237 (by decide), e, z_1]
    · rw [sco 265 (by decide)]
      have n2 : ¬ 265 = 243 + 3 * m_n (o_fill m) + m_spin m := by omega
      simp [o_score, n2]
  · intro sp n a b
    rw [hc, sco _ (by omega)]
    have e0 : o_score (o_clear (o_fill m)) (m_n (o_fill m)) (m_spin m) (decide (s_fc (s_fm (o_clear (o_fill m))) 22 = 0)) le (243 + 3 * n + sp) = if 243 + 3 * n + sp = 243 + 3 * m_n (o_fill m) + m_spin m then m (243 + 3 * n + sp) + 1 else m (243 + 3 * n + sp) := by
      simp only [o_score]
      rw [if_neg (by omega), if_neg (by omega), if_neg (by omega), if_neg (by omega), if_neg (by omega), if_neg (by omega), if_neg (by omega), if_neg (by omega), fo _ (by omega)]
      by_cases q : 243 + 3 * n + sp = 243 + 3 * m_n (o_fill m) + m_spin m
      · rw [if_pos q, if_pos q]
      · rw [if_neg q, if_neg q, if_neg (by omega), if_neg (by omega), if_neg (by omega), if_neg (by omega), if_neg (by omega), if_neg (by omega), if_neg (by omega), if_neg (by omega), if_neg (by omega)]
    rw [e0, h.cnt sp n a b]
    by_cases q : 5 * sp + n = 5 * m_spin m + m_n (o_fill m)
    · rw [if_pos q, if_pos (by omega)]
    · rw [if_neg q, if_neg (by omega)]
  · intro _ w hw
    obtain ⟨l0, l1, l2, l3, l4, l5, l6⟩ := hla
    rw [sco _ (by omega)]
    have : w = 0 ∨ w = 1 ∨ w = 2 ∨ w = 3 ∨ w = 4 ∨ w = 5 ∨ w = 6 := by omega
    have n2 : ∀ j, 258 ≤ j → ¬ j = 243 + 3 * m_n (o_fill m) + m_spin m := by intro j hj; omega
    rcases this with e | e | e | e | e | e | e <;> subst e
    · rw [l0]; simp [o_score, n2 258 (by decide), fo 222 (by decide)]
    · rw [l1]; simp [o_score, n2 259 (by decide)]
    · rw [l2]; simp [o_score, n2 260 (by decide)]
    · rw [l3, c1, c3, lv]; simp [o_score, n2 261 (by decide), fo 266 (by decide), fo 238 (by decide), fo 235 (by decide)]
    · rw [l4]; simp [o_score, n2 262 (by decide), fo 229 (by decide)]
    · rw [l5]; simp [o_score, n2 263 (by decide)]
    · rw [l6]; simp [o_score, n2 264 (by decide), fo 266 (by decide)]
end LOCKQ
