/-! a piece is filled in, full rows go: the row of numbers -/
section CLEAR
theorem s_fm_v {m : Nat → Int32} {i : Nat} (h : i < 220) : s_fm m i = decide (m i ≠ 0) := by unfold s_fm; rw [decide_eq_true h]; rfl
theorem s_nk_mono {e : Nat → Bool} {r : Nat} : ∀ m, r ≤ m → s_nk e r ≤ s_nk e m := by
  intro m hm
  induction hm with
  | refl => exact Nat.le_refl _
  | step _ ih => exact Nat.le_trans ih (by simp [s_nk])
/-- the row that comes to be the q-th, among the first n -/
def s_sr (e : Nat → Bool) (q : Nat) : Nat → Nat
  | 0 => 22
  | n + 1 => if s_full e n = false ∧ s_nk e n = q then n else s_sr e q n
theorem s_sr_t {e : Nat → Bool} {q : Nat} : ∀ n, q < s_nk e n → s_sr e q n < n ∧ s_full e (s_sr e q n) = false ∧ s_nk e (s_sr e q n) = q := by
  intro n
  induction n with
  | zero => intro h; exact absurd h (Nat.not_lt_zero _)
  | succ n ih =>
    intro h
    unfold s_sr
    by_cases c : s_full e n = false ∧ s_nk e n = q
    · rw [if_pos c]; exact ⟨Nat.lt_succ_self n, c⟩
    · rw [if_neg c]
      have h2 : q < s_nk e n := by
        unfold s_nk at h
        by_cases f : s_full e n = false
        · have : s_nk e n ≠ q := fun e => c ⟨f, e⟩
          simp [f] at h; omega
        · simp [show s_full e n = true by simpa using f] at h; exact h
      have := ih h2
      exact ⟨Nat.lt_succ_of_lt this.1, this.2⟩
theorem s_sr_f {e : Nat → Bool} {q : Nat} : ∀ n, n ≤ 22 → s_nk e 22 ≤ q → s_sr e q n = 22 := by
  intro n
  induction n with
  | zero => intro _ _; rfl
  | succ n ih =>
    intro hn h
    unfold s_sr
    rw [if_neg ?_]
    · exact ih (by omega) h
    · intro c
      have e1 : s_nk e (n + 1) = s_nk e n + 1 := by simp [s_nk, c.1]
      have := s_nk_mono (e := e) (r := n + 1) 22 hn
      omega
def o_fill (m : Nat → Int32) : Nat → Int32 := fun j => if j < 220 ∧ s_has (m_kd m) (m_st m) (m_c m) (m_r m) j = true then m 222 + 1 else m j
def o_clear (m : Nat → Int32) : Nat → Int32 := fun j => if j < 220 then (if s_sr (s_fm m) (j / 10) 22 < 22 then m (10 * s_sr (s_fm m) (j / 10) 22 + j % 10) else 0) else m j
def m_n (m : Nat → Int32) : Nat := 22 - s_nk (s_fm m) 22
theorem clear_of {m : Nat → Int32} {g g' : Nat → Int32} (hg : ∀ i, i < 220 → g i = m i - 1) (h1 : ∀ r c : Nat, r < 22 → c < 10 → s_full (s_fm m) r = false → g' (10 * s_nk (s_fm m) r + c) = g (10 * r + c)) (h2 : ∀ i, 10 * s_nk (s_fm m) 22 ≤ i → i < 220 → g' i = -1) : ∀ i, i < 220 → g' i = o_clear m i - 1 := by
  intro i hi
  unfold o_clear
  rw [if_pos hi]
  by_cases q : i / 10 < s_nk (s_fm m) 22
  · obtain ⟨a, b, c⟩ := s_sr_t 22 q
    rw [if_pos a, ← hg _ (by omega), ← h1 _ _ a (Nat.mod_lt _ (by decide)) b, c]
    congr 1; omega
  · rw [s_sr_f 22 (Nat.le_refl _) (by omega), if_neg (by decide), h2 i (by omega) hi]; rfl
theorem clear_nof {m : Nat → Int32} : ∀ r, r < 22 → s_full (s_fm (o_clear m)) r = false := by
  intro r hr
  by_cases q : r < s_nk (s_fm m) 22
  · obtain ⟨a, b, c⟩ := s_sr_t 22 q
    have e : s_rc (s_fm (o_clear m)) r 10 = s_rc (s_fm m) (s_sr (s_fm m) r 22) 10 := by
      have key : ∀ k, k ≤ 10 → s_rc (s_fm (o_clear m)) r k = s_rc (s_fm m) (s_sr (s_fm m) r 22) k := by
        intro k
        induction k with
        | zero => intro _; rfl
        | succ k ih =>
          intro hk
          unfold s_rc
          rw [ih (by omega)]
          have e2 : s_fm (o_clear m) (10 * r + k) = s_fm m (10 * s_sr (s_fm m) r 22 + k) := by
            rw [s_fm_v (by omega), s_fm_v (by omega)]
            unfold o_clear
            rw [if_pos (by omega), show (10 * r + k) / 10 = r by omega, show (10 * r + k) % 10 = k by omega, if_pos a]
          rw [e2]
      exact key 10 (Nat.le_refl _)
    unfold s_full at b ⊢
    rw [e]; exact b
  · refine s_rc_full (c := 0) (by decide) ?_
    unfold s_fm o_clear
    rw [if_pos (by omega), s_sr_f 22 (Nat.le_refl _) (by omega), if_neg (by decide)]
    simp
end CLEAR
