/-! at most four rows are cleared -/
section FOUR
theorem s_rc_all {e : Nat → Bool} {r : Nat} : ∀ n, (∀ j, j < n → e (10 * r + j) = true) → s_rc e r n = n
  | 0, _ => rfl
  | n + 1, h => by unfold s_rc; rw [s_rc_all n (fun j hj => h j (by omega)), h n (by omega)]; rfl
theorem full_t {e : Nat → Bool} {r c : Nat} (h : s_full e r = true) (hc : c < 10) : e (10 * r + c) = true := by
  cases q : e (10 * r + c) with
  | true => rfl
  | false => rw [s_rc_full hc q] at h; cases h
theorem full_f {e : Nat → Bool} {r : Nat} (h : s_full e r = false) : ∃ c, c < 10 ∧ e (10 * r + c) = false := by
  refine Classical.byContradiction fun q => ?_
  have : s_rc e r 10 = 10 := s_rc_all 10 (fun j hj => by
    cases q2 : e (10 * r + j) with
    | true => rfl
    | false => exact absurd ⟨j, hj, q2⟩ q)
  unfold s_full at h
  rw [this] at h
  exact absurd h (by decide)
def m_R (m : Nat → Int32) (j : Nat) : Nat := (m_r m * 10 + m_c m + s_cell (m_kd m) (m_st m) j).toNat / 10
theorem fill_four {m : Nat → Int32} (hn : ∀ r, r < 22 → s_full (s_fm m) r = false) : m_n (o_fill m) ≤ 4 := by
  have key : ∀ n, n ≤ 22 → n ≤ s_nk (s_fm (o_fill m)) n + ((if m_R m 0 < n then 1 else 0) + (if m_R m 1 < n then 1 else 0) + (if m_R m 2 < n then 1 else 0) + (if m_R m 3 < n then 1 else 0)) := by
    intro n
    induction n with
    | zero => intro _; omega
    | succ n ih =>
      intro h
      have ih := ih (by omega)
      cases q : s_full (s_fm (o_fill m)) n with
      | false =>
        have e : s_nk (s_fm (o_fill m)) (n + 1) = s_nk (s_fm (o_fill m)) n + 1 := by simp [s_nk, q]
        rw [e]
        repeat' split at ih
        all_goals (repeat' split)
        all_goals omega
      | true =>
        have e : s_nk (s_fm (o_fill m)) (n + 1) = s_nk (s_fm (o_fill m)) n := by simp [s_nk, q]
        rw [e]
        obtain ⟨c, hc, h1⟩ := full_f (hn n (by omega))
        have h2 := full_t q hc
        have hs : s_has (m_kd m) (m_st m) (m_c m) (m_r m) ((10 * n + c : Nat) : Int) = true := by
          cases q3 : s_has (m_kd m) (m_st m) (m_c m) (m_r m) ((10 * n + c : Nat) : Int) with
          | true => rfl
          | false =>
            rw [s_fm_v (by omega)] at h1 h2
            unfold o_fill at h2
            rw [if_neg (fun e => by rw [q3] at e; exact absurd e.2 (by decide))] at h2
            rw [h1] at h2; cases h2
        obtain ⟨j, hj, ej⟩ := s_has_t.mp hs
        have eR : m_R m j = n := by unfold m_R; omega
        have : j = 0 ∨ j = 1 ∨ j = 2 ∨ j = 3 := by omega
        rcases this with e9 | e9 | e9 | e9 <;> subst e9 <;> rw [eR] at ih ⊢ <;> (repeat' split at ih) <;> (repeat' split) <;> omega
  have := key 22 (Nat.le_refl _)
  unfold m_n
  have a0 : ∀ j, (if m_R m j < 22 then 1 else 0) ≤ 1 := fun j => by split <;> omega
  have := a0 0; have := a0 1; have := a0 2; have := a0 3
  omega
end FOUR
