/-! rows that come to the same behind a lock -/
section LOCKCG
/-- rows alike but for the piece's place and counters -/
def re_p (m m' : Nat → Int32) : Prop := ∀ j, j < 268 → j < 223 ∨ 231 < j ∨ j = 229 → m' j = m j
theorem re_fm {m m' : Nat → Int32} (h : ∀ j, j < 220 → m' j = m j) : s_fm m' = s_fm m := s_fm_eq h
theorem fill_cg {m m' : Nat → Int32} (h : re_p m m') (hs : ∀ x : Nat, s_has (m_kd m') (m_st m') (m_c m') (m_r m') x = s_has (m_kd m) (m_st m) (m_c m) (m_r m) x) : ∀ j, j < 268 → j < 223 ∨ 231 < j ∨ j = 229 → o_fill m' j = o_fill m j := by
  intro j h1 h2
  unfold o_fill
  rw [hs j, h 222 (by decide) (by decide), h j h1 h2]
theorem clear_cg {m m' : Nat → Int32} (h : ∀ j, j < 268 → j < 223 ∨ 231 < j ∨ j = 229 → m' j = m j) : (∀ j, j < 268 → j < 223 ∨ 231 < j ∨ j = 229 → o_clear m' j = o_clear m j) ∧ m_n m' = m_n m := by
  have ef : s_fm m' = s_fm m := re_fm (fun j hj => h j (by omega) (by omega))
  refine ⟨fun j h1 h2 => ?_, by unfold m_n; rw [ef]⟩
  unfold o_clear
  rw [ef]
  by_cases c : j < 220
  · rw [if_pos c, if_pos c]
    by_cases q : s_sr (s_fm m) (j / 10) 22 < 22
    · rw [if_pos q, if_pos q, h _ (by omega) (by omega)]
    · rw [if_neg q, if_neg q]
  · rw [if_neg c, if_neg c, h j h1 h2]
theorem score_cg {m m' : Nat → Int32} {n sp : Nat} {em : Bool} {le : Int32} (h : re_p m m') : re_p (o_score m n sp em le) (o_score m' n sp em le) := by
  intro j h1 h2
  have e := fun i (a : i < 268) (b : i < 223 ∨ 231 < i ∨ i = 229) => h i a b
  unfold o_score
  simp only [e 266 (by decide) (by decide), e 238 (by decide) (by decide), e 235 (by decide) (by decide), e 234 (by decide) (by decide), e 236 (by decide) (by decide), e 237 (by decide) (by decide), e 239 (by decide) (by decide), e 240 (by decide) (by decide), e 229 (by decide) (by decide), e 241 (by decide) (by decide), e 222 (by decide) (by decide), h j h1 h2]
theorem u_cg {m m' : Nat → Int32} {k : Nat} {v : Int32} (h : re_p m m') : re_p (m_u m k v) (m_u m' k v) := by
  intro j h1 h2
  rw [m_u_at, m_u_at, h j h1 h2]
theorem z_cg {m m' : Nat → Int32} (h : re_p m m') : m_z m' = m_z m := by
  unfold m_z
  rw [h 267 (by decide) (by decide), h 220 (by decide) (by decide)]
theorem draw_cg {m m' : Nat → Int32} (h : re_p m m') : re_p (o_draw m) (o_draw m') ∧ m_dk m' = m_dk m := by
  unfold o_draw m_dk
  rw [z_cg h]
  exact ⟨u_cg (u_cg h), rfl⟩
/-- rows alike -/
def re_a (m m' : Nat → Int32) : Prop := ∀ j, j < 268 → m' j = m j
theorem app_cg {m m' : Nat → Int32} {kd : Nat} (h : re_p m m') : re_a (o_app m kd) (o_app m' kd) ∧ o_fits m' kd = o_fits m kd ∧ re_a (o_put m kd) (o_put m' kd) := by
  have h1 : re_a (o_app m kd) (o_app m' kd) := by
    intro j hj
    unfold o_app
    simp only [m_u_at]
    by_cases c : 222 ≤ j ∧ j ≤ 231
    · have : j = 222 ∨ j = 223 ∨ j = 224 ∨ j = 225 ∨ j = 226 ∨ j = 227 ∨ j = 228 ∨ j = 229 ∨ j = 230 ∨ j = 231 := by omega
      rcases this with e | e | e | e | e | e | e | e | e | e <;> subst e <;> rfl
    · rw [h j hj (by omega)]
  have h2 : o_fits m' kd = o_fits m kd := by
    unfold o_fits
    rw [re_fm (fun j hj => h j (by omega) (by omega))]
  refine ⟨h1, h2, ?_⟩
  unfold o_put
  rw [h2]
  split
  · exact h1
  · intro j hj
    rw [m_u_at, m_u_at, h1 j hj]
theorem lock_cg {m m' : Nat → Int32} {le : Int32} (h : re_p m m') (hs : ∀ x : Nat, s_has (m_kd m') (m_st m') (m_c m') (m_r m') x = s_has (m_kd m) (m_st m) (m_c m) (m_r m) x) (hsp : m_spin m' = m_spin m) : re_p (o_scr m le) (o_scr m' le) ∧ re_p (o_lock1 m le) (o_lock1 m' le) ∧ m_n (o_fill m') = m_n (o_fill m) := by
  have f1 := fill_cg h hs
  obtain ⟨f2, f3⟩ := clear_cg f1
  have f4 : s_fm (o_clear (o_fill m')) = s_fm (o_clear (o_fill m)) := re_fm (fun j hj => f2 j (by omega) (by omega))
  have f5 : re_p (o_scr m le) (o_scr m' le) := by
    unfold o_scr
    rw [f3, f4, hsp]
    exact score_cg f2
  exact ⟨f5, u_cg f5, f3⟩
/-- a row of the class and one of the reference that come to the same -/
def re_x (m g : Nat → Int32) : Prop := (m 221 = 0 → ∀ j, j < 268 → g j = m j) ∧ (∀ j, j < 268 → j < 222 ∨ (231 < j ∧ j ≠ 233) → g j = m j)
theorem re_x_a {m g : Nat → Int32} (h : re_a m g) : re_x m g := ⟨fun _ => h, fun j hj _ => h j hj⟩
theorem lock_x {m m' : Nat → Int32} {le : Int32} (h : re_p m m') (hs : ∀ x : Nat, s_has (m_kd m') (m_st m') (m_c m') (m_r m') x = s_has (m_kd m) (m_st m) (m_c m) (m_r m) x) (hsp : m_spin m' = m_spin m) (hh : m_high m' = m_high m) :
    re_x (o_lock m le) (o_lockM m' le) ∧ m_lfit m' le = m_lfit m le ∧ m_n (o_fill m') = m_n (o_fill m) ∧ re_a (o_app (o_draw (o_lock1 m le)) (m_dk (o_lock1 m le))) (o_app (o_draw (o_lock1 m' le)) (m_dk (o_lock1 m' le))) := by
  obtain ⟨f1, f2, f3⟩ := lock_cg (le := le) h hs hsp
  obtain ⟨g1, g2⟩ := draw_cg f2
  have a := app_cg (kd := m_dk (o_lock1 m le)) g1
  refine ⟨?_, ?_, f3, by rw [g2]; exact a.1⟩
  · unfold o_lock o_lockM
    rw [hh, g2]
    by_cases q : m_high m = true
    · rw [if_pos q, if_pos q]
      refine ⟨fun e => absurd e (by rw [m_u_eq]; decide), fun j hj hj2 => ?_⟩
      rw [m_u_at, m_u_at]
      by_cases c : j = 221
      · rw [if_pos c, if_pos c]
      · rw [if_neg c, if_neg c]
        show o_scr m' le j = m_u (o_scr m le) 233 0 j
        rw [m_u_ne (by omega)]
        exact f1 j hj (by omega)
    · rw [if_neg q, if_neg q]
      exact re_x_a a.2.2
  · unfold m_lfit
    rw [hh, g2, a.2.1]
end LOCKCG
section LOCKR
variable {T : mz_T} {I : mz_I} {L : mz_L}
/-- what a game answers to: a row that is alike as far as it counts -/
theorem p_R_x {A : z_A} {B : Nat} {m g : Nat → Int32} (h : p_R T I L A B m) (hx : re_x m g) : p_R T I L A B g := by
  obtain ⟨x1, x2⟩ := hx
  have e : ∀ j, j < 222 ∨ (231 < j ∧ j ≠ 233 ∧ j < 268) → g j = m j := fun j hj => x2 j (by omega) (by omega)
  have ef : s_fm g = s_fm m := s_fm_eq (fun i hi => e i (by omega))
  refine ⟨h.sh, ?_, ?_, ?_, ?_, h.used, ?_, ?_, ?_, ?_, ?_, ?_, ?_, ?_, ?_⟩
  · intro i hi; rw [e i (by omega)]; exact h.fld i hi
  · rw [ef]; exact h.nof
  · rw [e 221 (by decide)]; exact h.over
  · rw [e 232 (by decide)]; exact h.held
  · obtain ⟨kd, s, c, r, h1, h2⟩ := h.pos
    refine ⟨kd, s, c, r, h1, fun q => ?_⟩
    rw [e 221 (by decide)] at q
    have x := x1 q
    rw [x 222 (by decide), x 223 (by decide), x 224 (by decide), x 225 (by decide), ef]
    exact h2 q
  · intro q
    rw [e 221 (by decide)] at q
    have x := x1 q
    obtain ⟨h1, h2, h3, h4⟩ := h.live q
    exact ⟨fun i a b => by rw [x _ (by omega)]; exact h1 i a b, by rw [x 233 (by decide)]; exact h2, by rw [x 229 (by decide)]; exact h3, by rw [x 226 (by decide), x 235 (by decide)]; exact h4⟩
  · rw [e 267 (by decide), e 220 (by decide)]; exact h.bags
  · rw [e 234 (by decide), e 236 (by decide), e 237 (by decide), e 238 (by decide), e 239 (by decide), e 240 (by decide), e 241 (by decide), e 242 (by decide), e 266 (by decide)]; exact h.sc
  · rw [e 235 (by decide), e 236 (by decide)]; exact h.lev
  · rw [e 266 (by decide)]; exact h.hard
  · rw [e 237 (by decide), e 265 (by decide)]; exact h.pcs
  · intro sp n a b; rw [e _ (by omega)]; exact h.cnt sp n a b
  · intro q w hw; rw [e 265 (by decide)] at q; rw [e _ (by omega)]; exact h.lat q w hw
end LOCKR
