/-! what the class does and what the reference does come to the same -/
section REL
variable {G : mz_G} {K : mz_K} {X : mz_X} {T : mz_T} {I : mz_I} {L : mz_L}
variable {V : Nat → Nat} {A : z_A} {Aj : Nat → z_A} {sn : z_A} {Y D : Nat → Nat} {B many n : Nat} {m : Nat → Int32} {rr : Nat → Nat → Int32} {has : Bool} {ms : Nat → Int32} {s0 s1 dly lim : Int32} {cs : Nat → Int32} {fl : Int32}

noncomputable def r_lk (a : Nat → Int32) (le : Int32) (many : Nat) (rr : Nat → Nat → Int32) : g_S := (o_lockM a le, w_mn (m_lfit a le) many, w_rr (m_lfit a le) many rr (o_app (o_draw (o_lock1 a le)) (m_dk (o_lock1 a le))))
noncomputable def r_drop (s : g_S) : g_S := r_lk (o_dropM s.1) (g_le (o_dropM s.1)) s.2.1 s.2.2
noncomputable def r_tick (dly : Int32) (s : g_S) : g_S := (o_tickM s.1 (g_le s.1) dly, if m_tlock s.1 dly then (r_lk (o_rest s.1) (g_le s.1) s.2.1 s.2.2).2.1 else s.2.1, if m_tlock s.1 dly then (r_lk (o_rest s.1) (g_le s.1) s.2.1 s.2.2).2.2 else s.2.2)
/-- states alike as far as it counts -/
def re_s (s t : g_S) : Prop := re_x s.1 t.1 ∧ t.2.1 = s.2.1 ∧ ∀ i j, i < s.2.1 → j < 268 → t.2.2 i j = s.2.2 i j
theorem re_s_refl {s : g_S} : re_s s s := ⟨re_x_a (fun _ _ => rfl), rfl, fun _ _ _ _ => rfl⟩
theorem p_M_x {me ra nw : Nat} {rr' : Nat → Nat → Int32} (hM : p_M T I L me ra Aj nw many B rr) (h : ∀ i j, i < many → j < 268 → rr' i j = rr i j) : p_M T I L me ra Aj nw many B rr' :=
  ⟨hM.1, hM.2.1, fun i hi => p_R_x (hM.2.2 i hi) (re_x_a (fun j hj => h i j hi hj))⟩
theorem w_C_x {t : g_S} (hC : w_C T I L V A Aj sn Y B m many rr has ms s0 s1 dly lim n cs fl) (h : re_s (m, many, rr) t) : w_CS T I L V A Aj sn Y B t has ms s0 s1 dly lim n cs fl := by
  obtain ⟨c1, ⟨nw, c2⟩, c3⟩ := hC
  obtain ⟨h1, h2, h3⟩ := h
  obtain ⟨m', many', rr'⟩ := t
  have h2 : many' = many := h2
  subst h2
  exact ⟨p_R_x c1 h1, ⟨nw, p_M_x c2 h3⟩, c3⟩
theorem lk_x {a a' : Nat → Int32} {le : Int32} (h : re_p a a') (hs : ∀ x : Nat, s_has (m_kd a') (m_st a') (m_c a') (m_r a') x = s_has (m_kd a) (m_st a) (m_c a) (m_r a) x) (hsp : m_spin a' = m_spin a) (hh : m_high a' = m_high a) : re_s (g_lk a le many rr) (r_lk a' le many rr) := by
  obtain ⟨l1, l2, l3, l4⟩ := lock_x (le := le) h hs hsp hh
  refine ⟨l1, ?_, ?_⟩
  · show w_mn (m_lfit a' le) many = w_mn (m_lfit a le) many
    rw [l2]
  · intro i j hi hj
    show w_rr (m_lfit a' le) many rr _ i j = w_rr (m_lfit a le) many rr _ i j
    rw [l2]
    unfold w_rr
    by_cases q : m_lfit a le = true
    · rw [if_pos q, if_pos q]
      unfold s_push
      by_cases q2 : many < 6
      · rw [if_pos q2, if_pos q2]
        by_cases q3 : i = many
        · rw [if_pos q3, if_pos q3]; exact l4 j hj
        · rw [if_neg q3, if_neg q3]
      · rw [if_neg q2, if_neg q2]
        by_cases q3 : i = 5
        · rw [if_pos q3, if_pos q3]; exact l4 j hj
        · rw [if_neg q3, if_neg q3]
    · rw [if_neg q, if_neg q]
theorem lk_xs {a : Nat → Int32} {le : Int32} : re_s (g_lk a le many rr) (r_lk a le many rr) := lk_x (fun _ _ _ => rfl) (fun _ => rfl) rfl rfl
theorem tick_x {s : g_S} : re_s (g_tick dly s) (r_tick dly s) := by
  unfold g_tick r_tick
  by_cases q : m_tlock s.1 dly = true
  · rw [if_pos q, if_pos q, if_pos q, if_pos q]
    have e1 : o_tick s.1 (g_le s.1) dly = o_lock (o_rest s.1) (g_le s.1) := by
      unfold m_tlock at q
      simp only [Bool.and_eq_true, Bool.not_eq_true', decide_eq_true_eq] at q
      unfold o_tick
      rw [if_neg (by rw [q.1]; decide), if_pos q.2]
    have e2 : o_tickM s.1 (g_le s.1) dly = o_lockM (o_rest s.1) (g_le s.1) := by
      unfold m_tlock at q
      simp only [Bool.and_eq_true, Bool.not_eq_true', decide_eq_true_eq] at q
      unfold o_tickM
      rw [if_neg (by rw [q.1]; decide), if_pos q.2]
    rw [e1, e2]
    exact lk_xs
  · rw [if_neg q, if_neg q, if_neg q, if_neg q]
    have e : o_tickM s.1 (g_le s.1) dly = o_tick s.1 (g_le s.1) dly := by
      unfold o_tickM o_tick
      by_cases q1 : m_fit s.1 0 (-1) = true
      · rw [if_pos q1, if_pos q1]
      · rw [if_neg q1, if_neg q1]
        by_cases q2 : dly ≤ s.1 227 + 1
        · exact absurd (by unfold m_tlock; rw [Bool.not_eq_true _ |>.mp q1, decide_eq_true q2]; rfl) q
        · rw [if_neg q2, if_neg q2]
    rw [e]
    exact re_s_refl
theorem drop_x {s : g_S} (hp : d_ok s.1) : re_s (g_drop s) (r_drop s) := by
  obtain ⟨m, many, rr⟩ := s
  have hp : d_ok m := hp
  obtain ⟨-, k2, k3⟩ := dropM_ok hp
  obtain ⟨⟨⟨e1, e2, e3, e4⟩, hk, hs, hc, hr⟩, hf⟩ := id hp
  have hroom := m_room_lt hp
  have kd : m_kd (o_dropM m) = m_kd m := by unfold m_kd; rw [k2 222 (by decide) (by decide) (by decide)]
  have st : m_st (o_dropM m) = m_st m := by unfold m_st; rw [k2 223 (by decide) (by decide) (by decide)]
  have cc : m_c (o_dropM m) = m_c m := by unfold m_c; rw [k2 224 (by decide) (by decide) (by decide)]
  have el : g_le (o_dropM m) = g_le m := by unfold g_le; rw [kd, st, cc]
  show re_s (g_lk (o_dropm m) (g_le m) many rr) (r_lk (o_dropM m) (g_le (o_dropM m)) many rr)
  rw [el]
  by_cases q : 0 < m_room m
  · obtain ⟨v1, v2, v3, v4, v5⟩ := moved_m (m := m_u m 234 (m 234 + zI (2 * m_room m : Nat))) (s := m_st m) (c := m_c m) (r := m_r m - (m_room m : Nat)) hs (by omega) (by omega)
    have ed : o_dropm m = o_moved (m_u m 234 (m 234 + zI (2 * m_room m : Nat))) (m_st m) (m_c m) (m_r m - (m_room m : Nat)) := if_pos q
    have eM : o_dropM m = m_u (m_u (m_u m 225 (m 225 - zI (m_room m))) 231 (-1)) 234 (m 234 + 2 * zI (m_room m)) := if_pos q
    rw [← ed] at v1 v2 v3 v4 v5
    have v2 : m_kd (o_dropm m) = m_kd m := v2.trans (by unfold m_kd; rw [m_u_ne (by decide)])
    have r1 : o_dropm m 231 = -1 := by
      rw [ed]
      unfold o_moved o_set2
      split
      · rw [m_u_ne (by decide), m_u_ne (by decide), m_u_ne (by decide), m_u_eq]
      · rw [m_u_eq]
    have r2 : o_dropM m 231 = -1 := by rw [eM, m_u_ne (by decide), m_u_eq]
    refine lk_x (fun j hj h2 => ?_) (fun x => by rw [kd, st, cc, k3, v2, v3, v4, v5]) ?_ (by unfold m_high; rw [kd, st, cc, k3, v2, v3, v4, v5])
    · rw [v1 j h2, eM]
      by_cases q2 : j = 234
      · subst q2
        rw [m_u_eq, m_u_eq, show (2 : Int32) = zI 2 from rfl, z_mul]
        congr 2
      · rw [m_u_ne q2, m_u_ne q2, m_u_ne (by omega), m_u_ne (by omega)]
    · unfold m_spin
      rw [if_neg (fun h => h.2 r2), if_neg (fun h => h.2 r1)]
  · have ed : o_dropm m = m := if_neg q
    have eM : o_dropM m = m := if_neg q
    rw [ed, eM]; exact lk_xs
/-- what the reference asks of its row -/
def r_ok (m : Nat → Int32) : Prop := (m 221 = 0 ∨ m 221 = 1) ∧ d_z m ∧ (∀ r, r < 22 → s_full (s_fm m) r = false) ∧ m 235 = w_lv (m 236) ∧ (m 232 = -1 ∨ ∃ kd : Nat, kd < 7 ∧ m 232 = zI kd) ∧ (m 266 = 0 ∨ m 266 = 1) ∧ (m 221 = 0 → d_ok m ∧ (∃ u : Nat, u < 1000000000 ∧ m 229 = zI u) ∧ (m 226).toInt < 11 - (m 235).toInt ∧ (m 233 = 0 ∨ m 233 = 1)) ∧ (∃ u : Nat, u < 1000000000 ∧ m 237 = zI u ∧ (m 265 = 0 ↔ u = 0))
theorem r_ok_R (h : p_R T I L A B m) (hB : B < 1000000000) : r_ok m := by
  obtain ⟨z, z1, z2, zB⟩ := h.bags
  refine ⟨h.over.2, (d_z_of z1 z2 zB.2.2.2.2).1, h.nof, h.lev, h.held.2, h.hard, fun hl => ?_, ?_⟩
  · obtain ⟨-, e5, ⟨u, hu, eu⟩, e7⟩ := h.live hl
    have e6 := h.used
    rw [e5] at e6
    exact ⟨d_ok_R h hl, ⟨u, by omega, eu⟩, e7, e6⟩
  · obtain ⟨u, hu, e1, e2⟩ := h.pcs
    exact ⟨u, by omega, e1, e2⟩
end REL
