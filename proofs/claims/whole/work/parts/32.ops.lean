/-! the steps of a game as operations on the reference's row -/
section OPS
variable {T : mz_T} {I : mz_I} {L : mz_L}
def m_u (m : Nat → Int32) (k : Nat) (v : Int32) : Nat → Int32 := fun j => if j = k then v else m j
theorem m_u_eq {m : Nat → Int32} {k : Nat} {v : Int32} : m_u m k v k = v := if_pos rfl
theorem m_u_ne {m : Nat → Int32} {k j : Nat} {v : Int32} (h : j ≠ k) : m_u m k v j = m j := if_neg h
def m_kd (m : Nat → Int32) : Nat := (m 222).toNatClampNeg
def m_st (m : Nat → Int32) : Nat := (m 223).toNatClampNeg
def m_c (m : Nat → Int32) : Int := (m 224).toInt
def m_r (m : Nat → Int32) : Int := (m 225).toInt
def m_fit (m : Nat → Int32) (dc dr : Int) : Bool := s_fit (s_fm m) (m_kd m) (m_st m) (m_c m + dc) (m_r m + dr)
theorem s_fm_eq {m m' : Nat → Int32} (h : ∀ i, i < 220 → m' i = m i) : s_fm m' = s_fm m := by
  funext i
  unfold s_fm
  by_cases q : i < 220
  · rw [h i q]
  · simp [q]
theorem s_at_cg {e e' : Nat → Bool} (h : ∀ i, i < 220 → e i = e' i) {c r : Int} : s_at e c r = s_at e' c r := by
  by_cases q : 0 ≤ c ∧ c < 10 ∧ 0 ≤ r ∧ r < 22
  · rw [s_at_in q, s_at_in q]; exact h _ (by omega)
  · rw [s_at_out (by omega), s_at_out (by omega)]
theorem s_fit_cg {e e' : Nat → Bool} (h : ∀ i, i < 220 → e i = e' i) {kd s : Nat} {c r : Int} : s_fit e kd s c r = s_fit e' kd s c r := by
  unfold s_fit
  congr 1
  funext j
  rw [s_at_cg h]
theorem z_m1 (x : Int32) : x - 1 = -1 ↔ x = 0 := by
  constructor
  · intro h
    have h2 := congrArg (fun y => y + 1) h
    simp only [Int32.sub_add_cancel] at h2
    rw [h2]; decide
  · intro h; rw [h]; decide
theorem p_R.fl {A : z_A} {B : Nat} {m : Nat → Int32} (h : p_R T I L A B m) : ∀ i, i < 220 → s_fl (I A.k) i = s_fm m i := by
  intro i hi
  unfold s_fl s_fm
  rw [h.fld i hi]
  by_cases q : m i = 0
  · simp [q, hi]
  · have : ¬ m i - 1 = -1 := fun e => q ((z_m1 _).mp e)
    simp [q, hi, this]
theorem p_R_pc {A : z_A} {B B' kd s : Nat} {c r : Int} {m m' : Nat → Int32} {I' : mz_I} (hU : ∀ a x y, (a, x) ∈ T.1 → (a, y) ∈ T.1 → x = y) (h : p_R T I L A B m) (hB : B ≤ B') (hm : ∀ j, j < 222 ∨ 231 < j → m' j = m j) (hf : fr I I' [A.x, A.p])
    (hp : p_Pos T I' A.p kd s c r) (hl : m 221 = 0) (hq : m' 222 = zI kd ∧ m' 223 = zI s ∧ m' 224 = zI c ∧ m' 225 = zI r) (hfit : s_fit (s_fm m) kd s c r = true) (hx : ∀ i, 1 ≤ i → i ≤ 6 → I' A.x i = m' (225 + i)) (hin : ∃ n : Nat, n ≤ B' ∧ m' 229 = zI n) (hfall : (m' 226).toInt < 11 - (m 235).toInt) : p_R T I' L A B' m' := by
  obtain ⟨⟨g1, g2, g3, g4, g5⟩, ⟨f1, f2, f3⟩, ⟨x1, x2, x3⟩, ⟨b1, b2, b3⟩, ⟨s1, s2, s3, s4, s5⟩⟩ := id h.sh
  have n0 : ∀ {a : Nat} {x : Nat × Nat}, (a, x) ∈ T.1 → x ≠ (0, 7) → x ≠ (0, 8) → I' a = I a := fun {a x} q e1 e2 => hf a (by simp; exact ⟨mz_ne hU q x1 e1, mz_ne hU q x3 e2⟩)
  have em : s_fm m' = s_fm m := s_fm_eq (fun i hi => hm i (by omega))
  have ek := n0 f2 (by decide) (by decide)
  have eg := n0 g1 (by decide) (by decide)
  have eb := n0 b1 (by decide) (by decide)
  have ev := n0 b2 (by decide) (by decide)
  have es := n0 s1 (by decide) (by decide)
  have ec := n0 s2 (by decide) (by decide)
  have el := n0 s3 (by decide) (by decide)
  refine ⟨h.sh, ?_, ?_, ?_, ?_, ?_, ?_, ?_, ?_, ?_, ?_, ?_, ?_, ?_, ?_⟩
  · intro i hi; rw [ek, hm i (by omega)]; exact h.fld i hi
  · rw [em]; exact h.nof
  · rw [eg, hm 221 (by decide)]; exact h.over
  · rw [eg, hm 232 (by decide)]; exact h.held
  · rw [eg]; exact h.used
  · exact ⟨kd, s, c, r, hp, fun _ => ⟨hq, by rw [em]; exact hfit⟩⟩
  · intro q
    obtain ⟨h1, h2, h3, h4⟩ := h.live hl
    exact ⟨hx, by rw [eg, hm 233 (by decide)]; exact h2, hin, by rw [hm 235 (by decide)]; exact hfall⟩
  · obtain ⟨z, h1, h2, h3, h4, h5, h6, h7⟩ := h.bags
    exact ⟨z, by rw [hm 267 (by decide)]; exact h1, by rw [hm 220 (by decide)]; exact h2, h3, by rw [ev]; exact h4, h5, by rw [eb]; exact h6, h7⟩
  · rw [es, hm 234 (by decide), hm 236 (by decide), hm 237 (by decide), hm 238 (by decide), hm 239 (by decide), hm 240 (by decide), hm 241 (by decide), hm 242 (by decide), hm 266 (by decide)]
    exact h.sc
  · rw [hm 235 (by decide), hm 236 (by decide)]; exact h.lev
  · rw [hm 266 (by decide)]; exact h.hard
  · obtain ⟨n, h1, h2⟩ := h.pcs
    exact ⟨n, Nat.le_trans h1 hB, by rw [hm 237 (by decide), hm 265 (by decide)]; exact h2⟩
  · intro sp n a b
    rw [ec, hm _ (by omega)]; exact h.cnt sp n a b
  · rw [hm 265 (by decide), el]
    intro q w hw
    rw [hm _ (by omega)]; exact h.lat q w hw
/-- behind a move -/
def o_set1 (m : Nat → Int32) (could : Bool) (lim : Int32) : Nat → Int32 := if could = false ∧ m 228 < lim then m_u (m_u m 227 0) 228 (m 228 + 1) else m
def o_set2 (m : Nat → Int32) : Nat → Int32 := if m 225 < m 230 then m_u (m_u (m_u m 230 (m 225)) 227 0) 228 0 else m
def o_settles (m : Nat → Int32) (could : Bool) (lim : Int32) : Nat → Int32 := o_set2 (o_set1 m could lim)
/-- an input is counted -/
def o_in (m : Nat → Int32) : Nat → Int32 := m_u m 229 (m 229 + 1)
def o_shift (m : Nat → Int32) (d : Int) (lim : Int32) : Nat → Int32 := if m_fit m d 0 then o_settles (m_u (m_u (o_in m) 224 (m 224 + zI d)) 231 (-1)) (m_fit m 0 (-1)) lim else o_in m
def m_sl (m : Nat → Int32) (d : Int) : Nat := s_sl (s_fm m) (m_kd m) (m_st m) (m_r m) d 10 (m_c m)
def o_slide (m : Nat → Int32) (d : Int) (lim : Int32) : Nat → Int32 := if 0 < m_sl m d then o_settles (m_u (m_u (o_in m) 224 (zI (m_c m + d * m_sl m d))) 231 (-1)) (m_fit m 0 (-1)) lim else o_in m
def m_kf (m : Nat → Int32) (d : Int) (i : Nat) : Bool := s_kf (s_fm m) (m_kd m) (m_st m) (m_c m) (m_r m) d i
def o_turned (m : Nat → Int32) (d : Int) (lim : Int32) (i : Nat) : Nat → Int32 := o_settles (m_u (m_u (m_u (m_u (o_in m) 223 (zI (s_rot (m_st m) d))) 224 (zI (m_c m + d * s_kt (m_kd m) (2 * i)))) 225 (zI (m_r m + s_kt (m_kd m) (2 * i + 1)))) 231 (zI i)) (m_fit m 0 (-1)) lim
def o_falls (m : Nat → Int32) : Nat → Int32 := o_set2 (m_u (m_u (m_u m 225 (m 225 - 1)) 226 0) 231 (-1))
def o_sink (m : Nat → Int32) : Nat → Int32 := o_falls (m_u m 234 (m 234 + 1))
end OPS
