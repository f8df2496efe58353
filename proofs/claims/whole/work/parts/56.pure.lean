/-! the search for placements: positions, moves, keys -/
section LSH
theorem w_nat {n : Nat} (h : n < 4611686018427387904) : (zL (n : Int)).toBitVec.toNat = n := by
  show (BitVec.ofInt 64 (n : Int)).toNat = n
  rw [BitVec.ofInt_natCast, BitVec.toNat_ofNat]
  exact Nat.mod_eq_of_lt (by omega)
theorem w_shl {n : Nat} (h : n < 18014398509481984) : zL (n : Int) <<< ((8 : Int32).toInt64 &&& 63) = zL ((n * 256 : Nat) : Int) := by
  apply Int64.toBitVec_inj.mp
  rw [Int64.toBitVec_shiftLeft]
  apply BitVec.eq_of_toNat_eq
  have e : ((8 : Int32).toInt64 &&& 63).toBitVec.smod 64 = 8#64 := by decide
  rw [e, BitVec.shiftLeft_eq', BitVec.toNat_shiftLeft, w_nat (by omega), w_nat (by omega), show (8#64).toNat = 8 from rfl, Nat.shiftLeft_eq]
  exact Nat.mod_eq_of_lt (by omega)
theorem w_shr {n t : Nat} {y : Int32} (h : n < 4611686018427387904) (hy : ((y.toInt64 &&& 63).toBitVec.smod 64).toNat = t) : zL (n : Int) >>> (y.toInt64 &&& 63) = zL ((n / 2 ^ t : Nat) : Int) := by
  apply Int64.toBitVec_inj.mp
  rw [Int64.toBitVec_shiftRight, BitVec.sshiftRight_eq', hy]
  have hm : (zL (n : Int)).toBitVec.msb = false := by
    rw [BitVec.msb_eq_decide, w_nat h]
    exact decide_eq_false (by omega)
  rw [BitVec.sshiftRight_eq_of_msb_false hm]
  apply BitVec.eq_of_toNat_eq
  have : n / 2 ^ t ≤ n := Nat.div_le_self _ _
  rw [BitVec.toNat_ushiftRight, w_nat h, w_nat (by omega), Nat.shiftRight_eq_div_pow]
theorem z_255 {n : Nat} : zI (n : Int) &&& 255 = zI ((n % 256 : Nat) : Int) := by
  apply Int32.toBitVec_inj.mp
  rw [Int32.toBitVec_and]
  apply BitVec.eq_of_toNat_eq
  have e1 : ∀ m : Nat, (zI (m : Int)).toBitVec.toNat = m % 4294967296 := by
    intro m
    show (BitVec.ofInt 32 (m : Int)).toNat = _
    rw [BitVec.ofInt_natCast, BitVec.toNat_ofNat]
  rw [BitVec.toNat_and, e1, e1, show (255 : Int32).toBitVec.toNat = 2 ^ 8 - 1 from rfl, Nat.and_two_pow_sub_one_eq_mod]
  omega
end LSH
/-! lists of unlike things -/
section LST
theorem l_sub {α : Type} [DecidableEq α] : ∀ (l l' : List α), l.Nodup → (∀ x, x ∈ l → x ∈ l') → l.length ≤ l'.length
  | [], _, _, _ => Nat.zero_le _
  | x :: l, l', h, hs => by
    obtain ⟨h1, h2⟩ := List.nodup_cons.mp h
    have hx : x ∈ l' := hs x List.mem_cons_self
    have := l_sub l (l'.erase x) h2 (fun y hy => (List.mem_erase_of_ne (fun e => h1 (by rw [← e]; exact hy))).mpr (hs y (List.mem_cons_of_mem _ hy)))
    rw [List.length_erase_of_mem hx] at this
    have hp := List.length_pos_of_mem hx
    show l.length + 1 ≤ _
    omega
theorem l_pig {l : List Nat} {n : Nat} (h : l.Nodup) (hb : ∀ x, x ∈ l → x < n) : l.length ≤ n := by
  have := l_sub l (List.range n) h (fun x hx => List.mem_range.mpr (hb x hx))
  rwa [List.length_range] at this
theorem l_map {α β : Type} {f : α → β} : ∀ {l : List α}, l.Nodup → (∀ x y, x ∈ l → y ∈ l → f x = f y → x = y) → (l.map f).Nodup
  | [], _, _ => List.nodup_nil
  | x :: l, h, hf => by
    obtain ⟨h1, h2⟩ := List.nodup_cons.mp h
    rw [List.map_cons, List.nodup_cons]
    refine ⟨fun q => ?_, l_map h2 (fun y z hy hz => hf y z (List.mem_cons_of_mem _ hy) (List.mem_cons_of_mem _ hz))⟩
    obtain ⟨y, hy, e⟩ := List.mem_map.mp q
    have := hf y x (List.mem_cons_of_mem _ hy) List.mem_cons_self e
    exact h1 (by rw [← this]; exact hy)
end LST
abbrev s_P : Type := Nat × Int × Int
/-- the piece fits at a position -/
def x_ft (m : Nat → Int32) (x : s_P) : Bool := s_fit (s_fm m) (m_kd m) x.1 x.2.1 x.2.2
def x_in (m : Nat → Int32) (x : s_P) : Prop := x.1 < 4 ∧ x_ft m x = true
theorem x_in_b {m : Nat → Int32} {x : s_P} (hk : m_kd m < 7) (h : x_in m x) : (-3 ≤ x.2.1 ∧ x.2.1 ≤ 9) ∧ (-3 ≤ x.2.2 ∧ x.2.2 ≤ 21) := s_fit_b hk h.1 h.2
def x_sh (m : Nat → Int32) (x : s_P) (d : Int) : s_P := if x_ft m (x.1, x.2.1 + d, x.2.2) then (x.1, x.2.1 + d, x.2.2) else x
def x_dn (m : Nat → Int32) (x : s_P) : s_P := if x_ft m (x.1, x.2.1, x.2.2 - 1) then (x.1, x.2.1, x.2.2 - 1) else x
def x_kp (m : Nat → Int32) (x : s_P) (d : Int) (i : Nat) : s_P := (s_rot x.1 d, x.2.1 + d * s_kt (m_kd m) (2 * i), x.2.2 + s_kt (m_kd m) (2 * i + 1))
def x_tk (m : Nat → Int32) (x : s_P) (d : Int) : Nat → Nat → s_P
  | 0, _ => x
  | n + 1, i => if x_ft m (x_kp m x d i) then x_kp m x d i else x_tk m x d n (i + 1)
def x_tn (m : Nat → Int32) (x : s_P) (d : Int) : s_P := x_tk m x d (s_km (m_kd m)) 0
theorem x_tkn {m : Nat → Int32} {x : s_P} {d : Int} : ∀ n i, (∀ j, i ≤ j → j < i + n → x_ft m (x_kp m x d j) = false) → x_tk m x d n i = x
  | 0, _, _ => rfl
  | n + 1, i, h => by
    unfold x_tk
    rw [h i (Nat.le_refl _) (by omega), if_neg (by decide)]
    exact x_tkn n (i + 1) (fun j a b => h j (by omega) (by omega))
theorem x_tkt {m : Nat → Int32} {x : s_P} {d : Int} {t : Nat} (ht : x_ft m (x_kp m x d t) = true) : ∀ n i, i ≤ t → t < i + n → (∀ j, i ≤ j → j < t → x_ft m (x_kp m x d j) = false) → x_tk m x d n i = x_kp m x d t
  | 0, i, h1, h2, _ => absurd h2 (by omega)
  | n + 1, i, h1, h2, h => by
    unfold x_tk
    by_cases e : i = t
    · subst e; rw [if_pos ht]
    · rw [h i (Nat.le_refl _) (by omega), if_neg (by decide)]
      exact x_tkt ht n (i + 1) (by omega) (by omega) (fun j a b => h j (by omega) b)
theorem x_sh_in {m : Nat → Int32} {x : s_P} {d : Int} (h : x_in m x) : x_in m (x_sh m x d) := by
  unfold x_sh
  split
  · rename_i q; exact ⟨h.1, q⟩
  · exact h
theorem x_dn_in {m : Nat → Int32} {x : s_P} (h : x_in m x) : x_in m (x_dn m x) := by
  unfold x_dn
  split
  · rename_i q; exact ⟨h.1, q⟩
  · exact h
theorem x_tk_in {m : Nat → Int32} {x : s_P} {d : Int} (h : x_in m x) : ∀ n i, x_in m (x_tk m x d n i)
  | 0, _ => h
  | n + 1, i => by
    unfold x_tk
    split
    · rename_i q; exact ⟨s_rot_lt, q⟩
    · exact x_tk_in h n (i + 1)
def x_nb (m : Nat → Int32) (x : s_P) : List s_P := [x_dn m x, x_sh m x (-1), x_tn m x (-1), x_sh m x 1, x_tn m x 1]
theorem x_nb_in {m : Nat → Int32} {x z : s_P} (h : x_in m x) (hz : z ∈ x_nb m x) : x_in m z := by
  simp only [x_nb, List.mem_cons, List.not_mem_nil, or_false] at hz
  rcases hz with e | e | e | e | e <;> subst e
  · exact x_dn_in h
  · exact x_sh_in h
  · exact x_tk_in h _ _
  · exact x_sh_in h
  · exact x_tk_in h _ _
def x_0 (m : Nat → Int32) : s_P := (m_st m, m_c m, m_r m)
/-- what the piece can reach -/
def x_R (m : Nat → Int32) (x : s_P) : Prop := ∀ P : s_P → Prop, P (x_0 m) → (∀ y, P y → ∀ z, z ∈ x_nb m y → P z) → P x
theorem x_R0 {m : Nat → Int32} : x_R m (x_0 m) := fun _ h _ => h
theorem x_R1 {m : Nat → Int32} {x z : s_P} (h : x_R m x) (hz : z ∈ x_nb m x) : x_R m z := fun P h0 h1 => h1 x (h P h0 h1) z hz
/-- a list that is closed -/
theorem x_closed {m : Nat → Int32} {Q : List s_P} (h0 : x_0 m ∈ Q) (h1 : ∀ x, x ∈ Q → x_R m x) (h2 : ∀ x, x ∈ Q → ∀ z, z ∈ x_nb m x → z ∈ Q) : ∀ x, x_R m x ↔ x ∈ Q :=
  fun x => ⟨fun h => h (fun y => y ∈ Q) h0 h2, h1 x⟩
/-- it rests there -/
def x_rs (m : Nat → Int32) (x : s_P) : Prop := x_ft m (x.1, x.2.1, x.2.2 - 1) = false
/-- the row with the piece at a position -/
def x_row (m : Nat → Int32) (x : s_P) : Nat → Int32 := m_u (m_u (m_u m 223 (zI x.1)) 224 (zI x.2.1)) 225 (zI x.2.2)
theorem x_row_o {m : Nat → Int32} {x : s_P} {j : Nat} (h : j ≠ 223 ∧ j ≠ 224 ∧ j ≠ 225) : x_row m x j = m j := by
  unfold x_row
  rw [m_u_ne h.2.2, m_u_ne h.2.1, m_u_ne h.1]
theorem x_row_m {m : Nat → Int32} {x : s_P} (hk : m_kd m < 7) (h : x_in m x) : m_kd (x_row m x) = m_kd m ∧ m_st (x_row m x) = x.1 ∧ m_c (x_row m x) = x.2.1 ∧ m_r (x_row m x) = x.2.2 ∧ s_fm (x_row m x) = s_fm m := by
  have hb := x_in_b hk h
  have h4 := h.1
  refine ⟨?_, ?_, ?_, ?_, s_fm_eq (fun i hi => x_row_o (by omega))⟩
  · unfold m_kd; rw [x_row_o (by decide)]
  · unfold m_st x_row; rw [m_u_ne (by decide), m_u_ne (by decide), m_u_eq, z_nat (by omega)]; rfl
  · unfold m_c x_row; rw [m_u_ne (by decide), m_u_eq, z_toInt (by omega)]
  · unfold m_r x_row; rw [m_u_eq, z_toInt (by omega)]
def x_af (m : Nat → Int32) (x : s_P) : Nat → Int32 := o_clear (o_fill (x_row m x))
def x_n (m : Nat → Int32) (x : s_P) : Nat := m_n (o_fill (x_row m x))
def x_ce (m : Nat → Int32) (x : s_P) (j : Nat) : Nat := (x.2.2 * 10 + x.2.1 + s_cell (m_kd m) x.1 j).toNat
/-- the figures of a placement, and its cells -/
def x_pt (m : Nat → Int32) (x : s_P) (w : Nat) : Nat := if w = 0 then 4 - x_n m x else if w = 1 then s_ho (s_fm (x_af m x)) 10 else if w = 2 then s_th (s_fm (x_af m x)) 10 else if w = 3 then s_ro (s_fm (x_af m x)) 9 else x_ce m x (w - 4)
def x_kn (m : Nat → Int32) (x : s_P) : Nat → Nat
  | 0 => 0
  | w + 1 => x_kn m x w * 256 + x_pt m x w
def x_key (m : Nat → Int32) (x : s_P) : Nat := x_kn m x 8
theorem s_th_le {e : Nat → Bool} : ∀ n, s_th e n ≤ 22 * n
  | 0 => Nat.le_refl 0
  | n + 1 => by unfold s_th; have := s_th_le (e := e) n; have := s_ht_le (e := e) (c := n); omega
theorem s_ho_le {e : Nat → Bool} : ∀ n, s_ho e n ≤ 22 * n
  | 0 => Nat.le_refl 0
  | n + 1 => by unfold s_ho; have := s_ho_le (e := e) n; have := s_hon_le (e := e) (c := n) (s_ht e n); have := s_ht_le (e := e) (c := n); omega
theorem x_cell {m : Nat → Int32} {x : s_P} {j : Nat} (hk : m_kd m < 7) (h : x_in m x) (hj : j < 4) : x.2.2 * 10 + x.2.1 + s_cell (m_kd m) x.1 j = (x_ce m x j : Nat) ∧ x_ce m x j < 220 := by
  have h1 := s_fit_t.mp h.2 j hj
  have h2 := (s_cell_lt (kd := m_kd m) (s := x.1) hk h.1 hj).1
  by_cases q : 0 ≤ x.2.1 + (s_cell (m_kd m) x.1 j % 10 : Nat) ∧ x.2.1 + (s_cell (m_kd m) x.1 j % 10 : Nat) < 10 ∧ 0 ≤ x.2.2 + (s_cell (m_kd m) x.1 j / 10 : Nat) ∧ x.2.2 + (s_cell (m_kd m) x.1 j / 10 : Nat) < 22
  · unfold x_ce
    omega
  · rw [s_at_out (by omega)] at h1; cases h1
theorem x_pt_lt {m : Nat → Int32} {x : s_P} {w : Nat} (hk : m_kd m < 7) (h : x_in m x) (hw : w < 8) : x_pt m x w < 256 ∧ x_pt m x 0 ≤ 4 := by
  constructor
  · unfold x_pt
    have h1 := s_ho_le (e := s_fm (x_af m x)) 10
    have h2 := s_th_le (e := s_fm (x_af m x)) 10
    have h3 := s_ro_le (e := s_fm (x_af m x)) 9
    by_cases w0 : w = 0
    · rw [if_pos w0]; omega
    by_cases w1 : w = 1
    · rw [if_neg w0, if_pos w1]; omega
    by_cases w2 : w = 2
    · rw [if_neg w0, if_neg w1, if_pos w2]; omega
    by_cases w3 : w = 3
    · rw [if_neg w0, if_neg w1, if_neg w2, if_pos w3]; omega
    · rw [if_neg w0, if_neg w1, if_neg w2, if_neg w3]
      have := (x_cell (j := w - 4) hk h (by omega)).2
      omega
  · unfold x_pt; rw [if_pos rfl]; omega
theorem x_kn_lt {m : Nat → Int32} {x : s_P} (hk : m_kd m < 7) (h : x_in m x) : ∀ w, 1 ≤ w → w ≤ 8 → x_kn m x w < 5 * 256 ^ (w - 1)
  | 0, h1, _ => absurd h1 (by decide)
  | 1, _, _ => by
    have := (x_pt_lt (w := 0) hk h (by decide)).2
    show 0 * 256 + x_pt m x 0 < 5 * 1
    omega
  | w + 2, _, hw => by
    have h1 := x_kn_lt hk h (w + 1) (by omega) (by omega)
    have h2 := (x_pt_lt (w := w + 1) hk h (by omega)).1
    show x_kn m x (w + 1) * 256 + x_pt m x (w + 1) < 5 * 256 ^ (w + 1)
    rw [Nat.pow_succ]
    have e : w + 1 - 1 = w := rfl
    rw [e] at h1
    omega
/-- keys as numbers compare as the figures do, one behind the other -/
theorem x_kn_eq {m : Nat → Int32} {x y : s_P} (hk : m_kd m < 7) (hx : x_in m x) (hy : x_in m y) : ∀ w, w ≤ 8 → (x_kn m x w = x_kn m y w ↔ ∀ v, v < w → x_pt m x v = x_pt m y v)
  | 0, _ => ⟨fun _ v h => absurd h (Nat.not_lt_zero _), fun _ => rfl⟩
  | w + 1, hw => by
    have ih := x_kn_eq hk hx hy w (by omega)
    have h1 := (x_pt_lt (w := w) hk hx (by omega)).1
    have h2 := (x_pt_lt (w := w) hk hy (by omega)).1
    show x_kn m x w * 256 + x_pt m x w = x_kn m y w * 256 + x_pt m y w ↔ _
    constructor
    · intro e v hv
      have e1 : x_kn m x w = x_kn m y w := by omega
      by_cases q : v = w
      · subst q; omega
      · exact ih.mp e1 v (by omega)
    · intro e
      rw [ih.mpr (fun v hv => e v (by omega)), e w (by omega)]
theorem x_kn_lt2 {m : Nat → Int32} {x y : s_P} (hk : m_kd m < 7) (hx : x_in m x) (hy : x_in m y) {w t : Nat} (ht : t < w) (he : ∀ v, v < t → x_pt m x v = x_pt m y v) (hl : x_pt m x t < x_pt m y t) : w ≤ 8 → x_kn m x w < x_kn m y w := by
  induction w with
  | zero => exact absurd ht (Nat.not_lt_zero _)
  | succ w ih =>
    intro hw
    have h1 := (x_pt_lt (w := w) hk hx (by omega)).1
    have h2 := (x_pt_lt (w := w) hk hy (by omega)).1
    show x_kn m x w * 256 + x_pt m x w < x_kn m y w * 256 + x_pt m y w
    by_cases q : t = w
    · subst q
      rw [(x_kn_eq hk hx hy t (by omega)).mpr he]; omega
    · have := ih (by omega) (by omega)
      omega
theorem x_key_part {m : Nat → Int32} {x : s_P} (hk : m_kd m < 7) (h : x_in m x) : ∀ w v, v < w → w ≤ 8 → x_kn m x w / 256 ^ (w - 1 - v) % 256 = x_pt m x v
  | 0, v, hv, _ => absurd hv (Nat.not_lt_zero _)
  | w + 1, v, hv, hw => by
    have h1 := (x_pt_lt (w := w) hk h (by omega)).1
    show (x_kn m x w * 256 + x_pt m x w) / 256 ^ (w + 1 - 1 - v) % 256 = _
    by_cases q : v = w
    · subst q
      rw [show v + 1 - 1 - v = 0 by omega, Nat.pow_zero, Nat.div_one]; omega
    · have ih := x_key_part hk h w v (by omega) (by omega)
      rw [show w + 1 - 1 - v = (w - 1 - v) + 1 by omega, Nat.pow_succ, Nat.mul_comm (256 ^ (w - 1 - v)) 256, ← Nat.div_div_eq_div_mul, show (x_kn m x w * 256 + x_pt m x w) / 256 = x_kn m x w by omega]
      exact ih
