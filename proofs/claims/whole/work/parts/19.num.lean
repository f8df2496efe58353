/-! numbers: an Int32 as a whole number -/
section ZNum
def zI (x : Int) : Int32 := Int32.ofInt x
theorem z_add (a b : Int) : zI a + zI b = zI (a + b) := (Int32.ofInt_add a b).symm
theorem z_sub (a b : Int) : zI a - zI b = zI (a - b) := (Int32.ofInt_sub a b).symm
theorem z_mul (a b : Int) : zI a * zI b = zI (a * b) := (Int32.ofInt_mul a b).symm
theorem z_neg (a : Int) : -zI a = zI (-a) := (Int32.ofInt_neg a).symm
theorem z_nI (n : Nat) : nI n = zI n := rfl
theorem z_toInt {a : Int} (h : -1073741824 ≤ a ∧ a < 1073741824) : (zI a).toInt = a := by
  unfold zI
  rw [Int32.toInt_ofInt]
  exact Int.bmod_eq_of_le (by have : (Int32.size : Int) = 4294967296 := rfl
                              omega) (by have : (Int32.size : Int) = 4294967296 := rfl
                                         omega)
theorem z_of (x : Int32) : x = zI x.toInt := (Int32.ofInt_toInt x).symm
theorem z_lt {a b : Int} (ha : -1073741824 ≤ a ∧ a < 1073741824) (hb : -1073741824 ≤ b ∧ b < 1073741824) : zI a < zI b ↔ a < b := by
  rw [Int32.lt_iff_toInt_lt, z_toInt ha, z_toInt hb]
theorem z_le {a b : Int} (ha : -1073741824 ≤ a ∧ a < 1073741824) (hb : -1073741824 ≤ b ∧ b < 1073741824) : zI a ≤ zI b ↔ a ≤ b := by
  rw [Int32.le_iff_toInt_le, z_toInt ha, z_toInt hb]
theorem z_eq {a b : Int} (ha : -1073741824 ≤ a ∧ a < 1073741824) (hb : -1073741824 ≤ b ∧ b < 1073741824) : zI a = zI b ↔ a = b := by
  rw [← Int32.toInt_inj, z_toInt ha, z_toInt hb]
theorem z_nat {a : Int} (ha : -1073741824 ≤ a ∧ a < 1073741824) : (zI a).toNatClampNeg = a.toNat := by
  show (zI a).toInt.toNat = _
  rw [z_toInt ha]
theorem z_in {a : Int} {n : Nat} (h0 : 0 ≤ a) (h1 : a < n) (hn : n < 1073741824) : vp_in (zI a) n := by
  rw [vp_in_iff, z_toInt (by omega)]
  exact ⟨h0, h1⟩
theorem z_div {a b : Int} (ha : 0 ≤ a ∧ a < 1073741824) (hb : 0 < b ∧ b < 1073741824) : zI a / zI b = zI (a / b) := by
  obtain ⟨m, rfl⟩ := Int.eq_ofNat_of_zero_le ha.1
  obtain ⟨n, rfl⟩ := Int.eq_ofNat_of_zero_le (Int.le_of_lt hb.1)
  have := pk_div (a := m) (d := n) (by omega) (by omega) (by omega)
  rw [z_nI, z_nI, z_nI] at this
  rw [this]; rfl
theorem z_mod {a b : Int} (ha : 0 ≤ a ∧ a < 1073741824) (hb : 0 < b ∧ b < 1073741824) : zI a - zI a / zI b * zI b = zI (a % b) := by
  rw [z_div ha hb, z_mul, z_sub]
  congr 1
  have := Int.mul_ediv_add_emod a b
  have e : b * (a / b) = a / b * b := Int.mul_comm _ _
  omega
def b2i (b : Bool) : Int32 := if b then 1 else 0
theorem b2i_t : b2i true = 1 := rfl
theorem b2i_f : b2i false = 0 := rfl
theorem b2i_0 {b : Bool} : (b2i b = 0) = (b = false) := by cases b <;> simp [b2i]
theorem b2i_01 (b : Bool) : b2i b = 0 ∨ b2i b = 1 := by cases b <;> simp [b2i]
theorem b2i_1 {b : Bool} : (b2i b = 1) = (b = true) := by cases b <;> simp [b2i]
theorem b2i_or (b : Bool) : (b2i b = 0 ∨ b2i b = 1) = True := eq_true (b2i_01 b)
theorem l_0 : (0 : Int32) = zI 0 := rfl
theorem l_1 : (1 : Int32) = zI 1 := rfl
theorem l_m1 : (-1 : Int32) = zI (-1) := rfl
theorem l_2 : (2 : Int32) = zI 2 := rfl
theorem l_3 : (3 : Int32) = zI 3 := rfl
theorem l_4 : (4 : Int32) = zI 4 := rfl
theorem l_7 : (7 : Int32) = zI 7 := rfl
theorem l_10 : (10 : Int32) = zI 10 := rfl
theorem l_16 : (16 : Int32) = zI 16 := rfl
theorem l_22 : (22 : Int32) = zI 22 := rfl
theorem l_220 : (220 : Int32) = zI 220 := rfl
end ZNum
/-- a contract may be used for less -/
theorem mz_mono {G : mz_G} {M : mz_M} {av : List Value} {T : mz_T} {I : mz_I} {L : mz_L} {K K' : mz_K} (h : mz_Ctr G M av T I L K) (hk : ∀ v T I L, K v T I L → K' v T I L) : mz_Ctr G M av T I L K' := by
  intro hG
  have h0 := h hG
  intro p e ha hc hk9 s m args below hf happ hP hK
  obtain ⟨n, o, h1, h2, h3, ⟨v, T9, I9, L9, rfl, q2, q3⟩, h5⟩ := h0 p e ha hc hk9 s m args below hf happ hP hK
  exact ⟨n, _, h1, h2, h3, ⟨v, T9, I9, L9, rfl, hk _ _ _ _ q2, q3⟩, h5⟩
