/-! the reference: its steps, as numbers -/
section STEPS
def e_im (S : List Nat) (k n : Nat) : List Nat × Bool := if S.getD k 0 ≤ n then (S, false) else (S.set k n, true)
def e_k (st : Nat) (c : Int) : Nat := 16 * st + (c + 2).toNat
def e_fk (kd st : Nat) (c d : Int) : Nat → Nat → Nat
  | 0, i => i
  | n + 1, i => if f_w kd (s_rot st d) (c + d * s_kt kd (2 * i)) then i else e_fk kd st c d n (i + 1)
def e_or (a : List Nat × Bool) (k n : Nat) : List Nat × Bool := ((e_im a.1 k n).1, a.2 || (e_im a.1 k n).2)
def e_d1 (kd st : Nat) (c : Int) (n : Nat) (d : Int) (a : List Nat × Bool) : List Nat × Bool := if f_s kd st d 10 c = 0 then a else e_or a (e_k st (c + d)) n
def e_d2 (kd st : Nat) (c : Int) (n : Nat) (d : Int) (a : List Nat × Bool) : List Nat × Bool := e_or (e_d1 kd st c n d a) (e_k st (c + d * (f_s kd st d 10 c : Nat))) n
def e_d (kd st : Nat) (c : Int) (n : Nat) (d : Int) (a : List Nat × Bool) : List Nat × Bool :=
  if e_fk kd st c d (s_km kd) 0 < s_km kd then e_or (e_d2 kd st c n d a) (e_k (s_rot st d) (c + d * s_kt kd (2 * e_fk kd st c d (s_km kd) 0))) n else e_d2 kd st c n d a
def e_spr (kd : Nat) (S : List Nat) (k : Nat) : List Nat × Bool := e_d kd (k / 16) (((k % 16 : Nat) : Int) - 2) (S.getD k 0 + 1) 1 (e_d kd (k / 16) (((k % 16 : Nat) : Int) - 2) (S.getD k 0 + 1) (-1) (S, false))
def e_one (kd : Nat) (a : List Nat × Bool) (k : Nat) : List Nat × Bool := if a.1.getD k 0 < 99 then ((e_spr kd a.1 k).1, a.2 || (e_spr kd a.1 k).2) else a
def e_ps (kd : Nat) : Nat → List Nat × Bool → List Nat × Bool
  | 0, a => a
  | n + 1, a => e_ps kd n (e_one kd a (64 - (n + 1)))
/-- whether all that a pass comes across lies within the columns -/
def e_ok (kd : Nat) : Nat → List Nat × Bool → Bool
  | 0, _ => true
  | n + 1, a => (decide (99 ≤ a.1.getD (64 - (n + 1)) 0) || f_w kd ((64 - (n + 1)) / 16) ((((64 - (n + 1)) % 16 : Nat) : Int) - 2)) && e_ok kd n (e_one kd a (64 - (n + 1)))
def e_run (kd : Nat) : Nat → List Nat → List Nat
  | 0, S => S
  | n + 1, S => if (e_ps kd 64 (S, false)).2 then e_run kd n (e_ps kd 64 (S, false)).1 else (e_ps kd 64 (S, false)).1
def e_end (kd : Nat) : Nat → List Nat → Bool
  | 0, _ => false
  | n + 1, S => e_ok kd 64 (S, false) && (if (e_ps kd 64 (S, false)).2 then e_end kd n (e_ps kd 64 (S, false)).1 else true)
def e_0 (kd : Nat) : List Nat := (List.replicate 64 99).set (s_c0 kd + 2).toNat 0
theorem e_endT : ∀ kd, kd < 7 → e_end kd 6 (e_0 kd) = true := by decide +kernel
def e_T (kd k : Nat) : Nat := f_TAB.getD (64 * kd + k + 1) 99
theorem e_runT : ∀ kd, kd < 7 → ∀ k, k < 64 → (e_run kd 6 (e_0 kd)).getD k 0 = e_T kd k := by decide +kernel
def e_lw (kd s : Nat) : Nat → Int
  | 0 => 9
  | i + 1 => if (d_b kd i s).2 < e_lw kd s i then (d_b kd i s).2 else e_lw kd s i
def e_h (kd s : Nat) (c : Int) (s' : Nat) (c' : Int) (i : Nat) : Nat → Bool
  | 0 => false
  | k + 1 => e_h kd s c s' c' i k || (decide (c + (d_b kd i s).1 = c' + (d_b kd k s').1) && decide ((d_b kd i s).2 + (e_lw kd s' 4 - e_lw kd s 4) = (d_b kd k s').2))
def e_lk (kd s : Nat) (c : Int) (s' : Nat) (c' : Int) : Nat → Bool
  | 0 => true
  | i + 1 => e_lk kd s c s' c' i && e_h kd s c s' c' i 4
def e_lo (kd s : Nat) (c : Int) : Nat → Nat
  | 0 => 99
  | k + 1 => if e_T kd k < e_lo kd s c k ∧ e_lk kd s c (k / 16) (((k % 16 : Nat) : Int) - 2) 4 = true then e_T kd k else e_lo kd s c k
/-- the class's table -/
def f_lt (j : Nat) : Int32 := if f_TAB.getD j 99 = 99 then -1 else zI (f_TAB.getD j 99 : Nat)
def f_le (kd s : Nat) (c : Int) : Int32 := s_lc f_lt kd s c 4
theorem e_leT : ∀ kd, kd < 7 → ∀ s, s < 4 → ∀ x : Nat, x < 13 → f_w kd s ((x : Int) - 3) = true → f_le kd s ((x : Int) - 3) = zI (e_lo kd s ((x : Int) - 3) 64 : Nat) ∧ e_lo kd s ((x : Int) - 3) 64 < 99 := by decide +kernel
theorem s_lc_T {g : Nat → Int32} {kd s : Nat} {c : Int} (hk : kd < 7) (hs : s < 4) (h : ∀ j, j < 448 → g j = f_lt j) : ∀ n, n ≤ 4 → s_lc g kd s c n = s_lc f_lt kd s c n := by
  have h1 : ∀ s c, s < 4 → s_lt g kd s c = s_lt f_lt kd s c := by
    intro s c hs
    unfold s_lt
    split
    · rfl
    · exact h _ (by omega)
  intro n
  induction n with
  | zero => intro _; exact h1 s c hs
  | succ n ih =>
    intro hn
    unfold s_lc
    rw [ih (by omega), h1 n _ (by omega)]
end STEPS
