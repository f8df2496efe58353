/-! Finesse: a kind is explored -/
section FIN4
variable {G : mz_G} {K : mz_K} {T : mz_T} {I : mz_I} {L : mz_L}
def f_c (sp : Nat) : Int := ((sp % 16 : Nat) : Int) - 3
def f_mv (kd sp : Nat) (d : Int) : Nat := if f_w kd (sp / 16) (f_c sp + d) then f_sp (sp / 16) (f_c sp + d) else f_sp (sp / 16) (f_c sp)
def f_sd (kd sp : Nat) (d : Int) : Nat := f_sp (sp / 16) (f_c sp + d * (f_s kd (sp / 16) d 10 (f_c sp) : Nat))
def f_tk (kd sp : Nat) (d : Int) : Nat → Nat → Nat
  | 0, _ => f_sp (sp / 16) (f_c sp)
  | n + 1, i => if f_w kd (s_rot (sp / 16) d) (f_c sp + d * s_kt kd (2 * i)) then f_sp (s_rot (sp / 16) d) (f_c sp + d * s_kt kd (2 * i)) else f_tk kd sp d n (i + 1)
def f_dir (kd : Nat) (Q : List (Nat × Nat)) (sp n : Nat) (d : Int) : List (Nat × Nat) :=
  f_reach (f_reach (f_reach Q (f_mv kd sp d) n) (f_sd kd sp d) n) (f_tk kd sp d (s_km kd) 0) n
def f_step (kd : Nat) (Q : List (Nat × Nat)) (i : Nat) : List (Nat × Nat) :=
  let sp := (Q.getD i (0, 0)).1
  f_dir kd (f_dir kd Q sp (f_in Q sp + 1) (-1)) sp (f_in Q sp + 1) 1
def f_go (kd : Nat) : Nat → Nat → List (Nat × Nat) → List (Nat × Nat)
  | 0, _, Q => Q
  | n + 1, i, Q => if i < Q.length then f_go kd n (i + 1) (f_step kd Q i) else Q
def f_ok (kd : Nat) : Nat → Nat → List (Nat × Nat) → Bool
  | 0, _, _ => false
  | n + 1, i, Q => if i < Q.length then (let sp := (Q.getD i (0, 0)).1; decide (sp < 64) && f_w kd (sp / 16) (f_c sp) && f_has Q sp && decide (f_in Q sp < 900)) && f_ok kd n (i + 1) (f_step kd Q i) else true
def f_0 (kd : Nat) : List (Nat × Nat) := [(f_sp 0 (s_c0 kd), 0)]
def f_fin (kd : Nat) : List (Nat × Nat) := f_go kd 64 0 (f_0 kd)
theorem f_okT : ∀ kd, kd < 7 → f_ok kd 64 0 (f_0 kd) = true := by decide +kernel
/-- least inputs, for the spots of each kind; 99: none -/
def f_TAB : List Nat := [99, 99, 99, 1, 2, 1, 0, 1, 2, 1, 99, 99, 99, 99, 99, 99, 99, 2, 3, 2, 3, 2, 1, 2, 3, 2, 2, 99, 99, 99, 99, 99, 99, 99, 99, 3, 3, 3, 2, 3, 3, 3, 99, 99, 99, 99, 99, 99, 99, 99, 2, 2, 3, 2, 1, 2, 3, 2, 3, 2, 99, 99, 99, 99, 99, 99, 99, 1, 2, 2, 1, 0, 1, 2, 2, 1, 99, 99, 99, 99, 99, 99, 99, 2, 3, 3, 2, 1, 2, 3, 3, 2, 99, 99, 99, 99, 99, 99, 99, 3, 4, 4, 3, 2, 3, 4, 4, 3, 99, 99, 99, 99, 99, 99, 99, 2, 3, 3, 2, 1, 2, 3, 3, 2, 99, 99, 99, 99, 99, 99, 99, 1, 2, 1, 0, 1, 2, 2, 1, 99, 99, 99, 99, 99, 99, 99, 2, 2, 3, 2, 1, 2, 3, 3, 2, 99, 99, 99, 99, 99, 99, 99, 99, 3, 4, 3, 2, 3, 4, 4, 3, 99, 99, 99, 99, 99, 99, 99, 99, 2, 3, 2, 1, 2, 3, 3, 2, 2, 99, 99, 99, 99, 99, 99, 99, 1, 2, 1, 0, 1, 2, 2, 1, 99, 99, 99, 99, 99, 99, 99, 2, 2, 3, 2, 1, 2, 3, 3, 2, 99, 99, 99, 99, 99, 99, 99, 99, 3, 4, 3, 2, 3, 4, 4, 3, 99, 99, 99, 99, 99, 99, 99, 99, 2, 3, 2, 1, 2, 3, 3, 2, 2, 99, 99, 99, 99, 99, 99, 99, 1, 2, 1, 0, 1, 2, 2, 1, 99, 99, 99, 99, 99, 99, 99, 2, 2, 3, 2, 1, 2, 3, 3, 2, 99, 99, 99, 99, 99, 99, 99, 99, 3, 4, 3, 2, 3, 4, 4, 3, 99, 99, 99, 99, 99, 99, 99, 99, 2, 3, 2, 1, 2, 3, 3, 2, 2, 99, 99, 99, 99, 99, 99, 99, 1, 2, 1, 0, 1, 2, 2, 1, 99, 99, 99, 99, 99, 99, 99, 2, 2, 3, 2, 1, 2, 3, 3, 2, 99, 99, 99, 99, 99, 99, 99, 99, 3, 4, 3, 2, 3, 4, 4, 3, 99, 99, 99, 99, 99, 99, 99, 99, 2, 3, 2, 1, 2, 3, 3, 2, 2, 99, 99, 99, 99, 99, 99, 99, 1, 2, 1, 0, 1, 2, 2, 1, 99, 99, 99, 99, 99, 99, 99, 2, 2, 3, 2, 1, 2, 3, 3, 2, 99, 99, 99, 99, 99, 99, 99, 99, 3, 4, 3, 2, 3, 4, 4, 3, 99, 99, 99, 99, 99, 99, 99, 99, 2, 3, 2, 1, 2, 3, 3, 2, 2, 99, 99, 99, 99]
theorem f_tabT : ∀ kd, kd < 7 → ∀ j, j < 64 → f_val (f_fin kd) j = (if f_TAB.getD (64 * kd + j) 0 = 99 then -1 else zI (f_TAB.getD (64 * kd + j) 0 : Nat)) := by decide +kernel
theorem f_tkn {kd sp : Nat} {d : Int} : ∀ n i, (∀ j, i ≤ j → j < i + n → f_w kd (s_rot (sp / 16) d) (f_c sp + d * s_kt kd (2 * j)) = false) → f_tk kd sp d n i = f_sp (sp / 16) (f_c sp)
  | 0, _, _ => rfl
  | n + 1, i, h => by
    unfold f_tk
    rw [h i (Nat.le_refl _) (by omega), if_neg (by decide)]
    exact f_tkn n (i + 1) (fun j a b => h j (by omega) (by omega))
theorem f_tkt {kd sp t : Nat} {d : Int} (ht : f_w kd (s_rot (sp / 16) d) (f_c sp + d * s_kt kd (2 * t)) = true) : ∀ n i, i ≤ t → t < i + n → (∀ j, i ≤ j → j < t → f_w kd (s_rot (sp / 16) d) (f_c sp + d * s_kt kd (2 * j)) = false) → f_tk kd sp d n i = f_sp (s_rot (sp / 16) d) (f_c sp + d * s_kt kd (2 * t))
  | 0, i, h1, h2, _ => absurd h2 (by omega)
  | n + 1, i, h1, h2, h => by
    unfold f_tk
    by_cases e : i = t
    · subst e; rw [if_pos ht]
    · rw [h i (Nat.le_refl _) (by omega), if_neg (by decide)]
      exact f_tkt ht n (i + 1) (by omega) (by omega) (fun j a b => h j (by omega) b)
end FIN4
