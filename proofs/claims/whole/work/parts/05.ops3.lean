/-! branches, switches, heap, makings, ends-/
section MZE
variable {M : mz_M} {pc : Nat}
def o_go (tgt : Nat) : mz_Op := fun _ _ lv st T I L n k => k tgt lv st T I L n
theorem ok_goto {z : Int} {tgt : Nat} (hd : decode (mz_mb M) pc = .ok (.goto z, 3)) (hz : (pc : Int) + z = (tgt : Int)) : mz_Jmp M pc (o_go tgt) := by
  intro G K X k lv st T I L n ho hk hG p e s m args below meth c Q hC hE hX H locs ls hP hS hl h1 h2
  exact lv_goto hC.1 hC.2.1 hd hz (mz_go (hk _ _ _ _ _ _ _ ho) hG hC hE hX hP hS hl h1 h2)
def o_if (t : Int32 → Prop) (tgt : Nat) : mz_Op := fun _ pc lv st T I L n k => match st with
  | .int x :: r => (t x → k tgt lv r T I L n) ∧ (¬ t x → k (pc + 3) lv r T I L n)
  | _ => False
def o_ic (t : Int32 → Int32 → Prop) (tgt : Nat) : mz_Op := fun _ pc lv st T I L n k => match st with
  | .int y :: .int x :: r => (t x y → k tgt lv r T I L n) ∧ (¬ t x y → k (pc + 3) lv r T I L n)
  | _ => False
theorem ok_ifeq {z : Int} {tgt : Nat} (hd : decode (mz_mb M) pc = .ok (.ifCond .eq z, 3)) (hz : (pc : Int) + z = (tgt : Int)) : mz_Jmp M pc (o_if (fun x => x = 0) tgt) := by
  intro G K X k lv st T I L n ho hk hG p e s m args below meth c Q hC hE hX H locs ls hP hS hl h1 h2
  unfold o_if at ho
  split at ho
  · exact lv_if_eq hC.1 hC.2.1 hd hz (fun h => mz_go (hk _ _ _ _ _ _ _ (ho.1 h)) hG hC hE hX hP hS hl h1 h2) (fun h => mz_go (hk _ _ _ _ _ _ _ (ho.2 h)) hG hC hE hX hP hS hl h1 h2)
  · exact ho.elim
theorem ok_ifne {z : Int} {tgt : Nat} (hd : decode (mz_mb M) pc = .ok (.ifCond .ne z, 3)) (hz : (pc : Int) + z = (tgt : Int)) : mz_Jmp M pc (o_if (fun x => ¬ x = 0) tgt) := by
  intro G K X k lv st T I L n ho hk hG p e s m args below meth c Q hC hE hX H locs ls hP hS hl h1 h2
  unfold o_if at ho
  split at ho
  · exact lv_if_ne hC.1 hC.2.1 hd hz (fun h => mz_go (hk _ _ _ _ _ _ _ (ho.1 h)) hG hC hE hX hP hS hl h1 h2) (fun h => mz_go (hk _ _ _ _ _ _ _ (ho.2 (fun q => q h))) hG hC hE hX hP hS hl h1 h2)
  · exact ho.elim
theorem ok_iflt {z : Int} {tgt : Nat} (hd : decode (mz_mb M) pc = .ok (.ifCond .lt z, 3)) (hz : (pc : Int) + z = (tgt : Int)) : mz_Jmp M pc (o_if (fun x => x < 0) tgt) := by
  intro G K X k lv st T I L n ho hk hG p e s m args below meth c Q hC hE hX H locs ls hP hS hl h1 h2
  unfold o_if at ho
  split at ho
  · exact lv_if_lt hC.1 hC.2.1 hd hz (fun h => mz_go (hk _ _ _ _ _ _ _ (ho.1 h)) hG hC hE hX hP hS hl h1 h2) (fun h => mz_go (hk _ _ _ _ _ _ _ (ho.2 h)) hG hC hE hX hP hS hl h1 h2)
  · exact ho.elim
theorem ok_ifge {z : Int} {tgt : Nat} (hd : decode (mz_mb M) pc = .ok (.ifCond .ge z, 3)) (hz : (pc : Int) + z = (tgt : Int)) : mz_Jmp M pc (o_if (fun x => 0 ≤ x) tgt) := by
  intro G K X k lv st T I L n ho hk hG p e s m args below meth c Q hC hE hX H locs ls hP hS hl h1 h2
  unfold o_if at ho
  split at ho
  · exact lv_if_ge hC.1 hC.2.1 hd hz (fun h => mz_go (hk _ _ _ _ _ _ _ (ho.1 h)) hG hC hE hX hP hS hl h1 h2) (fun h => mz_go (hk _ _ _ _ _ _ _ (ho.2 h)) hG hC hE hX hP hS hl h1 h2)
  · exact ho.elim
theorem ok_ifgt {z : Int} {tgt : Nat} (hd : decode (mz_mb M) pc = .ok (.ifCond .gt z, 3)) (hz : (pc : Int) + z = (tgt : Int)) : mz_Jmp M pc (o_if (fun x => 0 < x) tgt) := by
  intro G K X k lv st T I L n ho hk hG p e s m args below meth c Q hC hE hX H locs ls hP hS hl h1 h2
  unfold o_if at ho
  split at ho
  · exact lv_if_gt hC.1 hC.2.1 hd hz (fun h => mz_go (hk _ _ _ _ _ _ _ (ho.1 h)) hG hC hE hX hP hS hl h1 h2) (fun h => mz_go (hk _ _ _ _ _ _ _ (ho.2 h)) hG hC hE hX hP hS hl h1 h2)
  · exact ho.elim
theorem ok_ifle {z : Int} {tgt : Nat} (hd : decode (mz_mb M) pc = .ok (.ifCond .le z, 3)) (hz : (pc : Int) + z = (tgt : Int)) : mz_Jmp M pc (o_if (fun x => x ≤ 0) tgt) := by
  intro G K X k lv st T I L n ho hk hG p e s m args below meth c Q hC hE hX H locs ls hP hS hl h1 h2
  unfold o_if at ho
  split at ho
  · exact lv_if_le hC.1 hC.2.1 hd hz (fun h => mz_go (hk _ _ _ _ _ _ _ (ho.1 h)) hG hC hE hX hP hS hl h1 h2) (fun h => mz_go (hk _ _ _ _ _ _ _ (ho.2 h)) hG hC hE hX hP hS hl h1 h2)
  · exact ho.elim
theorem ok_iceq {z : Int} {tgt : Nat} (hd : decode (mz_mb M) pc = .ok (.if_icmp .eq z, 3)) (hz : (pc : Int) + z = (tgt : Int)) : mz_Jmp M pc (o_ic (fun x y => x = y) tgt) := by
  intro G K X k lv st T I L n ho hk hG p e s m args below meth c Q hC hE hX H locs ls hP hS hl h1 h2
  unfold o_ic at ho
  split at ho
  · exact lv_icmp_eq hC.1 hC.2.1 hd hz (fun h => mz_go (hk _ _ _ _ _ _ _ (ho.1 h)) hG hC hE hX hP hS hl h1 h2) (fun h => mz_go (hk _ _ _ _ _ _ _ (ho.2 h)) hG hC hE hX hP hS hl h1 h2)
  · exact ho.elim
theorem ok_icne {z : Int} {tgt : Nat} (hd : decode (mz_mb M) pc = .ok (.if_icmp .ne z, 3)) (hz : (pc : Int) + z = (tgt : Int)) : mz_Jmp M pc (o_ic (fun x y => ¬ x = y) tgt) := by
  intro G K X k lv st T I L n ho hk hG p e s m args below meth c Q hC hE hX H locs ls hP hS hl h1 h2
  unfold o_ic at ho
  split at ho
  · exact lv_icmp_ne hC.1 hC.2.1 hd hz (fun h => mz_go (hk _ _ _ _ _ _ _ (ho.1 h)) hG hC hE hX hP hS hl h1 h2) (fun h => mz_go (hk _ _ _ _ _ _ _ (ho.2 (fun q => q h))) hG hC hE hX hP hS hl h1 h2)
  · exact ho.elim
theorem ok_iclt {z : Int} {tgt : Nat} (hd : decode (mz_mb M) pc = .ok (.if_icmp .lt z, 3)) (hz : (pc : Int) + z = (tgt : Int)) : mz_Jmp M pc (o_ic (fun x y => x < y) tgt) := by
  intro G K X k lv st T I L n ho hk hG p e s m args below meth c Q hC hE hX H locs ls hP hS hl h1 h2
  unfold o_ic at ho
  split at ho
  · exact lv_icmp_lt hC.1 hC.2.1 hd hz (fun h => mz_go (hk _ _ _ _ _ _ _ (ho.1 h)) hG hC hE hX hP hS hl h1 h2) (fun h => mz_go (hk _ _ _ _ _ _ _ (ho.2 h)) hG hC hE hX hP hS hl h1 h2)
  · exact ho.elim
theorem ok_icge {z : Int} {tgt : Nat} (hd : decode (mz_mb M) pc = .ok (.if_icmp .ge z, 3)) (hz : (pc : Int) + z = (tgt : Int)) : mz_Jmp M pc (o_ic (fun x y => y ≤ x) tgt) := by
  intro G K X k lv st T I L n ho hk hG p e s m args below meth c Q hC hE hX H locs ls hP hS hl h1 h2
  unfold o_ic at ho
  split at ho
  · exact lv_icmp_ge hC.1 hC.2.1 hd hz (fun h => mz_go (hk _ _ _ _ _ _ _ (ho.1 h)) hG hC hE hX hP hS hl h1 h2) (fun h => mz_go (hk _ _ _ _ _ _ _ (ho.2 h)) hG hC hE hX hP hS hl h1 h2)
  · exact ho.elim
theorem ok_icgt {z : Int} {tgt : Nat} (hd : decode (mz_mb M) pc = .ok (.if_icmp .gt z, 3)) (hz : (pc : Int) + z = (tgt : Int)) : mz_Jmp M pc (o_ic (fun x y => y < x) tgt) := by
  intro G K X k lv st T I L n ho hk hG p e s m args below meth c Q hC hE hX H locs ls hP hS hl h1 h2
  unfold o_ic at ho
  split at ho
  · exact lv_icmp_gt hC.1 hC.2.1 hd hz (fun h => mz_go (hk _ _ _ _ _ _ _ (ho.1 h)) hG hC hE hX hP hS hl h1 h2) (fun h => mz_go (hk _ _ _ _ _ _ _ (ho.2 h)) hG hC hE hX hP hS hl h1 h2)
  · exact ho.elim
theorem ok_icle {z : Int} {tgt : Nat} (hd : decode (mz_mb M) pc = .ok (.if_icmp .le z, 3)) (hz : (pc : Int) + z = (tgt : Int)) : mz_Jmp M pc (o_ic (fun x y => x ≤ y) tgt) := by
  intro G K X k lv st T I L n ho hk hG p e s m args below meth c Q hC hE hX H locs ls hP hS hl h1 h2
  unfold o_ic at ho
  split at ho
  · exact lv_icmp_le hC.1 hC.2.1 hd hz (fun h => mz_go (hk _ _ _ _ _ _ _ (ho.1 h)) hG hC hE hX hP hS hl h1 h2) (fun h => mz_go (hk _ _ _ _ _ _ _ (ho.2 h)) hG hC hE hX hP hS hl h1 h2)
  · exact ho.elim
/-- a table switch: the cases from lo on, one behind another -/
def mz_sw (x : Int32) (lo : Int) (ts : List Nat) (d : Nat) (k : Nat → Prop) : Prop := match ts with
  | [] => k d
  | t :: r => (x.toInt = lo → k t) ∧ (¬ x.toInt = lo → mz_sw x (lo + 1) r d k)
theorem mz_sw_in {x : Int32} {d : Nat} {k : Nat → Prop} : ∀ (ts : List Nat) (lo : Int), mz_sw x lo ts d k → ∀ (j t : Nat), ts[j]? = some t → x.toInt = lo + (j : Int) → k t
  | [], _, _, j, t, h, _ => by simp at h
  | t0 :: r, lo, hs, j, t, h, hx => by
    cases j with
    | zero =>
      simp only [List.getElem?_cons_zero, Option.some.injEq] at h
      subst h
      exact hs.1 (by simpa using hx)
    | succ j =>
      simp only [List.getElem?_cons_succ] at h
      refine mz_sw_in r (lo + 1) (hs.2 (by omega)) j t h (by rw [hx]; push_cast; omega)
theorem mz_sw_out {x : Int32} {d : Nat} {k : Nat → Prop} : ∀ (ts : List Nat) (lo : Int), mz_sw x lo ts d k → (x.toInt < lo ∨ lo + ts.length ≤ x.toInt) → k d
  | [], _, hs, _ => hs
  | t0 :: r, lo, hs, hx => by
    simp only [List.length_cons] at hx
    exact mz_sw_out r (lo + 1) (hs.2 (by omega)) (by omega)
def o_tsw (lo : Int) (ts : List Nat) (d : Nat) : mz_Op := fun _ _ lv st T I L n k => match st with
  | .int x :: r => mz_sw x lo ts d (fun t => k t lv r T I L n)
  | _ => False
theorem ok_tsw {lo hi dz : Int} {offs : Array Int} {len d : Nat} {ts : List Nat} (hd : decode (mz_mb M) pc = .ok (.tableswitch dz lo hi offs, len)) (hz : (pc : Int) + dz = (d : Int)) (hts : ts.map (fun t : Nat => (t : Int)) = offs.toList.map (fun z => (pc : Int) + z)) (hhi : lo + offs.size = hi + 1) : mz_Jmp M pc (o_tsw lo ts d) := by
  intro G K X k lv st T I L n ho hk hG p e s m args below meth c Q hC hE hX H locs ls hP hS hl h1 h2
  unfold o_tsw at ho
  split at ho
  · rename_i x r
    have hlen : ts.length = offs.size := by
      have := congrArg List.length hts
      simpa using this
    by_cases hlo : x.toInt < lo
    · exact lv_tableOut hC.1 hC.2.1 hd (Or.inl hlo) hz (mz_go (hk _ _ _ _ _ _ _ (mz_sw_out ts lo ho (Or.inl hlo))) hG hC hE hX hP hS hl h1 h2)
    · by_cases hh : hi < x.toInt
      · exact lv_tableOut hC.1 hC.2.1 hd (Or.inr hh) hz (mz_go (hk _ _ _ _ _ _ _ (mz_sw_out ts lo ho (Or.inr (by omega)))) hG hC hE hX hP hS hl h1 h2)
      · obtain ⟨j, hj⟩ : ∃ j : Nat, x.toInt = lo + j := ⟨(x.toInt - lo).toNat, by omega⟩
        have hjl : j < offs.size := by omega
        have hjt : j < ts.length := by omega
        have e1 : (ts.map (fun t : Nat => (t : Int)))[j]? = (offs.toList.map (fun z => (pc : Int) + z))[j]? := by rw [hts]
        rw [List.getElem?_map, List.getElem?_map, List.getElem?_eq_getElem hjt, Array.getElem?_toList, Array.getElem?_eq_getElem hjl] at e1
        simp only [Option.map_some, Option.some.injEq] at e1
        refine lv_tableIn (off := offs[j]) (tgt := ts[j]) hC.1 hC.2.1 hd hlo hh ?_ e1.symm (mz_go (hk _ _ _ _ _ _ _ (mz_sw_in ts lo ho j _ (List.getElem?_eq_getElem hjt) hj)) hG hC hE hX hP hS hl h1 h2)
        rw [show (x.toInt - lo).toNat = j by omega]
        exact Array.getElem?_eq_getElem hjl
  · exact ho.elim
/-- a lookup switch -/
def mz_lk (x : Int32) (ps : List (Int × Nat)) (d : Nat) (k : Nat → Prop) : Prop := match ps with
  | [] => k d
  | q :: r => (x.toInt = q.1 → k q.2) ∧ (¬ x.toInt = q.1 → mz_lk x r d k)
def mz_lt (v : Int) (ps : List (Int × Nat)) (d : Nat) : Nat := match ps with
  | [] => d
  | q :: r => if v = q.1 then q.2 else mz_lt v r d
theorem mz_lk_of {x : Int32} {d : Nat} {k : Nat → Prop} : ∀ (ps : List (Int × Nat)), mz_lk x ps d k → k (mz_lt x.toInt ps d)
  | [], h => h
  | q :: r, h => by
    unfold mz_lt
    split
    · rename_i e; exact h.1 e
    · rename_i e; exact mz_lk_of r (h.2 e)
def o_lsw (ps : List (Int × Nat)) (d : Nat) : mz_Op := fun _ _ lv st T I L n k => match st with
  | .int x :: r => mz_lk x ps d (fun t => k t lv r T I L n)
  | _ => False
theorem ok_lsw {dz : Int} {qs : Array (Int × Int)} {len d : Nat} {ps : List (Int × Nat)} (hd : decode (mz_mb M) pc = .ok (.lookupswitch dz qs, len)) (hq : (qs.toList.zip (qs.toList.drop 1)).all (fun (a, next) => a.1 < next.1) = true)
    (ho9 : ∀ v : Int, (pc : Int) + Op.lookupswitch.offset qs.toList dz v = (mz_lt v ps d : Int)) : mz_Jmp M pc (o_lsw ps d) := by
  intro G K X k lv st T I L n ho hk hG p e s m args below meth c Q hC hE hX H locs ls hP hS hl h1 h2
  unfold o_lsw at ho
  split at ho
  · rename_i x r
    exact lv_lookup hC.1 hC.2.1 hd hq rfl (ho9 x.toInt) (mz_go (hk _ _ _ _ _ _ _ (mz_lk_of ps ho)) hG hC hE hX hP hS hl h1 h2)
  · exact ho.elim
end MZE
