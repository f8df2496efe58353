/-! a lock on the row of numbers -/
section SCOREOP
def w_flt (us le : Int32) : Int32 := if 0 < us - le then us - le else 0
/-- the score of a lock: n rows, spin sp, whether the field is empty behind, least inputs -/
def o_score (m : Nat → Int32) (n sp : Nat) (em : Bool) (le : Int32) : Nat → Int32 :=
  let wh := decide (m 266 = 1)
  let won := w_w2 n sp (w_hard n sp && wh) (w_cb (m 238) n) em * m 235
  fun j => if j = 234 then m 234 + won else if j = 235 then w_lv (m 236 + zI n) else if j = 236 then m 236 + zI n else if j = 237 then m 237 + 1
    else if j = 238 then w_cb (m 238) n else if j = 239 then (if m 239 < w_cb (m 238) n then w_cb (m 238) n else m 239) else if j = 240 then m 240 + w_flt (m 229) le else if j = 241 then m 241 + m 229
    else if j = 243 + 3 * n + sp then m j + 1 else if j = 258 then m 222 else if j = 259 then zI n else if j = 260 then zI sp else if j = 261 then won else if j = 262 then m 229 else if j = 263 then le
    else if j = 264 then b2i (w_hard n sp && wh) else if j = 265 then 1 else if j = 266 then (if 0 < n then b2i (w_hard n sp) else m 266) else m j
theorem score_out {m : Nat → Int32} {n sp : Nat} {em : Bool} {le : Int32} {j : Nat} (hn : n ≤ 4) (hsp : sp ≤ 2) (h : j < 234 ∨ j = 242 ∨ 266 < j) : o_score m n sp em le j = m j := by
  simp only [o_score]
  rw [if_neg (by omega), if_neg (by omega), if_neg (by omega), if_neg (by omega), if_neg (by omega), if_neg (by omega), if_neg (by omega), if_neg (by omega), if_neg (by omega), if_neg (by omega), if_neg (by omega), if_neg (by omega), if_neg (by omega), if_neg (by omega), if_neg (by omega), if_neg (by omega), if_neg (by omega), if_neg (by omega)]
end SCOREOP
