/-! the engine: draws and holds -/
section HOLD
variable {G : mz_G} {K : mz_K} {T : mz_T} {I : mz_I} {L : mz_L}
def o_put (m : Nat → Int32) (kd : Nat) : Nat → Int32 := if o_fits m kd then o_app m kd else m_u (o_app m kd) 221 1
def w_mn (b : Bool) (many : Nat) : Nat := if b then s_mn many else many
def w_rr (b : Bool) (many : Nat) (rr : Nat → Nat → Int32) (m : Nat → Int32) : Nat → Nat → Int32 := if b then s_push many rr m else rr
theorem c_appearU {en me ra nw many B kd : Nat} {A : z_A} {Aj : Nat → z_A} {m : Nat → Int32} {rr : Nat → Nat → Int32} (hE : p_E T en A) (hE1 : T.2 en 1 = some me) (h : p_Q T I L A B m) (hM : p_M T I L me ra Aj nw many B rr) (hdj : ∀ j, j < 6 → z_dj (Aj j) A) (hk : kd < 7)
    (hK : ∀ I' L' nw', fr I I' (A.x :: A.p :: A.g :: me :: z_rec Aj) → fr L L' (z_rec Aj) → p_R T I' L' A B (o_put m kd) → p_M T I' L' me ra Aj nw' (w_mn (o_fits m kd) many) B (w_rr (o_fits m kd) many rr (o_app m kd)) → (∀ i, 7 ≤ i → I' A.g i = I A.g i) → (∀ i, 3 ≤ i → I' me i = I me i) → K none T I' L') : mz_Ctr G M_X1_appear [.ref en, .int (zI kd)] T I L K := by
  refine mz_apartC fun hU => ?_
  have hA := h.1.1
  have m1 : (me, 0, 6) ∈ T.1 := hM.1.1
  have hmA : me ∉ A.all := z_out hU hA m1 (by decide)
  have hn1 : ∀ j, j < 6 → ∀ a, a ∈ (Aj j).all → a ∉ A.all := fun j hj => hdj j hj
  refine c_appearE hE hE1 h hM hdj hk (fun q I' L' nw' f1 f2 hR hM' h3 => ?_) (fun q I' f1 hR h7 => ?_)
  · refine hK I' L' nw' (fr_tr f1 fr_refl (fun a ha => by simp at ha ⊢; rcases ha with e | e | e | e <;> simp [e]) (fun _ q => q)) f2 (by unfold o_put; rw [if_pos q]; exact hR) (by unfold w_mn w_rr; rw [if_pos q, if_pos q]; exact hM') (fun i hi => ?_) h3
    have eg : I' A.g = I A.g := f1 _ (by
      obtain ⟨⟨g1, -⟩, -, ⟨x1, x2, x3⟩, -⟩ := hA
      simp
      refine ⟨mz_ne hU g1 x1 (by decide), mz_ne hU g1 x3 (by decide), mz_ne hU g1 m1 (by decide), fun e => ?_⟩
      obtain ⟨j, hj, e2⟩ := z_rec_mem.mp e
      exact hn1 j hj _ e2 z_gm)
    rw [eg]
  · have e0 : ∀ a, a ∉ A.all → I' a = I a := fun a ha => f1 a (fun e => ha (by simp at e; rcases e with e | e | e <;> simp [z_A.all, e]))
    refine hK I' L nw (fr_tr f1 fr_refl (by simp) (fun _ q => q)) fr_refl (by unfold o_put; rw [if_neg (by rw [q]; decide)]; exact hR) (by unfold w_mn w_rr; rw [if_neg (by rw [q]; decide), if_neg (by rw [q]; decide)]; exact p_M_fr hM (e0 _ hmA) (fun j hj a ha => ⟨e0 _ (hn1 j hj a ha), rfl⟩)) h7 (fun i hi => by rw [e0 _ hmA])
def m_z (m : Nat → Int32) : Nat × Nat := ((m 267).toNatClampNeg, (m 220).toNatClampNeg)
noncomputable def m_dk (m : Nat → Int32) : Nat := q_kd (m_z m)
noncomputable def o_draw (m : Nat → Int32) : Nat → Int32 := m_u (m_u m 267 (zI (q_nx (m_z m)).1)) 220 (zI (q_nx (m_z m)).2)
theorem z_nat31 {n : Nat} (h : n < 2147483648) : (zI (n : Int)).toNatClampNeg = n := by
  show (zI (n : Int)).toInt.toNat = n
  have : (zI (n : Int)).toInt = n := by
    unfold zI
    rw [Int32.toInt_ofInt]
    exact Int.bmod_eq_of_le (by have : (Int32.size : Int) = 4294967296 := rfl
                                omega) (by have : (Int32.size : Int) = 4294967296 := rfl
                                           omega)
  rw [this]; rfl
theorem take_Q {A : z_A} {B : Nat} {m : Nat → Int32} {I' : mz_I} {L' : mz_L} {z : Nat × Nat} (hU : ∀ a x y, (a, x) ∈ T.1 → (a, y) ∈ T.1 → x = y) (h : p_Q T I L A B m) (hf : fr I I' [A.b, A.v]) (hz : m_z m = z) (hB : p_Bags T I' L' A.b A.v (q_nx z)) : p_Q T I' L' A B (o_draw m) := by
  obtain ⟨⟨hA, hfld, hnof⟩, ⟨ho1, ho2⟩, hh, ⟨hu1, hu2⟩, -, hsc, hlev, hhard, hpcs, hcnt, hlat⟩ := h
  obtain ⟨⟨g1, g2, g3, g4, g5⟩, ⟨f1, f2, f3⟩, ⟨x1, x2, x3⟩, ⟨b1, b2, b3⟩, ⟨s1, s2, s3, s4, s5⟩⟩ := id hA
  have n0 : ∀ {a : Nat} {x : Nat × Nat}, (a, x) ∈ T.1 → x ≠ (0, 0) → x ≠ (1, 5) → I' a = I a := fun {a x} q e1 e2 => hf a (by simp; exact ⟨mz_ne hU q b1 e1, mz_ne hU q b2 e2⟩)
  have hm : ∀ j, j ≠ 267 → j ≠ 220 → o_draw m j = m j := fun j a b => by unfold o_draw; rw [m_u_ne b, m_u_ne a]
  have em : s_fm (o_draw m) = s_fm m := s_fm_eq (fun i hi => hm i (by omega) (by omega))
  have ek := n0 f2 (by decide) (by decide)
  have eg := n0 g1 (by decide) (by decide)
  have es := n0 s1 (by decide) (by decide)
  have ec := n0 s2 (by decide) (by decide)
  have el := n0 s3 (by decide) (by decide)
  refine ⟨⟨hA, ?_, ?_⟩, ?_, ?_, ?_, ?_, ?_, ?_, ?_, ?_, ?_, ?_⟩
  · intro i hi; rw [ek, hm i (by omega) (by omega)]; exact hfld i hi
  · rw [em]; exact hnof
  · rw [eg, hm 221 (by decide) (by decide)]; exact ⟨ho1, ho2⟩
  · rw [eg, hm 232 (by decide) (by decide)]; exact hh
  · rw [eg, hm 233 (by decide) (by decide)]; exact ⟨hu1, hu2⟩
  · refine ⟨q_nx z, ?_, ?_, hB⟩
    · unfold o_draw; rw [m_u_ne (by decide), m_u_eq, hz]
    · unfold o_draw; rw [m_u_eq, hz]
  · rw [es, hm 234 (by decide) (by decide), hm 236 (by decide) (by decide), hm 237 (by decide) (by decide), hm 238 (by decide) (by decide), hm 239 (by decide) (by decide), hm 240 (by decide) (by decide), hm 241 (by decide) (by decide), hm 242 (by decide) (by decide), hm 266 (by decide) (by decide)]
    exact hsc
  · rw [hm 235 (by decide) (by decide), hm 236 (by decide) (by decide)]; exact hlev
  · rw [hm 266 (by decide) (by decide)]; exact hhard
  · rw [hm 237 (by decide) (by decide), hm 265 (by decide) (by decide)]; exact hpcs
  · intro sp n a b
    rw [ec, hm _ (by omega) (by omega)]; exact hcnt sp n a b
  · rw [hm 265 (by decide) (by decide), el]
    intro q w hw
    rw [hm _ (by omega) (by omega)]; exact hlat q w hw
theorem Q_of_R {A : z_A} {B : Nat} {m : Nat → Int32} (h : p_R T I L A B m) (hl : m 221 = 0) : p_Q T I L A B m :=
  ⟨⟨h.sh, h.fld, h.nof⟩, ⟨by rw [h.over.1, hl], hl⟩, h.held, ⟨h.used, (h.live hl).2.1⟩, h.bags, h.sc, h.lev, h.hard, h.pcs, h.cnt, h.lat⟩
theorem z_of_Q {A : z_A} {B : Nat} {m : Nat → Int32} (h : p_Q T I L A B m) : p_Bags T I L A.b A.v (m_z m) ∧ q_ok (m_z m) := by
  obtain ⟨z, z1, z2, z3⟩ := h.2.2.2.2.1
  have hz : m_z m = z := by
    unfold m_z
    have ok := z3.2.2.2.2
    rw [z1, z2, z_nat31 ok.1, z_nat31 (by have := ok.2; omega)]
  rw [hz]
  exact ⟨z3, z3.2.2.2.2⟩
/-- the hold is set -/
theorem hold_Q {A : z_A} {B : Nat} {m : Nat → Int32} {v u : Int32} (hU : ∀ a x y, (a, x) ∈ T.1 → (a, y) ∈ T.1 → x = y) (h : p_Q T I L A B m) (hv : v = -1 ∨ ∃ kd : Nat, kd < 7 ∧ v = zI kd) (hu : u = 0 ∨ u = 1) : p_Q T (mz_u (mz_u I A.g 4 v) A.g 5 u) L A B (m_u (m_u m 232 v) 233 u) := by
  obtain ⟨⟨hA, hfld, hnof⟩, ⟨ho1, ho2⟩, hh, ⟨hu1, hu2⟩, ⟨z, z1, z2, z3, z4, z5, z6, z7⟩, hsc, hlev, hhard, hpcs, hcnt, hlat⟩ := h
  obtain ⟨⟨g1, g2, g3, g4, g5⟩, ⟨f1, f2, f3⟩, ⟨x1, x2, x3⟩, ⟨b1, b2, b3⟩, ⟨s1, s2, s3, s4, s5⟩⟩ := id hA
  have n0 : ∀ {a : Nat} {x : Nat × Nat}, (a, x) ∈ T.1 → x ≠ (0, 4) → mz_u (mz_u I A.g 4 v) A.g 5 u a = I a := fun q e => by rw [mz_u_ne (mz_ne hU q g1 e), mz_u_ne (mz_ne hU q g1 e)]
  have hm : ∀ j, j ≠ 232 → j ≠ 233 → m_u (m_u m 232 v) 233 u j = m j := fun j a b => by rw [m_u_ne b, m_u_ne a]
  have em : s_fm (m_u (m_u m 232 v) 233 u) = s_fm m := s_fm_eq (fun i hi => hm i (by omega) (by omega))
  refine ⟨⟨hA, ?_, ?_⟩, ?_, ?_, ?_, ?_, ?_, ?_, ?_, ?_, ?_, ?_⟩
  · intro i hi; rw [n0 f2 (by decide), hm i (by omega) (by omega)]; exact hfld i hi
  · rw [em]; exact hnof
  · rw [mz_u_nk (by decide), mz_u_nk (by decide), hm 221 (by decide) (by decide)]; exact ⟨ho1, ho2⟩
  · rw [mz_u_nk (by decide), mz_u_eq, m_u_ne (by decide), m_u_eq]; exact ⟨rfl, hv⟩
  · rw [mz_u_eq, m_u_eq]; exact ⟨hu, rfl⟩
  · exact ⟨z, by rw [hm 267 (by decide) (by decide)]; exact z1, by rw [hm 220 (by decide) (by decide)]; exact z2, z3, by rw [n0 b2 (by decide)]; exact z4, z5, by rw [n0 b1 (by decide)]; exact z6, z7⟩
  · rw [n0 s1 (by decide), hm 234 (by decide) (by decide), hm 236 (by decide) (by decide), hm 237 (by decide) (by decide), hm 238 (by decide) (by decide), hm 239 (by decide) (by decide), hm 240 (by decide) (by decide), hm 241 (by decide) (by decide), hm 242 (by decide) (by decide), hm 266 (by decide) (by decide)]
    exact hsc
  · rw [hm 235 (by decide) (by decide), hm 236 (by decide) (by decide)]; exact hlev
  · rw [hm 266 (by decide) (by decide)]; exact hhard
  · rw [hm 237 (by decide) (by decide), hm 265 (by decide) (by decide)]; exact hpcs
  · intro sp n a b
    rw [n0 s2 (by decide), hm _ (by omega) (by omega)]; exact hcnt sp n a b
  · rw [hm 265 (by decide) (by decide), n0 s3 (by decide)]
    intro q w hw
    rw [hm _ (by omega) (by omega)]; exact hlat q w hw
end HOLD
