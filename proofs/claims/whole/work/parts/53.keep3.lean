section K3
variable {st mt u v : SS} {r r' : Int}
theorem kp_camera (h : REL st mt) {ff gg : Int} (hu : (¬ (plc ff ∧ (0 ≤ gg ∧ gg < 4)) ∧ r = -1 ∧ u = st) ∨ ((plc ff ∧ (0 ≤ gg ∧ gg < 4)) ∧ 10 ≤ st 19 2 ∧ r = -2 ∧ u = st) ∨ ((plc ff ∧ (0 ≤ gg ∧ gg < 4)) ∧ st 19 2 < 10 ∧ r = st 19 2 ∧ u = up (up (up (up st 21 2 0) 3 (st 19 2) ff) 4 (st 19 2) gg) 19 2 (st 19 2 + 1)))
    (hv : (¬ (plc ff ∧ (0 ≤ gg ∧ gg < 4)) ∧ r' = -1 ∧ v = mt) ∨ ((plc ff ∧ (0 ≤ gg ∧ gg < 4)) ∧ 10 ≤ mt 0 2 ∧ r' = -2 ∧ v = mt) ∨ ((plc ff ∧ (0 ≤ gg ∧ gg < 4)) ∧ mt 0 2 < 10 ∧ r' = mt 0 2 ∧ v = up (up (up mt 7 (mt 0 2) ff) 8 (mt 0 2) gg) 0 2 (mt 0 2 + 1))) : r = r' ∧ REL u v := by
  have d : st 19 = mt 0 := h.b.2.2
  rw [← d] at hv
  rcases hu with ⟨p1, p2, p3⟩ | ⟨p1, p2, p3, p4⟩ | ⟨p1, p2, p3, p4⟩ <;> rcases hv with ⟨q1, q2, q3⟩ | ⟨q1, q2, q3, q4⟩ | ⟨q1, q2, q3, q4⟩
  · subst p3; subst q3; exact ⟨by omega, h⟩
  · exact absurd q1 p1
  · exact absurd q1 p1
  · exact absurd p1 q1
  · subst p4; subst q4; exact ⟨by omega, h⟩
  · omega
  · exact absurd p1 q1
  · omega
  refine ⟨by omega, ?_⟩
  obtain ⟨a1, a2, a3, a4, a5, a6, a7, a8, a9, a10, a11, a12, a13⟩ := h.ic
  obtain ⟨m1, m2, m3, m4, m5, m6, m7, m8, m9, m10, m11, m12, m13⟩ := h.im
  obtain ⟨⟨b1, b2, b3, b4, b5⟩, ⟨c1, c2, c3, c4, c5, c6, c7⟩, -⟩ := h.b
  have sx : ∀ j, j ≠ 2 → u 19 j = st 19 j := fun j hj => by rw [p4, up_i _ _ _ hj]; rfl
  have s1 : u 19 2 = st 19 2 + 1 := by rw [p4, up_s]
  have vx : ∀ j, j ≠ 2 → v 0 j = mt 0 j := fun j hj => by rw [q4, up_i _ _ _ hj]; rfl
  have v1 : v 0 2 = st 19 2 + 1 := by rw [q4, up_s]
  have hd : u 19 = v 0 := by
    funext j
    by_cases q : j = 2
    · subst q; rw [s1, v1]
    · rw [sx j q, vx j q, d]
  have u1 : u 3 = uf (st 3) (st 19 2) ff := by rw [p4]; rfl
  have u2 : u 4 = uf (st 4) (st 19 2) gg := by rw [p4]; rfl
  have v5 : v 7 = uf (mt 7) (st 19 2) ff := by rw [q4]; rfl
  have v6 : v 8 = uf (mt 8) (st 19 2) gg := by rw [q4]; rfl
  have d2 := congrFun d 2
  have hI : IC u := by
    unfold IC ICs bdL
    rw [sx 0 (by decide), sx 1 (by decide), sx 3 (by decide), sx 4 (by decide), sx 5 (by decide), s1, u1, u2]
    unfold ICs at a1
    rw [p4]
    exact ⟨by omega, a2, a3, a4, fun i x y => uf_p p1.1 (a5 i x y), fun i x y => uf_p (Pr := fun z => 0 ≤ z ∧ z < 4) p1.2 (a6 i x y), a7, a8, a9, a10, a11, a12, fun i x y => by have := a13 i x y; exact Int.lt_trans this (by omega)⟩
  have hM : IM v := by
    unfold IM IMs mbl
    rw [vx 0 (by decide), vx 1 (by decide), vx 3 (by decide), vx 4 (by decide), vx 5 (by decide), v1, v5, v6]
    unfold IMs at m1
    rw [q4]
    exact ⟨by omega, m2, m3, m4, m5, m6, m7, fun i x y => uf_p p1.1 (m8 i x y), fun i x y => uf_p (Pr := fun z => 0 ≤ z ∧ z < 4) p1.2 (m9 i x y), m10, m11, m12, m13⟩
  refine REL_mk h hI ?_ hM ?_ ?_ (by rw [p4]; rfl) (by rw [p4]; rfl) (sx 0 (by decide)) (by rw [q4]; rfl) (by rw [q4]; rfl) (by rw [q4]; rfl) (by rw [q4]; rfl) ?_ ?_
  · rw [p4]; exact IP_fg h.ip rfl rfl rfl rfl rfl rfl
  · rw [q4]; exact h.is
  · refine ⟨⟨?_, ?_, by rw [u1, v5, b3], by rw [u2, v6, b4], ?_⟩, ?_, hd⟩
    · rw [p4, q4]; exact b1
    · rw [p4, q4]; exact b2
    · rw [p4, q4]; exact b5
    · rw [p4, q4]; exact ⟨c1, c2, c3, c4, c5, c6, c7⟩
  · intro b x y
    rw [sx 3 (by decide)] at y
    rw [p4]
    exact h.ct b x y
  · intro z; rw [p4] at z; exact no_kn (st := st) z
theorem kp_list (h : REL st mt) {xx : Int} (hu : (¬ inP (st 19 2) xx ∧ r = -1 ∧ u = st) ∨ (inP (st 19 2) xx ∧ 8 ≤ st 19 5 ∧ r = -2 ∧ u = st) ∨ (inP (st 19 2) xx ∧ st 19 5 < 8 ∧ r = st 19 5 + 1 ∧ u = up (up st 5 (st 19 5) xx) 19 5 (st 19 5 + 1)))
    (hv : (¬ inP (mt 0 2) xx ∧ r' = -1 ∧ v = mt) ∨ (inP (mt 0 2) xx ∧ 8 ≤ mt 0 5 ∧ r' = -2 ∧ v = mt) ∨ (inP (mt 0 2) xx ∧ mt 0 5 < 8 ∧ r' = mt 0 5 + 1 ∧ v = up (up mt 16 (mt 0 5) xx) 0 5 (mt 0 5 + 1))) : r = r' ∧ REL u v := by
  have d : st 19 = mt 0 := h.b.2.2
  rw [← d] at hv
  rcases hu with ⟨p1, p2, p3⟩ | ⟨p1, p2, p3, p4⟩ | ⟨p1, p2, p3, p4⟩ <;> rcases hv with ⟨q1, q2, q3⟩ | ⟨q1, q2, q3, q4⟩ | ⟨q1, q2, q3, q4⟩
  · subst p3; subst q3; exact ⟨by omega, h⟩
  · exact absurd q1 p1
  · exact absurd q1 p1
  · exact absurd p1 q1
  · subst p4; subst q4; exact ⟨by omega, h⟩
  · omega
  · exact absurd p1 q1
  · omega
  refine ⟨by omega, ?_⟩
  obtain ⟨a1, a2, a3, a4, a5, a6, a7, a8, a9, a10, a11, a12, a13⟩ := h.ic
  obtain ⟨m1, m2, m3, m4, m5, m6, m7, m8, m9, m10, m11, m12, m13⟩ := h.im
  obtain ⟨⟨b1, b2, b3, b4, b5⟩, ⟨c1, c2, c3, c4, c5, c6, c7⟩, -⟩ := h.b
  have sx : ∀ j, j ≠ 5 → u 19 j = st 19 j := fun j hj => by rw [p4, up_i _ _ _ hj]; rfl
  have s1 : u 19 5 = st 19 5 + 1 := by rw [p4, up_s]
  have vx : ∀ j, j ≠ 5 → v 0 j = mt 0 j := fun j hj => by rw [q4, up_i _ _ _ hj]; rfl
  have v1 : v 0 5 = st 19 5 + 1 := by rw [q4, up_s]
  have hd : u 19 = v 0 := by
    funext j
    by_cases q : j = 5
    · subst q; rw [s1, v1]
    · rw [sx j q, vx j q, d]
  have u1 : u 5 = uf (st 5) (st 19 5) xx := by rw [p4]; rfl
  have v5 : v 16 = uf (mt 16) (st 19 5) xx := by rw [q4]; rfl
  have d2 := congrFun d 5
  unfold ICs at a1
  have hI : IC u := by
    unfold IC ICs bdL
    rw [sx 0 (by decide), sx 1 (by decide), sx 2 (by decide), sx 3 (by decide), sx 4 (by decide), s1, u1]
    rw [p4]
    refine ⟨by omega, a2, a3, a4, a5, a6, fun i x y => uf_p (Pr := fun z => 0 ≤ z ∧ z < 10) (by omega) (a7 i x y), a8, a9, a10, a11, a12, fun i x y => ?_⟩
    by_cases q : i = st 19 5
    · subst q; rw [uf_s]; exact p1.2
    · rw [uf_n _ _ q]; exact a13 i x (by omega)
  have hM : IM v := by
    unfold IM IMs mbl
    rw [vx 0 (by decide), vx 1 (by decide), vx 2 (by decide), vx 3 (by decide), vx 4 (by decide), v1, v5]
    unfold IMs at m1
    rw [q4]
    exact ⟨by omega, m2, m3, m4, m5, m6, m7, m8, m9, m10, fun i x y => uf_p (Pr := fun z => 0 ≤ z ∧ z < 10) (by omega) (m11 i x y), m12, m13⟩
  refine REL_mk h hI ?_ hM ?_ ?_ (by rw [p4]; rfl) (by rw [p4]; rfl) (sx 0 (by decide)) (by rw [q4]; rfl) (by rw [q4]; rfl) (by rw [q4]; rfl) (by rw [q4]; rfl) ?_ ?_
  · rw [p4]; exact h.ip
  · rw [q4]; exact h.is
  · refine ⟨⟨?_, ?_, ?_, ?_, by rw [u1, v5, b5]⟩, ?_, hd⟩
    · rw [p4, q4]; exact b1
    · rw [p4, q4]; exact b2
    · rw [p4, q4]; exact b3
    · rw [p4, q4]; exact b4
    · rw [p4, q4]; exact ⟨c1, c2, c3, c4, c5, c6, c7⟩
  · intro b x y
    rw [sx 3 (by decide)] at y
    rw [p4]
    exact h.ct b x y
  · intro z
    have z2 : st 21 2 = 1 := by rw [p4] at z; exact z
    exact RFD_19 (h.kn z2) (fun k hk hk2 => by rw [p4, up_k _ _ _ hk, up_k _ _ _ hk2]) (sx 0 (by decide)) (sx 1 (by decide)) (sx 2 (by decide)) (sx 3 (by decide))
/-- the camera told for the two ahead of b -/
noncomputable def Lc (st mt : SS) (b : Int) : Int := if TA mt b = -1 then 10 else st 5 (TA mt b)
theorem cr_cp (h : REL st mt) : ∀ (n : Nat) (b : Int), 0 ≤ b → b + n = st 19 3 → CR (st 11) (st 18) (fun b => SDL st b (st 3 (st 5 b))) n b (sdO st mt b (Lc st mt b)) = cP (fun b => CXm mt b) n b
  | 0, _, _, _ => rfl
  | n + 1, b, h0, h1 => by
    have hs := h.ic.s
    have hb : 0 ≤ b ∧ b < st 19 3 := by omega
    have hc := h.ic.c5 b hb.1 (by omega)
    obtain ⟨⟨b1, b2', b3, b4, b5⟩, ⟨c1, c2, c3, c4, c5, c6, c7⟩, d⟩ := h.b
    have hL : 0 ≤ Lc st mt b ∧ Lc st mt b ≤ 10 := by
      unfold Lc
      rcases TA_b mt b hb.1 with q | q
      · rw [if_pos q]; omega
      · rw [if_neg (by omega)]
        have := h.ic.c5 (TA mt b) q.1 (by omega)
        omega
    have hcr := rb_cross h.rb (L := Lc st mt b) (c := st 5 b) hb hL _ (fun _ => rfl)
    have hnx := rb_next h.rb (L := Lc st mt b) (c := st 5 b) hb hc _ (fun _ => rfl)
    have hx : CXx mt b (Lc st mt b) (st 5 b) ↔ CXm mt b := by
      unfold CXx CXm Lc
      rw [← b5]
      constructor
      · rintro ⟨e1, e2, e3, e4⟩
        rw [if_neg e3] at e4
        exact ⟨e1, e3, e4⟩
      · rintro ⟨e1, e3, e4⟩
        rw [if_neg e3]
        have q := (TA_b mt b hb.1).resolve_left e3
        exact ⟨e1, (h.ic.c5 (TA mt b) q.1 (by omega)).2, e3, e4⟩
    have hl : nla mt b (Lc st mt b) (st 5 b) = Lc st mt (b + 1) := by
      unfold nla
      have ht := ta_next (mt := mt) hb.1
      unfold Lc
      rw [ht]
      by_cases q : mt 9 b = 1
      · rw [if_pos q, if_pos q, if_neg (by omega)]
      · rw [if_neg q, if_neg q]
    rw [hl] at hnx
    have ih := cr_cp h n (b + 1) (by omega) (by omega)
    rw [← hnx] at ih
    rw [cP_s, ← ih, b2_iff (hx.symm.trans hcr.symm)]
    by_cases hk : st 11 b = 1
    · rw [CR_t hk, if_pos hk]
    · rw [CR_f hk, if_neg hk]
      rw [b2_f (fun z => by
        have := hcr.mp z
        have e := this.1
        rw [← c1] at e
        exact hk e)]
      omega
theorem rl_crok (h : REL st mt) : CROK st ↔ CROKm mt := by
  obtain ⟨⟨b1, b2', b3, b4, b5⟩, ⟨c1, c2, c3, c4, c5, c6, c7⟩, d⟩ := h.b
  unfold CROK CROKm
  rw [← d, ← b3, ← b5]
  refine and_congr Iff.rfl ⟨fun z b p q => ?_, fun z b p q => ?_⟩
  · rw [← rl_why h ⟨p, q⟩]; exact z b p q
  · rw [rl_why h ⟨p, q⟩]; exact z b p q
theorem kp_crossings (h : REL st mt) (hu : u = up st 19 5 0 ∧ ((¬ CROK st ∧ r = -3) ∨ (CROK st ∧ r = CR (st 11) (st 18) (fun b => SDL st b (st 3 (st 5 b))) (st 19 3).toNat 0 0)))
    (hv : v = up mt 0 5 0 ∧ ((¬ CROKm mt ∧ r' = -3) ∨ (CROKm mt ∧ r' = cP (fun b => CXm mt b) (mt 0 3).toNat 0))) : r = r' ∧ REL u v := by
  have d : st 19 = mt 0 := h.b.2.2
  have hs := h.ic.s
  obtain ⟨p, hu⟩ := hu
  obtain ⟨q, hv⟩ := hv
  refine ⟨?_, ?_⟩
  · have hk := rl_crok h
    rcases hu with ⟨e1, e2⟩ | ⟨e1, e2⟩ <;> rcases hv with ⟨f1, f2⟩ | ⟨f1, f2⟩
    · omega
    · exact absurd (hk.mpr f1) e1
    · exact absurd (hk.mp e1) f1
    · rw [e2, f2, ← d]
      have k := cr_cp h (st 19 3).toNat 0 (by omega) (by omega)
      have e : sdO st mt 0 (Lc st mt 0) = 0 := by
        unfold sdO
        refine if_pos (Or.inr ?_)
        rfl
      rw [e] at k
      exact k
  · obtain ⟨⟨b1, b2, b3, b4, b5⟩, ⟨c1, c2, c3, c4, c5, c6, c7⟩, -⟩ := h.b
    have sx : ∀ j, j ≠ 5 → u 19 j = st 19 j := fun j hj => by rw [p, up_i _ _ _ hj]
    have vx : ∀ j, j ≠ 5 → v 0 j = mt 0 j := fun j hj => by rw [q, up_i _ _ _ hj]
    have hd : u 19 = v 0 := by
      funext j
      by_cases z : j = 5
      · subst z; rw [p, q, up_s, up_s]
      · rw [sx j z, vx j z, d]
    refine REL_mk h (by rw [p]; exact IC_t0 h.ic) ?_ (by rw [q]; exact IM_t0 h.im) ?_ ?_ (by rw [p]; rfl) (by rw [p]; rfl) (sx 0 (by decide)) (by rw [q]; rfl) (by rw [q]; rfl) (by rw [q]; rfl) (by rw [q]; rfl) ?_ ?_
    · rw [p]; exact h.ip
    · rw [q]; exact h.is
    · refine ⟨?_, ?_, hd⟩
      · rw [p, q]; exact ⟨b1, b2, b3, b4, b5⟩
      · rw [p, q]; exact ⟨c1, c2, c3, c4, c5, c6, c7⟩
    · intro b x y
      rw [sx 3 (by decide)] at y
      rw [p]
      exact h.ct b x y
    · intro z
      have z2 : st 21 2 = 1 := by rw [p] at z; exact z
      exact RFD_19 (h.kn z2) (fun k hk _ => by rw [p, up_k _ _ _ hk]) (sx 0 (by decide)) (sx 1 (by decide)) (sx 2 (by decide)) (sx 3 (by decide))
theorem RFD_self (h : RFD st u) : RFD u u := by
  obtain ⟨h1, h2, h3, h4, h5⟩ := h
  have e19 : u 19 = st 19 := h1 19 (by decide) (by decide)
  refine ⟨fun _ _ _ => rfl, h2, h3, fun b c a1 a2 a3 a4 => ?_, ?_⟩
  · rw [e19] at a2 a4
    have := h4 b c a1 a2 a3 a4
    unfold TBc SDX at this ⊢
    rw [WHYc_eq h1, h1 3 (by decide) (by decide), h1 11 (by decide) (by decide), SDL_eq (h1 0 (by decide) (by decide)) (h1 12 (by decide) (by decide)) (h1 13 (by decide) (by decide)) (h1 15 (by decide) (by decide))]
    exact this
  · rw [e19]; exact h5
theorem FND_self {n : Int} (h : FND mt n v) : FND v n v := by
  obtain ⟨h1, h2, h3, h4⟩ := h
  have e0 : v 0 = mt 0 := h1 0 (by decide)
  refine ⟨fun _ _ => rfl, h2, fun c b a1 a2 a3 a4 => ?_, ?_⟩
  · rw [e0] at a2 a4
    rw [h3 c b a1 a2 a3 a4]
    unfold GVv
    rw [WHYm_e h1, h1 7 (by decide)]
  · unfold NSm
    rw [e0]
    exact h4
theorem kp_find {n : Int} (h : REL st mt) (hu : REFR st u) (hv : FND mt n v) : REL u v ∧ PB u v n := by
  have hr : RFD st u := by
    rcases hu with ⟨q1, q2⟩ | ⟨q1, q2⟩
    · rw [q2]; exact h.kn q1
    · exact q2
  have h1 := hr.1
  have g1 := hv.1
  have hR : REL u v := by
    obtain ⟨⟨b1, b2, b3, b4, b5⟩, ⟨c1, c2, c3, c4, c5, c6, c7⟩, d⟩ := h.b
    refine REL_mk h (IC_pl h.ic h1) hr.2.1 (IM_pl h.im g1) hv.2.1 ?_ (h1 0 (by decide) (by decide)) (h1 20 (by decide) (by decide)) (by rw [h1 19 (by decide) (by decide)]) (g1 1 (by decide)) (g1 2 (by decide)) (g1 3 (by decide)) (g1 4 (by decide)) ?_ (fun _ => RFD_self hr)
    · unfold EQB
      rw [h1 1 (by decide) (by decide), h1 2 (by decide) (by decide), h1 3 (by decide) (by decide), h1 4 (by decide) (by decide), h1 5 (by decide) (by decide), h1 11 (by decide) (by decide), h1 12 (by decide) (by decide), h1 13 (by decide) (by decide), h1 14 (by decide) (by decide), h1 15 (by decide) (by decide), h1 16 (by decide) (by decide), h1 17 (by decide) (by decide), h1 19 (by decide) (by decide), g1 0 (by decide), g1 5 (by decide), g1 6 (by decide), g1 7 (by decide), g1 8 (by decide), g1 9 (by decide), g1 10 (by decide), g1 11 (by decide), g1 12 (by decide), g1 13 (by decide), g1 14 (by decide), g1 15 (by decide), g1 16 (by decide)]
      exact ⟨⟨b1, b2, b3, b4, b5⟩, ⟨c1, c2, c3, c4, c5, c6, c7⟩, d⟩
    · intro b x y
      rw [h1 19 (by decide) (by decide)] at y
      rw [h1 18 (by decide) (by decide), h.ct b x y]
      exact b2_iff (CUT_lt x (fun j _ _ => by rw [h1 11 (by decide) (by decide), h1 12 (by decide) (by decide), h1 13 (by decide) (by decide)]; exact ⟨rfl, rfl, rfl⟩)).symm
  refine ⟨hR, hR.rb, fun b c a1 a2 a3 a4 => ?_, RFD_self hr, FND_self hv⟩
  have t := (RFD_self hr).2.2.2.1 b c a1 a2 a3 a4
  have d : u 19 = v 0 := hR.b.2.2
  have t2 := (FND_self hv).2.2.1 c b a3 (by rw [← d]; exact a4) a1 (by rw [← d]; exact a2)
  refine ⟨?_, fun z => ?_⟩
  · rw [t.1, t2, rl_why hR ⟨a1, a2⟩, hR.b.1.2.2.1]
    exact ⟨b2_t, b2_1⟩
  · rw [t.2]
    exact if_pos z
theorem fnd_n {n : Int} (hv : FND mt n v) : n = -5 ∨ 0 ≤ n := by
  rcases hv.2.2.2 with q | q
  · exact Or.inl q.1
  · exact Or.inr q.1.1
theorem kp_fewest (h : REL st mt) (hu : REFR st u ∧ r = u 21 0) (hv : FND mt r' v) : r = r' ∧ REL u v := by
  have k := kp_find h hu.1 hv
  have f := pb_few k.2
  exact ⟨by omega, k.1⟩
theorem kp_plan (h : REL st mt) {xx : Int} (hu : (¬ inP (st 19 3) xx ∧ r = -1 ∧ u = st) ∨ (inP (st 19 3) xx ∧ REFR st u ∧ ((u 21 0 < 0 ∧ r = -5) ∨ (0 ≤ u 21 0 ∧ r = u 9 xx))))
    (hv : (¬ inP (mt 0 3) xx ∧ r' = -1 ∧ v = mt) ∨ (inP (mt 0 3) xx ∧ ∃ n, FND mt n v ∧ ((n = -5 ∧ r' = -5) ∨ (n ≠ -5 ∧ r' = v 19 xx)))) : r = r' ∧ REL u v := by
  have d : st 19 = mt 0 := h.b.2.2
  rw [← d] at hv
  rcases hu with ⟨p1, p2, p3⟩ | ⟨p1, p2, p3⟩ <;> rcases hv with ⟨q1, q2, q3⟩ | ⟨q1, n, q2, q3⟩
  · subst p3; subst q3; exact ⟨by omega, h⟩
  · exact absurd q1 p1
  · exact absurd p1 q1
  have k := kp_find h p2 q2
  have f := pb_few k.2
  have hn := fnd_n q2
  refine ⟨?_, k.1⟩
  rcases p3 with ⟨e1, e2⟩ | ⟨e1, e2⟩ <;> rcases q3 with ⟨f1, f2⟩ | ⟨f1, f2⟩
  · omega
  · omega
  · omega
  · rw [e2, f2]
    exact pb_plan k.2 (by omega) (by rw [p2.e 19 (by decide) (by decide)]; exact p1)
theorem kp_swings (h : REL st mt) (hu : REFR st u ∧ ((u 21 0 < 0 ∧ r = -5) ∨ (0 ≤ u 21 0 ∧ r = cP (fun b => u 4 (u 9 b) ≠ u 4 (u 9 (b - 1))) (u 19 3 - 1).toNat 1)))
    (hv : ∃ n, FND mt n v ∧ ((n = -5 ∧ r' = -5) ∨ (n ≠ -5 ∧ r' = cP (fun b => v 8 (v 19 b) ≠ v 8 (v 19 (b - 1))) (mt 0 3 - 1).toNat 1))) : r = r' ∧ REL u v := by
  obtain ⟨p2, p3⟩ := hu
  obtain ⟨n, q2, q3⟩ := hv
  have k := kp_find h p2 q2
  have f := pb_few k.2
  have hn := fnd_n q2
  refine ⟨?_, k.1⟩
  rcases p3 with ⟨e1, e2⟩ | ⟨e1, e2⟩ <;> rcases q3 with ⟨f1, f2⟩ | ⟨f1, f2⟩
  · omega
  · omega
  · omega
  · have d : u 19 = v 0 := k.1.b.2.2
    have d4 : u 4 = v 8 := k.1.b.1.2.2.2.1
    rw [e2, f2, ← q2.1 0 (by decide), ← d, ← d4]
    refine cP_cg _ _ (fun j a b => ?_)
    rw [pb_plan k.2 (by omega) (show 0 ≤ j ∧ j < u 19 3 by omega), pb_plan k.2 (by omega) (show 0 ≤ j - 1 ∧ j - 1 < u 19 3 by omega)]
theorem kp_order (h : REL st mt) {xx : Int} (hu : REFR st u ∧ ((¬ inP (u 21 0) xx ∧ r = -1) ∨ (inP (u 21 0) xx ∧ r = u 10 xx)))
    (hv : ∃ n, FND mt n v ∧ ((¬ inP n xx ∧ r' = -1) ∨ (inP n xx ∧ r' = nxg (v 8) (v 0 2) (SQg (v 8) (v 0 2) (v 20 0) xx.toNat).1 (SQg (v 8) (v 0 2) (v 20 0) xx.toNat).2))) : r = r' ∧ REL u v := by
  obtain ⟨p2, p3⟩ := hu
  obtain ⟨n, q2, q3⟩ := hv
  have k := kp_find h p2 q2
  have f := pb_few k.2
  refine ⟨?_, k.1⟩
  rw [f.1] at p3
  rcases p3 with ⟨e1, e2⟩ | ⟨e1, e2⟩ <;> rcases q3 with ⟨f1, f2⟩ | ⟨f1, f2⟩
  · omega
  · exact absurd f1 e1
  · exact absurd e1 f1
  · rw [e2, f2]
    exact pb_order k.2 f1
end K3
