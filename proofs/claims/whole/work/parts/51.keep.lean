/-! the relation is kept -/
theorem IP_fg {st u : SS} (h : IP st) (e6 : u 6 = st 6) (e7 : u 7 = st 7) (e8 : u 8 = st 8) (e9 : u 9 = st 9) (e10 : u 10 = st 10) (e21 : u 21 = (up st 21 2 0) 21) : IP u := by
  obtain ⟨a1, a2, a3, a4, a5, a6, a7, a8⟩ := h
  unfold IP
  rw [e6, e7, e8, e9, e10, e21, up_i _ _ _ (by decide), up_i _ _ _ (by decide), up_s]
  exact ⟨a1, a2, a3, a4, a5, a6, a7, Or.inl rfl⟩
theorem IS_eq {st u : SS} (h : IS st) (e17 : u 17 = st 17) (e18 : u 18 = st 18) (e19 : u 19 = st 19) (e20 : u 20 = st 20) : IS u := by
  unfold IS
  rw [e17, e18, e19, e20]
  exact h
theorem SLT_lt {st u : SS} {b : Int} (hb : 0 ≤ b) (e : ∀ j, 0 ≤ j → j < b → u 11 j = st 11 j ∧ u 12 j = st 12 j ∧ u 13 j = st 13 j) : SLT u b = SLT st b := by
  have h1 : lT (fun b => u 11 b = 1) b.toNat = lT (fun b => st 11 b = 1) b.toNat := by
    rcases lT_spec (fun b => st 11 b = 1) b.toNat with ⟨q1, q2⟩ | ⟨q1, q2, q3, q4⟩
    · rw [q1]
      exact lT_no (fun j a c => by rw [(e (j : Int) (by omega) (by omega)).1]; exact q2 j a c)
    · exact lT_is q1 q2 (by rw [(e _ q1 (by omega)).1]; exact q3) (fun j a c => by rw [(e j (by omega) (by omega)).1]; exact q4 j a c)
  unfold SLT
  rw [h1]
  rcases lT_spec (fun b => st 11 b = 1) b.toNat with ⟨q1, q2⟩ | ⟨q1, q2, q3, q4⟩
  · rw [if_pos q1, if_pos q1]
  · rw [if_neg (by omega), if_neg (by omega), (e _ q1 (by omega)).2.1, (e _ q1 (by omega)).2.2]
theorem CUT_lt {st u : SS} {b : Int} (hb : 0 ≤ b) (e : ∀ j, 0 ≤ j → j ≤ b → u 11 j = st 11 j ∧ u 12 j = st 12 j ∧ u 13 j = st 13 j) : CUT u b ↔ CUT st b := by
  have eb := e b hb (by omega)
  unfold CUT
  rw [SLT_lt hb (fun j a c => e j a (by omega)), eb.1, eb.2.1, eb.2.2]
theorem plM_4 {st u : SS} {p t : Int} (e1 : u 1 p = st 1 p) (e2 : u 2 = st 2) (e3 : u 3 = st 3) (e4 : u 4 = st 4) : plM u p t = plM st p t := by
  unfold plM
  rw [e1, e2, e3, e4]
section KP
variable {st mt u v : SS} {r r' : Int}
theorem kp_person (h : REL st mt) {xx : Int} (hu : (¬ plc xx ∧ r = -1 ∧ u = st) ∨ (plc xx ∧ 6 ≤ st 19 0 ∧ r = -2 ∧ u = st) ∨ (plc xx ∧ st 19 0 < 6 ∧ r = st 19 0 ∧ u = up (sA (up st 21 2 0) 0 (fil (st 0) (st 19 0 * 60) 60 xx)) 19 0 (st 19 0 + 1)))
    (hv : (¬ plc xx ∧ r' = -1 ∧ v = mt) ∨ (plc xx ∧ 6 ≤ mt 0 0 ∧ r' = -2 ∧ v = mt) ∨ (plc xx ∧ mt 0 0 < 6 ∧ r' = mt 0 0 ∧ v = up (up mt 1 (mt 0 0) xx) 0 0 (mt 0 0 + 1))) : r = r' ∧ REL u v := by
  have d : st 19 = mt 0 := h.b.2.2
  have d0 : st 19 0 = mt 0 0 := congrFun d 0
  rw [← d0] at hv
  rcases hu with ⟨p1, p2, p3⟩ | ⟨p1, p2, p3, p4⟩ | ⟨p1, p2, p3, p4⟩ <;> rcases hv with ⟨q1, q2, q3⟩ | ⟨q1, q2, q3, q4⟩ | ⟨q1, q2, q3, q4⟩
  · subst p3; subst q3; exact ⟨by omega, h⟩
  · exact absurd q1 p1
  · exact absurd q1 p1
  · exact absurd p1 q1
  · subst p4; subst q4; exact ⟨by omega, h⟩
  · omega
  · exact absurd p1 q1
  · omega
  refine ⟨by omega, ?_⟩
  obtain ⟨a1, a2, a3, a4, a5, a6, a7, a8, a9, a10, a11, a12, a13⟩ := h.ic
  obtain ⟨m1, m2, m3, m4, m5, m6, m7, m8, m9, m10, m11, m12, m13⟩ := h.im
  have sx : ∀ j, j ≠ 0 → u 19 j = st 19 j := fun j hj => by rw [p4, up_i _ _ _ hj]; rfl
  have s0 : u 19 0 = st 19 0 + 1 := by rw [p4, up_s]
  have vx : ∀ j, j ≠ 0 → v 0 j = mt 0 j := fun j hj => by rw [q4, up_i _ _ _ hj]; rfl
  have v0 : v 0 0 = mt 0 0 + 1 := by rw [q4, up_s, d0]
  have u0 : u 0 = fil (st 0) (st 19 0 * 60) 60 xx := by rw [p4]; rfl
  have v1 : v 1 = uf (mt 1) (st 19 0) xx := by rw [q4]; rfl
  have hpl : ∀ p t, 0 ≤ p → p ≠ st 19 0 → 0 ≤ t → t < 60 → u 0 (p * 60 + t) = st 0 (p * 60 + t) := fun p t b1 b2 b3 b4 => by rw [u0, fil_out _ _ (by omega)]
  have hpn : ∀ t, 0 ≤ t → t < 60 → u 0 (st 19 0 * 60 + t) = xx := fun t b3 b4 => by rw [u0, fil_in _ _ (by omega)]
  have e : ∀ k : Nat, k ≠ 0 → k ≠ 19 → k ≠ 21 → u k = st k := fun k b1 b2 b3 => by rw [p4, up_k _ _ _ b2, sA_n _ _ b1, up_k _ _ _ b3]
  have f : ∀ k : Nat, k ≠ 0 → k ≠ 1 → v k = mt k := fun k b1 b2 => by rw [q4, up_k _ _ _ b1, up_k _ _ _ b2]
  have hI : IC u := by
    unfold IC ICs bdR bdL
    rw [sx 1 (by decide), sx 2 (by decide), sx 3 (by decide), sx 4 (by decide), sx 5 (by decide), s0, e 1 (by decide) (by decide) (by decide), e 2 (by decide) (by decide) (by decide), e 3 (by decide) (by decide) (by decide), e 4 (by decide) (by decide) (by decide), e 5 (by decide) (by decide) (by decide), e 11 (by decide) (by decide) (by decide), e 12 (by decide) (by decide) (by decide), e 13 (by decide) (by decide) (by decide), e 14 (by decide) (by decide) (by decide), e 15 (by decide) (by decide) (by decide), e 16 (by decide) (by decide) (by decide), e 17 (by decide) (by decide) (by decide), e 18 (by decide) (by decide) (by decide), e 20 (by decide) (by decide) (by decide)]
    unfold ICs at a1
    refine ⟨by omega, fun i b1 b2 => ?_, a3, a4, a5, a6, a7, a8, a9, fun b b1 b2 => ?_, fun p t b1 b2 b3 b4 b5 => ?_, a12, a13⟩
    · rw [u0]
      unfold fil
      split
      · exact p1
      · exact a2 i b1 b2
    · obtain ⟨c1, c2, c3, c4, c5⟩ := a10 b b1 b2
      exact ⟨by omega, c2, c3, fun p b3 b4 => by have := c4 p b3 b4; omega, c5⟩
    · by_cases q : p = st 19 0
      · subst q
        rw [hpn t (by omega) b4, hpn (t - 1) (by omega) (by omega)]
      · rw [hpl p t b1 q (by omega) b4, hpl p (t - 1) b1 q (by omega) (by omega)]
        exact a11 p t b1 b2 b3 b4 b5
  have hM : IM v := by
    unfold IM IMs bdM mbl
    rw [vx 1 (by decide), vx 2 (by decide), vx 3 (by decide), vx 4 (by decide), vx 5 (by decide), v0, f 2 (by decide) (by decide), f 3 (by decide) (by decide), f 4 (by decide) (by decide), f 5 (by decide) (by decide), f 6 (by decide) (by decide), f 7 (by decide) (by decide), f 8 (by decide) (by decide), f 9 (by decide) (by decide), f 10 (by decide) (by decide), f 11 (by decide) (by decide), f 12 (by decide) (by decide), f 13 (by decide) (by decide), f 14 (by decide) (by decide), f 15 (by decide) (by decide), f 16 (by decide) (by decide)]
    unfold IMs at m1
    refine ⟨by omega, fun i b1 b2 => ?_, m3, m4, m5, m6, m7, m8, m9, m10, m11, fun b b1 b2 => ?_, m13⟩
    · rw [v1]
      unfold uf
      split
      · exact p1
      · exact m2 i b1 b2
    · obtain ⟨c1, c2, c3, c4⟩ := m12 b b1 b2
      exact ⟨by omega, c2, fun p b3 b4 => by have := c3 p b3 b4; omega, c4⟩
  have hd : u 19 = v 0 := by
    funext j
    by_cases q : j = 0
    · subst q; rw [s0, v0, d0]
    · rw [sx j q, vx j q, d]
  refine ⟨⟨hI, IP_fg h.ip (e 6 (by decide) (by decide) (by decide)) (e 7 (by decide) (by decide) (by decide)) (e 8 (by decide) (by decide) (by decide)) (e 9 (by decide) (by decide) (by decide)) (e 10 (by decide) (by decide) (by decide)) (by rw [p4]; rfl), hM, IS_eq h.is (f 17 (by decide) (by decide)) (f 18 (by decide) (by decide)) (f 19 (by decide) (by decide)) (f 20 (by decide) (by decide))⟩, ?_, ?_, ?_, ?_, ?_⟩
  · obtain ⟨⟨b1, b2, b3, b4, b5⟩, ⟨c1, c2, c3, c4, c5, c6, c7⟩, -⟩ := h.b
    unfold EQB
    rw [e 1 (by decide) (by decide) (by decide), e 2 (by decide) (by decide) (by decide), e 3 (by decide) (by decide) (by decide), e 4 (by decide) (by decide) (by decide), e 5 (by decide) (by decide) (by decide), e 11 (by decide) (by decide) (by decide), e 12 (by decide) (by decide) (by decide), e 13 (by decide) (by decide) (by decide), e 14 (by decide) (by decide) (by decide), e 15 (by decide) (by decide) (by decide), e 16 (by decide) (by decide) (by decide), e 17 (by decide) (by decide) (by decide), f 5 (by decide) (by decide), f 6 (by decide) (by decide), f 7 (by decide) (by decide), f 8 (by decide) (by decide), f 9 (by decide) (by decide), f 10 (by decide) (by decide), f 11 (by decide) (by decide), f 12 (by decide) (by decide), f 13 (by decide) (by decide), f 14 (by decide) (by decide), f 15 (by decide) (by decide), f 16 (by decide) (by decide)]
    exact ⟨⟨b1, b2, b3, b4, b5⟩, ⟨c1, c2, c3, c4, c5, c6, c7⟩, hd⟩
  · intro p t b1 b2 b3 b4
    rw [s0] at b2
    by_cases q : p = st 19 0
    · subst q
      rw [hpn t b3 b4]
      unfold plM
      rw [f 2 (by decide) (by decide), h.sp.2.2.2.2 _ (by omega) (by omega), v1, uf_s]
      rfl
    · rw [hpl p t b1 q b3 b4, h.p p t b1 (by omega) b3 b4]
      exact (plM_4 (by rw [v1, uf_n _ _ q]) (f 2 (by decide) (by decide)) (f 3 (by decide) (by decide)) (f 4 (by decide) (by decide))).symm
  · obtain ⟨t1, t2, t3, t4, t5⟩ := h.sp
    unfold STP
    rw [e 20 (by decide) (by decide) (by decide), f 2 (by decide) (by decide), f 3 (by decide) (by decide), s0]
    exact ⟨t1, t2, t3, t4, fun p b1 b2 => t5 p (by omega) b2⟩
  · intro b b1 b2
    rw [sx 3 (by decide)] at b2
    rw [e 18 (by decide) (by decide) (by decide), h.ct b b1 b2]
    exact b2_iff (CUT_lt b1 (fun j _ _ => by rw [e 11 (by decide) (by decide) (by decide), e 12 (by decide) (by decide) (by decide), e 13 (by decide) (by decide) (by decide)]; exact ⟨rfl, rfl, rfl⟩)).symm
  · intro z
    rw [p4] at z
    have : (up st 21 2 0) 21 2 = 1 := z
    rw [up_s] at this
    omega
end KP
