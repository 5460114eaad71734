section K4
variable {st mt u v : SS} {r r' : Int}
theorem who_q {np ww : Int} (hn : 0 ≤ np ∧ np ≤ 6) (h : WHOp np ww) : (0 ≤ ww / 1000 ∧ ww / 1000 ≤ 2) ∧ (0 ≤ ww / 100 % 10 ∧ ww / 100 % 10 < np) ∧ (0 ≤ zor (ww % 100) (zshl 1 (ww / 100 % 10)) ∧ zor (ww % 100) (zshl 1 (ww / 100 % 10)) < 64) ∧ bt (zor (ww % 100) (zshl 1 (ww / 100 % 10))) (ww / 100 % 10) ∧ (∀ p, 0 ≤ p → bt (zor (ww % 100) (zshl 1 (ww / 100 % 10))) p → p < np) ∧ (ww / 1000 = 1 → ∃ o, 0 ≤ o ∧ o < 6 ∧ o ≠ ww / 100 % 10 ∧ bt (zor (ww % 100) (zshl 1 (ww / 100 % 10))) o) := by
  obtain ⟨h1, h2, h3, h4, h5⟩ := h
  have hp := pw6 hn.1 hn.2
  have h6 : 0 ≤ ww / 100 % 10 := by omega
  have h7 : 0 ≤ ww % 100 := by omega
  have e : zor (ww % 100) (zshl 1 (ww / 100 % 10)) = sbt (ww % 100) (ww / 100 % 10) := sbt_zor h7 (by omega) h6 (by omega)
  have hz := zor_64 h7 (show ww % 100 < 64 by omega) h6 (show ww / 100 % 10 < 6 by omega)
  have lt : ∀ p, 0 ≤ p → bt (ww % 100) p → p < np := fun p a b => bt_lt h7 h4 a b
  generalize ww / 100 % 10 = m at *
  generalize ww % 100 = q at *
  refine ⟨by omega, ⟨h6, h3⟩, hz, ?_, fun p a b => ?_, fun z => ?_⟩
  · rw [e, sbt_bt _ h6 h6]; exact Or.inr rfl
  · rw [e, sbt_bt _ h6 a] at b
    rcases b with b | b
    · exact lt p a b
    · omega
  · obtain ⟨k, k1, k2, k3⟩ := h5 z
    have k4 := lt k k1 k3
    refine ⟨k, k1, by omega, k2, ?_⟩
    rw [e, sbt_bt _ h6 k1]; exact Or.inl k3
theorem kp_board (h : REL st mt) {ww zz sp wd : Int} (hu : (¬ BOARDp (st 19 0) ww zz sp wd ∧ r = -1 ∧ u = st) ∨ (BOARDp (st 19 0) ww zz sp wd ∧ 8 ≤ st 19 3 ∧ r = -2 ∧ u = st) ∨ (BOARDp (st 19 0) ww zz sp wd ∧ st 19 3 < 8 ∧ r = st 19 3 ∧ u = NBD (up st 21 2 0) ww zz sp wd))
    (hv : (¬ BOARDp (mt 0 0) ww zz sp wd ∧ r' = -1 ∧ v = mt) ∨ (BOARDp (mt 0 0) ww zz sp wd ∧ 8 ≤ mt 0 3 ∧ r' = -2 ∧ v = mt) ∨ (BOARDp (mt 0 0) ww zz sp wd ∧ mt 0 3 < 8 ∧ r' = mt 0 3 ∧ v = NBM mt ww zz sp wd)) : r = r' ∧ REL u v := by
  have d : st 19 = mt 0 := h.b.2.2
  have d0 := congrFun d 0
  have d3 := congrFun d 3
  rw [← d0, ← d3] at hv
  rcases hu with ⟨p1, p2, p3⟩ | ⟨p1, p2, p3, p4⟩ | ⟨p1, p2, p3, p4⟩ <;> rcases hv with ⟨q1, q2, q3⟩ | ⟨q1, q2, q3, q4⟩ | ⟨q1, q2, q3, q4⟩
  · subst p3; subst q3; exact ⟨by omega, h⟩
  · exact absurd q1 p1
  · exact absurd q1 p1
  · exact absurd p1 q1
  · subst p4; subst q4; exact ⟨by omega, h⟩
  · omega
  · exact absurd p1 q1
  · omega
  refine ⟨by omega, ?_⟩
  have hs := h.ic.s
  obtain ⟨w1, w2, w3, w4, w5, w6⟩ := who_q hs.1 p1.1
  obtain ⟨-, g2, g3, g4⟩ := p1
  have e13 : (zor (ww % 100) (zshl 1 (ww / 100 % 10))) = (zor (ww % 100) (zshl 1 (ww / 100 % 10))) := rfl
  have u18 : u 18 = uf (st 18) (st 19 3) (b2 (ww / 1000 = 1 ∧ SLT (NB (up st 21 2 0) ww zz sp wd) (st 19 3) = spk (ww / 100 % 10) (PTN (ww / 100 % 10) (zor (ww % 100) (zshl 1 (ww / 100 % 10)))))) := by rw [p4]; rfl
  have n11 : NB (up st 21 2 0) ww zz sp wd 11 = uf (st 11) (st 19 3) (ww / 1000) := rfl
  have n12 : NB (up st 21 2 0) ww zz sp wd 12 = uf (st 12) (st 19 3) (ww / 100 % 10) := rfl
  have n13 : NB (up st 21 2 0) ww zz sp wd 13 = uf (st 13) (st 19 3) (zor (ww % 100) (zshl 1 (ww / 100 % 10))) := rfl
  have u11 : u 11 = uf (st 11) (st 19 3) (ww / 1000) := by rw [p4]; rfl
  have u12 : u 12 = uf (st 12) (st 19 3) (ww / 100 % 10) := by rw [p4]; rfl
  have u13 : u 13 = uf (st 13) (st 19 3) (zor (ww % 100) (zshl 1 (ww / 100 % 10))) := by rw [p4]; rfl
  have u14 : u 14 = uf (st 14) (st 19 3) zz := by rw [p4]; rfl
  have u15 : u 15 = uf (st 15) (st 19 3) (sp / 100) := by rw [p4]; rfl
  have u16 : u 16 = uf (st 16) (st 19 3) (sp % 100) := by rw [p4]; rfl
  have u17 : u 17 = uf (st 17) (st 19 3) wd := by rw [p4]; rfl
  have v9 : v 9 = uf (mt 9) (st 19 3) (ww / 1000) := by rw [q4, d3]; rfl
  have v10 : v 10 = uf (mt 10) (st 19 3) (ww / 100 % 10) := by rw [q4, d3]; rfl
  have v11 : v 11 = uf (mt 11) (st 19 3) (zor (ww % 100) (zshl 1 (ww / 100 % 10))) := by rw [q4, d3]; rfl
  have v12 : v 12 = uf (mt 12) (st 19 3) zz := by rw [q4, d3]; rfl
  have v13 : v 13 = uf (mt 13) (st 19 3) (sp / 100) := by rw [q4, d3]; rfl
  have v14 : v 14 = uf (mt 14) (st 19 3) (sp % 100) := by rw [q4, d3]; rfl
  have v15 : v 15 = uf (mt 15) (st 19 3) wd := by rw [q4, d3]; rfl
  have sx : ∀ j, j ≠ 3 → u 19 j = st 19 j := fun j hj => by rw [p4]; unfold NBD; rw [up_i _ _ _ hj]; rfl
  have s3 : u 19 3 = st 19 3 + 1 := by rw [p4]; rfl
  have vx : ∀ j, j ≠ 3 → v 0 j = mt 0 j := fun j hj => by rw [q4]; unfold NBM; rw [up_i _ _ _ hj]; rfl
  have v3 : v 0 3 = st 19 3 + 1 := by rw [q4, d3]; rfl
  have hd : u 19 = v 0 := by
    funext j
    by_cases q : j = 3
    · subst q; rw [s3, v3]
    · rw [sx j q, vx j q, d]
  have ue : ∀ k : Nat, k ≤ 10 ∨ k = 20 → u k = st k := by
    intro k hk
    rw [p4]
    unfold NBD NB B7
    rw [up_k _ _ _ (by omega), up_k _ _ _ (by omega), up_k _ _ _ (by omega), up_k _ _ _ (by omega), up_k _ _ _ (by omega), up_k _ _ _ (by omega), up_k _ _ _ (by omega), up_k _ _ _ (by omega), up_k _ _ _ (by omega), up_k _ _ _ (by omega)]
  have ve : ∀ k : Nat, (1 ≤ k ∧ k ≤ 8) ∨ 16 ≤ k → v k = mt k := by
    intro k hk
    rw [q4]
    unfold NBM
    rw [up_k _ _ _ (by omega), up_k _ _ _ (by omega), up_k _ _ _ (by omega), up_k _ _ _ (by omega), up_k _ _ _ (by omega), up_k _ _ _ (by omega), up_k _ _ _ (by omega), up_k _ _ _ (by omega)]
  obtain ⟨a1, a2, a3, a4, a5, a6, a7, a8, a9, a10, a11, a12, a13⟩ := h.ic
  obtain ⟨m1, m2, m3, m4, m5, m6, m7, m8, m9, m10, m11, m12, m13⟩ := h.im
  obtain ⟨⟨b1, b2', b3, b4, b5⟩, ⟨c1, c2, c3, c4, c5, c6, c7⟩, -⟩ := h.b
  generalize zor (ww % 100) (zshl 1 (ww / 100 % 10)) = q at *
  generalize ww / 100 % 10 = m at *
  generalize ww / 1000 = k at *
  have hI : IC u := by
    unfold IC ICs bdR bdL
    rw [sx 0 (by decide), sx 1 (by decide), sx 2 (by decide), sx 4 (by decide), sx 5 (by decide), s3, ue 0 (by omega), ue 1 (by omega), ue 2 (by omega), ue 3 (by omega), ue 4 (by omega), ue 5 (by omega), ue 20 (by omega), u11, u12, u13, u14, u15, u16, u17, u18]
    unfold ICs at a1
    refine ⟨by omega, a2, a3, a4, a5, a6, a7, fun b x y => ?_, a9, fun b x y => ?_, a11, a12, a13⟩
    · by_cases z : b = st 19 3
      · subst z
        simp only [uf_s]
        exact ⟨by omega, by omega, by omega, by omega, by omega, by omega, by omega, b2_01 _⟩
      · simp only [uf_n _ _ z]
        exact a8 b x y
    · by_cases z : b = st 19 3
      · subst z
        simp only [uf_s]
        exact ⟨by omega, by omega, w4, w5, w6⟩
      · simp only [uf_n _ _ z]
        exact a10 b x (by omega)
  have hM : IM v := by
    unfold IM IMs bdM mbl
    rw [vx 0 (by decide), vx 1 (by decide), vx 2 (by decide), vx 4 (by decide), vx 5 (by decide), v3, ve 1 (by omega), ve 2 (by omega), ve 3 (by omega), ve 4 (by omega), ve 5 (by omega), ve 6 (by omega), ve 7 (by omega), ve 8 (by omega), ve 16 (by omega), v9, v10, v11, v12, v13, v14, v15]
    unfold IMs at m1
    refine ⟨by omega, m2, m3, m4, m5, m6, m7, m8, m9, fun b x y => ?_, m11, fun b x y => ?_, m13⟩
    · by_cases z : b = st 19 3
      · subst z
        simp only [uf_s]
        exact ⟨by omega, by omega, by omega, by omega, by omega, by omega, by omega⟩
      · simp only [uf_n _ _ z]
        exact m10 b x y
    · by_cases z : b = st 19 3
      · subst z
        simp only [uf_s]
        rw [← d0]
        exact ⟨by omega, by omega, w5, w6⟩
      · simp only [uf_n _ _ z]
        exact m12 b x (by omega)
  refine REL_mk h hI ?_ hM ?_ ?_ (ue 0 (by omega)) (ue 20 (by omega)) (sx 0 (by decide)) (ve 1 (by omega)) (ve 2 (by omega)) (ve 3 (by omega)) (ve 4 (by omega)) ?_ ?_
  · exact IP_fg h.ip (ue 6 (by omega)) (ue 7 (by omega)) (ue 8 (by omega)) (ue 9 (by omega)) (ue 10 (by omega)) (by rw [p4]; rfl)
  · exact IS_eq h.is (ve 17 (by omega)) (ve 18 (by omega)) (ve 19 (by omega)) (ve 20 (by omega))
  · unfold EQB
    rw [ue 1 (by omega), ue 2 (by omega), ue 3 (by omega), ue 4 (by omega), ue 5 (by omega), ve 5 (by omega), ve 6 (by omega), ve 7 (by omega), ve 8 (by omega), ve 16 (by omega), u11, u12, u13, u14, u15, u16, u17, v9, v10, v11, v12, v13, v14, v15]
    exact ⟨⟨b1, b2', b3, b4, b5⟩, ⟨by rw [c1], by rw [c2], by rw [c3], by rw [c4], by rw [c5], by rw [c6], by rw [c7]⟩, hd⟩
  · intro b x y
    rw [s3] at y
    by_cases z : b = st 19 3
    · rw [z, u18, uf_s]
      unfold CUT
      rw [SLT_lt (st := NB (up st 21 2 0) ww zz sp wd) (u := u) (b := st 19 3) (by omega) (fun j _ _ => by rw [u11, u12, u13, n11, n12, n13]; exact ⟨rfl, rfl, rfl⟩), u11, u12, u13, uf_s, uf_s, uf_s]
    · rw [u18, uf_n _ _ z, h.ct b x (by omega)]
      refine b2_iff (CUT_lt x (fun j j1 j2 => ?_)).symm
      rw [u11, u12, u13, uf_n _ _ (by omega), uf_n _ _ (by omega), uf_n _ _ (by omega)]
      exact ⟨rfl, rfl, rfl⟩
  · intro z
    have : u 21 2 = 0 := by rw [p4]; rfl
    omega
end K4
