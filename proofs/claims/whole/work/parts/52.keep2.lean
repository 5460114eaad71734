theorem CGO_19 {st u : SS} (e : ∀ k : Nat, k ≠ 19 → k ≠ 5 → u k = st k) (e2 : u 19 2 = st 19 2) (e3 : u 19 3 = st 19 3) (se : Int) : ∀ (n : Nat) (la : Int), CGO u se n la ↔ CGO st se n la
  | 0, _ => Iff.rfl
  | n + 1, la => by
    show (∃ c, 0 ≤ c ∧ c < u 19 2 ∧ (bt se c ∧ bt (u 6 (u 19 3 - (n + 1 : Nat))) c) ∧ ¬ (u 18 (u 19 3 - (n + 1 : Nat)) = 1 ∧ la * u 7 ((u 19 3 - (n + 1 : Nat)) * 10 + c) < 0) ∧ CGO u se n (sAf u (u 19 3 - (n + 1 : Nat)) la c)) ↔ _
    rw [e2, e3, e 6 (by decide) (by decide), e 18 (by decide) (by decide), e 7 (by decide) (by decide)]
    refine exists_congr fun c => ?_
    have es : ∀ b, sAf u b la c = sAf st b la c := fun b => by unfold sAf; rw [e 11 (by decide) (by decide), e 7 (by decide) (by decide)]
    rw [es, CGO_19 e e2 e3 se n]
theorem RW_19 {st u : SS} (e : ∀ k : Nat, k ≠ 19 → k ≠ 5 → u k = st k) (e2 : u 19 2 = st 19 2) (b la : Int) : RW u b la = RW st b la := by
  have h : ∀ c, FIT u b la c ↔ FIT st b la c := fun c => by
    unfold FIT sAf
    rw [e 18 (by decide) (by decide), e 7 (by decide) (by decide), e 8 (by decide) (by decide), e 11 (by decide) (by decide)]
  have h2 : fP (fun c => (bt (u 21 1) c ∧ bt (u 6 b) c) ∧ FIT u b la c) (u 19 2).toNat 0 = fP (fun c => (bt (st 21 1) c ∧ bt (st 6 b) c) ∧ FIT st b la c) (st 19 2).toNat 0 := by
    rw [e2, e 21 (by decide) (by decide), e 6 (by decide) (by decide)]
    exact fP_cg _ _ (fun j _ _ => and_congr Iff.rfl (h j))
  unfold RW
  rw [h2]
theorem LSv_19 {st u : SS} (e : ∀ k : Nat, k ≠ 19 → k ≠ 5 → u k = st k) (e2 : u 19 2 = st 19 2) : ∀ n : Nat, LSv u n = LSv st n
  | 0 => rfl
  | n + 1 => by
    have es : ∀ b la c, sAf u b la c = sAf st b la c := fun b la c => by unfold sAf; rw [e 11 (by decide) (by decide), e 7 (by decide) (by decide)]
    rw [LSv, LSv, LSv_19 e e2 n, RW_19 e e2, es]
theorem SQ_19 {st u : SS} (e4 : u 4 = st 4) (e21 : u 21 = st 21) (e2 : u 19 2 = st 19 2) (n : Nat) : SQ u n = SQ st n := by
  rw [SQ_g, SQ_g, e4, e21, e2]
theorem RFD_19 {st u : SS} (h : RFD st st) (e : ∀ k : Nat, k ≠ 19 → k ≠ 5 → u k = st k) (e0 : u 19 0 = st 19 0) (e1 : u 19 1 = st 19 1) (e2 : u 19 2 = st 19 2) (e3 : u 19 3 = st 19 3) : RFD u u := by
  obtain ⟨-, h2, h3, h4, h5⟩ := h
  have hns : NS u = NS st := by unfold NS; rw [e2]
  have hok : ∀ s, OKS u s ↔ OKS st s := fun s => by unfold OKS; rw [e3]; exact CGO_19 e e2 e3 s _ _
  refine ⟨fun _ _ _ => rfl, ?_, by rw [e 21 (by decide) (by decide)]; exact h3, ?_, ?_⟩
  · unfold IP
    rw [e 6 (by decide) (by decide), e 7 (by decide) (by decide), e 8 (by decide) (by decide), e 9 (by decide) (by decide), e 10 (by decide) (by decide), e 21 (by decide) (by decide)]
    exact h2
  · intro b c a1 a2 a3 a4
    rw [e3] at a2
    rw [e2] at a4
    have := h4 b c a1 a2 a3 a4
    unfold TBc SDX WHYc FLc SDL SDM PTc at this ⊢
    rw [e 6 (by decide) (by decide), e 7 (by decide) (by decide), e 3 (by decide) (by decide), e 0 (by decide) (by decide), e 1 (by decide) (by decide), e 2 (by decide) (by decide), e 11 (by decide) (by decide), e 12 (by decide) (by decide), e 13 (by decide) (by decide), e 14 (by decide) (by decide), e 15 (by decide) (by decide), e 16 (by decide) (by decide), e0, e1]
    exact this
  · rw [e 21 (by decide) (by decide), e 8 (by decide) (by decide), e 9 (by decide) (by decide), e 10 (by decide) (by decide), e2, e3]
    rcases h5 with q | ⟨q1, q2, q3, q4, q5⟩
    · exact Or.inl ⟨q.1, fun s a b z => q.2 s a (by rw [hns] at b; exact b) ((hok s).mp z)⟩
    · refine Or.inr ⟨q1, ?_, fun b l a1 a2 a3 a4 => ?_, fun b a1 a2 => ?_, fun i a1 a2 => ?_⟩
      · unfold FOUND
        rw [hns]
        exact ⟨q2.1, q2.2.1, (hok _).mpr q2.2.2.1, fun s a b d z => q2.2.2.2.1 s a b d ((hok s).mp z), fun s a b d z => q2.2.2.2.2 s a b d ((hok s).mp z)⟩
      · rw [q3 b l a1 a2 a3 a4]
        exact b2_iff (CGO_19 e e2 e3 _ _ _).symm
      · rw [q4 b a1 a2, RW_19 e e2, LSv_19 e e2]
      · rw [q5 i a1 a2, nx_g, nx_g, SQ_19 (e 4 (by decide) (by decide)) (e 21 (by decide) (by decide)) e2, e 4 (by decide) (by decide), e2]
theorem uf_p {f : Int → Int} {i v : Int} {Pr : Int → Prop} {j : Int} (h : Pr v) (h2 : Pr (f j)) : Pr (uf f i v j) := by
  unfold uf
  split
  · exact h
  · exact h2
/-- persons' places and steps being left alone -/
theorem REL_mk {st mt u v : SS} (h : REL st mt) (hI : IC u) (hP : IP u) (hM : IM v) (hS : IS v) (hB : EQB u v) (e0 : u 0 = st 0) (e20 : u 20 = st 20) (e19 : u 19 0 = st 19 0) (m1 : v 1 = mt 1) (m2 : v 2 = mt 2) (m3 : v 3 = mt 3) (m4 : v 4 = mt 4) (hct : ∀ b, 0 ≤ b → b < u 19 3 → u 18 b = b2 (CUT u b)) (hkn : u 21 2 = 1 → RFD u u) : REL u v := by
  refine ⟨⟨hI, hP, hM, hS⟩, hB, fun p t a b c d => ?_, ?_, hct, hkn⟩
  · rw [e0, h.p p t a (by omega) c d]
    exact (plM_4 (by rw [m1]) m2 m3 m4).symm
  · unfold STP
    rw [e20, m2, m3, e19]
    exact h.sp
theorem no_kn {st : SS} {P : Prop} (z : (up st 21 2 0) 21 2 = 1) : P := by
  rw [up_s] at z
  omega
section K2
variable {st mt u v : SS} {r r' : Int}
theorem kp_wall (h : REL st mt) {ff gg : Int} (hu : (¬ WALLp ff gg ∧ r = -1 ∧ u = st) ∨ (WALLp ff gg ∧ 12 ≤ st 19 1 ∧ r = -2 ∧ u = st) ∨ (WALLp ff gg ∧ st 19 1 < 12 ∧ r = st 19 1 ∧ u = up (up (up (up st 21 2 0) 1 (st 19 1) ff) 2 (st 19 1) gg) 19 1 (st 19 1 + 1)))
    (hv : (¬ WALLp ff gg ∧ r' = -1 ∧ v = mt) ∨ (WALLp ff gg ∧ 12 ≤ mt 0 1 ∧ r' = -2 ∧ v = mt) ∨ (WALLp ff gg ∧ mt 0 1 < 12 ∧ r' = mt 0 1 ∧ v = up (up (up mt 5 (mt 0 1) ff) 6 (mt 0 1) gg) 0 1 (mt 0 1 + 1))) : r = r' ∧ REL u v := by
  have d : st 19 = mt 0 := h.b.2.2
  rw [← d] at hv
  rcases hu with ⟨p1, p2, p3⟩ | ⟨p1, p2, p3, p4⟩ | ⟨p1, p2, p3, p4⟩ <;> rcases hv with ⟨q1, q2, q3⟩ | ⟨q1, q2, q3, q4⟩ | ⟨q1, q2, q3, q4⟩
  · subst p3; subst q3; exact ⟨by omega, h⟩
  · exact absurd q1 p1
  · exact absurd q1 p1
  · exact absurd p1 q1
  · subst p4; subst q4; exact ⟨by omega, h⟩
  · omega
  · exact absurd p1 q1
  · omega
  refine ⟨by omega, ?_⟩
  obtain ⟨a1, a2, a3, a4, a5, a6, a7, a8, a9, a10, a11, a12, a13⟩ := h.ic
  obtain ⟨m1, m2, m3, m4, m5, m6, m7, m8, m9, m10, m11, m12, m13⟩ := h.im
  obtain ⟨⟨b1, b2, b3, b4, b5⟩, ⟨c1, c2, c3, c4, c5, c6, c7⟩, -⟩ := h.b
  have sx : ∀ j, j ≠ 1 → u 19 j = st 19 j := fun j hj => by rw [p4, up_i _ _ _ hj]; rfl
  have s1 : u 19 1 = st 19 1 + 1 := by rw [p4, up_s]
  have vx : ∀ j, j ≠ 1 → v 0 j = mt 0 j := fun j hj => by rw [q4, up_i _ _ _ hj]; rfl
  have v1 : v 0 1 = st 19 1 + 1 := by rw [q4, up_s]
  have hd : u 19 = v 0 := by
    funext j
    by_cases q : j = 1
    · subst q; rw [s1, v1]
    · rw [sx j q, vx j q, d]
  have u1 : u 1 = uf (st 1) (st 19 1) ff := by rw [p4]; rfl
  have u2 : u 2 = uf (st 2) (st 19 1) gg := by rw [p4]; rfl
  have v5 : v 5 = uf (mt 5) (st 19 1) ff := by rw [q4]; rfl
  have v6 : v 6 = uf (mt 6) (st 19 1) gg := by rw [q4]; rfl
  have e : ∀ k : Nat, k ≠ 1 → k ≠ 2 → k ≠ 19 → k ≠ 21 → u k = st k := fun k b1 b2 b3 b4 => by rw [p4, up_k _ _ _ b3, up_k _ _ _ b2, up_k _ _ _ b1, up_k _ _ _ b4]
  have f : ∀ k : Nat, k ≠ 0 → k ≠ 5 → k ≠ 6 → v k = mt k := fun k b1 b2 b3 => by rw [q4, up_k _ _ _ b1, up_k _ _ _ b3, up_k _ _ _ b2]
  have hI : IC u := by
    unfold IC ICs bdL
    rw [sx 0 (by decide), sx 2 (by decide), sx 3 (by decide), sx 4 (by decide), sx 5 (by decide), s1, u1, u2]
    unfold ICs at a1
    refine ⟨by omega, by rw [e 0 (by decide) (by decide) (by decide) (by decide)]; exact a2, fun i x y => uf_p p1.1 (a3 i x y), fun i x y => uf_p p1.2.1 (a4 i x y), by rw [e 3 (by decide) (by decide) (by decide) (by decide)]; exact a5, by rw [e 4 (by decide) (by decide) (by decide) (by decide)]; exact a6, by rw [e 5 (by decide) (by decide) (by decide) (by decide)]; exact a7, ?_, by rw [e 20 (by decide) (by decide) (by decide) (by decide)]; exact a9, ?_, ?_, fun w x y => ?_, ?_⟩
    · rw [p4]; exact a8
    · rw [e 11 (by decide) (by decide) (by decide) (by decide), e 12 (by decide) (by decide) (by decide) (by decide), e 13 (by decide) (by decide) (by decide) (by decide), e 15 (by decide) (by decide) (by decide) (by decide), e 16 (by decide) (by decide) (by decide) (by decide)]; exact a10
    · rw [e 0 (by decide) (by decide) (by decide) (by decide), e 20 (by decide) (by decide) (by decide) (by decide)]; exact a11
    · by_cases q : w = st 19 1
      · subst q; rw [uf_s, uf_s]; exact p1.2.2
      · rw [uf_n _ _ q, uf_n _ _ q]; exact a12 w x (by omega)
    · rw [e 5 (by decide) (by decide) (by decide) (by decide)]; exact a13
  have hM : IM v := by
    unfold IM IMs mbl
    rw [vx 0 (by decide), vx 2 (by decide), vx 3 (by decide), vx 4 (by decide), vx 5 (by decide), v1, v5, v6]
    unfold IMs at m1
    have d1 := congrFun d 1
    refine ⟨by omega, by rw [f 1 (by decide) (by decide) (by decide)]; exact m2, by rw [f 2 (by decide) (by decide) (by decide)]; exact m3, by rw [f 3 (by decide) (by decide) (by decide)]; exact m4, by rw [f 4 (by decide) (by decide) (by decide)]; exact m5, fun i x y => uf_p p1.1 (m6 i x y), fun i x y => uf_p p1.2.1 (m7 i x y), by rw [f 7 (by decide) (by decide) (by decide)]; exact m8, by rw [f 8 (by decide) (by decide) (by decide)]; exact m9, ?_, by rw [f 16 (by decide) (by decide) (by decide)]; exact m11, ?_, fun w x y => ?_⟩
    · rw [q4]; exact m10
    · rw [f 9 (by decide) (by decide) (by decide), f 10 (by decide) (by decide) (by decide), f 11 (by decide) (by decide) (by decide), f 13 (by decide) (by decide) (by decide), f 14 (by decide) (by decide) (by decide)]; exact m12
    · by_cases q : w = st 19 1
      · subst q; rw [uf_s, uf_s]; exact p1.2.2
      · rw [uf_n _ _ q, uf_n _ _ q]; exact m13 w x (by omega)
  refine REL_mk h hI ?_ hM ?_ ?_ (e 0 (by decide) (by decide) (by decide) (by decide)) (e 20 (by decide) (by decide) (by decide) (by decide)) (sx 0 (by decide)) (f 1 (by decide) (by decide) (by decide)) (f 2 (by decide) (by decide) (by decide)) (f 3 (by decide) (by decide) (by decide)) (f 4 (by decide) (by decide) (by decide)) ?_ ?_
  · rw [p4]; exact IP_fg h.ip rfl rfl rfl rfl rfl rfl
  · rw [q4]; exact h.is
  · refine ⟨⟨by rw [u1, v5, b1], by rw [u2, v6, b2], ?_, ?_, ?_⟩, ?_, hd⟩
    · rw [p4, q4]; exact b3
    · rw [p4, q4]; exact b4
    · rw [p4, q4]; exact b5
    · rw [p4, q4]; exact ⟨c1, c2, c3, c4, c5, c6, c7⟩
  · intro b x y
    rw [sx 3 (by decide)] at y
    rw [p4]
    exact h.ct b x y
  · intro z; rw [p4] at z; exact no_kn (st := st) z
theorem kp_open (h : REL st mt) (hu : (st 19 1 = 0 ∧ r = -3 ∧ u = st) ∨ (st 19 1 ≠ 0 ∧ r = st 19 1 - 1 ∧ u = up (up st 21 2 0) 19 1 (st 19 1 - 1))) (hv : (mt 0 1 = 0 ∧ r' = -3 ∧ v = mt) ∨ (mt 0 1 ≠ 0 ∧ r' = mt 0 1 - 1 ∧ v = up mt 0 1 (mt 0 1 - 1))) : r = r' ∧ REL u v := by
  have d : st 19 = mt 0 := h.b.2.2
  rw [← d] at hv
  rcases hu with ⟨p1, p2, p3⟩ | ⟨p1, p2, p3⟩ <;> rcases hv with ⟨q1, q2, q3⟩ | ⟨q1, q2, q3⟩
  · subst p3; subst q3; exact ⟨by omega, h⟩
  · omega
  · omega
  refine ⟨by omega, ?_⟩
  obtain ⟨a1, a2, a3, a4, a5, a6, a7, a8, a9, a10, a11, a12, a13⟩ := h.ic
  obtain ⟨m1, m2, m3, m4, m5, m6, m7, m8, m9, m10, m11, m12, m13⟩ := h.im
  obtain ⟨⟨b1, b2, b3, b4, b5⟩, ⟨c1, c2, c3, c4, c5, c6, c7⟩, -⟩ := h.b
  have sx : ∀ j, j ≠ 1 → u 19 j = st 19 j := fun j hj => by rw [p3, up_i _ _ _ hj]; rfl
  have s1 : u 19 1 = st 19 1 - 1 := by rw [p3, up_s]
  have vx : ∀ j, j ≠ 1 → v 0 j = mt 0 j := fun j hj => by rw [q3, up_i _ _ _ hj]
  have v1 : v 0 1 = st 19 1 - 1 := by rw [q3, up_s]
  have hd : u 19 = v 0 := by
    funext j
    by_cases q : j = 1
    · subst q; rw [s1, v1]
    · rw [sx j q, vx j q, d]
  have d1 := congrFun d 1
  have hI : IC u := by
    unfold IC ICs bdL
    rw [sx 0 (by decide), sx 2 (by decide), sx 3 (by decide), sx 4 (by decide), sx 5 (by decide), s1]
    unfold ICs at a1
    rw [p3]
    exact ⟨by omega, a2, a3, a4, a5, a6, a7, a8, a9, a10, a11, fun w x y => a12 w x (by omega), a13⟩
  have hM : IM v := by
    unfold IM IMs mbl
    rw [vx 0 (by decide), vx 2 (by decide), vx 3 (by decide), vx 4 (by decide), vx 5 (by decide), v1]
    unfold IMs at m1
    rw [q3]
    exact ⟨by omega, m2, m3, m4, m5, m6, m7, m8, m9, m10, m11, m12, fun w x y => m13 w x (by omega)⟩
  refine REL_mk h hI ?_ hM ?_ ?_ (by rw [p3]; rfl) (by rw [p3]; rfl) (sx 0 (by decide)) (by rw [q3]; rfl) (by rw [q3]; rfl) (by rw [q3]; rfl) (by rw [q3]; rfl) ?_ ?_
  · rw [p3]; exact IP_fg h.ip rfl rfl rfl rfl rfl rfl
  · rw [q3]; exact h.is
  · refine ⟨?_, ?_, hd⟩
    · rw [p3, q3]; exact ⟨b1, b2, b3, b4, b5⟩
    · rw [p3, q3]; exact ⟨c1, c2, c3, c4, c5, c6, c7⟩
  · intro b x y
    rw [sx 3 (by decide)] at y
    rw [p3]
    exact h.ct b x y
  · intro z; rw [p3] at z; exact no_kn (st := st) z
theorem kp_drop (h : REL st mt) (hu : (st 19 3 = 0 ∧ r = -3 ∧ u = st) ∨ (st 19 3 ≠ 0 ∧ r = st 19 3 - 1 ∧ u = up (up st 21 2 0) 19 3 (st 19 3 - 1))) (hv : (mt 0 3 = 0 ∧ r' = -3 ∧ v = mt) ∨ (mt 0 3 ≠ 0 ∧ r' = mt 0 3 - 1 ∧ v = up mt 0 3 (mt 0 3 - 1))) : r = r' ∧ REL u v := by
  have d : st 19 = mt 0 := h.b.2.2
  rw [← d] at hv
  rcases hu with ⟨p1, p2, p3⟩ | ⟨p1, p2, p3⟩ <;> rcases hv with ⟨q1, q2, q3⟩ | ⟨q1, q2, q3⟩
  · subst p3; subst q3; exact ⟨by omega, h⟩
  · omega
  · omega
  refine ⟨by omega, ?_⟩
  obtain ⟨a1, a2, a3, a4, a5, a6, a7, a8, a9, a10, a11, a12, a13⟩ := h.ic
  obtain ⟨m1, m2, m3, m4, m5, m6, m7, m8, m9, m10, m11, m12, m13⟩ := h.im
  obtain ⟨⟨b1, b2, b3, b4, b5⟩, ⟨c1, c2, c3, c4, c5, c6, c7⟩, -⟩ := h.b
  have sx : ∀ j, j ≠ 3 → u 19 j = st 19 j := fun j hj => by rw [p3, up_i _ _ _ hj]; rfl
  have s1 : u 19 3 = st 19 3 - 1 := by rw [p3, up_s]
  have vx : ∀ j, j ≠ 3 → v 0 j = mt 0 j := fun j hj => by rw [q3, up_i _ _ _ hj]
  have v1 : v 0 3 = st 19 3 - 1 := by rw [q3, up_s]
  have hd : u 19 = v 0 := by
    funext j
    by_cases q : j = 3
    · subst q; rw [s1, v1]
    · rw [sx j q, vx j q, d]
  have d1 := congrFun d 3
  have hI : IC u := by
    unfold IC ICs bdL
    rw [sx 0 (by decide), sx 1 (by decide), sx 2 (by decide), sx 4 (by decide), sx 5 (by decide), s1]
    unfold ICs at a1
    rw [p3]
    exact ⟨by omega, a2, a3, a4, a5, a6, a7, a8, a9, fun b x y => a10 b x (by omega), a11, a12, a13⟩
  have hM : IM v := by
    unfold IM IMs mbl
    rw [vx 0 (by decide), vx 1 (by decide), vx 2 (by decide), vx 4 (by decide), vx 5 (by decide), v1]
    unfold IMs at m1
    rw [q3]
    exact ⟨by omega, m2, m3, m4, m5, m6, m7, m8, m9, m10, m11, fun b x y => m12 b x (by omega), m13⟩
  refine REL_mk h hI ?_ hM ?_ ?_ (by rw [p3]; rfl) (by rw [p3]; rfl) (sx 0 (by decide)) (by rw [q3]; rfl) (by rw [q3]; rfl) (by rw [q3]; rfl) (by rw [q3]; rfl) ?_ ?_
  · rw [p3]; exact IP_fg h.ip rfl rfl rfl rfl rfl rfl
  · rw [q3]; exact h.is
  · refine ⟨?_, ?_, hd⟩
    · rw [p3, q3]; exact ⟨b1, b2, b3, b4, b5⟩
    · rw [p3, q3]; exact ⟨c1, c2, c3, c4, c5, c6, c7⟩
  · intro b x y
    rw [s1] at y
    rw [p3]
    exact h.ct b x (by omega)
  · intro z; rw [p3] at z; exact no_kn (st := st) z
theorem kp_rate (h : REL st mt) {xx : Int} (hu : (¬ (1 ≤ xx ∧ xx ≤ 20) ∧ r = -1 ∧ u = st) ∨ ((1 ≤ xx ∧ xx ≤ 20) ∧ r = st 19 4 ∧ u = up st 19 4 xx)) (hv : (¬ (1 ≤ xx ∧ xx ≤ 20) ∧ r' = -1 ∧ v = mt) ∨ ((1 ≤ xx ∧ xx ≤ 20) ∧ r' = mt 0 4 ∧ v = up mt 0 4 xx)) : r = r' ∧ REL u v := by
  have d : st 19 = mt 0 := h.b.2.2
  rw [← d] at hv
  rcases hu with ⟨p1, p2, p3⟩ | ⟨p1, p2, p3⟩ <;> rcases hv with ⟨q1, q2, q3⟩ | ⟨q1, q2, q3⟩
  · subst p3; subst q3; exact ⟨by omega, h⟩
  · omega
  · omega
  refine ⟨by omega, ?_⟩
  obtain ⟨a1, a2, a3, a4, a5, a6, a7, a8, a9, a10, a11, a12, a13⟩ := h.ic
  obtain ⟨m1, m2, m3, m4, m5, m6, m7, m8, m9, m10, m11, m12, m13⟩ := h.im
  obtain ⟨⟨b1, b2, b3, b4, b5⟩, ⟨c1, c2, c3, c4, c5, c6, c7⟩, -⟩ := h.b
  have sx : ∀ j, j ≠ 4 → u 19 j = st 19 j := fun j hj => by rw [p3, up_i _ _ _ hj]
  have s1 : u 19 4 = xx := by rw [p3, up_s]
  have vx : ∀ j, j ≠ 4 → v 0 j = mt 0 j := fun j hj => by rw [q3, up_i _ _ _ hj]
  have v1 : v 0 4 = xx := by rw [q3, up_s]
  have hd : u 19 = v 0 := by
    funext j
    by_cases q : j = 4
    · subst q; rw [s1, v1]
    · rw [sx j q, vx j q, d]
  have hI : IC u := by
    unfold IC ICs bdL
    rw [sx 0 (by decide), sx 1 (by decide), sx 2 (by decide), sx 3 (by decide), sx 5 (by decide), s1]
    unfold ICs at a1
    rw [p3]
    exact ⟨by omega, a2, a3, a4, a5, a6, a7, a8, a9, a10, a11, a12, a13⟩
  have hM : IM v := by
    unfold IM IMs mbl
    rw [vx 0 (by decide), vx 1 (by decide), vx 2 (by decide), vx 3 (by decide), vx 5 (by decide), v1]
    unfold IMs at m1
    rw [q3]
    exact ⟨by omega, m2, m3, m4, m5, m6, m7, m8, m9, m10, m11, m12, m13⟩
  refine REL_mk h hI ?_ hM ?_ ?_ (by rw [p3]; rfl) (by rw [p3]; rfl) (sx 0 (by decide)) (by rw [q3]; rfl) (by rw [q3]; rfl) (by rw [q3]; rfl) (by rw [q3]; rfl) ?_ ?_
  · rw [p3]; exact h.ip
  · rw [q3]; exact h.is
  · refine ⟨?_, ?_, hd⟩
    · rw [p3, q3]; exact ⟨b1, b2, b3, b4, b5⟩
    · rw [p3, q3]; exact ⟨c1, c2, c3, c4, c5, c6, c7⟩
  · intro b x y
    rw [sx 3 (by decide)] at y
    rw [p3]
    exact h.ct b x y
  · intro z
    have z2 : st 21 2 = 1 := by rw [p3] at z; exact z
    exact RFD_19 (h.kn z2) (fun k hk _ => by rw [p3, up_k _ _ _ hk]) (sx 0 (by decide)) (sx 1 (by decide)) (sx 2 (by decide)) (sx 3 (by decide))
end K2
