/-! a step keeps the relation -/
theorem PLF_cg {tk pl tk' pl' : Int → Int} {t : Int} : ∀ (n : Nat) (k b p : Int), (∀ j, k ≤ j → j < k + n → tk j = tk' j ∧ pl j = pl' j) → PLF tk pl t n k b p = PLF tk' pl' t n k b p
  | 0, _, _, _, _ => rfl
  | n + 1, k, b, p, h => by
    have h0 := h k (by omega) (by omega)
    rw [PLF, PLF, h0.1, h0.2, PLF_cg n (k + 1) _ _ (fun j a c => h j (by omega) (by omega)), PLF_cg n (k + 1) _ _ (fun j a c => h j (by omega) (by omega))]
theorem PLF_spec {tk pl : Int → Int} {t : Int} : ∀ (n : Nat) (k b p : Int), (PLF tk pl t n k b p = p ∧ ∀ j, k ≤ j → j < k + n → ¬ (tk j ≤ t ∧ b < tk j)) ∨ (∃ j, k ≤ j ∧ j < k + n ∧ tk j ≤ t ∧ b < tk j ∧ PLF tk pl t n k b p = pl j ∧ ∀ i, k ≤ i → i < k + n → tk i ≤ t → tk i ≤ tk j)
  | 0, _, _, _ => Or.inl ⟨rfl, fun j a b => by omega⟩
  | n + 1, k, b, p => by
    by_cases q : tk k ≤ t ∧ b < tk k
    · rw [PLF_t q]
      rcases PLF_spec (tk := tk) (pl := pl) (t := t) n (k + 1) (tk k) (pl k) with ⟨e1, e2⟩ | ⟨j, j1, j2, j3, j4, j5, j6⟩
      · refine Or.inr ⟨k, by omega, by omega, q.1, q.2, e1, fun i a c d => ?_⟩
        by_cases e : i = k
        · subst e; omega
        · have := e2 i (by omega) (by omega)
          omega
      · refine Or.inr ⟨j, by omega, by omega, j3, by omega, j5, fun i a c d => ?_⟩
        by_cases e : i = k
        · subst e; omega
        · exact j6 i (by omega) (by omega) d
    · rw [PLF_f q]
      rcases PLF_spec (tk := tk) (pl := pl) (t := t) n (k + 1) b p with ⟨e1, e2⟩ | ⟨j, j1, j2, j3, j4, j5, j6⟩
      · refine Or.inl ⟨e1, fun j a c => ?_⟩
        by_cases e : j = k
        · subst e; exact q
        · exact e2 j (by omega) (by omega)
      · refine Or.inr ⟨j, by omega, by omega, j3, j4, j5, fun i a c d => ?_⟩
        by_cases e : i = k
        · subst e; omega
        · exact j6 i (by omega) (by omega) d
section K5
variable {st mt u v : SS} {r r' : Int}
/-- the steps of a person are told by distinct ticks from 1 on -/
abbrev DST (mt : SS) (p : Int) : Prop := (0 ≤ mt 2 p) ∧ (∀ k, 12 * p ≤ k → k < 12 * p + mt 2 p → 1 ≤ mt 3 k) ∧ (∀ k j, 12 * p ≤ k → k < j → j < 12 * p + mt 2 p → mt 3 k ≠ mt 3 j)
theorem plM_last {p t j : Int} (hd : DST mt p) (h1 : 12 * p ≤ j ∧ j < 12 * p + mt 2 p) (h2 : mt 3 j ≤ t) (h3 : ∀ i, 12 * p ≤ i → i < 12 * p + mt 2 p → mt 3 i ≤ t → mt 3 i ≤ mt 3 j) : plM mt p t = mt 4 j := by
  obtain ⟨d0, d1, d2⟩ := hd
  unfold plM
  rcases PLF_spec (tk := mt 3) (pl := mt 4) (t := t) (mt 2 p).toNat (12 * p) 0 (mt 1 p) with ⟨e1, e2⟩ | ⟨i, i1, i2, i3, i4, i5, i6⟩
  · have := e2 j h1.1 (by omega)
    have := d1 j h1.1 h1.2
    omega
  · rw [i5]
    have a1 := h3 i i1 (by omega) i3
    have a2 := i6 j h1.1 (by omega) h2
    rcases Int.lt_trichotomy i j with q | q | q
    · exact absurd (by omega) (d2 i j i1 q h1.2)
    · rw [q]
    · exact absurd (by omega) (d2 j i h1.1 q (by omega))
theorem plM_none {p t : Int} (h0 : 0 ≤ mt 2 p) (h3 : ∀ i, 12 * p ≤ i → i < 12 * p + mt 2 p → ¬ mt 3 i ≤ t) : plM mt p t = mt 1 p := by
  unfold plM
  rcases PLF_spec (tk := mt 3) (pl := mt 4) (t := t) (mt 2 p).toNat (12 * p) 0 (mt 1 p) with ⟨e1, e2⟩ | ⟨i, i1, i2, i3, i4, i5, i6⟩
  · exact e1
  · exact absurd i3 (h3 i i1 (by omega))
theorem plM_dich {p t : Int} (hd : DST mt p) : (∀ i, 12 * p ≤ i → i < 12 * p + mt 2 p → ¬ mt 3 i ≤ t) ∨ (∃ j, (12 * p ≤ j ∧ j < 12 * p + mt 2 p) ∧ mt 3 j ≤ t ∧ ∀ i, 12 * p ≤ i → i < 12 * p + mt 2 p → mt 3 i ≤ t → mt 3 i ≤ mt 3 j) := by
  obtain ⟨d0, d1, d2⟩ := hd
  rcases PLF_spec (tk := mt 3) (pl := mt 4) (t := t) (mt 2 p).toNat (12 * p) 0 (mt 1 p) with ⟨e1, e2⟩ | ⟨i, i1, i2, i3, i4, i5, i6⟩
  · refine Or.inl (fun i a b c => ?_)
    have := e2 i a (by omega)
    have := d1 i a b
    omega
  · exact Or.inr ⟨i, ⟨i1, by omega⟩, i3, fun j a b c => i6 j a (by omega) c⟩
/-- one step's place is told anew, or one step more: k -/
theorem plM_step {p tt n ff k t : Int} (hd : DST mt p) (hv : DST v p) (hk : 12 * p ≤ k ∧ k < 12 * p + v 2 p) (h3 : v 3 k = tt) (h4 : v 4 k = ff) (h1 : v 1 p = mt 1 p) (hin : ∀ i, 12 * p ≤ i → i < 12 * p + mt 2 p → i < 12 * p + v 2 p) (hout : ∀ i, 12 * p ≤ i → i < 12 * p + v 2 p → i ≠ k → i < 12 * p + mt 2 p)
    (he : ∀ i, 12 * p ≤ i → i < 12 * p + mt 2 p → i ≠ k → v 3 i = mt 3 i ∧ v 4 i = mt 4 i) (hek : k < 12 * p + mt 2 p → mt 3 k = tt) (hno : ∀ i, 12 * p ≤ i → i < 12 * p + mt 2 p → ¬ (tt < mt 3 i ∧ mt 3 i < tt + n)) (hend : tt + n ≤ t → ∃ i, (12 * p ≤ i ∧ i < 12 * p + mt 2 p) ∧ mt 3 i = tt + n) (hn : 1 ≤ n) : plM v p t = if tt ≤ t ∧ t < tt + n then ff else plM mt p t := by
  by_cases q : tt ≤ t ∧ t < tt + n
  · rw [if_pos q, ← h4]
    refine plM_last hv hk (by omega) (fun i a b c => ?_)
    by_cases e : i = k
    · subst e; omega
    · have b2 := hout i a b e
      have := (he i a b2 e).1
      have := hno i a b2
      omega
  · rw [if_neg q]
    rcases plM_dich (t := t) hd with e | ⟨j, j1, j2, j3⟩
    · rw [plM_none hd.1 e, plM_none hv.1, h1]
      intro i a b c
      by_cases e2 : i = k
      · subst e2
        obtain ⟨j, j1, j2⟩ := hend (by omega)
        exact e j j1.1 j1.2 (by omega)
      · have b2 := hout i a b e2
        have := (he i a b2 e2).1
        exact e i a b2 (by omega)
    · have hjk : j ≠ k := by
        intro e2
        subst e2
        have := hek j1.2
        obtain ⟨i, i1, i2⟩ := hend (by omega)
        have := j3 i i1.1 i1.2 (by omega)
        omega
      have ej := he j j1.1 j1.2 hjk
      rw [plM_last hd j1 j2 j3, ← ej.2]
      refine plM_last hv ⟨j1.1, hin j j1.1 j1.2⟩ (by omega) (fun i a b c => ?_)
      by_cases e2 : i = k
      · subst e2
        obtain ⟨i', i1, i2⟩ := hend (by omega)
        have := j3 i' i1.1 i1.2 (by omega)
        omega
      · have b2 := hout i a b e2
        have e3 := (he i a b2 e2).1
        have := j3 i a b2 (by omega)
        omega
theorem STP.d (h : REL st mt) {p : Int} (hp : 0 ≤ p ∧ p < 6) : DST mt p := ⟨(h.im.c2 p hp.1 hp.2).1, fun k a b => h.sp.2.2.1 p k hp.1 hp.2 a b, fun k j a b c => h.sp.2.2.2.1 p k j hp.1 hp.2 a b c⟩
theorem IC_step (h : IC st) {pp tt n ff : Int} (hp : 0 ≤ pp ∧ pp < 6) (ht : 1 ≤ tt ∧ tt < 60) (hf : plc ff) (n1 : 1 ≤ n) (n2 : tt + n ≤ 60) (n3 : tt + n = 60 ∨ bt (st 20 pp) (tt + n)) (hu : u = sA (up (up st 21 2 0) 20 pp (sbt (st 20 pp) tt)) 0 (fil (st 0) (pp * 60 + tt) n ff)) : IC u := by
  obtain ⟨a1, a2, a3, a4, a5, a6, a7, a8, a9, a10, a11, a12, a13⟩ := h
  have u0 : u 0 = fil (st 0) (pp * 60 + tt) n ff := by rw [hu]; rfl
  have u20 : u 20 = uf (st 20) pp (sbt (st 20 pp) tt) := by rw [hu]; rfl
  have hx := a9 pp hp.1 hp.2
  unfold IC
  rw [u0, u20]
  refine ⟨by rw [hu]; exact a1, fun i x y => ?_, by rw [hu]; exact a3, by rw [hu]; exact a4, by rw [hu]; exact a5, by rw [hu]; exact a6, by rw [hu]; exact a7, by rw [hu]; exact a8, fun p x y => ?_, by rw [hu]; exact a10, fun p t x y z w m => ?_, by rw [hu]; exact a12, by rw [hu]; exact a13⟩
  · unfold fil
    split
    · exact hf
    · exact a2 i x y
  · by_cases e : p = pp
    · subst e
      rw [uf_s]
      exact sbt_b hx.1 hx.2 (by omega) (by omega)
    · rw [uf_n _ _ e]
      exact a9 p x y
  · by_cases e : p = pp
    · subst e
      rw [uf_s, sbt_bt _ (by omega) (by omega)] at m
      have m1 : ¬ bt (st 20 p) t := fun q => m (Or.inl q)
      have m2 : t ≠ tt := fun q => m (Or.inr q)
      by_cases q : tt < t ∧ t < tt + n
      · rw [fil_in _ _ (by omega), fil_in _ _ (by omega)]
      · have q2 : t ≠ tt + n := fun q3 => by
          rcases n3 with q4 | q4
          · omega
          · rw [← q3] at q4; exact m1 q4
        rw [fil_out _ _ (by omega), fil_out _ _ (by omega)]
        exact a11 p t x y z w m1
    · rw [uf_n _ _ e] at m
      rw [fil_out _ _ (by omega), fil_out _ _ (by omega)]
      exact a11 p t x y z w m
theorem kp_step (h : REL st mt) {pp tt ff : Int} (hu : (¬ STEPp (st 19 0) pp tt ff ∧ r = -1 ∧ u = st) ∨ (STEPp (st 19 0) pp tt ff ∧ ¬ bt (st 20 pp) tt ∧ 12 ≤ ljbc (st 20 pp) ∧ r = -2 ∧ u = st) ∨ (STEPp (st 19 0) pp tt ff ∧ (bt (st 20 pp) tt ∨ ljbc (st 20 pp) < 12) ∧ r = ljbc (sbt (st 20 pp) tt) ∧ ∃ n, 1 ≤ n ∧ tt + n ≤ 60 ∧ (∀ j, tt < j → j < tt + n → ¬ bt (st 20 pp) j) ∧ (tt + n = 60 ∨ bt (st 20 pp) (tt + n)) ∧ u = sA (up (up st 21 2 0) 20 pp (sbt (st 20 pp) tt)) 0 (fil (st 0) (pp * 60 + tt) n ff)))
    (hv : (¬ STEPp (mt 0 0) pp tt ff ∧ r' = -1 ∧ v = mt) ∨ (STEPp (mt 0 0) pp tt ff ∧ ∃ k, 12 * pp ≤ k ∧ k < 12 * pp + mt 2 pp ∧ mt 3 k = tt ∧ r' = mt 2 pp ∧ v = up mt 4 k ff) ∨ (STEPp (mt 0 0) pp tt ff ∧ (∀ k, 12 * pp ≤ k → k < 12 * pp + mt 2 pp → mt 3 k ≠ tt) ∧ 12 ≤ mt 2 pp ∧ r' = -2 ∧ v = mt) ∨ (STEPp (mt 0 0) pp tt ff ∧ (∀ k, 12 * pp ≤ k → k < 12 * pp + mt 2 pp → mt 3 k ≠ tt) ∧ mt 2 pp < 12 ∧ r' = mt 2 pp + 1 ∧ v = up (up (up mt 3 (12 * pp + mt 2 pp) tt) 4 (12 * pp + mt 2 pp) ff) 2 pp (mt 2 pp + 1))) : r = r' ∧ REL u v := by
  have d : st 19 = mt 0 := h.b.2.2
  have hs := h.ic.s
  rw [← d] at hv
  by_cases hS : STEPp (st 19 0) pp tt ff
  · have hpp : 0 ≤ pp ∧ pp < 6 := by omega
    obtain ⟨t1, t2, t3, t4, t5⟩ := h.sp
    have hbt := t1 pp tt hpp.1 hpp.2 (by omega)
    have hlj := t2 pp hpp.1 hpp.2
    have hx := h.ic.c20 pp hpp.1 hpp.2
    have hls := ljbc_sbt hx.1 hx.2 (show 0 ≤ tt by omega) (by omega)
    have hd := STP.d h hpp
    have hm2 := h.im.c2 pp hpp.1 hpp.2
    -- what both kinds of step share
    have key : ∀ k n, (12 * pp ≤ k ∧ k < 12 * pp + v 2 pp) → v 3 k = tt → v 4 k = ff → v 1 = mt 1 → (∀ p, 0 ≤ p → p < 6 → p ≠ pp → v 2 p = mt 2 p) → (mt 2 pp ≤ v 2 pp ∧ v 2 pp ≤ 12) → (∀ i, 12 * pp ≤ i → i < 12 * pp + v 2 pp → i ≠ k → i < 12 * pp + mt 2 pp) → (∀ i, i ≠ k → v 3 i = mt 3 i ∧ v 4 i = mt 4 i) → (k < 12 * pp + mt 2 pp → mt 3 k = tt) → (∀ i, 12 * pp ≤ i → i < 12 * pp + mt 2 pp → i ≠ k → mt 3 i ≠ tt) → ljbc (sbt (st 20 pp) tt) = v 2 pp → (∀ m : Nat, m = 0 ∨ 5 ≤ m → v m = mt m) → 1 ≤ n → tt + n ≤ 60 → (∀ j, tt < j → j < tt + n → ¬ bt (st 20 pp) j) → (tt + n = 60 ∨ bt (st 20 pp) (tt + n)) → u = sA (up (up st 21 2 0) 20 pp (sbt (st 20 pp) tt)) 0 (fil (st 0) (pp * 60 + tt) n ff) → REL u v := by
      intro k n k1 k2 k3 k4 k5 k6 k7 k8 k9 k10 k11 k12 n1 n2 n3 n4 n5
      have u0 : u 0 = fil (st 0) (pp * 60 + tt) n ff := by rw [n5]; rfl
      have u20 : u 20 = uf (st 20) pp (sbt (st 20 pp) tt) := by rw [n5]; rfl
      obtain ⟨m1, m2, m3, m4, m5, m6, m7, m8, m9, m10, m11, m12, m13⟩ := h.im
      have hlt : ∀ p i, 0 ≤ p → p < 6 → p ≠ pp → 12 * p ≤ i → i < 12 * p + mt 2 p → i ≠ k := fun p i p1 p2 p3 i1 i2 => by
        have := m3 p p1 p2
        omega
      have hM : IM v := by
        unfold IM IMs bdM mbl
        rw [k4, k12 0 (by omega), k12 5 (by omega), k12 6 (by omega), k12 7 (by omega), k12 8 (by omega), k12 9 (by omega), k12 10 (by omega), k12 11 (by omega), k12 12 (by omega), k12 13 (by omega), k12 14 (by omega), k12 15 (by omega), k12 16 (by omega)]
        refine ⟨m1, m2, fun i x y => ?_, fun i x y => ?_, fun i x y => ?_, m6, m7, m8, m9, m10, m11, m12, m13⟩
        · by_cases e : i = pp
          · subst e; omega
          · rw [k5 i x y e]; exact m3 i x y
        · by_cases e : i = k
          · subst e; omega
          · rw [(k8 i e).1]; exact m4 i x y
        · by_cases e : i = k
          · rw [e, k3]; exact hS.2.2
          · rw [(k8 i e).2]; exact m5 i x y
      have hST : STP u v := by
        refine ⟨fun p t x y z => ?_, fun p x y => ?_, fun p i x y a b => ?_, fun p i j x y a b c => ?_, fun p x y => ?_⟩
        · rw [u20]
          by_cases e : p = pp
          · subst e
            rw [uf_s, sbt_bt _ (by omega) z, t1 p t x y z]
            constructor
            · rintro (⟨i, i1, i2, i3⟩ | e2)
              · by_cases e3 : i = k
                · refine ⟨k, k1.1, k1.2, ?_⟩
                  rw [k2, ← i3, e3]
                  exact (k9 (by omega)).symm
                · exact ⟨i, i1, by omega, by rw [(k8 i e3).1]; exact i3⟩
              · exact ⟨k, k1.1, k1.2, by rw [k2, e2]⟩
            · rintro ⟨i, i1, i2, i3⟩
              by_cases e3 : i = k
              · right; rw [← i3, e3, k2]
              · left; exact ⟨i, i1, k7 i i1 i2 e3, by rw [← (k8 i e3).1]; exact i3⟩
          · rw [uf_n _ _ e, t1 p t x y z, k5 p x y e]
            constructor
            · rintro ⟨i, i1, i2, i3⟩
              exact ⟨i, i1, i2, by rw [(k8 i (hlt p i x y e i1 i2)).1]; exact i3⟩
            · rintro ⟨i, i1, i2, i3⟩
              exact ⟨i, i1, i2, by rw [← (k8 i (hlt p i x y e i1 i2)).1]; exact i3⟩
        · rw [u20]
          by_cases e : p = pp
          · subst e; rw [uf_s]; exact k11
          · rw [uf_n _ _ e, k5 p x y e]; exact t2 p x y
        · by_cases e : i = k
          · rw [e, k2]; omega
          · rw [(k8 i e).1]
            by_cases e2 : p = pp
            · subst e2; exact t3 p i x y a (k7 i a b e)
            · rw [k5 p x y e2] at b; exact t3 p i x y a b
        · by_cases e2 : p = pp
          · subst e2
            by_cases e : i = k
            · rw [e, k2, (k8 j (by omega)).1]
              exact Ne.symm (k10 j (by omega) (k7 j (by omega) c (by omega)) (by omega))
            · by_cases e3 : j = k
              · rw [e3, k2, (k8 i e).1]
                exact k10 i a (k7 i a (by omega) e) e
              · rw [(k8 i e).1, (k8 j e3).1]
                exact t4 p i j x y a b (k7 j (by omega) c e3)
          · rw [k5 p x y e2] at c
            rw [(k8 i (hlt p i x y e2 a (by omega))).1, (k8 j (hlt p j x y e2 (by omega) c)).1]
            exact t4 p i j x y a b c
        · have e19 : u 19 0 = st 19 0 := by rw [n5]; rfl
          rw [e19] at x
          rw [k5 p (by omega) y (by omega)]
          exact t5 p x y
      have hdv : DST v pp := ⟨by omega, fun i a b => hST.2.2.1 pp i hpp.1 hpp.2 a b, fun i j a b c => hST.2.2.2.1 pp i j hpp.1 hpp.2 a b c⟩
      obtain ⟨⟨b1, b2, b3, b4, b5⟩, ⟨c1, c2, c3, c4, c5, c6, c7⟩, -⟩ := h.b
      refine ⟨⟨IC_step h.ic hpp hS.2.1 hS.2.2 n1 n2 n4 n5, ?_, hM, ?_⟩, ?_, ?_, hST, ?_, ?_⟩
      · rw [n5]; exact IP_fg h.ip rfl rfl rfl rfl rfl rfl
      · exact IS_eq h.is (k12 17 (by omega)) (k12 18 (by omega)) (k12 19 (by omega)) (k12 20 (by omega))
      · unfold EQB
        rw [k12 0 (by omega), k12 5 (by omega), k12 6 (by omega), k12 7 (by omega), k12 8 (by omega), k12 9 (by omega), k12 10 (by omega), k12 11 (by omega), k12 12 (by omega), k12 13 (by omega), k12 14 (by omega), k12 15 (by omega), k12 16 (by omega), n5]
        exact ⟨⟨b1, b2, b3, b4, b5⟩, ⟨c1, c2, c3, c4, c5, c6, c7⟩, d⟩
      · intro p t x y z w
        have e19 : u 19 0 = st 19 0 := by rw [n5]; rfl
        rw [e19] at y
        rw [u0]
        by_cases e : p = pp
        · subst e
          have hq := plM_step (v := v) (mt := mt) (p := p) (tt := tt) (n := n) (ff := ff) (k := k) (t := t) hd hdv k1 k2 k3 (by rw [k4]) (fun i a b => by omega) k7 (fun i _ _ c => k8 i c) k9 (fun i a b c => by
            have hb := (t1 p (mt 3 i) hpp.1 hpp.2 (by omega)).mpr ⟨i, a, b, rfl⟩
            exact n3 _ c.1 c.2 hb) (fun c => by
            rcases n4 with q | q
            · omega
            · obtain ⟨i, i1, i2, i3⟩ := (t1 p (tt + n) hpp.1 hpp.2 (by omega)).mp q
              exact ⟨i, ⟨i1, i2⟩, i3⟩) n1
          rw [hq]
          by_cases q : tt ≤ t ∧ t < tt + n
          · rw [if_pos q, fil_in _ _ (by omega)]
          · rw [if_neg q, fil_out _ _ (by omega)]
            exact h.p p t x y z w
        · rw [fil_out _ _ (by omega), h.p p t x y z w]
          unfold plM
          rw [k4, k5 p x (by omega) e]
          have := m3 p x (by omega)
          refine PLF_cg _ _ _ _ (fun j a b => ?_)
          have := k8 j (hlt p j x (by omega) e a (by omega))
          exact ⟨this.1.symm, this.2.symm⟩
      · intro b x y
        rw [n5] at y ⊢
        exact h.ct b x y
      · intro z; rw [n5] at z; exact no_kn (st := st) z
    rcases hu with ⟨p1, p2⟩ | ⟨p1, p2, p3, p4, p5⟩ | ⟨p1, p2, p3, n, n1, n2, n3, n4, n5⟩
    · exact absurd hS p1
    · rcases hv with ⟨q1, q2⟩ | ⟨q1, k, q2, q3, q4, q5⟩ | ⟨q1, q2, q3, q4, q5⟩ | ⟨q1, q2, q3, q4, q5⟩
      · exact absurd hS q1
      · exact absurd (hbt.mpr ⟨k, q2, q3, q4⟩) p2
      · subst p5; subst q5; exact ⟨by omega, h⟩
      · omega
    · rcases hv with ⟨q1, q2⟩ | ⟨q1, k, q2, q3, q4, q5, q6⟩ | ⟨q1, q2, q3, q4, q5⟩ | ⟨q1, q2, q3, q4, q5⟩
      · exact absurd hS q1
      · have hb := hbt.mpr ⟨k, q2, q3, q4⟩
        have e2 : v 2 = mt 2 := by rw [q6]; rfl
        have e3 : v 3 = mt 3 := by rw [q6]; rfl
        have e4 : v 4 = uf (mt 4) k ff := by rw [q6]; rfl
        refine ⟨by rw [p3, hls.1 hb]; omega, key k n ⟨q2, by rw [e2]; exact q3⟩ (by rw [e3]; exact q4) (by rw [e4, uf_s]) (by rw [q6]; rfl) (fun p _ _ _ => by rw [e2]) (by rw [e2]; omega) (fun i _ b _ => by rw [e2] at b; exact b) (fun i c => by rw [e3, e4, uf_n _ _ c]; exact ⟨rfl, rfl⟩) (fun _ => q4) (fun i a b c => ?_) (by rw [hls.1 hb, e2]; exact hlj) (fun m hm => by rw [q6, up_k _ _ _ (by omega)]) n1 n2 n3 n4 n5⟩
        rw [← q4]
        rcases Int.lt_trichotomy i k with z | z | z
        · exact hd.2.2 i k a z q3
        · exact absurd z c
        · exact Ne.symm (hd.2.2 k i q2 z b)
      · have hnb : ¬ bt (st 20 pp) tt := fun z => by
          obtain ⟨k, z1, z2, z3⟩ := hbt.mp z
          exact q2 k z1 z2 z3
        rcases p2 with z | z
        · exact absurd z hnb
        · omega
      · have hnb : ¬ bt (st 20 pp) tt := fun z => by
          obtain ⟨k, z1, z2, z3⟩ := hbt.mp z
          exact q2 k z1 z2 z3
        have e2 : v 2 = uf (mt 2) pp (mt 2 pp + 1) := by rw [q5]; rfl
        have e3 : v 3 = uf (mt 3) (12 * pp + mt 2 pp) tt := by rw [q5]; rfl
        have e4 : v 4 = uf (mt 4) (12 * pp + mt 2 pp) ff := by rw [q5]; rfl
        have e2p : v 2 pp = mt 2 pp + 1 := by rw [e2, uf_s]
        exact ⟨by rw [p3, hls.2 hnb]; omega, key (12 * pp + mt 2 pp) n ⟨by omega, by omega⟩ (by rw [e3, uf_s]) (by rw [e4, uf_s]) (by rw [q5]; rfl) (fun p _ _ c => by rw [e2, uf_n _ _ c]) (by omega) (fun i _ b c => by omega) (fun i c => by rw [e3, e4, uf_n _ _ c, uf_n _ _ c]; exact ⟨rfl, rfl⟩) (fun c => by omega) (fun i a b c => q2 i a b) (by rw [hls.2 hnb, e2p]; omega) (fun m hm => by rw [q5, up_k _ _ _ (by omega), up_k _ _ _ (by omega), up_k _ _ _ (by omega)]) n1 n2 n3 n4 n5⟩
  · rcases hu with ⟨p1, p2, p3⟩ | ⟨p1, p2⟩ | ⟨p1, p2⟩
    · rcases hv with ⟨q1, q2, q3⟩ | ⟨q1, q2⟩ | ⟨q1, q2⟩ | ⟨q1, q2⟩
      · subst p3; subst q3; exact ⟨by omega, h⟩
      · exact absurd q1 hS
      · exact absurd q1 hS
      · exact absurd q1 hS
    · exact absurd p1 hS
    · exact absurd p1 hS
end K5
