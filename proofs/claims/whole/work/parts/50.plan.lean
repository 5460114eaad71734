/-! plans alike -/
theorem spk_n : ∀ a : Nat, a < 6 → ∀ b : Nat, b < 6 → ∀ c : Nat, c < 6 → ∀ d : Nat, d < 6 → a = b ∨ c = d ∨ decide (zor (zshl 1 (a : Int)) (zshl 1 (b : Int)) = zor (zshl 1 (c : Int)) (zshl 1 (d : Int))) = decide (LOW (a : Int) (b : Int) = LOW (c : Int) (d : Int) ∧ (a : Int) + b - LOW (a : Int) (b : Int) = (c : Int) + d - LOW (c : Int) (d : Int)) := by decide +kernel
theorem spk_ne0 : ∀ a : Nat, a < 6 → ∀ b : Nat, b < 6 → zor (zshl 1 (a : Int)) (zshl 1 (b : Int)) ≠ 0 := by decide +kernel
theorem spk_iff {a b c d : Int} (ha : 0 ≤ a ∧ a < 6) (hb : 0 ≤ b ∧ b < 6) (hc : 0 ≤ c ∧ c < 6) (hd : 0 ≤ d ∧ d < 6) (h1 : a ≠ b) (h2 : c ≠ d) : spk a b = spk c d ↔ (LOW a b = LOW c d ∧ a + b - LOW a b = c + d - LOW c d) := by
  have h := ((spk_n a.toNat (by omega) b.toNat (by omega) c.toNat (by omega) d.toNat (by omega)).resolve_left (by omega)).resolve_left (by omega)
  rw [Int.toNat_of_nonneg ha.1, Int.toNat_of_nonneg hb.1, Int.toNat_of_nonneg hc.1, Int.toNat_of_nonneg hd.1] at h
  exact decide_eq_decide.mp h
theorem spk_nz {a b : Int} (ha : 0 ≤ a ∧ a < 6) (hb : 0 ≤ b ∧ b < 6) : spk a b ≠ 0 := by
  have h := spk_ne0 a.toNat (by omega) b.toNat (by omega)
  rw [Int.toNat_of_nonneg ha.1, Int.toNat_of_nonneg hb.1] at h
  exact h
/-- what two states of class and reference share, for the plans: base, cuts -/
def RB (st mt : SS) : Prop := (IC st ∧ IM mt) ∧ EQB st mt ∧ EQP st mt ∧ (∀ b, 0 ≤ b → b < st 19 3 → st 18 b = b2 (CUT st b))
theorem REL.rb {st mt : SS} (h : REL st mt) : RB st mt := ⟨⟨h.ic, h.im⟩, h.b, h.p, h.ct⟩
section PA
variable {st mt : SS}
theorem rb_ta (h : RB st mt) (b : Int) : TA mt b = lT (fun j => st 11 j = 1) b.toNat := by
  unfold TA
  rw [← h.2.1.2.1.1]
theorem rb_sdl (h : RB st mt) {b c : Int} (hb : 0 ≤ b ∧ b < st 19 3) : SDL st b (st 3 c) = SDm mt c b (LOm mt b) (HIm mt b) := by
  have hs := h.1.1.s
  have hR := h.1.1.bd b (by omega) (by omega)
  have hL := h.1.1.bl b hb.1 hb.2
  have hp := ptn_lt ⟨hR.2.1.1, hL.1⟩ hL.2.2.2.1
  obtain ⟨⟨b1, b2', b3, b4, b5⟩, ⟨c1, c2, c3, c4, c5, c6, c7⟩, d⟩ := h.2.1
  have e1 : st 0 (st 12 b * 60 + st 15 b) = plM mt (st 12 b) (st 15 b) := h.2.2.1 _ _ (by omega) hL.1 (by omega) (by omega)
  have e2 : st 0 (PTN (st 12 b) (st 13 b) * 60 + st 15 b) = plM mt (PTN (st 12 b) (st 13 b)) (st 15 b) := h.2.2.1 _ _ hp.1 hp.2 (by omega) (by omega)
  show (if st 12 b < PTN (st 12 b) (st 13 b) then sg (crossZ (st 0 (st 12 b * 60 + st 15 b)) (st 0 (PTN (st 12 b) (st 13 b) * 60 + st 15 b)) (st 3 c)) else -(sg (crossZ (st 0 (st 12 b * 60 + st 15 b)) (st 0 (PTN (st 12 b) (st 13 b) * 60 + st 15 b)) (st 3 c)))) = sg (crossZ (plM mt (LOW (mt 10 b) (PTN (mt 10 b) (mt 11 b))) (mt 13 b)) (plM mt (mt 10 b + PTN (mt 10 b) (mt 11 b) - LOW (mt 10 b) (PTN (mt 10 b) (mt 11 b))) (mt 13 b)) (mt 7 c))
  rw [e1, e2, ← c2, ← c3, ← c5, ← b3]
  generalize PTN (st 12 b) (st 13 b) = pt
  unfold LOW
  by_cases q : st 12 b < pt
  · rw [if_pos q, if_pos q, show st 12 b + pt - st 12 b = pt by omega]
  · rw [if_neg q, if_neg q, show st 12 b + pt - pt = st 12 b by omega, cross_as (plM mt (st 12 b) (st 15 b)), sg_neg]
/-- the side of the last two ahead of b, its camera being L (10: none) -/
noncomputable def sdO (st mt : SS) (b L : Int) : Int := if L = 10 ∨ TA mt b = -1 then 0 else SDL st (TA mt b) (st 3 L)
theorem rb_cut (h : RB st mt) {b : Int} (hb : 0 ≤ b ∧ b < st 19 3) (hk : st 11 b = 1) (ht : TA mt b ≠ -1) : CUT st b ↔ (LOm mt (TA mt b) = LOm mt b ∧ HIm mt (TA mt b) = HIm mt b) := by
  have hs := h.1.1.s
  have hta := (TA_b mt b hb.1).resolve_left ht
  obtain ⟨⟨b1, b2', b3, b4, b5⟩, ⟨c1, c2, c3, c4, c5, c6, c7⟩, d⟩ := h.2.1
  have hka : st 11 (TA mt b) = 1 := by rw [c1]; exact hta.2.2
  have hR := h.1.1.bd b (by omega) (by omega)
  have hL := h.1.1.bl b hb.1 hb.2
  have hRa := h.1.1.bd (TA mt b) (by omega) (by omega)
  have hLa := h.1.1.bl (TA mt b) (by omega) (by omega)
  have hp := PTN_b (st 12 b) (st 13 b) hR.2.1
  have hpa := PTN_b (st 12 (TA mt b)) (st 13 (TA mt b)) hRa.2.1
  have n1 := ptn_ne (hL.2.2.2.2 hk)
  have n2 := ptn_ne (hLa.2.2.2.2 hka)
  have e : SLT st b = spk (st 12 (TA mt b)) (PTN (st 12 (TA mt b)) (st 13 (TA mt b))) := by
    unfold SLT
    rw [← rb_ta h b, if_neg ht]
  unfold CUT
  rw [e, spk_iff hRa.2.1 hpa hR.2.1 hp (Ne.symm n2) (Ne.symm n1)]
  unfold HIm LOm PTm
  rw [← c2, ← c3]
  exact ⟨fun z => z.2, fun z => ⟨hk, z⟩⟩
theorem rb_cutn (h : RB st mt) {b : Int} (hb : 0 ≤ b ∧ b < st 19 3) (ht : TA mt b = -1) : ¬ CUT st b := by
  have hs := h.1.1.s
  have hR := h.1.1.bd b (by omega) (by omega)
  have hp := PTN_b (st 12 b) (st 13 b) hR.2.1
  rintro ⟨-, q⟩
  unfold SLT at q
  rw [← rb_ta h b, if_pos ht] at q
  exact spk_nz hR.2.1 hp q.symm
/-- a cut crosses for the class just if it does for the reference -/
theorem rb_cross (h : RB st mt) {b L c : Int} (hb : 0 ≤ b ∧ b < st 19 3) (hL : 0 ≤ L ∧ L ≤ 10) (x : Int) (hx : st 11 b = 1 → x = SDL st b (st 3 c)) : (st 18 b = 1 ∧ sdO st mt b L * x < 0) ↔ CXx mt b L c := by
  have hs := h.1.1.s
  rw [h.2.2.2 b hb.1 hb.2]
  have hk1 : mt 9 b = st 11 b := by rw [h.2.1.2.1.1]
  unfold CXx
  rw [hk1]
  by_cases hk : st 11 b = 1
  · by_cases ht : TA mt b = -1
    · constructor
      · rintro ⟨q, -⟩; exact absurd (b2_1 q) (rb_cutn h hb ht)
      · rintro ⟨-, -, q, -⟩; exact absurd ht q
    · by_cases h10 : L = 10
      · constructor
        · rintro ⟨-, q⟩
          unfold sdO at q
          rw [if_pos (Or.inl h10), Int.zero_mul] at q
          omega
        · rintro ⟨-, q, -⟩; omega
      · have hta := (TA_b mt b hb.1).resolve_left ht
        have e : sdO st mt b L = SDm mt L (TA mt b) (LOm mt (TA mt b)) (HIm mt (TA mt b)) := by
          unfold sdO
          rw [if_neg (fun z => z.elim h10 ht), rb_sdl h ⟨hta.1, by omega⟩]
        rw [hx hk, rb_sdl h hb, e]
        unfold CRSm
        constructor
        · rintro ⟨q, r⟩
          have z := (rb_cut h hb hk ht).mp (b2_1 q)
          refine ⟨hk, by omega, ht, z.1, z.2, ?_⟩
          have z1 := z.1
          have z2 := z.2
          generalize LOm mt (TA mt b) = w1 at *
          generalize HIm mt (TA mt b) = w2 at *
          rw [z1, z2] at r ⊢
          exact r
        · rintro ⟨-, -, -, z1, z2, r⟩
          refine ⟨b2_t ((rb_cut h hb hk ht).mpr ⟨z1, z2⟩), ?_⟩
          generalize LOm mt (TA mt b) = w1 at *
          generalize HIm mt (TA mt b) = w2 at *
          rw [z1, z2] at r ⊢
          exact r
  · constructor
    · rintro ⟨q, -⟩; exact absurd (b2_1 q).1 hk
    · rintro ⟨q, -⟩; exact absurd q hk
theorem ta_next {b : Int} (hb : 0 ≤ b) : TA mt (b + 1) = if mt 9 b = 1 then b else TA mt b := by
  unfold TA
  rw [show (b + 1).toNat = b.toNat + 1 by omega]
  by_cases q : mt 9 b = 1
  · rw [if_pos q, lT_t (by rw [Int.toNat_of_nonneg hb]; exact q), Int.toNat_of_nonneg hb]
  · rw [if_neg q, lT_f (by rw [Int.toNat_of_nonneg hb]; exact q)]
theorem rb_next (h : RB st mt) {b L c : Int} (hb : 0 ≤ b ∧ b < st 19 3) (hc : 0 ≤ c ∧ c < 10) (x : Int) (hx : st 11 b = 1 → x = SDL st b (st 3 c)) : (if st 11 b = 1 then x else sdO st mt b L) = sdO st mt (b + 1) (nla mt b L c) := by
  have hk1 : mt 9 b = st 11 b := by rw [h.2.1.2.1.1]
  have ht := ta_next (mt := mt) hb.1
  unfold nla
  rw [hk1] at ht ⊢
  by_cases hk : st 11 b = 1
  · rw [if_pos hk] at ht
    rw [if_pos hk, if_pos hk, hx hk]
    unfold sdO
    rw [ht, if_neg (fun z => by omega)]
  · rw [if_neg hk] at ht
    rw [if_neg hk, if_neg hk]
    unfold sdO
    rw [ht]
/-- tables alike -/
def TBE (u mu : SS) : Prop := ∀ b c, 0 ≤ b → b < u 19 3 → 0 ≤ c → c < u 19 2 → (bt (u 6 b) c ↔ mu 17 (8 * c + b) = 1) ∧ (u 11 b = 1 → u 7 (b * 10 + c) = SDL u b (u 3 c))
theorem cgo_iff {u mu : SS} (h : RB u mu) (ht : TBE u mu) (se : Int) : ∀ (n : Nat) (L : Int), (n : Int) ≤ u 19 3 → 0 ≤ L → L ≤ 10 → (CGO u se n (sdO u mu (u 19 3 - n) L) ↔ CGM mu se n L)
  | 0, _, _, _, _ => Iff.rfl
  | n + 1, L, hn, h0, h1 => by
    have hs := h.1.1.s
    have d : u 19 = mu 0 := h.2.1.2.2
    have hb : 0 ≤ u 19 3 - (n + 1 : Nat) ∧ u 19 3 - (n + 1 : Nat) < u 19 3 := by omega
    show (∃ c, 0 ≤ c ∧ c < u 19 2 ∧ (bt se c ∧ bt (u 6 (u 19 3 - (n + 1 : Nat))) c) ∧ ¬ (u 18 (u 19 3 - (n + 1 : Nat)) = 1 ∧ sdO u mu (u 19 3 - (n + 1 : Nat)) L * u 7 ((u 19 3 - (n + 1 : Nat)) * 10 + c) < 0) ∧ CGO u se n (sAf u (u 19 3 - (n + 1 : Nat)) (sdO u mu (u 19 3 - (n + 1 : Nat)) L) c)) ↔ (∃ c, 0 ≤ c ∧ c < mu 0 2 ∧ ((bt se c ∧ mu 17 (8 * c + (mu 0 3 - (n + 1 : Nat))) = 1) ∧ ¬ CXx mu (mu 0 3 - (n + 1 : Nat)) L c) ∧ CGM mu se n (nla mu (mu 0 3 - (n + 1 : Nat)) L c))
    rw [← d]
    refine exists_congr fun c => ?_
    have key : 0 ≤ c → c < u 19 2 → (((bt se c ∧ bt (u 6 (u 19 3 - (n + 1 : Nat))) c) ∧ ¬ (u 18 (u 19 3 - (n + 1 : Nat)) = 1 ∧ sdO u mu (u 19 3 - (n + 1 : Nat)) L * u 7 ((u 19 3 - (n + 1 : Nat)) * 10 + c) < 0) ∧ CGO u se n (sAf u (u 19 3 - (n + 1 : Nat)) (sdO u mu (u 19 3 - (n + 1 : Nat)) L) c)) ↔ ((bt se c ∧ mu 17 (8 * c + (u 19 3 - (n + 1 : Nat))) = 1) ∧ ¬ CXx mu (u 19 3 - (n + 1 : Nat)) L c) ∧ CGM mu se n (nla mu (u 19 3 - (n + 1 : Nat)) L c)) := by
      intro c0 c1
      have tb := ht _ c hb.1 hb.2 c0 c1
      rw [tb.1, rb_cross h hb ⟨h0, h1⟩ _ tb.2]
      have e : sAf u (u 19 3 - (n + 1 : Nat)) (sdO u mu (u 19 3 - (n + 1 : Nat)) L) c = sdO u mu (u 19 3 - (n + 1 : Nat) + 1) (nla mu (u 19 3 - (n + 1 : Nat)) L c) := rb_next h hb (by omega) _ tb.2
      have hl : 0 ≤ nla mu (u 19 3 - (n + 1 : Nat)) L c ∧ nla mu (u 19 3 - (n + 1 : Nat)) L c ≤ 10 := by unfold nla; split <;> omega
      have ih := cgo_iff h ht se n (nla mu (u 19 3 - (n + 1 : Nat)) L c) (by omega) hl.1 hl.2
      rw [e, show u 19 3 - (n + 1 : Nat) + 1 = u 19 3 - (n : Int) by omega, ih]
      exact ⟨fun z => ⟨⟨z.1, z.2.1⟩, z.2.2⟩, fun z => ⟨z.1.1, z.1.2, z.2⟩⟩
    constructor
    · rintro ⟨c0, c1, z⟩; exact ⟨c0, c1, (key c0 c1).mp z⟩
    · rintro ⟨c0, c1, z⟩; exact ⟨c0, c1, (key c0 c1).mpr z⟩
theorem sd0 (u mu : SS) : sdO u mu 0 10 = 0 := if_pos (Or.inl rfl)
theorem oks_iff {u mu : SS} (h : RB u mu) (ht : TBE u mu) (s : Int) : OKS u s ↔ OKM mu s := by
  have hs := h.1.1.s
  have k := cgo_iff h ht s (u 19 3).toNat 10 (by omega) (by omega) (by omega)
  rw [show u 19 3 - ((u 19 3).toNat : Int) = 0 by omega, sd0] at k
  unfold OKS OKM
  rw [← h.2.1.2.2]
  exact k
theorem found_one {mu : SS} {r s r' s' : Int} (h1 : FOUNDm mu r s) (h2 : FOUNDm mu r' s') : r = r' ∧ s = s' := by
  obtain ⟨a1, a2, a3, a4, a5⟩ := h1
  obtain ⟨b1, b2', b3, b4, b5⟩ := h2
  have e : r = r' := by
    rcases Int.lt_trichotomy r r' with q | q | q
    · exact absurd a3 (b4 s a1.1 a1.2 (by omega))
    · exact q
    · exact absurd b3 (a4 s' b1.1 b1.2 (by omega))
  refine ⟨e, ?_⟩
  rcases Int.lt_trichotomy s s' with q | q | q
  · exact absurd a3 (b5 s a1.1 q (by omega))
  · exact q
  · exact absurd b3 (a5 s' b1.1 q (by omega))
theorem found_cm {u mu : SS} (h : RB u mu) (ht : TBE u mu) {r s : Int} (hf : FOUND u r s) : FOUNDm mu r s := by
  have e : NSm mu = NS u := by unfold NSm NS; rw [h.2.1.2.2]
  unfold FOUNDm
  rw [e]
  exact ⟨hf.1, hf.2.1, (oks_iff h ht s).mp hf.2.2.1, fun s' a b d z => hf.2.2.2.1 s' a b d ((oks_iff h ht s').mpr z), fun s' a b d z => hf.2.2.2.2 s' a b d ((oks_iff h ht s').mpr z)⟩
end PA
/-- both have looked: class at u (its tables being right), reference at mu -/
def PB (u mu : SS) (r : Int) : Prop := RB u mu ∧ TBE u mu ∧ RFD u u ∧ FND mu r mu
theorem pb_few {u mu : SS} {r : Int} (h : PB u mu r) : u 21 0 = r ∧ (0 ≤ r → u 21 1 = mu 20 0) := by
  obtain ⟨hb, ht, hu, hm⟩ := h
  have e : NSm mu = NS u := by unfold NSm NS; rw [hb.2.1.2.2]
  rcases hu.2.2.2.2 with q | q <;> rcases hm.2.2.2 with w | w
  · exact ⟨by omega, fun z => by omega⟩
  · exfalso
    have f := w.2.1
    have f2 := f.1.2
    rw [e] at f2
    exact q.2 _ f.1.1 f2 ((oks_iff hb ht _).mpr f.2.2.1)
  · exfalso
    have f := q.2.1
    exact w.2 _ f.1.1 (by rw [e]; exact f.1.2) ((oks_iff hb ht _).mp f.2.2.1)
  · have f := found_one (found_cm hb ht q.2.1) w.2.1
    exact ⟨f.1, fun _ => f.2⟩
/-- the rows are alike -/
theorem pb_row {u mu : SS} {r : Int} (h : PB u mu r) (hr : 0 ≤ r) : ∀ n : Nat, (n : Int) ≤ u 19 3 → (LSv u n = sdO u mu n (LM mu (mu 20 0) n) ∧ (0 ≤ LM mu (mu 20 0) n ∧ LM mu (mu 20 0) n ≤ 10) ∧ CGM mu (mu 20 0) (u 19 3 - n).toNat (LM mu (mu 20 0) n)) ∧ ((n : Int) < u 19 3 → RW u n (LSv u n) = RM mu (mu 20 0) n (LM mu (mu 20 0) n)) := by
  have hf := pb_few h
  obtain ⟨hb, ht, hu, hm⟩ := h
  have hs := hb.1.1.s
  have d : u 19 = mu 0 := hb.2.1.2.2
  have hIPu := hu.2.1
  rcases hu.2.2.2.2 with q | ⟨q1, q2, q3, q4, q5⟩
  · omega
  rcases hm.2.2.2 with w | ⟨w1, w2, w3⟩
  · omega
  have es : u 21 1 = mu 20 0 := hf.2 hr
  -- one board
  have one : ∀ n : Nat, (n : Int) < u 19 3 → LSv u n = sdO u mu n (LM mu (mu 20 0) n) → (0 ≤ LM mu (mu 20 0) n ∧ LM mu (mu 20 0) n ≤ 10) → CGM mu (mu 20 0) (u 19 3 - n).toNat (LM mu (mu 20 0) n) → RW u n (LSv u n) = RM mu (mu 20 0) n (LM mu (mu 20 0) n) := by
    intro n hn e1 e2 e3
    have hbn : 0 ≤ (n : Int) ∧ (n : Int) < u 19 3 := ⟨by omega, hn⟩
    have hrm := RM_ok (st := mu) (se := mu 20 0) hbn.1 (by rw [← d]; exact hn) (by rw [← d]; exact e3)
    have hls : -1 ≤ LSv u n ∧ LSv u n ≤ 1 := LSv_b hIPu (by omega) n (by omega)
    have key : ∀ c, 0 ≤ c → c < u 19 2 → (((bt (u 21 1) c ∧ bt (u 6 n) c) ∧ FIT u n (LSv u n) c) ↔ GOx mu (mu 20 0) n (LM mu (mu 20 0) n) c) := by
      intro c c0 c1
      have tb := ht n c hbn.1 hn c0 c1
      have sb9 := sAf_b hIPu (b := n) (la := LSv u n) (c := c) (by omega) hls (by omega)
      have e4 := q3 (n + 1) (sAf u n (LSv u n) c) (by omega) (by omega) sb9.1 sb9.2
      rw [show ((n : Int) + 1) * 3 + sAf u n (LSv u n) c + 1 = ((n : Int) + 1) * 3 + 1 + sAf u n (LSv u n) c by omega] at e4
      have e5 : sAf u n (LSv u n) c = sdO u mu (n + 1) (nla mu n (LM mu (mu 20 0) n) c) := by
        rw [e1]
        exact rb_next hb hbn (by omega) _ tb.2
      have hl : 0 ≤ nla mu n (LM mu (mu 20 0) n) c ∧ nla mu n (LM mu (mu 20 0) n) c ≤ 10 := by unfold nla; split <;> omega
      have ih := cgo_iff hb ht (mu 20 0) (u 19 3 - (n + 1)).toNat (nla mu n (LM mu (mu 20 0) n) c) (by omega) hl.1 hl.2
      rw [show u 19 3 - ((u 19 3 - ((n : Int) + 1)).toNat : Int) = (n : Int) + 1 by omega] at ih
      unfold FIT GOx
      rw [e4, es, tb.1, ← d]
      have e6 := rb_cross hb hbn e2 (u 7 (n * 10 + c)) tb.2
      rw [← e1] at e6
      rw [e6]
      have e8 : b2 (CGO u (mu 20 0) (u 19 3 - ((n : Int) + 1)).toNat (sAf u n (LSv u n) c)) = 1 ↔ CGM mu (mu 20 0) (u 19 3 - ((n : Int) + 1)).toNat (nla mu n (LM mu (mu 20 0) n) c) := by
        rw [← ih, ← e5]
        exact ⟨b2_1, b2_t⟩
      exact ⟨fun z => ⟨⟨z.1, z.2.1⟩, e8.mp z.2.2⟩, fun z => ⟨z.1.1, z.1.2, e8.mpr z.2⟩⟩
    have e7 : fP (fun c => (bt (u 21 1) c ∧ bt (u 6 n) c) ∧ FIT u n (LSv u n) c) (u 19 2).toNat 0 = RM mu (mu 20 0) n (LM mu (mu 20 0) n) := by
      unfold RM
      rw [← d]
      exact fP_cg _ _ (fun j a b => key j a (by omega))
    unfold RW
    rw [e7]
    split
    · rfl
    · omega
  intro n
  induction n with
  | zero =>
    intro _
    have c0 : CGM mu (mu 20 0) (u 19 3 - (0 : Nat)).toNat 10 := by
      have := w2.2.2.1
      unfold OKM at this
      rw [d]
      simpa using this
    have l0 : LSv u 0 = sdO u mu ((0 : Nat) : Int) (LM mu (mu 20 0) 0) := by rw [LSv, LM]; exact (sd0 u mu).symm
    exact ⟨⟨l0, by rw [LM]; omega, c0⟩, fun hn => one 0 hn l0 (by rw [LM]; omega) c0⟩
  | succ n ih =>
    intro hn
    obtain ⟨⟨e1, e2, e3⟩, e4⟩ := ih (by omega)
    have e5 := e4 (by omega)
    have hbn : 0 ≤ (n : Int) ∧ (n : Int) < u 19 3 := ⟨by omega, by omega⟩
    have hrm := RM_ok (st := mu) (se := mu 20 0) hbn.1 (by rw [← d]; exact hbn.2) (by rw [← d]; exact e3)
    have tb := ht n (RM mu (mu 20 0) n (LM mu (mu 20 0) n)) hbn.1 hbn.2 hrm.1.1 (by rw [d]; exact hrm.1.2)
    have hc10 : 0 ≤ RM mu (mu 20 0) n (LM mu (mu 20 0) n) ∧ RM mu (mu 20 0) n (LM mu (mu 20 0) n) < 10 := by
      have := hrm.1
      rw [← d] at this
      omega
    have l1 : LSv u (n + 1) = sdO u mu ((n + 1 : Nat) : Int) (LM mu (mu 20 0) (n + 1)) := by
      rw [LSv, LM, e5]
      have := rb_next hb (L := LM mu (mu 20 0) n) hbn hc10 _ tb.2
      rw [← e1] at this
      exact this
    have l2 : 0 ≤ LM mu (mu 20 0) (n + 1) ∧ LM mu (mu 20 0) (n + 1) ≤ 10 := by
      rw [LM]
      unfold nla
      split <;> omega
    have l3 : CGM mu (mu 20 0) (u 19 3 - (n + 1 : Nat)).toNat (LM mu (mu 20 0) (n + 1)) := by
      have := hrm.2.1.2
      rw [← d] at this
      rw [LM]
      exact this
    exact ⟨⟨l1, l2, l3⟩, fun hq => one (n + 1) hq l1 l2 l3⟩
theorem pb_plan {u mu : SS} {r : Int} (h : PB u mu r) (hr : 0 ≤ r) {b : Int} (hb : 0 ≤ b ∧ b < u 19 3) : u 9 b = mu 19 b := by
  have k := pb_row h hr b.toNat (by omega)
  obtain ⟨hb', ht, hu, hm⟩ := h
  have d : u 19 = mu 0 := hb'.2.1.2.2
  have hf := pb_few ⟨hb', ht, hu, hm⟩
  rcases hu.2.2.2.2 with q | ⟨q1, q2, q3, q4, q5⟩
  · omega
  rcases hm.2.2.2 with w | ⟨w1, w2, w3⟩
  · omega
  rw [q4 b hb.1 hb.2, w3 b hb.1 (by rw [← d]; exact hb.2)]
  have e := k.2 (by omega)
  rw [Int.toNat_of_nonneg hb.1] at e
  exact e
theorem pb_order {u mu : SS} {r : Int} (h : PB u mu r) {i : Int} (hi : 0 ≤ i ∧ i < r) : u 10 i = nxg (mu 8) (mu 0 2) (SQg (mu 8) (mu 0 2) (mu 20 0) i.toNat).1 (SQg (mu 8) (mu 0 2) (mu 20 0) i.toNat).2 := by
  have hf := pb_few h
  obtain ⟨hb, ht, hu, hm⟩ := h
  have d : u 19 = mu 0 := hb.2.1.2.2
  have d4 : u 4 = mu 8 := hb.2.1.1.2.2.2.1
  rcases hu.2.2.2.2 with q | ⟨q1, q2, q3, q4, q5⟩
  · omega
  rw [q5 i hi.1 (by omega), nx_g, SQ_g, d4, d, hf.2 (by omega)]
