/-! class and reference side by side -/
theorem HID_cg {P P' : Int → Int → Int} {np nw : Int} {wf wt : Int → Int} {p t f : Int} (hp : 0 ≤ p ∧ p < np) (h : ∀ q, 0 ≤ q → q < np → P q t = P' q t) : HID P np nw wf wt p t f ↔ HID P' np nw wf wt p t f := by
  unfold HID
  rw [h p hp.1 hp.2]
  refine or_congr Iff.rfl (or_congr Iff.rfl ⟨fun ⟨q, a, b, d⟩ => ⟨q, a, b, ?_⟩, fun ⟨q, a, b, d⟩ => ⟨q, a, b, ?_⟩⟩)
  · rw [← h q a b]; exact d
  · rw [h q a b]; exact d
theorem FL_cg {P P' : Int → Int → Int} {np nw : Int} {wf wt : Int → Int} {kd mn mk sz fs f t : Int} (hm : 0 ≤ mn ∧ mn < np) (h : ∀ q, 0 ≤ q → q < np → P q t = P' q t) (h2 : fs < t → ∀ q, 0 ≤ q → q < np → P q (t - 1) = P' q (t - 1)) : FL P np nw wf wt kd mn mk sz fs f t = FL P' np nw wf wt kd mn mk sz fs f t := by
  have e1 : fP (fun p => bt mk p ∧ HID P np nw wf wt p t f) np.toNat 0 = fP (fun p => bt mk p ∧ HID P' np nw wf wt p t f) np.toNat 0 := fP_cg _ _ (fun j a b => and_congr Iff.rfl (HID_cg ⟨a, by omega⟩ h))
  have e2 : fP (fun p => bt mk p ∧ ¬ cone f (P mn t) (P p t)) np.toNat 0 = fP (fun p => bt mk p ∧ ¬ cone f (P' mn t) (P' p t)) np.toNat 0 := fP_cg _ _ (fun j a b => by rw [h mn hm.1 hm.2, h j a (by omega)])
  have e3 : (kd = 2 ∧ fs < t ∧ CHG P np mn mk f t) ↔ (kd = 2 ∧ fs < t ∧ CHG P' np mn mk f t) := by
    refine and_congr Iff.rfl ⟨fun ⟨a, p, b, d, e, g⟩ => ⟨a, p, b, d, e, ?_⟩, fun ⟨a, p, b, d, e, g⟩ => ⟨a, p, b, d, e, ?_⟩⟩
    · rw [← h2 a mn hm.1 hm.2, ← h2 a p b d, ← h mn hm.1 hm.2, ← h p b d]; exact g
    · rw [h2 a mn hm.1 hm.2, h2 a p b d, h mn hm.1 hm.2, h p b d]; exact g
  unfold FL
  rw [e1, e2, h mn hm.1 hm.2, b2_iff e3]
/-- the sides are told of the same line -/
def CUT (st : SS) (b : Int) : Prop := st 11 b = 1 ∧ SLT st b = spk (st 12 b) (PTN (st 12 b) (st 13 b))
/-- the bits of a person's steps, and the reference's steps -/
def STP (st mt : SS) : Prop := (∀ p t, 0 ≤ p → p < 6 → 0 ≤ t → (bt (st 20 p) t ↔ ∃ k, 12 * p ≤ k ∧ k < 12 * p + mt 2 p ∧ mt 3 k = t)) ∧ (∀ p, 0 ≤ p → p < 6 → ljbc (st 20 p) = mt 2 p) ∧ (∀ p k, 0 ≤ p → p < 6 → 12 * p ≤ k → k < 12 * p + mt 2 p → 1 ≤ mt 3 k) ∧ (∀ p k j, 0 ≤ p → p < 6 → 12 * p ≤ k → k < j → j < 12 * p + mt 2 p → mt 3 k ≠ mt 3 j) ∧ (∀ p, st 19 0 ≤ p → p < 6 → mt 2 p = 0)
def EQB (st mt : SS) : Prop := (st 1 = mt 5 ∧ st 2 = mt 6 ∧ st 3 = mt 7 ∧ st 4 = mt 8 ∧ st 5 = mt 16) ∧ (st 11 = mt 9 ∧ st 12 = mt 10 ∧ st 13 = mt 11 ∧ st 14 = mt 12 ∧ st 15 = mt 13 ∧ st 16 = mt 14 ∧ st 17 = mt 15) ∧ st 19 = mt 0
def EQP (st mt : SS) : Prop := ∀ p t, 0 ≤ p → p < st 19 0 → 0 ≤ t → t < 60 → st 0 (p * 60 + t) = plM mt p t
def REL (st mt : SS) : Prop := (IC st ∧ IP st ∧ IM mt ∧ IS mt) ∧ EQB st mt ∧ EQP st mt ∧ STP st mt ∧ (∀ b, 0 ≤ b → b < st 19 3 → st 18 b = b2 (CUT st b)) ∧ (st 21 2 = 1 → RFD st st)
section RL
variable {st mt : SS}
theorem REL.ic (h : REL st mt) : IC st := h.1.1
theorem REL.ip (h : REL st mt) : IP st := h.1.2.1
theorem REL.im (h : REL st mt) : IM mt := h.1.2.2.1
theorem REL.is (h : REL st mt) : IS mt := h.1.2.2.2
theorem REL.b (h : REL st mt) : EQB st mt := h.2.1
theorem REL.p (h : REL st mt) : EQP st mt := h.2.2.1
theorem REL.sp (h : REL st mt) : STP st mt := h.2.2.2.1
theorem REL.ct (h : REL st mt) : ∀ b, 0 ≤ b → b < st 19 3 → st 18 b = b2 (CUT st b) := h.2.2.2.2.1
theorem REL.kn (h : REL st mt) : st 21 2 = 1 → RFD st st := h.2.2.2.2.2
theorem rl_P (h : REL st mt) {t : Int} (ht : 0 ≤ t ∧ t < 60) : ∀ q, 0 ≤ q → q < st 19 0 → (fun q t => st 0 (q * 60 + t)) q t = plM mt q t := fun q a b => h.p q t a b ht.1 ht.2
theorem rl_why (h : REL st mt) {b f : Int} (hb : 0 ≤ b ∧ b < st 19 3) : WHYc st b f = WHYm mt b f := by
  have hs := h.ic.s
  have hR := h.ic.bd b (by omega) (by omega)
  have hL := h.ic.bl b hb.1 hb.2
  have hL2 := hL.2.1
  obtain ⟨⟨b1, b2', b3, b4, b5⟩, ⟨c1, c2, c3, c4, c5, c6, c7⟩, d⟩ := h.b
  unfold WHYc WHYm
  rw [← c5, ← c6]
  refine WHY_cg _ _ (fun j p q => ?_)
  show FL _ _ _ _ _ _ _ _ _ _ _ _ = FL _ _ _ _ _ _ _ _ _ _ _ _
  rw [← d, ← b1, ← b2', ← c1, ← c2, ← c3, ← c4, ← c5]
  exact FL_cg ⟨by omega, hL.1⟩ (rl_P h (by omega)) (fun z => rl_P h (by omega))
theorem ptn_lt {np mn mk : Int} (h : 0 ≤ mn ∧ mn < np) (hm : ∀ p, 0 ≤ p → bt mk p → p < np) : 0 ≤ PTN mn mk ∧ PTN mn mk < np := by
  unfold PTN
  rcases fP_spec (fun q => q ≠ mn ∧ bt mk q) 6 0 with q | q
  · rw [if_pos q.1]; exact h
  · rw [if_neg (by omega)]
    exact ⟨q.1, hm _ q.1 q.2.2.1.2⟩
theorem ptn_ne {mn mk : Int} (h : ∃ o, 0 ≤ o ∧ o < 6 ∧ o ≠ mn ∧ bt mk o) : PTN mn mk ≠ mn := by
  obtain ⟨o, a, b, c, d⟩ := h
  unfold PTN
  rcases fP_spec (fun q => q ≠ mn ∧ bt mk q) 6 0 with q | q
  · exact absurd ⟨c, d⟩ (q.2 o a (by omega))
  · rw [if_neg (by omega)]
    exact q.2.2.1.1
theorem cross_as (a b f : Int) : crossZ b a f = -(crossZ a b f) := by
  unfold crossZ
  generalize f / 100 = x0
  generalize f % 100 = y0
  generalize a / 100 = x1
  generalize a % 100 = y1
  generalize b / 100 = x2
  generalize b % 100 = y2
  simp only [Int.sub_mul, Int.mul_sub, Int.mul_comm]
  omega
theorem sg_neg (x : Int) : sg (-x) = -(sg x) := by
  unfold sg
  rcases Int.lt_trichotomy x 0 with h | h | h
  · rw [if_pos (by omega), if_neg (by omega), if_pos h]; omega
  · subst h; simp
  · rw [if_neg (by omega), if_pos (by omega), if_pos h]
/-- the side told of the lesser speaker, as the reference tells it -/
theorem rl_sdl (h : REL st mt) {b c : Int} (hb : 0 ≤ b ∧ b < st 19 3) : SDL st b (st 3 c) = SDm mt c b (LOm mt b) (HIm mt b) := by
  have hs := h.ic.s
  have hR := h.ic.bd b (by omega) (by omega)
  have hL := h.ic.bl b hb.1 hb.2
  have hp := ptn_lt ⟨hR.2.1.1, hL.1⟩ hL.2.2.2.1
  obtain ⟨⟨b1, b2', b3, b4, b5⟩, ⟨c1, c2, c3, c4, c5, c6, c7⟩, d⟩ := h.b
  have e1 : st 0 (st 12 b * 60 + st 15 b) = plM mt (st 12 b) (st 15 b) := h.p _ _ (by omega) hL.1 (by omega) (by omega)
  have e2 : st 0 (PTN (st 12 b) (st 13 b) * 60 + st 15 b) = plM mt (PTN (st 12 b) (st 13 b)) (st 15 b) := h.p _ _ hp.1 hp.2 (by omega) (by omega)
  show (if st 12 b < PTN (st 12 b) (st 13 b) then sg (crossZ (st 0 (st 12 b * 60 + st 15 b)) (st 0 (PTN (st 12 b) (st 13 b) * 60 + st 15 b)) (st 3 c)) else -(sg (crossZ (st 0 (st 12 b * 60 + st 15 b)) (st 0 (PTN (st 12 b) (st 13 b) * 60 + st 15 b)) (st 3 c)))) = sg (crossZ (plM mt (LOW (mt 10 b) (PTN (mt 10 b) (mt 11 b))) (mt 13 b)) (plM mt (mt 10 b + PTN (mt 10 b) (mt 11 b) - LOW (mt 10 b) (PTN (mt 10 b) (mt 11 b))) (mt 13 b)) (mt 7 c))
  rw [e1, e2, ← c2, ← c3, ← c5, ← b3]
  generalize PTN (st 12 b) (st 13 b) = pt
  unfold LOW
  by_cases q : st 12 b < pt
  · rw [if_pos q, if_pos q, show st 12 b + pt - st 12 b = pt by omega]
  · rw [if_neg q, if_neg q, show st 12 b + pt - pt = st 12 b by omega, cross_as (plM mt (st 12 b) (st 15 b)), sg_neg]
theorem rl_sdm (h : REL st mt) {b c : Int} (hb : 0 ≤ b ∧ b < st 19 3) : SDM st b (st 3 c) = SDm mt c b (mt 10 b) (PTm mt b) := by
  have hs := h.ic.s
  have hR := h.ic.bd b (by omega) (by omega)
  have hL := h.ic.bl b hb.1 hb.2
  have hp := ptn_lt ⟨hR.2.1.1, hL.1⟩ hL.2.2.2.1
  obtain ⟨⟨b1, b2', b3, b4, b5⟩, ⟨c1, c2, c3, c4, c5, c6, c7⟩, d⟩ := h.b
  have e1 : st 0 (st 12 b * 60 + st 15 b) = plM mt (st 12 b) (st 15 b) := h.p _ _ (by omega) hL.1 (by omega) (by omega)
  have e2 : st 0 (PTN (st 12 b) (st 13 b) * 60 + st 15 b) = plM mt (PTN (st 12 b) (st 13 b)) (st 15 b) := h.p _ _ hp.1 hp.2 (by omega) (by omega)
  show sg (crossZ (st 0 (st 12 b * 60 + st 15 b)) (st 0 (PTN (st 12 b) (st 13 b) * 60 + st 15 b)) (st 3 c)) = sg (crossZ (plM mt (mt 10 b) (mt 13 b)) (plM mt (PTN (mt 10 b) (mt 11 b)) (mt 13 b)) (mt 7 c))
  rw [e1, e2, ← c2, ← c3, ← c5, ← b3]
theorem rl_len (h : REL st mt) (b : Int) : LENc st b = LENm mt b := by
  obtain ⟨⟨b1, b2', b3, b4, b5⟩, ⟨c1, c2, c3, c4, c5, c6, c7⟩, d⟩ := h.b
  unfold LENc LENm
  rw [c5, c6, c7, d]
/-! the answers of the calls that only read -/
theorem rl_where (h : REL st mt) (pp tt : Int) : aWhere (fun q t => st 0 (q * 60 + t)) (st 19 0) pp tt = aWhere (plM mt) (mt 0 0) pp tt := by
  unfold aWhere
  rw [← h.b.2.2]
  split
  · rename_i q; exact h.p pp tt q.1.1 q.1.2 q.2.1 q.2.2
  · rfl
theorem rl_hidden (h : REL st mt) (pp tt ff : Int) : aHidden (fun q t => st 0 (q * 60 + t)) (st 19 0) (st 19 1) (st 1) (st 2) pp tt ff = aHidden (plM mt) (mt 0 0) (mt 0 1) (mt 5) (mt 6) pp tt ff := by
  unfold aHidden
  rw [← h.b.2.2, ← h.b.1.1, ← h.b.1.2.1]
  split
  · rename_i q; exact b2_iff (HID_cg q.1.1 (rl_P h q.1.2))
  · rfl
theorem rl_sees (h : REL st mt) (cm mm pp tt : Int) : aSees (fun q t => st 0 (q * 60 + t)) (st 19 0) (st 19 1) (st 19 2) (st 1) (st 2) (st 3) cm mm pp tt = aSees (plM mt) (mt 0 0) (mt 0 1) (mt 0 2) (mt 5) (mt 6) (mt 7) cm mm pp tt := by
  unfold aSees
  rw [← h.b.2.2, ← h.b.1.1, ← h.b.1.2.1, ← h.b.1.2.2.1]
  split
  · rename_i q
    refine b2_iff (and_congr ?_ (not_congr (HID_cg q.2.1 (rl_P h q.2.2))))
    rw [← rl_P h q.2.2 mm q.1.2.1 q.1.2.2, ← rl_P h q.2.2 pp q.2.1.1 q.2.1.2]
  · rfl
theorem rl_size (h : REL st mt) (cm pp tt : Int) : aSize (fun q t => st 0 (q * 60 + t)) (st 19 0) (st 19 2) (st 3) cm pp tt = aSize (plM mt) (mt 0 0) (mt 0 2) (mt 7) cm pp tt := by
  unfold aSize
  rw [← h.b.2.2, ← h.b.1.2.2.1]
  split
  · rename_i q; rw [← rl_P h q.2 pp q.1.2.1 q.1.2.2]
  · rfl
theorem rl_views (h : REL st mt) (pp tt : Int) : aViews (fun q t => st 0 (q * 60 + t)) (st 19 0) (st 19 1) (st 1) (st 2) pp tt = aViews (plM mt) (mt 0 0) (mt 0 1) (mt 5) (mt 6) pp tt := by
  unfold aViews
  rw [← h.b.2.2, ← h.b.1.1, ← h.b.1.2.1]
  split
  · rename_i q
    have e : (fun f => HID (fun q t => st 0 (q * 60 + t)) (st 19 0) (st 19 1) (st 1) (st 2) pp tt f) = (fun f => HID (plM mt) (st 19 0) (st 19 1) (st 1) (st 2) pp tt f) := by
      funext f
      exact propext (HID_cg q.1 (rl_P h q.2))
    rw [e]
  · rfl
theorem rl_gives (h : REL st mt) (cm bb : Int) : aGives (fun c b => WHYc st b (st 3 c)) (st 19 2) (st 19 3) cm bb = aGives (fun c b => WHYm mt b (mt 7 c)) (mt 0 2) (mt 0 3) cm bb := by
  unfold aGives
  rw [← h.b.2.2, ← h.b.1.2.2.1]
  split
  · rename_i q; show b2 (WHYc st bb (st 3 cm) = 0) = b2 (WHYm mt bb (st 3 cm) = 0); rw [rl_why h q.2]
  · rfl
theorem rl_whya (h : REL st mt) (cm bb : Int) : aWhy (fun c b => WHYc st b (st 3 c)) (st 19 2) (st 19 3) cm bb = aWhy (fun c b => WHYm mt b (mt 7 c)) (mt 0 2) (mt 0 3) cm bb := by
  unfold aWhy
  rw [← h.b.2.2, ← h.b.1.2.2.1]
  split
  · rename_i q; exact rl_why h q.2
  · rfl
theorem rl_side (h : REL st mt) (cm bb : Int) : aSide (fun c b => SDM st b (st 3 c)) (st 11) (st 19 2) (st 19 3) cm bb = aSide (fun c b => SDm mt c b (mt 10 b) (PTm mt b)) (mt 9) (mt 0 2) (mt 0 3) cm bb := by
  unfold aSide
  rw [← h.b.2.2, ← h.b.2.1.1]
  split
  · rename_i q; exact rl_sdm h q.1.2
  · rfl
theorem rl_length (h : REL st mt) (bb : Int) : aLen (LENc st) (st 19 3) bb = aLen (LENm mt) (mt 0 3) bb := by
  have e : LENc st = LENm mt := funext (rl_len h)
  rw [e, h.b.2.2]
theorem rl_run (h : REL st mt) : sL (LENc st) (st 19 3).toNat 0 = sL (LENm mt) (mt 0 3).toNat 0 := by
  have e : LENc st = LENm mt := funext (rl_len h)
  rw [e, h.b.2.2]
theorem rl_frame (h : REL st mt) (f : Int) : aFrame (LENc st) (st 19 3) f = aFrame (LENm mt) (mt 0 3) f := by
  have e : LENc st = LENm mt := funext (rl_len h)
  rw [e, h.b.2.2]
theorem rl_count (h : REL st mt) (x : Int) : aCount (st 19 0) (st 19 1) (st 19 2) (st 19 3) (st 19 5) x = aCount (mt 0 0) (mt 0 1) (mt 0 2) (mt 0 3) (mt 0 5) x := by
  rw [h.b.2.2]
end RL
