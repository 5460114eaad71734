/-! what a camera makes of a board: shared by the class and the reference -/
theorem fP_is {P : Int → Prop} : ∀ {n : Nat} {i q : Int}, i ≤ q → q < i + n → P q → (∀ j, i ≤ j → j < q → ¬ P j) → fP P n i = q
  | 0, i, q, h1, h2, _, _ => by omega
  | n + 1, i, q, h1, h2, h3, h4 => by
    by_cases e : i = q
    · subst e; exact fP_t h3
    · rw [fP_f (h4 i (by omega) (by omega))]
      exact fP_is (by omega) (by omega) h3 (fun j a b => h4 j (by omega) b)
theorem fP_no {P : Int → Prop} : ∀ {n : Nat} {i : Int}, (∀ j, i ≤ j → j < i + n → ¬ P j) → fP P n i = -1
  | 0, _, _ => rfl
  | n + 1, i, h => by
    rw [fP_f (h i (by omega) (by omega))]
    exact fP_no (fun j a b => h j (by omega) (by omega))
theorem fP_b (P : Int → Prop) (n : Nat) (i : Int) (hi : 0 ≤ i) : -1 ≤ fP P n i ∧ fP P n i < i + n ∨ fP P n i = -1 := by
  rcases fP_spec P n i with h | h
  · exact Or.inr h.1
  · exact Or.inl ⟨by omega, h.2.1⟩
/-- the greatest below n with a property, or -1 -/
noncomputable def lT (P : Int → Prop) : Nat → Int
  | 0 => -1
  | n + 1 => @ite Int (P (n : Int)) (Classical.propDecidable _) (n : Int) (lT P n)
theorem lT_t {P : Int → Prop} {n : Nat} (h : P (n : Int)) : lT P (n + 1) = n := by rw [lT]; exact if_pos h
theorem lT_f {P : Int → Prop} {n : Nat} (h : ¬ P (n : Int)) : lT P (n + 1) = lT P n := by rw [lT]; exact if_neg h
theorem lT_is {P : Int → Prop} : ∀ {n : Nat} {q : Int}, 0 ≤ q → q < n → P q → (∀ j, q < j → j < n → ¬ P j) → lT P n = q
  | 0, q, h1, h2, _, _ => by omega
  | n + 1, q, h1, h2, h3, h4 => by
    by_cases e : q = n
    · subst e; exact lT_t h3
    · rw [lT_f (h4 n (by omega) (by omega))]
      exact lT_is h1 (by omega) h3 (fun j a b => h4 j a (by omega))
theorem lT_no {P : Int → Prop} : ∀ {n : Nat}, (∀ j, 0 ≤ j → j < n → ¬ P j) → lT P n = -1
  | 0, _ => rfl
  | n + 1, h => by
    rw [lT_f (h n (by omega) (by omega))]
    exact lT_no (fun j a b => h j a (by omega))
theorem lT_spec (P : Int → Prop) : ∀ (n : Nat), (lT P n = -1 ∧ ∀ j, 0 ≤ j → j < n → ¬ P j) ∨ (0 ≤ lT P n ∧ lT P n < n ∧ P (lT P n) ∧ ∀ j, lT P n < j → j < n → ¬ P j)
  | 0 => Or.inl ⟨rfl, fun j a b => by omega⟩
  | n + 1 => by
    rcases Classical.em (P (n : Int)) with h | h
    · refine Or.inr ?_
      rw [lT_t h]
      exact ⟨by omega, by omega, h, fun j a b => by omega⟩
    · rw [lT_f h]
      rcases lT_spec P n with ⟨h1, h2⟩ | ⟨h1, h2, h3, h4⟩
      · refine Or.inl ⟨h1, fun j a b => ?_⟩
        by_cases e : j = n
        · subst e; exact h
        · exact h2 j a (by omega)
      · refine Or.inr ⟨h1, by omega, h3, fun j a b => ?_⟩
        by_cases e : j = n
        · subst e; exact h
        · exact h4 j a (by omega)
def sg (x : Int) : Int := if 0 < x then 1 else if x < 0 then -1 else 0
theorem sg_b (x : Int) : -1 ≤ sg x ∧ sg x ≤ 1 := by
  unfold sg
  split
  · omega
  · split <;> omega
/-- someone who must be seen comes to the other side at a tick -/
def CHG (P : Int → Int → Int) (np mn mk f t : Int) : Prop := ∃ p, 0 ≤ p ∧ p < np ∧ bt mk p ∧ crossZ f (P mn (t - 1)) (P p (t - 1)) * crossZ f (P mn t) (P p t) < 0
/-- what fails at a tick -/
noncomputable def FL (P : Int → Int → Int) (np nw : Int) (wf wt : Int → Int) (kd mn mk sz fs f t : Int) : Int :=
  if 0 ≤ fP (fun p => bt mk p ∧ HID P np nw wf wt p t f) np.toNat 0 then 10 + fP (fun p => bt mk p ∧ HID P np nw wf wt p t f) np.toNat 0
  else if 0 ≤ fP (fun p => bt mk p ∧ ¬ cone f (P mn t) (P p t)) np.toNat 0 then 20 + fP (fun p => bt mk p ∧ ¬ cone f (P mn t) (P p t)) np.toNat 0
  else if b2 (bt sz (sizeZ f (P mn t))) = 0 then 30
  else if b2 (kd = 2 ∧ fs < t ∧ CHG P np mn mk f t) = 1 then 40 else 0
theorem FL_b (P : Int → Int → Int) (np nw : Int) (wf wt : Int → Int) (kd mn mk sz fs f t : Int) (h : np ≤ 6) : 0 ≤ FL P np nw wf wt kd mn mk sz fs f t ∧ FL P np nw wf wt kd mn mk sz fs f t ≤ 40 := by
  have h1 := fP_b (fun p => bt mk p ∧ HID P np nw wf wt p t f) np.toNat 0 (by omega)
  have h2 := fP_b (fun p => bt mk p ∧ ¬ cone f (P mn t) (P p t)) np.toNat 0 (by omega)
  unfold FL
  split
  · omega
  · split
    · omega
    · split
      · omega
      · split <;> omega
/-- the least of n ticks from t on at which F isn't 0 -/
noncomputable def WHY (F : Int → Int) : Nat → Int → Int
  | 0, _ => 0
  | n + 1, t => if F t = 0 then WHY F n (t + 1) else 100 * t + F t
theorem WHY_0 {F : Int → Int} {n : Nat} {t : Int} (h : F t = 0) : WHY F (n + 1) t = WHY F n (t + 1) := by rw [WHY]; exact if_pos h
theorem WHY_n {F : Int → Int} {n : Nat} {t : Int} (h : ¬ F t = 0) : WHY F (n + 1) t = 100 * t + F t := by rw [WHY]; exact if_neg h
theorem WHY_cg {F G : Int → Int} : ∀ (n : Nat) (t : Int), (∀ j, t ≤ j → j < t + n → F j = G j) → WHY F n t = WHY G n t
  | 0, _, _ => rfl
  | n + 1, t, h => by
    rw [WHY, WHY, h t (by omega) (by omega), WHY_cg n (t + 1) (fun j a b => h j (by omega) (by omega))]
theorem WHY_b {F : Int → Int} : ∀ (n : Nat) (t : Int), 0 ≤ t → t + n ≤ 60 → (∀ j, 0 ≤ F j ∧ F j ≤ 40) → 0 ≤ WHY F n t ∧ WHY F n t < 6000
  | 0, _, _, _, _ => by rw [WHY]; omega
  | n + 1, t, h0, h1, h => by
    have h2 := h t
    rw [WHY]
    split
    · exact WHY_b n (t + 1) (by omega) (by omega) h
    · omega
noncomputable abbrev FLc (st : SS) (b f t : Int) : Int := FL (fun q t => st 0 (q * 60 + t)) (st 19 0) (st 19 1) (st 1) (st 2) (st 11 b) (st 12 b) (st 13 b) (st 14 b) (st 15 b) f t
noncomputable abbrev WHYc (st : SS) (b f : Int) : Int := WHY (FLc st b f) (st 16 b - st 15 b + 1).toNat (st 15 b)
noncomputable def PTN (mn mk : Int) : Int := if fP (fun q => q ≠ mn ∧ bt mk q) 6 0 = -1 then mn else fP (fun q => q ≠ mn ∧ bt mk q) 6 0
theorem PTN_b (mn mk : Int) (h : 0 ≤ mn ∧ mn < 6) : 0 ≤ PTN mn mk ∧ PTN mn mk < 6 := by
  unfold PTN
  have h1 := fP_spec (fun q => q ≠ mn ∧ bt mk q) 6 0
  split
  · omega
  · rcases h1 with h1 | h1 <;> omega
noncomputable abbrev PTc (st : SS) (b : Int) : Int := PTN (st 12 b) (st 13 b)
noncomputable def spk (mn pt : Int) : Int := zor (zshl 1 mn) (zshl 1 pt)
theorem zor_rg (a b : Int) : rg (zor a b) := rg_of _
theorem zand_rg (a b : Int) : rg (zand a b) := rg_of _
theorem zshl_rg (a b : Int) : rg (zshl a b) := rg_of _
theorem zshr_rg (a b : Int) : rg (zshr a b) := rg_of _
theorem zxor_rg (a b : Int) : rg (zxor a b) := rg_of _
noncomputable abbrev SDM (st : SS) (b f : Int) : Int := sg (crossZ (st 0 (st 12 b * 60 + st 15 b)) (st 0 (PTc st b * 60 + st 15 b)) f)
noncomputable abbrev SDL (st : SS) (b f : Int) : Int := if st 12 b < PTc st b then SDM st b f else -(SDM st b f)
theorem sg_z : ∀ a : Nat, a < 63 → ∀ b : Nat, b < 62 → zor (zshr (((62 * a + b : Nat) : Int) - 1922) 31) (zushr (-(((62 * a + b : Nat) : Int) - 1922)) 31) = sg (((62 * a + b : Nat) : Int) - 1922) := by decide +kernel
theorem sg_zz {x : Int} (h : -1922 ≤ x ∧ x ≤ 1922) : zor (zshr x 31) (zushr (-x) 31) = sg x := by
  have h1 := sg_z ((x + 1922).toNat / 62) (by omega) ((x + 1922).toNat % 62) (by omega)
  have e : ((62 * ((x + 1922).toNat / 62) + (x + 1922).toNat % 62 : Nat) : Int) - 1922 = x := by omega
  rwa [e] at h1
theorem sq_nn (x : Int) : 0 ≤ x * x := by rw [← Int.natAbs_mul_self]; exact Int.natCast_nonneg _
/-- where nobody steps, nothing new fails -/
theorem FL_skip {P : Int → Int → Int} {np nw : Int} {wf wt : Int → Int} {kd mn mk sz fs f t : Int} (hm : 0 ≤ mn ∧ mn < np) (hP : ∀ q, 0 ≤ q → q < np → P q t = P q (t - 1)) (h : FL P np nw wf wt kd mn mk sz fs f (t - 1) = 0) : FL P np nw wf wt kd mn mk sz fs f t = 0 := by
  have hH : ∀ p, 0 ≤ p → p < np → (HID P np nw wf wt p t f ↔ HID P np nw wf wt p (t - 1) f) := by
    intro p h0 h1
    unfold HID
    rw [hP p h0 h1]
    refine or_congr Iff.rfl (or_congr Iff.rfl ⟨fun ⟨q, a, b, d⟩ => ⟨q, a, b, ?_⟩, fun ⟨q, a, b, d⟩ => ⟨q, a, b, ?_⟩⟩)
    · rw [← hP q a b]; exact d
    · rw [hP q a b]; exact d
  have e1 : fP (fun p => bt mk p ∧ HID P np nw wf wt p t f) np.toNat 0 = fP (fun p => bt mk p ∧ HID P np nw wf wt p (t - 1) f) np.toNat 0 := fP_cg _ _ (fun j a b => and_congr Iff.rfl (hH j a (by omega)))
  have e2 : fP (fun p => bt mk p ∧ ¬ cone f (P mn t) (P p t)) np.toNat 0 = fP (fun p => bt mk p ∧ ¬ cone f (P mn (t - 1)) (P p (t - 1))) np.toNat 0 := fP_cg _ _ (fun j a b => by rw [hP mn hm.1 hm.2, hP j a (by omega)])
  have e3 : ¬ CHG P np mn mk f t := by
    rintro ⟨p, a, b, -, d⟩
    rw [hP mn hm.1 hm.2, hP p a b] at d
    have d2 := sq_nn (crossZ f (P mn (t - 1)) (P p (t - 1)))
    omega
  unfold FL at h ⊢
  rw [e1, e2, hP mn hm.1 hm.2]
  have h1 := fP_b (fun p => bt mk p ∧ HID P np nw wf wt p (t - 1) f) np.toNat 0 (by omega)
  have h2 := fP_b (fun p => bt mk p ∧ ¬ cone f (P mn (t - 1)) (P p (t - 1))) np.toNat 0 (by omega)
  generalize fP (fun p => bt mk p ∧ HID P np nw wf wt p (t - 1) f) np.toNat 0 = x1 at *
  generalize fP (fun p => bt mk p ∧ ¬ cone f (P mn (t - 1)) (P p (t - 1))) np.toNat 0 = x2 at *
  split at h
  · omega
  · rename_i g1
    rw [if_neg g1]
    split at h
    · omega
    · rename_i g2
      rw [if_neg g2]
      split at h
      · omega
      · rename_i g3
        rw [if_neg g3, if_neg (fun z => e3 (b2_1 z).2.2)]
theorem SDL_b (st : SS) (b f : Int) : -1 ≤ SDL st b f ∧ SDL st b f ≤ 1 := by
  have h : -1 ≤ SDM st b f ∧ SDM st b f ≤ 1 := sg_b _
  generalize hx : SDM st b f = x at h
  rcases Classical.em (st 12 b < PTc st b) with q | q
  · have e : SDL st b f = x := by rw [← hx]; exact if_pos q
    omega
  · have e : SDL st b f = -x := by rw [← hx]; exact if_neg q
    omega
