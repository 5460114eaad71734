/-! places, products, seeing: what the answers mean -/
abbrev plc (z : Int) : Prop := 0 ≤ z ∧ z / 100 < 32 ∧ z % 100 < 32
theorem mul_b {x y A B : Int} (h1 : -A ≤ x) (h2 : x ≤ A) (h3 : -B ≤ y) (h4 : y ≤ B) : -(A * B) ≤ x * y ∧ x * y ≤ A * B := by
  have a1 : x.natAbs ≤ A.natAbs := by omega
  have a2 : y.natAbs ≤ B.natAbs := by omega
  have a3 := Nat.mul_le_mul a1 a2
  rw [← Int.natAbs_mul, ← Int.natAbs_mul] at a3
  have a4 : 0 ≤ A * B := Int.mul_nonneg (by omega) (by omega)
  omega
def crossZ (f a b : Int) : Int := (a / 100 - f / 100) * (b % 100 - f % 100) - (a % 100 - f % 100) * (b / 100 - f / 100)
def dotZ (f a b : Int) : Int := (a / 100 - f / 100) * (b / 100 - f / 100) + (a % 100 - f % 100) * (b % 100 - f % 100)
theorem crossZ_b (f a b : Int) (hf : plc f) (ha : plc a) (hb : plc b) : -1922 ≤ crossZ f a b ∧ crossZ f a b ≤ 1922 := by
  have h1 := mul_b (x := a / 100 - f / 100) (y := b % 100 - f % 100) (A := 31) (B := 31) (by omega) (by omega) (by omega) (by omega)
  have h2 := mul_b (x := a % 100 - f % 100) (y := b / 100 - f / 100) (A := 31) (B := 31) (by omega) (by omega) (by omega) (by omega)
  unfold crossZ
  omega
theorem dotZ_b (f a b : Int) (hf : plc f) (ha : plc a) (hb : plc b) : -1922 ≤ dotZ f a b ∧ dotZ f a b ≤ 1922 := by
  have h1 := mul_b (x := a / 100 - f / 100) (y := b / 100 - f / 100) (A := 31) (B := 31) (by omega) (by omega) (by omega) (by omega)
  have h2 := mul_b (x := a % 100 - f % 100) (y := b % 100 - f % 100) (A := 31) (B := 31) (by omega) (by omega) (by omega) (by omega)
  unfold dotZ
  omega
theorem pr_b {x y : Int} (hx : -1922 ≤ x ∧ x ≤ 1922) (hy : -1922 ≤ y ∧ y ≤ 1922) : -3694084 ≤ x * y ∧ x * y ≤ 3694084 := by
  have h := mul_b (A := 1922) (B := 1922) hx.1 hx.2 hy.1 hy.2
  omega
theorem pr2_b {x : Int} (hx : -1922 ≤ x ∧ x ≤ 1922) : -7388168 ≤ 2 * x * x ∧ 2 * x * x ≤ 7388168 := by
  have h := mul_b (x := 2 * x) (y := x) (A := 3844) (B := 1922) (by omega) (by omega) hx.1 hx.2
  omega
def betw (v a b : Int) : Prop := crossZ v a b = 0 ∧ dotZ v a b < 0
def meetC (p q a b : Int) : Prop := ¬ (0 < crossZ p q a * crossZ p q b ∨ 0 < crossZ a b p * crossZ a b q) ∧ ((crossZ p q a ≠ 0 ∨ crossZ p q b ≠ 0) ∨ dotZ a p q ≤ 0 ∨ dotZ b p q ≤ 0 ∨ dotZ p a b ≤ 0)
def cone (f m p : Int) : Prop := 0 < dotZ f m p ∧ dotZ f m m * dotZ f p p ≤ 2 * dotZ f m p * dotZ f m p
def sizeZ (f x : Int) : Int := if dotZ f x x ≤ 16 then 0 else if dotZ f x x ≤ 100 then 1 else 2
theorem sizeZ_b (f x : Int) : 0 ≤ sizeZ f x ∧ sizeZ f x ≤ 2 := by
  unfold sizeZ
  split
  · omega
  · split <;> omega
/-! bits -/
def bt (m k : Int) : Prop := m.toNat.testBit k.toNat = true
/-- hidden: P says where each is at each tick -/
def HID (P : Int → Int → Int) (np nw : Int) (wf wt : Int → Int) (p t f : Int) : Prop :=
  P p t = f ∨ (∃ w, 0 ≤ w ∧ w < nw ∧ meetC f (P p t) (wf w) (wt w)) ∨ (∃ q, 0 ≤ q ∧ q < np ∧ betw (P q t) f (P p t))
/-- the least of n numbers from i on with a property, or -1 -/
noncomputable def fP (P : Int → Prop) : Nat → Int → Int
  | 0, _ => -1
  | n + 1, i => @ite Int (P i) (Classical.propDecidable _) i (fP P n (i + 1))
theorem fP_t {P : Int → Prop} {n : Nat} {i : Int} (h : P i) : fP P (n + 1) i = i := by rw [fP]; exact if_pos h
theorem fP_f {P : Int → Prop} {n : Nat} {i : Int} (h : ¬ P i) : fP P (n + 1) i = fP P n (i + 1) := by rw [fP]; exact if_neg h
theorem fP_spec (P : Int → Prop) : ∀ (n : Nat) (i : Int), (fP P n i = -1 ∧ ∀ j, i ≤ j → j < i + n → ¬ P j) ∨ (i ≤ fP P n i ∧ fP P n i < i + n ∧ P (fP P n i) ∧ ∀ j, i ≤ j → j < fP P n i → ¬ P j)
  | 0, i => Or.inl ⟨rfl, fun j h1 h2 => by omega⟩
  | n + 1, i => by
    rcases Classical.em (P i) with h | h
    · refine Or.inr ?_
      rw [fP_t h]
      exact ⟨by omega, by omega, h, fun j h1 h2 => by omega⟩
    · rw [fP_f h]
      rcases fP_spec P n (i + 1) with ⟨h1, h2⟩ | ⟨h1, h2, h3, h4⟩
      · refine Or.inl ⟨h1, fun j q1 q2 => ?_⟩
        by_cases e : j = i
        · subst e; exact h
        · exact h2 j (by omega) (by omega)
      · refine Or.inr ⟨by omega, by omega, h3, fun j q1 q2 => ?_⟩
        by_cases e : j = i
        · subst e; exact h
        · exact h4 j (by omega) q2
theorem fP_cg {P P' : Int → Prop} : ∀ (n : Nat) (i : Int), (∀ j, i ≤ j → j < i + n → (P j ↔ P' j)) → fP P n i = fP P' n i
  | 0, _, _ => rfl
  | n + 1, i, h => by
    have h0 := h i (by omega) (by omega)
    have h1 := fP_cg n (i + 1) (fun j a b => h j (by omega) (by omega))
    rcases Classical.em (P i) with q | q
    · rw [fP_t q, fP_t (h0.mp q)]
    · rw [fP_f q, fP_f (fun z => q (h0.mpr z)), h1]
