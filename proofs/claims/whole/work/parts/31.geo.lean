/-! plane geometry over whole numbers -/
theorem sq_pos {x : Int} (h : x ≠ 0) : 0 < x * x := by
  have h1 := sq_nn x
  have h2 : x * x ≠ 0 := fun e => by
    rcases Int.mul_eq_zero.mp e with z | z <;> exact h z
  omega
/-- two ways u, w with u x w = 0 and u * w ≤ 0 go to either side in each coordinate -/
theorem g_opp {u1 u2 w1 w2 : Int} (hc : u1 * w2 = u2 * w1) (hd : u1 * w1 + u2 * w2 ≤ 0) : u1 * w1 ≤ 0 ∧ u2 * w2 ≤ 0 := by
  have e : (u1 * w1) * (u2 * w2) = (u1 * w2) * (u1 * w2) := by
    calc (u1 * w1) * (u2 * w2) = (u1 * w2) * (u2 * w1) := by simp only [Int.mul_assoc, Int.mul_comm, Int.mul_left_comm]
      _ = (u1 * w2) * (u1 * w2) := by rw [← hc]
  have n := sq_nn (u1 * w2)
  rw [← e] at n
  generalize u1 * w1 = x at *
  generalize u2 * w2 = y at *
  constructor
  · rcases Int.lt_or_le 0 x with q | q
    · have := Int.mul_neg_of_pos_of_neg q (show y < 0 by omega)
      omega
    · exact q
  · rcases Int.lt_or_le 0 y with q | q
    · have := Int.mul_neg_of_neg_of_pos (show x < 0 by omega) q
      omega
    · exact q
theorem bet_mul {v a b : Int} : bet v a b ↔ (a - v) * (b - v) ≤ 0 := by
  constructor
  · rintro (h | h)
    · exact Int.mul_nonpos_of_nonpos_of_nonneg (by omega) (by omega)
    · exact Int.mul_nonpos_of_nonneg_of_nonpos (by omega) (by omega)
  · intro h
    rcases Int.lt_or_le (a - v) 0 with q | q
    · rcases Int.lt_or_le (b - v) 0 with r | r
      · have := Int.mul_pos_of_neg_of_neg q r
        omega
      · exact Or.inl ⟨by omega, by omega⟩
    · rcases Int.lt_or_le (b - v) 0 with r | r
      · exact Or.inr ⟨by omega, by omega⟩
      · by_cases e : a - v = 0
        · exact Or.inl ⟨by omega, by omega⟩
        · by_cases e2 : b - v = 0
          · exact Or.inr ⟨by omega, by omega⟩
          · have := Int.mul_pos (show 0 < a - v by omega) (show 0 < b - v by omega)
            omega
theorem cross_cyc (v a b : Int) : crossZ v a b = crossZ a b v := by
  unfold crossZ
  generalize v / 100 = x0
  generalize v % 100 = y0
  generalize a / 100 = x1
  generalize a % 100 = y1
  generalize b / 100 = x2
  generalize b % 100 = y2
  simp only [Int.sub_mul, Int.mul_sub, Int.mul_comm]
  omega
/-- on the line: a place is between by coordinates just if the inner product isn't above 0 -/
theorem ON_dot {v a b : Int} (h : crossZ a b v = 0) : (bet (v / 100) (a / 100) (b / 100) ∧ bet (v % 100) (a % 100) (b % 100)) ↔ dotZ v a b ≤ 0 := by
  rw [bet_mul, bet_mul]
  have hc : crossZ v a b = 0 := by rw [cross_cyc]; exact h
  unfold crossZ at hc
  unfold dotZ
  constructor
  · intro ⟨p, q⟩; omega
  · intro p
    exact g_opp (by omega) p
theorem ONs_iff {v a b : Int} : ONs v a b ↔ crossZ a b v = 0 ∧ dotZ v a b ≤ 0 := by
  unfold ONs
  constructor
  · intro ⟨p, q⟩; exact ⟨p, (ON_dot p).mp q⟩
  · intro ⟨p, q⟩; exact ⟨p, (ON_dot p).mpr q⟩
theorem plc_ne {a b : Int} (ha : plc a) (hb : plc b) (h : a ≠ b) : a / 100 - b / 100 ≠ 0 ∨ a % 100 - b % 100 ≠ 0 := by omega
/-- other than the ends: strictly between -/
theorem on_iff {v a b : Int} (hv : plc v) (ha : plc a) (hb : plc b) (h1 : v ≠ a) (h2 : v ≠ b) : ONs v a b ↔ betw v a b := by
  rw [ONs_iff]
  unfold betw
  rw [cross_cyc v a b]
  constructor
  · intro ⟨p, q⟩
    refine ⟨p, ?_⟩
    rcases Int.lt_or_le (dotZ v a b) 0 with r | r
    · exact r
    · exfalso
      obtain ⟨s1, s2⟩ := (ON_dot p).mpr q
      rw [bet_mul] at s1 s2
      have hc : crossZ v a b = 0 := by rw [cross_cyc]; exact p
      have n1 := plc_ne ha hv (Ne.symm h1)
      have n2 := plc_ne hb hv (Ne.symm h2)
      unfold dotZ at r
      unfold crossZ at hc
      generalize a / 100 - v / 100 = x at *
      generalize b / 100 - v / 100 = y at *
      generalize a % 100 - v % 100 = z at *
      generalize b % 100 - v % 100 = w at *
      have e1 : x * y = 0 := by omega
      have e2 : z * w = 0 := by omega
      have e3 : x * w = z * y := by omega
      rcases Int.mul_eq_zero.mp e1 with k | k <;> rcases Int.mul_eq_zero.mp e2 with k2 | k2
      · omega
      · rw [k, Int.zero_mul] at e3
        rcases Int.mul_eq_zero.mp e3.symm with k3 | k3 <;> omega
      · rw [k2, Int.zero_mul] at e3
        rcases Int.mul_eq_zero.mp e3 with k3 | k3 <;> omega
      · omega
  · intro ⟨p, q⟩; exact ⟨p, by omega⟩
theorem betw_end {v a b : Int} (h : v = a ∨ v = b) : ¬ betw v a b := by
  rintro ⟨-, q⟩
  unfold dotZ at q
  rcases h with h | h <;> subst h <;> simp at q
theorem meet_iff {p q a b : Int} (hp : plc p) (hq : plc q) (ha : plc a) (hb : plc b) (h1 : p ≠ q) (h2 : a ≠ b) : meetM p q a b ↔ meetC p q a b := by
  sorry
