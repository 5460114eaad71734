/-! plane geometry over whole numbers -/
theorem sq_pos {x : Int} (h : x ≠ 0) : 0 < x * x := by
  have h1 := sq_nn x
  have h2 : x * x ≠ 0 := fun e => by
    rcases Int.mul_eq_zero.mp e with z | z <;> exact h z
  omega
/-- two ways u, w with u x w = 0 and u * w ≤ 0 go to either side in each coordinate -/
theorem g_opp {u1 u2 w1 w2 : Int} (hc : u1 * w2 = u2 * w1) (hd : u1 * w1 + u2 * w2 ≤ 0) : u1 * w1 ≤ 0 ∧ u2 * w2 ≤ 0 := by
  have e : (u1 * w1) * (u2 * w2) = (u1 * w2) * (u1 * w2) := by
    calc (u1 * w1) * (u2 * w2) = (u1 * w2) * (u2 * w1) := by simp only [Int.mul_assoc, Int.mul_comm, Int.mul_left_comm]
      _ = (u1 * w2) * (u1 * w2) := by rw [← hc]
  have n := sq_nn (u1 * w2)
  rw [← e] at n
  generalize u1 * w1 = x at *
  generalize u2 * w2 = y at *
  constructor
  · rcases Int.lt_or_le 0 x with q | q
    · have := Int.mul_neg_of_pos_of_neg q (show y < 0 by omega)
      omega
    · exact q
  · rcases Int.lt_or_le 0 y with q | q
    · have := Int.mul_neg_of_neg_of_pos (show x < 0 by omega) q
      omega
    · exact q
theorem bet_mul {v a b : Int} : bet v a b ↔ (a - v) * (b - v) ≤ 0 := by
  constructor
  · rintro (h | h)
    · exact Int.mul_nonpos_of_nonpos_of_nonneg (by omega) (by omega)
    · exact Int.mul_nonpos_of_nonneg_of_nonpos (by omega) (by omega)
  · intro h
    rcases Int.lt_or_le (a - v) 0 with q | q
    · rcases Int.lt_or_le (b - v) 0 with r | r
      · have := Int.mul_pos_of_neg_of_neg q r
        omega
      · exact Or.inl ⟨by omega, by omega⟩
    · rcases Int.lt_or_le (b - v) 0 with r | r
      · exact Or.inr ⟨by omega, by omega⟩
      · by_cases e : a - v = 0
        · exact Or.inl ⟨by omega, by omega⟩
        · by_cases e2 : b - v = 0
          · exact Or.inr ⟨by omega, by omega⟩
          · have := Int.mul_pos (show 0 < a - v by omega) (show 0 < b - v by omega)
            omega
theorem cross_cyc (v a b : Int) : crossZ v a b = crossZ a b v := by
  unfold crossZ
  generalize v / 100 = x0
  generalize v % 100 = y0
  generalize a / 100 = x1
  generalize a % 100 = y1
  generalize b / 100 = x2
  generalize b % 100 = y2
  simp only [Int.sub_mul, Int.mul_sub, Int.mul_comm]
  omega
/-- on the line: a place is between by coordinates just if the inner product isn't above 0 -/
theorem ON_dot {v a b : Int} (h : crossZ a b v = 0) : (bet (v / 100) (a / 100) (b / 100) ∧ bet (v % 100) (a % 100) (b % 100)) ↔ dotZ v a b ≤ 0 := by
  rw [bet_mul, bet_mul]
  have hc : crossZ v a b = 0 := by rw [cross_cyc]; exact h
  unfold crossZ at hc
  unfold dotZ
  constructor
  · intro ⟨p, q⟩; omega
  · intro p
    exact g_opp (by omega) p
theorem ONs_iff {v a b : Int} : ONs v a b ↔ crossZ a b v = 0 ∧ dotZ v a b ≤ 0 := by
  unfold ONs
  constructor
  · intro ⟨p, q⟩; exact ⟨p, (ON_dot p).mp q⟩
  · intro ⟨p, q⟩; exact ⟨p, (ON_dot p).mpr q⟩
theorem plc_ne {a b : Int} (ha : plc a) (hb : plc b) (h : a ≠ b) : a / 100 - b / 100 ≠ 0 ∨ a % 100 - b % 100 ≠ 0 := by omega
/-- other than the ends: strictly between -/
theorem on_iff {v a b : Int} (hv : plc v) (ha : plc a) (hb : plc b) (h1 : v ≠ a) (h2 : v ≠ b) : ONs v a b ↔ betw v a b := by
  rw [ONs_iff]
  unfold betw
  rw [cross_cyc v a b]
  constructor
  · intro ⟨p, q⟩
    refine ⟨p, ?_⟩
    rcases Int.lt_or_le (dotZ v a b) 0 with r | r
    · exact r
    · exfalso
      obtain ⟨s1, s2⟩ := (ON_dot p).mpr q
      rw [bet_mul] at s1 s2
      have hc : crossZ v a b = 0 := by rw [cross_cyc]; exact p
      have n1 := plc_ne ha hv (Ne.symm h1)
      have n2 := plc_ne hb hv (Ne.symm h2)
      unfold dotZ at r
      unfold crossZ at hc
      generalize a / 100 - v / 100 = x at *
      generalize b / 100 - v / 100 = y at *
      generalize a % 100 - v % 100 = z at *
      generalize b % 100 - v % 100 = w at *
      have e1 : x * y = 0 := by omega
      have e2 : z * w = 0 := by omega
      have e3 : x * w = z * y := by omega
      rcases Int.mul_eq_zero.mp e1 with k | k <;> rcases Int.mul_eq_zero.mp e2 with k2 | k2
      · omega
      · rw [k, Int.zero_mul] at e3
        rcases Int.mul_eq_zero.mp e3.symm with k3 | k3 <;> omega
      · rw [k2, Int.zero_mul] at e3
        rcases Int.mul_eq_zero.mp e3 with k3 | k3 <;> omega
      · omega
  · intro ⟨p, q⟩; exact ⟨p, by omega⟩
theorem betw_end {v a b : Int} (h : v = a ∨ v = b) : ¬ betw v a b := by
  rintro ⟨-, q⟩
  unfold dotZ at q
  rcases h with h | h <;> subst h <;> simp at q
theorem g_lag (w1 w2 x1 x2 y1 y2 : Int) (h : x1 * y2 - x2 * y1 = 0) : (x1 * x1 + x2 * x2) * (w1 * y2 - w2 * y1) = (x1 * y1 + x2 * y2) * (w1 * x2 - w2 * x1) := by grind
theorem g_lag2 (u1 u2 x1 x2 y1 y2 : Int) (h : u1 * x2 - u2 * x1 = 0) : (u1 * u1 + u2 * u2) * (x1 * y1 + x2 * y2) = (u1 * x1 + u2 * x2) * (u1 * y1 + u2 * y2) := by grind
theorem g_par (u1 u2 x1 x2 y1 y2 : Int) (h : u1 * x2 - u2 * x1 = 0) (h2 : u1 * y2 - u2 * y1 = 0) : (u1 * u1 + u2 * u2) * (x1 * y2 - x2 * y1) = 0 := by grind
theorem g_sq0 (x : Int) : 0 ≤ x * x := by
  rcases Int.le_total 0 x with h | h
  · exact Int.mul_nonneg h h
  · exact Int.mul_nonneg_of_nonpos_of_nonpos h h
theorem g_sqp {x : Int} (h : x ≠ 0) : 0 < x * x := by
  have h1 := g_sq0 x
  have h2 : x * x ≠ 0 := fun e => by
    rcases Int.mul_eq_zero.mp e with z | z <;> exact h z
  omega
theorem g_n0 {x1 x2 : Int} (h : x1 ≠ 0 ∨ x2 ≠ 0) : 0 < x1 * x1 + x2 * x2 := by
  have h1 := g_sq0 x1
  have h2 := g_sq0 x2
  rcases h with h | h <;> have := g_sqp h <;> omega
theorem g_L1 {A B X Y : Int} (hA : 0 < A) (hB : B ≤ 0) (h : A * Y = B * X) : X * Y ≤ 0 := by
  rcases Int.lt_or_le 0 (X * Y) with q | q
  · have h1 := Int.mul_pos hA q
    have e : A * (X * Y) = B * (X * X) := by grind
    have h2 := Int.mul_nonpos_of_nonpos_of_nonneg hB (g_sq0 X)
    omega
  · exact q
theorem g_L2 {A B X Y : Int} (hA : 0 < A) (hB : 0 < B) (h : A * Y = B * X) (hn : X * Y ≤ 0) : X = 0 ∧ Y = 0 := by
  have e : A * (X * Y) = B * (X * X) := by grind
  have h1 := Int.mul_nonpos_of_nonneg_of_nonpos (Int.le_of_lt hA) hn
  have hX : X = 0 := by
    rcases Classical.em (X = 0) with q | q
    · exact q
    · have := Int.mul_pos hB (g_sqp q)
      omega
  refine ⟨hX, ?_⟩
  rw [hX, Int.mul_zero] at h
  rcases Int.mul_eq_zero.mp h with z | z
  · omega
  · exact z
/-- x, y on one line through the origin, to either side: so are they of every line through it -/
theorem g_opp2 (w1 w2 x1 x2 y1 y2 : Int) (h : x1 * y2 - x2 * y1 = 0) (hd : x1 * y1 + x2 * y2 ≤ 0) : (w1 * x2 - w2 * x1) * (w1 * y2 - w2 * y1) ≤ 0 := by
  rcases Classical.em (x1 ≠ 0 ∨ x2 ≠ 0) with q | q
  · exact g_L1 (g_n0 q) hd (g_lag w1 w2 x1 x2 y1 y2 h)
  · have e1 : x1 = 0 := by omega
    have e2 : x2 = 0 := by omega
    subst e1; subst e2
    simp
theorem g_same (w1 w2 x1 x2 y1 y2 : Int) (h : x1 * y2 - x2 * y1 = 0) (hd : 0 < x1 * y1 + x2 * y2) (hn : (w1 * x2 - w2 * x1) * (w1 * y2 - w2 * y1) ≤ 0) : w1 * x2 - w2 * x1 = 0 ∧ w1 * y2 - w2 * y1 = 0 := by
  rcases Classical.em (x1 ≠ 0 ∨ x2 ≠ 0) with q | q
  · exact g_L2 (g_n0 q) hd (g_lag w1 w2 x1 x2 y1 y2 h) hn
  · have e1 : x1 = 0 := by omega
    have e2 : x2 = 0 := by omega
    subst e1; subst e2
    simp at hd
/-- on one line: q between a and b, then a or b between p and q, or p between a and b -/
theorem g_line {g a b D1 D2 D3 D4 : Int} (hg : 0 < g) (h1 : g * D1 = a * (a - g)) (h2 : g * D2 = b * (b - g)) (h3 : g * D3 = a * b) (h4 : g * D4 = (a - g) * (b - g)) (h : D4 ≤ 0) : D1 ≤ 0 ∨ D2 ≤ 0 ∨ D3 ≤ 0 := by
  rcases Int.lt_or_le 0 D1 with q1 | q1
  · rcases Int.lt_or_le 0 D2 with q2 | q2
    · rcases Int.lt_or_le 0 D3 with q3 | q3
      · exfalso
        have p1 := Int.mul_pos hg q1
        have p2 := Int.mul_pos hg q2
        have p3 := Int.mul_pos hg q3
        have p4 := Int.mul_nonpos_of_nonneg_of_nonpos (Int.le_of_lt hg) h
        rw [h1] at p1
        rw [h2] at p2
        rw [h3] at p3
        rw [h4] at p4
        rcases Int.lt_trichotomy a 0 with z | z | z
        · have hb : b < 0 := by
            rcases Int.lt_or_le b 0 with y | y
            · exact y
            · have := Int.mul_nonpos_of_nonpos_of_nonneg (Int.le_of_lt z) y; omega
          have := Int.mul_pos_of_neg_of_neg (show a - g < 0 by omega) (show b - g < 0 by omega)
          omega
        · subst z; simp at p3
        · have hb : 0 < b := by
            rcases Int.lt_or_le 0 b with y | y
            · exact y
            · have := Int.mul_nonpos_of_nonneg_of_nonpos (Int.le_of_lt z) y; omega
          have ha : 0 < a - g := by
            rcases Int.lt_or_le 0 (a - g) with y | y
            · exact y
            · have := Int.mul_nonpos_of_nonneg_of_nonpos (Int.le_of_lt z) y; omega
          have hb2 : 0 < b - g := by
            rcases Int.lt_or_le 0 (b - g) with y | y
            · exact y
            · have := Int.mul_nonpos_of_nonneg_of_nonpos (Int.le_of_lt hb) y; omega
          have := Int.mul_pos ha hb2
          omega
      · exact Or.inr (Or.inr q3)
    · exact Or.inr (Or.inl q2)
  · exact Or.inl q1
abbrev crI (f1 f2 a1 a2 b1 b2 : Int) : Int := (a1 - f1) * (b2 - f2) - (a2 - f2) * (b1 - f1)
abbrev dtI (f1 f2 a1 a2 b1 b2 : Int) : Int := (a1 - f1) * (b1 - f1) + (a2 - f2) * (b2 - f2)
theorem g_meet {p1 p2 q1 q2 a1 a2 b1 b2 : Int} (hpq : q1 - p1 ≠ 0 ∨ q2 - p2 ≠ 0) :
    ((crI p1 p2 q1 q2 a1 a2 * crI p1 p2 q1 q2 b1 b2 < 0 ∧ crI a1 a2 b1 b2 p1 p2 * crI a1 a2 b1 b2 q1 q2 < 0) ∨ (crI p1 p2 q1 q2 a1 a2 = 0 ∧ dtI a1 a2 p1 p2 q1 q2 ≤ 0) ∨ (crI p1 p2 q1 q2 b1 b2 = 0 ∧ dtI b1 b2 p1 p2 q1 q2 ≤ 0) ∨ (crI a1 a2 b1 b2 p1 p2 = 0 ∧ dtI p1 p2 a1 a2 b1 b2 ≤ 0) ∨ (crI a1 a2 b1 b2 q1 q2 = 0 ∧ dtI q1 q2 a1 a2 b1 b2 ≤ 0)) ↔
    (¬ (0 < crI p1 p2 q1 q2 a1 a2 * crI p1 p2 q1 q2 b1 b2 ∨ 0 < crI a1 a2 b1 b2 p1 p2 * crI a1 a2 b1 b2 q1 q2) ∧ ((crI p1 p2 q1 q2 a1 a2 ≠ 0 ∨ crI p1 p2 q1 q2 b1 b2 ≠ 0) ∨ dtI a1 a2 p1 p2 q1 q2 ≤ 0 ∨ dtI b1 b2 p1 p2 q1 q2 ≤ 0 ∨ dtI p1 p2 a1 a2 b1 b2 ≤ 0)) := by
  have i1 : (p1 - a1) * (q2 - a2) - (p2 - a2) * (q1 - a1) = crI p1 p2 q1 q2 a1 a2 := by grind
  have i2 : (p1 - b1) * (q2 - b2) - (p2 - b2) * (q1 - b1) = crI p1 p2 q1 q2 b1 b2 := by grind
  have i3 : (a1 - p1) * (b2 - p2) - (a2 - p2) * (b1 - p1) = crI a1 a2 b1 b2 p1 p2 := by grind
  have i4 : (a1 - q1) * (b2 - q2) - (a2 - q2) * (b1 - q1) = crI a1 a2 b1 b2 q1 q2 := by grind
  have j1 : (b1 - a1) * (p2 - b2) - (b2 - a2) * (p1 - b1) = crI a1 a2 b1 b2 p1 p2 := by grind
  have j2 : (b1 - a1) * (q2 - b2) - (b2 - a2) * (q1 - b1) = crI a1 a2 b1 b2 q1 q2 := by grind
  have j3 : (q1 - p1) * (a2 - q2) - (q2 - p2) * (a1 - q1) = crI p1 p2 q1 q2 a1 a2 := by grind
  have j4 : (q1 - p1) * (b2 - q2) - (q2 - p2) * (b1 - q1) = crI p1 p2 q1 q2 b1 b2 := by grind
  have k0 : crI p1 p2 q1 q2 b1 b2 - crI p1 p2 q1 q2 a1 a2 = crI a1 a2 b1 b2 p1 p2 - crI a1 a2 b1 b2 q1 q2 := by grind
  -- a on the line of p, q
  have A1 := g_opp2 (b1 - a1) (b2 - a2) (p1 - a1) (p2 - a2) (q1 - a1) (q2 - a2)
  have A2 := g_same (b1 - a1) (b2 - a2) (p1 - a1) (p2 - a2) (q1 - a1) (q2 - a2)
  have B1 := g_opp2 (b1 - a1) (b2 - a2) (p1 - b1) (p2 - b2) (q1 - b1) (q2 - b2)
  have B2 := g_same (b1 - a1) (b2 - a2) (p1 - b1) (p2 - b2) (q1 - b1) (q2 - b2)
  have C1 := g_opp2 (q1 - p1) (q2 - p2) (a1 - p1) (a2 - p2) (b1 - p1) (b2 - p2)
  have C2 := g_same (q1 - p1) (q2 - p2) (a1 - p1) (a2 - p2) (b1 - p1) (b2 - p2)
  have D1 := g_opp2 (q1 - p1) (q2 - p2) (a1 - q1) (a2 - q2) (b1 - q1) (b2 - q2)
  have D2 := g_same (q1 - p1) (q2 - p2) (a1 - q1) (a2 - q2) (b1 - q1) (b2 - q2)
  rw [i1] at A1 A2
  rw [i2, j1, j2] at B1 B2
  rw [i3] at C1 C2
  rw [i4, j3, j4] at D1 D2
  have hg := g_n0 hpq
  have L1 := g_lag2 (q1 - p1) (q2 - p2) (a1 - p1) (a2 - p2) (a1 - q1) (a2 - q2)
  have L2 := g_lag2 (q1 - p1) (q2 - p2) (b1 - p1) (b2 - p2) (b1 - q1) (b2 - q2)
  have L3 := g_lag2 (q1 - p1) (q2 - p2) (a1 - p1) (a2 - p2) (b1 - p1) (b2 - p2)
  have L4 := g_lag2 (q1 - p1) (q2 - p2) (a1 - q1) (a2 - q2) (b1 - q1) (b2 - q2)
  rw [j3] at L4
  have PR := g_par (q1 - p1) (q2 - p2) (a1 - p1) (a2 - p2) (b1 - p1) (b2 - p2)
  rw [i3] at PR
  have m1 : (a1 - p1) * (a1 - q1) + (a2 - p2) * (a2 - q2) = dtI a1 a2 p1 p2 q1 q2 := by grind
  have m2 : (b1 - p1) * (b1 - q1) + (b2 - p2) * (b2 - q2) = dtI b1 b2 p1 p2 q1 q2 := by grind
  have n1 : (q1 - p1) * (a1 - q1) + (q2 - p2) * (a2 - q2) = ((q1 - p1) * (a1 - p1) + (q2 - p2) * (a2 - p2)) - ((q1 - p1) * (q1 - p1) + (q2 - p2) * (q2 - p2)) := by grind
  have n2 : (q1 - p1) * (b1 - q1) + (q2 - p2) * (b2 - q2) = ((q1 - p1) * (b1 - p1) + (q2 - p2) * (b2 - p2)) - ((q1 - p1) * (q1 - p1) + (q2 - p2) * (q2 - p2)) := by grind
  rw [m1, n1] at L1
  rw [m2, n2] at L2
  rw [n1, n2] at L4
  have LN := @g_line ((q1 - p1) * (q1 - p1) + (q2 - p2) * (q2 - p2)) ((q1 - p1) * (a1 - p1) + (q2 - p2) * (a2 - p2)) ((q1 - p1) * (b1 - p1) + (q2 - p2) * (b2 - p2)) (dtI a1 a2 p1 p2 q1 q2) (dtI b1 b2 p1 p2 q1 q2) (dtI p1 p2 a1 a2 b1 b2) (dtI q1 q2 a1 a2 b1 b2) hg
  clear i1 i2 i3 i4 j1 j2 j3 j4 m1 m2 n1 n2
  change _ → _ → crI a1 a2 b1 b2 p1 p2 * crI a1 a2 b1 b2 q1 q2 ≤ 0 at A1
  change _ → _ → crI a1 a2 b1 b2 p1 p2 * crI a1 a2 b1 b2 q1 q2 ≤ 0 → crI a1 a2 b1 b2 p1 p2 = 0 ∧ crI a1 a2 b1 b2 q1 q2 = 0 at A2
  change _ → _ → crI p1 p2 q1 q2 a1 a2 * crI p1 p2 q1 q2 b1 b2 ≤ 0 at C1
  change _ → _ → crI p1 p2 q1 q2 a1 a2 * crI p1 p2 q1 q2 b1 b2 ≤ 0 → crI p1 p2 q1 q2 a1 a2 = 0 ∧ crI p1 p2 q1 q2 b1 b2 = 0 at C2
  change crI p1 p2 q1 q2 a1 a2 = 0 → _ at L1
  change crI p1 p2 q1 q2 b1 b2 = 0 → _ at L2
  change crI p1 p2 q1 q2 a1 a2 = 0 → ((q1 - p1) * (q1 - p1) + (q2 - p2) * (q2 - p2)) * dtI p1 p2 a1 a2 b1 b2 = _ at L3
  change crI p1 p2 q1 q2 a1 a2 = 0 → ((q1 - p1) * (q1 - p1) + (q2 - p2) * (q2 - p2)) * dtI q1 q2 a1 a2 b1 b2 = _ at L4
  change crI p1 p2 q1 q2 a1 a2 = 0 → crI p1 p2 q1 q2 b1 b2 = 0 → _ at PR
  change _ → dtI a1 a2 p1 p2 q1 q2 ≤ 0 → _ at A1
  change _ → 0 < dtI a1 a2 p1 p2 q1 q2 → _ at A2
  change _ → dtI b1 b2 p1 p2 q1 q2 ≤ 0 → _ at B1
  change _ → 0 < dtI b1 b2 p1 p2 q1 q2 → _ at B2
  change _ → dtI p1 p2 a1 a2 b1 b2 ≤ 0 → _ at C1
  change _ → 0 < dtI p1 p2 a1 a2 b1 b2 → _ at C2
  change _ → dtI q1 q2 a1 a2 b1 b2 ≤ 0 → _ at D1
  change _ → 0 < dtI q1 q2 a1 a2 b1 b2 → _ at D2
  generalize crI p1 p2 q1 q2 a1 a2 = o1 at *
  generalize crI p1 p2 q1 q2 b1 b2 = o2 at *
  generalize crI a1 a2 b1 b2 p1 p2 = o3 at *
  generalize crI a1 a2 b1 b2 q1 q2 = o4 at *
  generalize dtI a1 a2 p1 p2 q1 q2 = d1 at *
  generalize dtI b1 b2 p1 p2 q1 q2 = d2 at *
  generalize dtI p1 p2 a1 a2 b1 b2 = d3 at *
  generalize dtI q1 q2 a1 a2 b1 b2 = d4 at *
  by_cases hz : o1 = 0 ∧ o2 = 0
  · obtain ⟨z1, z2⟩ := hz
    have z3 : o3 = 0 := by
      rcases Int.mul_eq_zero.mp (PR z1 z2) with z | z
      · omega
      · exact z
    have z4 : o4 = 0 := by omega
    have ln := LN (L1 z1) (L2 z2) (L3 z1) (L4 z1)
    clear LN L1 L2 L3 L4 PR
    subst z1; subst z2; subst z3; subst z4
    simp
    constructor
    · rintro (z | z | z | z)
      · exact Or.inl z
      · exact Or.inr (Or.inl z)
      · exact Or.inr (Or.inr z)
      · exact ln z
    · rintro (z | z | z)
      · exact Or.inl z
      · exact Or.inr (Or.inl z)
      · exact Or.inr (Or.inr (Or.inl z))
  · constructor
    · rintro (⟨z1, z2⟩ | ⟨z1, z2⟩ | ⟨z1, z2⟩ | ⟨z1, z2⟩ | ⟨z1, z2⟩)
      · exact ⟨by omega, Or.inl (by omega)⟩
      · have := A1 z1 z2
        refine ⟨?_, Or.inl (by omega)⟩
        rw [z1, Int.zero_mul]
        omega
      · have := B1 z1 z2
        refine ⟨?_, Or.inl (by omega)⟩
        rw [z1, Int.mul_zero]
        omega
      · have := C1 z1 z2
        refine ⟨?_, Or.inl (by omega)⟩
        rw [z1, Int.zero_mul]
        omega
      · have := D1 z1 z2
        refine ⟨?_, Or.inl (by omega)⟩
        rw [z1, Int.mul_zero]
        omega
    · rintro ⟨z, -⟩
      have y1 : o1 * o2 ≤ 0 := by omega
      have y2 : o3 * o4 ≤ 0 := by omega
      by_cases e1 : o1 = 0
      · rcases Int.lt_or_le 0 d1 with q | q
        · have := A2 e1 q y2
          omega
        · exact Or.inr (Or.inl ⟨e1, q⟩)
      by_cases e2 : o2 = 0
      · rcases Int.lt_or_le 0 d2 with q | q
        · have := B2 e2 q y2
          omega
        · exact Or.inr (Or.inr (Or.inl ⟨e2, q⟩))
      by_cases e3 : o3 = 0
      · rcases Int.lt_or_le 0 d3 with q | q
        · have := C2 e3 q y1
          omega
        · exact Or.inr (Or.inr (Or.inr (Or.inl ⟨e3, q⟩)))
      by_cases e4 : o4 = 0
      · rcases Int.lt_or_le 0 d4 with q | q
        · have := D2 e4 q y1
          omega
        · exact Or.inr (Or.inr (Or.inr (Or.inr ⟨e4, q⟩)))
      left
      have n1 : o1 * o2 ≠ 0 := fun z => by rcases Int.mul_eq_zero.mp z with y | y <;> contradiction
      have n2 : o3 * o4 ≠ 0 := fun z => by rcases Int.mul_eq_zero.mp z with y | y <;> contradiction
      omega
theorem meet_iff {p q a b : Int} (hp : plc p) (hq : plc q) (ha : plc a) (hb : plc b) (h1 : p ≠ q) (h2 : a ≠ b) : meetM p q a b ↔ meetC p q a b := by
  unfold meetM meetC
  rw [ONs_iff, ONs_iff, ONs_iff, ONs_iff]
  exact g_meet (p1 := p / 100) (p2 := p % 100) (q1 := q / 100) (q2 := q % 100) (a1 := a / 100) (a2 := a % 100) (b1 := b / 100) (b2 := b % 100) (plc_ne hq hp (Ne.symm h1))
