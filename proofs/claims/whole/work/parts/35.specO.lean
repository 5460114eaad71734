/-- bits of a mask of ten, summed -/
theorem popc_cn : ∀ a : Nat, a < 32 → ∀ b : Nat, b < 32 → (((32 * a + b) % 2 + (32 * a + b) / 2 % 2 + (32 * a + b) / 4 % 2 + (32 * a + b) / 8 % 2 + (32 * a + b) / 16 % 2 + (32 * a + b) / 32 % 2 + (32 * a + b) / 64 % 2 + (32 * a + b) / 128 % 2 + (32 * a + b) / 256 % 2 + (32 * a + b) / 512 % 2 : Nat) : Int) = popc ((32 * a + b : Nat) : Int) := by decide +kernel
theorem bt_lit {x k : Int} (h0 : 0 ≤ x) (hk : 0 ≤ k) : b2 (bt x k) = x / 2 ^ k.toNat % 2 := by
  rcases Classical.em (bt x k) with q | q
  · rw [b2_t q, (bt_div h0 hk).mpr q]
  · have a3 : ¬ (x / 2 ^ k.toNat) % 2 = 1 := fun z => q ((bt_div h0 hk).mp z)
    rw [b2_f q]
    omega
theorem popc_cP {x : Int} (h0 : 0 ≤ x) : cP (fun k => bt x k) 10 0 = popc x := by
  have e : ∀ k : Int, 0 ≤ k → b2 (bt x k) = x / 2 ^ k.toNat % 2 := fun k hk => bt_lit h0 hk
  simp only [cP]
  rw [e 0 (by omega), e (0 + 1) (by omega), e (0 + 1 + 1) (by omega), e (0 + 1 + 1 + 1) (by omega), e (0 + 1 + 1 + 1 + 1) (by omega), e (0 + 1 + 1 + 1 + 1 + 1) (by omega), e (0 + 1 + 1 + 1 + 1 + 1 + 1) (by omega), e (0 + 1 + 1 + 1 + 1 + 1 + 1 + 1) (by omega), e (0 + 1 + 1 + 1 + 1 + 1 + 1 + 1 + 1) (by omega), e (0 + 1 + 1 + 1 + 1 + 1 + 1 + 1 + 1 + 1) (by omega)]
  unfold popc
  have t0 : (0 : Int).toNat = 0 := rfl
  have t1 : ((0 : Int) + 1).toNat = 1 := rfl
  have t2 : ((0 : Int) + 1 + 1).toNat = 2 := rfl
  have t3 : ((0 : Int) + 1 + 1 + 1).toNat = 3 := rfl
  have t4 : ((0 : Int) + 1 + 1 + 1 + 1).toNat = 4 := rfl
  have t5 : ((0 : Int) + 1 + 1 + 1 + 1 + 1).toNat = 5 := rfl
  have t6 : ((0 : Int) + 1 + 1 + 1 + 1 + 1 + 1).toNat = 6 := rfl
  have t7 : ((0 : Int) + 1 + 1 + 1 + 1 + 1 + 1 + 1).toNat = 7 := rfl
  have t8 : ((0 : Int) + 1 + 1 + 1 + 1 + 1 + 1 + 1 + 1).toNat = 8 := rfl
  have t9 : ((0 : Int) + 1 + 1 + 1 + 1 + 1 + 1 + 1 + 1 + 1).toNat = 9 := rfl
  rw [t0, t1, t2, t3, t4, t5, t6, t7, t8, t9]
  have p0 : (2 : Int) ^ 0 = 1 := rfl
  have p1 : (2 : Int) ^ 1 = 2 := rfl
  have p2 : (2 : Int) ^ 2 = 4 := rfl
  have p3 : (2 : Int) ^ 3 = 8 := rfl
  have p4 : (2 : Int) ^ 4 = 16 := rfl
  have p5 : (2 : Int) ^ 5 = 32 := rfl
  have p6 : (2 : Int) ^ 6 = 64 := rfl
  have p7 : (2 : Int) ^ 7 = 128 := rfl
  have p8 : (2 : Int) ^ 8 = 256 := rfl
  have p9 : (2 : Int) ^ 9 = 512 := rfl
  rw [p0, p1, p2, p3, p4, p5, p6, p7, p8, p9, Int.ediv_one]
  omega
/-- is there a camera of a set with a light -/
def HASL (lg : Int → Int) (nc se l : Int) : Prop := ∃ c, 0 ≤ c ∧ c < nc ∧ bt se c ∧ lg c = l
noncomputable def NLs (lg : Int → Int) (nc se : Int) : Int := cP (fun l => HASL lg nc se l) 4 0
noncomputable def CHS (lg : Int → Int) (nc se la : Int) : Int := if NLs lg nc se = 0 then 0 else if b2 (la = -1 ∨ HASL lg nc se la) = 1 then NLs lg nc se - 1 else NLs lg nc se
theorem CHS_b (lg : Int → Int) (nc se la : Int) : 0 ≤ CHS lg nc se la ∧ CHS lg nc se la ≤ 4 := by
  have h := cP_b (fun l => HASL lg nc se l) 4 0
  unfold CHS NLs
  split
  · omega
  · split <;> omega
def EXL (lg : Int → Int) (se ll cm : Int) : Prop := ∃ c, 0 ≤ c ∧ c < cm ∧ bt se c ∧ lg c = ll
theorem EXL_0 (lg : Int → Int) (se ll : Int) : ¬ EXL lg se ll 0 := fun ⟨c, a, b, _⟩ => by omega
theorem EXL_old {lg : Int → Int} {se ll cm : Int} (h : EXL lg se ll cm) : EXL lg se ll (cm + 1) := by
  obtain ⟨c, a, b, d⟩ := h
  exact ⟨c, a, by omega, d⟩
theorem EXL_new {lg : Int → Int} {se ll cm : Int} (h0 : 0 ≤ cm) (h1 : bt se cm) (h2 : lg cm = ll) : EXL lg se ll (cm + 1) := ⟨cm, h0, by omega, h1, h2⟩
theorem EXL_no {lg : Int → Int} {se ll cm : Int} (h : ¬ EXL lg se ll cm) (h1 : ¬ (bt se cm ∧ lg cm = ll)) : ¬ EXL lg se ll (cm + 1) := by
  rintro ⟨c, a, b, d, e⟩
  by_cases e9 : c = cm
  · subst e9; exact h1 ⟨d, e⟩
  · exact h ⟨c, a, by omega, d, e⟩
def HSL (lg : Int → Int) (nc se la ll : Int) : Prop := la = -1 ∨ (la < ll ∧ HASL lg nc se la)
theorem HSL_old {lg : Int → Int} {nc se la ll : Int} (h : HSL lg nc se la ll) : HSL lg nc se la (ll + 1) := by
  rcases h with h | h
  · exact Or.inl h
  · exact Or.inr ⟨by have := h.1; omega, h.2⟩
theorem HSL_new {lg : Int → Int} {nc se la ll : Int} (h : HASL lg nc se ll) (e : ll = la) : HSL lg nc se la (ll + 1) := by
  subst e
  exact Or.inr ⟨by omega, h⟩
theorem HSL_no {lg : Int → Int} {nc se la ll : Int} (h : ¬ HSL lg nc se la ll) (h1 : ¬ (HASL lg nc se ll ∧ ll = la)) : ¬ HSL lg nc se la (ll + 1) := by
  rintro (z | z)
  · exact h (Or.inl z)
  · by_cases e9 : ll = la
    · subst e9; exact h1 ⟨z.2, rfl⟩
    · exact h (Or.inr ⟨by have := z.1; omega, z.2⟩)
theorem HSL_0 {lg : Int → Int} {nc se la : Int} (h : -1 ≤ la) (h1 : la ≠ -1) : ¬ HSL lg nc se la 0 := by
  rintro (z | z)
  · exact h1 z
  · have := z.1; omega
theorem HSL_4 {lg : Int → Int} {nc se la ll : Int} (h : la < ll) : HSL lg nc se la ll ↔ (la = -1 ∨ HASL lg nc se la) :=
  ⟨fun z => z.elim Or.inl (fun q => Or.inr q.2), fun z => z.elim Or.inl (fun q => Or.inr ⟨h, q⟩)⟩
