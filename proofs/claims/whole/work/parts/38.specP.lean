theorem fR_over {L : Int → Int} : ∀ (n : Nat) (i f : Int), (∀ j, i ≤ j → j < i + n → 1 ≤ L j) → sL L n i ≤ f → fR L n i f = -1
  | 0, _, _, _, _ => rfl
  | n + 1, i, f, h, hs => by
    rw [sL_s] at hs
    have h2 : ∀ (m : Nat) (k : Int), (∀ j, k ≤ j → j < k + m → 1 ≤ L j) → 0 ≤ sL L m k := by
      intro m
      induction m with
      | zero => intro k _; rw [sL]; omega
      | succ m ih =>
        intro k hk
        have := ih (k + 1) (fun j a b => hk j (by omega) (by omega))
        have := hk k (by omega) (by omega)
        rw [sL_s]
        omega
    have h3 := h2 n (i + 1) (fun j a b => h j (by omega) (by omega))
    rw [fR_f (by omega)]
    exact fR_over n (i + 1) _ (fun j a b => h j (by omega) (by omega)) (by omega)
theorem tdiv_rg {a b : Int} (ha : rg a) (h : 0 < b) : rg (a.tdiv b) := by
  rcases Int.le_total 0 a with q | q
  · rw [Int.tdiv_eq_ediv_of_nonneg q]
    have h5 := Int.ediv_nonneg q (Int.le_of_lt h)
    have h6 := Int.ediv_le_self b q
    omega
  · have e : a = -(-a) := by omega
    rw [e, Int.neg_tdiv, Int.tdiv_eq_ediv_of_nonneg (by omega)]
    have h5 := Int.ediv_nonneg (a := -a) (by omega) (Int.le_of_lt h)
    have h6 := Int.ediv_le_self (a := -a) b (by omega)
    omega
def CROKm (st : SS) : Prop := st 0 5 = st 0 3 ∧ ∀ b, 0 ≤ b → b < st 0 3 → WHYm st b (st 7 (st 16 b)) = 0
def CROKn (st : SS) (n : Int) : Prop := st 0 5 = st 0 3 ∧ ∀ b, 0 ≤ b → b < n → WHYm st b (st 7 (st 16 b)) = 0
noncomputable def CXm (st : SS) (b : Int) : Prop := st 9 b = 1 ∧ TA st b ≠ -1 ∧ CRSm st (TA st b) (st 16 (TA st b)) b (st 16 b)
theorem CROKn_y {st : SS} {n : Int} (h : CROKn st n) (hz : WHYm st n (st 7 (st 16 n)) = 0) : CROKn st (n + 1) := ⟨h.1, fun b a c => by
  by_cases e : b = n
  · subst e; exact hz
  · exact h.2 b a (by omega)⟩
theorem CROKn_n {st : SS} {n : Int} (h0 : 0 ≤ n) (hz : ¬ WHYm st n (st 7 (st 16 n)) = 0) : ¬ CROKn st (n + 1) := fun h => hz (h.2 n h0 (by omega))
theorem IM_t0 {st : SS} (h : IM st) : IM (up st 0 5 0) := by
  obtain ⟨a1, a2, a3, a4, a5, a6, a7, a8, a9, a10, a11, a12, a13⟩ := h
  have e : ∀ j, j ≠ 5 → up st 0 5 0 0 j = st 0 j := fun j hj => up_i _ _ _ hj
  refine ⟨?_, a2, a3, a4, a5, a6, a7, a8, a9, a10, a11, ?_, ?_⟩
  · unfold IMs
    rw [e 0 (by decide), e 1 (by decide), e 2 (by decide), e 3 (by decide), e 4 (by decide), up_s]
    unfold IMs at a1
    omega
  · unfold mbl
    rw [e 3 (by decide), e 0 (by decide)]
    exact a12
  · rw [e 1 (by decide)]
    exact a13
noncomputable def NBM (st : SS) (ww zz sp wd : Int) : SS := up (up (up (up (up (up (up (up st 9 (st 0 3) (ww / 1000)) 10 (st 0 3) (ww / 100 % 10)) 11 (st 0 3) (zor (ww % 100) (zshl 1 (ww / 100 % 10)))) 12 (st 0 3) zz) 13 (st 0 3) (sp / 100)) 14 (st 0 3) (sp % 100)) 15 (st 0 3) wd) 0 3 (st 0 3 + 1)
