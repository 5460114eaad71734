/-! the planner's search: what its tables mean -/
def CGO (st : SS) (se : Int) : Nat → Int → Prop
  | 0, _ => True
  | n + 1, la => ∃ c, 0 ≤ c ∧ c < st 19 2 ∧ (bt se c ∧ bt (st 6 (st 19 3 - (n + 1 : Nat))) c) ∧ ¬ (st 18 (st 19 3 - (n + 1 : Nat)) = 1 ∧ la * st 7 ((st 19 3 - (n + 1 : Nat)) * 10 + c) < 0) ∧ CGO st se n (sAf st (st 19 3 - (n + 1 : Nat)) la c)
theorem CGO_s (st : SS) (se : Int) {b la : Int} (h0 : 0 ≤ b) (h1 : b < st 19 3) : CGO st se (st 19 3 - b).toNat la ↔ ∃ c, 0 ≤ c ∧ c < st 19 2 ∧ (bt se c ∧ bt (st 6 b) c) ∧ ¬ (st 18 b = 1 ∧ la * st 7 (b * 10 + c) < 0) ∧ CGO st se (st 19 3 - (b + 1)).toNat (sAf st b la c) := by
  obtain ⟨n, hn⟩ : ∃ n : Nat, n + 1 = (st 19 3 - b).toNat := ⟨(st 19 3 - b).toNat - 1, by omega⟩
  have e1 : st 19 3 - (n + 1 : Nat) = b := by omega
  have e2 : (st 19 3 - (b + 1)).toNat = n := by omega
  rw [← hn, e2]
  show (∃ c, 0 ≤ c ∧ c < st 19 2 ∧ (bt se c ∧ bt (st 6 (st 19 3 - (n + 1 : Nat))) c) ∧ ¬ (st 18 (st 19 3 - (n + 1 : Nat)) = 1 ∧ la * st 7 ((st 19 3 - (n + 1 : Nat)) * 10 + c) < 0) ∧ CGO st se n (sAf st (st 19 3 - (n + 1 : Nat)) la c)) ↔ _
  rw [e1]
theorem CGO_mono (st : SS) {se se' : Int} (h : ∀ c, 0 ≤ c → c < st 19 2 → bt se c → bt se' c) : ∀ (n : Nat) (la : Int), CGO st se n la → CGO st se' n la
  | 0, _, _ => trivial
  | n + 1, la, ⟨c, a, b, d, e, f⟩ => ⟨c, a, b, ⟨h c a b d.1, d.2⟩, e, CGO_mono st h n _ f⟩
theorem IC_pl {st u : SS} (h : IC st) (e : ∀ k : Nat, k < 6 ∨ 10 < k → k ≠ 21 → u k = st k) : IC u := by
  unfold IC ICs bdR bdL
  rw [e 0 (by omega) (by omega), e 1 (by omega) (by omega), e 2 (by omega) (by omega), e 3 (by omega) (by omega), e 4 (by omega) (by omega), e 5 (by omega) (by omega), e 11 (by omega) (by omega), e 12 (by omega) (by omega), e 13 (by omega) (by omega), e 14 (by omega) (by omega), e 15 (by omega) (by omega), e 16 (by omega) (by omega), e 17 (by omega) (by omega), e 18 (by omega) (by omega), e 19 (by omega) (by omega), e 20 (by omega) (by omega)]
  exact h
theorem FIT_eq {st u : SS} (e : ∀ k : Nat, k ≠ 8 → u k = st k) (b la c : Int) : FIT u b la c ↔ (¬ (st 18 b = 1 ∧ la * st 7 (b * 10 + c) < 0) ∧ u 8 ((b + 1) * 3 + 1 + sAf st b la c) = 1) := by
  unfold FIT sAf
  rw [e 18 (by decide), e 7 (by decide), e 11 (by decide)]
/-- canFilm on its way: boards behind bb are done, and bb's sides below la -/
def CFI (st : SS) (se bb la : Int) (u : SS) : Prop := (∀ k : Nat, k ≠ 8 → u k = st k) ∧ (∀ i, 0 ≤ i → i < 27 → u 8 i = 0 ∨ u 8 i = 1) ∧ (∀ b l, bb < b → b ≤ st 19 3 → -1 ≤ l → l ≤ 1 → u 8 (b * 3 + l + 1) = b2 (CGO st se (st 19 3 - b).toNat l)) ∧ (∀ l, -1 ≤ l → l < la → u 8 (bb * 3 + l + 1) = b2 (CGO st se (st 19 3 - bb).toNat l))
theorem CFI.ic {st u : SS} {se bb la : Int} (h : CFI st se bb la u) (hI : IC st) : IC u := IC_pl hI (fun k _ _ => h.1 k (by omega))
theorem CFI.ip {st u : SS} {se bb la : Int} (h : CFI st se bb la u) (hQ : IP st) : IP u := by
  obtain ⟨a1, a2, a3, a4, a5, a6⟩ := hQ
  unfold IP
  rw [h.1 6 (by decide), h.1 7 (by decide), h.1 9 (by decide), h.1 10 (by decide), h.1 21 (by decide)]
  exact ⟨a1, a2, h.2.1, a4, a5, a6⟩
theorem CFI_step {st u : SS} {se bb la v : Int} (h : CFI st se bb la u) (h0 : 0 ≤ bb) (h1 : bb < st 19 3) (h2 : st 19 3 ≤ 8) (h3 : -1 ≤ la) (h4 : la ≤ 1) (hv : v = b2 (CGO st se (st 19 3 - bb).toNat la)) : CFI st se bb (la + 1) (up u 8 (bb * 3 + la + 1) v) := by
  refine ⟨fun k hk => by rw [up_k _ _ _ hk]; exact h.1 k hk, fun i a b => ?_, fun b l a1 a2 a3 a4 => ?_, fun l a1 a2 => ?_⟩
  · by_cases e : i = bb * 3 + la + 1
    · subst e; rw [up_s, hv]; exact b2_01 _
    · rw [up_i _ _ _ e]; exact h.2.1 i a b
  · rw [up_i _ _ _ (by omega)]; exact h.2.2.1 b l a1 a2 a3 a4
  · by_cases e : l = la
    · subst e; rw [up_s, hv]
    · rw [up_i _ _ _ (by omega)]; exact h.2.2.2 l a1 (by omega)
theorem CFI_next {st u : SS} {se bb la : Int} (h : CFI st se bb la u) (hl : 2 ≤ la) : CFI st se (bb - 1) (-1) u := by
  refine ⟨h.1, h.2.1, fun b l a1 a2 a3 a4 => ?_, fun l a1 a2 => by omega⟩
  by_cases e : b = bb
  · subst e; exact h.2.2.2 l a3 (by omega)
  · exact h.2.2.1 b l (by omega) a2 a3 a4
theorem CFI_first {st u : SS} {se bb la : Int} (h : CFI st se bb la u) (hQ : IP st) (h0 : 0 ≤ bb) (h1 : bb < st 19 3) (h2 : st 19 3 ≤ 8) (h2c : st 19 2 ≤ 10) (h3 : -1 ≤ la) (h4 : la ≤ 1) : 0 ≤ fP (fun c => (bt se c ∧ bt (u 6 bb) c) ∧ FIT u bb la c) (u 19 2).toNat 0 ↔ CGO st se (st 19 3 - bb).toNat la := by
  rw [h.1 6 (by decide), h.1 19 (by decide), CGO_s st se h0 h1]
  have key : ∀ c, 0 ≤ c → c < st 19 2 → (((bt se c ∧ bt (st 6 bb) c) ∧ FIT u bb la c) ↔ ((bt se c ∧ bt (st 6 bb) c) ∧ ¬ (st 18 bb = 1 ∧ la * st 7 (bb * 10 + c) < 0) ∧ CGO st se (st 19 3 - (bb + 1)).toNat (sAf st bb la c))) := by
    intro c c0 c1
    rw [FIT_eq h.1]
    have hs := sAf_b hQ (b := bb) (la := la) (c := c) (by omega) (by omega) (by omega)
    have e := h.2.2.1 (bb + 1) (sAf st bb la c) (by omega) (by omega) hs.1 hs.2
    rw [show (bb + 1) * 3 + sAf st bb la c + 1 = (bb + 1) * 3 + 1 + sAf st bb la c by omega] at e
    rw [e]
    refine and_congr Iff.rfl (and_congr Iff.rfl ⟨b2_1, b2_t⟩)
  rcases fP_spec (fun c => (bt se c ∧ bt (st 6 bb) c) ∧ FIT u bb la c) (st 19 2).toNat 0 with ⟨q1, q2⟩ | ⟨q1, q2, q3, q4⟩
  · constructor
    · intro z; omega
    · rintro ⟨c, c0, c1, c2, c3, c4⟩
      exact absurd ((key c c0 c1).mpr ⟨c2, c3, c4⟩) (q2 c c0 (by omega))
  · constructor
    · intro _
      have q5 := (key _ q1 (by omega)).mp q3
      exact ⟨_, q1, by omega, q5.1, q5.2.1, q5.2.2⟩
    · intro _; exact q1
theorem CFI_init {st : SS} (se : Int) (hQ : IP st) (h0 : 0 ≤ st 19 3) (h2 : st 19 3 ≤ 8) : CFI st se (st 19 3 - 1) (-1) (up (up (up st 8 (st 19 3 * 3) 1) 8 (st 19 3 * 3 + 1) 1) 8 (st 19 3 * 3 + 2) 1) := by
  have hx : ∀ i, (up (up (up st 8 (st 19 3 * 3) 1) 8 (st 19 3 * 3 + 1) 1) 8 (st 19 3 * 3 + 2) 1) 8 i = if st 19 3 * 3 ≤ i ∧ i ≤ st 19 3 * 3 + 2 then 1 else st 8 i := by
    intro i
    by_cases e2 : i = st 19 3 * 3 + 2
    · rw [if_pos (by omega), e2, up_s]
    · rw [up_i _ _ _ e2]
      by_cases e1 : i = st 19 3 * 3 + 1
      · rw [if_pos (by omega), e1, up_s]
      · rw [up_i _ _ _ e1]
        by_cases e3 : i = st 19 3 * 3
        · rw [if_pos (by omega), e3, up_s]
        · rw [up_i _ _ _ e3, if_neg (by omega)]
  refine ⟨fun k hk => by rw [up_k _ _ _ hk, up_k _ _ _ hk, up_k _ _ _ hk], fun i a b => ?_, fun b l a1 a2 a3 a4 => ?_, fun l a1 a2 => by omega⟩
  · rw [hx]
    split
    · exact Or.inr rfl
    · exact hQ.c8 i a b
  · have e : b = st 19 3 := by omega
    subst e
    rw [hx, if_pos (by omega), show (st 19 3 - st 19 3).toNat = 0 by omega]
    exact (b2_t trivial).symm
theorem pw10 {n : Int} (h0 : 0 ≤ n) (h1 : n ≤ 10) : 1 ≤ ((2 ^ n.toNat : Nat) : Int) ∧ ((2 ^ n.toNat : Nat) : Int) ≤ 1024 := by
  have h : ∀ j : Nat, j ≤ 10 → 1 ≤ 2 ^ j ∧ 2 ^ j ≤ 1024 := by decide
  have := h n.toNat (by omega)
  omega
abbrev NS (st : SS) : Int := ((2 ^ (st 19 2).toNat : Nat) : Int)
def OKS (st : SS) (s : Int) : Prop := CGO st s (st 19 3).toNat 0
theorem all_bt {n c : Int} (h1 : 0 ≤ c) (h2 : c < n) : bt (((2 ^ n.toNat : Nat) : Int) - 1) c := by
  unfold bt
  have e : (((2 ^ n.toNat : Nat) : Int) - 1).toNat = 2 ^ n.toNat - 1 := by omega
  rw [e, Nat.testBit_two_pow_sub_one]
  exact decide_eq_true (by omega)
theorem OKS_all {st : SS} {s : Int} (h : OKS st s) : OKS st (NS st - 1) := CGO_mono st (fun c a b _ => all_bt a b) _ _ h
def FOUND (st : SS) (r s : Int) : Prop := (0 ≤ s ∧ s < NS st) ∧ popc s = r ∧ OKS st s ∧ (∀ s', 0 ≤ s' → s' < NS st → popc s' < r → ¬ OKS st s') ∧ (∀ s', 0 ≤ s' → s' < s → popc s' = r → ¬ OKS st s')
/-- behind canFilm(se) -/
abbrev CFD (st : SS) (se : Int) (u : SS) : Prop := CFI st se (-1) (-1) u
