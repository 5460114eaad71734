/-! search, rows, sequences -/
theorem sAf_eq {st u : SS} (e : ∀ k : Nat, k ≠ 8 → k ≠ 21 → u k = st k) (b la c : Int) : sAf u b la c = sAf st b la c := by
  unfold sAf
  rw [e 11 (by decide) (by decide), e 7 (by decide) (by decide)]
theorem CGO_eq {st u : SS} (e : ∀ k : Nat, k ≠ 8 → k ≠ 21 → u k = st k) (se : Int) : ∀ (n : Nat) (la : Int), CGO u se n la ↔ CGO st se n la
  | 0, _ => Iff.rfl
  | n + 1, la => by
    show (∃ c, 0 ≤ c ∧ c < u 19 2 ∧ (bt se c ∧ bt (u 6 (u 19 3 - (n + 1 : Nat))) c) ∧ ¬ (u 18 (u 19 3 - (n + 1 : Nat)) = 1 ∧ la * u 7 ((u 19 3 - (n + 1 : Nat)) * 10 + c) < 0) ∧ CGO u se n (sAf u (u 19 3 - (n + 1 : Nat)) la c)) ↔ _
    rw [e 19 (by decide) (by decide), e 6 (by decide) (by decide), e 18 (by decide) (by decide), e 7 (by decide) (by decide)]
    refine exists_congr fun c => ?_
    rw [sAf_eq e, CGO_eq e se n]
theorem NS_eq {st u : SS} (e : ∀ k : Nat, k ≠ 8 → k ≠ 21 → u k = st k) : NS u = NS st := by
  unfold NS
  rw [e 19 (by decide) (by decide)]
theorem OKS_eq {st u : SS} (e : ∀ k : Nat, k ≠ 8 → k ≠ 21 → u k = st k) (s : Int) : OKS u s ↔ OKS st s := by
  unfold OKS
  rw [e 19 (by decide) (by decide)]
  exact CGO_eq e s _ _
/-- behind search() -/
def SRD (st : SS) (r : Int) (u : SS) : Prop := (∀ k : Nat, k ≠ 8 → k ≠ 21 → u k = st k) ∧ (u 21 0 = st 21 0 ∧ u 21 2 = st 21 2) ∧ IP u ∧ ((r = -5 ∧ ∀ s, 0 ≤ s → s < NS st → ¬ OKS st s) ∨ ((0 ≤ r ∧ r ≤ st 19 2) ∧ FOUND st r (u 21 1) ∧ ∀ b l, 0 ≤ b → b ≤ st 19 3 → -1 ≤ l → l ≤ 1 → u 8 (b * 3 + l + 1) = b2 (CGO st (u 21 1) (st 19 3 - b).toNat l)))
theorem SRD_no {st u : SS} (e : ∀ k : Nat, k ≠ 8 → u k = st k) (hq : IP u) (h : ∀ s, 0 ≤ s → s < NS st → ¬ OKS st s) : SRD st (-5) u :=
  ⟨fun k a _ => e k a, by rw [e 21 (by decide)]; exact ⟨rfl, rfl⟩, hq, Or.inl ⟨rfl, h⟩⟩
theorem SRD_yes {st v u : SS} {r s : Int} (e : ∀ k : Nat, k ≠ 8 → v k = st k) (hq : IP v) (hc : CFD v s u) (hr : 0 ≤ r ∧ r ≤ st 19 2) (hn : NS st ≤ 1024) (hf : FOUND st r s) : SRD st r (up u 21 1 s) := by
  have e2 : ∀ k : Nat, k ≠ 8 → k ≠ 21 → v k = st k := fun k a _ => e k a
  have hq2 := hc.ip hq
  refine ⟨fun k a b => by rw [up_k _ _ _ b, hc.1 k a, e k a], ⟨?_, ?_⟩, ?_, Or.inr ⟨hr, by rw [up_s]; exact hf, fun b l a1 a2 a3 a4 => ?_⟩⟩
  · rw [up_i _ _ _ (by decide), hc.1 21 (by decide), e 21 (by decide)]
  · rw [up_i _ _ _ (by decide), hc.1 21 (by decide), e 21 (by decide)]
  · obtain ⟨a1, a2, a3, a4, a5, a6, a7, a8⟩ := hq2
    refine ⟨a1, a2, a3, a4, a5, ?_, ?_, ?_⟩
    · rw [up_i _ _ _ (by decide)]; exact a6
    · rw [up_s]; have := hf.1; omega
    · rw [up_i _ _ _ (by decide)]; exact a8
  · rw [up_s, up_k _ _ _ (by decide)]
    have e3 : v 19 = st 19 := e 19 (by decide)
    have := hc.2.2.1 b l (by omega) (by rw [e3]; exact a2) a3 a4
    rw [this, e3]
    exact b2_iff (CGO_eq e2 s _ _)
/-- the camera of a board, its last side being la -/
noncomputable def RW (st : SS) (b la : Int) : Int := if 0 < fP (fun c => (bt (st 21 1) c ∧ bt (st 6 b) c) ∧ FIT st b la c) (st 19 2).toNat 0 then fP (fun c => (bt (st 21 1) c ∧ bt (st 6 b) c) ∧ FIT st b la c) (st 19 2).toNat 0 else 0
theorem RW_b {st : SS} (h : 0 ≤ st 19 2 ∧ st 19 2 ≤ 10) (b la : Int) : 0 ≤ RW st b la ∧ RW st b la < 10 := by
  have h1 := fP_b (fun c => (bt (st 21 1) c ∧ bt (st 6 b) c) ∧ FIT st b la c) (st 19 2).toNat 0 (by omega)
  unfold RW
  split <;> omega
noncomputable def LSv (st : SS) : Nat → Int
  | 0 => 0
  | n + 1 => sAf st n (LSv st n) (RW st n (LSv st n))
theorem LSv_b {st : SS} (hQ : IP st) (h : 0 ≤ st 19 2 ∧ st 19 2 ≤ 10) : ∀ n : Nat, n ≤ 8 → -1 ≤ LSv st n ∧ LSv st n ≤ 1
  | 0, _ => by rw [LSv]; omega
  | n + 1, hn => by
    rw [LSv]
    exact sAf_b hQ (by omega) (LSv_b hQ h n (by omega)) (RW_b h _ _)
noncomputable def rwF (st : SS) (n : Int) : Int → Int := fun b => if 0 ≤ b ∧ b < n then RW st b (LSv st b.toNat) else st 9 b
theorem rwF_0 (st : SS) : rwF st 0 = st 9 := by
  funext b
  exact if_neg (by omega)
theorem rwF_s (st : SS) {n : Int} (h : 0 ≤ n) : uf (rwF st n) n (RW st n (LSv st n.toNat)) = rwF st (n + 1) := by
  funext b
  by_cases e : b = n
  · subst e
    rw [uf_s]
    exact (if_pos (by omega)).symm
  · rw [uf_n _ _ e]
    unfold rwF
    by_cases q : 0 ≤ b ∧ b < n
    · rw [if_pos q, if_pos (by omega)]
    · rw [if_neg q, if_neg (by omega)]
theorem rwF_b {st : SS} (hQ : IP st) (h : 0 ≤ st 19 2 ∧ st 19 2 ≤ 10) (n : Int) (i : Int) (h0 : 0 ≤ i) (h1 : i < 8) : 0 ≤ rwF st n i ∧ rwF st n i < 10 := by
  unfold rwF
  split
  · exact RW_b h _ _
  · exact hQ.c9 i h0 h1
theorem IP_9 {st : SS} (hQ : IP st) {f : Int → Int} (hf : ∀ i, 0 ≤ i → i < 8 → 0 ≤ f i ∧ f i < 10) : IP (sA st 9 f) := ⟨hQ.1, hQ.2.1, hQ.2.2.1, hf, hQ.2.2.2.2⟩
theorem IP_10 {st : SS} (hQ : IP st) {f : Int → Int} (hf : ∀ i, 0 ≤ i → i < 10 → 0 ≤ f i ∧ f i < 10) : IP (sA st 10 f) := ⟨hQ.1, hQ.2.1, hQ.2.2.1, hQ.2.2.2.1, hf, hQ.2.2.2.2.2⟩
/-- the next camera by light -/
noncomputable def nxA (st : SS) (le li : Int) : Int := fP (fun c => bt le c ∧ (li < 0 ∨ st 4 c = li)) (st 19 2).toNat 0
noncomputable def nx (st : SS) (le li : Int) : Int := if nxA st le li < 0 then (if 0 < nxA st le (-1) then nxA st le (-1) else 0) else nxA st le li
theorem nxA_b (st : SS) (le li : Int) (h : 0 ≤ st 19 2 ∧ st 19 2 ≤ 10) : -1 ≤ nxA st le li ∧ nxA st le li < 10 := by
  have h1 := fP_b (fun c => bt le c ∧ (li < 0 ∨ st 4 c = li)) (st 19 2).toNat 0 (by omega)
  unfold nxA
  omega
theorem nx_b (st : SS) (le li : Int) (h : 0 ≤ st 19 2 ∧ st 19 2 ≤ 10) : 0 ≤ nx st le li ∧ nx st le li < 10 := by
  have h1 := nxA_b st le li h
  have h2 := nxA_b st le (-1) h
  unfold nx
  split
  · split <;> omega
  · omega
noncomputable def SQ (st : SS) : Nat → Int × Int
  | 0 => (st 21 1, -1)
  | n + 1 => (clr (SQ st n).1 (nx st (SQ st n).1 (SQ st n).2), st 4 (nx st (SQ st n).1 (SQ st n).2))
theorem SQ_b {st : SS} (hI : IC st) (hQ : IP st) : ∀ n : Nat, (0 ≤ (SQ st n).1 ∧ (SQ st n).1 < 1024) ∧ (-1 ≤ (SQ st n).2 ∧ (SQ st n).2 < 4)
  | 0 => by
    have := hQ.s
    rw [SQ]
    dsimp only
    omega
  | n + 1 => by
    have h1 := SQ_b hI hQ n
    have h2 := nx_b st (SQ st n).1 (SQ st n).2 (by have := hI.s; omega)
    have h3 := hI.c4 _ h2.1 h2.2
    have h4 := clr_b (x := (SQ st n).1) (c := nx st (SQ st n).1 (SQ st n).2) h1.1.1 h1.1.2
    rw [SQ]
    dsimp only
    omega
noncomputable def sqF (st : SS) (n : Int) : Int → Int := fun i => if 0 ≤ i ∧ i < n then nx st (SQ st i.toNat).1 (SQ st i.toNat).2 else st 10 i
theorem sqF_0 (st : SS) : sqF st 0 = st 10 := by
  funext b
  exact if_neg (by omega)
theorem sqF_s (st : SS) {n : Int} (h : 0 ≤ n) : uf (sqF st n) n (nx st (SQ st n.toNat).1 (SQ st n.toNat).2) = sqF st (n + 1) := by
  funext b
  by_cases e : b = n
  · subst e
    rw [uf_s]
    exact (if_pos (by omega)).symm
  · rw [uf_n _ _ e]
    unfold sqF
    by_cases q : 0 ≤ b ∧ b < n
    · rw [if_pos q, if_pos (by omega)]
    · rw [if_neg q, if_neg (by omega)]
theorem sqF_b {st : SS} (hI : IC st) (hQ : IP st) (n : Int) (i : Int) (h0 : 0 ≤ i) (h1 : i < 10) : 0 ≤ sqF st n i ∧ sqF st n i < 10 := by
  unfold sqF
  split
  · exact nx_b st _ _ (by have := hI.s; omega)
  · exact hQ.c10 i h0 h1
theorem popc_nn : ∀ n : Nat, n ≤ 10 → ∀ a : Nat, a < 32 → ∀ b : Nat, b < 32 → 32 * a + b < 2 ^ n → popc ((32 * a + b : Nat) : Int) ≤ n := by decide +kernel
theorem popc_nc {s n : Int} (h0 : 0 ≤ s) (h1 : s < ((2 ^ n.toNat : Nat) : Int)) (h2 : 0 ≤ n) (h3 : n ≤ 10) : popc s ≤ n := by
  have h5 := pw10 h2 h3
  have h4 := popc_nn n.toNat (by omega) (s.toNat / 32) (by omega) (s.toNat % 32) (by omega) (by omega)
  rw [show ((32 * (s.toNat / 32) + s.toNat % 32 : Nat) : Int) = s by omega] at h4
  omega
