/-! the reference's search -/
noncomputable def nla (st : SS) (b la c : Int) : Int := if st 9 b = 1 then c else la
noncomputable def CXx (st : SS) (b la c : Int) : Prop := st 9 b = 1 ∧ la < 10 ∧ TA st b ≠ -1 ∧ CRSm st (TA st b) la b c
noncomputable def CGM (st : SS) (se : Int) : Nat → Int → Prop
  | 0, _ => True
  | n + 1, la => ∃ c, 0 ≤ c ∧ c < st 0 2 ∧ ((bt se c ∧ st 17 (8 * c + (st 0 3 - (n + 1 : Nat))) = 1) ∧ ¬ CXx st (st 0 3 - (n + 1 : Nat)) la c) ∧ CGM st se n (nla st (st 0 3 - (n + 1 : Nat)) la c)
/-- camera c may take board b -/
noncomputable def GOx (st : SS) (se b la c : Int) : Prop := ((bt se c ∧ st 17 (8 * c + b) = 1) ∧ ¬ CXx st b la c) ∧ CGM st se (st 0 3 - (b + 1)).toNat (nla st b la c)
theorem CGM_s (st : SS) (se : Int) {b la : Int} (h0 : 0 ≤ b) (h1 : b < st 0 3) : CGM st se (st 0 3 - b).toNat la ↔ ∃ c, 0 ≤ c ∧ c < st 0 2 ∧ GOx st se b la c := by
  obtain ⟨n, hn⟩ : ∃ n : Nat, n + 1 = (st 0 3 - b).toNat := ⟨(st 0 3 - b).toNat - 1, by omega⟩
  have e1 : st 0 3 - (n + 1 : Nat) = b := by omega
  have e2 : (st 0 3 - (b + 1)).toNat = n := by omega
  unfold GOx
  rw [← hn, e2]
  show (∃ c, 0 ≤ c ∧ c < st 0 2 ∧ ((bt se c ∧ st 17 (8 * c + (st 0 3 - (n + 1 : Nat))) = 1) ∧ ¬ CXx st (st 0 3 - (n + 1 : Nat)) la c) ∧ CGM st se n (nla st (st 0 3 - (n + 1 : Nat)) la c)) ↔ _
  rw [e1]
abbrev E18 (u st : SS) : Prop := ∀ k : Nat, k < 18 → u k = st k
theorem plM_e {u st : SS} (e : E18 u st) (p t : Int) : plM u p t = plM st p t := by
  unfold plM
  rw [e 1 (by omega), e 2 (by omega), e 3 (by omega), e 4 (by omega)]
theorem TA_e {u st : SS} (e : E18 u st) (b : Int) : TA u b = TA st b := by
  unfold TA
  rw [e 9 (by omega)]
theorem CRSm_e {u st : SS} (e : E18 u st) (a c b d : Int) : CRSm u a c b d ↔ CRSm st a c b d := by
  unfold CRSm LOm HIm SDm LOm PTm
  rw [e 10 (by omega), e 11 (by omega), e 13 (by omega), e 7 (by omega)]
  simp only [plM_e e]
theorem CXx_e {u st : SS} (e : E18 u st) (b la c : Int) : CXx u b la c ↔ CXx st b la c := by
  unfold CXx
  rw [TA_e e, e 9 (by omega), CRSm_e e]
theorem nla_e {u st : SS} (e : E18 u st) (b la c : Int) : nla u b la c = nla st b la c := by
  unfold nla
  rw [e 9 (by omega)]
theorem CGM_e {u st : SS} (e : E18 u st) (se : Int) : ∀ (n : Nat) (la : Int), CGM u se n la ↔ CGM st se n la
  | 0, _ => Iff.rfl
  | n + 1, la => by
    show (∃ c, 0 ≤ c ∧ c < u 0 2 ∧ ((bt se c ∧ u 17 (8 * c + (u 0 3 - (n + 1 : Nat))) = 1) ∧ ¬ CXx u (u 0 3 - (n + 1 : Nat)) la c) ∧ CGM u se n (nla u (u 0 3 - (n + 1 : Nat)) la c)) ↔ _
    rw [e 0 (by omega), e 17 (by omega)]
    refine exists_congr fun c => ?_
    rw [CXx_e e, nla_e e, CGM_e e se n]
theorem GOx_e {u st : SS} (e : E18 u st) (se b la c : Int) : GOx u se b la c ↔ GOx st se b la c := by
  unfold GOx
  rw [CXx_e e, nla_e e, CGM_e e, e 17 (by omega), e 0 (by omega)]
/-- plans on its way -/
def PLI (st : SS) (se bb la : Int) (u : SS) : Prop := (∀ k : Nat, k ≠ 18 → u k = st k) ∧ (∀ i, 0 ≤ i → i < 99 → u 18 i = 0 ∨ u 18 i = 1) ∧ (∀ b l, bb < b → b ≤ st 0 3 → 0 ≤ l → l ≤ 10 → u 18 (11 * b + l) = b2 (CGM st se (st 0 3 - b).toNat l)) ∧ (∀ l, 0 ≤ l → l < la → u 18 (11 * bb + l) = b2 (CGM st se (st 0 3 - bb).toNat l))
def PLJ (st : SS) (se bb la cm : Int) (u : SS) : Prop := PLI st se bb la u ∧ u 18 (11 * bb + la) = b2 (bb = st 0 3 ∨ (bb < st 0 3 ∧ ∃ c, 0 ≤ c ∧ c < cm ∧ GOx st se bb la c))
theorem PLI.im {st u : SS} {se bb la : Int} (h : PLI st se bb la u) (hI : IM st) : IM u := IM_pl hI (fun k hk => h.1 k (by omega))
theorem PLI.is {st u : SS} {se bb la : Int} (h : PLI st se bb la u) (hQ : IS st) : IS u := by
  obtain ⟨a1, a2, a3, a4⟩ := hQ
  unfold IS
  rw [h.1 17 (by decide), h.1 19 (by decide), h.1 20 (by decide)]
  exact ⟨a1, h.2.1, a3, a4⟩
theorem PLI_init {st : SS} (se : Int) (hQ : IS st) : PLI st se (st 0 3) 0 st := ⟨fun _ _ => rfl, hQ.c18, fun b l a1 a2 => by omega, fun l a1 a2 => by omega⟩
theorem PLI_up {st u : SS} {se bb la v : Int} (h : PLI st se bb la u) (hb : 0 ≤ bb) (hl : 0 ≤ la ∧ la ≤ 10) (hv : v = 0 ∨ v = 1) : PLI st se bb la (up u 18 (11 * bb + la) v) := by
  refine ⟨fun k hk => by rw [up_k _ _ _ hk]; exact h.1 k hk, fun i a b => ?_, fun b l a1 a2 a3 a4 => ?_, fun l a1 a2 => ?_⟩
  · by_cases e : i = 11 * bb + la
    · subst e; rw [up_s]; exact hv
    · rw [up_i _ _ _ e]; exact h.2.1 i a b
  · rw [up_i _ _ _ (by omega)]; exact h.2.2.1 b l a1 a2 a3 a4
  · rw [up_i _ _ _ (by omega)]; exact h.2.2.2 l a1 a2
theorem PLJ_init {st u : SS} {se bb la v : Int} (h : PLI st se bb la u) (hb : 0 ≤ bb) (hl : 0 ≤ la ∧ la ≤ 10) (hv : v = b2 (bb = st 0 3)) : PLJ st se bb la 0 (up u 18 (11 * bb + la) v) := by
  refine ⟨PLI_up h hb hl (by rw [hv]; exact b2_01 _), ?_⟩
  rw [up_s, hv]
  refine b2_iff ⟨Or.inl, fun z => z.elim id (fun q => ?_)⟩
  obtain ⟨-, c, a, b, -⟩ := q
  omega
theorem GOES_iff {st u : SS} {se bb la c : Int} (h : PLI st se bb la u) (hb : 0 ≤ bb ∧ bb < st 0 3) (hl : 0 ≤ la ∧ la ≤ 10) (hc : 0 ≤ c ∧ c < 10) : GOES u bb la c se ↔ GOx st se bb la c := by
  have e : ∀ k : Nat, k ≠ 18 → u k = st k := h.1
  have e18 : E18 u st := fun k hk => e k (by omega)
  have hn : 0 ≤ nla st bb la c ∧ nla st bb la c ≤ 10 := by unfold nla; split <;> omega
  have h3 := h.2.2.1 (bb + 1) (nla st bb la c) (by omega) (by omega) hn.1 hn.2
  unfold GOES GOx
  rw [TA_e e18, e 9 (by decide), e 17 (by decide)]
  show ((bt se c ∧ st 17 (8 * c + bb) = 1) ∧ ¬ (st 9 bb = 1 ∧ la < 10 ∧ TA st bb ≠ -1 ∧ CRSm u (TA st bb) la bb c)) ∧ u 18 (11 * (bb + 1) + nla st bb la c) = 1 ↔ _
  rw [CRSm_e e18, h3]
  exact and_congr Iff.rfl ⟨b2_1, b2_t⟩
theorem PLJ_step {st u : SS} {se bb la cm v : Int} (h : PLJ st se bb la cm u) (hb : 0 ≤ bb ∧ bb < st 0 3) (hl : 0 ≤ la ∧ la ≤ 10) (hc : 0 ≤ cm) (hv : v = b2 (u 18 (11 * bb + la) = 1 ∨ GOx st se bb la cm)) : PLJ st se bb la (cm + 1) (up u 18 (11 * bb + la) v) := by
  refine ⟨PLI_up h.1 hb.1 hl (by rw [hv]; exact b2_01 _), ?_⟩
  rw [up_s, hv, h.2]
  refine b2_iff ⟨fun z => Or.inr ⟨hb.2, ?_⟩, fun z => ?_⟩
  · rcases z with z | z
    · rcases b2_1 z with q | ⟨-, c, a, b, d⟩
      · omega
      · exact ⟨c, a, by omega, d⟩
    · exact ⟨cm, hc, by omega, z⟩
  · rcases z with z | ⟨-, c, a, b, d⟩
    · omega
    · by_cases e : c = cm
      · subst e; exact Or.inr d
      · exact Or.inl (b2_t (Or.inr ⟨hb.2, c, a, by omega, d⟩))
theorem PLJ_done {st u : SS} {se bb la cm : Int} (h : PLJ st se bb la cm u) (hb : 0 ≤ bb ∧ bb ≤ st 0 3) (hl : 0 ≤ la ∧ la ≤ 10) (hd : cm = st 0 2 ∨ st 0 3 ≤ bb) : PLI st se bb (la + 1) u := by
  obtain ⟨⟨a1, a2, a3, a4⟩, a5⟩ := h
  refine ⟨a1, a2, a3, fun l p q => ?_⟩
  by_cases e : l = la
  · subst e
    rw [a5]
    by_cases e2 : bb = st 0 3
    · rw [b2_t (Or.inl e2), show (st 0 3 - bb).toNat = 0 by omega]
      exact (b2_t trivial).symm
    · have e3 : cm = st 0 2 := by omega
      rw [e3]
      refine b2_iff ?_
      rw [CGM_s st se hb.1 (by omega)]
      exact ⟨fun z => z.elim (fun q => absurd q e2) (fun q => q.2), fun z => Or.inr ⟨by omega, z⟩⟩
  · exact a4 l p (by omega)
theorem PLI_next {st u : SS} {se bb la : Int} (h : PLI st se bb la u) (hl : 11 ≤ la) : PLI st se (bb - 1) 0 u := by
  refine ⟨h.1, h.2.1, fun b l a1 a2 a3 a4 => ?_, fun l a1 a2 => by omega⟩
  by_cases e : b = bb
  · subst e; exact h.2.2.2 l a3 (by omega)
  · exact h.2.2.1 b l (by omega) a2 a3 a4
/-- the reference's camera of a board, and the last two's camera before it -/
noncomputable def RM (st : SS) (se b la : Int) : Int := fP (fun c => GOx st se b la c) (st 0 2).toNat 0
noncomputable def LM (st : SS) (se : Int) : Nat → Int
  | 0 => 10
  | n + 1 => nla st n (LM st se n) (RM st se n (LM st se n))
theorem RM_ok {st : SS} {se b la : Int} (h0 : 0 ≤ b) (h1 : b < st 0 3) (h : CGM st se (st 0 3 - b).toNat la) : (0 ≤ RM st se b la ∧ RM st se b la < st 0 2) ∧ GOx st se b la (RM st se b la) ∧ ∀ j, 0 ≤ j → j < RM st se b la → ¬ GOx st se b la j := by
  obtain ⟨c, a, d, e⟩ := (CGM_s st se h0 h1).mp h
  unfold RM
  rcases fP_spec (fun c => GOx st se b la c) (st 0 2).toNat 0 with ⟨q1, q2⟩ | ⟨q1, q2, q3, q4⟩
  · exact absurd e (q2 c a (by omega))
  · exact ⟨⟨q1, by omega⟩, q3, q4⟩
/-- behind plans(se), its rows up to n being written -/
def PLR (st : SS) (se n : Int) (u : SS) : Prop := (∀ k : Nat, k ≠ 18 → k ≠ 19 → u k = st k) ∧ (∀ i, 0 ≤ i → i < 99 → u 18 i = 0 ∨ u 18 i = 1) ∧ (∀ b l, 0 ≤ b → b ≤ st 0 3 → 0 ≤ l → l ≤ 10 → u 18 (11 * b + l) = b2 (CGM st se (st 0 3 - b).toNat l)) ∧ (∀ i, 0 ≤ i → i < 8 → 0 ≤ u 19 i ∧ u 19 i < 10) ∧ (∀ b, 0 ≤ b → b < n → u 19 b = RM st se b (LM st se b.toNat))
theorem PLR.im {st u : SS} {se n : Int} (h : PLR st se n u) (hI : IM st) : IM u := IM_pl hI (fun k hk => h.1 k (by omega) (by omega))
theorem PLR.is {st u : SS} {se n : Int} (h : PLR st se n u) (hQ : IS st) : IS u := by
  obtain ⟨a1, a2, a3, a4⟩ := hQ
  unfold IS
  rw [h.1 17 (by decide) (by decide), h.1 20 (by decide) (by decide)]
  exact ⟨a1, h.2.1, h.2.2.2.1, a4⟩
theorem PLR_init {st u : SS} {se bb : Int} (h : PLI st se bb 0 u) (hb : bb = -1) (hQ : IS st) : PLR st se 0 u := by
  subst hb
  exact ⟨fun k a _ => h.1 k a, h.2.1, fun b l a1 a2 a3 a4 => h.2.2.1 b l (by omega) a2 a3 a4, by rw [h.1 19 (by decide)]; exact hQ.c19, fun b a1 a2 => by omega⟩
theorem GOES_iff2 {st u : SS} {se n bb la c : Int} (h : PLR st se n u) (hb : 0 ≤ bb ∧ bb < st 0 3) (hl : 0 ≤ la ∧ la ≤ 10) (hc : 0 ≤ c ∧ c < 10) : GOES u bb la c se ↔ GOx st se bb la c := by
  have e18 : E18 u st := fun k hk => h.1 k (by omega) (by omega)
  have hn : 0 ≤ nla st bb la c ∧ nla st bb la c ≤ 10 := by unfold nla; split <;> omega
  have h3 := h.2.2.1 (bb + 1) (nla st bb la c) (by omega) (by omega) hn.1 hn.2
  unfold GOES GOx
  rw [TA_e e18, e18 9 (by decide), e18 17 (by decide)]
  show ((bt se c ∧ st 17 (8 * c + bb) = 1) ∧ ¬ (st 9 bb = 1 ∧ la < 10 ∧ TA st bb ≠ -1 ∧ CRSm u (TA st bb) la bb c)) ∧ u 18 (11 * (bb + 1) + nla st bb la c) = 1 ↔ _
  rw [CRSm_e e18, h3]
  exact and_congr Iff.rfl ⟨b2_1, b2_t⟩
theorem PLR_step {st u : SS} {se n v : Int} (h : PLR st se n u) (hn : 0 ≤ n) (hv : v = RM st se n (LM st se n.toNat)) (hr : 0 ≤ v ∧ v < 10) : PLR st se (n + 1) (up u 19 n v) := by
  refine ⟨fun k a b => by rw [up_k _ _ _ b]; exact h.1 k a b, h.2.1, h.2.2.1, fun i a b => ?_, fun b a1 a2 => ?_⟩
  · by_cases e : i = n
    · subst e; rw [up_s]; exact hr
    · rw [up_i _ _ _ e]; exact h.2.2.2.1 i a b
  · by_cases e : b = n
    · subst e; rw [up_s]; exact hv
    · rw [up_i _ _ _ e]; exact h.2.2.2.2 b a1 (by omega)
/-- behind plans(se) -/
def PLD (st : SS) (se : Int) (r : Int) (u : SS) : Prop := r = b2 (CGM st se (st 0 3).toNat 10) ∧ PLR st se 0 u ∧ (r = 1 → PLR st se (st 0 3) u)
theorem CROK_of {st : SS} {n : Int} (h : CROKn st n) (hn : st 0 5 ≤ n) : CROKm st := ⟨h.1, fun b a c => h.2 b a (by have := h.1; omega)⟩
theorem CROK_no {st : SS} {n : Int} (h : ¬ CROKn st n) (hn : n ≤ st 0 5) : ¬ CROKm st := fun z => h ⟨z.1, fun b a c => z.2 b a (by have := z.1; omega)⟩
