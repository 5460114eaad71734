/-! refresh -/
abbrev EQ5 (u st : SS) : Prop := u 6 = st 6 ∧ u 7 = st 7 ∧ u 11 = st 11 ∧ u 18 = st 18 ∧ u 19 = st 19
theorem sAf_5 {u st : SS} (e : EQ5 u st) (b la c : Int) : sAf u b la c = sAf st b la c := by
  unfold sAf
  rw [e.2.2.1, e.2.1]
theorem CGO_5 {st u : SS} (e : EQ5 u st) (se : Int) : ∀ (n : Nat) (la : Int), CGO u se n la ↔ CGO st se n la
  | 0, _ => Iff.rfl
  | n + 1, la => by
    show (∃ c, 0 ≤ c ∧ c < u 19 2 ∧ (bt se c ∧ bt (u 6 (u 19 3 - (n + 1 : Nat))) c) ∧ ¬ (u 18 (u 19 3 - (n + 1 : Nat)) = 1 ∧ la * u 7 ((u 19 3 - (n + 1 : Nat)) * 10 + c) < 0) ∧ CGO u se n (sAf u (u 19 3 - (n + 1 : Nat)) la c)) ↔ _
    rw [e.2.2.2.2, e.1, e.2.2.2.1, e.2.1]
    refine exists_congr fun c => ?_
    rw [sAf_5 e, CGO_5 e se n]
theorem OKS_5 {st u : SS} (e : EQ5 u st) (s : Int) : OKS u s ↔ OKS st s := by
  unfold OKS
  rw [e.2.2.2.2]
  exact CGO_5 e s _ _
theorem FOUND_5 {st u : SS} (e : EQ5 u st) {r s : Int} (h : FOUND st r s) : FOUND u r s := by
  unfold FOUND NS
  rw [e.2.2.2.2]
  exact ⟨h.1, h.2.1, (OKS_5 e s).mpr h.2.2.1, fun s' a b d z => h.2.2.2.1 s' a b d ((OKS_5 e s').mp z), fun s' a b d z => h.2.2.2.2 s' a b d ((OKS_5 e s').mp z)⟩
theorem FIT_5 {st u : SS} (e : EQ5 u st) (e8 : u 8 = st 8) (b la c : Int) : FIT u b la c ↔ FIT st b la c := by
  unfold FIT
  rw [sAf_5 e, e8, e.2.2.2.1, e.2.1]
theorem RW_5 {st u : SS} (e : EQ5 u st) (e8 : u 8 = st 8) (e21 : u 21 1 = st 21 1) (b la : Int) : RW u b la = RW st b la := by
  have h : fP (fun c => (bt (u 21 1) c ∧ bt (u 6 b) c) ∧ FIT u b la c) (u 19 2).toNat 0 = fP (fun c => (bt (st 21 1) c ∧ bt (st 6 b) c) ∧ FIT st b la c) (st 19 2).toNat 0 := by
    rw [e21, e.1, e.2.2.2.2]
    exact fP_cg _ _ (fun j _ _ => and_congr Iff.rfl (FIT_5 e e8 b la j))
  unfold RW
  rw [h]
theorem LSv_5 {st u : SS} (e : EQ5 u st) (e8 : u 8 = st 8) (e21 : u 21 1 = st 21 1) : ∀ n : Nat, LSv u n = LSv st n
  | 0 => rfl
  | n + 1 => by rw [LSv, LSv, LSv_5 e e8 e21 n, RW_5 e e8 e21, sAf_5 e]
theorem nx_5 {st u : SS} (e4 : u 4 = st 4) (e19 : u 19 = st 19) (le li : Int) : nx u le li = nx st le li := by
  unfold nx nxA
  rw [e4, e19]
theorem SQ_5 {st u : SS} (e4 : u 4 = st 4) (e19 : u 19 = st 19) (e21 : u 21 1 = st 21 1) : ∀ n : Nat, SQ u n = SQ st n
  | 0 => by rw [SQ, SQ, e21]
  | n + 1 => by rw [SQ, SQ, SQ_5 e4 e19 e21 n, nx_5 e4 e19, e4]
noncomputable abbrev SDX (st : SS) (b c : Int) : Int := if st 11 b = 1 then SDL st b (st 3 c) else 0
abbrev TBc (st u : SS) (b c : Int) : Prop := (bt (u 6 b) c ↔ WHYc st b (st 3 c) = 0) ∧ u 7 (b * 10 + c) = SDX st b c
def TBO (st : SS) (bb : Int) (u : SS) : Prop := (∀ k : Nat, k ≠ 6 → k ≠ 7 → k ≠ 21 → u k = st k) ∧ u 21 = up st 21 2 1 21 ∧ (∀ i, 0 ≤ i → i < 8 → 0 ≤ u 6 i ∧ u 6 i < 1024) ∧ (∀ i, 0 ≤ i → i < 80 → -1 ≤ u 7 i ∧ u 7 i ≤ 1) ∧ (∀ b c, 0 ≤ b → b < bb → 0 ≤ c → c < st 19 2 → TBc st u b c)
def TBI (st : SS) (bb cm : Int) (u : SS) : Prop := TBO st bb u ∧ (∀ c, 0 ≤ c → c < cm → TBc st u bb c) ∧ (∀ c, cm ≤ c → ¬ bt (u 6 bb) c)
theorem TBO.ip {st u : SS} {bb : Int} (h : TBO st bb u) (hQ : IP st) : IP u := by
  obtain ⟨a1, a2, a3, a4, a5, a6, a7, a8⟩ := hQ
  unfold IP
  rw [h.1 8 (by decide) (by decide) (by decide), h.1 9 (by decide) (by decide) (by decide), h.1 10 (by decide) (by decide) (by decide), h.2.1, up_i _ _ _ (by decide), up_i _ _ _ (by decide), up_s]
  exact ⟨h.2.2.1, h.2.2.2.1, a3, a4, a5, a6, a7, Or.inr rfl⟩
theorem TBO.ic {st u : SS} {bb : Int} (h : TBO st bb u) (hI : IC st) : IC u := IC_pl hI (fun k a b => h.1 k (by omega) (by omega) b)
theorem TBO_init {st : SS} (hQ : IP st) : TBO st 0 (up st 21 2 1) := ⟨fun k _ _ h => up_k _ _ _ h, rfl, hQ.1, hQ.2.1, fun b c a1 a2 => by omega⟩
theorem bt_0 (c : Int) : ¬ bt 0 c := by unfold bt; simp
theorem TBI_init {st u : SS} {bb : Int} (h : TBO st bb u) : TBI st bb 0 (up u 6 bb 0) := by
  refine ⟨⟨fun k a b d => by rw [up_k _ _ _ a]; exact h.1 k a b d, h.2.1, fun i a b => ?_, h.2.2.2.1, fun b c a1 a2 a3 a4 => ?_⟩, fun c a b => by omega, fun c _ => by rw [up_s]; exact bt_0 c⟩
  · by_cases e : i = bb
    · subst e; rw [up_s]; omega
    · rw [up_i _ _ _ e]; exact h.2.2.1 i a b
  · have := h.2.2.2.2 b c a1 a2 a3 a4
    unfold TBc
    rw [up_i _ _ _ (by omega), up_k _ _ _ (by decide)]
    exact this
theorem TBI_step {st u : SS} {bb cm x y : Int} (h : TBI st bb cm u) (hn : st 19 2 ≤ 10) (hc : 0 ≤ cm ∧ cm < 10) (hb : 0 ≤ bb) (hx : 0 ≤ x ∧ x < 1024) (hx2 : ∀ c, 0 ≤ c → (bt x c ↔ (bt (u 6 bb) c ∨ (c = cm ∧ WHYc st bb (st 3 cm) = 0)))) (hy : y = SDX st bb cm) (hyr : -1 ≤ y ∧ y ≤ 1) : TBI st bb (cm + 1) (up (up u 6 bb x) 7 (bb * 10 + cm) y) := by
  obtain ⟨⟨a1, a2, a3, a4, a5⟩, b1, b2'⟩ := h
  refine ⟨⟨fun k p q r => by rw [up_k _ _ _ q, up_k _ _ _ p]; exact a1 k p q r, a2, fun i p q => ?_, fun i p q => ?_, fun b c p1 p2 p3 p4 => ?_⟩, fun c p q => ?_, fun c p => ?_⟩
  · rw [up_k _ _ _ (by decide)]
    by_cases e : i = bb
    · subst e; rw [up_s]; exact hx
    · rw [up_i _ _ _ e]; exact a3 i p q
  · by_cases e : i = bb * 10 + cm
    · subst e; rw [up_s]; exact hyr
    · rw [up_i _ _ _ e, up_k _ _ _ (by decide)]; exact a4 i p q
  · have := a5 b c p1 p2 p3 p4
    unfold TBc
    rw [up_k _ _ _ (by decide), up_i _ _ _ (by omega), up_i _ _ _ (by omega), up_k _ _ _ (by decide)]
    exact this
  · unfold TBc
    rw [up_k _ _ _ (by decide), up_s]
    by_cases e : c = cm
    · subst e
      rw [up_s]
      refine ⟨?_, hy⟩
      rw [hx2 c p]
      have := b2' c (by omega)
      constructor
      · rintro (z | z)
        · exact absurd z this
        · exact z.2
      · intro z; exact Or.inr ⟨rfl, z⟩
    · rw [up_i _ _ _ (by omega), up_k _ _ _ (by decide)]
      refine ⟨?_, (b1 c p (by omega)).2⟩
      rw [hx2 c p, ← (b1 c p (by omega)).1]
      constructor
      · rintro (z | z)
        · exact z
        · exact absurd z.1 e
      · intro z; exact Or.inl z
  · rw [up_k _ _ _ (by decide), up_s]
    intro z
    rcases (hx2 c (by omega)).mp z with q | q
    · exact b2' c (by omega) q
    · omega
theorem TBO_next {st u : SS} {bb cm : Int} (h : TBI st bb cm u) (hc : st 19 2 ≤ cm) : TBO st (bb + 1) u := by
  obtain ⟨⟨a1, a2, a3, a4, a5⟩, b1, -⟩ := h
  refine ⟨a1, a2, a3, a4, fun b c p1 p2 p3 p4 => ?_⟩
  by_cases e : b = bb
  · subst e; exact b1 c p3 (by omega)
  · exact a5 b c p1 (by omega) p3 p4
/-- behind refresh(), the plan not being known before -/
def RFD (st u : SS) : Prop := (∀ k : Nat, k < 6 ∨ 10 < k → k ≠ 21 → u k = st k) ∧ IP u ∧ u 21 2 = 1 ∧ (∀ b c, 0 ≤ b → b < st 19 3 → 0 ≤ c → c < st 19 2 → TBc st u b c) ∧ ((u 21 0 = -5 ∧ ∀ s, 0 ≤ s → s < NS u → ¬ OKS u s) ∨ ((0 ≤ u 21 0 ∧ u 21 0 ≤ st 19 2) ∧ FOUND u (u 21 0) (u 21 1) ∧ (∀ b l, 0 ≤ b → b ≤ st 19 3 → -1 ≤ l → l ≤ 1 → u 8 (b * 3 + l + 1) = b2 (CGO u (u 21 1) (st 19 3 - b).toNat l)) ∧ (∀ b, 0 ≤ b → b < st 19 3 → u 9 b = RW u b (LSv u b.toNat)) ∧ (∀ i, 0 ≤ i → i < u 21 0 → u 10 i = nx u (SQ u i.toNat).1 (SQ u i.toNat).2)))
theorem IP_u0 {u : SS} {r : Int} (h : IP u) (hr : -5 ≤ r ∧ r ≤ 10) : IP (up u 21 0 r) := by
  obtain ⟨a1, a2, a3, a4, a5, a6, a7, a8⟩ := h
  refine ⟨a1, a2, a3, a4, a5, ?_, ?_, ?_⟩
  · rw [up_s]; exact hr
  · rw [up_i _ _ _ (by decide)]; exact a7
  · rw [up_i _ _ _ (by decide)]; exact a8
theorem SRD.e5 {w u : SS} {r : Int} (h : SRD w r u) : EQ5 u w := ⟨h.1 6 (by decide) (by decide), h.1 7 (by decide) (by decide), h.1 11 (by decide) (by decide), h.1 18 (by decide) (by decide), h.1 19 (by decide) (by decide)⟩
theorem RFD_no {st w u : SS} {bb r : Int} (hT : TBO st bb w) (hb : st 19 3 ≤ bb) (hc : st 19 2 ≤ 10) (h : SRD w r u) (hr : r < 0) : RFD st (up u 21 0 r) := by
  have e5 := h.e5
  have hr5 : r = -5 ∧ ∀ s, 0 ≤ s → s < NS w → ¬ OKS w s := by
    rcases h.2.2.2 with z | z
    · exact z
    · omega
  refine ⟨fun k a b => ?_, IP_u0 h.2.2.1 (by omega), ?_, fun b c a1 a2 a3 a4 => ?_, Or.inl ⟨by rw [up_s]; exact hr5.1, fun s a b z => ?_⟩⟩
  · rw [up_k _ _ _ b, h.1 k (by omega) b, hT.1 k (by omega) (by omega) b]
  · rw [up_i _ _ _ (by decide), h.2.1.2, hT.2.1, up_s]
  · have := hT.2.2.2.2 b c a1 (by omega) a3 a4
    unfold TBc
    rw [up_k _ _ _ (by decide), up_k _ _ _ (by decide), e5.1, e5.2.1]
    exact this
  · have e : EQ5 (up u 21 0 r) w := e5
    refine hr5.2 s a ?_ ((OKS_5 e s).mp z)
    have b' := b
    unfold NS at b' ⊢
    rwa [e.2.2.2.2] at b'
theorem RFD_yes {st w u v z : SS} {bb r : Int} (hI : IC st) (hT : TBO st bb w) (hb : st 19 3 ≤ bb) (h : SRD w r u) (hr : 0 ≤ r) (hv : v = sA (up u 21 0 r) 9 (rwF (up u 21 0 r) ((up u 21 0 r) 19 3))) (hz : z = sA v 10 (sqF v (v 21 0))) : RFD st z := by
  have hs := hI.s
  have e5 := h.e5
  have e19 : w 19 = st 19 := hT.1 19 (by decide) (by decide) (by decide)
  obtain ⟨y1, y2, y3⟩ : (0 ≤ r ∧ r ≤ w 19 2) ∧ FOUND w r (u 21 1) ∧ ∀ b l, 0 ≤ b → b ≤ w 19 3 → -1 ≤ l → l ≤ 1 → u 8 (b * 3 + l + 1) = b2 (CGO w (u 21 1) (w 19 3 - b).toNat l) := by
    rcases h.2.2.2 with q | q
    · omega
    · exact q
  rw [e19] at y1 y3
  have e19u : u 19 = st 19 := by rw [e5.2.2.2.2, e19]
  have hIu : IC (up u 21 0 r) := IC_21 (IC_pl hI (fun k a b => by rw [h.1 k (by omega) b, hT.1 k (by omega) (by omega) b]))
  have hQu : IP (up u 21 0 r) := IP_u0 h.2.2.1 (by omega)
  have hQv : IP v := by rw [hv]; exact IP_9 hQu (rwF_b hQu (by have := hIu.s; omega) _)
  have hIv : IC v := by rw [hv]; exact hIu
  have hQz : IP z := by rw [hz]; exact IP_10 hQv (sqF_b hIv hQv _)
  have z21 : z 21 = (up u 21 0 r) 21 := by rw [hz, hv]; rfl
  have z210 : z 21 0 = r := by rw [z21, up_s]
  have z211 : z 21 1 = u 21 1 := by rw [z21, up_i _ _ _ (by decide)]
  have ez : ∀ k : Nat, k ≠ 9 → k ≠ 10 → k ≠ 21 → z k = u k := by
    intro k p1 p2 p3
    rw [hz, sA_n _ _ p2, hv, sA_n _ _ p1, up_k _ _ _ p3]
  have ez5 : EQ5 z w := ⟨by rw [ez 6 (by decide) (by decide) (by decide), e5.1], by rw [ez 7 (by decide) (by decide) (by decide), e5.2.1], by rw [ez 11 (by decide) (by decide) (by decide), e5.2.2.1], by rw [ez 18 (by decide) (by decide) (by decide), e5.2.2.2.1], by rw [ez 19 (by decide) (by decide) (by decide), e5.2.2.2.2]⟩
  have z19 : z 19 = st 19 := by rw [ez5.2.2.2.2, e19]
  refine ⟨fun k a b => ?_, hQz, ?_, fun b c a1 a2 a3 a4 => ?_, Or.inr ⟨by rw [z210]; exact y1, ?_, fun b l a1 a2 a3 a4 => ?_, fun b a1 a2 => ?_, fun i a1 a2 => ?_⟩⟩
  · rw [ez k (by omega) (by omega) b, h.1 k (by omega) b, hT.1 k (by omega) (by omega) b]
  · rw [z21, up_i _ _ _ (by decide), h.2.1.2, hT.2.1, up_s]
  · have := hT.2.2.2.2 b c a1 (by omega) a3 a4
    unfold TBc
    rw [ez5.1, ez5.2.1]
    exact this
  · rw [z210, z211]
    exact FOUND_5 ez5 y2
  · rw [z211, ez 8 (by decide) (by decide) (by decide), y3 b l a1 a2 a3 a4]
    exact b2_iff (CGO_5 ez5 _ _ _).symm
  · have e1 : z 9 b = RW (up u 21 0 r) b (LSv (up u 21 0 r) b.toNat) := by
      rw [hz, sA_n _ _ (by decide), hv, sA_k]
      unfold rwF
      rw [if_pos ⟨a1, by rw [up_k _ _ _ (by decide), e19u]; exact a2⟩]
    have e2 : EQ5 z (up u 21 0 r) := ⟨ez 6 (by decide) (by decide) (by decide), ez 7 (by decide) (by decide) (by decide), ez 11 (by decide) (by decide) (by decide), ez 18 (by decide) (by decide) (by decide), ez 19 (by decide) (by decide) (by decide)⟩
    have e3 : z 8 = (up u 21 0 r) 8 := ez 8 (by decide) (by decide) (by decide)
    have e4 : z 21 1 = (up u 21 0 r) 21 1 := by rw [z21]
    rw [e1, RW_5 e2 e3 e4, LSv_5 e2 e3 e4]
  · have e1 : z 10 i = nx v (SQ v i.toNat).1 (SQ v i.toNat).2 := by
      rw [hz, sA_k]
      unfold sqF
      rw [if_pos ⟨a1, by rw [z21] at a2; rw [hv, sA_n _ _ (by decide)]; exact a2⟩]
    have e2 : z 4 = v 4 := by rw [hz]; rfl
    have e3 : z 19 = v 19 := by rw [hz]; rfl
    have e4 : z 21 1 = v 21 1 := by rw [hz]; rfl
    rw [e1, nx_5 e2 e3, SQ_5 e2 e3 e4]
theorem SDL_eq {st u : SS} (e0 : u 0 = st 0) (e12 : u 12 = st 12) (e13 : u 13 = st 13) (e15 : u 15 = st 15) (b f : Int) : SDL u b f = SDL st b f := by
  unfold SDL SDM PTc
  rw [e0, e12, e13, e15]
theorem WHYc_eq {st u : SS} (e : ∀ k : Nat, k < 6 ∨ 10 < k → k ≠ 21 → u k = st k) (b f : Int) : WHYc u b f = WHYc st b f := by
  unfold WHYc FLc
  rw [e 0 (by omega) (by omega), e 1 (by omega) (by omega), e 2 (by omega) (by omega), e 11 (by omega) (by omega), e 12 (by omega) (by omega), e 13 (by omega) (by omega), e 14 (by omega) (by omega), e 15 (by omega) (by omega), e 16 (by omega) (by omega), e 19 (by omega) (by omega)]
theorem sbt_zor {x c : Int} (h0 : 0 ≤ x) (h1 : x < 1024) (h2 : 0 ≤ c) (h3 : c < 10) : zor x (zshl 1 c) = sbt x c := by
  have a2 := pw_lt (show c.toNat < 10 by omega)
  rw [zshl_1 h2 (by omega)]
  unfold sbt
  generalize 2 ^ c.toNat = w at a2
  rw [zor_n h0 (by omega) (by omega) (by omega)]
  simp only [Int.toNat_natCast]
theorem zor_0 {x : Int} (h0 : 0 ≤ x) (h1 : x < 1024) : zor x 0 = x := by
  rw [zor_n h0 (by omega) (by omega) (by omega)]
  simp
  omega
theorem sbt_1024 {x c : Int} (h0 : 0 ≤ x) (h1 : x < 1024) (h2 : 0 ≤ c) (h3 : c < 10) : 0 ≤ sbt x c ∧ sbt x c < 1024 := by
  have a1 := pw_lt (show c.toNat < 10 by omega)
  have a2 : x.toNat ||| 2 ^ c.toNat < 2 ^ 10 := or_lt (by omega) a1
  unfold sbt
  omega
