/-! finds, order -/
abbrev NSm (st : SS) : Int := ((2 ^ (st 0 2).toNat : Nat) : Int)
def OKM (st : SS) (s : Int) : Prop := CGM st s (st 0 3).toNat 10
theorem OKM_e {u st : SS} (e : E18 u st) (s : Int) : OKM u s ↔ OKM st s := by
  unfold OKM
  rw [e 0 (by omega)]
  exact CGM_e e s _ _
def FOUNDm (st : SS) (r s : Int) : Prop := (0 ≤ s ∧ s < NSm st) ∧ popc s = r ∧ OKM st s ∧ (∀ s', 0 ≤ s' → s' < NSm st → popc s' < r → ¬ OKM st s') ∧ (∀ s', 0 ≤ s' → s' < s → popc s' = r → ¬ OKM st s')
theorem RM_e {u st : SS} (e : E18 u st) (se b la : Int) : RM u se b la = RM st se b la := by
  unfold RM
  rw [e 0 (by omega)]
  exact fP_cg _ _ (fun j _ _ => GOx_e e se b la j)
theorem LM_e {u st : SS} (e : E18 u st) (se : Int) : ∀ n : Nat, LM u se n = LM st se n
  | 0 => rfl
  | n + 1 => by rw [LM, LM, LM_e e se n, RM_e e, nla_e e]
theorem WHYm_e {u st : SS} (e : ∀ k : Nat, k < 17 → u k = st k) (b f : Int) : WHYm u b f = WHYm st b f := by
  have e1 : plM u = plM st := by
    funext p t
    unfold plM
    rw [e 1 (by omega), e 2 (by omega), e 3 (by omega), e 4 (by omega)]
  unfold WHYm FLm
  rw [e1, e 0 (by omega), e 5 (by omega), e 6 (by omega), e 9 (by omega), e 10 (by omega), e 11 (by omega), e 12 (by omega), e 13 (by omega), e 14 (by omega)]
noncomputable abbrev GVv (st : SS) (c b : Int) : Int := b2 (WHYm st b (st 7 c) = 0)
def GVI (st : SS) (cm bb : Int) (u : SS) : Prop := (∀ k : Nat, k ≠ 17 → u k = st k) ∧ (∀ i, 0 ≤ i → i < 80 → u 17 i = 0 ∨ u 17 i = 1) ∧ (∀ c b, 0 ≤ c → c < cm → 0 ≤ b → b < st 0 3 → u 17 (8 * c + b) = GVv st c b) ∧ (∀ b, 0 ≤ b → b < bb → u 17 (8 * cm + b) = GVv st cm b)
theorem GVI_init {st : SS} (hQ : IS st) : GVI st 0 0 st := ⟨fun _ _ => rfl, hQ.c17, fun c b a1 a2 => by omega, fun b a1 a2 => by omega⟩
theorem GVI_step {st u : SS} {cm bb v : Int} (h : GVI st cm bb u) (hc : 0 ≤ cm) (hb : 0 ≤ bb ∧ bb < 8) (hn : st 0 3 ≤ 8) (hv : v = GVv st cm bb) : GVI st cm (bb + 1) (up u 17 (8 * cm + bb) v) := by
  refine ⟨fun k hk => by rw [up_k _ _ _ hk]; exact h.1 k hk, fun i a b => ?_, fun c b a1 a2 a3 a4 => ?_, fun b a1 a2 => ?_⟩
  · by_cases e : i = 8 * cm + bb
    · subst e; rw [up_s, hv]; exact b2_01 _
    · rw [up_i _ _ _ e]; exact h.2.1 i a b
  · rw [up_i _ _ _ (by omega)]; exact h.2.2.1 c b a1 a2 a3 a4
  · by_cases e : b = bb
    · subst e; rw [up_s, hv]
    · rw [up_i _ _ _ (by omega)]; exact h.2.2.2 b a1 (by omega)
theorem GVI_next {st u : SS} {cm bb : Int} (h : GVI st cm bb u) (hb : st 0 3 ≤ bb) : GVI st (cm + 1) 0 u := by
  refine ⟨h.1, h.2.1, fun c b a1 a2 a3 a4 => ?_, fun b a1 a2 => by omega⟩
  by_cases e : c = cm
  · subst e; exact h.2.2.2 b a3 (by omega)
  · exact h.2.2.1 c b a1 (by omega) a3 a4
theorem GVI.im {st u : SS} {cm bb : Int} (h : GVI st cm bb u) (hI : IM st) : IM u := IM_pl hI (fun k hk => h.1 k (by omega))
theorem GVI.is {st u : SS} {cm bb : Int} (h : GVI st cm bb u) (hQ : IS st) : IS u := by
  obtain ⟨a1, a2, a3, a4⟩ := hQ
  unfold IS
  rw [h.1 18 (by decide), h.1 19 (by decide), h.1 20 (by decide)]
  exact ⟨h.2.1, a2, a3, a4⟩
/-- behind finds() -/
def FND (st : SS) (r : Int) (u : SS) : Prop := (∀ k : Nat, k < 17 → u k = st k) ∧ IS u ∧ (∀ c b, 0 ≤ c → c < st 0 2 → 0 ≤ b → b < st 0 3 → u 17 (8 * c + b) = GVv st c b) ∧ ((r = -5 ∧ ∀ s, 0 ≤ s → s < NSm st → ¬ OKM u s) ∨ ((0 ≤ r ∧ r ≤ st 0 2) ∧ FOUNDm u r (u 20 0) ∧ ∀ b, 0 ≤ b → b < st 0 3 → u 19 b = RM u (u 20 0) b (LM u (u 20 0) b.toNat)))
theorem FND_no {st w v : SS} {cm bb : Int} (hg : GVI st cm bb w) (hc : st 0 2 ≤ cm) (e : ∀ k : Nat, k ≠ 18 → k ≠ 19 → v k = w k) (hq : IS v) (h : ∀ s, 0 ≤ s → s < NSm st → ¬ OKM w s) : FND st (-5) v :=
  ⟨fun k hk => by rw [e k (by omega) (by omega), hg.1 k (by omega)], hq, fun c b a1 a2 a3 a4 => by rw [e 17 (by decide) (by decide)]; exact hg.2.2.1 c b a1 (by omega) a3 a4, Or.inl ⟨rfl, fun s a b z => h s a b ((OKM_e (fun k hk => e k (by omega) (by omega)) s).mp z)⟩⟩
theorem FND_yes {st w v u : SS} {cm bb r s : Int} (hg : GVI st cm bb w) (hc : st 0 2 ≤ cm) (e : ∀ k : Nat, k ≠ 18 → k ≠ 19 → v k = w k) (hq : IS v) (hd : PLD v s 1 u) (hr : 0 ≤ r ∧ r ≤ st 0 2) (hn : NSm st ≤ 1024) (hs : 0 ≤ s ∧ s < NSm st) (hp : popc s = r) (h1 : ∀ s', 0 ≤ s' → s' < NSm st → popc s' < r → ¬ OKM w s') (h2 : ∀ s', 0 ≤ s' → s' < s → popc s' = r → ¬ OKM w s') : FND st r (up u 20 0 s) := by
  have hpr := hd.2.2 rfl
  have hok : OKM v s := b2_1 hd.1.symm
  have e0 : w 0 = st 0 := hg.1 0 (by decide)
  have ev0 : v 0 = st 0 := by rw [e 0 (by decide) (by decide), e0]
  have evw : E18 v w := fun k hk => e k (by omega) (by omega)
  have ev : E18 (up u 20 0 s) v := fun k hk => by rw [up_k _ _ _ (by omega), hpr.1 k (by omega) (by omega)]
  have ew : E18 (up u 20 0 s) w := fun k hk => by rw [ev k hk, evw k hk]
  have hq2 := hpr.is hq
  refine ⟨fun k hk => by rw [ew k (by omega), hg.1 k (by omega)], ?_, fun c b a1 a2 a3 a4 => ?_, Or.inr ⟨hr, ?_, fun b a1 a2 => ?_⟩⟩
  · obtain ⟨a1, a2, a3, a4⟩ := hq2
    exact ⟨a1, a2, a3, by rw [up_s]; omega⟩
  · rw [ew 17 (by omega)]; exact hg.2.2.1 c b a1 (by omega) a3 a4
  · rw [up_s]
    have e19 : NSm (up u 20 0 s) = NSm st := by unfold NSm; rw [ew 0 (by omega), e0]
    refine ⟨by rw [e19]; exact hs, hp, (OKM_e ev s).mpr hok, fun s' a b d z => h1 s' a (by rw [e19] at b; exact b) d ((OKM_e ew s').mp z), fun s' a b d z => h2 s' a b d ((OKM_e ew s').mp z)⟩
  · rw [up_s, up_k _ _ _ (by decide), hpr.2.2.2.2 b a1 (by rw [ev0]; exact a2), RM_e ev, LM_e ev]
/-! the order by lights -/
noncomputable def nxAg (lg : Int → Int) (nc le li : Int) : Int := fP (fun c => bt le c ∧ (li < 0 ∨ lg c = li)) nc.toNat 0
noncomputable def nxg (lg : Int → Int) (nc le li : Int) : Int := if nxAg lg nc le li < 0 then (if 0 < nxAg lg nc le (-1) then nxAg lg nc le (-1) else 0) else nxAg lg nc le li
noncomputable def SQg (lg : Int → Int) (nc s0 : Int) : Nat → Int × Int
  | 0 => (s0, -1)
  | n + 1 => (clr (SQg lg nc s0 n).1 (nxg lg nc (SQg lg nc s0 n).1 (SQg lg nc s0 n).2), lg (nxg lg nc (SQg lg nc s0 n).1 (SQg lg nc s0 n).2))
theorem nx_g (st : SS) (le li : Int) : nx st le li = nxg (st 4) (st 19 2) le li := rfl
theorem SQ_g (st : SS) : ∀ n : Nat, SQ st n = SQg (st 4) (st 19 2) (st 21 1) n
  | 0 => rfl
  | n + 1 => by rw [SQ, SQg, SQ_g st n]; rfl
def ACC (lg : Int → Int) (nc le la c : Int) : Prop := bt le c ∧ (la = -1 ∨ ¬ HASL lg nc le la ∨ lg c = la)
theorem NXG {lg : Int → Int} {nc le la : Int} (hla : -1 ≤ la) (hne : ∃ c, 0 ≤ c ∧ c < nc ∧ bt le c) : (0 ≤ nxg lg nc le la ∧ nxg lg nc le la < nc) ∧ ACC lg nc le la (nxg lg nc le la) ∧ ∀ j, 0 ≤ j → j < nxg lg nc le la → ¬ ACC lg nc le la j := by
  obtain ⟨c, c0, c1, c2⟩ := hne
  rcases fP_spec (fun c => bt le c ∧ (la < 0 ∨ lg c = la)) nc.toNat 0 with ⟨q1, q2⟩ | ⟨q1, q2, q3, q4⟩
  · -- none with that light
    have hl : ¬ la < 0 := fun z => q2 c c0 (by omega) ⟨c2, Or.inl z⟩
    have hnh : ¬ HASL lg nc le la := fun ⟨d, d0, d1, d2, d3⟩ => q2 d d0 (by omega) ⟨d2, Or.inr d3⟩
    rcases fP_spec (fun c => bt le c ∧ ((-1 : Int) < 0 ∨ lg c = -1)) nc.toNat 0 with ⟨r1, r2⟩ | ⟨r1, r2, r3, r4⟩
    · exact absurd ⟨c2, Or.inl (by decide)⟩ (r2 c c0 (by omega))
    · have e : nxg lg nc le la = nxAg lg nc le (-1) := by
        unfold nxg
        have e1 : nxAg lg nc le la = -1 := q1
        rw [if_pos (by omega)]
        split
        · rfl
        · have : 0 ≤ nxAg lg nc le (-1) := r1
          omega
      rw [e]
      exact ⟨⟨r1, by have : nxAg lg nc le (-1) < 0 + (nc.toNat : Int) := r2; omega⟩, ⟨r3.1, Or.inr (Or.inl hnh)⟩, fun j a b z => r4 j a b ⟨z.1, Or.inl (by decide)⟩⟩
  · have e : nxg lg nc le la = nxAg lg nc le la := by
      unfold nxg
      have : 0 ≤ nxAg lg nc le la := q1
      rw [if_neg (by omega)]
    rw [e]
    refine ⟨⟨q1, by have : nxAg lg nc le la < 0 + (nc.toNat : Int) := q2; omega⟩, ⟨q3.1, ?_⟩, fun j a b z => q4 j a b ⟨z.1, ?_⟩⟩
    · rcases q3.2 with z | z
      · exact Or.inl (by omega)
      · exact Or.inr (Or.inr z)
    · rcases z.2 with y | y | y
      · exact Or.inl (by omega)
      · by_cases hl : la < 0
        · exact Or.inl hl
        · exfalso
          rcases q3.2 with w | w
          · exact hl w
          · exact y ⟨_, q1, by omega, q3.1, w⟩
      · exact Or.inr y
def dlt (la l : Int) : Int := if la ≠ -1 ∧ l ≠ la then 1 else 0
theorem HASL_clr {lg : Int → Int} {nc se c l : Int} (hc : 0 ≤ c) (hl : l ≠ lg c) : HASL lg nc (clr se c) l ↔ HASL lg nc se l := by
  constructor
  · rintro ⟨d, d0, d1, d2, d3⟩
    exact ⟨d, d0, d1, ((clr_bt d hc d0).mp d2).1, d3⟩
  · rintro ⟨d, d0, d1, d2, d3⟩
    exact ⟨d, d0, d1, (clr_bt d hc d0).mpr ⟨d2, fun e => hl (by rw [← d3, e])⟩, d3⟩
theorem NLs_4 (lg : Int → Int) (nc se : Int) : NLs lg nc se = b2 (HASL lg nc se 0) + (b2 (HASL lg nc se 1) + (b2 (HASL lg nc se 2) + b2 (HASL lg nc se 3))) := by
  unfold NLs
  simp only [cP]
  simp
theorem CHS_acc {lg : Int → Int} {nc se c la : Int} (h0 : 0 ≤ c) (h1 : c < nc) (hb : bt se c) (hl : 0 ≤ lg c ∧ lg c < 4) (hla : -1 ≤ la ∧ la < 4) : CHS lg nc (clr se c) (lg c) + dlt la (lg c) = CHS lg nc se la ↔ (la = -1 ∨ ¬ HASL lg nc se la ∨ lg c = la) := by
  have hs : HASL lg nc se (lg c) := ⟨c, h0, h1, hb, rfl⟩
  -- the first part is one less than the lights there are
  have k1 : CHS lg nc (clr se c) (lg c) = NLs lg nc se - 1 := by
    have hx : NLs lg nc se = NLs lg nc (clr se c) + 1 - b2 (HASL lg nc (clr se c) (lg c)) := by
      rw [NLs_4, NLs_4]
      have e := fun l (h : l ≠ lg c) => b2_iff (HASL_clr (lg := lg) (nc := nc) (se := se) (c := c) (l := l) h0 h)
      have e1 := b2_t hs
      rcases (show lg c = 0 ∨ lg c = 1 ∨ lg c = 2 ∨ lg c = 3 by omega) with q | q | q | q
      · rw [q] at e1 e ⊢
        rw [e 1 (by omega), e 2 (by omega), e 3 (by omega), e1]
        omega
      · rw [q] at e1 e ⊢
        rw [e 0 (by omega), e 2 (by omega), e 3 (by omega), e1]
        omega
      · rw [q] at e1 e ⊢
        rw [e 0 (by omega), e 1 (by omega), e 3 (by omega), e1]
        omega
      · rw [q] at e1 e ⊢
        rw [e 0 (by omega), e 1 (by omega), e 2 (by omega), e1]
        omega
    unfold CHS
    rcases Classical.em (HASL lg nc (clr se c) (lg c)) with q | q
    · rw [b2_t q] at hx
      rw [if_neg (fun z => by
        have h9 := cP_b (fun l => HASL lg nc (clr se c) l) 4 0
        have h8 := NLs_4 lg nc (clr se c)
        have z1 := b2_01 (HASL lg nc (clr se c) 0)
        have z2 := b2_01 (HASL lg nc (clr se c) 1)
        have z3 := b2_01 (HASL lg nc (clr se c) 2)
        have z4 := b2_01 (HASL lg nc (clr se c) 3)
        have z5 := b2_t q
        rcases (show lg c = 0 ∨ lg c = 1 ∨ lg c = 2 ∨ lg c = 3 by omega) with y | y | y | y <;> rw [y] at z5 <;> omega), if_pos (b2_t (Or.inr q))]
      omega
    · rw [b2_f q] at hx
      split
      · omega
      · rw [if_neg (fun z => (b2_1 z).elim (fun y => by omega) q)]
        omega
  have k2 : 1 ≤ NLs lg nc se := by
    have h8 := NLs_4 lg nc se
    have z1 := b2_01 (HASL lg nc se 0)
    have z2 := b2_01 (HASL lg nc se 1)
    have z3 := b2_01 (HASL lg nc se 2)
    have z4 := b2_01 (HASL lg nc se 3)
    have z5 := b2_t hs
    rcases (show lg c = 0 ∨ lg c = 1 ∨ lg c = 2 ∨ lg c = 3 by omega) with y | y | y | y <;> rw [y] at z5 <;> omega
  rw [k1]
  unfold CHS dlt
  rw [if_neg (show ¬ NLs lg nc se = 0 by omega)]
  by_cases e1 : la = -1
  · rw [if_neg (fun z => z.1 e1), if_pos (b2_t (Or.inl e1))]
    constructor
    · intro _; exact Or.inl e1
    · intro _; omega
  · by_cases e2 : HASL lg nc se la
    · rw [if_pos (b2_t (Or.inr e2))]
      by_cases e3 : lg c = la
      · rw [if_neg (fun z => z.2 e3)]
        exact ⟨fun _ => Or.inr (Or.inr e3), fun _ => by omega⟩
      · rw [if_pos ⟨e1, e3⟩]
        exact ⟨fun z => by omega, fun z => by rcases z with z | z | z; exact absurd z e1; exact absurd e2 z; exact absurd z e3⟩
    · have e3 : lg c ≠ la := fun z => e2 (by rw [← z]; exact hs)
      rw [if_pos ⟨e1, e3⟩, if_neg (fun z => (b2_1 z).elim e1 e2)]
      exact ⟨fun _ => Or.inr (Or.inl e2), fun _ => by omega⟩
theorem popc_clr {x c : Int} (h0 : 0 ≤ x) (h1 : x < 1024) (hc : 0 ≤ c ∧ c < 10) (hb : bt x c) : popc (clr x c) = popc x - 1 := by
  have hz := clr_b (x := x) (c := c) h0 h1
  rw [← popc_cP hz.1, ← popc_cP h0]
  have e : ∀ k, 0 ≤ k → b2 (bt (clr x c) k) = if k = c then 0 else b2 (bt x k) := by
    intro k hk
    by_cases q : k = c
    · rw [if_pos q]; exact b2_f (fun z => ((clr_bt k hc.1 hk).mp z).2 q)
    · rw [if_neg q]; exact b2_iff ⟨fun z => ((clr_bt k hc.1 hk).mp z).1, fun z => (clr_bt k hc.1 hk).mpr ⟨z, q⟩⟩
  have eb := b2_t hb
  simp only [cP]
  rw [e 0 (by omega), e (0 + 1) (by omega), e (0 + 1 + 1) (by omega), e (0 + 1 + 1 + 1) (by omega), e (0 + 1 + 1 + 1 + 1) (by omega), e (0 + 1 + 1 + 1 + 1 + 1) (by omega), e (0 + 1 + 1 + 1 + 1 + 1 + 1) (by omega), e (0 + 1 + 1 + 1 + 1 + 1 + 1 + 1) (by omega), e (0 + 1 + 1 + 1 + 1 + 1 + 1 + 1 + 1) (by omega), e (0 + 1 + 1 + 1 + 1 + 1 + 1 + 1 + 1 + 1) (by omega)]
  rcases (show c = 0 ∨ c = 0 + 1 ∨ c = 0 + 1 + 1 ∨ c = 0 + 1 + 1 + 1 ∨ c = 0 + 1 + 1 + 1 + 1 ∨ c = 0 + 1 + 1 + 1 + 1 + 1 ∨ c = 0 + 1 + 1 + 1 + 1 + 1 + 1 ∨ c = 0 + 1 + 1 + 1 + 1 + 1 + 1 + 1 ∨ c = 0 + 1 + 1 + 1 + 1 + 1 + 1 + 1 + 1 ∨ c = 0 + 1 + 1 + 1 + 1 + 1 + 1 + 1 + 1 + 1 by omega) with q | q | q | q | q | q | q | q | q | q <;> subst q <;> simp at * <;> omega
theorem popc_pos {x : Int} (h0 : 0 ≤ x) (h : 0 < popc x) : ∃ c, 0 ≤ c ∧ c < 10 ∧ bt x c := by
  rw [← popc_cP h0] at h
  have key : ∀ (n : Nat) (i : Int), 0 < cP (fun k => bt x k) n i → ∃ c, i ≤ c ∧ c < i + n ∧ bt x c := by
    intro n
    induction n with
    | zero => intro i hi; rw [cP] at hi; omega
    | succ n ih =>
      intro i hi
      rw [cP_s] at hi
      rcases Classical.em (bt x i) with q | q
      · exact ⟨i, by omega, by omega, q⟩
      · rw [b2_f q] at hi
        obtain ⟨c, a, b, d⟩ := ih (i + 1) (by omega)
        exact ⟨c, by omega, by omega, d⟩
  obtain ⟨c, a, b, d⟩ := key 10 0 h
  exact ⟨c, a, by omega, d⟩
theorem bt_lt {x n c : Int} (h0 : 0 ≤ x) (h1 : x < ((2 ^ n.toNat : Nat) : Int)) (hc : 0 ≤ c) (h : bt x c) : c < n := by
  rcases Int.lt_or_le c n with q | q
  · exact q
  · exfalso
    unfold bt at h
    have h2 : x.toNat < 2 ^ c.toNat := Nat.lt_of_lt_of_le (show x.toNat < 2 ^ n.toNat by omega) (Nat.pow_le_pow_right (by decide) (by omega))
    rw [Nat.testBit_lt_two_pow h2] at h
    cases h
