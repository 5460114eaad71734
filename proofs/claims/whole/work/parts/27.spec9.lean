/-! the plan is fresh -/
def REFR (st u : SS) : Prop := (st 21 2 = 1 ∧ u = st) ∨ (st 21 2 = 0 ∧ RFD st u)
theorem REFR.ip {st u : SS} (h : REFR st u) (hQ : IP st) : IP u := by
  rcases h with h | h
  · rw [h.2]; exact hQ
  · exact h.2.2.1
theorem REFR.e {st u : SS} (h : REFR st u) : ∀ k : Nat, k < 6 ∨ 10 < k → k ≠ 21 → u k = st k := by
  rcases h with h | h
  · intro k _ _; rw [h.2]
  · exact h.2.1
theorem REFR.ic {st u : SS} (h : REFR st u) (hI : IC st) : IC u := IC_pl hI h.e
theorem zor_64 {x m : Int} (h0 : 0 ≤ x) (h1 : x < 64) (h2 : 0 ≤ m) (h3 : m < 6) : 0 ≤ zor x (zshl 1 m) ∧ zor x (zshl 1 m) < 64 := by
  have a1 := pw_lt (show m.toNat < 6 by omega)
  have a2 : x.toNat ||| 2 ^ m.toNat < 2 ^ 6 := or_lt (by omega) a1
  rw [sbt_zor h0 (by omega) h2 (by omega)]
  unfold sbt
  omega
theorem pw6 {n : Int} (h0 : 0 ≤ n) (h1 : n ≤ 6) : 1 ≤ ((2 ^ n.toNat : Nat) : Int) ∧ ((2 ^ n.toNat : Nat) : Int) ≤ 64 := by
  have h : ∀ j : Nat, j ≤ 6 → 1 ≤ 2 ^ j ∧ 2 ^ j ≤ 64 := by decide
  have := h n.toNat (by omega)
  omega
abbrev BOARDp (np ww zz sp wd : Int) : Prop := WHOp np ww ∧ SPANp sp ∧ (1 ≤ zz ∧ zz ≤ 7) ∧ (0 ≤ wd ∧ wd ≤ 200)
abbrev STEPp (np pp tt ff : Int) : Prop := inP np pp ∧ (1 ≤ tt ∧ tt < 60) ∧ plc ff
abbrev WALLp (ff gg : Int) : Prop := plc ff ∧ plc gg ∧ ff ≠ gg
noncomputable def NB (st : SS) (ww zz sp wd : Int) : SS := B7 st (st 19 3) (ww / 1000) (ww / 100 % 10) (zor (ww % 100) (zshl 1 (ww / 100 % 10))) zz (sp / 100) (sp % 100) wd
noncomputable def NBD (st : SS) (ww zz sp wd : Int) : SS := up (up (NB st ww zz sp wd) 18 (st 19 3) (b2 (ww / 1000 = 1 ∧ SLT (NB st ww zz sp wd) (st 19 3) = spk (ww / 100 % 10) (PTN (ww / 100 % 10) (zor (ww % 100) (zshl 1 (ww / 100 % 10))))))) 19 3 (st 19 3 + 1)
def CROK (st : SS) : Prop := st 19 5 = st 19 3 ∧ ∀ b, 0 ≤ b → b < st 19 3 → WHYc st b (st 3 (st 5 b)) = 0
