noncomputable abbrev FLm (st : SS) (b f t : Int) : Int := FL (plM st) (st 0 0) (st 0 1) (st 5) (st 6) (st 9 b) (st 10 b) (st 11 b) (st 12 b) (st 13 b) f t
noncomputable abbrev WHYm (st : SS) (b f : Int) : Int := WHY (FLm st b f) (st 14 b - st 13 b + 1).toNat (st 13 b)
noncomputable def TA (st : SS) (b : Int) : Int := lT (fun j => st 9 j = 1) b.toNat
theorem TA_b (st : SS) (b : Int) (h : 0 ≤ b) : TA st b = -1 ∨ (0 ≤ TA st b ∧ TA st b < b ∧ st 9 (TA st b) = 1) := by
  unfold TA
  rcases lT_spec (fun j => st 9 j = 1) b.toNat with q | q
  · exact Or.inl q.1
  · exact Or.inr ⟨q.1, by omega, q.2.2.1⟩
noncomputable abbrev SDm (st : SS) (c b fi se : Int) : Int := sg (crossZ (plM st fi (st 13 b)) (plM st se (st 13 b)) (st 7 c))
noncomputable abbrev PTm (st : SS) (b : Int) : Int := PTN (st 10 b) (st 11 b)
def LOW (m p : Int) : Int := if m < p then m else p
theorem LOW_b {m p : Int} (hm : 0 ≤ m ∧ m < 6) (hp : 0 ≤ p ∧ p < 6) : (0 ≤ LOW m p ∧ LOW m p < 6) ∧ (0 ≤ m + p - LOW m p ∧ m + p - LOW m p < 6) := by
  unfold LOW
  split <;> omega
noncomputable abbrev LOm (st : SS) (b : Int) : Int := LOW (st 10 b) (PTm st b)
noncomputable abbrev HIm (st : SS) (b : Int) : Int := st 10 b + PTm st b - LOm st b
noncomputable def CRSm (st : SS) (a c b d : Int) : Prop := LOm st a = LOm st b ∧ HIm st a = HIm st b ∧ SDm st c a (LOm st a) (HIm st a) * SDm st d b (LOm st a) (HIm st a) < 0
noncomputable def GOES (st : SS) (b la c se : Int) : Prop := ((bt se c ∧ st 17 (8 * c + b) = 1) ∧ ¬ (st 9 b = 1 ∧ la < 10 ∧ TA st b ≠ -1 ∧ CRSm st (TA st b) la b c)) ∧ st 18 (11 * (b + 1) + (if st 9 b = 1 then c else la)) = 1
noncomputable abbrev LENm (st : SS) (b : Int) : Int := LEN (st 13 b) (st 14 b) (st 15 b) (st 0 4)
