/-! the reference's state -/
def PLF (tk pl : Int → Int) (t : Int) : Nat → Int → Int → Int → Int
  | 0, _, _, p => p
  | n + 1, k, b, p => if tk k ≤ t ∧ b < tk k then PLF tk pl t n (k + 1) (tk k) (pl k) else PLF tk pl t n (k + 1) b p
theorem PLF_t {tk pl : Int → Int} {t : Int} {n : Nat} {k b p : Int} (h : tk k ≤ t ∧ b < tk k) : PLF tk pl t (n + 1) k b p = PLF tk pl t n (k + 1) (tk k) (pl k) := by rw [PLF]; exact if_pos h
theorem PLF_f {tk pl : Int → Int} {t : Int} {n : Nat} {k b p : Int} (h : ¬ (tk k ≤ t ∧ b < tk k)) : PLF tk pl t (n + 1) k b p = PLF tk pl t n (k + 1) b p := by rw [PLF]; exact if_neg h
theorem PLF_p {tk pl : Int → Int} {t : Int} : ∀ (n : Nat) (k b p : Int), plc p → (∀ j, k ≤ j → j < k + n → plc (pl j)) → plc (PLF tk pl t n k b p)
  | 0, _, _, _, h, _ => h
  | n + 1, k, b, p, h, hp => by
    rw [PLF]
    split
    · exact PLF_p n (k + 1) _ _ (hp k (by omega) (by omega)) (fun j a c => hp j (by omega) (by omega))
    · exact PLF_p n (k + 1) _ _ h (fun j a c => hp j (by omega) (by omega))
def plM (st : SS) (p t : Int) : Int := PLF (st 3) (st 4) t (st 2 p).toNat (12 * p) 0 (st 1 p)
abbrev IMs (st : SS) : Prop := (0 ≤ st 0 0 ∧ st 0 0 ≤ 6) ∧ (0 ≤ st 0 1 ∧ st 0 1 ≤ 12) ∧ (0 ≤ st 0 2 ∧ st 0 2 ≤ 10) ∧ (0 ≤ st 0 3 ∧ st 0 3 ≤ 8) ∧ (1 ≤ st 0 4 ∧ st 0 4 ≤ 20) ∧ (0 ≤ st 0 5 ∧ st 0 5 ≤ 8)
abbrev bdM (st : SS) (b : Int) : Prop := (0 ≤ st 9 b ∧ st 9 b ≤ 2) ∧ (0 ≤ st 10 b ∧ st 10 b < 6) ∧ (0 ≤ st 11 b ∧ st 11 b < 64) ∧ (0 ≤ st 12 b ∧ st 12 b ≤ 7) ∧ (0 ≤ st 13 b ∧ st 13 b < 60) ∧ (0 ≤ st 14 b ∧ st 14 b < 60) ∧ (0 ≤ st 15 b ∧ st 15 b ≤ 200)
abbrev mbl (st : SS) (b : Int) : Prop := st 10 b < st 0 0 ∧ st 13 b ≤ st 14 b ∧ (∀ p, 0 ≤ p → bt (st 11 b) p → p < st 0 0) ∧ (st 9 b = 1 → ∃ o, 0 ≤ o ∧ o < 6 ∧ o ≠ st 10 b ∧ bt (st 11 b) o)
def IM (st : SS) : Prop := IMs st ∧ (∀ i, 0 ≤ i → i < 6 → plc (st 1 i)) ∧ (∀ i, 0 ≤ i → i < 6 → 0 ≤ st 2 i ∧ st 2 i ≤ 12) ∧ (∀ i, 0 ≤ i → i < 72 → 0 ≤ st 3 i ∧ st 3 i < 60) ∧ (∀ i, 0 ≤ i → i < 72 → plc (st 4 i)) ∧ (∀ i, 0 ≤ i → i < 12 → plc (st 5 i)) ∧ (∀ i, 0 ≤ i → i < 12 → plc (st 6 i)) ∧ (∀ i, 0 ≤ i → i < 10 → plc (st 7 i)) ∧ (∀ i, 0 ≤ i → i < 10 → 0 ≤ st 8 i ∧ st 8 i < 4)
  ∧ (∀ b, 0 ≤ b → b < 8 → bdM st b) ∧ (∀ i, 0 ≤ i → i < 8 → 0 ≤ st 16 i ∧ st 16 i < 10) ∧ (∀ b, 0 ≤ b → b < st 0 3 → mbl st b) ∧ (∀ w, 0 ≤ w → w < st 0 1 → st 5 w ≠ st 6 w)
theorem IM.s {st : SS} (h : IM st) : IMs st := h.1
theorem IM.c1 {st : SS} (h : IM st) (i : Int) (h0 : 0 ≤ i) (h1 : i < 6) : plc (st 1 i) := h.2.1 i h0 h1
theorem IM.c2 {st : SS} (h : IM st) (i : Int) (h0 : 0 ≤ i) (h1 : i < 6) : 0 ≤ st 2 i ∧ st 2 i ≤ 12 := h.2.2.1 i h0 h1
theorem IM.c3 {st : SS} (h : IM st) (i : Int) (h0 : 0 ≤ i) (h1 : i < 72) : 0 ≤ st 3 i ∧ st 3 i < 60 := h.2.2.2.1 i h0 h1
theorem IM.c4 {st : SS} (h : IM st) (i : Int) (h0 : 0 ≤ i) (h1 : i < 72) : plc (st 4 i) := h.2.2.2.2.1 i h0 h1
theorem IM.c5 {st : SS} (h : IM st) (i : Int) (h0 : 0 ≤ i) (h1 : i < 12) : plc (st 5 i) := h.2.2.2.2.2.1 i h0 h1
theorem IM.c6 {st : SS} (h : IM st) (i : Int) (h0 : 0 ≤ i) (h1 : i < 12) : plc (st 6 i) := h.2.2.2.2.2.2.1 i h0 h1
theorem IM.c7 {st : SS} (h : IM st) (i : Int) (h0 : 0 ≤ i) (h1 : i < 10) : plc (st 7 i) := h.2.2.2.2.2.2.2.1 i h0 h1
theorem IM.c8 {st : SS} (h : IM st) (i : Int) (h0 : 0 ≤ i) (h1 : i < 10) : 0 ≤ st 8 i ∧ st 8 i < 4 := h.2.2.2.2.2.2.2.2.1 i h0 h1
theorem IM.bd {st : SS} (h : IM st) (b : Int) (h0 : 0 ≤ b) (h1 : b < 8) : bdM st b := h.2.2.2.2.2.2.2.2.2.1 b h0 h1
theorem IM.c16 {st : SS} (h : IM st) (i : Int) (h0 : 0 ≤ i) (h1 : i < 8) : 0 ≤ st 16 i ∧ st 16 i < 10 := h.2.2.2.2.2.2.2.2.2.2.1 i h0 h1
theorem IM.bl {st : SS} (h : IM st) (b : Int) (h0 : 0 ≤ b) (h1 : b < st 0 3) : mbl st b := h.2.2.2.2.2.2.2.2.2.2.2.1 b h0 h1
theorem IM.w {st : SS} (h : IM st) (w : Int) (h0 : 0 ≤ w) (h1 : w < st 0 1) : st 5 w ≠ st 6 w := h.2.2.2.2.2.2.2.2.2.2.2.2 w h0 h1
def IS (st : SS) : Prop := (∀ i, 0 ≤ i → i < 80 → st 17 i = 0 ∨ st 17 i = 1) ∧ (∀ i, 0 ≤ i → i < 99 → st 18 i = 0 ∨ st 18 i = 1) ∧ (∀ i, 0 ≤ i → i < 8 → 0 ≤ st 19 i ∧ st 19 i < 10) ∧ (0 ≤ st 20 0 ∧ st 20 0 < 1024)
theorem IS.c17 {st : SS} (h : IS st) (i : Int) (h0 : 0 ≤ i) (h1 : i < 80) : st 17 i = 0 ∨ st 17 i = 1 := h.1 i h0 h1
theorem IS.c18 {st : SS} (h : IS st) (i : Int) (h0 : 0 ≤ i) (h1 : i < 99) : st 18 i = 0 ∨ st 18 i = 1 := h.2.1 i h0 h1
theorem IS.c19 {st : SS} (h : IS st) (i : Int) (h0 : 0 ≤ i) (h1 : i < 8) : 0 ≤ st 19 i ∧ st 19 i < 10 := h.2.2.1 i h0 h1
theorem IS.s {st : SS} (h : IS st) : 0 ≤ st 20 0 ∧ st 20 0 < 1024 := h.2.2.2
theorem IM_pl {st u : SS} (h : IM st) (e : ∀ k : Nat, k < 17 → u k = st k) : IM u := by
  unfold IM IMs bdM mbl
  rw [e 0 (by omega), e 1 (by omega), e 2 (by omega), e 3 (by omega), e 4 (by omega), e 5 (by omega), e 6 (by omega), e 7 (by omega), e 8 (by omega), e 9 (by omega), e 10 (by omega), e 11 (by omega), e 12 (by omega), e 13 (by omega), e 14 (by omega), e 15 (by omega), e 16 (by omega)]
  exact h
theorem plM_p {st : SS} (h : IM st) (p t : Int) (h0 : 0 ≤ p) (h1 : p < 6) : plc (plM st p t) := by
  have h2 := h.c2 p h0 h1
  exact PLF_p _ _ _ _ (h.c1 p h0 h1) (fun j a b => h.c4 j (by omega) (by omega))
abbrev bet (v a b : Int) : Prop := (a ≤ v ∧ v ≤ b) ∨ (b ≤ v ∧ v ≤ a)
def ONs (v a b : Int) : Prop := crossZ a b v = 0 ∧ bet (v / 100) (a / 100) (b / 100) ∧ bet (v % 100) (a % 100) (b % 100)
def meetM (p q a b : Int) : Prop := (crossZ p q a * crossZ p q b < 0 ∧ crossZ a b p * crossZ a b q < 0) ∨ ONs a p q ∨ ONs b p q ∨ ONs p a b ∨ ONs q a b
theorem sg_mul (x y : Int) : sg x * sg y < 0 ↔ x * y < 0 := by
  unfold sg
  rcases Int.lt_trichotomy x 0 with h | h | h <;> rcases Int.lt_trichotomy y 0 with k | k | k
  all_goals first
    | (subst h; simp)
    | (subst k; simp)
    | (have := Int.mul_pos_of_neg_of_neg h k; rw [if_neg (by omega), if_pos h, if_neg (by omega), if_pos k]; omega)
    | (have := Int.mul_neg_of_neg_of_pos h k; rw [if_neg (by omega), if_pos h, if_pos k]; omega)
    | (have := Int.mul_neg_of_pos_of_neg h k; rw [if_pos h, if_neg (by omega), if_pos k]; omega)
    | (have := Int.mul_pos h k; rw [if_pos h, if_pos k]; omega)
theorem sg_0 (x : Int) : sg x = 0 ↔ x = 0 := by
  unfold sg
  split
  · omega
  · split <;> omega
