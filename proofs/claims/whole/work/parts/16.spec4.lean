/-! changes of the state -/
def sA (st : SS) (k : Nat) (f : Int → Int) : SS := fun k' => if k' = k then f else st k'
theorem up_s (st : SS) (k : Nat) (i v : Int) : up st k i v k i = v := by unfold up; rw [if_pos rfl, uf_s]
theorem up_k (st : SS) {k k' : Nat} (i v : Int) (h : k' ≠ k) : up st k i v k' = st k' := if_neg h
theorem up_i (st : SS) (k : Nat) {i j : Int} (v : Int) (h : j ≠ i) : up st k i v k j = st k j := by unfold up; rw [if_pos rfl, uf_n _ _ h]
theorem up_f (st : SS) (k : Nat) (i v : Int) : up st k i v k = uf (st k) i v := if_pos rfl
theorem sA_k (st : SS) (k : Nat) (f : Int → Int) : sA st k f k = f := if_pos rfl
theorem sA_n (st : SS) {k k' : Nat} (f : Int → Int) (h : k' ≠ k) : sA st k f k' = st k' := if_neg h
theorem sA_self (st : SS) (k : Nat) : sA st k (st k) = st := by
  funext k'
  by_cases h : k' = k
  · subst h; exact sA_k _ _ _
  · exact sA_n _ _ h
theorem up_sA (st : SS) (k : Nat) (f : Int → Int) (i v : Int) : up (sA st k f) k i v = sA st k (uf f i v) := by
  funext k'
  by_cases h : k' = k
  · subst h; rw [up_f, sA_k, sA_k]
  · rw [up_k _ _ _ h, sA_n _ _ h, sA_n _ _ h]
theorem up_eq (st : SS) (k : Nat) (i v : Int) : up st k i v = sA st k (uf (st k) i v) := by
  rw [← up_sA, sA_self]
theorem uf_same (f : Int → Int) (i v w : Int) : uf (uf f i v) i w = uf f i w := by
  funext j
  by_cases h : j = i
  · subst h; rw [uf_s, uf_s]
  · rw [uf_n _ _ h, uf_n _ _ h, uf_n _ _ h]
/-- n places from a on hold v -/
def fil (f : Int → Int) (a n v : Int) : Int → Int := fun i => if a ≤ i ∧ i < a + n then v else f i
theorem fil_0 (f : Int → Int) (a v : Int) : fil f a 0 v = f := by
  funext i
  exact if_neg (by omega)
theorem fil_s (f : Int → Int) {a n : Int} (v : Int) (h : 0 ≤ n) : uf (fil f a n v) (a + n) v = fil f a (n + 1) v := by
  funext i
  by_cases e : i = a + n
  · subst e
    rw [uf_s]
    exact (if_pos (by omega)).symm
  · rw [uf_n _ _ e]
    unfold fil
    by_cases q : a ≤ i ∧ i < a + n
    · rw [if_pos q, if_pos (by omega)]
    · rw [if_neg q, if_neg (by omega)]
theorem fil_in (f : Int → Int) {a n i : Int} (v : Int) (h : a ≤ i ∧ i < a + n) : fil f a n v i = v := if_pos h
theorem fil_out (f : Int → Int) {a n i : Int} (v : Int) (h : ¬ (a ≤ i ∧ i < a + n)) : fil f a n v i = f i := if_neg h
theorem IC_21 {st : SS} {i v : Int} (h : IC st) : IC (up st 21 i v) := h
/-! steps' bits -/
def sbt (x t : Int) : Int := ((x.toNat ||| 2 ^ t.toNat : Nat) : Int)
theorem sbt_bt {x t : Int} (k : Int) (h4 : 0 ≤ t) (hk : 0 ≤ k) : bt (sbt x t) k ↔ bt x k ∨ k = t := by
  unfold bt sbt
  simp only [Int.toNat_natCast]
  rw [Nat.testBit_or, Nat.testBit_two_pow]
  by_cases e : t = k
  · subst e; simp
  · have e2 : ¬ t.toNat = k.toNat := by omega
    have e3 : ¬ k = t := fun z => e z.symm
    simp [e2, e3]
theorem sbt_b {x t : Int} (h0 : 0 ≤ x) (h1 : x < 1152921504606846976) (h2 : 0 ≤ t) (h3 : t < 60) : 0 ≤ sbt x t ∧ sbt x t < 1152921504606846976 := by
  have a1 := pw_lt (show t.toNat < 60 by omega)
  have a2 : x.toNat ||| 2 ^ t.toNat < 2 ^ 60 := or_lt (by omega) a1
  unfold sbt
  omega
theorem ln_or (a b : Nat) : lN a ||| lN b = lN (a ||| b) := by
  apply Int64.toBitVec_inj.1
  show BitVec.ofNat 64 a ||| BitVec.ofNat 64 b = BitVec.ofNat 64 (a ||| b)
  apply BitVec.eq_of_getLsbD_eq
  intro i hi
  simp [hi]
theorem lshl_1n : ∀ j : Nat, j < 60 → zlshl 1 (j : Int) = ((2 ^ j : Nat) : Int) := by decide +kernel
theorem sbt_z {x t : Int} (h0 : 0 ≤ x) (h1 : x < 1152921504606846976) (h2 : 0 ≤ t) (h3 : t < 60) : zlor x (zlshl 1 t) = sbt x t := by
  obtain ⟨a, rfl⟩ := Int.eq_ofNat_of_zero_le h0
  obtain ⟨j, rfl⟩ := Int.eq_ofNat_of_zero_le h2
  rw [lshl_1n j (by omega)]
  have a1 := pw_lt (show j < 60 by omega)
  have a2 : a ||| 2 ^ j < 2 ^ 60 := or_lt (by omega) a1
  unfold zlor sbt
  simp only [Int.toNat_natCast]
  rw [lZ_lN, lZ_lN, ln_or, ← lZ_lN]
  exact lZ_t (by omega) (by omega)
/-! the JDK's counts of bits -/
def lj1 (x : Int) : Int := x - zland (zlushr x 1) 6148914691236517205
def lj2 (x : Int) : Int := zland x 3689348814741910323 + zland (zlushr x 2) 3689348814741910323
def lj3 (x : Int) : Int := zland (x + zlushr x 4) 1085102592571150095
def lj4 (x : Int) : Int := x + zlushr x 8
def lj5 (x : Int) : Int := x + zlushr x 16
def lj6 (x : Int) : Int := x + zlushr x 32
def ljbc (x : Int) : Int := zand (zl2i (lj6 (lj5 (lj4 (lj3 (lj2 (lj1 x))))))) 127
theorem ljbc_b (x : Int) : 0 ≤ ljbc x ∧ ljbc x ≤ 127 := by
  unfold ljbc zand
  generalize iZ (zl2i (lj6 (lj5 (lj4 (lj3 (lj2 (lj1 x))))))) = y
  have e : iZ 127 = (127 : Int32) := by decide +kernel
  rw [e, pk_and y (m := 127) 7 (by decide +kernel), nI_toInt (by omega)]
  omega
def ij1 (x : Int) : Int := x - zand (zushr x 1) 1431655765
def ij2 (x : Int) : Int := zand x 858993459 + zand (zushr x 2) 858993459
def ij3 (x : Int) : Int := zand (x + zushr x 4) 252645135
def ij4 (x : Int) : Int := x + zushr x 8
def ij5 (x : Int) : Int := x + zushr x 16
def ijbc (x : Int) : Int := zand (ij5 (ij4 (ij3 (ij2 (ij1 x))))) 63
/-- how many bits a mask of ten has -/
def popc (v : Int) : Int := v % 2 + v / 2 % 2 + v / 4 % 2 + v / 8 % 2 + v / 16 % 2 + v / 32 % 2 + v / 64 % 2 + v / 128 % 2 + v / 256 % 2 + v / 512 % 2
theorem ijbc_n : ∀ a : Nat, a < 32 → ∀ b : Nat, b < 32 → ijbc ((32 * a + b : Nat) : Int) = popc ((32 * a + b : Nat) : Int) := by decide +kernel
theorem ijbc_z {x : Int} (h0 : 0 ≤ x) (h1 : x < 1024) : ijbc x = popc x := by
  have h2 := ijbc_n (x.toNat / 32) (by omega) (x.toNat % 32) (by omega)
  have e : ((32 * (x.toNat / 32) + x.toNat % 32 : Nat) : Int) = x := by omega
  rwa [e] at h2
theorem popc_b {x : Int} : 0 ≤ popc x ∧ popc x ≤ 10 := by
  unfold popc
  omega
/-- the board's first seven fields are written -/
def B7 (st : SS) (b k m q z f t w : Int) : SS := up (up (up (up (up (up (up st 11 b k) 12 b m) 13 b q) 14 b z) 15 b f) 16 b t) 17 b w
theorem B7_n (st : SS) (b k m q z f t w : Int) {j : Nat} (h : j < 11 ∨ 17 < j) : B7 st b k m q z f t w j = st j := by
  unfold B7
  rw [up_k _ _ _ (by omega), up_k _ _ _ (by omega), up_k _ _ _ (by omega), up_k _ _ _ (by omega), up_k _ _ _ (by omega), up_k _ _ _ (by omega), up_k _ _ _ (by omega)]
theorem B7_i (st : SS) (b k m q z f t w : Int) {i : Int} (h : i ≠ b) (j : Nat) : B7 st b k m q z f t w j i = st j i := by
  have e : ∀ (s : SS) (k : Nat) (v : Int), up s k b v j i = s j i := by
    intro s k v
    by_cases hk : j = k
    · subst hk; exact up_i _ _ _ h
    · rw [up_k _ _ _ hk]
  unfold B7
  rw [e, e, e, e, e, e, e]
theorem B7_11 (st : SS) (b k m q z f t w : Int) : B7 st b k m q z f t w 11 b = k := by unfold B7; rw [up_k _ _ _ (by decide), up_k _ _ _ (by decide), up_k _ _ _ (by decide), up_k _ _ _ (by decide), up_k _ _ _ (by decide), up_k _ _ _ (by decide), up_s]
theorem B7_12 (st : SS) (b k m q z f t w : Int) : B7 st b k m q z f t w 12 b = m := by unfold B7; rw [up_k _ _ _ (by decide), up_k _ _ _ (by decide), up_k _ _ _ (by decide), up_k _ _ _ (by decide), up_k _ _ _ (by decide), up_s]
theorem B7_13 (st : SS) (b k m q z f t w : Int) : B7 st b k m q z f t w 13 b = q := by unfold B7; rw [up_k _ _ _ (by decide), up_k _ _ _ (by decide), up_k _ _ _ (by decide), up_k _ _ _ (by decide), up_s]
theorem B7_14 (st : SS) (b k m q z f t w : Int) : B7 st b k m q z f t w 14 b = z := by unfold B7; rw [up_k _ _ _ (by decide), up_k _ _ _ (by decide), up_k _ _ _ (by decide), up_s]
theorem B7_15 (st : SS) (b k m q z f t w : Int) : B7 st b k m q z f t w 15 b = f := by unfold B7; rw [up_k _ _ _ (by decide), up_k _ _ _ (by decide), up_s]
theorem B7_16 (st : SS) (b k m q z f t w : Int) : B7 st b k m q z f t w 16 b = t := by unfold B7; rw [up_k _ _ _ (by decide), up_s]
theorem B7_17 (st : SS) (b k m q z f t w : Int) : B7 st b k m q z f t w 17 b = w := by unfold B7; rw [up_s]
/-- IC of a state that agrees in all but the boards, out of what is told of them -/
theorem IC_of {st u : SS} (h : IC st) (e : ∀ j : Nat, j < 6 ∨ 18 < j → j ≠ 21 → u j = st j) (hb : ∀ b, 0 ≤ b → b < 8 → bdR u b) (hl : ∀ b, 0 ≤ b → b < st 19 3 → bdL u b) : IC u := by
  obtain ⟨a1, a2, a3, a4, a5, a6, a7, -, a9, -, a11, a12, a13⟩ := h
  unfold IC ICs
  rw [e 0 (by omega) (by omega), e 1 (by omega) (by omega), e 2 (by omega) (by omega), e 3 (by omega) (by omega), e 4 (by omega) (by omega), e 5 (by omega) (by omega), e 19 (by omega) (by omega), e 20 (by omega) (by omega)]
  exact ⟨a1, a2, a3, a4, a5, a6, a7, hb, a9, hl, a11, a12, a13⟩
theorem IC_B7 {st : SS} (h : IC st) {k m q z f t w : Int} (hn : st 19 3 < 8) (hk : 0 ≤ k ∧ k ≤ 2) (hm : 0 ≤ m ∧ m < 6) (hq : 0 ≤ q ∧ q < 64) (hz : 0 ≤ z ∧ z ≤ 7) (hf : 0 ≤ f ∧ f < 60) (ht : 0 ≤ t ∧ t < 60) (hw : 0 ≤ w ∧ w ≤ 200) : IC (B7 st (st 19 3) k m q z f t w) := by
  have hs := h.s
  refine IC_of h (fun j hj _ => B7_n _ _ _ _ _ _ _ _ _ (by omega)) (fun b h0 h1 => ?_) (fun b h0 h1 => ?_)
  · by_cases e : b = st 19 3
    · subst e
      unfold bdR
      rw [B7_11, B7_12, B7_13, B7_14, B7_15, B7_16, B7_17, B7_n _ _ _ _ _ _ _ _ _ (j := 18) (by omega)]
      exact ⟨hk, hm, hq, hz, hf, ht, hw, (h.bd _ h0 h1).2.2.2.2.2.2.2⟩
    · have := h.bd b h0 h1
      unfold bdR
      rw [B7_i _ _ _ _ _ _ _ _ _ e, B7_i _ _ _ _ _ _ _ _ _ e, B7_i _ _ _ _ _ _ _ _ _ e, B7_i _ _ _ _ _ _ _ _ _ e, B7_i _ _ _ _ _ _ _ _ _ e, B7_i _ _ _ _ _ _ _ _ _ e, B7_i _ _ _ _ _ _ _ _ _ e, B7_i _ _ _ _ _ _ _ _ _ e]
      exact this
  · have := h.bl b h0 h1
    have e : b ≠ st 19 3 := by omega
    unfold bdL
    rw [B7_i _ _ _ _ _ _ _ _ _ e, B7_i _ _ _ _ _ _ _ _ _ e, B7_i _ _ _ _ _ _ _ _ _ e, B7_i _ _ _ _ _ _ _ _ _ e, B7_i _ _ _ _ _ _ _ _ _ e, B7_n _ _ _ _ _ _ _ _ _ (j := 19) (by omega)]
    exact this
