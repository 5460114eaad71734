/-! the class's state: what always holds -/
abbrev PC (st : SS) (p t : Int) : Int := st 0 (p * 60 + t)
abbrev HIDc (st : SS) (p t f : Int) : Prop := HID (fun q t => st 0 (q * 60 + t)) (st 19 0) (st 19 1) (st 1) (st 2) p t f
abbrev ICs (st : SS) : Prop := (0 ≤ st 19 0 ∧ st 19 0 ≤ 6) ∧ (0 ≤ st 19 1 ∧ st 19 1 ≤ 12) ∧ (0 ≤ st 19 2 ∧ st 19 2 ≤ 10) ∧ (0 ≤ st 19 3 ∧ st 19 3 ≤ 8) ∧ (1 ≤ st 19 4 ∧ st 19 4 ≤ 20) ∧ (0 ≤ st 19 5 ∧ st 19 5 ≤ 8)
abbrev bdR (st : SS) (b : Int) : Prop := (0 ≤ st 11 b ∧ st 11 b ≤ 2) ∧ (0 ≤ st 12 b ∧ st 12 b < 6) ∧ (0 ≤ st 13 b ∧ st 13 b < 64) ∧ (0 ≤ st 14 b ∧ st 14 b ≤ 7) ∧ (0 ≤ st 15 b ∧ st 15 b < 60) ∧ (0 ≤ st 16 b ∧ st 16 b < 60) ∧ (0 ≤ st 17 b ∧ st 17 b ≤ 200) ∧ (st 18 b = 0 ∨ st 18 b = 1)
abbrev bdL (st : SS) (b : Int) : Prop := st 12 b < st 19 0 ∧ st 15 b ≤ st 16 b ∧ bt (st 13 b) (st 12 b) ∧ (∀ p, 0 ≤ p → bt (st 13 b) p → p < st 19 0) ∧ (st 11 b = 1 → ∃ o, 0 ≤ o ∧ o < 6 ∧ o ≠ st 12 b ∧ bt (st 13 b) o)
def IC (st : SS) : Prop := ICs st ∧ (∀ i, 0 ≤ i → i < 360 → plc (st 0 i)) ∧ (∀ i, 0 ≤ i → i < 12 → plc (st 1 i)) ∧ (∀ i, 0 ≤ i → i < 12 → plc (st 2 i)) ∧ (∀ i, 0 ≤ i → i < 10 → plc (st 3 i)) ∧ (∀ i, 0 ≤ i → i < 10 → 0 ≤ st 4 i ∧ st 4 i < 4)
  ∧ (∀ i, 0 ≤ i → i < 8 → 0 ≤ st 5 i ∧ st 5 i < 10) ∧ (∀ b, 0 ≤ b → b < 8 → bdR st b) ∧ (∀ p, 0 ≤ p → p < 6 → 0 ≤ st 20 p ∧ st 20 p < 1152921504606846976)
  ∧ (∀ b, 0 ≤ b → b < st 19 3 → bdL st b) ∧ (∀ p t, 0 ≤ p → p < 6 → 1 ≤ t → t < 60 → ¬ bt (st 20 p) t → st 0 (p * 60 + t) = st 0 (p * 60 + (t - 1))) ∧ (∀ w, 0 ≤ w → w < st 19 1 → st 1 w ≠ st 2 w) ∧ (∀ i, 0 ≤ i → i < st 19 5 → st 5 i < st 19 2)
theorem IC.s {st : SS} (h : IC st) : ICs st := h.1
theorem IC.c0 {st : SS} (h : IC st) (i : Int) (h0 : 0 ≤ i) (h1 : i < 360) : plc (st 0 i) := h.2.1 i h0 h1
theorem IC.c1 {st : SS} (h : IC st) (i : Int) (h0 : 0 ≤ i) (h1 : i < 12) : plc (st 1 i) := h.2.2.1 i h0 h1
theorem IC.c2 {st : SS} (h : IC st) (i : Int) (h0 : 0 ≤ i) (h1 : i < 12) : plc (st 2 i) := h.2.2.2.1 i h0 h1
theorem IC.c3 {st : SS} (h : IC st) (i : Int) (h0 : 0 ≤ i) (h1 : i < 10) : plc (st 3 i) := h.2.2.2.2.1 i h0 h1
theorem IC.c4 {st : SS} (h : IC st) (i : Int) (h0 : 0 ≤ i) (h1 : i < 10) : 0 ≤ st 4 i ∧ st 4 i < 4 := h.2.2.2.2.2.1 i h0 h1
theorem IC.c5 {st : SS} (h : IC st) (i : Int) (h0 : 0 ≤ i) (h1 : i < 8) : 0 ≤ st 5 i ∧ st 5 i < 10 := h.2.2.2.2.2.2.1 i h0 h1
theorem IC.bd {st : SS} (h : IC st) (b : Int) (h0 : 0 ≤ b) (h1 : b < 8) : bdR st b := h.2.2.2.2.2.2.2.1 b h0 h1
theorem IC.c20 {st : SS} (h : IC st) (p : Int) (h0 : 0 ≤ p) (h1 : p < 6) : 0 ≤ st 20 p ∧ st 20 p < 1152921504606846976 := h.2.2.2.2.2.2.2.2.1 p h0 h1
theorem IC.bl {st : SS} (h : IC st) (b : Int) (h0 : 0 ≤ b) (h1 : b < st 19 3) : bdL st b := h.2.2.2.2.2.2.2.2.2.1 b h0 h1
theorem IC.st {st : SS} (h : IC st) (p t : Int) (h0 : 0 ≤ p) (h1 : p < 6) (h2 : 1 ≤ t) (h3 : t < 60) (h4 : ¬ bt (st 20 p) t) : st 0 (p * 60 + t) = st 0 (p * 60 + (t - 1)) := h.2.2.2.2.2.2.2.2.2.2.1 p t h0 h1 h2 h3 h4
theorem IC.w {st : SS} (h : IC st) (w : Int) (h0 : 0 ≤ w) (h1 : w < st 19 1) : st 1 w ≠ st 2 w := h.2.2.2.2.2.2.2.2.2.2.2.1 w h0 h1
theorem IC.td {st : SS} (h : IC st) (i : Int) (h0 : 0 ≤ i) (h1 : i < st 19 5) : st 5 i < st 19 2 := h.2.2.2.2.2.2.2.2.2.2.2.2 i h0 h1
/-! bits of small masks, of the machine's own operators -/
theorem zshr_n {m k : Int} (h0 : 0 ≤ m) (h1 : m < 2147483648) (h2 : 0 ≤ k) (h3 : k < 32) : zshr m k = m / 2 ^ k.toNat := by
  obtain ⟨n, rfl⟩ := Int.eq_ofNat_of_zero_le h0
  obtain ⟨j, rfl⟩ := Int.eq_ofNat_of_zero_le h2
  have hj : j < 32 := by omega
  have hn : n < 2 ^ 31 := by omega
  unfold zshr
  rw [iZ_nI, iZ_nI]
  have e1 : ∀ j : Nat, j < 32 → ((nI j &&& 31).toBitVec.smod 32).toNat = j := by decide +kernel
  rw [pk_shrN hn _ j (e1 j hj)]
  rw [nI_toInt (Nat.lt_of_le_of_lt (Nat.div_le_self _ _) hn)]
  simp
theorem zand_1 {m : Int} (h0 : 0 ≤ m) (h1 : m < 2147483648) : zand m 1 = m % 2 := by
  obtain ⟨n, rfl⟩ := Int.eq_ofNat_of_zero_le h0
  unfold zand
  rw [iZ_nI]
  have e1 : iZ 1 = (1 : Int32) := by decide +kernel
  rw [e1, pk_andN (m := 1) (show n < 2 ^ 32 by omega) 1 (by decide +kernel)]
  rw [nI_toInt (by omega)]
  omega
theorem bt_div {m k : Int} (h0 : 0 ≤ m) (h2 : 0 ≤ k) : (m / 2 ^ k.toNat) % 2 = 1 ↔ bt m k := by
  obtain ⟨n, rfl⟩ := Int.eq_ofNat_of_zero_le h0
  obtain ⟨j, rfl⟩ := Int.eq_ofNat_of_zero_le h2
  unfold bt
  simp only [Int.toNat_natCast]
  rw [Nat.testBit_eq_decide_div_mod_eq]
  rw [decide_eq_true_iff]
  have e : ((n : Int) / 2 ^ j) % 2 = (((n / 2 ^ j) % 2 : Nat) : Int) := by simp
  rw [e]
  omega
theorem bit_z {m k : Int} (h0 : 0 ≤ m) (h1 : m < 2147483648) (h2 : 0 ≤ k) (h3 : k < 32) : zand (zshr m k) 1 = b2 (bt m k) := by
  rw [zshr_n h0 h1 h2 h3]
  have a1 : 0 ≤ m / 2 ^ k.toNat := Int.ediv_nonneg h0 (Int.le_of_lt (Int.pow_pos (by omega)))
  have a2 : m / 2 ^ k.toNat ≤ m := Int.ediv_le_self _ h0
  rw [zand_1 a1 (by omega)]
  rcases Classical.em (bt m k) with q | q
  · rw [b2_t q]
    exact (bt_div h0 h2).mpr q
  · rw [b2_f q]
    have a3 : ¬ (m / 2 ^ k.toNat) % 2 = 1 := fun z => q ((bt_div h0 h2).mp z)
    omega
