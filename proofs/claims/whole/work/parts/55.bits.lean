/-! how many bits a long has -/
theorem and_8 {a b c d : Nat} (hb : b < 256) (hd : d < 256) : (b + 256 * a) &&& (d + 256 * c) = (b &&& d) + 256 * (a &&& c) := by
  have h1 := Nat.and_mod_two_pow (a := b + 256 * a) (b := d + 256 * c) (n := 8)
  have h2 := Nat.and_div_two_pow (a := b + 256 * a) (b := d + 256 * c) (n := 8)
  have e1 : (b + 256 * a) % 2 ^ 8 = b := by omega
  have e2 : (d + 256 * c) % 2 ^ 8 = d := by omega
  have e3 : (b + 256 * a) / 2 ^ 8 = a := by omega
  have e4 : (d + 256 * c) / 2 ^ 8 = c := by omega
  rw [e1, e2] at h1
  rw [e3, e4] at h2
  omega
def VB : List Nat → Nat
  | [] => 0
  | l :: ls => l + 256 * VB ls
def P1 (l : Nat) : Nat := l - ((l / 2) &&& 85)
def P2 (l : Nat) : Nat := (l &&& 51) + ((l / 4) &&& 51)
def P3 (l : Nat) : Nat := (l + l / 16) &&& 15
theorem t_1 : ∀ l : Nat, l < 256 → ∀ e : Nat, e < 2 → (l / 2 + 128 * e) &&& 85 = (l / 2) &&& 85 := by decide +kernel
theorem t_1b : ∀ l : Nat, l < 256 → (l / 2) &&& 85 ≤ l ∧ P1 l < 256 := by decide +kernel
theorem t_2 : ∀ l : Nat, l < 256 → ∀ e : Nat, e < 4 → (l / 4 + 64 * e) &&& 51 = (l / 4) &&& 51 := by decide +kernel
theorem t_3 : ∀ l : Nat, l < 69 → ∀ e : Nat, e < 5 → (l + l / 16 + 16 * e) &&& 15 = P3 l := by decide +kernel
theorem t_p2 : ∀ l : Nat, l < 256 → P2 (P1 l) < 69 ∧ P2 (P1 l) % 16 < 5 := by decide +kernel
def p8 (l : Nat) : Nat := P3 (P2 (P1 l))
theorem t_p3 : ∀ l : Nat, l < 256 → p8 l ≤ 8 := by decide +kernel
theorem t_or : ∀ l : Nat, l < 256 → ∀ t : Nat, t < 8 → l ||| 2 ^ t < 256 ∧ p8 (l ||| 2 ^ t) = p8 l + (1 - l / 2 ^ t % 2) := by decide +kernel
def rpl (m : Nat) : Nat → List Nat
  | 0 => []
  | n + 1 => m :: rpl m n
theorem and_r {m : Nat} (hm : m < 256) : ∀ ls : List Nat, (∀ l ∈ ls, l < 256) → VB ls &&& VB (rpl m ls.length) = VB (ls.map (· &&& m))
  | [], _ => by simp [VB]
  | l :: ls, h => by
    show (l + 256 * VB ls) &&& (m + 256 * VB (rpl m ls.length)) = (l &&& m) + 256 * VB (ls.map (· &&& m))
    rw [and_8 (h l (by simp)) hm, and_r hm ls (fun x hx => h x (by simp [hx]))]
theorem st_1 : ∀ ls : List Nat, (∀ l ∈ ls, l < 256) → VB ls = VB (ls.map P1) + ((VB ls / 2) &&& VB (rpl 85 ls.length))
  | [], _ => by simp [VB]
  | l :: ls, h => by
    have hl := h l (by simp)
    have ih := st_1 ls (fun x hx => h x (by simp [hx]))
    show l + 256 * VB ls = (P1 l + 256 * VB (ls.map P1)) + (((l + 256 * VB ls) / 2) &&& (85 + 256 * VB (rpl 85 ls.length)))
    have e : (l + 256 * VB ls) / 2 = (l / 2 + 128 * (VB ls % 2)) + 256 * (VB ls / 2) := by omega
    rw [e, and_8 (by omega) (by omega), t_1 l hl _ (by omega)]
    have := t_1b l hl
    have e9 : P1 l = l - ((l / 2) &&& 85) := rfl
    omega
theorem st_2 : ∀ ls : List Nat, (∀ l ∈ ls, l < 256) → (VB ls &&& VB (rpl 51 ls.length)) + ((VB ls / 4) &&& VB (rpl 51 ls.length)) = VB (ls.map P2)
  | [], _ => by simp [VB]
  | l :: ls, h => by
    have hl := h l (by simp)
    have ih := st_2 ls (fun x hx => h x (by simp [hx]))
    show ((l + 256 * VB ls) &&& (51 + 256 * VB (rpl 51 ls.length))) + (((l + 256 * VB ls) / 4) &&& (51 + 256 * VB (rpl 51 ls.length))) = P2 l + 256 * VB (ls.map P2)
    have e : (l + 256 * VB ls) / 4 = (l / 4 + 64 * (VB ls % 4)) + 256 * (VB ls / 4) := by omega
    rw [e, and_8 (by omega) (by omega), and_8 (by omega) (by omega), t_2 l hl _ (by omega)]
    have e9 : P2 l = (l &&& 51) + ((l / 4) &&& 51) := rfl
    omega
theorem vb_16 : ∀ ls : List Nat, (∀ l ∈ ls, l % 16 < 5) → VB ls % 16 < 5
  | [], _ => by simp [VB]
  | l :: ls, h => by
    have hl := h l (by simp)
    show (l + 256 * VB ls) % 16 < 5
    omega
theorem st_3 : ∀ ls : List Nat, (∀ l ∈ ls, l < 69 ∧ l % 16 < 5) → (VB ls + VB ls / 16) &&& VB (rpl 15 ls.length) = VB (ls.map P3)
  | [], _ => by simp [VB]
  | l :: ls, h => by
    have hl := h l (by simp)
    have ih := st_3 ls (fun x hx => h x (by simp [hx]))
    have h6 := vb_16 ls (fun x hx => (h x (by simp [hx])).2)
    show ((l + 256 * VB ls) + (l + 256 * VB ls) / 16) &&& (15 + 256 * VB (rpl 15 ls.length)) = P3 l + 256 * VB (ls.map P3)
    have e : (l + 256 * VB ls) + (l + 256 * VB ls) / 16 = (l + l / 16 + 16 * (VB ls % 16)) + 256 * (VB ls + VB ls / 16) := by omega
    rw [e, and_8 (by omega) (by omega), t_3 l (by omega) _ h6]
    omega

theorem or_8 {a b c d : Nat} (hb : b < 256) (hd : d < 256) : (b + 256 * a) ||| (d + 256 * c) = (b ||| d) + 256 * (a ||| c) := by
  have h1 := Nat.or_mod_two_pow (a := b + 256 * a) (b := d + 256 * c) (n := 8)
  have h2 := Nat.or_div_two_pow (a := b + 256 * a) (b := d + 256 * c) (n := 8)
  have e1 : (b + 256 * a) % 2 ^ 8 = b := by omega
  have e2 : (d + 256 * c) % 2 ^ 8 = d := by omega
  have e3 : (b + 256 * a) / 2 ^ 8 = a := by omega
  have e4 : (d + 256 * c) / 2 ^ 8 = c := by omega
  rw [e1, e2] at h1
  rw [e3, e4] at h2
  omega
def popB : List Nat → Nat
  | [] => 0
  | l :: ls => p8 l + popB ls
theorem pop_or : ∀ (ls : List Nat) (t : Nat), (∀ l ∈ ls, l < 256) → t < 8 * ls.length → ∃ ms : List Nat, ms.length = ls.length ∧ (∀ l ∈ ms, l < 256) ∧ VB ms = VB ls ||| 2 ^ t ∧ popB ms = popB ls + (1 - VB ls / 2 ^ t % 2)
  | [], t, _, ht => by simp at ht
  | l :: ls, t, h, ht => by
    have hl := h l (by simp)
    have hr : ∀ x ∈ ls, x < 256 := fun x hx => h x (by simp [hx])
    by_cases q : t < 8
    · have k := t_or l hl t q
      refine ⟨(l ||| 2 ^ t) :: ls, by simp, fun x hx => ?_, ?_, ?_⟩
      · rcases List.mem_cons.mp hx with e | e
        · rw [e]; exact k.1
        · exact hr x e
      · show (l ||| 2 ^ t) + 256 * VB ls = (l + 256 * VB ls) ||| 2 ^ t
        have p : ∀ t : Nat, t < 8 → 2 ^ t < 256 := by decide
        have e := or_8 (a := VB ls) (b := l) (c := 0) (d := 2 ^ t) hl (p t q)
        rw [Nat.mul_zero, Nat.add_zero, Nat.or_zero] at e
        exact e.symm
      · show p8 (l ||| 2 ^ t) + popB ls = p8 l + popB ls + (1 - (l + 256 * VB ls) / 2 ^ t % 2)
        rw [k.2]
        have e : (l + 256 * VB ls) / 2 ^ t % 2 = l / 2 ^ t % 2 := by
          rcases (show t = 0 ∨ t = 1 ∨ t = 2 ∨ t = 3 ∨ t = 4 ∨ t = 5 ∨ t = 6 ∨ t = 7 by omega) with z | z | z | z | z | z | z | z <;> subst z <;> omega
        rw [e]
        omega
    · obtain ⟨s, rfl⟩ : ∃ s, t = s + 8 := ⟨t - 8, by omega⟩
      obtain ⟨ms, m1, m2, m3, m4⟩ := pop_or ls s hr (by simp at ht; omega)
      have e2 : 2 ^ (s + 8) = 256 * 2 ^ s := by rw [Nat.pow_add]; omega
      refine ⟨l :: ms, by simp [m1], fun x hx => ?_, ?_, ?_⟩
      · rcases List.mem_cons.mp hx with e | e
        · rw [e]; exact hl
        · exact m2 x e
      · show l + 256 * VB ms = (l + 256 * VB ls) ||| 2 ^ (s + 8)
        have e := or_8 (a := VB ls) (b := l) (c := 2 ^ s) (d := 0) hl (by omega)
        rw [Nat.zero_add, Nat.or_zero] at e
        rw [e2, e, m3]
      · show p8 l + popB ms = p8 l + popB ls + (1 - (l + 256 * VB ls) / 2 ^ (s + 8) % 2)
        rw [e2, ← Nat.div_div_eq_div_mul, show (l + 256 * VB ls) / 256 = VB ls by omega, m4]
        omega
theorem zland_n {n m : Nat} (hn : n < 9223372036854775808) : zland (n : Int) (m : Int) = ((n &&& m : Nat) : Int) := by
  have h : lZ (n : Int) &&& lZ (m : Int) = lZ ((n &&& m : Nat) : Int) := by
    apply Int64.toBitVec_inj.1
    rw [Int64.toBitVec_and, lZ_bv, lZ_bv, lZ_bv]
    apply BitVec.eq_of_getLsbD_eq
    intro i hi
    simp [hi]
  unfold zland
  rw [h]
  have := Nat.and_le_left (n := n) (m := m)
  exact lZ_t (by omega) (by omega)
theorem zlushr_n {n j : Nat} (hn : n < 9223372036854775808) (hj : j < 64) : zlushr (n : Int) (j : Int) = ((n / 2 ^ j : Nat) : Int) := by
  have e1 : ∀ j : Nat, j < 64 → ((iZ (j : Int)).toInt64.toUInt64 &&& Int64.toUInt64 63).toNat = j := by decide +kernel
  have e2 : (lZ (n : Int)).toUInt64.toNat = n := by
    show (lZ (n : Int)).toBitVec.toNat = n
    rw [lZ_bv, BitVec.toNat_ofNat]
    omega
  have a3 : n / 2 ^ j ≤ n := Nat.div_le_self _ _
  unfold zlushr
  have e3 : ((lZ (n : Int)).toUInt64 >>> ((iZ (j : Int)).toInt64.toUInt64 &&& Int64.toUInt64 63)).toNat = n / 2 ^ j := by
    rw [UInt64.toNat_shiftRight, e1 j hj, e2, Nat.mod_eq_of_lt hj, Nat.shiftRight_eq_div_pow]
  generalize ((lZ (n : Int)).toUInt64 >>> ((iZ (j : Int)).toInt64.toUInt64 &&& Int64.toUInt64 63)) = y at e3
  show y.toBitVec.toInt = _
  have e4 : y.toBitVec.toNat = n / 2 ^ j := e3
  rw [BitVec.toInt_eq_toNat_of_lt (by omega), e4]
theorem zlow_n (n : Nat) : zand (zl2i (n : Int)) 127 = ((n % 128 : Nat) : Int) := by
  unfold zand zl2i
  have e : iZ 127 = (127 : Int32) := by decide +kernel
  rw [iZ_self, e, pk_and _ (m := 127) 7 (by decide +kernel), nI_toInt (by omega)]
  have e2 : (lZ (n : Int)).toInt32.toBitVec = (BitVec.ofNat 64 n).setWidth 32 := by
    show (lZ (n : Int)).toBitVec.signExtend 32 = _
    rw [lZ_bv, BitVec.signExtend_eq_setWidth_of_le _ (by decide)]
  rw [e2, BitVec.toNat_setWidth, BitVec.toNat_ofNat]
  omega
theorem lj4_n {c0 c1 c2 c3 c4 c5 c6 c7 : Nat} (g0 : c0 ≤ 8) (g1 : c1 ≤ 8) (g2 : c2 ≤ 8) (g3 : c3 ≤ 8) (g4 : c4 ≤ 8) (g5 : c5 ≤ 8) (g6 : c6 ≤ 8) (g7 : c7 ≤ 8) : lj4 ((c0 + 256 * (c1 + 256 * (c2 + 256 * (c3 + 256 * (c4 + 256 * (c5 + 256 * (c6 + 256 * (c7 + 256 * 0))))))) : Nat) : Int) = (((c0 + c1) + 256 * ((c1 + c2) + 256 * ((c2 + c3) + 256 * ((c3 + c4) + 256 * ((c4 + c5) + 256 * ((c5 + c6) + 256 * ((c6 + c7) + 256 * (c7 + 256 * 0))))))) : Nat) : Int) := by
  have e : (c0 + 256 * (c1 + 256 * (c2 + 256 * (c3 + 256 * (c4 + 256 * (c5 + 256 * (c6 + 256 * (c7 + 256 * 0)))))))) + (c0 + 256 * (c1 + 256 * (c2 + 256 * (c3 + 256 * (c4 + 256 * (c5 + 256 * (c6 + 256 * (c7 + 256 * 0)))))))) / 256 = (c0 + c1) + 256 * ((c1 + c2) + 256 * ((c2 + c3) + 256 * ((c3 + c4) + 256 * ((c4 + c5) + 256 * ((c5 + c6) + 256 * ((c6 + c7) + 256 * (c7 + 256 * 0))))))) := by omega
  have l : c0 + 256 * (c1 + 256 * (c2 + 256 * (c3 + 256 * (c4 + 256 * (c5 + 256 * (c6 + 256 * (c7 + 256 * 0))))))) < 9223372036854775808 := by omega
  have a : zlushr ((c0 + 256 * (c1 + 256 * (c2 + 256 * (c3 + 256 * (c4 + 256 * (c5 + 256 * (c6 + 256 * (c7 + 256 * 0))))))) : Nat) : Int) ((8 : Nat) : Int) = (((c0 + 256 * (c1 + 256 * (c2 + 256 * (c3 + 256 * (c4 + 256 * (c5 + 256 * (c6 + 256 * (c7 + 256 * 0)))))))) / 256 : Nat) : Int) := zlushr_n (j := 8) l (by omega)
  unfold lj4
  rw [show (8 : Int) = ((8 : Nat) : Int) from rfl, a, ← e]
  exact (Int.natCast_add _ _).symm
theorem lj5_n {c0 c1 c2 c3 c4 c5 c6 c7 : Nat} (g0 : c0 ≤ 8) (g1 : c1 ≤ 8) (g2 : c2 ≤ 8) (g3 : c3 ≤ 8) (g4 : c4 ≤ 8) (g5 : c5 ≤ 8) (g6 : c6 ≤ 8) (g7 : c7 ≤ 8) : lj5 (((c0 + c1) + 256 * ((c1 + c2) + 256 * ((c2 + c3) + 256 * ((c3 + c4) + 256 * ((c4 + c5) + 256 * ((c5 + c6) + 256 * ((c6 + c7) + 256 * (c7 + 256 * 0))))))) : Nat) : Int) = (((c0 + c1 + c2 + c3) + 256 * ((c1 + c2 + c3 + c4) + 256 * ((c2 + c3 + c4 + c5) + 256 * ((c3 + c4 + c5 + c6) + 256 * ((c4 + c5 + c6 + c7) + 256 * ((c5 + c6 + c7) + 256 * ((c6 + c7) + 256 * (c7 + 256 * 0))))))) : Nat) : Int) := by
  have e : ((c0 + c1) + 256 * ((c1 + c2) + 256 * ((c2 + c3) + 256 * ((c3 + c4) + 256 * ((c4 + c5) + 256 * ((c5 + c6) + 256 * ((c6 + c7) + 256 * (c7 + 256 * 0)))))))) + ((c0 + c1) + 256 * ((c1 + c2) + 256 * ((c2 + c3) + 256 * ((c3 + c4) + 256 * ((c4 + c5) + 256 * ((c5 + c6) + 256 * ((c6 + c7) + 256 * (c7 + 256 * 0)))))))) / 65536 = (c0 + c1 + c2 + c3) + 256 * ((c1 + c2 + c3 + c4) + 256 * ((c2 + c3 + c4 + c5) + 256 * ((c3 + c4 + c5 + c6) + 256 * ((c4 + c5 + c6 + c7) + 256 * ((c5 + c6 + c7) + 256 * ((c6 + c7) + 256 * (c7 + 256 * 0))))))) := by omega
  have l : (c0 + c1) + 256 * ((c1 + c2) + 256 * ((c2 + c3) + 256 * ((c3 + c4) + 256 * ((c4 + c5) + 256 * ((c5 + c6) + 256 * ((c6 + c7) + 256 * (c7 + 256 * 0))))))) < 9223372036854775808 := by omega
  have a : zlushr (((c0 + c1) + 256 * ((c1 + c2) + 256 * ((c2 + c3) + 256 * ((c3 + c4) + 256 * ((c4 + c5) + 256 * ((c5 + c6) + 256 * ((c6 + c7) + 256 * (c7 + 256 * 0))))))) : Nat) : Int) ((16 : Nat) : Int) = ((((c0 + c1) + 256 * ((c1 + c2) + 256 * ((c2 + c3) + 256 * ((c3 + c4) + 256 * ((c4 + c5) + 256 * ((c5 + c6) + 256 * ((c6 + c7) + 256 * (c7 + 256 * 0)))))))) / 65536 : Nat) : Int) := zlushr_n (j := 16) l (by omega)
  unfold lj5
  rw [show (16 : Int) = ((16 : Nat) : Int) from rfl, a, ← e]
  exact (Int.natCast_add _ _).symm
theorem lj6_n {c0 c1 c2 c3 c4 c5 c6 c7 : Nat} (g0 : c0 ≤ 8) (g1 : c1 ≤ 8) (g2 : c2 ≤ 8) (g3 : c3 ≤ 8) (g4 : c4 ≤ 8) (g5 : c5 ≤ 8) (g6 : c6 ≤ 8) (g7 : c7 ≤ 8) : lj6 (((c0 + c1 + c2 + c3) + 256 * ((c1 + c2 + c3 + c4) + 256 * ((c2 + c3 + c4 + c5) + 256 * ((c3 + c4 + c5 + c6) + 256 * ((c4 + c5 + c6 + c7) + 256 * ((c5 + c6 + c7) + 256 * ((c6 + c7) + 256 * (c7 + 256 * 0))))))) : Nat) : Int) = (((c0 + c1 + c2 + c3 + c4 + c5 + c6 + c7) + 256 * ((c1 + c2 + c3 + c4 + c5 + c6 + c7) + 256 * ((c2 + c3 + c4 + c5 + c6 + c7) + 256 * ((c3 + c4 + c5 + c6 + c7) + 256 * ((c4 + c5 + c6 + c7) + 256 * ((c5 + c6 + c7) + 256 * ((c6 + c7) + 256 * (c7 + 256 * 0))))))) : Nat) : Int) := by
  have e : ((c0 + c1 + c2 + c3) + 256 * ((c1 + c2 + c3 + c4) + 256 * ((c2 + c3 + c4 + c5) + 256 * ((c3 + c4 + c5 + c6) + 256 * ((c4 + c5 + c6 + c7) + 256 * ((c5 + c6 + c7) + 256 * ((c6 + c7) + 256 * (c7 + 256 * 0)))))))) + ((c0 + c1 + c2 + c3) + 256 * ((c1 + c2 + c3 + c4) + 256 * ((c2 + c3 + c4 + c5) + 256 * ((c3 + c4 + c5 + c6) + 256 * ((c4 + c5 + c6 + c7) + 256 * ((c5 + c6 + c7) + 256 * ((c6 + c7) + 256 * (c7 + 256 * 0)))))))) / 4294967296 = (c0 + c1 + c2 + c3 + c4 + c5 + c6 + c7) + 256 * ((c1 + c2 + c3 + c4 + c5 + c6 + c7) + 256 * ((c2 + c3 + c4 + c5 + c6 + c7) + 256 * ((c3 + c4 + c5 + c6 + c7) + 256 * ((c4 + c5 + c6 + c7) + 256 * ((c5 + c6 + c7) + 256 * ((c6 + c7) + 256 * (c7 + 256 * 0))))))) := by omega
  have l : (c0 + c1 + c2 + c3) + 256 * ((c1 + c2 + c3 + c4) + 256 * ((c2 + c3 + c4 + c5) + 256 * ((c3 + c4 + c5 + c6) + 256 * ((c4 + c5 + c6 + c7) + 256 * ((c5 + c6 + c7) + 256 * ((c6 + c7) + 256 * (c7 + 256 * 0))))))) < 9223372036854775808 := by omega
  have a : zlushr (((c0 + c1 + c2 + c3) + 256 * ((c1 + c2 + c3 + c4) + 256 * ((c2 + c3 + c4 + c5) + 256 * ((c3 + c4 + c5 + c6) + 256 * ((c4 + c5 + c6 + c7) + 256 * ((c5 + c6 + c7) + 256 * ((c6 + c7) + 256 * (c7 + 256 * 0))))))) : Nat) : Int) ((32 : Nat) : Int) = ((((c0 + c1 + c2 + c3) + 256 * ((c1 + c2 + c3 + c4) + 256 * ((c2 + c3 + c4 + c5) + 256 * ((c3 + c4 + c5 + c6) + 256 * ((c4 + c5 + c6 + c7) + 256 * ((c5 + c6 + c7) + 256 * ((c6 + c7) + 256 * (c7 + 256 * 0)))))))) / 4294967296 : Nat) : Int) := zlushr_n (j := 32) l (by omega)
  unfold lj6
  rw [show (32 : Int) = ((32 : Nat) : Int) from rfl, a, ← e]
  exact (Int.natCast_add _ _).symm
theorem ljbc_n (b0 b1 b2 b3 b4 b5 b6 b7 : Nat) (h : ∀ l ∈ [b0, b1, b2, b3, b4, b5, b6, b7], l < 256) (h7 : VB [b0, b1, b2, b3, b4, b5, b6, b7] < 1152921504606846976) : ljbc (VB [b0, b1, b2, b3, b4, b5, b6, b7] : Nat) = (popB [b0, b1, b2, b3, b4, b5, b6, b7] : Nat) := by
  have s1 := st_1 _ h
  have k1 : ∀ l ∈ [b0, b1, b2, b3, b4, b5, b6, b7].map P1, l < 256 := fun l hl => by
    obtain ⟨x, hx, rfl⟩ := List.mem_map.mp hl
    exact (t_1b x (h x hx)).2
  have s2 := st_2 _ k1
  have k2 : ∀ l ∈ ([b0, b1, b2, b3, b4, b5, b6, b7].map P1).map P2, l < 69 ∧ l % 16 < 5 := fun l hl => by
    obtain ⟨y, hy, rfl⟩ := List.mem_map.mp hl
    obtain ⟨x, hx, rfl⟩ := List.mem_map.mp hy
    exact t_p2 x (h x hx)
  have s3 := st_3 _ k2
  have k3 : ∀ l ∈ [b0, b1, b2, b3, b4, b5, b6, b7], p8 l ≤ 8 := fun l hl => t_p3 l (h l hl)
  have e85 : VB (rpl 85 8) = 6148914691236517205 := by decide
  have e51 : VB (rpl 51 8) = 3689348814741910323 := by decide
  have e15 : VB (rpl 15 8) = 1085102592571150095 := by decide
  rw [show ([b0, b1, b2, b3, b4, b5, b6, b7] : List Nat).length = 8 from rfl, e85] at s1
  rw [show (([b0, b1, b2, b3, b4, b5, b6, b7] : List Nat).map P1).length = 8 from rfl, e51] at s2
  rw [show ((([b0, b1, b2, b3, b4, b5, b6, b7] : List Nat).map P1).map P2).length = 8 from rfl, e15] at s3
  have f3 : VB ((([b0, b1, b2, b3, b4, b5, b6, b7] : List Nat).map P1).map P2 |>.map P3) = p8 b0 + 256 * (p8 b1 + 256 * (p8 b2 + 256 * (p8 b3 + 256 * (p8 b4 + 256 * (p8 b5 + 256 * (p8 b6 + 256 * (p8 b7 + 256 * 0))))))) := rfl
  have f4 : popB [b0, b1, b2, b3, b4, b5, b6, b7] = p8 b0 + (p8 b1 + (p8 b2 + (p8 b3 + (p8 b4 + (p8 b5 + (p8 b6 + (p8 b7 + 0))))))) := rfl
  rw [f3] at s3
  rw [f4]
  have g0 := k3 b0 (by simp)
  have g1 := k3 b1 (by simp)
  have g2 := k3 b2 (by simp)
  have g3 := k3 b3 (by simp)
  have g4 := k3 b4 (by simp)
  have g5 := k3 b5 (by simp)
  have g6 := k3 b6 (by simp)
  have g7 := k3 b7 (by simp)
  have b60 : VB (([b0, b1, b2, b3, b4, b5, b6, b7].map P1)) ≤ VB [b0, b1, b2, b3, b4, b5, b6, b7] := by omega
  generalize VB [b0, b1, b2, b3, b4, b5, b6, b7] = X at *
  generalize VB ([b0, b1, b2, b3, b4, b5, b6, b7].map P1) = Y at *
  have y2 : Y &&& 3689348814741910323 ≤ Y := Nat.and_le_left
  have y3 : Y / 4 &&& 3689348814741910323 ≤ Y / 4 := Nat.and_le_left
  generalize VB (([b0, b1, b2, b3, b4, b5, b6, b7].map P1).map P2) = Z at *
  generalize p8 b0 = c0 at *
  generalize p8 b1 = c1 at *
  generalize p8 b2 = c2 at *
  generalize p8 b3 = c3 at *
  generalize p8 b4 = c4 at *
  generalize p8 b5 = c5 at *
  generalize p8 b6 = c6 at *
  generalize p8 b7 = c7 at *
  clear k1 k2 k3 h
  have q1 : lj1 (X : Int) = (Y : Int) := by
    have a : zlushr (X : Int) ((1 : Nat) : Int) = ((X / 2 : Nat) : Int) := zlushr_n (j := 1) (by omega) (by omega)
    have b := zland_n (n := X / 2) (m := 6148914691236517205) (by omega)
    show (X : Int) - zland (zlushr (X : Int) ((1 : Nat) : Int)) ((6148914691236517205 : Nat) : Int) = Y
    rw [a, b]
    clear a b s2 s3
    generalize X / 2 &&& 6148914691236517205 = q at *
    omega
  have q2 : lj2 (Y : Int) = (Z : Int) := by
    have a : zlushr (Y : Int) ((2 : Nat) : Int) = ((Y / 4 : Nat) : Int) := zlushr_n (j := 2) (by omega) (by omega)
    have b := zland_n (n := Y / 4) (m := 3689348814741910323) (by omega)
    have c := zland_n (n := Y) (m := 3689348814741910323) (by omega)
    show zland (Y : Int) ((3689348814741910323 : Nat) : Int) + zland (zlushr (Y : Int) ((2 : Nat) : Int)) ((3689348814741910323 : Nat) : Int) = Z
    rw [a, b, c]
    clear a b c s1 s3
    rw [← s2]
    exact (Int.natCast_add _ _).symm
  have q3 : lj3 (Z : Int) = ((c0 + 256 * (c1 + 256 * (c2 + 256 * (c3 + 256 * (c4 + 256 * (c5 + 256 * (c6 + 256 * (c7 + 256 * 0))))))) : Nat) : Int) := by
    have a : zlushr (Z : Int) ((4 : Nat) : Int) = ((Z / 16 : Nat) : Int) := zlushr_n (j := 4) (by omega) (by omega)
    have b := zland_n (n := Z + Z / 16) (m := 1085102592571150095) (by omega)
    show zland ((Z : Int) + zlushr (Z : Int) ((4 : Nat) : Int)) ((1085102592571150095 : Nat) : Int) = _
    rw [a, ← Int.natCast_add, b, s3]
  unfold ljbc
  rw [q1, q2, q3, lj4_n g0 g1 g2 g3 g4 g5 g6 g7, lj5_n g0 g1 g2 g3 g4 g5 g6 g7, lj6_n g0 g1 g2 g3 g4 g5 g6 g7, zlow_n]
  clear q1 q2 q3 s1 s2 s3
  omega
theorem vb_all {n : Nat} (h : n < 18446744073709551616) : VB [n % 256, n / 256 % 256, n / 65536 % 256, n / 16777216 % 256, n / 4294967296 % 256, n / 1099511627776 % 256, n / 281474976710656 % 256, n / 72057594037927936 % 256] = n := by
  show n % 256 + 256 * (n / 256 % 256 + 256 * (n / 65536 % 256 + 256 * (n / 16777216 % 256 + 256 * (n / 4294967296 % 256 + 256 * (n / 1099511627776 % 256 + 256 * (n / 281474976710656 % 256 + 256 * (n / 72057594037927936 % 256 + 256 * 0))))))) = n
  omega
/-- one more bit -/
theorem ljbc_sbt {x t : Int} (h0 : 0 ≤ x) (h1 : x < 1152921504606846976) (h2 : 0 ≤ t) (h3 : t < 60) : (bt x t → ljbc (sbt x t) = ljbc x) ∧ (¬ bt x t → ljbc (sbt x t) = ljbc x + 1) := by
  obtain ⟨n, rfl⟩ := Int.eq_ofNat_of_zero_le h0
  obtain ⟨j, rfl⟩ := Int.eq_ofNat_of_zero_le h2
  have hs := sbt_b h0 h1 h2 h3
  have hv := vb_all (n := n) (by omega)
  have hb : ∀ l ∈ [n % 256, n / 256 % 256, n / 65536 % 256, n / 16777216 % 256, n / 4294967296 % 256, n / 1099511627776 % 256, n / 281474976710656 % 256, n / 72057594037927936 % 256], l < 256 := by
    intro l hl
    simp only [List.mem_cons, List.not_mem_nil, or_false] at hl
    rcases hl with e | e | e | e | e | e | e | e <;> rw [e] <;> exact Nat.mod_lt _ (by omega)
  have k := ljbc_n _ _ _ _ _ _ _ _ hb (by rw [hv]; omega)
  rw [hv] at k
  obtain ⟨ms, m1, m2, m3, m4⟩ := pop_or _ j hb (by show j < 8 * 8; omega)
  rw [hv] at m3 m4
  have e : sbt (n : Int) (j : Int) = ((VB ms : Nat) : Int) := by
    rw [m3]
    unfold sbt
    simp only [Int.toNat_natCast]
  obtain ⟨c0, c1, c2, c3, c4, c5, c6, c7, rfl⟩ : ∃ c0 c1 c2 c3 c4 c5 c6 c7, ms = [c0, c1, c2, c3, c4, c5, c6, c7] := by
    match ms, m1 with
    | [c0, c1, c2, c3, c4, c5, c6, c7], _ => exact ⟨c0, c1, c2, c3, c4, c5, c6, c7, rfl⟩
  have k2 := ljbc_n _ _ _ _ _ _ _ _ m2 (by rw [e] at hs; omega)
  rw [← e] at k2
  rw [k2, m4, k, bt_nn]
  constructor
  · intro z; rw [z]; omega
  · intro z
    have : n / 2 ^ j % 2 = 0 := by omega
    rw [this]; omega
theorem ljbc_0 : ljbc 0 = 0 := by decide +kernel
