/-! masks -/
theorem nn_and (a b : Nat) : nI a &&& nI b = nI (a &&& b) := by
  apply Int32.toBitVec_inj.1
  show BitVec.ofNat 32 a &&& BitVec.ofNat 32 b = BitVec.ofNat 32 (a &&& b)
  apply BitVec.eq_of_getLsbD_eq
  intro i hi
  simp [hi]
theorem nn_or (a b : Nat) : nI a ||| nI b = nI (a ||| b) := by
  apply Int32.toBitVec_inj.1
  show BitVec.ofNat 32 a ||| BitVec.ofNat 32 b = BitVec.ofNat 32 (a ||| b)
  apply BitVec.eq_of_getLsbD_eq
  intro i hi
  simp [hi]
theorem nn_xor (a b : Nat) : nI a ^^^ nI b = nI (a ^^^ b) := by
  apply Int32.toBitVec_inj.1
  show BitVec.ofNat 32 a ^^^ BitVec.ofNat 32 b = BitVec.ofNat 32 (a ^^^ b)
  apply BitVec.eq_of_getLsbD_eq
  intro i hi
  simp [hi]
theorem i32_andn (x t : Int32) : x &&& (t ^^^ (-1)) = x ^^^ (x &&& t) := by
  apply Int32.toBitVec_inj.1
  rw [Int32.toBitVec_and, Int32.toBitVec_xor, Int32.toBitVec_xor, Int32.toBitVec_and]
  have e : (-1 : Int32).toBitVec = BitVec.allOnes 32 := by decide +kernel
  rw [e]
  apply BitVec.eq_of_getLsbD_eq
  intro i hi
  rw [BitVec.getLsbD_and, BitVec.getLsbD_xor, BitVec.getLsbD_xor, BitVec.getLsbD_and, BitVec.getLsbD_allOnes, decide_eq_true hi]
  cases x.toBitVec.getLsbD i <;> cases t.toBitVec.getLsbD i <;> rfl
theorem zand_n {x y : Int} (h0 : 0 ≤ x) (h1 : x < 2147483648) (h2 : 0 ≤ y) (h3 : y < 2147483648) : zand x y = ((x.toNat &&& y.toNat : Nat) : Int) := by
  obtain ⟨a, rfl⟩ := Int.eq_ofNat_of_zero_le h0
  obtain ⟨b, rfl⟩ := Int.eq_ofNat_of_zero_le h2
  have hle : a &&& b ≤ a := Nat.and_le_left
  unfold zand
  rw [iZ_nI, iZ_nI, nn_and, nI_toInt (by omega)]
  simp
theorem or_lt {a b k : Nat} (ha : a < 2 ^ k) (hb : b < 2 ^ k) : a ||| b < 2 ^ k := Nat.or_lt_two_pow ha hb
theorem zor_n {x y : Int} (h0 : 0 ≤ x) (h1 : x < 1073741824) (h2 : 0 ≤ y) (h3 : y < 1073741824) : zor x y = ((x.toNat ||| y.toNat : Nat) : Int) := by
  obtain ⟨a, rfl⟩ := Int.eq_ofNat_of_zero_le h0
  obtain ⟨b, rfl⟩ := Int.eq_ofNat_of_zero_le h2
  have hle : a ||| b < 2 ^ 30 := or_lt (by omega) (by omega)
  unfold zor
  rw [iZ_nI, iZ_nI, nn_or, nI_toInt (by omega)]
  simp
theorem zshl_1n : ∀ j : Nat, j < 31 → zshl 1 (j : Int) = ((2 ^ j : Nat) : Int) := by decide +kernel
theorem zshl_1 {c : Int} (h0 : 0 ≤ c) (h1 : c < 31) : zshl 1 c = ((2 ^ c.toNat : Nat) : Int) := by
  obtain ⟨j, rfl⟩ := Int.eq_ofNat_of_zero_le h0
  exact zshl_1n j (by omega)
theorem pw_lt {j k : Nat} (h : j < k) : 2 ^ j < 2 ^ k := Nat.pow_lt_pow_right (by decide) h
theorem and_pw (n j : Nat) : n &&& 2 ^ j = 0 ↔ ¬ n.testBit j = true := by
  constructor
  · intro h
    have h1 : (n &&& 2 ^ j).testBit j = false := by rw [h]; simp
    rw [Nat.testBit_and] at h1
    simpa using h1
  · intro h
    apply Nat.eq_of_testBit_eq
    intro i
    rw [Nat.testBit_and, Nat.testBit_two_pow, Nat.zero_testBit]
    by_cases e : j = i
    · subst e; simp [h]
    · simp [e]
/-- (x & y & 1 << c) isn't 0 -/
theorem and3_z {x y c : Int} (h0 : 0 ≤ x) (h1 : x < 1024) (h2 : 0 ≤ y) (h3 : y < 1024) (h4 : 0 ≤ c) (h5 : c < 10) : zand (zand x y) (zshl 1 c) = 0 ↔ ¬ (bt x c ∧ bt y c) := by
  have a1 : x.toNat &&& y.toNat ≤ x.toNat := Nat.and_le_left
  have a2 := pw_lt (show c.toNat < 30 by omega)
  have a3 := and_pw (x.toNat &&& y.toNat) c.toNat
  rw [zand_n h0 (by omega) h2 (by omega), zshl_1 h4 (by omega)]
  generalize 2 ^ c.toNat = w at a2 a3
  rw [zand_n (by omega) (by omega) (by omega) (by omega)]
  simp only [Int.toNat_natCast]
  rw [Nat.testBit_and, Bool.and_eq_true] at a3
  unfold bt
  rw [← a3]
  omega
/-- x & ~(1 << c) -/
def clr (x c : Int) : Int := ((x.toNat ^^^ (x.toNat &&& 2 ^ c.toNat) : Nat) : Int)
theorem clr_z {x c : Int} (h0 : 0 ≤ x) (h1 : x < 1024) (h4 : 0 ≤ c) (h5 : c < 10) : zand x (zxor (zshl 1 c) (-1)) = clr x c := by
  obtain ⟨a, rfl⟩ := Int.eq_ofNat_of_zero_le h0
  obtain ⟨j, rfl⟩ := Int.eq_ofNat_of_zero_le h4
  have a2 := pw_lt (show j < 10 by omega)
  have a1 : a &&& 2 ^ j ≤ a := Nat.and_le_left
  have a3 : a ^^^ (a &&& 2 ^ j) < 2 ^ 10 := Nat.xor_lt_two_pow (by omega) (by omega)
  rw [zshl_1 h4 (by omega)]
  unfold zand zxor clr
  rw [iZ_self, show iZ (-1) = (-1 : Int32) by decide +kernel, i32_andn]
  simp only [Int.toNat_natCast]
  rw [iZ_nI, iZ_nI, nn_and, nn_xor, nI_toInt (by omega)]
theorem clr_bt {x c : Int} (k : Int) (h4 : 0 ≤ c) (hk : 0 ≤ k) : bt (clr x c) k ↔ bt x k ∧ k ≠ c := by
  unfold bt clr
  simp only [Int.toNat_natCast]
  rw [Nat.testBit_xor, Nat.testBit_and, Nat.testBit_two_pow]
  by_cases e : c = k
  · subst e; simp
  · have e2 : ¬ c.toNat = k.toNat := by omega
    have e3 : k ≠ c := fun z => e z.symm
    simp [e2, e3]
theorem clr_b {x c : Int} (h0 : 0 ≤ x) (h1 : x < 1024) : 0 ≤ clr x c ∧ clr x c < 1024 := by
  have a1 : x.toNat &&& 2 ^ c.toNat ≤ x.toNat := Nat.and_le_left
  have a3 : x.toNat ^^^ (x.toNat &&& 2 ^ c.toNat) < 2 ^ 10 := Nat.xor_lt_two_pow (by omega) (by omega)
  unfold clr
  omega
theorem clr64 {x c : Int} (h0 : 0 ≤ x) (h1 : x < 1024) (h4 : 0 ≤ c) (h5 : c < 10) : zand x (zxor (zshl 1 c) (-1)) = 0 ↔ ∀ k, 0 ≤ k → k ≠ c → ¬ bt x k := by
  rw [clr_z h0 h1 h4 h5]
  constructor
  · intro h k hk hc hb
    have := (clr_bt (x := x) k h4 hk).mpr ⟨hb, hc⟩
    rw [h] at this
    unfold bt at this
    simp at this
  · intro h
    unfold clr
    have : x.toNat ^^^ (x.toNat &&& 2 ^ c.toNat) = 0 := by
      apply Nat.eq_of_testBit_eq
      intro i
      have e1 := clr_bt (x := x) (c := c) (i : Int) h4 (by omega)
      unfold bt clr at e1
      simp only [Int.toNat_natCast] at e1
      rw [Nat.zero_testBit]
      have e2 := h (i : Int) (by omega)
      unfold bt at e2
      simp only [Int.toNat_natCast] at e2
      cases hq : (x.toNat ^^^ x.toNat &&& 2 ^ c.toNat).testBit i with
      | false => rfl
      | true =>
        obtain ⟨q1, q2⟩ := e1.mp hq
        exact absurd q1 (e2 q2)
    rw [this]
    rfl
/-! the planner -/
def IP (st : SS) : Prop := (∀ i, 0 ≤ i → i < 8 → 0 ≤ st 6 i ∧ st 6 i < 1024) ∧ (∀ i, 0 ≤ i → i < 80 → -1 ≤ st 7 i ∧ st 7 i ≤ 1) ∧ (∀ i, 0 ≤ i → i < 27 → st 8 i = 0 ∨ st 8 i = 1) ∧ (∀ i, 0 ≤ i → i < 8 → 0 ≤ st 9 i ∧ st 9 i < 10) ∧ (∀ i, 0 ≤ i → i < 10 → 0 ≤ st 10 i ∧ st 10 i < 10) ∧ (-5 ≤ st 21 0 ∧ st 21 0 ≤ 10) ∧ (0 ≤ st 21 1 ∧ st 21 1 < 1024) ∧ (st 21 2 = 0 ∨ st 21 2 = 1)
theorem IP.c6 {st : SS} (h : IP st) (i : Int) (h0 : 0 ≤ i) (h1 : i < 8) : 0 ≤ st 6 i ∧ st 6 i < 1024 := h.1 i h0 h1
theorem IP.c7 {st : SS} (h : IP st) (i : Int) (h0 : 0 ≤ i) (h1 : i < 80) : -1 ≤ st 7 i ∧ st 7 i ≤ 1 := h.2.1 i h0 h1
theorem IP.c8 {st : SS} (h : IP st) (i : Int) (h0 : 0 ≤ i) (h1 : i < 27) : st 8 i = 0 ∨ st 8 i = 1 := h.2.2.1 i h0 h1
theorem IP.c9 {st : SS} (h : IP st) (i : Int) (h0 : 0 ≤ i) (h1 : i < 8) : 0 ≤ st 9 i ∧ st 9 i < 10 := h.2.2.2.1 i h0 h1
theorem IP.c10 {st : SS} (h : IP st) (i : Int) (h0 : 0 ≤ i) (h1 : i < 10) : 0 ≤ st 10 i ∧ st 10 i < 10 := h.2.2.2.2.1 i h0 h1
theorem IP.s {st : SS} (h : IP st) : (-5 ≤ st 21 0 ∧ st 21 0 ≤ 10) ∧ (0 ≤ st 21 1 ∧ st 21 1 < 1024) ∧ (st 21 2 = 0 ∨ st 21 2 = 1) := h.2.2.2.2.2
def sAf (st : SS) (b la c : Int) : Int := if st 11 b = 1 then st 7 (b * 10 + c) else la
def FIT (st : SS) (b la c : Int) : Prop := ¬ (st 18 b = 1 ∧ la * st 7 (b * 10 + c) < 0) ∧ st 8 ((b + 1) * 3 + 1 + sAf st b la c) = 1
theorem sAf_b {st : SS} (h : IP st) {b la c : Int} (hb : 0 ≤ b ∧ b < 8) (hl : -1 ≤ la ∧ la ≤ 1) (hc : 0 ≤ c ∧ c < 10) : -1 ≤ sAf st b la c ∧ sAf st b la c ≤ 1 := by
  unfold sAf
  split
  · exact h.c7 _ (by omega) (by omega)
  · exact hl
/-- how many of n from i on have a property -/
noncomputable def cP (P : Int → Prop) : Nat → Int → Int
  | 0, _ => 0
  | n + 1, i => b2 (P i) + cP P n (i + 1)
theorem cP_s (P : Int → Prop) (n : Nat) (i : Int) : cP P (n + 1) i = b2 (P i) + cP P n (i + 1) := rfl
theorem cP_b (P : Int → Prop) : ∀ (n : Nat) (i : Int), 0 ≤ cP P n i ∧ cP P n i ≤ n
  | 0, _ => by rw [cP]; omega
  | n + 1, i => by
    have h1 := cP_b P n (i + 1)
    have h2 := b2_01 (P i)
    rw [cP_s]
    omega
theorem cP_cg {P P' : Int → Prop} : ∀ (n : Nat) (i : Int), (∀ j, i ≤ j → j < i + n → (P j ↔ P' j)) → cP P n i = cP P' n i
  | 0, _, _ => rfl
  | n + 1, i, h => by rw [cP_s, cP_s, b2_iff (h i (by omega) (by omega)), cP_cg n (i + 1) (fun j a b => h j (by omega) (by omega))]
/-- how long a board is -/
def LEN (fs ls wd rt : Int) : Int := if ls - fs + 1 < (wd + rt - 1) / rt then (wd + rt - 1) / rt else ls - fs + 1
theorem LEN_b {fs ls wd rt : Int} (h1 : 0 ≤ fs) (h2 : fs ≤ ls) (h3 : ls < 60) (h4 : 0 ≤ wd ∧ wd ≤ 200) (h5 : 1 ≤ rt ∧ rt ≤ 20) : 1 ≤ LEN fs ls wd rt ∧ LEN fs ls wd rt ≤ 220 := by
  have a1 : (wd + rt - 1) / rt ≤ wd + rt - 1 := Int.ediv_le_self _ (by omega)
  unfold LEN
  split <;> omega
noncomputable abbrev LENc (st : SS) (b : Int) : Int := LEN (st 15 b) (st 16 b) (st 17 b) (st 19 4)
/-- the sum of n lengths from i on -/
def sL (f : Int → Int) : Nat → Int → Int
  | 0, _ => 0
  | n + 1, i => f i + sL f n (i + 1)
theorem sL_s (f : Int → Int) (n : Nat) (i : Int) : sL f (n + 1) i = f i + sL f n (i + 1) := rfl
theorem sL_b {f : Int → Int} : ∀ (n : Nat) (i : Int), (∀ j, i ≤ j → j < i + n → 1 ≤ f j ∧ f j ≤ 220) → (n : Int) ≤ sL f n i ∧ sL f n i ≤ 220 * n
  | 0, _, _ => by rw [sL]; omega
  | n + 1, i, h => by
    have h1 := sL_b n (i + 1) (fun j a b => h j (by omega) (by omega))
    have h2 := h i (by omega) (by omega)
    rw [sL_s]
    omega
/-- the board in which frame f falls, of n boards from i on -/
def fR (L : Int → Int) : Nat → Int → Int → Int
  | 0, _, _ => -1
  | n + 1, i, f => if f < L i then i else fR L n (i + 1) (f - L i)
noncomputable def SLT (st : SS) (nb : Int) : Int := if lT (fun b => st 11 b = 1) nb.toNat = -1 then 0 else spk (st 12 (lT (fun b => st 11 b = 1) nb.toNat)) (PTN (st 12 (lT (fun b => st 11 b = 1) nb.toNat)) (st 13 (lT (fun b => st 11 b = 1) nb.toNat)))
theorem SLT_rg (st : SS) (nb : Int) : rg (SLT st nb) := by
  unfold SLT
  split
  · decide
  · exact zor_rg _ _
section ZX
variable {p : Program} {l : Launch} {e : Env} {R : Room} {s : State} {m : MethodId} {args : Array Value} {below : List Frame} {meth : Method} {c : Code} {H : Heap} {locs : List Loc} {cells slots : Nat} {Q : State → Prop}
variable {pc : Nat} {ls : Array Slot} {rest : List Value}
theorem z_max {cc : ByteArray} (hexec : p.tables.exec = Jvm.exec) (hb : c.code = cc) (hml : c.maxLocals = ls.size) {own : String} {index : Nat} (hown : s.vm.findClass own = some m.cls) (hlink : (Cond.methodLink own index Lib.Math.max.name).before args s = true) (hstat : (Cond.static Lib.Math.max.name).before args s = true) (hini : (Cond.initialized "java/lang/Math").before args s = true) (hcode : (Cond.code Lib.Math.max.name Lib.Math.max.code 2 (some .int)).before args s = true)
    (hframes : 1 ≤ R.frames) (hlocals : (rest.map fun v => v.category).sum + 13 ≤ R.locals) (hc : cells ≤ R.cells) (hs : slots ≤ R.slots) {x y : Int} (hx1 : rg x) (hy1 : rg y) (hdg : decode cc pc = .ok (.invokestatic index, 3))
    (kk : W p l e R s m args below meth c H locs cells slots Q (F0 m (pc + 3) ls (.int (iZ (if x < y then y else x)) :: rest))) : W p l e R s m args below meth c H locs cells slots Q (F0 m pc ls (.int (iZ y) :: .int (iZ x) :: rest)) := by
  refine va_mmax hexec hb hml hown hlink hstat hini hcode hframes hlocals hc hs hdg ?_
  by_cases h : x < y
  · rw [if_pos ((iZ_lt hx1 hy1).mpr h)]
    rw [if_pos h] at kk
    exact kk
  · rw [if_neg (fun z => h ((iZ_lt hx1 hy1).mp z))]
    rw [if_neg h] at kk
    exact kk
end ZX
