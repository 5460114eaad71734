/-! longs -/
def zland (a b : Int) : Int := (lZ a &&& lZ b).toInt
def zlor (a b : Int) : Int := (lZ a ||| lZ b).toInt
def zlshl (a b : Int) : Int := (lZ a <<< ((iZ b).toInt64 &&& 63)).toInt
def zlshr (a b : Int) : Int := (lZ a >>> ((iZ b).toInt64 &&& 63)).toInt
def zlushr (a b : Int) : Int := ((lZ a).toUInt64 >>> ((iZ b).toInt64.toUInt64 &&& Int64.toUInt64 63)).toInt64.toInt
def zl2i (a : Int) : Int := (lZ a).toInt32.toInt
def zlcmp (a b : Int) : Int := (lg_cmp (lZ a) (lZ b)).toInt
theorem lZ_self (x : Int64) : lZ x.toInt = x := Int64.ofInt_toInt x
theorem lZ_add (a b : Int) : lZ a + lZ b = lZ (a + b) := (Int64.ofInt_add a b).symm
theorem lZ_sub (a b : Int) : lZ a - lZ b = lZ (a - b) := (Int64.ofInt_sub a b).symm
section ZL
variable {p : Program} {l : Launch} {e : Env} {R : Room} {s : State} {m : MethodId} {args : Array Value} {below : List Frame} {meth : Method} {c : Code} {H : Heap} {locs : List Loc} {cells slots : Nat} {Q : State → Prop}
variable {cc : ByteArray} {pc : Nat} {ls : Array Slot} {rest : List Value}
theorem z_lconst (hx : p.tables.exec = Jvm.exec) (hb : c.code = cc) {n : Fin 2} (z : Int) (hdg : decode cc pc = .ok (.lconst n, 1)) (hv : Int64.ofNat (n : Nat) = lZ z) (k : W p l e R s m args below meth c H locs cells slots Q (F0 m (pc + 1) ls (.long (lZ z) :: rest))) : W p l e R s m args below meth c H locs cells slots Q (F0 m pc ls rest) := lv_lconst hx hb hdg hv k
theorem z_land (hx : p.tables.exec = Jvm.exec) (hb : c.code = cc) {x y : Int} (hdg : decode cc pc = .ok (.land, 1)) (k : W p l e R s m args below meth c H locs cells slots Q (F0 m (pc + 1) ls (.long (lZ (zland x y)) :: rest))) : W p l e R s m args below meth c H locs cells slots Q (F0 m pc ls (.long (lZ y) :: .long (lZ x) :: rest)) := lv_land hx hb hdg (by unfold zland at k; rw [lZ_self] at k; exact k)
theorem z_lor (hx : p.tables.exec = Jvm.exec) (hb : c.code = cc) {x y : Int} (hdg : decode cc pc = .ok (.lor, 1)) (k : W p l e R s m args below meth c H locs cells slots Q (F0 m (pc + 1) ls (.long (lZ (zlor x y)) :: rest))) : W p l e R s m args below meth c H locs cells slots Q (F0 m pc ls (.long (lZ y) :: .long (lZ x) :: rest)) := lv_lor hx hb hdg (by unfold zlor at k; rw [lZ_self] at k; exact k)
theorem z_ladd (hx : p.tables.exec = Jvm.exec) (hb : c.code = cc) {x y : Int} (hdg : decode cc pc = .ok (.ladd, 1)) (k : W p l e R s m args below meth c H locs cells slots Q (F0 m (pc + 1) ls (.long (lZ (x + y)) :: rest))) : W p l e R s m args below meth c H locs cells slots Q (F0 m pc ls (.long (lZ y) :: .long (lZ x) :: rest)) := lv_ladd hx hb hdg (by rw [lZ_add]; exact k)
theorem z_lsub (hx : p.tables.exec = Jvm.exec) (hb : c.code = cc) {x y : Int} (hdg : decode cc pc = .ok (.lsub, 1)) (k : W p l e R s m args below meth c H locs cells slots Q (F0 m (pc + 1) ls (.long (lZ (x - y)) :: rest))) : W p l e R s m args below meth c H locs cells slots Q (F0 m pc ls (.long (lZ y) :: .long (lZ x) :: rest)) := lv_lsub hx hb hdg (by rw [lZ_sub]; exact k)
theorem z_lshl (hx : p.tables.exec = Jvm.exec) (hb : c.code = cc) {x y : Int} (hdg : decode cc pc = .ok (.lshl, 1)) (k : W p l e R s m args below meth c H locs cells slots Q (F0 m (pc + 1) ls (.long (lZ (zlshl x y)) :: rest))) : W p l e R s m args below meth c H locs cells slots Q (F0 m pc ls (.int (iZ y) :: .long (lZ x) :: rest)) := lv_lshl hx hb hdg (lZ_self _).symm k
theorem z_lshr (hx : p.tables.exec = Jvm.exec) (hb : c.code = cc) {x y : Int} (hdg : decode cc pc = .ok (.lshr, 1)) (k : W p l e R s m args below meth c H locs cells slots Q (F0 m (pc + 1) ls (.long (lZ (zlshr x y)) :: rest))) : W p l e R s m args below meth c H locs cells slots Q (F0 m pc ls (.int (iZ y) :: .long (lZ x) :: rest)) := lv_lshr hx hb hdg (lZ_self _).symm k
theorem z_lushr (hx : p.tables.exec = Jvm.exec) (hb : c.code = cc) {x y : Int} (hdg : decode cc pc = .ok (.lushr, 1)) (k : W p l e R s m args below meth c H locs cells slots Q (F0 m (pc + 1) ls (.long (lZ (zlushr x y)) :: rest))) : W p l e R s m args below meth c H locs cells slots Q (F0 m pc ls (.int (iZ y) :: .long (lZ x) :: rest)) := lv_lushr hx hb hdg (lZ_self _).symm k
theorem z_l2i (hx : p.tables.exec = Jvm.exec) (hb : c.code = cc) {x : Int} (hdg : decode cc pc = .ok (.l2i, 1)) (k : W p l e R s m args below meth c H locs cells slots Q (F0 m (pc + 1) ls (.int (iZ (zl2i x)) :: rest))) : W p l e R s m args below meth c H locs cells slots Q (F0 m pc ls (.long (lZ x) :: rest)) := lv_l2i hx hb hdg (iZ_self _).symm k
theorem z_lcmp (hx : p.tables.exec = Jvm.exec) (hb : c.code = cc) {x y : Int} (hdg : decode cc pc = .ok (.lcmp, 1)) (k : W p l e R s m args below meth c H locs cells slots Q (F0 m (pc + 1) ls (.int (iZ (zlcmp x y)) :: rest))) : W p l e R s m args below meth c H locs cells slots Q (F0 m pc ls (.long (lZ y) :: .long (lZ x) :: rest)) := W.lcmp hx hb hdg (by unfold zlcmp at k; rw [iZ_self] at k; exact k)
theorem z_ldcw (hx : p.tables.exec = Jvm.exec) (hb : c.code = cc) {own : String} {index : Nat} {v : Int32} (z : Int) (hz : v = iZ z) (hown : s.vm.findClass own = some m.cls) (hconst : (Jvm.Cond.constant own index v).before args s = true) (hdg : decode cc pc = .ok (.ldc_w index, 3)) (k : W p l e R s m args below meth c H locs cells slots Q (F0 m (pc + 3) ls (.int (iZ z) :: rest))) : W p l e R s m args below meth c H locs cells slots Q (F0 m pc ls rest) := lv_ldcw hx hb hown hconst hdg (by rw [hz]; exact k)
theorem z_ldc2 (hx : p.tables.exec = Jvm.exec) (hb : c.code = cc) {own : String} {index : Nat} {v : Int64} (z : Int) (hz : v = lZ z) (hown : s.vm.findClass own = some m.cls) (hconst : (Jvm.Cond.constantLong own index v).before args s = true) (hdg : decode cc pc = .ok (.ldc2_w index, 3)) (k : W p l e R s m args below meth c H locs cells slots Q (F0 m (pc + 3) ls (.long (lZ z) :: rest))) : W p l e R s m args below meth c H locs cells slots Q (F0 m pc ls rest) := lv_ldc2 hx hb hown hconst hdg (by rw [hz]; exact k)
end ZL
theorem lZ_t {z : Int} (h0 : -9223372036854775808 ≤ z) (h1 : z < 9223372036854775808) : (lZ z).toInt = z := Int64.toInt_ofInt_of_le (by omega) (by omega)
theorem lZ_lN (n : Nat) : lZ (n : Int) = lN n := Int64.ofInt_eq_ofNat
theorem lZ_bv (n : Nat) : (lZ (n : Int)).toBitVec = BitVec.ofNat 64 n := by rw [lZ_lN]; rfl
theorem bt_nn (n j : Nat) : bt (n : Int) (j : Int) ↔ n / 2 ^ j % 2 = 1 := by
  unfold bt
  simp only [Int.toNat_natCast]
  rw [Nat.testBit_eq_decide_div_mod_eq, decide_eq_true_iff]
theorem lZ_shr {n j : Nat} (hn : n < 9223372036854775808) (hj : j < 64) : lZ (n : Int) >>> ((iZ (j : Int)).toInt64 &&& 63) = lZ ((n / 2 ^ j : Nat) : Int) := by
  have e1 : ∀ j : Nat, j < 64 → ((iZ (j : Int)).toInt64 &&& 63).toBitVec.smod 64 = BitVec.ofNat 64 j := by decide +kernel
  have a3 : n / 2 ^ j ≤ n := Nat.div_le_self _ _
  have a5 : (n : Int) >>> j = ((n / 2 ^ j : Nat) : Int) := by rw [Int.shiftRight_eq_div_pow]; simp
  apply Int64.toBitVec.inj
  rw [Int64.toBitVec_shiftRight, e1 j hj, lZ_bv, lZ_bv]
  apply BitVec.eq_of_toInt_eq
  have a1 : (BitVec.ofNat 64 j).toNat = j := by rw [BitVec.toNat_ofNat]; omega
  rw [BitVec.sshiftRight_eq', a1, BitVec.toInt_sshiftRight]
  have a2 : ∀ k : Nat, k < 9223372036854775808 → (BitVec.ofNat 64 k).toInt = (k : Int) := by
    intro k hk
    rw [BitVec.toInt_eq_toNat_of_lt (by rw [BitVec.toNat_ofNat]; omega), BitVec.toNat_ofNat]
    omega
  rw [a2 n hn, a5]
  generalize n / 2 ^ j = q at a3
  rw [a2 q (by omega)]
theorem lZ_and1 {q : Nat} (hq : q < 9223372036854775808) : lZ (q : Int) &&& lZ 1 = lZ ((q % 2 : Nat) : Int) := by
  apply Int64.toBitVec.inj
  rw [Int64.toBitVec_and, lZ_bv, lZ_bv]
  have : (lZ 1).toBitVec = BitVec.ofNat 64 1 := by decide +kernel
  rw [this]
  apply BitVec.eq_of_toNat_eq
  rw [BitVec.toNat_and, BitVec.toNat_ofNat, BitVec.toNat_ofNat, BitVec.toNat_ofNat]
  rw [Nat.mod_eq_of_lt (show q < 2 ^ 64 by omega), show (1 % 2 ^ 64 : Nat) = 1 from rfl, Nat.and_one_is_mod, Nat.mod_eq_of_lt (show q % 2 < 2 ^ 64 by omega)]
/-- a step's bit, as the class asks for it -/
theorem step_z {m k : Int} (h0 : 0 ≤ m) (h1 : m < 1152921504606846976) (h2 : 0 ≤ k) (h3 : k < 60) : zlcmp (zland (zlshr m k) 1) 0 = b2 (bt m k) := by
  obtain ⟨n, rfl⟩ := Int.eq_ofNat_of_zero_le h0
  obtain ⟨j, rfl⟩ := Int.eq_ofNat_of_zero_le h2
  have a3 : n / 2 ^ j ≤ n := Nat.div_le_self _ _
  have hb := bt_nn n j
  unfold zlshr
  rw [lZ_shr (by omega) (by omega)]
  generalize n / 2 ^ j = q at a3 hb
  rw [lZ_t (by omega) (by omega)]
  unfold zland
  rw [lZ_and1 (by omega), lZ_t (by omega) (by omega)]
  rcases Nat.mod_two_eq_zero_or_one q with e | e
  · rw [e] at hb
    rw [e, b2_f (fun z => by have := hb.mp z; omega)]
    decide +kernel
  · rw [e] at hb
    rw [e, b2_t (hb.mpr rfl)]
    decide +kernel
theorem z_asL {p : Program} {l : Launch} {e : Env} {R : Room} {s : State} {m : MethodId} {args : Array Value} {below : List Frame} {meth : Method} {c : Code} {H : Heap} {locs : List Loc} {cells slots : Nat} {Q : State → Prop} {pc : Nat} {ls : Array Slot} {rest : List Value} {x y : Int} (h : x = y) (k : W p l e R s m args below meth c H locs cells slots Q (F0 m pc ls (.long (lZ y) :: rest))) : W p l e R s m args below meth c H locs cells slots Q (F0 m pc ls (.long (lZ x) :: rest)) := h ▸ k
