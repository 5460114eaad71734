/-! numbers: every int of the machine is iZ of an integer -/
def iZ (z : Int) : Int32 := Int32.ofInt z
theorem iZ_add (a b : Int) : iZ a + iZ b = iZ (a + b) := (Int32.ofInt_add a b).symm
theorem iZ_sub (a b : Int) : iZ a - iZ b = iZ (a - b) := (Int32.ofInt_sub a b).symm
theorem iZ_mul (a b : Int) : iZ a * iZ b = iZ (a * b) := (Int32.ofInt_mul a b).symm
theorem iZ_neg (a : Int) : -iZ a = iZ (-a) := (Int32.ofInt_neg a).symm
theorem iZ_self (x : Int32) : iZ x.toInt = x := Int32.ofInt_toInt x
abbrev rg (z : Int) : Prop := -2147483648 ≤ z ∧ z < 2147483648
theorem rg_of (x : Int32) : rg x.toInt := by
  have h1 := Int32.le_toInt x
  have h2 := Int32.toInt_lt x
  omega
theorem iZ_t {z : Int} (h : rg z) : (iZ z).toInt = z := Int32.toInt_ofInt_of_le (by omega) (by omega)
theorem iZ_lt {a b : Int} (ha : rg a) (hb : rg b) : iZ a < iZ b ↔ a < b := by rw [Int32.lt_iff_toInt_lt, iZ_t ha, iZ_t hb]
theorem iZ_le {a b : Int} (ha : rg a) (hb : rg b) : iZ a ≤ iZ b ↔ a ≤ b := by rw [Int32.le_iff_toInt_le, iZ_t ha, iZ_t hb]
theorem iZ_eq {a b : Int} (ha : rg a) (hb : rg b) : iZ a = iZ b ↔ a = b := by rw [← Int32.toInt_inj, iZ_t ha, iZ_t hb]
theorem iZ_0 : iZ 0 = 0 := by decide +kernel
theorem iZ_nI (n : Nat) : iZ (n : Int) = nI n := Int32.ofInt_eq_ofNat
theorem iZ_clamp {z : Int} (h0 : 0 ≤ z) (h1 : z < 2147483648) : (iZ z).toNatClampNeg = z.toNat := by
  obtain ⟨n, rfl⟩ := Int.eq_ofNat_of_zero_le h0
  rw [iZ_nI, nI_clamp (by omega)]
  rfl
theorem iZ_in {z : Int} {n : Nat} (h0 : 0 ≤ z) (h1 : z < n) (h2 : z < 2147483648) : vp_in (iZ z) n := by
  rw [vp_in_iff, iZ_t (by omega)]
  exact ⟨h0, h1⟩
def iA (f : Int → Int) : Nat → Int32 := fun k => iZ (f (k : Int))
def uf (f : Int → Int) (i v : Int) : Int → Int := fun j => if j = i then v else f j
theorem uf_s (f : Int → Int) (i v : Int) : uf f i v i = v := if_pos rfl
theorem uf_n (f : Int → Int) {i j : Int} (v : Int) (h : j ≠ i) : uf f i v j = f j := if_neg h
theorem iA_at (f : Int → Int) {z : Int} (h0 : 0 ≤ z) (h1 : z < 2147483648) : iA f (iZ z).toNatClampNeg = iZ (f z) := by
  rw [iZ_clamp h0 h1]
  show iZ (f ((z.toNat : Nat) : Int)) = _
  rw [Int.toNat_of_nonneg h0]
theorem iA_up (f : Int → Int) {z : Int} (v : Int) (h0 : 0 ≤ z) (h1 : z < 2147483648) : upd (iA f) (iZ z).toNatClampNeg (iZ v) = iA (uf f z v) := by
  funext k
  rw [iZ_clamp h0 h1]
  by_cases h : k = z.toNat
  · subst h
    rw [pk_us]
    show _ = iZ (uf f z v ((z.toNat : Nat) : Int))
    rw [Int.toNat_of_nonneg h0, uf_s]
  · rw [pk_un h]
    show iZ (f (k : Int)) = iZ (uf f z v (k : Int))
    rw [uf_n f v (by omega)]
def lZ (z : Int) : Int64 := Int64.ofInt z
def lA (f : Int → Int) : Nat → Int64 := fun k => lZ (f (k : Int))
theorem lA_at (f : Int → Int) {z : Int} (h0 : 0 ≤ z) (h1 : z < 2147483648) : lA f (iZ z).toNatClampNeg = lZ (f z) := by
  rw [iZ_clamp h0 h1]
  show lZ (f ((z.toNat : Nat) : Int)) = _
  rw [Int.toNat_of_nonneg h0]
theorem lA_up (f : Int → Int) {z : Int} (v : Int) (h0 : 0 ≤ z) (h1 : z < 2147483648) : vp_updL (lA f) (iZ z).toNatClampNeg (lZ v) = lA (uf f z v) := by
  funext k
  rw [iZ_clamp h0 h1]
  by_cases h : k = z.toNat
  · subst h
    rw [pk_uLs]
    show _ = lZ (uf f z v ((z.toNat : Nat) : Int))
    rw [Int.toNat_of_nonneg h0, uf_s]
  · rw [pk_uLn h]
    show lZ (f (k : Int)) = lZ (uf f z v (k : Int))
    rw [uf_n f v (by omega)]
/-! a truth as a number -/
noncomputable def b2 (P : Prop) : Int := @ite Int P (Classical.propDecidable P) 1 0
theorem b2_t {P : Prop} (h : P) : b2 P = 1 := by unfold b2; exact if_pos h
theorem b2_f {P : Prop} (h : ¬ P) : b2 P = 0 := by unfold b2; exact if_neg h
theorem b2_01 (P : Prop) : b2 P = 0 ∨ b2 P = 1 := by
  rcases Classical.em P with h | h
  · exact Or.inr (b2_t h)
  · exact Or.inl (b2_f h)
theorem b2_1 {P : Prop} (h : b2 P = 1) : P := Classical.byContradiction fun q => by rw [b2_f q] at h; cases h
theorem b2_n1 {P : Prop} (h : ¬ b2 P = 1) : ¬ P := fun q => h (b2_t q)
theorem b2_0 {P : Prop} (h : b2 P = 0) : ¬ P := fun q => by rw [b2_t q] at h; cases h
theorem b2_n0 {P : Prop} (h : ¬ b2 P = 0) : P := Classical.byContradiction fun q => h (b2_f q)
theorem b2_rg (P : Prop) : rg (b2 P) := by rcases b2_01 P with h | h <;> rw [h] <;> decide
theorem b2_iff {P P' : Prop} (h : P ↔ P') : b2 P = b2 P' := by rw [propext h]
theorem b2_pos {P : Prop} {v : Int} (h : P) (hv : v = 1) : v = b2 P := by rw [hv, b2_t h]
theorem b2_neg {P : Prop} {v : Int} (h : ¬ P) (hv : v = 0) : v = b2 P := by rw [hv, b2_f h]
/-! the machine's operators that are kept as they are, told over integers -/
def zand (a b : Int) : Int := (iZ a &&& iZ b).toInt
def zor (a b : Int) : Int := (iZ a ||| iZ b).toInt
def zxor (a b : Int) : Int := (iZ a ^^^ iZ b).toInt
def zshl (a b : Int) : Int := (iZ a <<< (iZ b &&& 31)).toInt
def zshr (a b : Int) : Int := (iZ a >>> (iZ b &&& 31)).toInt
def zushr (a b : Int) : Int := ((iZ a).toUInt32 >>> ((iZ b).toUInt32 &&& Int32.toUInt32 31)).toInt32.toInt
theorem iZ_tdiv {a b : Int} (ha : rg a) (hb : rg b) (h : 0 < b) : iZ a / iZ b = iZ (a.tdiv b) := by
  have h1 : (iZ b) ≠ -1 := fun e => by
    have h2 := congrArg Int32.toInt e
    rw [iZ_t hb] at h2
    have h3 : (-1 : Int32).toInt = -1 := by decide +kernel
    omega
  rw [← Int32.toInt_inj, Int32.toInt_div_of_ne_right _ _ h1, iZ_t ha, iZ_t hb]
  have h4 : rg (a.tdiv b) := by
    rcases Int.le_total 0 a with q | q
    · rw [Int.tdiv_eq_ediv_of_nonneg q]
      have h5 := Int.ediv_nonneg q (Int.le_of_lt h)
      have h6 := Int.ediv_le_self b q
      omega
    · have e : a = -(-a) := by omega
      rw [e, Int.neg_tdiv, Int.tdiv_eq_ediv_of_nonneg (by omega)]
      have h5 := Int.ediv_nonneg (a := -a) (by omega) (Int.le_of_lt h)
      have h6 := Int.ediv_le_self (a := -a) b (by omega)
      omega
  rw [iZ_t h4]
theorem iZ_div {a b : Int} (h0 : 0 ≤ a) (ha : rg a) (hb : rg b) (h : 0 < b) : iZ a / iZ b = iZ (a / b) := by
  rw [iZ_tdiv ha hb h, Int.tdiv_eq_ediv_of_nonneg h0]
theorem iZ_trem {a b : Int} (ha : rg a) (hb : rg b) (h : 0 < b) : iZ a - iZ a / iZ b * iZ b = iZ (a.tmod b) := by
  rw [iZ_tdiv ha hb h, iZ_mul, iZ_sub, Int.tmod_def, Int.mul_comm]
theorem iZ_rem {a b : Int} (h0 : 0 ≤ a) (ha : rg a) (hb : rg b) (h : 0 < b) : iZ a - iZ a / iZ b * iZ b = iZ (a % b) := by
  rw [iZ_trem ha hb h, Int.tmod_eq_emod_of_nonneg h0]
theorem rg_0 : rg 0 := by decide
section ZO
variable {p : Program} {l : Launch} {e : Env} {R : Room} {s : State} {m : MethodId} {args : Array Value} {below : List Frame} {meth : Method} {c : Code} {H : Heap} {locs : List Loc} {cells slots : Nat} {Q : State → Prop}
variable {cc : ByteArray} {pc : Nat} {ls : Array Slot} {rest : List Value}
theorem z_iconst (hx : p.tables.exec = Jvm.exec) (hb : c.code = cc) {n : Int} (hdg : decode cc pc = .ok (.iconst n, 1)) (k : W p l e R s m args below meth c H locs cells slots Q (F0 m (pc + 1) ls (.int (iZ n) :: rest))) : W p l e R s m args below meth c H locs cells slots Q (F0 m pc ls rest) := lv_iconst hx hb hdg rfl k
theorem z_bipush (hx : p.tables.exec = Jvm.exec) (hb : c.code = cc) {n : Int} (hdg : decode cc pc = .ok (.bipush n, 2)) (hv : (Int8.ofInt n).toInt32 = iZ n) (k : W p l e R s m args below meth c H locs cells slots Q (F0 m (pc + 2) ls (.int (iZ n) :: rest))) : W p l e R s m args below meth c H locs cells slots Q (F0 m pc ls rest) := lv_bipush hx hb hdg hv k
theorem z_sipush (hx : p.tables.exec = Jvm.exec) (hb : c.code = cc) {n : Int} (hdg : decode cc pc = .ok (.sipush n, 3)) (hv : (Int16.ofInt n).toInt32 = iZ n) (k : W p l e R s m args below meth c H locs cells slots Q (F0 m (pc + 3) ls (.int (iZ n) :: rest))) : W p l e R s m args below meth c H locs cells slots Q (F0 m pc ls rest) := lv_sipush hx hb hdg hv k
theorem z_iadd (hx : p.tables.exec = Jvm.exec) (hb : c.code = cc) {x y : Int} (hdg : decode cc pc = .ok (.iadd, 1)) (k : W p l e R s m args below meth c H locs cells slots Q (F0 m (pc + 1) ls (.int (iZ (x + y)) :: rest))) : W p l e R s m args below meth c H locs cells slots Q (F0 m pc ls (.int (iZ y) :: .int (iZ x) :: rest)) := lv_iadd hx hb hdg (by rw [iZ_add]; exact k)
theorem z_isub (hx : p.tables.exec = Jvm.exec) (hb : c.code = cc) {x y : Int} (hdg : decode cc pc = .ok (.isub, 1)) (k : W p l e R s m args below meth c H locs cells slots Q (F0 m (pc + 1) ls (.int (iZ (x - y)) :: rest))) : W p l e R s m args below meth c H locs cells slots Q (F0 m pc ls (.int (iZ y) :: .int (iZ x) :: rest)) := lv_isub hx hb hdg (by rw [iZ_sub]; exact k)
theorem z_imul (hx : p.tables.exec = Jvm.exec) (hb : c.code = cc) {x y : Int} (hdg : decode cc pc = .ok (.imul, 1)) (k : W p l e R s m args below meth c H locs cells slots Q (F0 m (pc + 1) ls (.int (iZ (x * y)) :: rest))) : W p l e R s m args below meth c H locs cells slots Q (F0 m pc ls (.int (iZ y) :: .int (iZ x) :: rest)) := lv_imul hx hb hdg (by rw [iZ_mul]; exact k)
theorem z_ineg (hx : p.tables.exec = Jvm.exec) (hb : c.code = cc) {x : Int} (hdg : decode cc pc = .ok (.ineg, 1)) (k : W p l e R s m args below meth c H locs cells slots Q (F0 m (pc + 1) ls (.int (iZ (-x)) :: rest))) : W p l e R s m args below meth c H locs cells slots Q (F0 m pc ls (.int (iZ x) :: rest)) := lv_ineg hx hb hdg (by rw [iZ_neg]; exact k)
theorem z_iand (hx : p.tables.exec = Jvm.exec) (hb : c.code = cc) {x y : Int} (hdg : decode cc pc = .ok (.iand, 1)) (k : W p l e R s m args below meth c H locs cells slots Q (F0 m (pc + 1) ls (.int (iZ (zand x y)) :: rest))) : W p l e R s m args below meth c H locs cells slots Q (F0 m pc ls (.int (iZ y) :: .int (iZ x) :: rest)) := lv_iand hx hb hdg (by unfold zand at k; rw [iZ_self] at k; exact k)
theorem z_ior (hx : p.tables.exec = Jvm.exec) (hb : c.code = cc) {x y : Int} (hdg : decode cc pc = .ok (.ior, 1)) (k : W p l e R s m args below meth c H locs cells slots Q (F0 m (pc + 1) ls (.int (iZ (zor x y)) :: rest))) : W p l e R s m args below meth c H locs cells slots Q (F0 m pc ls (.int (iZ y) :: .int (iZ x) :: rest)) := lv_ior hx hb hdg (by unfold zor at k; rw [iZ_self] at k; exact k)
theorem z_ixor (hx : p.tables.exec = Jvm.exec) (hb : c.code = cc) {x y : Int} (hdg : decode cc pc = .ok (.ixor, 1)) (k : W p l e R s m args below meth c H locs cells slots Q (F0 m (pc + 1) ls (.int (iZ (zxor x y)) :: rest))) : W p l e R s m args below meth c H locs cells slots Q (F0 m pc ls (.int (iZ y) :: .int (iZ x) :: rest)) := lv_ixor hx hb hdg (by unfold zxor at k; rw [iZ_self] at k; exact k)
theorem z_ishl (hx : p.tables.exec = Jvm.exec) (hb : c.code = cc) {x y : Int} (hdg : decode cc pc = .ok (.ishl, 1)) (k : W p l e R s m args below meth c H locs cells slots Q (F0 m (pc + 1) ls (.int (iZ (zshl x y)) :: rest))) : W p l e R s m args below meth c H locs cells slots Q (F0 m pc ls (.int (iZ y) :: .int (iZ x) :: rest)) := lv_ishl hx hb hdg (by unfold zshl at k; rw [iZ_self] at k; exact k)
theorem z_ishr (hx : p.tables.exec = Jvm.exec) (hb : c.code = cc) {x y : Int} (hdg : decode cc pc = .ok (.ishr, 1)) (k : W p l e R s m args below meth c H locs cells slots Q (F0 m (pc + 1) ls (.int (iZ (zshr x y)) :: rest))) : W p l e R s m args below meth c H locs cells slots Q (F0 m pc ls (.int (iZ y) :: .int (iZ x) :: rest)) := lv_ishr hx hb hdg (by unfold zshr at k; rw [iZ_self] at k; exact k)
theorem z_iushr (hx : p.tables.exec = Jvm.exec) (hb : c.code = cc) {x y : Int} (hdg : decode cc pc = .ok (.iushr, 1)) (k : W p l e R s m args below meth c H locs cells slots Q (F0 m (pc + 1) ls (.int (iZ (zushr x y)) :: rest))) : W p l e R s m args below meth c H locs cells slots Q (F0 m pc ls (.int (iZ y) :: .int (iZ x) :: rest)) := lv_iushr hx hb hdg (iZ_self _).symm k
theorem z_idiv (hx : p.tables.exec = Jvm.exec) (hb : c.code = cc) {x y : Int} (h0 : 0 ≤ x) (hx1 : rg x) (hy : rg y) (hy0 : 0 < y) (hdg : decode cc pc = .ok (.idiv, 1)) (k : W p l e R s m args below meth c H locs cells slots Q (F0 m (pc + 1) ls (.int (iZ (x / y)) :: rest))) : W p l e R s m args below meth c H locs cells slots Q (F0 m pc ls (.int (iZ y) :: .int (iZ x) :: rest)) :=
  lv_idiv hx hb hdg (fun q => by rw [← iZ_0, iZ_eq hy (by decide)] at q; omega) (by rw [iZ_div h0 hx1 hy hy0]; exact k)
theorem z_irem (hx : p.tables.exec = Jvm.exec) (hb : c.code = cc) {x y : Int} (h0 : 0 ≤ x) (hx1 : rg x) (hy : rg y) (hy0 : 0 < y) (hdg : decode cc pc = .ok (.irem, 1)) (k : W p l e R s m args below meth c H locs cells slots Q (F0 m (pc + 1) ls (.int (iZ (x % y)) :: rest))) : W p l e R s m args below meth c H locs cells slots Q (F0 m pc ls (.int (iZ y) :: .int (iZ x) :: rest)) :=
  lv_irem hx hb hdg (fun q => by rw [← iZ_0, iZ_eq hy (by decide)] at q; omega) (by rw [iZ_rem h0 hx1 hy hy0]; exact k)
theorem z_tdiv (hx : p.tables.exec = Jvm.exec) (hb : c.code = cc) {x y : Int} (hx1 : rg x) (hy : rg y) (hy0 : 0 < y) (hdg : decode cc pc = .ok (.idiv, 1)) (k : W p l e R s m args below meth c H locs cells slots Q (F0 m (pc + 1) ls (.int (iZ (x.tdiv y)) :: rest))) : W p l e R s m args below meth c H locs cells slots Q (F0 m pc ls (.int (iZ y) :: .int (iZ x) :: rest)) :=
  lv_idiv hx hb hdg (fun q => by rw [← iZ_0, iZ_eq hy (by decide)] at q; omega) (by rw [iZ_tdiv hx1 hy hy0]; exact k)
theorem z_trem (hx : p.tables.exec = Jvm.exec) (hb : c.code = cc) {x y : Int} (hx1 : rg x) (hy : rg y) (hy0 : 0 < y) (hdg : decode cc pc = .ok (.irem, 1)) (k : W p l e R s m args below meth c H locs cells slots Q (F0 m (pc + 1) ls (.int (iZ (x.tmod y)) :: rest))) : W p l e R s m args below meth c H locs cells slots Q (F0 m pc ls (.int (iZ y) :: .int (iZ x) :: rest)) :=
  lv_irem hx hb hdg (fun q => by rw [← iZ_0, iZ_eq hy (by decide)] at q; omega) (by rw [iZ_trem hx1 hy hy0]; exact k)
/-- a number on the stack under another name -/
theorem z_as {x y : Int} (h : x = y) (k : W p l e R s m args below meth c H locs cells slots Q (F0 m pc ls (.int (iZ y) :: rest))) : W p l e R s m args below meth c H locs cells slots Q (F0 m pc ls (.int (iZ x) :: rest)) := h ▸ k
theorem z_icmp_eq (hx : p.tables.exec = Jvm.exec) (hb : c.code = cc) {x y : Int} {off : Int} {tgt : Nat} (hx1 : rg x) (hy1 : rg y) (hdg : decode cc pc = .ok (.if_icmp .eq off, 3)) (ht : (pc : Int) + off = (tgt : Int)) (kt : x = y → W p l e R s m args below meth c H locs cells slots Q (F0 m tgt ls rest)) (kf : x ≠ y → W p l e R s m args below meth c H locs cells slots Q (F0 m (pc + 3) ls rest)) : W p l e R s m args below meth c H locs cells slots Q (F0 m pc ls (.int (iZ y) :: .int (iZ x) :: rest)) :=
  lv_icmp_eq hx hb hdg ht (fun q => kt ((iZ_eq hx1 hy1).mp q)) (fun q => kf (fun z => q ((iZ_eq hx1 hy1).mpr z)))
theorem z_if_eq (hx : p.tables.exec = Jvm.exec) (hb : c.code = cc) {x : Int} {off : Int} {tgt : Nat} (hx1 : rg x) (hdg : decode cc pc = .ok (.ifCond .eq off, 3)) (ht : (pc : Int) + off = (tgt : Int)) (kt : x = 0 → W p l e R s m args below meth c H locs cells slots Q (F0 m tgt ls rest)) (kf : x ≠ 0 → W p l e R s m args below meth c H locs cells slots Q (F0 m (pc + 3) ls rest)) : W p l e R s m args below meth c H locs cells slots Q (F0 m pc ls (.int (iZ x) :: rest)) :=
  lv_if_eq hx hb hdg ht (by rw [← iZ_0]; exact (fun q => kt ((iZ_eq hx1 rg_0).mp q))) (by rw [← iZ_0]; exact (fun q => kf (fun z => q ((iZ_eq hx1 rg_0).mpr z))))
theorem z_icmp_ne (hx : p.tables.exec = Jvm.exec) (hb : c.code = cc) {x y : Int} {off : Int} {tgt : Nat} (hx1 : rg x) (hy1 : rg y) (hdg : decode cc pc = .ok (.if_icmp .ne off, 3)) (ht : (pc : Int) + off = (tgt : Int)) (kt : x ≠ y → W p l e R s m args below meth c H locs cells slots Q (F0 m tgt ls rest)) (kf : x = y → W p l e R s m args below meth c H locs cells slots Q (F0 m (pc + 3) ls rest)) : W p l e R s m args below meth c H locs cells slots Q (F0 m pc ls (.int (iZ y) :: .int (iZ x) :: rest)) :=
  lv_icmp_ne hx hb hdg ht (fun q => kt (fun z => q ((iZ_eq hx1 hy1).mpr z))) (fun q => kf ((iZ_eq hx1 hy1).mp q))
theorem z_if_ne (hx : p.tables.exec = Jvm.exec) (hb : c.code = cc) {x : Int} {off : Int} {tgt : Nat} (hx1 : rg x) (hdg : decode cc pc = .ok (.ifCond .ne off, 3)) (ht : (pc : Int) + off = (tgt : Int)) (kt : x ≠ 0 → W p l e R s m args below meth c H locs cells slots Q (F0 m tgt ls rest)) (kf : x = 0 → W p l e R s m args below meth c H locs cells slots Q (F0 m (pc + 3) ls rest)) : W p l e R s m args below meth c H locs cells slots Q (F0 m pc ls (.int (iZ x) :: rest)) :=
  lv_if_ne hx hb hdg ht (by rw [← iZ_0]; exact (fun q => kt (fun z => q ((iZ_eq hx1 rg_0).mpr z)))) (by rw [← iZ_0]; exact (fun q => kf ((iZ_eq hx1 rg_0).mp q)))
theorem z_icmp_lt (hx : p.tables.exec = Jvm.exec) (hb : c.code = cc) {x y : Int} {off : Int} {tgt : Nat} (hx1 : rg x) (hy1 : rg y) (hdg : decode cc pc = .ok (.if_icmp .lt off, 3)) (ht : (pc : Int) + off = (tgt : Int)) (kt : x < y → W p l e R s m args below meth c H locs cells slots Q (F0 m tgt ls rest)) (kf : y ≤ x → W p l e R s m args below meth c H locs cells slots Q (F0 m (pc + 3) ls rest)) : W p l e R s m args below meth c H locs cells slots Q (F0 m pc ls (.int (iZ y) :: .int (iZ x) :: rest)) :=
  lv_icmp_lt hx hb hdg ht (fun q => kt ((iZ_lt hx1 hy1).mp q)) (fun q => kf (Int.not_lt.mp (fun z => q ((iZ_lt hx1 hy1).mpr z))))
theorem z_if_lt (hx : p.tables.exec = Jvm.exec) (hb : c.code = cc) {x : Int} {off : Int} {tgt : Nat} (hx1 : rg x) (hdg : decode cc pc = .ok (.ifCond .lt off, 3)) (ht : (pc : Int) + off = (tgt : Int)) (kt : x < 0 → W p l e R s m args below meth c H locs cells slots Q (F0 m tgt ls rest)) (kf : 0 ≤ x → W p l e R s m args below meth c H locs cells slots Q (F0 m (pc + 3) ls rest)) : W p l e R s m args below meth c H locs cells slots Q (F0 m pc ls (.int (iZ x) :: rest)) :=
  lv_if_lt hx hb hdg ht (by rw [← iZ_0]; exact (fun q => kt ((iZ_lt hx1 rg_0).mp q))) (by rw [← iZ_0]; exact (fun q => kf (Int.not_lt.mp (fun z => q ((iZ_lt hx1 rg_0).mpr z)))))
theorem z_icmp_ge (hx : p.tables.exec = Jvm.exec) (hb : c.code = cc) {x y : Int} {off : Int} {tgt : Nat} (hx1 : rg x) (hy1 : rg y) (hdg : decode cc pc = .ok (.if_icmp .ge off, 3)) (ht : (pc : Int) + off = (tgt : Int)) (kt : y ≤ x → W p l e R s m args below meth c H locs cells slots Q (F0 m tgt ls rest)) (kf : x < y → W p l e R s m args below meth c H locs cells slots Q (F0 m (pc + 3) ls rest)) : W p l e R s m args below meth c H locs cells slots Q (F0 m pc ls (.int (iZ y) :: .int (iZ x) :: rest)) :=
  lv_icmp_ge hx hb hdg ht (fun q => kt ((iZ_le hy1 hx1).mp q)) (fun q => kf (Int.not_le.mp (fun z => q ((iZ_le hy1 hx1).mpr z))))
theorem z_if_ge (hx : p.tables.exec = Jvm.exec) (hb : c.code = cc) {x : Int} {off : Int} {tgt : Nat} (hx1 : rg x) (hdg : decode cc pc = .ok (.ifCond .ge off, 3)) (ht : (pc : Int) + off = (tgt : Int)) (kt : 0 ≤ x → W p l e R s m args below meth c H locs cells slots Q (F0 m tgt ls rest)) (kf : x < 0 → W p l e R s m args below meth c H locs cells slots Q (F0 m (pc + 3) ls rest)) : W p l e R s m args below meth c H locs cells slots Q (F0 m pc ls (.int (iZ x) :: rest)) :=
  lv_if_ge hx hb hdg ht (by rw [← iZ_0]; exact (fun q => kt ((iZ_le rg_0 hx1).mp q))) (by rw [← iZ_0]; exact (fun q => kf (Int.not_le.mp (fun z => q ((iZ_le rg_0 hx1).mpr z)))))
theorem z_icmp_gt (hx : p.tables.exec = Jvm.exec) (hb : c.code = cc) {x y : Int} {off : Int} {tgt : Nat} (hx1 : rg x) (hy1 : rg y) (hdg : decode cc pc = .ok (.if_icmp .gt off, 3)) (ht : (pc : Int) + off = (tgt : Int)) (kt : y < x → W p l e R s m args below meth c H locs cells slots Q (F0 m tgt ls rest)) (kf : x ≤ y → W p l e R s m args below meth c H locs cells slots Q (F0 m (pc + 3) ls rest)) : W p l e R s m args below meth c H locs cells slots Q (F0 m pc ls (.int (iZ y) :: .int (iZ x) :: rest)) :=
  lv_icmp_gt hx hb hdg ht (fun q => kt ((iZ_lt hy1 hx1).mp q)) (fun q => kf (Int.not_lt.mp (fun z => q ((iZ_lt hy1 hx1).mpr z))))
theorem z_if_gt (hx : p.tables.exec = Jvm.exec) (hb : c.code = cc) {x : Int} {off : Int} {tgt : Nat} (hx1 : rg x) (hdg : decode cc pc = .ok (.ifCond .gt off, 3)) (ht : (pc : Int) + off = (tgt : Int)) (kt : 0 < x → W p l e R s m args below meth c H locs cells slots Q (F0 m tgt ls rest)) (kf : x ≤ 0 → W p l e R s m args below meth c H locs cells slots Q (F0 m (pc + 3) ls rest)) : W p l e R s m args below meth c H locs cells slots Q (F0 m pc ls (.int (iZ x) :: rest)) :=
  lv_if_gt hx hb hdg ht (by rw [← iZ_0]; exact (fun q => kt ((iZ_lt rg_0 hx1).mp q))) (by rw [← iZ_0]; exact (fun q => kf (Int.not_lt.mp (fun z => q ((iZ_lt rg_0 hx1).mpr z)))))
theorem z_icmp_le (hx : p.tables.exec = Jvm.exec) (hb : c.code = cc) {x y : Int} {off : Int} {tgt : Nat} (hx1 : rg x) (hy1 : rg y) (hdg : decode cc pc = .ok (.if_icmp .le off, 3)) (ht : (pc : Int) + off = (tgt : Int)) (kt : x ≤ y → W p l e R s m args below meth c H locs cells slots Q (F0 m tgt ls rest)) (kf : y < x → W p l e R s m args below meth c H locs cells slots Q (F0 m (pc + 3) ls rest)) : W p l e R s m args below meth c H locs cells slots Q (F0 m pc ls (.int (iZ y) :: .int (iZ x) :: rest)) :=
  lv_icmp_le hx hb hdg ht (fun q => kt ((iZ_le hx1 hy1).mp q)) (fun q => kf (Int.not_le.mp (fun z => q ((iZ_le hx1 hy1).mpr z))))
theorem z_if_le (hx : p.tables.exec = Jvm.exec) (hb : c.code = cc) {x : Int} {off : Int} {tgt : Nat} (hx1 : rg x) (hdg : decode cc pc = .ok (.ifCond .le off, 3)) (ht : (pc : Int) + off = (tgt : Int)) (kt : x ≤ 0 → W p l e R s m args below meth c H locs cells slots Q (F0 m tgt ls rest)) (kf : 0 < x → W p l e R s m args below meth c H locs cells slots Q (F0 m (pc + 3) ls rest)) : W p l e R s m args below meth c H locs cells slots Q (F0 m pc ls (.int (iZ x) :: rest)) :=
  lv_if_le hx hb hdg ht (by rw [← iZ_0]; exact (fun q => kt ((iZ_le hx1 rg_0).mp q))) (by rw [← iZ_0]; exact (fun q => kf (Int.not_le.mp (fun z => q ((iZ_le hx1 rg_0).mpr z)))))
theorem z_iinc (hx : p.tables.exec = Jvm.exec) (hb : c.code = cc) {i nL k : Nat} {n x : Int} {lv lv' : List (Nat × Value)} (hdg : decode cc pc = .ok (.iinc i n, 3)) (h : lv_has ls nL lv) (hk : lv[k]? = some (i, .int (iZ x))) (hn : i < nL) (hl : (i, Value.int (iZ (x + n))) :: lv.filter (fun q => !(q.1 == i) && !(q.1 + 1 == i && q.2.category == 2)) = lv')
    (kk : ∀ ls' : Array Slot, lv_has ls' nL lv' → W p l e R s m args below meth c H locs cells slots Q (F0 m (pc + 3) ls' rest)) : W p l e R s m args below meth c H locs cells slots Q (F0 m pc ls rest) :=
  lv_iinc (v := iZ (x + n)) hx hb hdg h hk (iZ_add x n) hn hl kk
end ZO
/-! worlds -/
abbrev SS : Type := Nat → Int → Int
def up (st : SS) (k : Nat) (i v : Int) : SS := fun k' => if k' = k then uf (st k) i v else st k'
abbrev TY (g : Nat → ClassId) : List (ClassId × FieldType) := [(g 0, .int), (g 1, .long), (g 2, .boolean), (g 3, .object "ShotBoard$Board")]
def PcS (av : List Value) : Array Value → State → Prop := fun v _ => v = av.toArray
def PcR (D : va_G) (g : Nat → ClassId) (w : va_W) (av : List Value) : Array Value → State → Prop := va_Pc av (fun U => va_P D vwCl w U.heap ∧ va_K D vwCl (TY g) U)
def PcM (D : va_G) (g : Nat → ClassId) (A : Nat → Prop) (w : va_W) (av : List Value) : Array Value → State → Prop := va_Pc av (fun U => va_P D vwCl w U.heap ∧ va_K D vwCl (TY g) U ∧ va_D A w)
/-- an end with an int, and the world of a new state -/
def QcI (D : va_G) (w : SS → va_W) (A : Nat → Prop) (post : Int → SS → Prop) : Array Value → State → Outcome → State → Prop := fun _ st o t => ∃ (r : Int) (u : SS), o = .returned (some (.int (iZ r))) ∧ post r u ∧ va_P D vwCl (w u) t.heap ∧ va_F A st t
def QcV (D : va_G) (w : SS → va_W) (A : Nat → Prop) (post : SS → Prop) : Array Value → State → Outcome → State → Prop := fun _ st o t => ∃ (u : SS), o = .returned none ∧ post u ∧ va_P D vwCl (w u) t.heap ∧ va_F A st t
theorem blR {D : va_G} {g : Nat → ClassId} {w : va_W} {av : List Value} : FrameBlind (PcR D g w av) := fun a U f mk q => ⟨q.1, q.2.1, va_K.moved (u := U) (U := U.calling f mk a) (Vm.Alike.refl U.vm) q.2.2⟩
theorem blM {D : va_G} {g : Nat → ClassId} {A : Nat → Prop} {w : va_W} {av : List Value} : FrameBlind (PcM D g A w av) := fun a U f mk q => ⟨q.1, q.2.1, va_K.moved (u := U) (U := U.calling f mk a) (Vm.Alike.refl U.vm) q.2.2.1, q.2.2.2⟩
theorem blS {av : List Value} : FrameBlind (PcS av) := fun _ _ _ _ q => q
section ZM
variable {l : Launch} {y : MethodName} {ws ws' : List Cond} {rm : Room} {cc : ByteArray} {maxL : Nat} {ret : Option FieldType} {own : String} {D : va_G} {g : Nat → ClassId} {w : va_W} {av : List Value} {r : Int} {A : Nat → Prop}
/-- a method that only reads -/
theorem metR (hy : plainName y.cls = true) (ho : y.cls = own) (hw : ws = Cond.code y cc maxL ret :: ws') (hav : (lg_sl av).length ≤ maxL) (hret : ret = some .int ∨ (ret = some .boolean ∧ (r = 0 ∨ r = 1)))
    (body : ∀ (p : Program) (e : Env) (R : Room) (s : State) (m : MethodId) (args : Array Value) (below : List Frame) (meth : Method) (c : Code) (Q : State → Prop) (ls : Array Slot), CallFix p m c cc maxL s args ws own → rm.frames ≤ R.frames → rm.locals ≤ R.locals → va_K D vwCl (TY g) s → va_P D vwCl w s.heap → lv_has ls maxL (lv_args 0 av) →
      (∀ (v : Int) (pc : Nat) (ls' : Array Slot), v = r → decode cc pc = .ok (.ireturn, 1) → W p l e R s m args below meth c s.heap [] 0 0 Q (F0 m pc ls' [.int (iZ v)])) → W p l e R s m args below meth c s.heap [] 0 0 Q (F0 m 0 ls [])) : Met l y ws rm (PcR D g w av) (QcRead (iZ r)) 0 0 (fun _ => False) := by
  refine Met.ofW (cc := cc) (maxL := maxL) (ret := ret) hy hw ?_
  intro p e s m args below meth c s₁ B hml hv
  obtain ⟨hav1, hP, hK⟩ := hv
  have hx := B.exec
  have hb := B.bytes
  have hr := B.returns
  have hts := atoms_spec (ws := ws) B.pre
  have hown : s.vm.findClass y.cls = some m.cls := findClass_of_methodNamed B.named
  have hlocks := B.notSynchronized
  have hl := lv_entry av (n := maxL) hav
  subst hav1
  rw [lg_entry_eq]
  refine body p e _ s m _ below meth c _ _ ⟨hx, hb, hml, ho ▸ hown, hts⟩ (Nat.le_refl _) (Nat.le_refl _) hK hP hl ?_
  intro v pc ls' hvr hdg
  subst hvr
  rcases hret with h | ⟨h, h01⟩
  · rw [h] at hr
    exact W.iret (v := iZ v) hx hb hr (fun t ht _ => ⟨rfl, ht⟩) (fun q hq => by cases hq) hdg
  · rw [h] at hr
    exact W.zret (v := iZ v) hx hb hr (by rcases h01 with e | e <;> subst e <;> rfl) (fun t ht _ => ⟨rfl, ht⟩) (fun q hq => by cases hq) hdg
/-- a static method of numbers alone -/
theorem metS (hy : plainName y.cls = true) (ho : y.cls = own) (hw : ws = Cond.code y cc maxL ret :: ws') (hav : (lg_sl av).length ≤ maxL) (hret : ret = some .int ∨ (ret = some .boolean ∧ (r = 0 ∨ r = 1)))
    (body : ∀ (p : Program) (e : Env) (R : Room) (s : State) (m : MethodId) (args : Array Value) (below : List Frame) (meth : Method) (c : Code) (Q : State → Prop) (ls : Array Slot), CallFix p m c cc maxL s args ws own → rm.frames ≤ R.frames → rm.locals ≤ R.locals → lv_has ls maxL (lv_args 0 av) →
      (∀ (v : Int) (pc : Nat) (ls' : Array Slot), v = r → decode cc pc = .ok (.ireturn, 1) → W p l e R s m args below meth c s.heap [] 0 0 Q (F0 m pc ls' [.int (iZ v)])) → W p l e R s m args below meth c s.heap [] 0 0 Q (F0 m 0 ls [])) : Met l y ws rm (PcS av) (QcRead (iZ r)) 0 0 (fun _ => False) := by
  refine Met.ofW (cc := cc) (maxL := maxL) (ret := ret) hy hw ?_
  intro p e s m args below meth c s₁ B hml hv
  have hav1 : args = av.toArray := hv
  have hx := B.exec
  have hb := B.bytes
  have hr := B.returns
  have hts := atoms_spec (ws := ws) B.pre
  have hown : s.vm.findClass y.cls = some m.cls := findClass_of_methodNamed B.named
  have hlocks := B.notSynchronized
  have hl := lv_entry av (n := maxL) hav
  subst hav1
  rw [lg_entry_eq]
  refine body p e _ s m _ below meth c _ _ ⟨hx, hb, hml, ho ▸ hown, hts⟩ (Nat.le_refl _) (Nat.le_refl _) hl ?_
  intro v pc ls' hvr hdg
  subst hvr
  rcases hret with h | ⟨h, h01⟩
  · rw [h] at hr
    exact W.iret (v := iZ v) hx hb hr (fun t ht _ => ⟨rfl, ht⟩) (fun q hq => by cases hq) hdg
  · rw [h] at hr
    exact W.zret (v := iZ v) hx hb hr (by rcases h01 with e | e <;> subst e <;> rfl) (fun t ht _ => ⟨rfl, ht⟩) (fun q hq => by cases hq) hdg
/-- a method that writes, and answers an int (or a truth) -/
theorem metI {wf : SS → va_W} {post : Int → SS → Prop} (hy : plainName y.cls = true) (ho : y.cls = own) (hw : ws = Cond.code y cc maxL ret :: ws') (hav : (lg_sl av).length ≤ maxL) (hret : ret = some .int ∨ (ret = some .boolean ∧ ∀ r u, post r u → (r = 0 ∨ r = 1)))
    (body : ∀ (p : Program) (e : Env) (R : Room) (s : State) (m : MethodId) (args : Array Value) (below : List Frame) (meth : Method) (c : Code) (Q : State → Prop) (ls : Array Slot), CallFix p m c cc maxL s args ws own → rm.frames ≤ R.frames → rm.locals ≤ R.locals → va_K D vwCl (TY g) s → va_P D vwCl w s.heap → va_D A w → va_S A s.heap s.heap [] → lv_has ls maxL (lv_args 0 av) →
      (∀ (v : Int) (u : SS) (H : Heap) (locs : List Loc) (pc : Nat) (ls' : Array Slot), va_P D vwCl (wf u) H → va_S A s.heap H locs → post v u → decode cc pc = .ok (.ireturn, 1) → W p l e R s m args below meth c H locs 0 0 Q (F0 m pc ls' [.int (iZ v)])) → W p l e R s m args below meth c s.heap [] 0 0 Q (F0 m 0 ls [])) : Met l y ws rm (PcM D g A w av) (QcI D wf A post) 0 0 A := by
  refine Met.ofW (cc := cc) (maxL := maxL) (ret := ret) hy hw ?_
  intro p e s m args below meth c s₁ B hml hv
  obtain ⟨hav1, hP, hK, hD⟩ := hv
  have hx := B.exec
  have hb := B.bytes
  have hr := B.returns
  have hts := atoms_spec (ws := ws) B.pre
  have hown : s.vm.findClass y.cls = some m.cls := findClass_of_methodNamed B.named
  have hlocks := B.notSynchronized
  have hl := lv_entry av (n := maxL) hav
  subst hav1
  rw [lg_entry_eq]
  refine body p e _ s m _ below meth c _ _ ⟨hx, hb, hml, ho ▸ hown, hts⟩ (Nat.le_refl _) (Nat.le_refl _) hK hP hD va_S.rf hl ?_
  intro v u H locs pc ls' hPu hS hvr hdg
  rcases hret with h | ⟨h, h01⟩
  · rw [h] at hr
    exact W.iret (v := iZ v) hx hb hr (fun t ht _ => ⟨v, u, rfl, hvr, by rw [ht]; exact hPu, hS.F ht⟩) hS.2.2 hdg
  · rw [h] at hr
    exact W.zret (v := iZ v) hx hb hr (by rcases h01 v u hvr with e | e <;> subst e <;> rfl) (fun t ht _ => ⟨v, u, rfl, hvr, by rw [ht]; exact hPu, hS.F ht⟩) hS.2.2 hdg
/-- a method that writes, and answers nothing -/
theorem metV {wf : SS → va_W} {post : SS → Prop} (hy : plainName y.cls = true) (ho : y.cls = own) (hw : ws = Cond.code y cc maxL none :: ws') (hav : (lg_sl av).length ≤ maxL)
    (body : ∀ (p : Program) (e : Env) (R : Room) (s : State) (m : MethodId) (args : Array Value) (below : List Frame) (meth : Method) (c : Code) (Q : State → Prop) (ls : Array Slot), CallFix p m c cc maxL s args ws own → rm.frames ≤ R.frames → rm.locals ≤ R.locals → va_K D vwCl (TY g) s → va_P D vwCl w s.heap → va_D A w → va_S A s.heap s.heap [] → lv_has ls maxL (lv_args 0 av) →
      (∀ (u : SS) (H : Heap) (locs : List Loc) (pc : Nat) (ls' : Array Slot), va_P D vwCl (wf u) H → va_S A s.heap H locs → post u → decode cc pc = .ok (.return_, 1) → W p l e R s m args below meth c H locs 0 0 Q (F0 m pc ls' [])) → W p l e R s m args below meth c s.heap [] 0 0 Q (F0 m 0 ls [])) : Met l y ws rm (PcM D g A w av) (QcV D wf A post) 0 0 A := by
  refine Met.ofW (cc := cc) (maxL := maxL) (ret := none) hy hw ?_
  intro p e s m args below meth c s₁ B hml hv
  obtain ⟨hav1, hP, hK, hD⟩ := hv
  have hx := B.exec
  have hb := B.bytes
  have hr := B.returns
  have hts := atoms_spec (ws := ws) B.pre
  have hown : s.vm.findClass y.cls = some m.cls := findClass_of_methodNamed B.named
  have hlocks := B.notSynchronized
  have hl := lv_entry av (n := maxL) hav
  subst hav1
  rw [lg_entry_eq]
  refine body p e _ s m _ below meth c _ _ ⟨hx, hb, hml, ho ▸ hown, hts⟩ (Nat.le_refl _) (Nat.le_refl _) hK hP hD va_S.rf hl ?_
  intro u H locs pc ls' hPu hS hvr hdg
  exact W.vret hx hb hr (fun t ht _ => ⟨u, rfl, hvr, by rw [ht]; exact hPu, hS.F ht⟩) hS.2.2 hdg
end ZM
section ZC
variable {p : Program} {l : Launch} {e : Env} {R : Room} {s : State} {m : MethodId} {args : Array Value} {below : List Frame} {meth : Method} {c : Code} {H : Heap} {locs : List Loc} {cells slots : Nat} {Q : State → Prop}
variable {cc : ByteArray} {pc : Nat} {ls : Array Slot} {rest st0 : List Value} {D : va_G} {A A0 : Nat → Prop} {a b : Nat} {g : Nat → ClassId} {ws w : va_W} {H0 : Heap}
variable {y : MethodName} {bytes : ByteArray} {maxL nL n index : Nat} {ret : Option FieldType} {wsy : List Cond} {rm : Room} {Ts : List Cond} {own C : String} {As : List Value} {r : Int32}
theorem z_get (hexec : p.tables.exec = Jvm.exec) (hb : c.code = cc) {T : u_T} {N ci : Nat} (hts : ∀ w ∈ Ts, w.before args s = true) (hin : ∀ w ∈ u_ws C T N, w ∈ Ts) (hown : s.vm.findClass own = some m.cls) (hK : va_K D vwCl (TY g) s) (hP : va_P D vwCl ws H) (q0 : Nat) {fs : List Value} (he : ws[q0]? = some (a, .inr (ci, fs))) (hc : vwCl[ci]? = some (C, T, N)) (k : Nat) (hk : k < N) (hlink : (Cond.fieldLink own index (T k).1 (T k).2.1 (T k).2.2.1).before args s = true) (v : Value) (hv : fs[k]? = some v) (hdg : decode cc pc = .ok (.getfield index, 3))
    (kk : W p l e R s m args below meth c H locs cells slots Q (F0 m (pc + 3) ls (v :: rest))) : W p l e R s m args below meth c H locs cells slots Q (F0 m pc ls (.ref a :: rest)) :=
  va_get hexec hb hts hin hown hK hP q0 he hc k hk hlink (fun _ h => h) hv hdg kk
theorem z_put (hexec : p.tables.exec = Jvm.exec) (hb : c.code = cc) {T : u_T} {N ci : Nat} (hts : ∀ w ∈ Ts, w.before args s = true) (hin : ∀ w ∈ u_ws C T N, w ∈ Ts) (ty0 : Nat → FieldType) (hty : ∀ k, k < N → parseFieldDescriptor (T k).2.2.1 = some (ty0 k)) (hnm : ∀ a, a < N → ∀ b, b < N → a ≠ b → (T a).2.1 ≠ (T b).2.1) (hown : s.vm.findClass own = some m.cls) (hK : va_K D vwCl (TY g) s) (hP : va_P D vwCl ws H) (hD : va_D A ws) (hS : va_S A H0 H locs) (q0 : Nat) {fs : List Value} (he : ws[q0]? = some (a, .inr (ci, fs))) (hc : vwCl[ci]? = some (C, T, N)) (k : Nat) (hk : k < N) (hlink : (Cond.fieldLink own index (T k).1 (T k).2.1 (T k).2.2.1).before args s = true) (hfin : (T k).2.2.2 = false) {ty : FieldType} {v : Value} (hd : parseFieldDescriptor (T k).2.2.1 = some ty) (hn : narrow ty v = v) (hfit : fits ty v = true) (hl : k < fs.length) (ws2 : va_W) (hw2 : ws.set q0 (a, .inr (ci, fs.set k v)) = ws2) (hdg : decode cc pc = .ok (.putfield index, 3))
    (kk : ∀ (H1 : Heap) (locs1 : List Loc), va_P D vwCl ws2 H1 → va_D A ws2 → va_S A H0 H1 locs1 → W p l e R s m args below meth c H1 locs1 cells slots Q (F0 m (pc + 3) ls rest)) : W p l e R s m args below meth c H locs cells slots Q (F0 m pc ls (v :: .ref a :: rest)) :=
  va_put hexec hb hts hin ty0 hty hnm hown hK hP hD hS q0 he hc k hk hlink (fun _ h => h) hfin hd hn hfit hl hdg (fun H1 L h1 h2 h3 => kk H1 L (hw2 ▸ h1) (hw2 ▸ h2) h3)
theorem z_iald (hexec : p.tables.exec = Jvm.exec) (hb : c.code = cc) (hK : va_K D vwCl (TY g) s) (hP : va_P D vwCl ws H) (q0 : Nat) {N : Nat} (f : Int → Int) (ha : ws[q0]? = some (a, .inl (g 0, N, .inl (iA f)))) {i : Int} (h0 : 0 ≤ i) (h1 : i < N) (h2 : i < 2147483648) (hdg : decode cc pc = .ok (.iaload, 1))
    (kk : W p l e R s m args below meth c H locs cells slots Q (F0 m (pc + 1) ls (.int (iZ (f i)) :: rest))) : W p l e R s m args below meth c H locs cells slots Q (F0 m pc ls (.int (iZ i) :: .ref a :: rest)) :=
  va_iald hexec hb hK hP q0 0 ha rfl (iZ_in h0 h1 h2) hdg (by rw [iA_at f h0 h2]; exact kk)
theorem z_zald (hexec : p.tables.exec = Jvm.exec) (hb : c.code = cc) (hK : va_K D vwCl (TY g) s) (hP : va_P D vwCl ws H) (q0 : Nat) {N : Nat} (f : Int → Int) (ha : ws[q0]? = some (a, .inl (g 2, N, .inl (iA f)))) {i : Int} (h0 : 0 ≤ i) (h1 : i < N) (h2 : i < 2147483648) (hdg : decode cc pc = .ok (.baload, 1))
    (kk : W p l e R s m args below meth c H locs cells slots Q (F0 m (pc + 1) ls (.int (iZ (f i)) :: rest))) : W p l e R s m args below meth c H locs cells slots Q (F0 m pc ls (.int (iZ i) :: .ref a :: rest)) :=
  va_zald hexec hb hK hP q0 2 ha rfl (iZ_in h0 h1 h2) hdg (by rw [iA_at f h0 h2]; exact kk)
theorem z_lald (hexec : p.tables.exec = Jvm.exec) (hb : c.code = cc) (hK : va_K D vwCl (TY g) s) (hP : va_P D vwCl ws H) (q0 : Nat) {N : Nat} (f : Int → Int) (ha : ws[q0]? = some (a, .inl (g 1, N, .inr (.inl (lA f))))) {i : Int} (h0 : 0 ≤ i) (h1 : i < N) (h2 : i < 2147483648) (hdg : decode cc pc = .ok (.laload, 1))
    (kk : W p l e R s m args below meth c H locs cells slots Q (F0 m (pc + 1) ls (.long (lZ (f i)) :: rest))) : W p l e R s m args below meth c H locs cells slots Q (F0 m pc ls (.int (iZ i) :: .ref a :: rest)) :=
  va_lald hexec hb hK hP q0 1 ha rfl (iZ_in h0 h1 h2) hdg (by rw [lA_at f h0 h2]; exact kk)
theorem z_iast (hexec : p.tables.exec = Jvm.exec) (hb : c.code = cc) (hK : va_K D vwCl (TY g) s) (hP : va_P D vwCl ws H) (hD : va_D A ws) (hS : va_S A H0 H locs) (q0 : Nat) {N : Nat} (f : Int → Int) (ha : ws[q0]? = some (a, .inl (g 0, N, .inl (iA f)))) {i v : Int} (h0 : 0 ≤ i) (h1 : i < N) (h2 : i < 2147483648) (ws2 : va_W) (hw2 : ws.set q0 (a, .inl (g 0, N, .inl (iA (uf f i v)))) = ws2) (hdg : decode cc pc = .ok (.iastore, 1))
    (kk : ∀ (H1 : Heap) (locs1 : List Loc), va_P D vwCl ws2 H1 → va_D A ws2 → va_S A H0 H1 locs1 → W p l e R s m args below meth c H1 locs1 cells slots Q (F0 m (pc + 1) ls rest)) : W p l e R s m args below meth c H locs cells slots Q (F0 m pc ls (.int (iZ v) :: .int (iZ i) :: .ref a :: rest)) :=
  va_iast hexec hb hK hP hD hS q0 0 ha rfl (iZ_in h0 h1 h2) hdg (fun H1 L k1 k2 k3 => by rw [iA_up f v h0 h2] at k1 k2; exact kk H1 L (hw2 ▸ k1) (hw2 ▸ k2) k3)
theorem nar_b {v : Int} (h : v = 0 ∨ v = 1) : vp_nar .boolean (iZ v) = iZ v := by rcases h with e | e <;> subst e <;> decide +kernel
theorem z_zast (hexec : p.tables.exec = Jvm.exec) (hb : c.code = cc) (hK : va_K D vwCl (TY g) s) (hP : va_P D vwCl ws H) (hD : va_D A ws) (hS : va_S A H0 H locs) (q0 : Nat) {N : Nat} (f : Int → Int) (ha : ws[q0]? = some (a, .inl (g 2, N, .inl (iA f)))) {i v : Int} (hv : v = 0 ∨ v = 1) (h0 : 0 ≤ i) (h1 : i < N) (h2 : i < 2147483648) (ws2 : va_W) (hw2 : ws.set q0 (a, .inl (g 2, N, .inl (iA (uf f i v)))) = ws2) (hdg : decode cc pc = .ok (.bastore, 1))
    (kk : ∀ (H1 : Heap) (locs1 : List Loc), va_P D vwCl ws2 H1 → va_D A ws2 → va_S A H0 H1 locs1 → W p l e R s m args below meth c H1 locs1 cells slots Q (F0 m (pc + 1) ls rest)) : W p l e R s m args below meth c H locs cells slots Q (F0 m pc ls (.int (iZ v) :: .int (iZ i) :: .ref a :: rest)) :=
  va_zast hexec hb hK hP hD hS q0 2 ha rfl (iZ_in h0 h1 h2) hdg (fun H1 L k1 k2 k3 => by rw [nar_b hv, iA_up f v h0 h2] at k1 k2; exact kk H1 L (hw2 ▸ k1) (hw2 ▸ k2) k3)
theorem z_last (hexec : p.tables.exec = Jvm.exec) (hb : c.code = cc) (hK : va_K D vwCl (TY g) s) (hP : va_P D vwCl ws H) (hD : va_D A ws) (hS : va_S A H0 H locs) (q0 : Nat) {N : Nat} (f : Int → Int) (ha : ws[q0]? = some (a, .inl (g 1, N, .inr (.inl (lA f))))) {i v : Int} (h0 : 0 ≤ i) (h1 : i < N) (h2 : i < 2147483648) (ws2 : va_W) (hw2 : ws.set q0 (a, .inl (g 1, N, .inr (.inl (lA (uf f i v))))) = ws2) (hdg : decode cc pc = .ok (.lastore, 1))
    (kk : ∀ (H1 : Heap) (locs1 : List Loc), va_P D vwCl ws2 H1 → va_D A ws2 → va_S A H0 H1 locs1 → W p l e R s m args below meth c H1 locs1 cells slots Q (F0 m (pc + 1) ls rest)) : W p l e R s m args below meth c H locs cells slots Q (F0 m pc ls (.long (lZ v) :: .int (iZ i) :: .ref a :: rest)) :=
  va_last hexec hb hK hP hD hS q0 1 ha rfl (iZ_in h0 h1 h2) hdg (fun H1 L k1 k2 k3 => by rw [lA_up f v h0 h2] at k1 k2; exact kk H1 L (hw2 ▸ k1) (hw2 ▸ k2) k3)
/-- a call of a method that only reads -/
theorem z_cVR {q0 ci : Nat} {T : u_T} {N : Nat} {fs : List Value} (S : CallFix p m c cc nL s args Ts own) (M : Met l y wsy rm (PcR D g w (.ref b :: As)) (QcRead r) 0 0 (fun _ => False)) (cw : CallW R s args own C index y bytes maxL ret wsy rm 0 0 n) (hK : va_K D vwCl (TY g) s) (hP : va_P D vwCl w H) (hc : vwCl[ci]? = some (C, T, N)) (he : w[q0]? = some (b, .inr (ci, fs))) (hn : As.length = n) (hsize : ls.size = nL) (hst : st0 = As.reverse ++ .ref b :: rest) (hro : (rest.map fun v => v.category).sum ≤ 8) (hdg : decode cc pc = .ok (.invokevirtual index, 3)) (hf : cells ≤ R.cells ∧ slots ≤ R.slots)
    (kk : W p l e R s m args below meth c H locs cells slots Q (F0 m (pc + 3) ls (.int r :: rest))) : W p l e R s m args below meth c H locs cells slots Q (F0 m pc ls st0) :=
  W.callR (W.runV (g := F0 m pc ls st0) S M cw ⟨blR, va_recv hK hP hc he, fun U hU hW => ⟨rfl, by rw [hU]; exact hP, va_K.moved hW.alike hK⟩⟩ rfl hn hsize hst (lv_room hro) hdg hf) kk
theorem z_cSS (S : CallFix p m c cc nL s args Ts own) (M : Met l y wsy rm (PcS As) (QcRead r) 0 0 (fun _ => False)) (cw : CallB R s args own index y bytes maxL ret wsy rm 0 0 n ∧ (Cond.static y).before args s = true) (hn : As.length = n) (hsize : ls.size = nL) (hst : st0 = As.reverse ++ rest) (hro : (rest.map fun v => v.category).sum ≤ 8) (hdg : decode cc pc = .ok (.invokestatic index, 3)) (hf : cells ≤ R.cells ∧ slots ≤ R.slots)
    (kk : W p l e R s m args below meth c H locs cells slots Q (F0 m (pc + 3) ls (.int r :: rest))) : W p l e R s m args below meth c H locs cells slots Q (F0 m pc ls st0) :=
  W.callR (W.runS (g := F0 m pc ls st0) S M cw ⟨blS, fun U hU hW => rfl⟩ rfl hn hsize hst (lv_room hro) hdg hf) kk
/-- a call of a method that writes -/
theorem z_cVI {wf : SS → va_W} {post : Int → SS → Prop} {q0 ci : Nat} {T : u_T} {N : Nat} {fs : List Value} (S : CallFix p m c cc nL s args Ts own) (M : Met l y wsy rm (PcM D g A w (.ref b :: As)) (QcI D wf A post) 0 0 A) (cw : CallW R s args own C index y bytes maxL ret wsy rm 0 0 n) (hK : va_K D vwCl (TY g) s) (hP : va_P D vwCl w H) (hD : va_D A w) (hS : va_S A0 H0 H locs) (hA : ∀ q, A q → A0 q) (hc : vwCl[ci]? = some (C, T, N)) (he : w[q0]? = some (b, .inr (ci, fs))) (hn : As.length = n) (hsize : ls.size = nL) (hst : st0 = As.reverse ++ .ref b :: rest) (hro : (rest.map fun v => v.category).sum ≤ 8) (hdg : decode cc pc = .ok (.invokevirtual index, 3)) (hf : cells ≤ R.cells ∧ slots ≤ R.slots)
    (kk : ∀ (r : Int) (u : SS) (H1 : Heap) (locs1 : List Loc), post r u → va_P D vwCl (wf u) H1 → va_S A0 H0 H1 locs1 → (∀ q : Nat, q < H.size → ¬ A q → H1[q]? = H[q]?) → W p l e R s m args below meth c H1 locs1 cells slots Q (F0 m (pc + 3) ls (.int (iZ r) :: rest))) : W p l e R s m args below meth c H locs cells slots Q (F0 m pc ls st0) := by
  have hr := va_runV (g := F0 m pc ls st0) (H := H) (locs := locs) (cells := cells) (slots := slots) (below := below) (meth := meth) (e := e) (R := R) S M cw ⟨blM, va_recv hK hP hc he, fun U hU hW => ⟨rfl, by rw [hU]; exact hP, va_K.moved hW.alike hK, hD⟩⟩ rfl hn hsize hst (lv_room hro) hdg hf
  intro T hT X
  obtain ⟨v, st₀, t, T', L, h0, X', hL, e1, e2, ⟨r, u, hv, hp, hb, hz, hk⟩, st⟩ := hr T hT X
  cases hv
  rw [h0] at hz hk
  obtain ⟨t2, a1, b1⟩ := kk r u T'.heap (locs ++ L) hp (by rw [e1]; exact hb)
    ⟨Nat.le_trans hS.1 (by rw [e1]; exact hz), fun q h1 h2 => by rw [e1, hk q (Nat.lt_of_lt_of_le h1 hS.1) (fun z => h2 (hA q z))]; exact hS.2.1 q h1 h2, fun q hq => by
      rcases List.mem_append.mp hq with h | h
      · exact hS.2.2 q h
      · exact hA _ (hL q h)⟩ (fun q h1 h2 => by rw [e1]; exact hk q h1 h2) T' rfl X'
  exact ⟨t2, st t2 a1, b1⟩
theorem z_cVV {wf : SS → va_W} {post : SS → Prop} {q0 ci : Nat} {T : u_T} {N : Nat} {fs : List Value} (S : CallFix p m c cc nL s args Ts own) (M : Met l y wsy rm (PcM D g A w (.ref b :: As)) (QcV D wf A post) 0 0 A) (cw : CallW R s args own C index y bytes maxL none wsy rm 0 0 n) (hK : va_K D vwCl (TY g) s) (hP : va_P D vwCl w H) (hD : va_D A w) (hS : va_S A0 H0 H locs) (hA : ∀ q, A q → A0 q) (hc : vwCl[ci]? = some (C, T, N)) (he : w[q0]? = some (b, .inr (ci, fs))) (hn : As.length = n) (hsize : ls.size = nL) (hst : st0 = As.reverse ++ .ref b :: rest) (hro : (rest.map fun v => v.category).sum ≤ 8) (hdg : decode cc pc = .ok (.invokevirtual index, 3)) (hf : cells ≤ R.cells ∧ slots ≤ R.slots)
    (kk : ∀ (u : SS) (H1 : Heap) (locs1 : List Loc), post u → va_P D vwCl (wf u) H1 → va_S A0 H0 H1 locs1 → (∀ q : Nat, q < H.size → ¬ A q → H1[q]? = H[q]?) → W p l e R s m args below meth c H1 locs1 cells slots Q (F0 m (pc + 3) ls rest)) : W p l e R s m args below meth c H locs cells slots Q (F0 m pc ls st0) := by
  have hr := va_runV (g := F0 m pc ls st0) (H := H) (locs := locs) (cells := cells) (slots := slots) (below := below) (meth := meth) (e := e) (R := R) S M cw ⟨blM, va_recv hK hP hc he, fun U hU hW => ⟨rfl, by rw [hU]; exact hP, va_K.moved hW.alike hK, hD⟩⟩ rfl hn hsize hst (lv_room hro) hdg hf
  intro T hT X
  obtain ⟨v, st₀, t, T', L, h0, X', hL, e1, e2, ⟨u, hv, hp, hb, hz, hk⟩, st⟩ := hr T hT X
  cases hv
  rw [h0] at hz hk
  obtain ⟨t2, a1, b1⟩ := kk u T'.heap (locs ++ L) hp (by rw [e1]; exact hb)
    ⟨Nat.le_trans hS.1 (by rw [e1]; exact hz), fun q h1 h2 => by rw [e1, hk q (Nat.lt_of_lt_of_le h1 hS.1) (fun z => h2 (hA q z))]; exact hS.2.1 q h1 h2, fun q hq => by
      rcases List.mem_append.mp hq with h | h
      · exact hS.2.2 q h
      · exact hA _ (hL q h)⟩ (fun q h1 h2 => by rw [e1]; exact hk q h1 h2) T' rfl X'
  exact ⟨t2, st t2 a1, b1⟩
end ZC
