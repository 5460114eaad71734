def WC (g : Nat → ClassId) (a : Nat → Nat) (st : SS) : va_W := [(a 0, .inr (6, [.ref (a 1), .ref (a 2), .ref (a 3), .ref (a 4), .ref (a 5), .ref (a 6), .int (iZ (st 19 5))])),
  (a 1, .inr (5, [.ref (a 7), .ref (a 8), .ref (a 9), .ref (a 10), .int (iZ (st 19 0)), .int (iZ (st 19 1))])),
  (a 2, .inr (3, [.ref (a 11), .ref (a 12), .int (iZ (st 19 2))])),
  (a 3, .inr (4, [.ref (a 13), .int (iZ (st 19 3)), .int (iZ (st 19 4))])),
  (a 4, .inr (1, [.ref (a 1)])),
  (a 5, .inr (2, [.ref (a 4), .ref (a 2), .ref (a 3), .ref (a 14), .ref (a 15), .ref (a 16), .ref (a 17), .ref (a 18), .int (iZ (st 21 0)), .int (iZ (st 21 1)), .int (iZ (st 21 2))])),
  (a 6, .inl (g 0, 8, .inl (iA (st 5)))),
  (a 7, .inl (g 0, 360, .inl (iA (st 0)))),
  (a 8, .inl (g 1, 6, .inr (.inl (lA (st 20))))),
  (a 9, .inl (g 0, 12, .inl (iA (st 1)))),
  (a 10, .inl (g 0, 12, .inl (iA (st 2)))),
  (a 11, .inl (g 0, 10, .inl (iA (st 3)))),
  (a 12, .inl (g 0, 10, .inl (iA (st 4)))),
  (a 13, .inl (g 3, 8, .inr (.inr (.inr (.inr (fun k => some (a (19 + k)))))))),
  (a 14, .inl (g 0, 8, .inl (iA (st 6)))),
  (a 15, .inl (g 0, 80, .inl (iA (st 7)))),
  (a 16, .inl (g 2, 27, .inl (iA (st 8)))),
  (a 17, .inl (g 0, 8, .inl (iA (st 9)))),
  (a 18, .inl (g 0, 10, .inl (iA (st 10)))),
  (a 19, .inr (0, [.int (iZ (st 11 0)), .int (iZ (st 12 0)), .int (iZ (st 13 0)), .int (iZ (st 14 0)), .int (iZ (st 15 0)), .int (iZ (st 16 0)), .int (iZ (st 17 0)), .int (iZ (st 18 0))])),
  (a 20, .inr (0, [.int (iZ (st 11 1)), .int (iZ (st 12 1)), .int (iZ (st 13 1)), .int (iZ (st 14 1)), .int (iZ (st 15 1)), .int (iZ (st 16 1)), .int (iZ (st 17 1)), .int (iZ (st 18 1))])),
  (a 21, .inr (0, [.int (iZ (st 11 2)), .int (iZ (st 12 2)), .int (iZ (st 13 2)), .int (iZ (st 14 2)), .int (iZ (st 15 2)), .int (iZ (st 16 2)), .int (iZ (st 17 2)), .int (iZ (st 18 2))])),
  (a 22, .inr (0, [.int (iZ (st 11 3)), .int (iZ (st 12 3)), .int (iZ (st 13 3)), .int (iZ (st 14 3)), .int (iZ (st 15 3)), .int (iZ (st 16 3)), .int (iZ (st 17 3)), .int (iZ (st 18 3))])),
  (a 23, .inr (0, [.int (iZ (st 11 4)), .int (iZ (st 12 4)), .int (iZ (st 13 4)), .int (iZ (st 14 4)), .int (iZ (st 15 4)), .int (iZ (st 16 4)), .int (iZ (st 17 4)), .int (iZ (st 18 4))])),
  (a 24, .inr (0, [.int (iZ (st 11 5)), .int (iZ (st 12 5)), .int (iZ (st 13 5)), .int (iZ (st 14 5)), .int (iZ (st 15 5)), .int (iZ (st 16 5)), .int (iZ (st 17 5)), .int (iZ (st 18 5))])),
  (a 25, .inr (0, [.int (iZ (st 11 6)), .int (iZ (st 12 6)), .int (iZ (st 13 6)), .int (iZ (st 14 6)), .int (iZ (st 15 6)), .int (iZ (st 16 6)), .int (iZ (st 17 6)), .int (iZ (st 18 6))])),
  (a 26, .inr (0, [.int (iZ (st 11 7)), .int (iZ (st 12 7)), .int (iZ (st 13 7)), .int (iZ (st 14 7)), .int (iZ (st 15 7)), .int (iZ (st 16 7)), .int (iZ (st 17 7)), .int (iZ (st 18 7))]))]
def AWC (a : Nat → Nat) : Nat → Prop := fun q => ∃ k, k < 27 ∧ q = a k
def WM (g : Nat → ClassId) (a : Nat → Nat) (st : SS) : va_W := [(a 0, .inr (7, [.int (iZ (st 0 0)), .ref (a 1), .ref (a 2), .ref (a 3), .ref (a 4), .int (iZ (st 0 1)), .ref (a 5), .ref (a 6), .int (iZ (st 0 2)), .ref (a 7), .ref (a 8), .int (iZ (st 0 3)), .ref (a 9), .ref (a 10), .ref (a 11), .ref (a 12), .ref (a 13), .ref (a 14), .ref (a 15), .int (iZ (st 0 4)), .int (iZ (st 0 5)), .ref (a 16), .ref (a 17), .ref (a 18), .ref (a 19), .int (iZ (st 20 0))])),
  (a 1, .inl (g 0, 6, .inl (iA (st 1)))),
  (a 2, .inl (g 0, 6, .inl (iA (st 2)))),
  (a 3, .inl (g 0, 72, .inl (iA (st 3)))),
  (a 4, .inl (g 0, 72, .inl (iA (st 4)))),
  (a 5, .inl (g 0, 12, .inl (iA (st 5)))),
  (a 6, .inl (g 0, 12, .inl (iA (st 6)))),
  (a 7, .inl (g 0, 10, .inl (iA (st 7)))),
  (a 8, .inl (g 0, 10, .inl (iA (st 8)))),
  (a 9, .inl (g 0, 8, .inl (iA (st 9)))),
  (a 10, .inl (g 0, 8, .inl (iA (st 10)))),
  (a 11, .inl (g 0, 8, .inl (iA (st 11)))),
  (a 12, .inl (g 0, 8, .inl (iA (st 12)))),
  (a 13, .inl (g 0, 8, .inl (iA (st 13)))),
  (a 14, .inl (g 0, 8, .inl (iA (st 14)))),
  (a 15, .inl (g 0, 8, .inl (iA (st 15)))),
  (a 16, .inl (g 0, 8, .inl (iA (st 16)))),
  (a 17, .inl (g 2, 80, .inl (iA (st 17)))),
  (a 18, .inl (g 2, 99, .inl (iA (st 18)))),
  (a 19, .inl (g 0, 8, .inl (iA (st 19))))]
def AWM (a : Nat → Nat) : Nat → Prop := fun q => ∃ k, k < 20 ∧ q = a k
theorem WC_bd (g : Nat → ClassId) (a : Nat → Nat) (st : SS) {b : Int} (h0 : 0 ≤ b) (h1 : b < 8) : (WC g a st)[19 + b.toNat]? = some (a (19 + b.toNat), .inr (0, [.int (iZ (st 11 b)), .int (iZ (st 12 b)), .int (iZ (st 13 b)), .int (iZ (st 14 b)), .int (iZ (st 15 b)), .int (iZ (st 16 b)), .int (iZ (st 17 b)), .int (iZ (st 18 b))])) := by
  rcases (show b = 0 ∨ b = 1 ∨ b = 2 ∨ b = 3 ∨ b = 4 ∨ b = 5 ∨ b = 6 ∨ b = 7 by omega) with rfl | rfl | rfl | rfl | rfl | rfl | rfl | rfl <;> rfl
set_option maxRecDepth 100000 in
theorem WC_bd0 (g : Nat → ClassId) (a : Nat → Nat) (st : SS) {b : Int} (x : Int) (h0 : 0 ≤ b) (h1 : b < 8) : (WC g a st).set (19 + b.toNat) (a (19 + b.toNat), .inr (0, ([.int (iZ (st 11 b)), .int (iZ (st 12 b)), .int (iZ (st 13 b)), .int (iZ (st 14 b)), .int (iZ (st 15 b)), .int (iZ (st 16 b)), .int (iZ (st 17 b)), .int (iZ (st 18 b))] : List Value).set 0 (.int (iZ x)))) = WC g a (up st 11 b x) := by
  rcases (show b = 0 ∨ b = 1 ∨ b = 2 ∨ b = 3 ∨ b = 4 ∨ b = 5 ∨ b = 6 ∨ b = 7 by omega) with rfl | rfl | rfl | rfl | rfl | rfl | rfl | rfl <;> rfl
set_option maxRecDepth 100000 in
theorem WC_bd1 (g : Nat → ClassId) (a : Nat → Nat) (st : SS) {b : Int} (x : Int) (h0 : 0 ≤ b) (h1 : b < 8) : (WC g a st).set (19 + b.toNat) (a (19 + b.toNat), .inr (0, ([.int (iZ (st 11 b)), .int (iZ (st 12 b)), .int (iZ (st 13 b)), .int (iZ (st 14 b)), .int (iZ (st 15 b)), .int (iZ (st 16 b)), .int (iZ (st 17 b)), .int (iZ (st 18 b))] : List Value).set 1 (.int (iZ x)))) = WC g a (up st 12 b x) := by
  rcases (show b = 0 ∨ b = 1 ∨ b = 2 ∨ b = 3 ∨ b = 4 ∨ b = 5 ∨ b = 6 ∨ b = 7 by omega) with rfl | rfl | rfl | rfl | rfl | rfl | rfl | rfl <;> rfl
set_option maxRecDepth 100000 in
theorem WC_bd2 (g : Nat → ClassId) (a : Nat → Nat) (st : SS) {b : Int} (x : Int) (h0 : 0 ≤ b) (h1 : b < 8) : (WC g a st).set (19 + b.toNat) (a (19 + b.toNat), .inr (0, ([.int (iZ (st 11 b)), .int (iZ (st 12 b)), .int (iZ (st 13 b)), .int (iZ (st 14 b)), .int (iZ (st 15 b)), .int (iZ (st 16 b)), .int (iZ (st 17 b)), .int (iZ (st 18 b))] : List Value).set 2 (.int (iZ x)))) = WC g a (up st 13 b x) := by
  rcases (show b = 0 ∨ b = 1 ∨ b = 2 ∨ b = 3 ∨ b = 4 ∨ b = 5 ∨ b = 6 ∨ b = 7 by omega) with rfl | rfl | rfl | rfl | rfl | rfl | rfl | rfl <;> rfl
set_option maxRecDepth 100000 in
theorem WC_bd3 (g : Nat → ClassId) (a : Nat → Nat) (st : SS) {b : Int} (x : Int) (h0 : 0 ≤ b) (h1 : b < 8) : (WC g a st).set (19 + b.toNat) (a (19 + b.toNat), .inr (0, ([.int (iZ (st 11 b)), .int (iZ (st 12 b)), .int (iZ (st 13 b)), .int (iZ (st 14 b)), .int (iZ (st 15 b)), .int (iZ (st 16 b)), .int (iZ (st 17 b)), .int (iZ (st 18 b))] : List Value).set 3 (.int (iZ x)))) = WC g a (up st 14 b x) := by
  rcases (show b = 0 ∨ b = 1 ∨ b = 2 ∨ b = 3 ∨ b = 4 ∨ b = 5 ∨ b = 6 ∨ b = 7 by omega) with rfl | rfl | rfl | rfl | rfl | rfl | rfl | rfl <;> rfl
set_option maxRecDepth 100000 in
theorem WC_bd4 (g : Nat → ClassId) (a : Nat → Nat) (st : SS) {b : Int} (x : Int) (h0 : 0 ≤ b) (h1 : b < 8) : (WC g a st).set (19 + b.toNat) (a (19 + b.toNat), .inr (0, ([.int (iZ (st 11 b)), .int (iZ (st 12 b)), .int (iZ (st 13 b)), .int (iZ (st 14 b)), .int (iZ (st 15 b)), .int (iZ (st 16 b)), .int (iZ (st 17 b)), .int (iZ (st 18 b))] : List Value).set 4 (.int (iZ x)))) = WC g a (up st 15 b x) := by
  rcases (show b = 0 ∨ b = 1 ∨ b = 2 ∨ b = 3 ∨ b = 4 ∨ b = 5 ∨ b = 6 ∨ b = 7 by omega) with rfl | rfl | rfl | rfl | rfl | rfl | rfl | rfl <;> rfl
set_option maxRecDepth 100000 in
theorem WC_bd5 (g : Nat → ClassId) (a : Nat → Nat) (st : SS) {b : Int} (x : Int) (h0 : 0 ≤ b) (h1 : b < 8) : (WC g a st).set (19 + b.toNat) (a (19 + b.toNat), .inr (0, ([.int (iZ (st 11 b)), .int (iZ (st 12 b)), .int (iZ (st 13 b)), .int (iZ (st 14 b)), .int (iZ (st 15 b)), .int (iZ (st 16 b)), .int (iZ (st 17 b)), .int (iZ (st 18 b))] : List Value).set 5 (.int (iZ x)))) = WC g a (up st 16 b x) := by
  rcases (show b = 0 ∨ b = 1 ∨ b = 2 ∨ b = 3 ∨ b = 4 ∨ b = 5 ∨ b = 6 ∨ b = 7 by omega) with rfl | rfl | rfl | rfl | rfl | rfl | rfl | rfl <;> rfl
set_option maxRecDepth 100000 in
theorem WC_bd6 (g : Nat → ClassId) (a : Nat → Nat) (st : SS) {b : Int} (x : Int) (h0 : 0 ≤ b) (h1 : b < 8) : (WC g a st).set (19 + b.toNat) (a (19 + b.toNat), .inr (0, ([.int (iZ (st 11 b)), .int (iZ (st 12 b)), .int (iZ (st 13 b)), .int (iZ (st 14 b)), .int (iZ (st 15 b)), .int (iZ (st 16 b)), .int (iZ (st 17 b)), .int (iZ (st 18 b))] : List Value).set 6 (.int (iZ x)))) = WC g a (up st 17 b x) := by
  rcases (show b = 0 ∨ b = 1 ∨ b = 2 ∨ b = 3 ∨ b = 4 ∨ b = 5 ∨ b = 6 ∨ b = 7 by omega) with rfl | rfl | rfl | rfl | rfl | rfl | rfl | rfl <;> rfl
set_option maxRecDepth 100000 in
theorem WC_bd7 (g : Nat → ClassId) (a : Nat → Nat) (st : SS) {b : Int} (x : Int) (h0 : 0 ≤ b) (h1 : b < 8) : (WC g a st).set (19 + b.toNat) (a (19 + b.toNat), .inr (0, ([.int (iZ (st 11 b)), .int (iZ (st 12 b)), .int (iZ (st 13 b)), .int (iZ (st 14 b)), .int (iZ (st 15 b)), .int (iZ (st 16 b)), .int (iZ (st 17 b)), .int (iZ (st 18 b))] : List Value).set 7 (.int (iZ x)))) = WC g a (up st 18 b x) := by
  rcases (show b = 0 ∨ b = 1 ∨ b = 2 ∨ b = 3 ∨ b = 4 ∨ b = 5 ∨ b = 6 ∨ b = 7 by omega) with rfl | rfl | rfl | rfl | rfl | rfl | rfl | rfl <;> rfl
theorem D_same {A : Nat → Prop} {w w' : va_W} (h : va_D A w) (e : w.map Prod.fst = w'.map Prod.fst) : va_D A w' := by
  have at1 : ∀ (i : Nat) (p : Nat × va_E), w'[i]? = some p → ∃ q : Nat × va_E, w[i]? = some q ∧ q.1 = p.1 := by
    intro i p hp
    have h1 : (w.map Prod.fst)[i]? = some p.1 := by rw [e, List.getElem?_map, hp]; rfl
    rw [List.getElem?_map] at h1
    cases hq : w[i]? with
    | none => rw [hq] at h1; cases h1
    | some q => rw [hq] at h1; exact ⟨q, rfl, Option.some.inj h1⟩
  refine ⟨fun i j p q hp hq hpq => ?_, fun k q hq => ?_⟩
  · obtain ⟨p2, a1, a2⟩ := at1 i p hp
    obtain ⟨q2, b1, b2⟩ := at1 j q hq
    exact h.1 i j p2 q2 a1 b1 (by rw [a2, b2, hpq])
  · obtain ⟨q2, b1, b2⟩ := at1 k q hq
    rw [← b2]
    exact h.2 k q2 b1
theorem DWC {g : Nat → ClassId} {a : Nat → Nat} {st st' : SS} {A : Nat → Prop} (h : va_D A (WC g a st)) : va_D A (WC g a st') := D_same h rfl
theorem DWM {g : Nat → ClassId} {a : Nat → Nat} {st st' : SS} {A : Nat → Prop} (h : va_D A (WM g a st)) : va_D A (WM g a st') := D_same h rfl
theorem nar_z {v : Int} (h : v = 0 ∨ v = 1) : narrow .boolean (.int (iZ v)) = .int (iZ v) := by rcases h with e | e <;> subst e <;> rfl
theorem fit_z {v : Int} (h : v = 0 ∨ v = 1) : fits .boolean (.int (iZ v)) = true := by rcases h with e | e <;> subst e <;> decide +kernel
section ZA
variable {p : Program} {l : Launch} {e : Env} {R : Room} {s : State} {m : MethodId} {args : Array Value} {below : List Frame} {meth : Method} {c : Code} {H : Heap} {locs : List Loc} {cells slots : Nat} {Q : State → Prop}
variable {cc : ByteArray} {pc : Nat} {ls : Array Slot} {rest : List Value} {D : va_G} {g : Nat → ClassId} {a : Nat → Nat} {st : SS}
theorem z_aald (hexec : p.tables.exec = Jvm.exec) (hb : c.code = cc) (hK : va_K D vwCl (TY g) s) (hP : va_P D vwCl (WC g a st) H) {i : Int} (h0 : 0 ≤ i) (h1 : i < 8) (hdg : decode cc pc = .ok (.aaload, 1))
    (kk : W p l e R s m args below meth c H locs cells slots Q (F0 m (pc + 1) ls (.ref (a (19 + i.toNat)) :: rest))) : W p l e R s m args below meth c H locs cells slots Q (F0 m pc ls (.int (iZ i) :: .ref (a 13) :: rest)) :=
  va_aldq hexec hb hK hP 13 3 (f := fun k => some (a (19 + k))) rfl rfl (iZ_in h0 (by omega) (by omega)) hdg (by
    show W p l e R s m args below meth c H locs cells slots Q (F0 m (pc + 1) ls (Value.ref (a (19 + (iZ i).toNatClampNeg)) :: rest))
    rw [iZ_clamp h0 (by omega)]
    exact kk)
end ZA
