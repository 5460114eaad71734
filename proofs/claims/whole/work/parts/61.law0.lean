/-! THE CLAIM OUT OF ONE WALK OF THE LAW'S BODY. Your part is whole_start (and what it stands on); all else here is the same for every law, but numbers. -/
def R_law : String := "ShotBoardLaw"
def lw_P (b : Addr) (xs : List Int32) (args : Array Value) (s : State) : Prop := args = #[.ref b] ∧ s.IntsAt b xs ∧ xs.length ≤ 2560 ∧ (Jvm.Cond.and given_1 narrow_1).before args s = true
def lw_Q (_ : Array Value) (s : State) (o : Outcome) (t : State) : Prop := o = .returned (some (.int 1)) ∧ Framed s o t [] 600000 7302250
def lw_Z (below : List Frame) (a : Array Value) (s : State) : State → Prop := fun t => ∃ o, t.status = .running ∧ Ended t below o ∧ lw_Q a s o t
/-- the law's own end, with 1 on the stack, nothing written that was there before, its room as the claim has it -/
theorem lw_ret {p : Program} {l : Launch} {e : Env} {s : State} {m : MethodId} {below : List Frame} {meth : Method} {c : Code} {b : Nat} (hx : p.tables.exec = Jvm.exec) (hb : c.code = code) (hr : meth.sig.returnType = ret) (hlocks : meth.locks = false) {pc : Nat} {H : Heap} {ls : Array Slot} (hdg : decode code pc = .ok (.ireturn, 1)) : W p l e room_1 s m #[Value.ref b] below meth c H [] 600000 7302250 (lw_Z below #[Value.ref b] s) (F0 m pc ls [.int 1]) := by
  intro T hT X
  obtain ⟨fs, hret, hrun, hended, hW, hframe⟩ := X.leave (v := some (.int 1)) (hlocks := hlocks) (fun h => by rw [hr] at h; cases h)
  have hmeth' : T.vm.method? m = some meth := X.method'
  refine ⟨T.setFrames fs, ?_, .returned (some (.int 1)), hrun, hended, rfl, ⟨_, rfl⟩, hW, hframe⟩
  jvm_step X.here [X.here.top, hx, hb, hdg, hmeth', hr, ret, narrow_b1]
  (try refine ⟨rfl, ?_⟩); (try refine ⟨rfl, ?_⟩)
  first | (intro acts; rw [hret _ acts rfl rfl rfl]) | rw [hret _ _ rfl rfl rfl]
  exact Steps.refl _
/-- what holds at the law's entry: the machine, the code, the tables' words (any of lw_tbl by 'hts w (by decide +kernel)'), the script of L ints xs at the cell b, what the Statement gives of the start (any of its parts by flat_of_before) -/
def lw_At (p : Program) (s : State) (m : MethodId) (meth : Method) (c : Code) (b L : Nat) (xs : Nat → Int32) : Prop :=
  p.tables.exec = Jvm.exec ∧ c.code = code ∧ meth.sig.returnType = ret ∧ c.maxLocals = 4 ∧ s.vm.findClass R_law = some m.cls ∧ (∀ w ∈ lw_tbl, w.before #[Value.ref b] s = true) ∧ va_X b L xs s s.heap ∧ b < s.heap.size ∧ meth.locks = false ∧ (Jvm.Cond.and given_1 narrow_1).before #[Value.ref b] s = true
/-! class and reference at their start -/
theorem st0_19 (i : Int) : st0 19 i = if i = 4 then 3 else 0 := rfl
theorem mt0_0 (i : Int) : mt0 0 i = if i = 4 then 3 else 0 := rfl
theorem plc_0 : plc 0 := by decide
theorem REL_0 : REL st0 mt0 := by
  have n3 : st0 19 3 = 0 := rfl
  have n0 : st0 19 0 = 0 := rfl
  refine ⟨⟨?_, ?_, ?_, ?_⟩, ?_, ?_, ?_, ?_, ?_⟩
  · exact ⟨by decide, fun _ _ _ => plc_0, fun _ _ _ => plc_0, fun _ _ _ => plc_0, fun _ _ _ => plc_0, fun _ _ _ => (by decide : (0 : Int) ≤ 0 ∧ (0 : Int) < 4), fun _ _ _ => (by decide : (0 : Int) ≤ 0 ∧ (0 : Int) < 10), fun _ _ _ => (by decide : ((0 : Int) ≤ 0 ∧ (0 : Int) ≤ 2) ∧ ((0 : Int) ≤ 0 ∧ (0 : Int) < 6) ∧ ((0 : Int) ≤ 0 ∧ (0 : Int) < 64) ∧ ((0 : Int) ≤ 0 ∧ (0 : Int) ≤ 7) ∧ ((0 : Int) ≤ 0 ∧ (0 : Int) < 60) ∧ ((0 : Int) ≤ 0 ∧ (0 : Int) < 60) ∧ ((0 : Int) ≤ 0 ∧ (0 : Int) ≤ 200) ∧ ((0 : Int) = 0 ∨ (0 : Int) = 1)), fun _ _ _ => (by decide : (0 : Int) ≤ 0 ∧ (0 : Int) < 1152921504606846976), fun b x y => absurd y (by rw [n3]; omega), fun _ _ _ _ _ _ _ => rfl, fun w x y => absurd y (by rw [show st0 19 1 = 0 from rfl]; omega), fun i x y => absurd y (by rw [show st0 19 5 = 0 from rfl]; omega)⟩
  · exact ⟨fun _ _ _ => (by decide : (0 : Int) ≤ 0 ∧ (0 : Int) < 1024), fun _ _ _ => (by decide : (-1 : Int) ≤ 0 ∧ (0 : Int) ≤ 1), fun _ _ _ => Or.inl rfl, fun _ _ _ => (by decide : (0 : Int) ≤ 0 ∧ (0 : Int) < 10), fun _ _ _ => (by decide : (0 : Int) ≤ 0 ∧ (0 : Int) < 10), (by decide : (-5 : Int) ≤ 0 ∧ (0 : Int) ≤ 10), (by decide : (0 : Int) ≤ 0 ∧ (0 : Int) < 1024), Or.inl rfl⟩
  · exact ⟨by decide, fun _ _ _ => plc_0, fun _ _ _ => (by decide : (0 : Int) ≤ 0 ∧ (0 : Int) ≤ 12), fun _ _ _ => (by decide : (0 : Int) ≤ 0 ∧ (0 : Int) < 60), fun _ _ _ => plc_0, fun _ _ _ => plc_0, fun _ _ _ => plc_0, fun _ _ _ => plc_0, fun _ _ _ => (by decide : (0 : Int) ≤ 0 ∧ (0 : Int) < 4), fun _ _ _ => (by decide : ((0 : Int) ≤ 0 ∧ (0 : Int) ≤ 2) ∧ ((0 : Int) ≤ 0 ∧ (0 : Int) < 6) ∧ ((0 : Int) ≤ 0 ∧ (0 : Int) < 64) ∧ ((0 : Int) ≤ 0 ∧ (0 : Int) ≤ 7) ∧ ((0 : Int) ≤ 0 ∧ (0 : Int) < 60) ∧ ((0 : Int) ≤ 0 ∧ (0 : Int) < 60) ∧ ((0 : Int) ≤ 0 ∧ (0 : Int) ≤ 200)), fun _ _ _ => (by decide : (0 : Int) ≤ 0 ∧ (0 : Int) < 10), fun b x y => absurd y (by rw [show mt0 0 3 = 0 from rfl]; omega), fun w x y => absurd y (by rw [show mt0 0 1 = 0 from rfl]; omega)⟩
  · exact ⟨fun _ _ _ => Or.inl rfl, fun _ _ _ => Or.inl rfl, fun _ _ _ => (by decide : (0 : Int) ≤ 0 ∧ (0 : Int) < 10), (by decide : (0 : Int) ≤ 0 ∧ (0 : Int) < 1024)⟩
  · exact ⟨⟨rfl, rfl, rfl, rfl, rfl⟩, ⟨rfl, rfl, rfl, rfl, rfl, rfl, rfl⟩, rfl⟩
  · intro p t a b
    rw [n0] at b
    omega
  · refine ⟨fun p t a b c => ⟨fun z => absurd z (bt_0 t), fun ⟨k, k1, k2, _⟩ => ?_⟩, fun p _ _ => ljbc_0, fun p k _ _ a b => ?_, fun p k j _ _ a b c => ?_, fun p _ _ => rfl⟩
    · rw [show mt0 2 p = 0 from rfl] at k2; omega
    · rw [show mt0 2 p = 0 from rfl] at b; omega
    · rw [show mt0 2 p = 0 from rfl] at c; omega
  · intro b x y
    rw [n3] at y
    omega
  · intro z
    exact absurd z (by decide)
/-! the addresses of both -/
theorem D_fst {A : Nat → Prop} {ws : va_W} (hD : va_D A ws) {L : List Nat} (hL : ws.map Prod.fst = L) : (∀ (i j x : Nat), L[i]? = some x → L[j]? = some x → i = j) ∧ ∀ (i x : Nat), L[i]? = some x → A x := by
  have key : ∀ (i x : Nat), L[i]? = some x → ∃ q, ws[i]? = some q ∧ q.1 = x := by
    intro i x h
    rw [← hL, List.getElem?_map] at h
    cases hq : ws[i]? with
    | none => rw [hq] at h; cases h
    | some q => rw [hq] at h; exact ⟨q, rfl, Option.some.inj h⟩
  refine ⟨fun i j x h1 h2 => ?_, fun i x h => ?_⟩
  · obtain ⟨q1, a1, b1⟩ := key i x h1
    obtain ⟨q2, a2, b2⟩ := key j x h2
    exact hD.1 i j q1 q2 a1 a2 (by rw [b1, b2])
  · obtain ⟨q, a1, b1⟩ := key i x h
    rw [← b1]
    exact hD.2 i q a1
theorem fst_at {ws : va_W} {n : Nat} {a : Nat → Nat} (hL : ws.map Prod.fst = (List.range n).map a) {i : Nat} {q : Nat × va_E} (h : ws[i]? = some q) : i < n ∧ q.1 = a i := by
  have h2 : (ws.map Prod.fst)[i]? = some q.1 := by rw [List.getElem?_map, h]; rfl
  rw [hL, List.getElem?_map] at h2
  by_cases hi : i < n
  · rw [List.getElem?_range hi] at h2
    exact ⟨hi, (Option.some.inj h2).symm⟩
  · rw [List.getElem?_eq_none (by simp; omega)] at h2
    cases h2
theorem WC_fst (g : Nat → ClassId) (a : Nat → Nat) (st : SS) : (WC g a st).map Prod.fst = (List.range 27).map a := rfl
theorem WM_fst (g : Nat → ClassId) (a : Nat → Nat) (st : SS) : (WM g a st).map Prod.fst = (List.range 20).map a := rfl
abbrev inj (n : Nat) (a : Nat → Nat) : Prop := ∀ i j, i < n → j < n → a i = a j → i = j
theorem WC_D {g : Nat → ClassId} {a : Nat → Nat} {st : SS} (h : inj 27 a) : va_D (AWC a) (WC g a st) := by
  refine ⟨fun i j p q h1 h2 e => ?_, fun k q h1 => ?_⟩
  · obtain ⟨a1, b1⟩ := fst_at (WC_fst g a st) h1
    obtain ⟨a2, b2⟩ := fst_at (WC_fst g a st) h2
    exact h i j a1 a2 (by rw [← b1, ← b2, e])
  · obtain ⟨a1, b1⟩ := fst_at (WC_fst g a st) h1
    exact ⟨k, a1, b1⟩
theorem WM_D {g : Nat → ClassId} {a : Nat → Nat} {st : SS} (h : inj 20 a) : va_D (AWM a) (WM g a st) := by
  refine ⟨fun i j p q h1 h2 e => ?_, fun k q h1 => ?_⟩
  · obtain ⟨a1, b1⟩ := fst_at (WM_fst g a st) h1
    obtain ⟨a2, b2⟩ := fst_at (WM_fst g a st) h2
    exact h i j a1 a2 (by rw [← b1, ← b2, e])
  · obtain ⟨a1, b1⟩ := fst_at (WM_fst g a st) h1
    exact ⟨k, a1, b1⟩
abbrev apart (a b : Nat → Nat) : Prop := ∀ i j, i < 27 → j < 20 → a i ≠ b j
theorem keepM {D : va_G} {g : Nat → ClassId} {a b : Nat → Nat} {mt : SS} {H H1 : Heap} (h : apart a b) (hQ : va_P D vwCl (WM g b mt) H) (hk : ∀ q : Nat, q < H.size → ¬ AWC a q → H1[q]? = H[q]?) : va_P D vwCl (WM g b mt) H1 := hQ.kept (fun k q hq => by
  obtain ⟨a1, b1⟩ := fst_at (WM_fst g b mt) hq
  exact hk q.1 (hQ k q hq).lt (fun ⟨i, i1, i2⟩ => h i k i1 a1 (by rw [← i2, b1])))
theorem keepC {D : va_G} {g : Nat → ClassId} {a b : Nat → Nat} {st : SS} {H H1 : Heap} (h : apart a b) (hP : va_P D vwCl (WC g a st) H) (hk : ∀ q : Nat, q < H.size → ¬ AWM b q → H1[q]? = H[q]?) : va_P D vwCl (WC g a st) H1 := hP.kept (fun k q hq => by
  obtain ⟨a1, b1⟩ := fst_at (WC_fst g a st) hq
  exact hk q.1 (hP k q hq).lt (fun ⟨j, j1, j2⟩ => h k j a1 j1 (by rw [← j2, b1])))
/-! the law's own -/
abbrev A0 (s : State) : Nat → Prop := fun q => s.heap.size ≤ q
/-- what stays the same over the law's loop -/
def LC (p : Program) (s : State) (m : MethodId) (meth : Method) (c : Code) (D : va_G) (g : Nat → ClassId) (a b : Nat → Nat) (bb L : Nat) (xs : Nat → Int32) : Prop :=
  lw_At p s m meth c bb L xs ∧ L ≤ 2560 ∧ va_K D vwCl (TY g) s ∧ inj 27 a ∧ inj 20 b ∧ apart a b ∧ (∀ i, i < 27 → s.heap.size ≤ a i) ∧ (∀ j, j < 20 → s.heap.size ≤ b j)
def XS (xs : Nat → Int32) (i : Int) : Int := (xs i.toNat).toInt
section LW
variable {p : Program} {l : Launch} {e : Env} {s : State} {m : MethodId} {below : List Frame} {meth : Method} {c : Code} {H : Heap} {locs : List Loc} {cells slots : Nat} {Q : State → Prop} {D : va_G} {g : Nat → ClassId} {a b : Nat → Nat} {bb L : Nat} {xs : Nat → Int32} {R : Room} {args : Array Value} {pc : Nat} {ls : Array Slot} {rest : List Value} {cc : ByteArray}
theorem LC.call (X : LC p s m meth c D g a b bb L xs) : CallFix p m c cL_law 4 s #[Value.ref bb] wsL_law RL := ⟨X.1.1, X.1.2.1, X.1.2.2.2.1, X.1.2.2.2.2.1, fun w h => X.1.2.2.2.2.2.1 w (wsL_law_in w h)⟩
theorem z_sld (X : LC p s m meth c D g a b bb L xs) (hb : c.code = cc) (hS : va_S (A0 s) s.heap H locs) {i : Int} (h0 : 0 ≤ i) (h1 : i < L) (hdg : decode cc pc = .ok (.iaload, 1)) (kk : W p l e R s m args below meth c H locs cells slots Q (F0 m (pc + 1) ls (.int (iZ (XS xs i)) :: rest))) : W p l e R s m args below meth c H locs cells slots Q (F0 m pc ls (.int (iZ i) :: .ref bb :: rest)) := by
  have hL := X.2.1
  refine va_sld (A := A0 s) X.1.1 hb X.1.2.2.2.2.2.2.1 X.1.2.2.2.2.2.2.2.1 (Nat.not_le.mpr X.1.2.2.2.2.2.2.2.1) hS (iZ_in h0 h1 (by omega)) hdg ?_
  rw [iZ_clamp h0 (by omega), ← iZ_self (xs i.toNat)]
  exact kk
theorem z_slen (X : LC p s m meth c D g a b bb L xs) (hb : c.code = cc) (hS : va_S (A0 s) s.heap H locs) (hdg : decode cc pc = .ok (.arraylength, 1)) (kk : W p l e R s m args below meth c H locs cells slots Q (F0 m (pc + 1) ls (.int (iZ (L : Int)) :: rest))) : W p l e R s m args below meth c H locs cells slots Q (F0 m pc ls (.ref bb :: rest)) := by
  refine va_slen (A := A0 s) X.1.1 hb X.1.2.2.2.2.2.2.1 X.1.2.2.2.2.2.2.2.1 (Nat.not_le.mpr X.1.2.2.2.2.2.2.2.1) hS hdg ?_
  rw [show Int32.ofNat L = iZ (L : Int) from (iZ_nI L).symm]
  exact kk
end LW
