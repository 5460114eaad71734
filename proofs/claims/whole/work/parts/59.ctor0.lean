/-! constructors: what they share -/
def zf : Int → Int := fun _ => 0
/-- the tables' words of nest mates and of rows of boards -/
def NX (U : State) : Prop := va_Nw (.methodLinkNest RX7 9 yX6_init "ShotBoard") U ∧ va_Nw (.methodLinkNest RX7 18 yX4_init "ShotBoard") U ∧ va_Nw (.methodLinkNest RX5 21 yX0_init "ShotBoard") U ∧ va_AO RX0 U
theorem NX.same {u U : State} (h : u.vm = U.vm) (q : NX u) : NX U := ⟨va_Nw.same rfl h q.1, va_Nw.same rfl h q.2.1, va_Nw.same rfl h q.2.2.1, va_AO.moved (by rw [h]; exact Vm.Alike.refl _) q.2.2.2⟩
theorem NX.warm {s U : State} (hW : s.WarmedH U.vm) (q : NX s) : NX U := ⟨va_Nw.warmM hW q.1, va_Nw.warmM hW q.2.1, va_Nw.warmM hW q.2.2.1, va_AO.moved hW.alike q.2.2.2⟩
def PcN (D : va_G) (g : Nat → ClassId) (sz : Nat) (w : va_W) (av : List Value) : Array Value → State → Prop := va_Pc av (fun U => U.heap.size = sz ∧ va_P D vwCl w U.heap ∧ va_K D vwCl (TY g) U ∧ va_D (fun _ => True) w ∧ NX U)
theorem blN {D : va_G} {g : Nat → ClassId} {sz : Nat} {w : va_W} {av : List Value} : FrameBlind (PcN D g sz w av) := fun a U f mk q => ⟨q.1, q.2.1, q.2.2.1, va_K.moved (u := U) (U := U.calling f mk a) (Vm.Alike.refl U.vm) q.2.2.2.1, q.2.2.2.2.1, NX.same (u := U) (U := U.calling f mk a) rfl q.2.2.2.2.2⟩
def QcN (D : va_G) (wf : (Nat → Nat) → va_W) (post : (Nat → Nat) → Prop) (A : Nat → Prop) : Array Value → State → Outcome → State → Prop := va_Qv (S := Nat → Nat) post (fun a t => va_P D vwCl (wf a) t.heap ∧ va_D A (wf a)) A
theorem metN {l : Launch} {y : MethodName} {ws ws' : List Cond} {rm : Room} {cc : ByteArray} {maxL mc ms : Nat} {own : String} {D : va_G} {g : Nat → ClassId} {w : va_W} {av : List Value} {sz : Nat} {wf : (Nat → Nat) → va_W} {post : (Nat → Nat) → Prop} (hy : plainName y.cls = true) (ho : y.cls = own) (hyn : y.name = "<init>") (hw : ws = Cond.code y cc maxL none :: ws') (hav : (lg_sl av).length ≤ maxL)
    (body : ∀ (p : Program) (e : Env) (R : Room) (s : State) (m : MethodId) (args : Array Value) (below : List Frame) (meth : Method) (c : Code) (Q : State → Prop) (ls : Array Slot) (A : Nat → Prop), CallFix p m c cc maxL s args ws own → meth.name = "<init>" → rm.frames ≤ R.frames → rm.locals ≤ R.locals → rm.cells ≤ R.cells → rm.slots ≤ R.slots → va_K D vwCl (TY g) s → NX s → va_P D vwCl w s.heap → va_D A w → va_S A s.heap s.heap [] → (∀ q : Nat, s.heap.size ≤ q → A q) → lv_has ls maxL (lv_args 0 av) →
      (∀ (a : Nat → Nat) (H : Heap) (locs : List Loc) (pc : Nat) (ls' : Array Slot), post a → va_P D vwCl (wf a) H → va_D A (wf a) → va_S A s.heap H locs → decode cc pc = .ok (.return_, 1) → W p l e R s m args below meth c H locs mc ms Q (F0 m pc ls' [])) → W p l e R s m args below meth c s.heap [] 0 0 Q (F0 m 0 ls [])) : Met l y ws rm (PcN D g sz w av) (QcN D wf post (va_A w sz)) mc ms (va_A w sz) := by
  refine Met.ofW (cc := cc) (maxL := maxL) (ret := none) hy hw ?_
  intro p e s m args below meth c s₁ B hml hv
  obtain ⟨hav1, hsz, hP, hK, hD0, hN⟩ := hv
  have hx := B.exec
  have hb := B.bytes
  have hr := B.returns
  have hts := atoms_spec (ws := ws) B.pre
  have hown : s.vm.findClass y.cls = some m.cls := findClass_of_methodNamed B.named
  have hlocks := B.notSynchronized
  have hin : meth.name = "<init>" := (name_of_methodNamed B.named B.method).1.trans hyn
  have hl := lv_entry av (n := maxL) hav
  subst hav1
  subst hsz
  rw [lg_entry_eq]
  have hA : ∀ q : Nat, s.heap.size ≤ q → va_A w s.heap.size q := fun q h => Or.inr h
  refine body p e _ s m _ below meth c _ _ (va_A w s.heap.size) ⟨hx, hb, hml, ho ▸ hown, hts⟩ hin (Nat.le_refl _) (Nat.le_refl _) (Nat.le_refl _) (Nat.le_refl _) hK hN hP (hD0.self (sz := s.heap.size)) va_S.rf hA hl ?_
  intro a H locs pc ls' hpo hPu hDu hS hdg
  exact W.vret hx hb hr (fun t ht _ => ⟨⟨a, rfl, hpo, by rw [ht]; exact hPu, hDu⟩, hS.F ht⟩) hS.2.2 hdg
section ZN
variable {p : Program} {l : Launch} {e : Env} {R : Room} {s : State} {m : MethodId} {args : Array Value} {below : List Frame} {meth : Method} {c : Code} {H : Heap} {locs : List Loc} {cells slots : Nat} {Q : State → Prop}
variable {cc : ByteArray} {pc : Nat} {ls : Array Slot} {rest st0 : List Value} {D : va_G} {A : Nat → Prop} {g : Nat → ClassId} {ws w : va_W} {H0 : Heap}
theorem iA_z : ∀ cA N, vp_cell cA (N, .inl (iA zf)) = arrV cA N (fun _ => defaultValue .int) := fun _ _ => rfl
theorem z_newI (hexec : p.tables.exec = Jvm.exec) (hb : c.code = cc) (harr : (Cond.arrayClass .int).before args s = true) (hK : va_K D vwCl (TY g) s) (hP : va_P D vwCl ws H) (hD : va_D A ws) (hS : va_S A H0 H locs) (hA : ∀ q, H0.size ≤ q → A q) {n : Int32} (N : Nat) (hn : ¬ n < 0) (hN : n.toNatClampNeg = N) (hbytes : N * componentBytes .int ≤ 536870912) (hcells : cells + 1 ≤ R.cells) (hslots : slots + N ≤ R.slots) (hdg : decode cc pc = .ok (.newarray .int, 2))
    (kk : ∀ (q : Nat) (H1 : Heap), va_P D vwCl (ws ++ [(q, .inl (g 0, N, .inl (iA zf)))]) H1 → va_D A (ws ++ [(q, .inl (g 0, N, .inl (iA zf)))]) → va_S A H0 H1 locs → W p l e R s m args below meth c H1 locs (cells + 1) (slots + N) Q (F0 m (pc + 2) ls (.ref q :: rest))) : W p l e R s m args below meth c H locs cells slots Q (F0 m pc ls (.int n :: rest)) := by
  refine va_newa (atype := .int) (ty := .int) hexec hb harr rfl hK hP hD hS hA (a0 := (N, .inl (iA zf))) (fun cA => rfl) hn hN hbytes hcells hslots hdg (fun q cA H1 hK1 hP1 hD1 hS1 => ?_)
  have h1 : s.vm.findClass ("[" ++ FieldType.int.toString) = some cA := (hK1.2 4 _ rfl).2
  have h0 : s.vm.findClass ("[" ++ FieldType.int.toString) = some (g 0) := (hK.2 0 _ rfl).2
  have e : cA = g 0 := Option.some.inj (h1.symm.trans h0)
  subst e
  exact kk q H1 hP1 hD1 hS1
theorem z_newJ (hexec : p.tables.exec = Jvm.exec) (hb : c.code = cc) (harr : (Cond.arrayClass .long).before args s = true) (hK : va_K D vwCl (TY g) s) (hP : va_P D vwCl ws H) (hD : va_D A ws) (hS : va_S A H0 H locs) (hA : ∀ q, H0.size ≤ q → A q) {n : Int32} (N : Nat) (hn : ¬ n < 0) (hN : n.toNatClampNeg = N) (hbytes : N * componentBytes .long ≤ 536870912) (hcells : cells + 1 ≤ R.cells) (hslots : slots + N ≤ R.slots) (hdg : decode cc pc = .ok (.newarray .long, 2))
    (kk : ∀ (q : Nat) (H1 : Heap), va_P D vwCl (ws ++ [(q, .inl (g 1, N, .inr (.inl (lA zf))))]) H1 → va_D A (ws ++ [(q, .inl (g 1, N, .inr (.inl (lA zf))))]) → va_S A H0 H1 locs → W p l e R s m args below meth c H1 locs (cells + 1) (slots + N) Q (F0 m (pc + 2) ls (.ref q :: rest))) : W p l e R s m args below meth c H locs cells slots Q (F0 m pc ls (.int n :: rest)) := by
  refine va_newa (atype := .long) (ty := .long) hexec hb harr rfl hK hP hD hS hA (a0 := (N, .inr (.inl (lA zf)))) (fun cA => rfl) hn hN hbytes hcells hslots hdg (fun q cA H1 hK1 hP1 hD1 hS1 => ?_)
  have h1 : s.vm.findClass ("[" ++ FieldType.long.toString) = some cA := (hK1.2 4 _ rfl).2
  have h0 : s.vm.findClass ("[" ++ FieldType.long.toString) = some (g 1) := (hK.2 1 _ rfl).2
  have e : cA = g 1 := Option.some.inj (h1.symm.trans h0)
  subst e
  exact kk q H1 hP1 hD1 hS1
theorem z_newZ (hexec : p.tables.exec = Jvm.exec) (hb : c.code = cc) (harr : (Cond.arrayClass .boolean).before args s = true) (hK : va_K D vwCl (TY g) s) (hP : va_P D vwCl ws H) (hD : va_D A ws) (hS : va_S A H0 H locs) (hA : ∀ q, H0.size ≤ q → A q) {n : Int32} (N : Nat) (hn : ¬ n < 0) (hN : n.toNatClampNeg = N) (hbytes : N * componentBytes .boolean ≤ 536870912) (hcells : cells + 1 ≤ R.cells) (hslots : slots + N ≤ R.slots) (hdg : decode cc pc = .ok (.newarray .boolean, 2))
    (kk : ∀ (q : Nat) (H1 : Heap), va_P D vwCl (ws ++ [(q, .inl (g 2, N, .inl (iA zf)))]) H1 → va_D A (ws ++ [(q, .inl (g 2, N, .inl (iA zf)))]) → va_S A H0 H1 locs → W p l e R s m args below meth c H1 locs (cells + 1) (slots + N) Q (F0 m (pc + 2) ls (.ref q :: rest))) : W p l e R s m args below meth c H locs cells slots Q (F0 m pc ls (.int n :: rest)) := by
  refine va_newa (atype := .boolean) (ty := .boolean) hexec hb harr rfl hK hP hD hS hA (a0 := (N, .inl (iA zf))) (fun cA => rfl) hn hN hbytes hcells hslots hdg (fun q cA H1 hK1 hP1 hD1 hS1 => ?_)
  have h1 : s.vm.findClass ("[" ++ FieldType.boolean.toString) = some cA := (hK1.2 4 _ rfl).2
  have h0 : s.vm.findClass ("[" ++ FieldType.boolean.toString) = some (g 2) := (hK.2 2 _ rfl).2
  have e : cA = g 2 := Option.some.inj (h1.symm.trans h0)
  subst e
  exact kk q H1 hP1 hD1 hS1
theorem z_newB (hexec : p.tables.exec = Jvm.exec) (hb : c.code = cc) {own : String} {index : Nat} (hown : s.vm.findClass own = some m.cls) (hcl : (Cond.classLink own index RX0).before args s = true) (hN0 : NX s) (hK : va_K D vwCl (TY g) s) (hP : va_P D vwCl ws H) (hD : va_D A ws) (hS : va_S A H0 H locs) (hA : ∀ q, H0.size ≤ q → A q) {n : Int32} (N : Nat) (hn : ¬ n < 0) (hN : n.toNatClampNeg = N) (hbytes : N * 4 ≤ 536870912) (hcells : cells + 1 ≤ R.cells) (hslots : slots + N ≤ R.slots) (hdg : decode cc pc = .ok (.anewarray index, 3))
    (kk : ∀ (q : Nat) (H1 : Heap), va_P D vwCl (ws ++ [(q, .inl (g 3, N, .inr (.inr (.inr (.inr (fun _ => none))))))]) H1 → va_D A (ws ++ [(q, .inl (g 3, N, .inr (.inr (.inr (.inr (fun _ => none))))))]) → va_S A H0 H1 locs → W p l e R s m args below meth c H1 locs (cells + 1) (slots + N) Q (F0 m (pc + 3) ls (.ref q :: rest))) : W p l e R s m args below meth c H locs cells slots Q (F0 m pc ls (.int n :: rest)) := by
  refine va_newq hexec hb hown hcl hN0.2.2.2 hK hP hD hS hA hn hN hbytes hcells hslots hdg (fun q cA H1 hK1 hP1 hD1 hS1 => ?_)
  obtain ⟨_, _, _, _, _, h1⟩ := (hK1.2 4 _ rfl).2
  obtain ⟨_, _, _, _, _, h0⟩ := (hK.2 3 _ rfl).2
  have e : cA = g 3 := Option.some.inj (h1.symm.trans h0)
  subst e
  exact kk q H1 hP1 hD1 hS1
theorem cellQ {D : va_G} {cl : List vw_C} {c : ClassId} {q : Nat} {f f' : Nat → Option Nat} (h : va_at D cl (q, .inl (c, 8, .inr (.inr (.inr (.inr f))))) H) (he : ∀ k, k < 8 → f k = f' k) : va_at D cl (q, .inl (c, 8, .inr (.inr (.inr (.inr f'))))) H := by
  have e : vp_cell c (8, .inr (.inr (.inr (.inr f')))) = vp_cell c (8, .inr (.inr (.inr (.inr f)))) := by
    show arrV c 8 (fun j => va_rf (f' j)) = arrV c 8 (fun j => va_rf (f j))
    unfold arrV
    congr 1
    apply Array.ext
    · simp
    · intro i h1 h2
      simp at h1
      simp [he i (by omega)]
  show H[q]? = some (vp_cell _ _)
  rw [e]
  exact h
theorem P_put {D : va_G} {cl : List vw_C} {ws : va_W} {i : Nat} {x : Nat × va_E} (hP : va_P D cl ws H) (hx : va_at D cl x H) : va_P D cl (ws.set i x) H := by
  intro k q hq
  by_cases e : i = k
  · subst e
    rw [List.getElem?_set] at hq
    split at hq
    · split at hq
      · cases hq; exact hx
      · cases hq
    · exact hP _ _ hq
  · rw [List.getElem?_set_ne e] at hq
    exact hP k q hq
end ZN
abbrev wf0 (h : Nat) : va_W := [(h, .inr (0, [.int (iZ 0), .int (iZ 0), .int (iZ 0), .int (iZ 0), .int (iZ 0), .int (iZ 0), .int (iZ 0), .int (iZ 0)]))]
abbrev w6 (h : Nat) : va_W := [(h, .inr (5, [.null, .null, .null, .null, .int (iZ 0), .int (iZ 0)]))]
abbrev wf6 (g : Nat → ClassId) (h : Nat) (a : Nat → Nat) : va_W := [(h, .inr (5, [.ref (a 7), .ref (a 8), .ref (a 9), .ref (a 10), .int (iZ 0), .int (iZ 0)])), (a 7, .inl (g 0, 360, .inl (iA zf))), (a 8, .inl (g 1, 6, .inr (.inl (lA zf)))), (a 9, .inl (g 0, 12, .inl (iA zf))), (a 10, .inl (g 0, 12, .inl (iA zf)))]
abbrev w4 (h : Nat) : va_W := [(h, .inr (3, [.null, .null, .int (iZ 0)]))]
abbrev wf4 (g : Nat → ClassId) (h : Nat) (a : Nat → Nat) : va_W := [(h, .inr (3, [.ref (a 11), .ref (a 12), .int (iZ 0)])), (a 11, .inl (g 0, 10, .inl (iA zf))), (a 12, .inl (g 0, 10, .inl (iA zf)))]
abbrev w5 (h : Nat) : va_W := [(h, .inr (4, [.null, .int (iZ 0), .int (iZ 0)]))]
abbrev cB (q : Nat) : Nat × va_E := (q, .inr (0, [.int (iZ 0), .int (iZ 0), .int (iZ 0), .int (iZ 0), .int (iZ 0), .int (iZ 0), .int (iZ 0), .int (iZ 0)]))
abbrev wf5 (g : Nat → ClassId) (h : Nat) (a : Nat → Nat) : va_W := [(h, .inr (4, [.ref (a 13), .int (iZ 0), .int (iZ 3)])), (a 13, .inl (g 3, 8, .inr (.inr (.inr (.inr (fun k => some (a (19 + k)))))))), cB (a 19), cB (a 20), cB (a 21), cB (a 22), cB (a 23), cB (a 24), cB (a 25), cB (a 26)]
abbrev w1 (h : Nat) : va_W := [(h, .inr (1, [.null]))]
abbrev wf1 (h j : Nat) : va_W := [(h, .inr (1, [.ref j]))]
abbrev w3 (h : Nat) : va_W := [(h, .inr (2, [.null, .null, .null, .null, .null, .null, .null, .null, .int (iZ 0), .int (iZ 0), .int (iZ 0)]))]
abbrev wf3 (g : Nat → ClassId) (h j r s : Nat) (a : Nat → Nat) : va_W := [(h, .inr (2, [.ref j, .ref r, .ref s, .ref (a 14), .ref (a 15), .ref (a 16), .ref (a 17), .ref (a 18), .int (iZ 0), .int (iZ 0), .int (iZ 0)])), (a 14, .inl (g 0, 8, .inl (iA zf))), (a 15, .inl (g 0, 80, .inl (iA zf))), (a 16, .inl (g 2, 27, .inl (iA zf))), (a 17, .inl (g 0, 8, .inl (iA zf))), (a 18, .inl (g 0, 10, .inl (iA zf)))]
def st0 : SS := fun k => if k = 19 then (fun i => if i = 4 then 3 else 0) else zf
def mt0 : SS := fun k => if k = 0 then (fun i => if i = 4 then 3 else 0) else zf
abbrev w7 (h : Nat) : va_W := [(h, .inr (6, [.null, .null, .null, .null, .null, .null, .int (iZ 0)]))]
abbrev nI0 : Value := .int (iZ 0)
abbrev w8 (h : Nat) : va_W := [(h, .inr (7, [nI0, .null, .null, .null, .null, nI0, .null, .null, nI0, .null, .null, nI0, .null, .null, .null, .null, .null, .null, .null, nI0, nI0, .null, .null, .null, .null, nI0]))]
def mkA (b a5 : Nat → Nat) : Nat → Nat := fun k => if k < 19 then b k else a5 k
