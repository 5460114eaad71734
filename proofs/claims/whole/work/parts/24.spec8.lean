/-! the answers, told once for the class and for the reference -/
abbrev inP (n x : Int) : Prop := 0 ≤ x ∧ x < n
def WHOp (np ww : Int) : Prop := 0 ≤ ww ∧ ww / 1000 ≤ 2 ∧ ww / 100 % 10 < np ∧ ww % 100 < ((2 ^ np.toNat : Nat) : Int) ∧ (ww / 1000 = 1 → ∃ k, 0 ≤ k ∧ k ≠ ww / 100 % 10 ∧ bt (ww % 100) k)
abbrev SPANp (sp : Int) : Prop := 0 ≤ sp ∧ sp % 100 < 60 ∧ sp / 100 ≤ sp % 100
def aWhere (P : Int → Int → Int) (np pp tt : Int) : Int := if inP np pp ∧ inP 60 tt then P pp tt else -1
noncomputable def aHidden (P : Int → Int → Int) (np nw : Int) (wf wt : Int → Int) (pp tt ff : Int) : Int := if (inP np pp ∧ inP 60 tt) ∧ plc ff then b2 (HID P np nw wf wt pp tt ff) else -1
noncomputable def aSees (P : Int → Int → Int) (np nw nc : Int) (wf wt eye : Int → Int) (cm mm pp tt : Int) : Int := if (inP nc cm ∧ inP np mm) ∧ (inP np pp ∧ inP 60 tt) then b2 (cone (eye cm) (P mm tt) (P pp tt) ∧ ¬ HID P np nw wf wt pp tt (eye cm)) else -1
def aSize (P : Int → Int → Int) (np nc : Int) (eye : Int → Int) (cm pp tt : Int) : Int := if (inP nc cm ∧ inP np pp) ∧ inP 60 tt then sizeZ (eye cm) (P pp tt) else -1
noncomputable def VWr (Q : Int → Prop) (x : Int) : Int := cP (fun y => ¬ Q (100 * x + y)) 32 0
noncomputable def VW (Q : Int → Prop) : Int := sL (VWr Q) 32 0
noncomputable def aViews (P : Int → Int → Int) (np nw : Int) (wf wt : Int → Int) (pp tt : Int) : Int := if inP np pp ∧ inP 60 tt then VW (fun f => HID P np nw wf wt pp tt f) else -1
noncomputable def aWhy (Y : Int → Int → Int) (nc nb : Int) (cm bb : Int) : Int := if inP nc cm ∧ inP nb bb then Y cm bb else -1
noncomputable def aGives (Y : Int → Int → Int) (nc nb : Int) (cm bb : Int) : Int := if inP nc cm ∧ inP nb bb then b2 (Y cm bb = 0) else -1
noncomputable def aSide (D : Int → Int → Int) (kd : Int → Int) (nc nb : Int) (cm bb : Int) : Int := if (inP nc cm ∧ inP nb bb) ∧ kd bb = 1 then D cm bb else -9
def aLen (L : Int → Int) (nb bb : Int) : Int := if inP nb bb then L bb else -1
def aFrame (L : Int → Int) (nb f : Int) : Int := if 0 ≤ f then fR L nb.toNat 0 f else -1
def aCount (a b c d e x : Int) : Int := if x = 0 then a else if x = 1 then b else if x = 2 then c else if x = 3 then d else if x = 4 then e else -1
/-- crossings of a plan: la is the last two's side -/
noncomputable def CR (kd ct sd : Int → Int) : Nat → Int → Int → Int
  | 0, _, _ => 0
  | n + 1, b, la => if kd b = 1 then b2 (ct b = 1 ∧ la * sd b < 0) + CR kd ct sd n (b + 1) (sd b) else CR kd ct sd n (b + 1) la
theorem CR_t {kd ct sd : Int → Int} {n : Nat} {b la : Int} (h : kd b = 1) : CR kd ct sd (n + 1) b la = b2 (ct b = 1 ∧ la * sd b < 0) + CR kd ct sd n (b + 1) (sd b) := by rw [CR]; exact if_pos h
theorem CR_f {kd ct sd : Int → Int} {n : Nat} {b la : Int} (h : ¬ kd b = 1) : CR kd ct sd (n + 1) b la = CR kd ct sd n (b + 1) la := by rw [CR]; exact if_neg h
theorem fR_t {L : Int → Int} {n : Nat} {i f : Int} (h : f < L i) : fR L (n + 1) i f = i := by rw [fR]; exact if_pos h
theorem fR_f {L : Int → Int} {n : Nat} {i f : Int} (h : ¬ f < L i) : fR L (n + 1) i f = fR L n (i + 1) (f - L i) := by rw [fR]; exact if_neg h
theorem IC_t0 {st : SS} (h : IC st) : IC (up st 19 5 0) := by
  obtain ⟨a1, a2, a3, a4, a5, a6, a7, a8, a9, a10, a11, a12, -⟩ := h
  have e : ∀ j, j ≠ 5 → up st 19 5 0 19 j = st 19 j := fun j hj => up_i _ _ _ hj
  refine ⟨?_, a2, a3, a4, a5, a6, a7, a8, a9, ?_, a11, ?_, ?_⟩
  · unfold ICs
    rw [e 0 (by decide), e 1 (by decide), e 2 (by decide), e 3 (by decide), e 4 (by decide), up_s]
    unfold ICs at a1
    omega
  · rw [e 3 (by decide)]
    exact a10
  · rw [e 1 (by decide)]
    exact a12
  · rw [up_s]
    intro i h0 h1
    omega
