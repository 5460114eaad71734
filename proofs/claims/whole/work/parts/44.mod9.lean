abbrev rX8_plans : Room := { frames := 5, cells := 0, slots := 0, locals := 120 }
set_option maxHeartbeats 4000000 in
set_option maxRecDepth 100000 in
theorem m_X8_plans (l : Launch) (D : va_G) (g : Nat → ClassId) (a : Nat → Nat) (st : SS) (se : Int) (hI : IM st) (hQ : IS st) (h1 : 0 ≤ se ∧ se < 1024) : Met l yX8_plans wsX8_plans rX8_plans (PcM D g (AWM a) (WM g a st) [.ref (a 0), .int (iZ (se))]) (QcI D (WM g a) (AWM a) (fun r u => PLD st se r u)) 0 0 (AWM a) := by
  refine metI (cc := cX8_plans) (maxL := 5) (ret := (some .boolean)) (own := RX8) (by decide) rfl rfl (Nat.le_of_ble_eq_true rfl) (Or.inr ⟨rfl, fun r u h => by rw [h.1]; exact b2_01 _⟩) ?_
  intro p e R s m args below meth c Q ls S hRf hRl hK hP hD hS hl K
  have hx := S.1
  have hb := S.2.1
  have hown := S.2.2.2.1
  have hts := S.2.2.2.2
  have hRf : 5 ≤ R.frames := hRf
  have hRl : 120 ≤ R.locals := hRl
  have hl : lv_has ls 5 [(0, .ref (a 0)), (1, .int (iZ (se)))] := hl
  have iX8 : ∀ w ∈ wsX80, w ∈ wsX8_plans := by decide +kernel
  have hB := hI.s
  refine lv_aload_n hx hb dX8_plans_0 rfl (lv_at hl 0 rfl) ?_
  refine z_get (C := RX8) (T := TX8) (N := 26) (ci := 7) hx hb hts iX8 hown hK hP 0 rfl rfl 11 (by decide) (hts (.fieldLink RX8 82 "ShotBoardModel" "boards" "I") (by decide +kernel)) (.int (iZ (st 0 (3)))) rfl dX8_plans_1 ?_
  refine lv_istore_n (lv' := [(2, .int (iZ (st 0 (3)))), (0, .ref (a 0)), (1, .int (iZ (se)))]) hx hb dX8_plans_4 rfl hl (by decide) rfl (fun ls hl => ?_)
  have LP5 : ∀ (n5 : Nat) (bb : Int) (uu : SS), (bb + 1) < (n5 : Int) → (-1 ≤ bb ∧ bb ≤ st 0 3) → (PLI st se bb 0 uu) → ∀ (H : Heap) (locs : List Loc), va_P D vwCl (WM g a uu) H → va_D (AWM a) (WM g a uu) → va_S (AWM a) s.heap H locs → ∀ (ls : Array Slot), lv_has ls 5 [(2, .int (iZ (bb))), (0, .ref (a 0)), (1, .int (iZ (se)))] → W p l e R s m args below meth c H locs 0 0 Q (F0 m 5 ls []) := by
    intro n5
    induction n5 with
    | zero =>
      intro bb uu hm5 j1 j2 H locs hP hD hS ls hl
      exact absurd hm5 (by omega)
    | succ n5 ih5 =>
      intro bb uu hm5 j1 j2 H locs hP hD hS ls hl
      refine lv_iload_n hx hb dX8_plans_5 rfl (lv_at hl 0 rfl) ?_
      refine z_if_lt (tgt := 121) hx hb (by omega) dX8_plans_6 (by decide) (fun c1 => ?_) (fun c1 => ?_)
      · skip
        refine z_bipush hx hb dX8_plans_121 (by decide +kernel) ?_
        refine lv_istore_n (lv' := [(2, .int (iZ (10))), (0, .ref (a 0)), (1, .int (iZ (se)))]) hx hb dX8_plans_123 rfl hl (by decide) rfl (fun ls hl => ?_)
        refine z_iconst hx hb dX8_plans_124 ?_
        refine lv_istore_n (lv' := [(3, .int (iZ (0))), (2, .int (iZ (10))), (0, .ref (a 0)), (1, .int (iZ (se)))]) hx hb dX8_plans_125 rfl hl (by decide) rfl (fun ls hl => ?_)
        have LP126 : ∀ (n126 : Nat) (lb : Int) (bc : Int) (xu : SS), (st 0 3 - bc) < (n126 : Int) → (0 ≤ bc ∧ bc ≤ st 0 3) → (PLR st se bc xu) → (CGM st se (st 0 3).toNat 10 → lb = LM st se bc.toNat ∧ CGM st se (st 0 3 - bc).toNat lb) → (0 ≤ lb ∧ lb ≤ 10) → ∀ (H : Heap) (locs : List Loc), va_P D vwCl (WM g a xu) H → va_D (AWM a) (WM g a xu) → va_S (AWM a) s.heap H locs → ∀ (ls : Array Slot), lv_has ls 5 [(3, .int (iZ (bc))), (2, .int (iZ (lb))), (0, .ref (a 0)), (1, .int (iZ (se)))] → W p l e R s m args below meth c H locs 0 0 Q (F0 m 126 ls []) := by
          intro n126
          induction n126 with
          | zero =>
            intro lb bc xu hm126 m1 m2 m3 m4 H locs hP hD hS ls hl
            exact absurd hm126 (by omega)
          | succ n126 ih126 =>
            intro lb bc xu hm126 m1 m2 m3 m4 H locs hP hD hS ls hl
            have x0 : xu 0 = st 0 := m2.1 0 (by decide) (by decide)
            have x03 := congrFun x0 3
            have x09 : xu 9 = st 9 := m2.1 9 (by decide) (by decide)
            have x10r := b2_01 (CGM st se (st 0 3).toNat 10)
            have x10 : xu 18 10 = b2 (CGM st se (st 0 3).toNat 10) := by have q9 := m2.2.2.1 0 10 (by omega) (by omega) (by omega) (by omega); simpa using q9
            refine lv_iload_n hx hb dX8_plans_126 rfl (lv_at hl 0 rfl) ?_
            refine lv_aload_n hx hb dX8_plans_127 rfl (lv_at hl 2 rfl) ?_
            refine z_get (C := RX8) (T := TX8) (N := 26) (ci := 7) hx hb hts iX8 hown hK hP 0 rfl rfl 11 (by decide) (hts (.fieldLink RX8 82 "ShotBoardModel" "boards" "I") (by decide +kernel)) (.int (iZ (xu 0 (3)))) rfl dX8_plans_128 ?_
            refine z_icmp_ge (tgt := 196) hx hb (by omega) (by omega) dX8_plans_131 (by decide) (fun c2 => ?_) (fun c2 => ?_)
            · skip
              have hend := c2
              refine lv_aload_n hx hb dX8_plans_196 rfl (lv_at hl 2 rfl) ?_
              refine z_get (C := RX8) (T := TX8) (N := 26) (ci := 7) hx hb hts iX8 hown hK hP 0 rfl rfl 23 (by decide) (hts (.fieldLink RX8 66 "ShotBoardModel" "canGo" "[Z") (by decide +kernel)) (.ref (a 18)) rfl dX8_plans_197 ?_
              refine z_bipush hx hb dX8_plans_200 (by decide +kernel) ?_
              refine z_zald hx hb hK hP 18 (xu 18) rfl (by omega) (by omega) (by omega) dX8_plans_202 ?_
              exact K _ (xu) _ _ _ _ hP hS (by
      refine ⟨x10, ⟨m2.1, m2.2.1, m2.2.2.1, m2.2.2.2.1, fun b a1 a2 => by omega⟩, fun z9 => ?_⟩
      first
        | exact (by rw [show st 0 3 = bc by omega] : PLR st se (st 0 3) xu = PLR st se bc xu) ▸ m2
        | exact absurd (b2_1 (x10.symm.trans z9)) hnc) dX8_plans_203
            · skip
              refine lv_aload_n hx hb dX8_plans_134 rfl (lv_at hl 2 rfl) ?_
              refine z_get (C := RX8) (T := TX8) (N := 26) (ci := 7) hx hb hts iX8 hown hK hP 0 rfl rfl 23 (by decide) (hts (.fieldLink RX8 66 "ShotBoardModel" "canGo" "[Z") (by decide +kernel)) (.ref (a 18)) rfl dX8_plans_135 ?_
              refine z_bipush hx hb dX8_plans_138 (by decide +kernel) ?_
              refine z_zald hx hb hK hP 18 (xu 18) rfl (by omega) (by omega) (by omega) dX8_plans_140 ?_
              refine z_if_eq (tgt := 196) hx hb (by omega) dX8_plans_141 (by decide) (fun c3 => ?_) (fun c3 => ?_)
              · skip
                have hnc : ¬ CGM st se (st 0 3).toNat 10 := b2_0 (by rw [← x10]; exact c3)
                refine lv_aload_n hx hb dX8_plans_196 rfl (lv_at hl 2 rfl) ?_
                refine z_get (C := RX8) (T := TX8) (N := 26) (ci := 7) hx hb hts iX8 hown hK hP 0 rfl rfl 23 (by decide) (hts (.fieldLink RX8 66 "ShotBoardModel" "canGo" "[Z") (by decide +kernel)) (.ref (a 18)) rfl dX8_plans_197 ?_
                refine z_bipush hx hb dX8_plans_200 (by decide +kernel) ?_
                refine z_zald hx hb hK hP 18 (xu 18) rfl (by omega) (by omega) (by omega) dX8_plans_202 ?_
                exact K _ (xu) _ _ _ _ hP hS (by
      refine ⟨x10, ⟨m2.1, m2.2.1, m2.2.2.1, m2.2.2.2.1, fun b a1 a2 => by omega⟩, fun z9 => ?_⟩
      first
        | exact (by rw [show st 0 3 = bc by omega] : PLR st se (st 0 3) xu = PLR st se bc xu) ▸ m2
        | exact absurd (b2_1 (x10.symm.trans z9)) hnc) dX8_plans_203
              · skip
                have hcg : CGM st se (st 0 3).toNat 10 := b2_n0 (by rw [← x10]; exact c3)
                have hm3 := m3 hcg
                have hrm := RM_ok (by omega) (by omega) hm3.2
                refine z_iconst hx hb dX8_plans_144 ?_
                refine lv_istore (lv' := [(4, .int (iZ (0))), (3, .int (iZ (bc))), (2, .int (iZ (lb))), (0, .ref (a 0)), (1, .int (iZ (se)))]) hx hb dX8_plans_145 hl (by decide) rfl (fun ls hl => ?_)
                have LP147 : ∀ (n147 : Nat) (cq : Int), (st 0 2 - cq) < (n147 : Int) → (0 ≤ cq ∧ cq ≤ RM st se bc lb) → ∀ (ls : Array Slot), lv_has ls 5 [(4, .int (iZ (cq))), (3, .int (iZ (bc))), (2, .int (iZ (lb))), (0, .ref (a 0)), (1, .int (iZ (se)))] → W p l e R s m args below meth c H locs 0 0 Q (F0 m 147 ls []) := by
                  intro n147
                  induction n147 with
                  | zero =>
                    intro cq hm147 n1  ls hl
                    exact absurd hm147 (by omega)
                  | succ n147 ih147 =>
                    intro cq hm147 n1  ls hl
                    refine lv_aload_n hx hb dX8_plans_147 rfl (lv_at hl 3 rfl) ?_
                    refine lv_iload_n hx hb dX8_plans_148 rfl (lv_at hl 1 rfl) ?_
                    refine lv_iload_n hx hb dX8_plans_149 rfl (lv_at hl 2 rfl) ?_
                    refine lv_iload hx hb dX8_plans_150 (lv_at hl 0 rfl) ?_
                    refine lv_iload_n hx hb dX8_plans_152 rfl (lv_at hl 4 rfl) ?_
                    refine z_cVR (q0 := 0) (ci := 7) (As := [.int (iZ (bc)), .int (iZ (lb)), .int (iZ (cq)), .int (iZ (se))]) (rest := []) S (m_X8_goes l D g a (xu) (bc) (lb) (cq) (se) (m2.im hI) (m2.is hQ) (by omega) (by omega) (by omega) (by omega)) (cwV 4 hts gX8_plans_X8_goes rfl rfl rfl (by decide +kernel) ⟨Nat.le_trans (by decide) hRf, Nat.le_trans (by decide) hRl⟩) hK hP rfl rfl rfl hl.1 rfl (Nat.le_of_ble_eq_true rfl) dX8_plans_153 ⟨Nat.zero_le _, Nat.zero_le _⟩ ?_
                    refine z_if_ne (tgt := 165) hx hb (b2_rg _) dX8_plans_156 (by decide) (fun c4 => ?_) (fun c4 => ?_)
                    · skip
                      have c4 := b2_n0 c4
                      have hgo : GOx st se bc lb cq := (GOES_iff2 m2 (by omega) (by omega) (by omega)).mp c4
                      have hcr : cq = RM st se bc lb := by rcases Int.lt_or_le cq (RM st se bc lb) with q9 | q9 <;> first | exact absurd hgo (hrm.2.2 cq (by omega) q9) | omega
                      refine lv_aload_n hx hb dX8_plans_165 rfl (lv_at hl 3 rfl) ?_
                      refine z_get (C := RX8) (T := TX8) (N := 26) (ci := 7) hx hb hts iX8 hown hK hP 0 rfl rfl 24 (by decide) (hts (.fieldLink RX8 69 "ShotBoardModel" "row" "[I") (by decide +kernel)) (.ref (a 19)) rfl dX8_plans_166 ?_
                      refine lv_iload_n hx hb dX8_plans_169 rfl (lv_at hl 1 rfl) ?_
                      refine lv_iload hx hb dX8_plans_170 (lv_at hl 0 rfl) ?_
                      refine z_iast hx hb hK hP hD hS 19 (xu 19) rfl (by omega) (by omega) (by omega) (WM g a (up (xu) 19 (bc) (cq))) rfl dX8_plans_172 (fun H locs hP hD hS => ?_)
                      have hk9 := hI.bd bc (by omega) (by omega)
                      have x9b := congrFun x09 bc
                      refine lv_aload_n hx hb dX8_plans_173 rfl (lv_at hl 3 rfl) ?_
                      refine z_get (C := RX8) (T := TX8) (N := 26) (ci := 7) hx hb hts iX8 hown hK hP 0 rfl rfl 12 (by decide) (hts (.fieldLink RX8 34 "ShotBoardModel" "kind" "[I") (by decide +kernel)) (.ref (a 9)) rfl dX8_plans_174 ?_
                      refine lv_iload_n hx hb dX8_plans_177 rfl (lv_at hl 1 rfl) ?_
                      refine z_iald hx hb hK hP 9 ((up (xu) 19 (bc) (cq)) 9) rfl (by omega) (by omega) (by omega) dX8_plans_178 ?_
                      refine z_as (y := xu 9 (bc)) (by simp [up, uf]) ?_
                      refine z_iconst hx hb dX8_plans_179 ?_
                      refine z_icmp_ne (tgt := 188) hx hb (by omega) (by decide) dX8_plans_180 (by decide) (fun c5 => ?_) (fun c5 => ?_)
                      · skip
                        have hnl : nla st bc lb cq = lb := if_neg (by rw [← x09]; exact c5)
                        have hnext : lb = LM st se (bc + 1).toNat ∧ CGM st se (st 0 3 - (bc + 1)).toNat lb := ⟨by rw [show (bc + 1).toNat = bc.toNat + 1 by omega, LM, Int.toNat_of_nonneg (by omega), ← hm3.1, ← hcr, hnl], by have q9 := hgo.2; rwa [hnl] at q9⟩
                        refine lv_iload_n hx hb dX8_plans_188 rfl (lv_at hl 2 rfl) ?_
                        refine lv_istore_n (lv' := [(2, .int (iZ (lb))), (4, .int (iZ (cq))), (3, .int (iZ (bc))), (0, .ref (a 0)), (1, .int (iZ (se)))]) hx hb dX8_plans_189 rfl hl (by decide) rfl (fun ls hl => ?_)
                        refine z_iinc (lv' := [(3, .int (iZ ((bc) + 1))), (2, .int (iZ (lb))), (4, .int (iZ (cq))), (0, .ref (a 0)), (1, .int (iZ (se)))]) hx hb dX8_plans_190 hl (k := 2) rfl (by decide) rfl (fun ls hl => ?_)
                        refine lv_goto (tgt := 126) hx hb dX8_plans_193 (by decide) ?_
                        exact ih126 (lb) ((bc) + 1) (up (xu) 19 (bc) (cq)) (by omega) (by omega) (PLR_step m2 (by omega) (by rw [hcr, hm3.1]) (by omega)) (fun _ => hnext) (by omega) _ _ hP hD hS ls (lv_sub hl [0, 1, 3, 4] rfl)
                      · skip
                        have hnl : nla st bc lb cq = cq := if_pos (by rw [← x09]; exact c5)
                        have hnext : cq = LM st se (bc + 1).toNat ∧ CGM st se (st 0 3 - (bc + 1)).toNat cq := ⟨by rw [show (bc + 1).toNat = bc.toNat + 1 by omega, LM, Int.toNat_of_nonneg (by omega), ← hm3.1, ← hcr, hnl], by have q9 := hgo.2; rwa [hnl] at q9⟩
                        refine lv_iload hx hb dX8_plans_183 (lv_at hl 0 rfl) ?_
                        refine lv_goto (tgt := 189) hx hb dX8_plans_185 (by decide) ?_
                        refine lv_istore_n (lv' := [(2, .int (iZ (cq))), (4, .int (iZ (cq))), (3, .int (iZ (bc))), (0, .ref (a 0)), (1, .int (iZ (se)))]) hx hb dX8_plans_189 rfl hl (by decide) rfl (fun ls hl => ?_)
                        refine z_iinc (lv' := [(3, .int (iZ ((bc) + 1))), (2, .int (iZ (cq))), (4, .int (iZ (cq))), (0, .ref (a 0)), (1, .int (iZ (se)))]) hx hb dX8_plans_190 hl (k := 2) rfl (by decide) rfl (fun ls hl => ?_)
                        refine lv_goto (tgt := 126) hx hb dX8_plans_193 (by decide) ?_
                        exact ih126 (cq) ((bc) + 1) (up (xu) 19 (bc) (cq)) (by omega) (by omega) (PLR_step m2 (by omega) (by rw [hcr, hm3.1]) (by omega)) (fun _ => hnext) (by omega) _ _ hP hD hS ls (lv_sub hl [0, 1, 3, 4] rfl)
                    · skip
                      have c4 := b2_0 c4
                      have hng : ¬ GOx st se bc lb cq := fun z => c4 ((GOES_iff2 m2 (by omega) (by omega) (by omega)).mpr z)
                      refine z_iinc (lv' := [(4, .int (iZ ((cq) + 1))), (3, .int (iZ (bc))), (2, .int (iZ (lb))), (0, .ref (a 0)), (1, .int (iZ (se)))]) hx hb dX8_plans_159 hl (k := 0) rfl (by decide) rfl (fun ls hl => ?_)
                      refine lv_goto (tgt := 147) hx hb dX8_plans_162 (by decide) ?_
                      have hne9 : cq ≠ RM st se bc lb := fun e9 => hng (by rw [e9]; exact hrm.2.1)
                      exact ih147 ((cq) + 1) (by omega) (by omega)  ls (lv_sub hl [0, 1, 2, 3, 4] rfl)
                exact LP147 ((st 0 2 - (0)) + 1 : Int).toNat (0) (by omega) (by omega)  ls (lv_sub hl [0, 1, 2, 3, 4] rfl)
        exact LP126 ((st 0 3 - (0)) + 1 : Int).toNat (10) (0) (uu) (by omega) (by omega) (PLR_init j2 (by omega) hQ) (fun z => ⟨rfl, by simpa using z⟩) (by omega) _ _ hP hD hS ls (lv_sub hl [0, 1, 2, 3] rfl)
      · skip
        refine z_iconst hx hb dX8_plans_9 ?_
        refine lv_istore_n (lv' := [(3, .int (iZ (0))), (2, .int (iZ (bb))), (0, .ref (a 0)), (1, .int (iZ (se)))]) hx hb dX8_plans_10 rfl hl (by decide) rfl (fun ls hl => ?_)
        have LP11 : ∀ (n11 : Nat) (la : Int) (vv : SS), (11 - la) < (n11 : Int) → (0 ≤ la ∧ la ≤ 11) → (PLI st se bb la vv) → ∀ (H : Heap) (locs : List Loc), va_P D vwCl (WM g a vv) H → va_D (AWM a) (WM g a vv) → va_S (AWM a) s.heap H locs → ∀ (ls : Array Slot), lv_has ls 5 [(3, .int (iZ (la))), (2, .int (iZ (bb))), (0, .ref (a 0)), (1, .int (iZ (se)))] → W p l e R s m args below meth c H locs 0 0 Q (F0 m 11 ls []) := by
          intro n11
          induction n11 with
          | zero =>
            intro la vv hm11 k1 k2 H locs hP hD hS ls hl
            exact absurd hm11 (by omega)
          | succ n11 ih11 =>
            intro la vv hm11 k1 k2 H locs hP hD hS ls hl
            have e0 : vv 0 = st 0 := k2.1 0 (by decide)
            have e03 := congrFun e0 3
            refine lv_iload_n hx hb dX8_plans_11 rfl (lv_at hl 0 rfl) ?_
            refine z_bipush hx hb dX8_plans_12 (by decide +kernel) ?_
            refine z_icmp_gt (tgt := 115) hx hb (by omega) (by decide) dX8_plans_14 (by decide) (fun c6 => ?_) (fun c6 => ?_)
            · skip
              refine z_iinc (lv' := [(2, .int (iZ ((bb) + (-1)))), (3, .int (iZ (la))), (0, .ref (a 0)), (1, .int (iZ (se)))]) hx hb dX8_plans_115 hl (k := 1) rfl (by decide) rfl (fun ls hl => ?_)
              refine lv_goto (tgt := 5) hx hb dX8_plans_118 (by decide) ?_
              exact ih5 ((bb) + (-1)) (vv) (by omega) (by omega) (PLI_next k2 (by omega)) _ _ hP hD hS ls (lv_sub hl [0, 2, 3] rfl)
            · skip
              refine lv_aload_n hx hb dX8_plans_17 rfl (lv_at hl 2 rfl) ?_
              refine z_get (C := RX8) (T := TX8) (N := 26) (ci := 7) hx hb hts iX8 hown hK hP 0 rfl rfl 23 (by decide) (hts (.fieldLink RX8 66 "ShotBoardModel" "canGo" "[Z") (by decide +kernel)) (.ref (a 18)) rfl dX8_plans_18 ?_
              refine z_bipush hx hb dX8_plans_21 (by decide +kernel) ?_
              refine lv_iload_n hx hb dX8_plans_23 rfl (lv_at hl 1 rfl) ?_
              refine z_imul hx hb dX8_plans_24 ?_
              refine lv_iload_n hx hb dX8_plans_25 rfl (lv_at hl 0 rfl) ?_
              refine z_iadd hx hb dX8_plans_26 ?_
              refine lv_iload_n hx hb dX8_plans_27 rfl (lv_at hl 1 rfl) ?_
              refine lv_aload_n hx hb dX8_plans_28 rfl (lv_at hl 2 rfl) ?_
              refine z_get (C := RX8) (T := TX8) (N := 26) (ci := 7) hx hb hts iX8 hown hK hP 0 rfl rfl 11 (by decide) (hts (.fieldLink RX8 82 "ShotBoardModel" "boards" "I") (by decide +kernel)) (.int (iZ (vv 0 (3)))) rfl dX8_plans_29 ?_
              refine z_icmp_ne (tgt := 39) hx hb (by omega) (by omega) dX8_plans_32 (by decide) (fun c7 => ?_) (fun c7 => ?_)
              · skip
                have hini : (0 : Int) = b2 (bb = st 0 3) := (b2_f (fun z => c7 (by omega))).symm
                refine z_iconst hx hb dX8_plans_39 ?_
                refine z_zast hx hb hK hP hD hS 18 (vv 18) rfl (by omega) (by omega) (by omega) (by omega) (WM g a (up (vv) 18 (((11) * (bb)) + (la)) (0))) rfl dX8_plans_40 (fun H locs hP hD hS => ?_)
                refine z_iconst hx hb dX8_plans_41 ?_
                refine lv_istore (lv' := [(4, .int (iZ (0))), (3, .int (iZ (la))), (2, .int (iZ (bb))), (0, .ref (a 0)), (1, .int (iZ (se)))]) hx hb dX8_plans_42 hl (by decide) rfl (fun ls hl => ?_)
                have LP44 : ∀ (n44 : Nat) (cm : Int) (wu : SS), (st 0 2 - cm) < (n44 : Int) → (0 ≤ cm ∧ cm ≤ st 0 2) → (PLJ st se bb la cm wu) → ∀ (H : Heap) (locs : List Loc), va_P D vwCl (WM g a wu) H → va_D (AWM a) (WM g a wu) → va_S (AWM a) s.heap H locs → ∀ (ls : Array Slot), lv_has ls 5 [(4, .int (iZ (cm))), (3, .int (iZ (la))), (2, .int (iZ (bb))), (0, .ref (a 0)), (1, .int (iZ (se)))] → W p l e R s m args below meth c H locs 0 0 Q (F0 m 44 ls []) := by
                  intro n44
                  induction n44 with
                  | zero =>
                    intro cm wu hm44 l1 l2 H locs hP hD hS ls hl
                    exact absurd hm44 (by omega)
                  | succ n44 ih44 =>
                    intro cm wu hm44 l1 l2 H locs hP hD hS ls hl
                    have d0 : wu 0 = st 0 := l2.1.1 0 (by decide)
                    have d03 := congrFun d0 3
                    have d02 := congrFun d0 2
                    have d18 := l2.1.2.1 (11 * bb + la) (by omega) (by omega)
                    refine lv_iload hx hb dX8_plans_44 (lv_at hl 0 rfl) ?_
                    refine lv_aload_n hx hb dX8_plans_46 rfl (lv_at hl 3 rfl) ?_
                    refine z_get (C := RX8) (T := TX8) (N := 26) (ci := 7) hx hb hts iX8 hown hK hP 0 rfl rfl 8 (by decide) (hts (.fieldLink RX8 79 "ShotBoardModel" "cameras" "I") (by decide +kernel)) (.int (iZ (wu 0 (2)))) rfl dX8_plans_47 ?_
                    refine z_icmp_ge (tgt := 109) hx hb (by omega) (by omega) dX8_plans_50 (by decide) (fun c8 => ?_) (fun c8 => ?_)
                    · skip
                      refine z_iinc (lv' := [(3, .int (iZ ((la) + 1))), (4, .int (iZ (cm))), (2, .int (iZ (bb))), (0, .ref (a 0)), (1, .int (iZ (se)))]) hx hb dX8_plans_109 hl (k := 1) rfl (by decide) rfl (fun ls hl => ?_)
                      refine lv_goto (tgt := 11) hx hb dX8_plans_112 (by decide) ?_
                      exact ih11 ((la) + 1) (wu) (by omega) (by omega) (PLJ_done l2 (by omega) (by omega) (by omega)) _ _ hP hD hS ls (lv_sub hl [0, 2, 3, 4] rfl)
                    · skip
                      refine lv_iload_n hx hb dX8_plans_53 rfl (lv_at hl 2 rfl) ?_
                      refine lv_aload_n hx hb dX8_plans_54 rfl (lv_at hl 3 rfl) ?_
                      refine z_get (C := RX8) (T := TX8) (N := 26) (ci := 7) hx hb hts iX8 hown hK hP 0 rfl rfl 11 (by decide) (hts (.fieldLink RX8 82 "ShotBoardModel" "boards" "I") (by decide +kernel)) (.int (iZ (wu 0 (3)))) rfl dX8_plans_55 ?_
                      refine z_icmp_ge (tgt := 109) hx hb (by omega) (by omega) dX8_plans_58 (by decide) (fun c9 => ?_) (fun c9 => ?_)
                      · skip
                        refine z_iinc (lv' := [(3, .int (iZ ((la) + 1))), (4, .int (iZ (cm))), (2, .int (iZ (bb))), (0, .ref (a 0)), (1, .int (iZ (se)))]) hx hb dX8_plans_109 hl (k := 1) rfl (by decide) rfl (fun ls hl => ?_)
                        refine lv_goto (tgt := 11) hx hb dX8_plans_112 (by decide) ?_
                        exact ih11 ((la) + 1) (wu) (by omega) (by omega) (PLJ_done l2 (by omega) (by omega) (by omega)) _ _ hP hD hS ls (lv_sub hl [0, 2, 3, 4] rfl)
                      · skip
                        refine lv_aload_n hx hb dX8_plans_61 rfl (lv_at hl 3 rfl) ?_
                        refine z_get (C := RX8) (T := TX8) (N := 26) (ci := 7) hx hb hts iX8 hown hK hP 0 rfl rfl 23 (by decide) (hts (.fieldLink RX8 66 "ShotBoardModel" "canGo" "[Z") (by decide +kernel)) (.ref (a 18)) rfl dX8_plans_62 ?_
                        refine z_bipush hx hb dX8_plans_65 (by decide +kernel) ?_
                        refine lv_iload_n hx hb dX8_plans_67 rfl (lv_at hl 2 rfl) ?_
                        refine z_imul hx hb dX8_plans_68 ?_
                        refine lv_iload_n hx hb dX8_plans_69 rfl (lv_at hl 1 rfl) ?_
                        refine z_iadd hx hb dX8_plans_70 ?_
                        refine lv_aload_n hx hb dX8_plans_71 rfl (lv_at hl 3 rfl) ?_
                        refine z_get (C := RX8) (T := TX8) (N := 26) (ci := 7) hx hb hts iX8 hown hK hP 0 rfl rfl 23 (by decide) (hts (.fieldLink RX8 66 "ShotBoardModel" "canGo" "[Z") (by decide +kernel)) (.ref (a 18)) rfl dX8_plans_72 ?_
                        refine z_bipush hx hb dX8_plans_75 (by decide +kernel) ?_
                        refine lv_iload_n hx hb dX8_plans_77 rfl (lv_at hl 2 rfl) ?_
                        refine z_imul hx hb dX8_plans_78 ?_
                        refine lv_iload_n hx hb dX8_plans_79 rfl (lv_at hl 1 rfl) ?_
                        refine z_iadd hx hb dX8_plans_80 ?_
                        refine z_zald hx hb hK hP 18 (wu 18) rfl (by omega) (by omega) (by omega) dX8_plans_81 ?_
                        refine z_if_ne (tgt := 97) hx hb (by omega) dX8_plans_82 (by decide) (fun c10 => ?_) (fun c10 => ?_)
                        · skip
                          have hst : (1 : Int) = b2 (wu 18 (11 * bb + la) = 1 ∨ GOx st se bb la cm) := (b2_t (Or.inl (by omega))).symm
                          refine z_iconst hx hb dX8_plans_97 ?_
                          refine lv_goto (tgt := 102) hx hb dX8_plans_98 (by decide) ?_
                          refine z_zast hx hb hK hP hD hS 18 (wu 18) rfl (by omega) (by omega) (by omega) (by omega) (WM g a (up (wu) 18 (((11) * (bb)) + (la)) (1))) rfl dX8_plans_102 (fun H locs hP hD hS => ?_)
                          refine z_iinc (lv' := [(4, .int (iZ ((cm) + 1))), (3, .int (iZ (la))), (2, .int (iZ (bb))), (0, .ref (a 0)), (1, .int (iZ (se)))]) hx hb dX8_plans_103 hl (k := 0) rfl (by decide) rfl (fun ls hl => ?_)
                          refine lv_goto (tgt := 44) hx hb dX8_plans_106 (by decide) ?_
                          exact ih44 ((cm) + 1) (up (wu) 18 (((11) * (bb)) + (la)) (1)) (by omega) (by omega) (PLJ_step l2 (by omega) (by omega) (by omega) hst) _ _ hP hD hS ls (lv_sub hl [0, 1, 2, 3, 4] rfl)
                        · skip
                          refine lv_aload_n hx hb dX8_plans_85 rfl (lv_at hl 3 rfl) ?_
                          refine lv_iload_n hx hb dX8_plans_86 rfl (lv_at hl 2 rfl) ?_
                          refine lv_iload_n hx hb dX8_plans_87 rfl (lv_at hl 1 rfl) ?_
                          refine lv_iload hx hb dX8_plans_88 (lv_at hl 0 rfl) ?_
                          refine lv_iload_n hx hb dX8_plans_90 rfl (lv_at hl 4 rfl) ?_
                          refine z_cVR (q0 := 0) (ci := 7) (As := [.int (iZ (bb)), .int (iZ (la)), .int (iZ (cm)), .int (iZ (se))]) (rest := [.int (iZ (((11) * (bb)) + (la))), .ref (a 18)]) S (m_X8_goes l D g a (wu) (bb) (la) (cm) (se) (l2.1.im hI) (l2.1.is hQ) (by omega) (by omega) (by omega) (by omega)) (cwV 4 hts gX8_plans_X8_goes rfl rfl rfl (by decide +kernel) ⟨Nat.le_trans (by decide) hRf, Nat.le_trans (by decide) hRl⟩) hK hP rfl rfl rfl hl.1 rfl (Nat.le_of_ble_eq_true rfl) dX8_plans_91 ⟨Nat.zero_le _, Nat.zero_le _⟩ ?_
                          refine z_if_eq (tgt := 101) hx hb (b2_rg _) dX8_plans_94 (by decide) (fun c11 => ?_) (fun c11 => ?_)
                          · skip
                            have c11 := b2_0 c11
                            have hst : (0 : Int) = b2 (wu 18 (11 * bb + la) = 1 ∨ GOx st se bb la cm) := (b2_f (fun z => z.elim (fun q => by omega) (fun q => c11 ((GOES_iff l2.1 (by omega) (by omega) (by omega)).mpr q)))).symm
                            refine z_iconst hx hb dX8_plans_101 ?_
                            refine z_zast hx hb hK hP hD hS 18 (wu 18) rfl (by omega) (by omega) (by omega) (by omega) (WM g a (up (wu) 18 (((11) * (bb)) + (la)) (0))) rfl dX8_plans_102 (fun H locs hP hD hS => ?_)
                            refine z_iinc (lv' := [(4, .int (iZ ((cm) + 1))), (3, .int (iZ (la))), (2, .int (iZ (bb))), (0, .ref (a 0)), (1, .int (iZ (se)))]) hx hb dX8_plans_103 hl (k := 0) rfl (by decide) rfl (fun ls hl => ?_)
                            refine lv_goto (tgt := 44) hx hb dX8_plans_106 (by decide) ?_
                            exact ih44 ((cm) + 1) (up (wu) 18 (((11) * (bb)) + (la)) (0)) (by omega) (by omega) (PLJ_step l2 (by omega) (by omega) (by omega) hst) _ _ hP hD hS ls (lv_sub hl [0, 1, 2, 3, 4] rfl)
                          · skip
                            have c11 := b2_n0 c11
                            have hst : (1 : Int) = b2 (wu 18 (11 * bb + la) = 1 ∨ GOx st se bb la cm) := (b2_t (Or.inr ((GOES_iff l2.1 (by omega) (by omega) (by omega)).mp c11))).symm
                            refine z_iconst hx hb dX8_plans_97 ?_
                            refine lv_goto (tgt := 102) hx hb dX8_plans_98 (by decide) ?_
                            refine z_zast hx hb hK hP hD hS 18 (wu 18) rfl (by omega) (by omega) (by omega) (by omega) (WM g a (up (wu) 18 (((11) * (bb)) + (la)) (1))) rfl dX8_plans_102 (fun H locs hP hD hS => ?_)
                            refine z_iinc (lv' := [(4, .int (iZ ((cm) + 1))), (3, .int (iZ (la))), (2, .int (iZ (bb))), (0, .ref (a 0)), (1, .int (iZ (se)))]) hx hb dX8_plans_103 hl (k := 0) rfl (by decide) rfl (fun ls hl => ?_)
                            refine lv_goto (tgt := 44) hx hb dX8_plans_106 (by decide) ?_
                            exact ih44 ((cm) + 1) (up (wu) 18 (((11) * (bb)) + (la)) (1)) (by omega) (by omega) (PLJ_step l2 (by omega) (by omega) (by omega) hst) _ _ hP hD hS ls (lv_sub hl [0, 1, 2, 3, 4] rfl)
                exact LP44 ((st 0 2 - (0)) + 1 : Int).toNat (0) (up (vv) 18 (((11) * (bb)) + (la)) (0)) (by omega) (by omega) (PLJ_init k2 (by omega) (by omega) hini) _ _ hP hD hS ls (lv_sub hl [0, 1, 2, 3, 4] rfl)
              · skip
                have hini : (1 : Int) = b2 (bb = st 0 3) := (b2_t (by omega)).symm
                refine z_iconst hx hb dX8_plans_35 ?_
                refine lv_goto (tgt := 40) hx hb dX8_plans_36 (by decide) ?_
                refine z_zast hx hb hK hP hD hS 18 (vv 18) rfl (by omega) (by omega) (by omega) (by omega) (WM g a (up (vv) 18 (((11) * (bb)) + (la)) (1))) rfl dX8_plans_40 (fun H locs hP hD hS => ?_)
                refine z_iconst hx hb dX8_plans_41 ?_
                refine lv_istore (lv' := [(4, .int (iZ (0))), (3, .int (iZ (la))), (2, .int (iZ (bb))), (0, .ref (a 0)), (1, .int (iZ (se)))]) hx hb dX8_plans_42 hl (by decide) rfl (fun ls hl => ?_)
                have LP44 : ∀ (n44 : Nat) (cm : Int) (wu : SS), (st 0 2 - cm) < (n44 : Int) → (0 ≤ cm ∧ cm ≤ st 0 2) → (PLJ st se bb la cm wu) → ∀ (H : Heap) (locs : List Loc), va_P D vwCl (WM g a wu) H → va_D (AWM a) (WM g a wu) → va_S (AWM a) s.heap H locs → ∀ (ls : Array Slot), lv_has ls 5 [(4, .int (iZ (cm))), (3, .int (iZ (la))), (2, .int (iZ (bb))), (0, .ref (a 0)), (1, .int (iZ (se)))] → W p l e R s m args below meth c H locs 0 0 Q (F0 m 44 ls []) := by
                  intro n44
                  induction n44 with
                  | zero =>
                    intro cm wu hm44 l1 l2 H locs hP hD hS ls hl
                    exact absurd hm44 (by omega)
                  | succ n44 ih44 =>
                    intro cm wu hm44 l1 l2 H locs hP hD hS ls hl
                    have d0 : wu 0 = st 0 := l2.1.1 0 (by decide)
                    have d03 := congrFun d0 3
                    have d02 := congrFun d0 2
                    have d18 := l2.1.2.1 (11 * bb + la) (by omega) (by omega)
                    refine lv_iload hx hb dX8_plans_44 (lv_at hl 0 rfl) ?_
                    refine lv_aload_n hx hb dX8_plans_46 rfl (lv_at hl 3 rfl) ?_
                    refine z_get (C := RX8) (T := TX8) (N := 26) (ci := 7) hx hb hts iX8 hown hK hP 0 rfl rfl 8 (by decide) (hts (.fieldLink RX8 79 "ShotBoardModel" "cameras" "I") (by decide +kernel)) (.int (iZ (wu 0 (2)))) rfl dX8_plans_47 ?_
                    refine z_icmp_ge (tgt := 109) hx hb (by omega) (by omega) dX8_plans_50 (by decide) (fun c12 => ?_) (fun c12 => ?_)
                    · skip
                      refine z_iinc (lv' := [(3, .int (iZ ((la) + 1))), (4, .int (iZ (cm))), (2, .int (iZ (bb))), (0, .ref (a 0)), (1, .int (iZ (se)))]) hx hb dX8_plans_109 hl (k := 1) rfl (by decide) rfl (fun ls hl => ?_)
                      refine lv_goto (tgt := 11) hx hb dX8_plans_112 (by decide) ?_
                      exact ih11 ((la) + 1) (wu) (by omega) (by omega) (PLJ_done l2 (by omega) (by omega) (by omega)) _ _ hP hD hS ls (lv_sub hl [0, 2, 3, 4] rfl)
                    · skip
                      refine lv_iload_n hx hb dX8_plans_53 rfl (lv_at hl 2 rfl) ?_
                      refine lv_aload_n hx hb dX8_plans_54 rfl (lv_at hl 3 rfl) ?_
                      refine z_get (C := RX8) (T := TX8) (N := 26) (ci := 7) hx hb hts iX8 hown hK hP 0 rfl rfl 11 (by decide) (hts (.fieldLink RX8 82 "ShotBoardModel" "boards" "I") (by decide +kernel)) (.int (iZ (wu 0 (3)))) rfl dX8_plans_55 ?_
                      refine z_icmp_ge (tgt := 109) hx hb (by omega) (by omega) dX8_plans_58 (by decide) (fun c13 => ?_) (fun c13 => ?_)
                      · skip
                        refine z_iinc (lv' := [(3, .int (iZ ((la) + 1))), (4, .int (iZ (cm))), (2, .int (iZ (bb))), (0, .ref (a 0)), (1, .int (iZ (se)))]) hx hb dX8_plans_109 hl (k := 1) rfl (by decide) rfl (fun ls hl => ?_)
                        refine lv_goto (tgt := 11) hx hb dX8_plans_112 (by decide) ?_
                        exact ih11 ((la) + 1) (wu) (by omega) (by omega) (PLJ_done l2 (by omega) (by omega) (by omega)) _ _ hP hD hS ls (lv_sub hl [0, 2, 3, 4] rfl)
                      · skip
                        refine lv_aload_n hx hb dX8_plans_61 rfl (lv_at hl 3 rfl) ?_
                        refine z_get (C := RX8) (T := TX8) (N := 26) (ci := 7) hx hb hts iX8 hown hK hP 0 rfl rfl 23 (by decide) (hts (.fieldLink RX8 66 "ShotBoardModel" "canGo" "[Z") (by decide +kernel)) (.ref (a 18)) rfl dX8_plans_62 ?_
                        refine z_bipush hx hb dX8_plans_65 (by decide +kernel) ?_
                        refine lv_iload_n hx hb dX8_plans_67 rfl (lv_at hl 2 rfl) ?_
                        refine z_imul hx hb dX8_plans_68 ?_
                        refine lv_iload_n hx hb dX8_plans_69 rfl (lv_at hl 1 rfl) ?_
                        refine z_iadd hx hb dX8_plans_70 ?_
                        refine lv_aload_n hx hb dX8_plans_71 rfl (lv_at hl 3 rfl) ?_
                        refine z_get (C := RX8) (T := TX8) (N := 26) (ci := 7) hx hb hts iX8 hown hK hP 0 rfl rfl 23 (by decide) (hts (.fieldLink RX8 66 "ShotBoardModel" "canGo" "[Z") (by decide +kernel)) (.ref (a 18)) rfl dX8_plans_72 ?_
                        refine z_bipush hx hb dX8_plans_75 (by decide +kernel) ?_
                        refine lv_iload_n hx hb dX8_plans_77 rfl (lv_at hl 2 rfl) ?_
                        refine z_imul hx hb dX8_plans_78 ?_
                        refine lv_iload_n hx hb dX8_plans_79 rfl (lv_at hl 1 rfl) ?_
                        refine z_iadd hx hb dX8_plans_80 ?_
                        refine z_zald hx hb hK hP 18 (wu 18) rfl (by omega) (by omega) (by omega) dX8_plans_81 ?_
                        refine z_if_ne (tgt := 97) hx hb (by omega) dX8_plans_82 (by decide) (fun c14 => ?_) (fun c14 => ?_)
                        · skip
                          have hst : (1 : Int) = b2 (wu 18 (11 * bb + la) = 1 ∨ GOx st se bb la cm) := (b2_t (Or.inl (by omega))).symm
                          refine z_iconst hx hb dX8_plans_97 ?_
                          refine lv_goto (tgt := 102) hx hb dX8_plans_98 (by decide) ?_
                          refine z_zast hx hb hK hP hD hS 18 (wu 18) rfl (by omega) (by omega) (by omega) (by omega) (WM g a (up (wu) 18 (((11) * (bb)) + (la)) (1))) rfl dX8_plans_102 (fun H locs hP hD hS => ?_)
                          refine z_iinc (lv' := [(4, .int (iZ ((cm) + 1))), (3, .int (iZ (la))), (2, .int (iZ (bb))), (0, .ref (a 0)), (1, .int (iZ (se)))]) hx hb dX8_plans_103 hl (k := 0) rfl (by decide) rfl (fun ls hl => ?_)
                          refine lv_goto (tgt := 44) hx hb dX8_plans_106 (by decide) ?_
                          exact ih44 ((cm) + 1) (up (wu) 18 (((11) * (bb)) + (la)) (1)) (by omega) (by omega) (PLJ_step l2 (by omega) (by omega) (by omega) hst) _ _ hP hD hS ls (lv_sub hl [0, 1, 2, 3, 4] rfl)
                        · skip
                          refine lv_aload_n hx hb dX8_plans_85 rfl (lv_at hl 3 rfl) ?_
                          refine lv_iload_n hx hb dX8_plans_86 rfl (lv_at hl 2 rfl) ?_
                          refine lv_iload_n hx hb dX8_plans_87 rfl (lv_at hl 1 rfl) ?_
                          refine lv_iload hx hb dX8_plans_88 (lv_at hl 0 rfl) ?_
                          refine lv_iload_n hx hb dX8_plans_90 rfl (lv_at hl 4 rfl) ?_
                          refine z_cVR (q0 := 0) (ci := 7) (As := [.int (iZ (bb)), .int (iZ (la)), .int (iZ (cm)), .int (iZ (se))]) (rest := [.int (iZ (((11) * (bb)) + (la))), .ref (a 18)]) S (m_X8_goes l D g a (wu) (bb) (la) (cm) (se) (l2.1.im hI) (l2.1.is hQ) (by omega) (by omega) (by omega) (by omega)) (cwV 4 hts gX8_plans_X8_goes rfl rfl rfl (by decide +kernel) ⟨Nat.le_trans (by decide) hRf, Nat.le_trans (by decide) hRl⟩) hK hP rfl rfl rfl hl.1 rfl (Nat.le_of_ble_eq_true rfl) dX8_plans_91 ⟨Nat.zero_le _, Nat.zero_le _⟩ ?_
                          refine z_if_eq (tgt := 101) hx hb (b2_rg _) dX8_plans_94 (by decide) (fun c15 => ?_) (fun c15 => ?_)
                          · skip
                            have c15 := b2_0 c15
                            have hst : (0 : Int) = b2 (wu 18 (11 * bb + la) = 1 ∨ GOx st se bb la cm) := (b2_f (fun z => z.elim (fun q => by omega) (fun q => c15 ((GOES_iff l2.1 (by omega) (by omega) (by omega)).mpr q)))).symm
                            refine z_iconst hx hb dX8_plans_101 ?_
                            refine z_zast hx hb hK hP hD hS 18 (wu 18) rfl (by omega) (by omega) (by omega) (by omega) (WM g a (up (wu) 18 (((11) * (bb)) + (la)) (0))) rfl dX8_plans_102 (fun H locs hP hD hS => ?_)
                            refine z_iinc (lv' := [(4, .int (iZ ((cm) + 1))), (3, .int (iZ (la))), (2, .int (iZ (bb))), (0, .ref (a 0)), (1, .int (iZ (se)))]) hx hb dX8_plans_103 hl (k := 0) rfl (by decide) rfl (fun ls hl => ?_)
                            refine lv_goto (tgt := 44) hx hb dX8_plans_106 (by decide) ?_
                            exact ih44 ((cm) + 1) (up (wu) 18 (((11) * (bb)) + (la)) (0)) (by omega) (by omega) (PLJ_step l2 (by omega) (by omega) (by omega) hst) _ _ hP hD hS ls (lv_sub hl [0, 1, 2, 3, 4] rfl)
                          · skip
                            have c15 := b2_n0 c15
                            have hst : (1 : Int) = b2 (wu 18 (11 * bb + la) = 1 ∨ GOx st se bb la cm) := (b2_t (Or.inr ((GOES_iff l2.1 (by omega) (by omega) (by omega)).mp c15))).symm
                            refine z_iconst hx hb dX8_plans_97 ?_
                            refine lv_goto (tgt := 102) hx hb dX8_plans_98 (by decide) ?_
                            refine z_zast hx hb hK hP hD hS 18 (wu 18) rfl (by omega) (by omega) (by omega) (by omega) (WM g a (up (wu) 18 (((11) * (bb)) + (la)) (1))) rfl dX8_plans_102 (fun H locs hP hD hS => ?_)
                            refine z_iinc (lv' := [(4, .int (iZ ((cm) + 1))), (3, .int (iZ (la))), (2, .int (iZ (bb))), (0, .ref (a 0)), (1, .int (iZ (se)))]) hx hb dX8_plans_103 hl (k := 0) rfl (by decide) rfl (fun ls hl => ?_)
                            refine lv_goto (tgt := 44) hx hb dX8_plans_106 (by decide) ?_
                            exact ih44 ((cm) + 1) (up (wu) 18 (((11) * (bb)) + (la)) (1)) (by omega) (by omega) (PLJ_step l2 (by omega) (by omega) (by omega) hst) _ _ hP hD hS ls (lv_sub hl [0, 1, 2, 3, 4] rfl)
                exact LP44 ((st 0 2 - (0)) + 1 : Int).toNat (0) (up (vv) 18 (((11) * (bb)) + (la)) (1)) (by omega) (by omega) (PLJ_init k2 (by omega) (by omega) hini) _ _ hP hD hS ls (lv_sub hl [0, 1, 2, 3, 4] rfl)
        exact LP11 ((11 - (0)) + 1 : Int).toNat (0) (uu) (by omega) (by omega) (j2) _ _ hP hD hS ls (lv_sub hl [0, 1, 2, 3] rfl)
  exact LP5 (((st 0 (3)) + 1) + 1 : Int).toNat (st 0 (3)) (st) (by omega) (by omega) (PLI_init se hQ) _ _ hP hD hS ls (lv_sub hl [0, 1, 2] rfl)
