abbrev rX8_other : Room := { frames := 0, cells := 0, slots := 0, locals := 0 }
set_option maxHeartbeats 4000000 in
set_option maxRecDepth 100000 in
theorem m_X8_other (l : Launch) (D : va_G) (g : Nat → ClassId) (a : Nat → Nat) (st : SS) (bb : Int) (hI : IM st) (h1 : 0 ≤ bb ∧ bb < st 0 3) (h2 : st 9 bb = 1) : Met l yX8_other wsX8_other rX8_other (PcR D g (WM g a st) [.ref (a 0), .int (iZ (bb))]) (QcRead (iZ (PTN (st 10 bb) (st 11 bb)))) 0 0 (fun _ => False) := by
  refine metR (cc := cX8_other) (maxL := 3) (ret := (some .int)) (own := RX8) (by decide) rfl rfl (Nat.le_of_ble_eq_true rfl) (Or.inl rfl) ?_
  intro p e R s m args below meth c Q ls S hRf hRl hK hP hl K
  have hx := S.1
  have hb := S.2.1
  have hown := S.2.2.2.1
  have hts := S.2.2.2.2
  have hRf : 0 ≤ R.frames := hRf
  have hRl : 0 ≤ R.locals := hRl
  have hl : lv_has ls 3 [(0, .ref (a 0)), (1, .int (iZ (bb)))] := hl
  have iX8 : ∀ w ∈ wsX80, w ∈ wsX8_other := by decide +kernel
  have hB := hI.s
  have hbR := hI.bd bb (by omega) (by omega)
  obtain ⟨oz, oz0, oz1, oz2, oz3⟩ := (hI.bl bb (by omega) (by omega)).2.2.2 h2
  refine z_iconst hx hb dX8_other_0 ?_
  refine lv_istore_n (lv' := [(2, .int (iZ (0))), (0, .ref (a 0)), (1, .int (iZ (bb)))]) hx hb dX8_other_1 rfl hl (by decide) rfl (fun ls hl => ?_)
  have LP2 : ∀ (n2 : Nat) (oo : Int), (6 - oo) < (n2 : Int) → (0 ≤ oo ∧ oo ≤ oz) → (∀ j, 0 ≤ j → j < oo → ¬ (j ≠ st 10 bb ∧ bt (st 11 bb) j)) → ∀ (ls : Array Slot), lv_has ls 3 [(2, .int (iZ (oo))), (0, .ref (a 0)), (1, .int (iZ (bb)))] → W p l e R s m args below meth c s.heap [] 0 0 Q (F0 m 2 ls []) := by
    intro n2
    induction n2 with
    | zero =>
      intro oo hm2 j1 j2  ls hl
      exact absurd hm2 (by omega)
    | succ n2 ih2 =>
      intro oo hm2 j1 j2  ls hl
      refine lv_iload_n hx hb dX8_other_2 rfl (lv_at hl 0 rfl) ?_
      refine lv_aload_n hx hb dX8_other_3 rfl (lv_at hl 1 rfl) ?_
      refine z_get (C := RX8) (T := TX8) (N := 26) (ci := 7) hx hb hts iX8 hown hK hP 0 rfl rfl 13 (by decide) (hts (.fieldLink RX8 37 "ShotBoardModel" "main" "[I") (by decide +kernel)) (.ref (a 10)) rfl dX8_other_4 ?_
      refine lv_iload_n hx hb dX8_other_7 rfl (lv_at hl 2 rfl) ?_
      refine z_iald hx hb hK hP 10 (st 10) rfl (by omega) (by omega) (by omega) dX8_other_8 ?_
      refine z_icmp_eq (tgt := 25) hx hb (by omega) (by omega) dX8_other_9 (by decide) (fun c1 => ?_) (fun c1 => ?_)
      · skip
        have hnx : ¬ (oo ≠ st 10 bb ∧ bt (st 11 bb) oo) := fun z => z.1 c1
        refine z_iinc (lv' := [(2, .int (iZ ((oo) + 1))), (0, .ref (a 0)), (1, .int (iZ (bb)))]) hx hb dX8_other_25 hl (k := 0) rfl (by decide) rfl (fun ls hl => ?_)
        refine lv_goto (tgt := 2) hx hb dX8_other_28 (by decide) ?_
        have hne9 : oo ≠ oz := fun e9 => by subst e9; exact hnx ⟨oz2, oz3⟩
        exact ih2 ((oo) + 1) (by omega) (by omega) (fun j a b => by
      by_cases e9 : j = oo
      · subst e9; exact hnx
      · exact j2 j a (by omega))  ls (lv_sub hl [0, 1, 2] rfl)
      · skip
        have hy1 := c1
        refine lv_aload_n hx hb dX8_other_12 rfl (lv_at hl 1 rfl) ?_
        refine z_get (C := RX8) (T := TX8) (N := 26) (ci := 7) hx hb hts iX8 hown hK hP 0 rfl rfl 14 (by decide) (hts (.fieldLink RX8 40 "ShotBoardModel" "must" "[I") (by decide +kernel)) (.ref (a 11)) rfl dX8_other_13 ?_
        refine lv_iload_n hx hb dX8_other_16 rfl (lv_at hl 2 rfl) ?_
        refine z_iald hx hb hK hP 11 (st 11) rfl (by omega) (by omega) (by omega) dX8_other_17 ?_
        refine lv_iload_n hx hb dX8_other_18 rfl (lv_at hl 0 rfl) ?_
        refine z_ishr hx hb dX8_other_19 ?_
        refine z_iconst hx hb dX8_other_20 ?_
        refine z_iand hx hb dX8_other_21 ?_
        refine z_as (y := b2 (bt (st 11 bb) oo)) (bit_z (by omega) (by omega) (by omega) (by omega)) ?_
        refine z_if_ne (tgt := 31) hx hb (b2_rg _) dX8_other_22 (by decide) (fun c2 => ?_) (fun c2 => ?_)
        · skip
          have c2 := b2_n0 c2
          have hyb := c2
          refine lv_iload_n hx hb dX8_other_31 rfl (lv_at hl 0 rfl) ?_
          exact K _ _ _ (by unfold PTN; rw [fP_is (q := oo) (by omega) (by omega) ⟨hy1, hyb⟩ j2, if_neg (by omega)]) dX8_other_32
        · skip
          have c2 := b2_0 c2
          have hnx : ¬ (oo ≠ st 10 bb ∧ bt (st 11 bb) oo) := fun z => c2 z.2
          refine z_iinc (lv' := [(2, .int (iZ ((oo) + 1))), (0, .ref (a 0)), (1, .int (iZ (bb)))]) hx hb dX8_other_25 hl (k := 0) rfl (by decide) rfl (fun ls hl => ?_)
          refine lv_goto (tgt := 2) hx hb dX8_other_28 (by decide) ?_
          have hne9 : oo ≠ oz := fun e9 => by subst e9; exact hnx ⟨oz2, oz3⟩
          exact ih2 ((oo) + 1) (by omega) (by omega) (fun j a b => by
      by_cases e9 : j = oo
      · subst e9; exact hnx
      · exact j2 j a (by omega))  ls (lv_sub hl [0, 1, 2] rfl)
  exact LP2 ((6 - (0)) + 1 : Int).toNat (0) (by omega) (by omega) (fun j a b => by omega)  ls (lv_sub hl [0, 1, 2] rfl)
abbrev rX8_sideOf : Room := { frames := 2, cells := 0, slots := 0, locals := 43 }
set_option maxHeartbeats 4000000 in
set_option maxRecDepth 100000 in
theorem m_X8_sideOf (l : Launch) (D : va_G) (g : Nat → ClassId) (a : Nat → Nat) (st : SS) (cm : Int) (bb : Int) (fi : Int) (se : Int) (hI : IM st) (h1 : 0 ≤ cm ∧ cm < 10) (h2 : 0 ≤ bb ∧ bb < 8) (h3 : 0 ≤ fi ∧ fi < 6) (h4 : 0 ≤ se ∧ se < 6) : Met l yX8_sideOf wsX8_sideOf rX8_sideOf (PcR D g (WM g a st) [.ref (a 0), .int (iZ (cm)), .int (iZ (bb)), .int (iZ (fi)), .int (iZ (se))]) (QcRead (iZ (SDm st cm bb fi se))) 0 0 (fun _ => False) := by
  refine metR (cc := cX8_sideOf) (maxL := 5) (ret := (some .int)) (own := RX8) (by decide) rfl rfl (Nat.le_of_ble_eq_true rfl) (Or.inl rfl) ?_
  intro p e R s m args below meth c Q ls S hRf hRl hK hP hl K
  have hx := S.1
  have hb := S.2.1
  have hown := S.2.2.2.1
  have hts := S.2.2.2.2
  have hRf : 2 ≤ R.frames := hRf
  have hRl : 43 ≤ R.locals := hRl
  have hl : lv_has ls 5 [(0, .ref (a 0)), (1, .int (iZ (cm))), (2, .int (iZ (bb))), (3, .int (iZ (fi))), (4, .int (iZ (se)))] := hl
  have iX8 : ∀ w ∈ wsX80, w ∈ wsX8_sideOf := by decide +kernel
  have hB := hI.s
  have hbR := hI.bd bb (by omega) (by omega)
  refine lv_aload_n hx hb dX8_sideOf_0 rfl (lv_at hl 0 rfl) ?_
  refine lv_iload_n hx hb dX8_sideOf_1 rfl (lv_at hl 3 rfl) ?_
  refine lv_aload_n hx hb dX8_sideOf_2 rfl (lv_at hl 0 rfl) ?_
  refine z_get (C := RX8) (T := TX8) (N := 26) (ci := 7) hx hb hts iX8 hown hK hP 0 rfl rfl 16 (by decide) (hts (.fieldLink RX8 46 "ShotBoardModel" "from" "[I") (by decide +kernel)) (.ref (a 13)) rfl dX8_sideOf_3 ?_
  refine lv_iload_n hx hb dX8_sideOf_6 rfl (lv_at hl 2 rfl) ?_
  refine z_iald hx hb hK hP 13 (st 13) rfl (by omega) (by omega) (by omega) dX8_sideOf_7 ?_
  refine z_cVR (q0 := 0) (ci := 7) (As := [.int (iZ (fi)), .int (iZ (st 13 (bb)))]) (rest := []) S (m_X8_placeOf l D g a (st) (fi) (st 13 (bb)) hI (by omega) (by omega)) (cwV 2 hts gX8_sideOf_X8_placeOf rfl rfl rfl (by decide +kernel) ⟨Nat.le_trans (by decide) hRf, Nat.le_trans (by decide) hRl⟩) hK hP rfl rfl rfl hl.1 rfl (Nat.le_of_ble_eq_true rfl) dX8_sideOf_8 ⟨Nat.zero_le _, Nat.zero_le _⟩ ?_
  have f1 := plM_p hI (fi) (st 13 (bb)) (by omega) (by omega)
  refine lv_aload_n hx hb dX8_sideOf_11 rfl (lv_at hl 0 rfl) ?_
  refine lv_iload hx hb dX8_sideOf_12 (lv_at hl 4 rfl) ?_
  refine lv_aload_n hx hb dX8_sideOf_14 rfl (lv_at hl 0 rfl) ?_
  refine z_get (C := RX8) (T := TX8) (N := 26) (ci := 7) hx hb hts iX8 hown hK hP 0 rfl rfl 16 (by decide) (hts (.fieldLink RX8 46 "ShotBoardModel" "from" "[I") (by decide +kernel)) (.ref (a 13)) rfl dX8_sideOf_15 ?_
  refine lv_iload_n hx hb dX8_sideOf_18 rfl (lv_at hl 2 rfl) ?_
  refine z_iald hx hb hK hP 13 (st 13) rfl (by omega) (by omega) (by omega) dX8_sideOf_19 ?_
  refine z_cVR (q0 := 0) (ci := 7) (As := [.int (iZ (se)), .int (iZ (st 13 (bb)))]) (rest := [.int (iZ (plM st (fi) (st 13 (bb))))]) S (m_X8_placeOf l D g a (st) (se) (st 13 (bb)) hI (by omega) (by omega)) (cwV 2 hts gX8_sideOf_X8_placeOf rfl rfl rfl (by decide +kernel) ⟨Nat.le_trans (by decide) hRf, Nat.le_trans (by decide) hRl⟩) hK hP rfl rfl rfl hl.1 rfl (Nat.le_of_ble_eq_true rfl) dX8_sideOf_20 ⟨Nat.zero_le _, Nat.zero_le _⟩ ?_
  have f2 := plM_p hI (se) (st 13 (bb)) (by omega) (by omega)
  refine lv_aload_n hx hb dX8_sideOf_23 rfl (lv_at hl 0 rfl) ?_
  refine z_get (C := RX8) (T := TX8) (N := 26) (ci := 7) hx hb hts iX8 hown hK hP 0 rfl rfl 9 (by decide) (hts (.fieldLink RX8 28 "ShotBoardModel" "eye" "[I") (by decide +kernel)) (.ref (a 7)) rfl dX8_sideOf_24 ?_
  refine lv_iload_n hx hb dX8_sideOf_27 rfl (lv_at hl 1 rfl) ?_
  refine z_iald hx hb hK hP 7 (st 7) rfl (by omega) (by omega) (by omega) dX8_sideOf_28 ?_
  have f3 := hI.c7 (cm) (by omega) (by omega)
  refine z_cSS (As := [.int (iZ (plM st (fi) (st 13 (bb)))), .int (iZ (plM st (se) (st 13 (bb)))), .int (iZ (st 7 (cm)))]) (rest := []) S (m_X8_turn l (plM st (fi) (st 13 (bb))) (plM st (se) (st 13 (bb))) (st 7 (cm)) (by omega) (by omega) (by omega)) (va_cwS 3 hts gX8_sideOf_X8_turn rfl rfl rfl (by decide +kernel) ⟨Nat.le_trans (by decide) hRf, Nat.le_trans (by decide) hRl⟩) rfl hl.1 rfl (Nat.le_of_ble_eq_true rfl) dX8_sideOf_29 ⟨Nat.zero_le _, Nat.zero_le _⟩ ?_
  have f4 := sg_b (crossZ (plM st (fi) (st 13 (bb))) (plM st (se) (st 13 (bb))) (st 7 (cm)))
  exact K _ _ _ (rfl) dX8_sideOf_32
abbrev rX8_lengthOf : Room := { frames := 0, cells := 0, slots := 0, locals := 0 }
set_option maxHeartbeats 4000000 in
set_option maxRecDepth 100000 in
theorem m_X8_lengthOf (l : Launch) (D : va_G) (g : Nat → ClassId) (a : Nat → Nat) (st : SS) (bb : Int) (hI : IM st) (h1 : 0 ≤ bb ∧ bb < st 0 3) : Met l yX8_lengthOf wsX8_lengthOf rX8_lengthOf (PcR D g (WM g a st) [.ref (a 0), .int (iZ (bb))]) (QcRead (iZ (LEN (st 13 bb) (st 14 bb) (st 15 bb) (st 0 4)))) 0 0 (fun _ => False) := by
  refine metR (cc := cX8_lengthOf) (maxL := 4) (ret := (some .int)) (own := RX8) (by decide) rfl rfl (Nat.le_of_ble_eq_true rfl) (Or.inl rfl) ?_
  intro p e R s m args below meth c Q ls S hRf hRl hK hP hl K
  have hx := S.1
  have hb := S.2.1
  have hown := S.2.2.2.1
  have hts := S.2.2.2.2
  have hRf : 0 ≤ R.frames := hRf
  have hRl : 0 ≤ R.locals := hRl
  have hl : lv_has ls 4 [(0, .ref (a 0)), (1, .int (iZ (bb)))] := hl
  have iX8 : ∀ w ∈ wsX80, w ∈ wsX8_lengthOf := by decide +kernel
  have hB := hI.s
  have hbR := hI.bd bb (by omega) (by omega)
  have hle : ((st 15 bb + st 0 4) - 1) / st 0 4 ≤ st 15 bb + st 0 4 - 1 := Int.ediv_le_self _ (by omega)
  have hge : 0 ≤ ((st 15 bb + st 0 4) - 1) / st 0 4 := Int.ediv_nonneg (by omega) (by omega)
  refine lv_aload_n hx hb dX8_lengthOf_0 rfl (lv_at hl 0 rfl) ?_
  refine z_get (C := RX8) (T := TX8) (N := 26) (ci := 7) hx hb hts iX8 hown hK hP 0 rfl rfl 17 (by decide) (hts (.fieldLink RX8 49 "ShotBoardModel" "to" "[I") (by decide +kernel)) (.ref (a 14)) rfl dX8_lengthOf_1 ?_
  refine lv_iload_n hx hb dX8_lengthOf_4 rfl (lv_at hl 1 rfl) ?_
  refine z_iald hx hb hK hP 14 (st 14) rfl (by omega) (by omega) (by omega) dX8_lengthOf_5 ?_
  refine lv_aload_n hx hb dX8_lengthOf_6 rfl (lv_at hl 0 rfl) ?_
  refine z_get (C := RX8) (T := TX8) (N := 26) (ci := 7) hx hb hts iX8 hown hK hP 0 rfl rfl 16 (by decide) (hts (.fieldLink RX8 46 "ShotBoardModel" "from" "[I") (by decide +kernel)) (.ref (a 13)) rfl dX8_lengthOf_7 ?_
  refine lv_iload_n hx hb dX8_lengthOf_10 rfl (lv_at hl 1 rfl) ?_
  refine z_iald hx hb hK hP 13 (st 13) rfl (by omega) (by omega) (by omega) dX8_lengthOf_11 ?_
  refine z_isub hx hb dX8_lengthOf_12 ?_
  refine z_iconst hx hb dX8_lengthOf_13 ?_
  refine z_iadd hx hb dX8_lengthOf_14 ?_
  refine lv_istore_n (lv' := [(2, .int (iZ (((st 14 (bb)) - (st 13 (bb))) + (1)))), (0, .ref (a 0)), (1, .int (iZ (bb)))]) hx hb dX8_lengthOf_15 rfl hl (by decide) rfl (fun ls hl => ?_)
  refine lv_aload_n hx hb dX8_lengthOf_16 rfl (lv_at hl 1 rfl) ?_
  refine z_get (C := RX8) (T := TX8) (N := 26) (ci := 7) hx hb hts iX8 hown hK hP 0 rfl rfl 18 (by decide) (hts (.fieldLink RX8 52 "ShotBoardModel" "words" "[I") (by decide +kernel)) (.ref (a 15)) rfl dX8_lengthOf_17 ?_
  refine lv_iload_n hx hb dX8_lengthOf_20 rfl (lv_at hl 2 rfl) ?_
  refine z_iald hx hb hK hP 15 (st 15) rfl (by omega) (by omega) (by omega) dX8_lengthOf_21 ?_
  refine lv_aload_n hx hb dX8_lengthOf_22 rfl (lv_at hl 1 rfl) ?_
  refine z_get (C := RX8) (T := TX8) (N := 26) (ci := 7) hx hb hts iX8 hown hK hP 0 rfl rfl 19 (by decide) (hts (.fieldLink RX8 55 "ShotBoardModel" "rate" "I") (by decide +kernel)) (.int (iZ (st 0 (4)))) rfl dX8_lengthOf_23 ?_
  refine z_iadd hx hb dX8_lengthOf_26 ?_
  refine z_iconst hx hb dX8_lengthOf_27 ?_
  refine z_isub hx hb dX8_lengthOf_28 ?_
  refine lv_aload_n hx hb dX8_lengthOf_29 rfl (lv_at hl 1 rfl) ?_
  refine z_get (C := RX8) (T := TX8) (N := 26) (ci := 7) hx hb hts iX8 hown hK hP 0 rfl rfl 19 (by decide) (hts (.fieldLink RX8 55 "ShotBoardModel" "rate" "I") (by decide +kernel)) (.int (iZ (st 0 (4)))) rfl dX8_lengthOf_30 ?_
  refine z_idiv hx hb (by omega) (by omega) (by omega) (by omega) dX8_lengthOf_33 ?_
  refine lv_istore_n (lv' := [(3, .int (iZ ((((st 15 (bb)) + (st 0 (4))) - (1)) / (st 0 (4))))), (2, .int (iZ (((st 14 (bb)) - (st 13 (bb))) + (1)))), (0, .ref (a 0)), (1, .int (iZ (bb)))]) hx hb dX8_lengthOf_34 rfl hl (by decide) rfl (fun ls hl => ?_)
  refine lv_iload_n hx hb dX8_lengthOf_35 rfl (lv_at hl 1 rfl) ?_
  refine lv_iload_n hx hb dX8_lengthOf_36 rfl (lv_at hl 0 rfl) ?_
  refine z_icmp_le (tgt := 44) hx hb (by omega) (by omega) dX8_lengthOf_37 (by decide) (fun c1 => ?_) (fun c1 => ?_)
  · skip
    have hc9 := c1
    refine lv_iload_n hx hb dX8_lengthOf_44 rfl (lv_at hl 0 rfl) ?_
    exact K _ _ _ (by unfold LEN; split <;> omega) dX8_lengthOf_45
  · skip
    have hc9 := c1
    refine lv_iload_n hx hb dX8_lengthOf_40 rfl (lv_at hl 1 rfl) ?_
    refine lv_goto (tgt := 45) hx hb dX8_lengthOf_41 (by decide) ?_
    exact K _ _ _ (by unfold LEN; split <;> omega) dX8_lengthOf_45
abbrev rX8_twoAhead : Room := { frames := 0, cells := 0, slots := 0, locals := 0 }
set_option maxHeartbeats 4000000 in
set_option maxRecDepth 100000 in
theorem m_X8_twoAhead (l : Launch) (D : va_G) (g : Nat → ClassId) (a : Nat → Nat) (st : SS) (bb : Int) (hI : IM st) (h1 : 0 ≤ bb ∧ bb < 8) : Met l yX8_twoAhead wsX8_twoAhead rX8_twoAhead (PcR D g (WM g a st) [.ref (a 0), .int (iZ (bb))]) (QcRead (iZ (TA st bb))) 0 0 (fun _ => False) := by
  refine metR (cc := cX8_twoAhead) (maxL := 3) (ret := (some .int)) (own := RX8) (by decide) rfl rfl (Nat.le_of_ble_eq_true rfl) (Or.inl rfl) ?_
  intro p e R s m args below meth c Q ls S hRf hRl hK hP hl K
  have hx := S.1
  have hb := S.2.1
  have hown := S.2.2.2.1
  have hts := S.2.2.2.2
  have hRf : 0 ≤ R.frames := hRf
  have hRl : 0 ≤ R.locals := hRl
  have hl : lv_has ls 3 [(0, .ref (a 0)), (1, .int (iZ (bb)))] := hl
  have iX8 : ∀ w ∈ wsX80, w ∈ wsX8_twoAhead := by decide +kernel
  have hB := hI.s
  refine lv_iload_n hx hb dX8_twoAhead_0 rfl (lv_at hl 1 rfl) ?_
  refine z_iconst hx hb dX8_twoAhead_1 ?_
  refine z_isub hx hb dX8_twoAhead_2 ?_
  refine lv_istore_n (lv' := [(2, .int (iZ ((bb) - (1)))), (0, .ref (a 0)), (1, .int (iZ (bb)))]) hx hb dX8_twoAhead_3 rfl hl (by decide) rfl (fun ls hl => ?_)
  have LP4 : ∀ (n4 : Nat) (kk : Int), (kk + 1) < (n4 : Int) → (-1 ≤ kk ∧ kk < bb) → (∀ j, kk < j → j < bb → ¬ st 9 j = 1) → ∀ (ls : Array Slot), lv_has ls 3 [(2, .int (iZ (kk))), (0, .ref (a 0)), (1, .int (iZ (bb)))] → W p l e R s m args below meth c s.heap [] 0 0 Q (F0 m 4 ls []) := by
    intro n4
    induction n4 with
    | zero =>
      intro kk hm4 j1 j2  ls hl
      exact absurd hm4 (by omega)
    | succ n4 ih4 =>
      intro kk hm4 j1 j2  ls hl
      refine lv_iload_n hx hb dX8_twoAhead_4 rfl (lv_at hl 0 rfl) ?_
      refine z_if_lt (tgt := 24) hx hb (by omega) dX8_twoAhead_5 (by decide) (fun c1 => ?_) (fun c1 => ?_)
      · skip
        have hta : kk = TA st bb := by unfold TA; rw [lT_no (fun j a b => j2 j (by omega) (by omega))]; omega
        refine lv_iload_n hx hb dX8_twoAhead_24 rfl (lv_at hl 0 rfl) ?_
        exact K _ _ _ (hta) dX8_twoAhead_25
      · skip
        refine lv_aload_n hx hb dX8_twoAhead_8 rfl (lv_at hl 1 rfl) ?_
        refine z_get (C := RX8) (T := TX8) (N := 26) (ci := 7) hx hb hts iX8 hown hK hP 0 rfl rfl 12 (by decide) (hts (.fieldLink RX8 34 "ShotBoardModel" "kind" "[I") (by decide +kernel)) (.ref (a 9)) rfl dX8_twoAhead_9 ?_
        refine lv_iload_n hx hb dX8_twoAhead_12 rfl (lv_at hl 0 rfl) ?_
        refine z_iald hx hb hK hP 9 (st 9) rfl (by omega) (by omega) (by omega) dX8_twoAhead_13 ?_
        have f2 := hI.bd (kk) (by omega) (by omega)
        refine z_iconst hx hb dX8_twoAhead_14 ?_
        refine z_icmp_eq (tgt := 24) hx hb (by omega) (by decide) dX8_twoAhead_15 (by decide) (fun c3 => ?_) (fun c3 => ?_)
        · skip
          have hta : kk = TA st bb := (lT_is (P := fun j => st 9 j = 1) (n := bb.toNat) (by omega) (by omega) c3 (fun j a b => j2 j a (by omega))).symm
          refine lv_iload_n hx hb dX8_twoAhead_24 rfl (lv_at hl 0 rfl) ?_
          exact K _ _ _ (hta) dX8_twoAhead_25
        · skip
          have hk := c3
          refine z_iinc (lv' := [(2, .int (iZ ((kk) + (-1)))), (0, .ref (a 0)), (1, .int (iZ (bb)))]) hx hb dX8_twoAhead_18 hl (k := 0) rfl (by decide) rfl (fun ls hl => ?_)
          refine lv_goto (tgt := 4) hx hb dX8_twoAhead_21 (by decide) ?_
          exact ih4 ((kk) + (-1)) (by omega) (by omega) (fun j a b => by
      by_cases e9 : j = kk
      · subst e9; exact hk
      · exact j2 j (by omega) b)  ls (lv_sub hl [0, 1, 2] rfl)
  exact LP4 ((((bb) - (1)) + 1) + 1 : Int).toNat ((bb) - (1)) (by omega) (by omega) (fun j a b => by omega)  ls (lv_sub hl [0, 1, 2] rfl)
abbrev rX8_crosses : Room := { frames := 3, cells := 0, slots := 0, locals := 67 }
set_option maxHeartbeats 4000000 in
set_option maxRecDepth 100000 in
theorem m_X8_crosses (l : Launch) (D : va_G) (g : Nat → ClassId) (a : Nat → Nat) (st : SS) (aa : Int) (cc : Int) (bb : Int) (dd : Int) (hI : IM st) (h1 : 0 ≤ aa ∧ aa < st 0 3) (h2 : 0 ≤ bb ∧ bb < st 0 3) (h3 : 0 ≤ cc ∧ cc < 10) (h4 : 0 ≤ dd ∧ dd < 10) (h5 : st 9 aa = 1) (h6 : st 9 bb = 1) : Met l yX8_crosses wsX8_crosses rX8_crosses (PcR D g (WM g a st) [.ref (a 0), .int (iZ (aa)), .int (iZ (cc)), .int (iZ (bb)), .int (iZ (dd))]) (QcRead (iZ (b2 (CRSm st aa cc bb dd)))) 0 0 (fun _ => False) := by
  refine metR (cc := cX8_crosses) (maxL := 9) (ret := (some .boolean)) (own := RX8) (by decide) rfl rfl (Nat.le_of_ble_eq_true rfl) (Or.inr ⟨rfl, b2_01 _⟩) ?_
  intro p e R s m args below meth c Q ls S hRf hRl hK hP hl K
  have hx := S.1
  have hb := S.2.1
  have hown := S.2.2.2.1
  have hts := S.2.2.2.2
  have hRf : 3 ≤ R.frames := hRf
  have hRl : 67 ≤ R.locals := hRl
  have hl : lv_has ls 9 [(0, .ref (a 0)), (1, .int (iZ (aa))), (2, .int (iZ (cc))), (3, .int (iZ (bb))), (4, .int (iZ (dd)))] := hl
  have iX8 : ∀ w ∈ wsX80, w ∈ wsX8_crosses := by decide +kernel
  have hB := hI.s
  have hbA := hI.bd aa (by omega) (by omega)
  have hbB := hI.bd bb (by omega) (by omega)
  have hpA : 0 ≤ PTm st aa ∧ PTm st aa < 6 := PTN_b _ _ (by omega)
  have hpB : 0 ≤ PTm st bb ∧ PTm st bb < 6 := PTN_b _ _ (by omega)
  have hlA : (0 ≤ LOm st aa ∧ LOm st aa < 6) ∧ (0 ≤ HIm st aa ∧ HIm st aa < 6) := LOW_b (by omega) hpA
  have hlB : (0 ≤ LOm st bb ∧ LOm st bb < 6) ∧ (0 ≤ HIm st bb ∧ HIm st bb < 6) := LOW_b (by omega) hpB
  refine lv_aload_n hx hb dX8_crosses_0 rfl (lv_at hl 0 rfl) ?_
  refine z_get (C := RX8) (T := TX8) (N := 26) (ci := 7) hx hb hts iX8 hown hK hP 0 rfl rfl 13 (by decide) (hts (.fieldLink RX8 37 "ShotBoardModel" "main" "[I") (by decide +kernel)) (.ref (a 10)) rfl dX8_crosses_1 ?_
  refine lv_iload_n hx hb dX8_crosses_4 rfl (lv_at hl 1 rfl) ?_
  refine z_iald hx hb hK hP 10 (st 10) rfl (by omega) (by omega) (by omega) dX8_crosses_5 ?_
  refine lv_aload_n hx hb dX8_crosses_6 rfl (lv_at hl 0 rfl) ?_
  refine lv_iload_n hx hb dX8_crosses_7 rfl (lv_at hl 1 rfl) ?_
  refine z_cVR (q0 := 0) (ci := 7) (As := [.int (iZ (aa))]) (rest := [.int (iZ (st 10 (aa)))]) S (m_X8_other l D g a (st) (aa) hI (by omega) (by omega)) (cwV 1 hts gX8_crosses_X8_other rfl rfl rfl (by decide +kernel) ⟨Nat.le_trans (by decide) hRf, Nat.le_trans (by decide) hRl⟩) hK hP rfl rfl rfl hl.1 rfl (Nat.le_of_ble_eq_true rfl) dX8_crosses_8 ⟨Nat.zero_le _, Nat.zero_le _⟩ ?_
  refine z_as (y := PTm st aa) (rfl) ?_
  refine z_icmp_ge (tgt := 23) hx hb (by omega) (by omega) dX8_crosses_11 (by decide) (fun c1 => ?_) (fun c1 => ?_)
  · skip
    have hc1 := c1
    refine lv_aload_n hx hb dX8_crosses_23 rfl (lv_at hl 0 rfl) ?_
    refine lv_iload_n hx hb dX8_crosses_24 rfl (lv_at hl 1 rfl) ?_
    refine z_cVR (q0 := 0) (ci := 7) (As := [.int (iZ (aa))]) (rest := []) S (m_X8_other l D g a (st) (aa) hI (by omega) (by omega)) (cwV 1 hts gX8_crosses_X8_other rfl rfl rfl (by decide +kernel) ⟨Nat.le_trans (by decide) hRf, Nat.le_trans (by decide) hRl⟩) hK hP rfl rfl rfl hl.1 rfl (Nat.le_of_ble_eq_true rfl) dX8_crosses_25 ⟨Nat.zero_le _, Nat.zero_le _⟩ ?_
    refine z_as (y := LOm st aa) ((if_neg (Int.not_lt.mpr hc1)).symm) ?_
    refine lv_istore (lv' := [(5, .int (iZ (LOm st aa))), (0, .ref (a 0)), (1, .int (iZ (aa))), (2, .int (iZ (cc))), (3, .int (iZ (bb))), (4, .int (iZ (dd)))]) hx hb dX8_crosses_28 hl (by decide) rfl (fun ls hl => ?_)
    refine lv_aload_n hx hb dX8_crosses_30 rfl (lv_at hl 1 rfl) ?_
    refine z_get (C := RX8) (T := TX8) (N := 26) (ci := 7) hx hb hts iX8 hown hK hP 0 rfl rfl 13 (by decide) (hts (.fieldLink RX8 37 "ShotBoardModel" "main" "[I") (by decide +kernel)) (.ref (a 10)) rfl dX8_crosses_31 ?_
    refine lv_iload_n hx hb dX8_crosses_34 rfl (lv_at hl 2 rfl) ?_
    refine z_iald hx hb hK hP 10 (st 10) rfl (by omega) (by omega) (by omega) dX8_crosses_35 ?_
    refine lv_aload_n hx hb dX8_crosses_36 rfl (lv_at hl 1 rfl) ?_
    refine lv_iload_n hx hb dX8_crosses_37 rfl (lv_at hl 2 rfl) ?_
    refine z_cVR (q0 := 0) (ci := 7) (As := [.int (iZ (aa))]) (rest := [.int (iZ (st 10 (aa)))]) S (m_X8_other l D g a (st) (aa) hI (by omega) (by omega)) (cwV 1 hts gX8_crosses_X8_other rfl rfl rfl (by decide +kernel) ⟨Nat.le_trans (by decide) hRf, Nat.le_trans (by decide) hRl⟩) hK hP rfl rfl rfl hl.1 rfl (Nat.le_of_ble_eq_true rfl) dX8_crosses_38 ⟨Nat.zero_le _, Nat.zero_le _⟩ ?_
    refine z_as (y := PTm st aa) (rfl) ?_
    refine z_iadd hx hb dX8_crosses_41 ?_
    refine lv_iload hx hb dX8_crosses_42 (lv_at hl 0 rfl) ?_
    refine z_isub hx hb dX8_crosses_44 ?_
    refine z_as (y := HIm st aa) (rfl) ?_
    refine lv_istore (lv' := [(6, .int (iZ (HIm st aa))), (5, .int (iZ (LOm st aa))), (0, .ref (a 0)), (1, .int (iZ (aa))), (2, .int (iZ (cc))), (3, .int (iZ (bb))), (4, .int (iZ (dd)))]) hx hb dX8_crosses_45 hl (by decide) rfl (fun ls hl => ?_)
    refine lv_aload_n hx hb dX8_crosses_47 rfl (lv_at hl 2 rfl) ?_
    refine z_get (C := RX8) (T := TX8) (N := 26) (ci := 7) hx hb hts iX8 hown hK hP 0 rfl rfl 13 (by decide) (hts (.fieldLink RX8 37 "ShotBoardModel" "main" "[I") (by decide +kernel)) (.ref (a 10)) rfl dX8_crosses_48 ?_
    refine lv_iload_n hx hb dX8_crosses_51 rfl (lv_at hl 5 rfl) ?_
    refine z_iald hx hb hK hP 10 (st 10) rfl (by omega) (by omega) (by omega) dX8_crosses_52 ?_
    refine lv_aload_n hx hb dX8_crosses_53 rfl (lv_at hl 2 rfl) ?_
    refine lv_iload_n hx hb dX8_crosses_54 rfl (lv_at hl 5 rfl) ?_
    refine z_cVR (q0 := 0) (ci := 7) (As := [.int (iZ (bb))]) (rest := [.int (iZ (st 10 (bb)))]) S (m_X8_other l D g a (st) (bb) hI (by omega) (by omega)) (cwV 1 hts gX8_crosses_X8_other rfl rfl rfl (by decide +kernel) ⟨Nat.le_trans (by decide) hRf, Nat.le_trans (by decide) hRl⟩) hK hP rfl rfl rfl hl.1 rfl (Nat.le_of_ble_eq_true rfl) dX8_crosses_55 ⟨Nat.zero_le _, Nat.zero_le _⟩ ?_
    refine z_as (y := PTm st bb) (rfl) ?_
    refine z_icmp_ge (tgt := 70) hx hb (by omega) (by omega) dX8_crosses_58 (by decide) (fun c2 => ?_) (fun c2 => ?_)
    · skip
      have hc2 := c2
      refine lv_aload_n hx hb dX8_crosses_70 rfl (lv_at hl 2 rfl) ?_
      refine lv_iload_n hx hb dX8_crosses_71 rfl (lv_at hl 5 rfl) ?_
      refine z_cVR (q0 := 0) (ci := 7) (As := [.int (iZ (bb))]) (rest := []) S (m_X8_other l D g a (st) (bb) hI (by omega) (by omega)) (cwV 1 hts gX8_crosses_X8_other rfl rfl rfl (by decide +kernel) ⟨Nat.le_trans (by decide) hRf, Nat.le_trans (by decide) hRl⟩) hK hP rfl rfl rfl hl.1 rfl (Nat.le_of_ble_eq_true rfl) dX8_crosses_72 ⟨Nat.zero_le _, Nat.zero_le _⟩ ?_
      refine z_as (y := LOm st bb) ((if_neg (Int.not_lt.mpr hc2)).symm) ?_
      refine lv_istore (lv' := [(7, .int (iZ (LOm st bb))), (6, .int (iZ (HIm st aa))), (5, .int (iZ (LOm st aa))), (0, .ref (a 0)), (1, .int (iZ (aa))), (2, .int (iZ (cc))), (3, .int (iZ (bb))), (4, .int (iZ (dd)))]) hx hb dX8_crosses_75 hl (by decide) rfl (fun ls hl => ?_)
      refine lv_aload_n hx hb dX8_crosses_77 rfl (lv_at hl 3 rfl) ?_
      refine z_get (C := RX8) (T := TX8) (N := 26) (ci := 7) hx hb hts iX8 hown hK hP 0 rfl rfl 13 (by decide) (hts (.fieldLink RX8 37 "ShotBoardModel" "main" "[I") (by decide +kernel)) (.ref (a 10)) rfl dX8_crosses_78 ?_
      refine lv_iload_n hx hb dX8_crosses_81 rfl (lv_at hl 6 rfl) ?_
      refine z_iald hx hb hK hP 10 (st 10) rfl (by omega) (by omega) (by omega) dX8_crosses_82 ?_
      refine lv_aload_n hx hb dX8_crosses_83 rfl (lv_at hl 3 rfl) ?_
      refine lv_iload_n hx hb dX8_crosses_84 rfl (lv_at hl 6 rfl) ?_
      refine z_cVR (q0 := 0) (ci := 7) (As := [.int (iZ (bb))]) (rest := [.int (iZ (st 10 (bb)))]) S (m_X8_other l D g a (st) (bb) hI (by omega) (by omega)) (cwV 1 hts gX8_crosses_X8_other rfl rfl rfl (by decide +kernel) ⟨Nat.le_trans (by decide) hRf, Nat.le_trans (by decide) hRl⟩) hK hP rfl rfl rfl hl.1 rfl (Nat.le_of_ble_eq_true rfl) dX8_crosses_85 ⟨Nat.zero_le _, Nat.zero_le _⟩ ?_
      refine z_as (y := PTm st bb) (rfl) ?_
      refine z_iadd hx hb dX8_crosses_88 ?_
      refine lv_iload hx hb dX8_crosses_89 (lv_at hl 0 rfl) ?_
      refine z_isub hx hb dX8_crosses_91 ?_
      refine z_as (y := HIm st bb) (rfl) ?_
      refine lv_istore (lv' := [(8, .int (iZ (HIm st bb))), (7, .int (iZ (LOm st bb))), (6, .int (iZ (HIm st aa))), (5, .int (iZ (LOm st aa))), (0, .ref (a 0)), (1, .int (iZ (aa))), (2, .int (iZ (cc))), (3, .int (iZ (bb))), (4, .int (iZ (dd)))]) hx hb dX8_crosses_92 hl (by decide) rfl (fun ls hl => ?_)
      refine lv_iload hx hb dX8_crosses_94 (lv_at hl 3 rfl) ?_
      refine lv_iload hx hb dX8_crosses_96 (lv_at hl 1 rfl) ?_
      refine z_icmp_ne (tgt := 137) hx hb (by omega) (by omega) dX8_crosses_98 (by decide) (fun c3 => ?_) (fun c3 => ?_)
      · skip
        have hn := c3
        refine z_iconst hx hb dX8_crosses_137 ?_
        exact K _ _ _ (by first | exact b2_neg (fun z => hn z.1) rfl | exact b2_neg (fun z => hn z.2.1) rfl | exact b2_neg (fun z => absurd z.2.2 (Int.not_lt.mpr hn)) rfl | exact b2_pos ⟨hn1, hn2, hn⟩ rfl) dX8_crosses_138
      · skip
        have hn1 := c3
        refine lv_iload hx hb dX8_crosses_101 (lv_at hl 2 rfl) ?_
        refine lv_iload hx hb dX8_crosses_103 (lv_at hl 0 rfl) ?_
        refine z_icmp_ne (tgt := 137) hx hb (by omega) (by omega) dX8_crosses_105 (by decide) (fun c4 => ?_) (fun c4 => ?_)
        · skip
          have hn := c4
          refine z_iconst hx hb dX8_crosses_137 ?_
          exact K _ _ _ (by first | exact b2_neg (fun z => hn z.1) rfl | exact b2_neg (fun z => hn z.2.1) rfl | exact b2_neg (fun z => absurd z.2.2 (Int.not_lt.mpr hn)) rfl | exact b2_pos ⟨hn1, hn2, hn⟩ rfl) dX8_crosses_138
        · skip
          have hn2 := c4
          refine lv_aload_n hx hb dX8_crosses_108 rfl (lv_at hl 4 rfl) ?_
          refine lv_iload_n hx hb dX8_crosses_109 rfl (lv_at hl 6 rfl) ?_
          refine lv_iload_n hx hb dX8_crosses_110 rfl (lv_at hl 5 rfl) ?_
          refine lv_iload hx hb dX8_crosses_111 (lv_at hl 3 rfl) ?_
          refine lv_iload hx hb dX8_crosses_113 (lv_at hl 2 rfl) ?_
          refine z_cVR (q0 := 0) (ci := 7) (As := [.int (iZ (cc)), .int (iZ (aa)), .int (iZ (LOm st aa)), .int (iZ (HIm st aa))]) (rest := []) S (m_X8_sideOf l D g a (st) (cc) (aa) (LOm st aa) (HIm st aa) hI (by omega) (by omega) (by omega) (by omega)) (cwV 4 hts gX8_crosses_X8_sideOf rfl rfl rfl (by decide +kernel) ⟨Nat.le_trans (by decide) hRf, Nat.le_trans (by decide) hRl⟩) hK hP rfl rfl rfl hl.1 rfl (Nat.le_of_ble_eq_true rfl) dX8_crosses_115 ⟨Nat.zero_le _, Nat.zero_le _⟩ ?_
          have f5 := (show -1 ≤ SDm st (cc) (aa) (LOm st aa) (HIm st aa) ∧ SDm st (cc) (aa) (LOm st aa) (HIm st aa) ≤ 1 from sg_b _)
          refine lv_aload_n hx hb dX8_crosses_118 rfl (lv_at hl 4 rfl) ?_
          refine lv_iload hx hb dX8_crosses_119 (lv_at hl 8 rfl) ?_
          refine lv_iload_n hx hb dX8_crosses_121 rfl (lv_at hl 7 rfl) ?_
          refine lv_iload hx hb dX8_crosses_122 (lv_at hl 3 rfl) ?_
          refine lv_iload hx hb dX8_crosses_124 (lv_at hl 2 rfl) ?_
          refine z_cVR (q0 := 0) (ci := 7) (As := [.int (iZ (dd)), .int (iZ (bb)), .int (iZ (LOm st aa)), .int (iZ (HIm st aa))]) (rest := [.int (iZ (SDm st (cc) (aa) (LOm st aa) (HIm st aa)))]) S (m_X8_sideOf l D g a (st) (dd) (bb) (LOm st aa) (HIm st aa) hI (by omega) (by omega) (by omega) (by omega)) (cwV 4 hts gX8_crosses_X8_sideOf rfl rfl rfl (by decide +kernel) ⟨Nat.le_trans (by decide) hRf, Nat.le_trans (by decide) hRl⟩) hK hP rfl rfl rfl hl.1 rfl (Nat.le_of_ble_eq_true rfl) dX8_crosses_126 ⟨Nat.zero_le _, Nat.zero_le _⟩ ?_
          have f6 := (show -1 ≤ SDm st (dd) (bb) (LOm st aa) (HIm st aa) ∧ SDm st (dd) (bb) (LOm st aa) (HIm st aa) ≤ 1 from sg_b _)
          have g1 := mul_b (x := SDm st cc aa (LOm st aa) (HIm st aa)) (y := SDm st dd bb (LOm st aa) (HIm st aa)) (A := 1) (B := 1) (by omega) (by omega) (by omega) (by omega)
          refine z_imul hx hb dX8_crosses_129 ?_
          refine z_if_ge (tgt := 137) hx hb (by omega) dX8_crosses_130 (by decide) (fun c7 => ?_) (fun c7 => ?_)
          · skip
            have hn := c7
            refine z_iconst hx hb dX8_crosses_137 ?_
            exact K _ _ _ (by first | exact b2_neg (fun z => hn z.1) rfl | exact b2_neg (fun z => hn z.2.1) rfl | exact b2_neg (fun z => absurd z.2.2 (Int.not_lt.mpr hn)) rfl | exact b2_pos ⟨hn1, hn2, hn⟩ rfl) dX8_crosses_138
          · skip
            have hn := c7
            refine z_iconst hx hb dX8_crosses_133 ?_
            refine lv_goto (tgt := 138) hx hb dX8_crosses_134 (by decide) ?_
            exact K _ _ _ (by first | exact b2_neg (fun z => hn z.1) rfl | exact b2_neg (fun z => hn z.2.1) rfl | exact b2_neg (fun z => absurd z.2.2 (Int.not_lt.mpr hn)) rfl | exact b2_pos ⟨hn1, hn2, hn⟩ rfl) dX8_crosses_138
    · skip
      have hc2 := c2
      refine lv_aload_n hx hb dX8_crosses_61 rfl (lv_at hl 2 rfl) ?_
      refine z_get (C := RX8) (T := TX8) (N := 26) (ci := 7) hx hb hts iX8 hown hK hP 0 rfl rfl 13 (by decide) (hts (.fieldLink RX8 37 "ShotBoardModel" "main" "[I") (by decide +kernel)) (.ref (a 10)) rfl dX8_crosses_62 ?_
      refine lv_iload_n hx hb dX8_crosses_65 rfl (lv_at hl 5 rfl) ?_
      refine z_iald hx hb hK hP 10 (st 10) rfl (by omega) (by omega) (by omega) dX8_crosses_66 ?_
      refine z_as (y := LOm st bb) ((if_pos hc2).symm) ?_
      refine lv_goto (tgt := 75) hx hb dX8_crosses_67 (by decide) ?_
      refine lv_istore (lv' := [(7, .int (iZ (LOm st bb))), (6, .int (iZ (HIm st aa))), (5, .int (iZ (LOm st aa))), (0, .ref (a 0)), (1, .int (iZ (aa))), (2, .int (iZ (cc))), (3, .int (iZ (bb))), (4, .int (iZ (dd)))]) hx hb dX8_crosses_75 hl (by decide) rfl (fun ls hl => ?_)
      refine lv_aload_n hx hb dX8_crosses_77 rfl (lv_at hl 3 rfl) ?_
      refine z_get (C := RX8) (T := TX8) (N := 26) (ci := 7) hx hb hts iX8 hown hK hP 0 rfl rfl 13 (by decide) (hts (.fieldLink RX8 37 "ShotBoardModel" "main" "[I") (by decide +kernel)) (.ref (a 10)) rfl dX8_crosses_78 ?_
      refine lv_iload_n hx hb dX8_crosses_81 rfl (lv_at hl 6 rfl) ?_
      refine z_iald hx hb hK hP 10 (st 10) rfl (by omega) (by omega) (by omega) dX8_crosses_82 ?_
      refine lv_aload_n hx hb dX8_crosses_83 rfl (lv_at hl 3 rfl) ?_
      refine lv_iload_n hx hb dX8_crosses_84 rfl (lv_at hl 6 rfl) ?_
      refine z_cVR (q0 := 0) (ci := 7) (As := [.int (iZ (bb))]) (rest := [.int (iZ (st 10 (bb)))]) S (m_X8_other l D g a (st) (bb) hI (by omega) (by omega)) (cwV 1 hts gX8_crosses_X8_other rfl rfl rfl (by decide +kernel) ⟨Nat.le_trans (by decide) hRf, Nat.le_trans (by decide) hRl⟩) hK hP rfl rfl rfl hl.1 rfl (Nat.le_of_ble_eq_true rfl) dX8_crosses_85 ⟨Nat.zero_le _, Nat.zero_le _⟩ ?_
      refine z_as (y := PTm st bb) (rfl) ?_
      refine z_iadd hx hb dX8_crosses_88 ?_
      refine lv_iload hx hb dX8_crosses_89 (lv_at hl 0 rfl) ?_
      refine z_isub hx hb dX8_crosses_91 ?_
      refine z_as (y := HIm st bb) (rfl) ?_
      refine lv_istore (lv' := [(8, .int (iZ (HIm st bb))), (7, .int (iZ (LOm st bb))), (6, .int (iZ (HIm st aa))), (5, .int (iZ (LOm st aa))), (0, .ref (a 0)), (1, .int (iZ (aa))), (2, .int (iZ (cc))), (3, .int (iZ (bb))), (4, .int (iZ (dd)))]) hx hb dX8_crosses_92 hl (by decide) rfl (fun ls hl => ?_)
      refine lv_iload hx hb dX8_crosses_94 (lv_at hl 3 rfl) ?_
      refine lv_iload hx hb dX8_crosses_96 (lv_at hl 1 rfl) ?_
      refine z_icmp_ne (tgt := 137) hx hb (by omega) (by omega) dX8_crosses_98 (by decide) (fun c8 => ?_) (fun c8 => ?_)
      · skip
        have hn := c8
        refine z_iconst hx hb dX8_crosses_137 ?_
        exact K _ _ _ (by first | exact b2_neg (fun z => hn z.1) rfl | exact b2_neg (fun z => hn z.2.1) rfl | exact b2_neg (fun z => absurd z.2.2 (Int.not_lt.mpr hn)) rfl | exact b2_pos ⟨hn1, hn2, hn⟩ rfl) dX8_crosses_138
      · skip
        have hn1 := c8
        refine lv_iload hx hb dX8_crosses_101 (lv_at hl 2 rfl) ?_
        refine lv_iload hx hb dX8_crosses_103 (lv_at hl 0 rfl) ?_
        refine z_icmp_ne (tgt := 137) hx hb (by omega) (by omega) dX8_crosses_105 (by decide) (fun c9 => ?_) (fun c9 => ?_)
        · skip
          have hn := c9
          refine z_iconst hx hb dX8_crosses_137 ?_
          exact K _ _ _ (by first | exact b2_neg (fun z => hn z.1) rfl | exact b2_neg (fun z => hn z.2.1) rfl | exact b2_neg (fun z => absurd z.2.2 (Int.not_lt.mpr hn)) rfl | exact b2_pos ⟨hn1, hn2, hn⟩ rfl) dX8_crosses_138
        · skip
          have hn2 := c9
          refine lv_aload_n hx hb dX8_crosses_108 rfl (lv_at hl 4 rfl) ?_
          refine lv_iload_n hx hb dX8_crosses_109 rfl (lv_at hl 6 rfl) ?_
          refine lv_iload_n hx hb dX8_crosses_110 rfl (lv_at hl 5 rfl) ?_
          refine lv_iload hx hb dX8_crosses_111 (lv_at hl 3 rfl) ?_
          refine lv_iload hx hb dX8_crosses_113 (lv_at hl 2 rfl) ?_
          refine z_cVR (q0 := 0) (ci := 7) (As := [.int (iZ (cc)), .int (iZ (aa)), .int (iZ (LOm st aa)), .int (iZ (HIm st aa))]) (rest := []) S (m_X8_sideOf l D g a (st) (cc) (aa) (LOm st aa) (HIm st aa) hI (by omega) (by omega) (by omega) (by omega)) (cwV 4 hts gX8_crosses_X8_sideOf rfl rfl rfl (by decide +kernel) ⟨Nat.le_trans (by decide) hRf, Nat.le_trans (by decide) hRl⟩) hK hP rfl rfl rfl hl.1 rfl (Nat.le_of_ble_eq_true rfl) dX8_crosses_115 ⟨Nat.zero_le _, Nat.zero_le _⟩ ?_
          have f10 := (show -1 ≤ SDm st (cc) (aa) (LOm st aa) (HIm st aa) ∧ SDm st (cc) (aa) (LOm st aa) (HIm st aa) ≤ 1 from sg_b _)
          refine lv_aload_n hx hb dX8_crosses_118 rfl (lv_at hl 4 rfl) ?_
          refine lv_iload hx hb dX8_crosses_119 (lv_at hl 8 rfl) ?_
          refine lv_iload_n hx hb dX8_crosses_121 rfl (lv_at hl 7 rfl) ?_
          refine lv_iload hx hb dX8_crosses_122 (lv_at hl 3 rfl) ?_
          refine lv_iload hx hb dX8_crosses_124 (lv_at hl 2 rfl) ?_
          refine z_cVR (q0 := 0) (ci := 7) (As := [.int (iZ (dd)), .int (iZ (bb)), .int (iZ (LOm st aa)), .int (iZ (HIm st aa))]) (rest := [.int (iZ (SDm st (cc) (aa) (LOm st aa) (HIm st aa)))]) S (m_X8_sideOf l D g a (st) (dd) (bb) (LOm st aa) (HIm st aa) hI (by omega) (by omega) (by omega) (by omega)) (cwV 4 hts gX8_crosses_X8_sideOf rfl rfl rfl (by decide +kernel) ⟨Nat.le_trans (by decide) hRf, Nat.le_trans (by decide) hRl⟩) hK hP rfl rfl rfl hl.1 rfl (Nat.le_of_ble_eq_true rfl) dX8_crosses_126 ⟨Nat.zero_le _, Nat.zero_le _⟩ ?_
          have f11 := (show -1 ≤ SDm st (dd) (bb) (LOm st aa) (HIm st aa) ∧ SDm st (dd) (bb) (LOm st aa) (HIm st aa) ≤ 1 from sg_b _)
          have g1 := mul_b (x := SDm st cc aa (LOm st aa) (HIm st aa)) (y := SDm st dd bb (LOm st aa) (HIm st aa)) (A := 1) (B := 1) (by omega) (by omega) (by omega) (by omega)
          refine z_imul hx hb dX8_crosses_129 ?_
          refine z_if_ge (tgt := 137) hx hb (by omega) dX8_crosses_130 (by decide) (fun c12 => ?_) (fun c12 => ?_)
          · skip
            have hn := c12
            refine z_iconst hx hb dX8_crosses_137 ?_
            exact K _ _ _ (by first | exact b2_neg (fun z => hn z.1) rfl | exact b2_neg (fun z => hn z.2.1) rfl | exact b2_neg (fun z => absurd z.2.2 (Int.not_lt.mpr hn)) rfl | exact b2_pos ⟨hn1, hn2, hn⟩ rfl) dX8_crosses_138
          · skip
            have hn := c12
            refine z_iconst hx hb dX8_crosses_133 ?_
            refine lv_goto (tgt := 138) hx hb dX8_crosses_134 (by decide) ?_
            exact K _ _ _ (by first | exact b2_neg (fun z => hn z.1) rfl | exact b2_neg (fun z => hn z.2.1) rfl | exact b2_neg (fun z => absurd z.2.2 (Int.not_lt.mpr hn)) rfl | exact b2_pos ⟨hn1, hn2, hn⟩ rfl) dX8_crosses_138
  · skip
    have hc1 := c1
    refine lv_aload_n hx hb dX8_crosses_14 rfl (lv_at hl 0 rfl) ?_
    refine z_get (C := RX8) (T := TX8) (N := 26) (ci := 7) hx hb hts iX8 hown hK hP 0 rfl rfl 13 (by decide) (hts (.fieldLink RX8 37 "ShotBoardModel" "main" "[I") (by decide +kernel)) (.ref (a 10)) rfl dX8_crosses_15 ?_
    refine lv_iload_n hx hb dX8_crosses_18 rfl (lv_at hl 1 rfl) ?_
    refine z_iald hx hb hK hP 10 (st 10) rfl (by omega) (by omega) (by omega) dX8_crosses_19 ?_
    refine z_as (y := LOm st aa) ((if_pos hc1).symm) ?_
    refine lv_goto (tgt := 28) hx hb dX8_crosses_20 (by decide) ?_
    refine lv_istore (lv' := [(5, .int (iZ (LOm st aa))), (0, .ref (a 0)), (1, .int (iZ (aa))), (2, .int (iZ (cc))), (3, .int (iZ (bb))), (4, .int (iZ (dd)))]) hx hb dX8_crosses_28 hl (by decide) rfl (fun ls hl => ?_)
    refine lv_aload_n hx hb dX8_crosses_30 rfl (lv_at hl 1 rfl) ?_
    refine z_get (C := RX8) (T := TX8) (N := 26) (ci := 7) hx hb hts iX8 hown hK hP 0 rfl rfl 13 (by decide) (hts (.fieldLink RX8 37 "ShotBoardModel" "main" "[I") (by decide +kernel)) (.ref (a 10)) rfl dX8_crosses_31 ?_
    refine lv_iload_n hx hb dX8_crosses_34 rfl (lv_at hl 2 rfl) ?_
    refine z_iald hx hb hK hP 10 (st 10) rfl (by omega) (by omega) (by omega) dX8_crosses_35 ?_
    refine lv_aload_n hx hb dX8_crosses_36 rfl (lv_at hl 1 rfl) ?_
    refine lv_iload_n hx hb dX8_crosses_37 rfl (lv_at hl 2 rfl) ?_
    refine z_cVR (q0 := 0) (ci := 7) (As := [.int (iZ (aa))]) (rest := [.int (iZ (st 10 (aa)))]) S (m_X8_other l D g a (st) (aa) hI (by omega) (by omega)) (cwV 1 hts gX8_crosses_X8_other rfl rfl rfl (by decide +kernel) ⟨Nat.le_trans (by decide) hRf, Nat.le_trans (by decide) hRl⟩) hK hP rfl rfl rfl hl.1 rfl (Nat.le_of_ble_eq_true rfl) dX8_crosses_38 ⟨Nat.zero_le _, Nat.zero_le _⟩ ?_
    refine z_as (y := PTm st aa) (rfl) ?_
    refine z_iadd hx hb dX8_crosses_41 ?_
    refine lv_iload hx hb dX8_crosses_42 (lv_at hl 0 rfl) ?_
    refine z_isub hx hb dX8_crosses_44 ?_
    refine z_as (y := HIm st aa) (rfl) ?_
    refine lv_istore (lv' := [(6, .int (iZ (HIm st aa))), (5, .int (iZ (LOm st aa))), (0, .ref (a 0)), (1, .int (iZ (aa))), (2, .int (iZ (cc))), (3, .int (iZ (bb))), (4, .int (iZ (dd)))]) hx hb dX8_crosses_45 hl (by decide) rfl (fun ls hl => ?_)
    refine lv_aload_n hx hb dX8_crosses_47 rfl (lv_at hl 2 rfl) ?_
    refine z_get (C := RX8) (T := TX8) (N := 26) (ci := 7) hx hb hts iX8 hown hK hP 0 rfl rfl 13 (by decide) (hts (.fieldLink RX8 37 "ShotBoardModel" "main" "[I") (by decide +kernel)) (.ref (a 10)) rfl dX8_crosses_48 ?_
    refine lv_iload_n hx hb dX8_crosses_51 rfl (lv_at hl 5 rfl) ?_
    refine z_iald hx hb hK hP 10 (st 10) rfl (by omega) (by omega) (by omega) dX8_crosses_52 ?_
    refine lv_aload_n hx hb dX8_crosses_53 rfl (lv_at hl 2 rfl) ?_
    refine lv_iload_n hx hb dX8_crosses_54 rfl (lv_at hl 5 rfl) ?_
    refine z_cVR (q0 := 0) (ci := 7) (As := [.int (iZ (bb))]) (rest := [.int (iZ (st 10 (bb)))]) S (m_X8_other l D g a (st) (bb) hI (by omega) (by omega)) (cwV 1 hts gX8_crosses_X8_other rfl rfl rfl (by decide +kernel) ⟨Nat.le_trans (by decide) hRf, Nat.le_trans (by decide) hRl⟩) hK hP rfl rfl rfl hl.1 rfl (Nat.le_of_ble_eq_true rfl) dX8_crosses_55 ⟨Nat.zero_le _, Nat.zero_le _⟩ ?_
    refine z_as (y := PTm st bb) (rfl) ?_
    refine z_icmp_ge (tgt := 70) hx hb (by omega) (by omega) dX8_crosses_58 (by decide) (fun c13 => ?_) (fun c13 => ?_)
    · skip
      have hc2 := c13
      refine lv_aload_n hx hb dX8_crosses_70 rfl (lv_at hl 2 rfl) ?_
      refine lv_iload_n hx hb dX8_crosses_71 rfl (lv_at hl 5 rfl) ?_
      refine z_cVR (q0 := 0) (ci := 7) (As := [.int (iZ (bb))]) (rest := []) S (m_X8_other l D g a (st) (bb) hI (by omega) (by omega)) (cwV 1 hts gX8_crosses_X8_other rfl rfl rfl (by decide +kernel) ⟨Nat.le_trans (by decide) hRf, Nat.le_trans (by decide) hRl⟩) hK hP rfl rfl rfl hl.1 rfl (Nat.le_of_ble_eq_true rfl) dX8_crosses_72 ⟨Nat.zero_le _, Nat.zero_le _⟩ ?_
      refine z_as (y := LOm st bb) ((if_neg (Int.not_lt.mpr hc2)).symm) ?_
      refine lv_istore (lv' := [(7, .int (iZ (LOm st bb))), (6, .int (iZ (HIm st aa))), (5, .int (iZ (LOm st aa))), (0, .ref (a 0)), (1, .int (iZ (aa))), (2, .int (iZ (cc))), (3, .int (iZ (bb))), (4, .int (iZ (dd)))]) hx hb dX8_crosses_75 hl (by decide) rfl (fun ls hl => ?_)
      refine lv_aload_n hx hb dX8_crosses_77 rfl (lv_at hl 3 rfl) ?_
      refine z_get (C := RX8) (T := TX8) (N := 26) (ci := 7) hx hb hts iX8 hown hK hP 0 rfl rfl 13 (by decide) (hts (.fieldLink RX8 37 "ShotBoardModel" "main" "[I") (by decide +kernel)) (.ref (a 10)) rfl dX8_crosses_78 ?_
      refine lv_iload_n hx hb dX8_crosses_81 rfl (lv_at hl 6 rfl) ?_
      refine z_iald hx hb hK hP 10 (st 10) rfl (by omega) (by omega) (by omega) dX8_crosses_82 ?_
      refine lv_aload_n hx hb dX8_crosses_83 rfl (lv_at hl 3 rfl) ?_
      refine lv_iload_n hx hb dX8_crosses_84 rfl (lv_at hl 6 rfl) ?_
      refine z_cVR (q0 := 0) (ci := 7) (As := [.int (iZ (bb))]) (rest := [.int (iZ (st 10 (bb)))]) S (m_X8_other l D g a (st) (bb) hI (by omega) (by omega)) (cwV 1 hts gX8_crosses_X8_other rfl rfl rfl (by decide +kernel) ⟨Nat.le_trans (by decide) hRf, Nat.le_trans (by decide) hRl⟩) hK hP rfl rfl rfl hl.1 rfl (Nat.le_of_ble_eq_true rfl) dX8_crosses_85 ⟨Nat.zero_le _, Nat.zero_le _⟩ ?_
      refine z_as (y := PTm st bb) (rfl) ?_
      refine z_iadd hx hb dX8_crosses_88 ?_
      refine lv_iload hx hb dX8_crosses_89 (lv_at hl 0 rfl) ?_
      refine z_isub hx hb dX8_crosses_91 ?_
      refine z_as (y := HIm st bb) (rfl) ?_
      refine lv_istore (lv' := [(8, .int (iZ (HIm st bb))), (7, .int (iZ (LOm st bb))), (6, .int (iZ (HIm st aa))), (5, .int (iZ (LOm st aa))), (0, .ref (a 0)), (1, .int (iZ (aa))), (2, .int (iZ (cc))), (3, .int (iZ (bb))), (4, .int (iZ (dd)))]) hx hb dX8_crosses_92 hl (by decide) rfl (fun ls hl => ?_)
      refine lv_iload hx hb dX8_crosses_94 (lv_at hl 3 rfl) ?_
      refine lv_iload hx hb dX8_crosses_96 (lv_at hl 1 rfl) ?_
      refine z_icmp_ne (tgt := 137) hx hb (by omega) (by omega) dX8_crosses_98 (by decide) (fun c14 => ?_) (fun c14 => ?_)
      · skip
        have hn := c14
        refine z_iconst hx hb dX8_crosses_137 ?_
        exact K _ _ _ (by first | exact b2_neg (fun z => hn z.1) rfl | exact b2_neg (fun z => hn z.2.1) rfl | exact b2_neg (fun z => absurd z.2.2 (Int.not_lt.mpr hn)) rfl | exact b2_pos ⟨hn1, hn2, hn⟩ rfl) dX8_crosses_138
      · skip
        have hn1 := c14
        refine lv_iload hx hb dX8_crosses_101 (lv_at hl 2 rfl) ?_
        refine lv_iload hx hb dX8_crosses_103 (lv_at hl 0 rfl) ?_
        refine z_icmp_ne (tgt := 137) hx hb (by omega) (by omega) dX8_crosses_105 (by decide) (fun c15 => ?_) (fun c15 => ?_)
        · skip
          have hn := c15
          refine z_iconst hx hb dX8_crosses_137 ?_
          exact K _ _ _ (by first | exact b2_neg (fun z => hn z.1) rfl | exact b2_neg (fun z => hn z.2.1) rfl | exact b2_neg (fun z => absurd z.2.2 (Int.not_lt.mpr hn)) rfl | exact b2_pos ⟨hn1, hn2, hn⟩ rfl) dX8_crosses_138
        · skip
          have hn2 := c15
          refine lv_aload_n hx hb dX8_crosses_108 rfl (lv_at hl 4 rfl) ?_
          refine lv_iload_n hx hb dX8_crosses_109 rfl (lv_at hl 6 rfl) ?_
          refine lv_iload_n hx hb dX8_crosses_110 rfl (lv_at hl 5 rfl) ?_
          refine lv_iload hx hb dX8_crosses_111 (lv_at hl 3 rfl) ?_
          refine lv_iload hx hb dX8_crosses_113 (lv_at hl 2 rfl) ?_
          refine z_cVR (q0 := 0) (ci := 7) (As := [.int (iZ (cc)), .int (iZ (aa)), .int (iZ (LOm st aa)), .int (iZ (HIm st aa))]) (rest := []) S (m_X8_sideOf l D g a (st) (cc) (aa) (LOm st aa) (HIm st aa) hI (by omega) (by omega) (by omega) (by omega)) (cwV 4 hts gX8_crosses_X8_sideOf rfl rfl rfl (by decide +kernel) ⟨Nat.le_trans (by decide) hRf, Nat.le_trans (by decide) hRl⟩) hK hP rfl rfl rfl hl.1 rfl (Nat.le_of_ble_eq_true rfl) dX8_crosses_115 ⟨Nat.zero_le _, Nat.zero_le _⟩ ?_
          have f16 := (show -1 ≤ SDm st (cc) (aa) (LOm st aa) (HIm st aa) ∧ SDm st (cc) (aa) (LOm st aa) (HIm st aa) ≤ 1 from sg_b _)
          refine lv_aload_n hx hb dX8_crosses_118 rfl (lv_at hl 4 rfl) ?_
          refine lv_iload hx hb dX8_crosses_119 (lv_at hl 8 rfl) ?_
          refine lv_iload_n hx hb dX8_crosses_121 rfl (lv_at hl 7 rfl) ?_
          refine lv_iload hx hb dX8_crosses_122 (lv_at hl 3 rfl) ?_
          refine lv_iload hx hb dX8_crosses_124 (lv_at hl 2 rfl) ?_
          refine z_cVR (q0 := 0) (ci := 7) (As := [.int (iZ (dd)), .int (iZ (bb)), .int (iZ (LOm st aa)), .int (iZ (HIm st aa))]) (rest := [.int (iZ (SDm st (cc) (aa) (LOm st aa) (HIm st aa)))]) S (m_X8_sideOf l D g a (st) (dd) (bb) (LOm st aa) (HIm st aa) hI (by omega) (by omega) (by omega) (by omega)) (cwV 4 hts gX8_crosses_X8_sideOf rfl rfl rfl (by decide +kernel) ⟨Nat.le_trans (by decide) hRf, Nat.le_trans (by decide) hRl⟩) hK hP rfl rfl rfl hl.1 rfl (Nat.le_of_ble_eq_true rfl) dX8_crosses_126 ⟨Nat.zero_le _, Nat.zero_le _⟩ ?_
          have f17 := (show -1 ≤ SDm st (dd) (bb) (LOm st aa) (HIm st aa) ∧ SDm st (dd) (bb) (LOm st aa) (HIm st aa) ≤ 1 from sg_b _)
          have g1 := mul_b (x := SDm st cc aa (LOm st aa) (HIm st aa)) (y := SDm st dd bb (LOm st aa) (HIm st aa)) (A := 1) (B := 1) (by omega) (by omega) (by omega) (by omega)
          refine z_imul hx hb dX8_crosses_129 ?_
          refine z_if_ge (tgt := 137) hx hb (by omega) dX8_crosses_130 (by decide) (fun c18 => ?_) (fun c18 => ?_)
          · skip
            have hn := c18
            refine z_iconst hx hb dX8_crosses_137 ?_
            exact K _ _ _ (by first | exact b2_neg (fun z => hn z.1) rfl | exact b2_neg (fun z => hn z.2.1) rfl | exact b2_neg (fun z => absurd z.2.2 (Int.not_lt.mpr hn)) rfl | exact b2_pos ⟨hn1, hn2, hn⟩ rfl) dX8_crosses_138
          · skip
            have hn := c18
            refine z_iconst hx hb dX8_crosses_133 ?_
            refine lv_goto (tgt := 138) hx hb dX8_crosses_134 (by decide) ?_
            exact K _ _ _ (by first | exact b2_neg (fun z => hn z.1) rfl | exact b2_neg (fun z => hn z.2.1) rfl | exact b2_neg (fun z => absurd z.2.2 (Int.not_lt.mpr hn)) rfl | exact b2_pos ⟨hn1, hn2, hn⟩ rfl) dX8_crosses_138
    · skip
      have hc2 := c13
      refine lv_aload_n hx hb dX8_crosses_61 rfl (lv_at hl 2 rfl) ?_
      refine z_get (C := RX8) (T := TX8) (N := 26) (ci := 7) hx hb hts iX8 hown hK hP 0 rfl rfl 13 (by decide) (hts (.fieldLink RX8 37 "ShotBoardModel" "main" "[I") (by decide +kernel)) (.ref (a 10)) rfl dX8_crosses_62 ?_
      refine lv_iload_n hx hb dX8_crosses_65 rfl (lv_at hl 5 rfl) ?_
      refine z_iald hx hb hK hP 10 (st 10) rfl (by omega) (by omega) (by omega) dX8_crosses_66 ?_
      refine z_as (y := LOm st bb) ((if_pos hc2).symm) ?_
      refine lv_goto (tgt := 75) hx hb dX8_crosses_67 (by decide) ?_
      refine lv_istore (lv' := [(7, .int (iZ (LOm st bb))), (6, .int (iZ (HIm st aa))), (5, .int (iZ (LOm st aa))), (0, .ref (a 0)), (1, .int (iZ (aa))), (2, .int (iZ (cc))), (3, .int (iZ (bb))), (4, .int (iZ (dd)))]) hx hb dX8_crosses_75 hl (by decide) rfl (fun ls hl => ?_)
      refine lv_aload_n hx hb dX8_crosses_77 rfl (lv_at hl 3 rfl) ?_
      refine z_get (C := RX8) (T := TX8) (N := 26) (ci := 7) hx hb hts iX8 hown hK hP 0 rfl rfl 13 (by decide) (hts (.fieldLink RX8 37 "ShotBoardModel" "main" "[I") (by decide +kernel)) (.ref (a 10)) rfl dX8_crosses_78 ?_
      refine lv_iload_n hx hb dX8_crosses_81 rfl (lv_at hl 6 rfl) ?_
      refine z_iald hx hb hK hP 10 (st 10) rfl (by omega) (by omega) (by omega) dX8_crosses_82 ?_
      refine lv_aload_n hx hb dX8_crosses_83 rfl (lv_at hl 3 rfl) ?_
      refine lv_iload_n hx hb dX8_crosses_84 rfl (lv_at hl 6 rfl) ?_
      refine z_cVR (q0 := 0) (ci := 7) (As := [.int (iZ (bb))]) (rest := [.int (iZ (st 10 (bb)))]) S (m_X8_other l D g a (st) (bb) hI (by omega) (by omega)) (cwV 1 hts gX8_crosses_X8_other rfl rfl rfl (by decide +kernel) ⟨Nat.le_trans (by decide) hRf, Nat.le_trans (by decide) hRl⟩) hK hP rfl rfl rfl hl.1 rfl (Nat.le_of_ble_eq_true rfl) dX8_crosses_85 ⟨Nat.zero_le _, Nat.zero_le _⟩ ?_
      refine z_as (y := PTm st bb) (rfl) ?_
      refine z_iadd hx hb dX8_crosses_88 ?_
      refine lv_iload hx hb dX8_crosses_89 (lv_at hl 0 rfl) ?_
      refine z_isub hx hb dX8_crosses_91 ?_
      refine z_as (y := HIm st bb) (rfl) ?_
      refine lv_istore (lv' := [(8, .int (iZ (HIm st bb))), (7, .int (iZ (LOm st bb))), (6, .int (iZ (HIm st aa))), (5, .int (iZ (LOm st aa))), (0, .ref (a 0)), (1, .int (iZ (aa))), (2, .int (iZ (cc))), (3, .int (iZ (bb))), (4, .int (iZ (dd)))]) hx hb dX8_crosses_92 hl (by decide) rfl (fun ls hl => ?_)
      refine lv_iload hx hb dX8_crosses_94 (lv_at hl 3 rfl) ?_
      refine lv_iload hx hb dX8_crosses_96 (lv_at hl 1 rfl) ?_
      refine z_icmp_ne (tgt := 137) hx hb (by omega) (by omega) dX8_crosses_98 (by decide) (fun c19 => ?_) (fun c19 => ?_)
      · skip
        have hn := c19
        refine z_iconst hx hb dX8_crosses_137 ?_
        exact K _ _ _ (by first | exact b2_neg (fun z => hn z.1) rfl | exact b2_neg (fun z => hn z.2.1) rfl | exact b2_neg (fun z => absurd z.2.2 (Int.not_lt.mpr hn)) rfl | exact b2_pos ⟨hn1, hn2, hn⟩ rfl) dX8_crosses_138
      · skip
        have hn1 := c19
        refine lv_iload hx hb dX8_crosses_101 (lv_at hl 2 rfl) ?_
        refine lv_iload hx hb dX8_crosses_103 (lv_at hl 0 rfl) ?_
        refine z_icmp_ne (tgt := 137) hx hb (by omega) (by omega) dX8_crosses_105 (by decide) (fun c20 => ?_) (fun c20 => ?_)
        · skip
          have hn := c20
          refine z_iconst hx hb dX8_crosses_137 ?_
          exact K _ _ _ (by first | exact b2_neg (fun z => hn z.1) rfl | exact b2_neg (fun z => hn z.2.1) rfl | exact b2_neg (fun z => absurd z.2.2 (Int.not_lt.mpr hn)) rfl | exact b2_pos ⟨hn1, hn2, hn⟩ rfl) dX8_crosses_138
        · skip
          have hn2 := c20
          refine lv_aload_n hx hb dX8_crosses_108 rfl (lv_at hl 4 rfl) ?_
          refine lv_iload_n hx hb dX8_crosses_109 rfl (lv_at hl 6 rfl) ?_
          refine lv_iload_n hx hb dX8_crosses_110 rfl (lv_at hl 5 rfl) ?_
          refine lv_iload hx hb dX8_crosses_111 (lv_at hl 3 rfl) ?_
          refine lv_iload hx hb dX8_crosses_113 (lv_at hl 2 rfl) ?_
          refine z_cVR (q0 := 0) (ci := 7) (As := [.int (iZ (cc)), .int (iZ (aa)), .int (iZ (LOm st aa)), .int (iZ (HIm st aa))]) (rest := []) S (m_X8_sideOf l D g a (st) (cc) (aa) (LOm st aa) (HIm st aa) hI (by omega) (by omega) (by omega) (by omega)) (cwV 4 hts gX8_crosses_X8_sideOf rfl rfl rfl (by decide +kernel) ⟨Nat.le_trans (by decide) hRf, Nat.le_trans (by decide) hRl⟩) hK hP rfl rfl rfl hl.1 rfl (Nat.le_of_ble_eq_true rfl) dX8_crosses_115 ⟨Nat.zero_le _, Nat.zero_le _⟩ ?_
          have f21 := (show -1 ≤ SDm st (cc) (aa) (LOm st aa) (HIm st aa) ∧ SDm st (cc) (aa) (LOm st aa) (HIm st aa) ≤ 1 from sg_b _)
          refine lv_aload_n hx hb dX8_crosses_118 rfl (lv_at hl 4 rfl) ?_
          refine lv_iload hx hb dX8_crosses_119 (lv_at hl 8 rfl) ?_
          refine lv_iload_n hx hb dX8_crosses_121 rfl (lv_at hl 7 rfl) ?_
          refine lv_iload hx hb dX8_crosses_122 (lv_at hl 3 rfl) ?_
          refine lv_iload hx hb dX8_crosses_124 (lv_at hl 2 rfl) ?_
          refine z_cVR (q0 := 0) (ci := 7) (As := [.int (iZ (dd)), .int (iZ (bb)), .int (iZ (LOm st aa)), .int (iZ (HIm st aa))]) (rest := [.int (iZ (SDm st (cc) (aa) (LOm st aa) (HIm st aa)))]) S (m_X8_sideOf l D g a (st) (dd) (bb) (LOm st aa) (HIm st aa) hI (by omega) (by omega) (by omega) (by omega)) (cwV 4 hts gX8_crosses_X8_sideOf rfl rfl rfl (by decide +kernel) ⟨Nat.le_trans (by decide) hRf, Nat.le_trans (by decide) hRl⟩) hK hP rfl rfl rfl hl.1 rfl (Nat.le_of_ble_eq_true rfl) dX8_crosses_126 ⟨Nat.zero_le _, Nat.zero_le _⟩ ?_
          have f22 := (show -1 ≤ SDm st (dd) (bb) (LOm st aa) (HIm st aa) ∧ SDm st (dd) (bb) (LOm st aa) (HIm st aa) ≤ 1 from sg_b _)
          have g1 := mul_b (x := SDm st cc aa (LOm st aa) (HIm st aa)) (y := SDm st dd bb (LOm st aa) (HIm st aa)) (A := 1) (B := 1) (by omega) (by omega) (by omega) (by omega)
          refine z_imul hx hb dX8_crosses_129 ?_
          refine z_if_ge (tgt := 137) hx hb (by omega) dX8_crosses_130 (by decide) (fun c23 => ?_) (fun c23 => ?_)
          · skip
            have hn := c23
            refine z_iconst hx hb dX8_crosses_137 ?_
            exact K _ _ _ (by first | exact b2_neg (fun z => hn z.1) rfl | exact b2_neg (fun z => hn z.2.1) rfl | exact b2_neg (fun z => absurd z.2.2 (Int.not_lt.mpr hn)) rfl | exact b2_pos ⟨hn1, hn2, hn⟩ rfl) dX8_crosses_138
          · skip
            have hn := c23
            refine z_iconst hx hb dX8_crosses_133 ?_
            refine lv_goto (tgt := 138) hx hb dX8_crosses_134 (by decide) ?_
            exact K _ _ _ (by first | exact b2_neg (fun z => hn z.1) rfl | exact b2_neg (fun z => hn z.2.1) rfl | exact b2_neg (fun z => absurd z.2.2 (Int.not_lt.mpr hn)) rfl | exact b2_pos ⟨hn1, hn2, hn⟩ rfl) dX8_crosses_138
abbrev rX8_goes : Room := { frames := 4, cells := 0, slots := 0, locals := 95 }
set_option maxHeartbeats 4000000 in
set_option maxRecDepth 100000 in
theorem m_X8_goes (l : Launch) (D : va_G) (g : Nat → ClassId) (a : Nat → Nat) (st : SS) (bb : Int) (la : Int) (cc : Int) (se : Int) (hI : IM st) (hQ : IS st) (h1 : 0 ≤ bb ∧ bb < st 0 3) (h2 : 0 ≤ la ∧ la ≤ 10) (h3 : 0 ≤ cc ∧ cc < 10) (h4 : 0 ≤ se ∧ se < 1024) : Met l yX8_goes wsX8_goes rX8_goes (PcR D g (WM g a st) [.ref (a 0), .int (iZ (bb)), .int (iZ (la)), .int (iZ (cc)), .int (iZ (se))]) (QcRead (iZ (b2 (GOES st bb la cc se)))) 0 0 (fun _ => False) := by
  refine metR (cc := cX8_goes) (maxL := 6) (ret := (some .boolean)) (own := RX8) (by decide) rfl rfl (Nat.le_of_ble_eq_true rfl) (Or.inr ⟨rfl, b2_01 _⟩) ?_
  intro p e R s m args below meth c Q ls S hRf hRl hK hP hl K
  have hx := S.1
  have hb := S.2.1
  have hown := S.2.2.2.1
  have hts := S.2.2.2.2
  have hRf : 4 ≤ R.frames := hRf
  have hRl : 95 ≤ R.locals := hRl
  have hl : lv_has ls 6 [(0, .ref (a 0)), (1, .int (iZ (bb))), (2, .int (iZ (la))), (3, .int (iZ (cc))), (4, .int (iZ (se)))] := hl
  have iX8 : ∀ w ∈ wsX80, w ∈ wsX8_goes := by decide +kernel
  have hB := hI.s
  have hbR := hI.bd bb (by omega) (by omega)
  have hta := TA_b st bb (by omega)
  refine lv_iload hx hb dX8_goes_0 (lv_at hl 4 rfl) ?_
  refine lv_iload_n hx hb dX8_goes_2 rfl (lv_at hl 3 rfl) ?_
  refine z_ishr hx hb dX8_goes_3 ?_
  refine z_iconst hx hb dX8_goes_4 ?_
  refine z_iand hx hb dX8_goes_5 ?_
  refine z_as (y := b2 (bt se cc)) (bit_z (by omega) (by omega) (by omega) (by omega)) ?_
  refine z_iconst hx hb dX8_goes_6 ?_
  refine z_icmp_ne (tgt := 28) hx hb (b2_rg _) (by decide) dX8_goes_7 (by decide) (fun c1 => ?_) (fun c1 => ?_)
  · skip
    have c1 := b2_n1 c1
    have hn : ¬ (bt se cc ∧ st 17 (8 * cc + bb) = 1) := fun z => c1 z.1
    refine z_iconst hx hb dX8_goes_28 ?_
    refine lv_istore (lv' := [(5, .int (iZ (0))), (0, .ref (a 0)), (1, .int (iZ (bb))), (2, .int (iZ (la))), (3, .int (iZ (cc))), (4, .int (iZ (se)))]) hx hb dX8_goes_29 hl (by decide) rfl (fun ls hl => ?_)
    refine lv_iload hx hb dX8_goes_31 (lv_at hl 0 rfl) ?_
    refine z_if_eq (tgt := 78) hx hb (by decide) dX8_goes_33 (by decide) (fun c2 => ?_) (fun c2 => ?_)
    · skip
      refine lv_iload hx hb dX8_goes_78 (lv_at hl 0 rfl) ?_
      refine z_if_eq (tgt := 117) hx hb (by decide) dX8_goes_80 (by decide) (fun c3 => ?_) (fun c3 => ?_)
      · skip
        refine z_iconst hx hb dX8_goes_117 ?_
        exact K _ _ _ (by first | exact b2_neg (fun z => hn z.1.1) rfl | exact b2_pos ⟨⟨hbs, hcx⟩, by rw [hgi]; omega⟩ rfl | exact b2_neg (fun z => by have := z.2; rw [hgi] at this; omega) rfl) dX8_goes_118
      · skip
        exact absurd c3 (by decide)
    · skip
      exact absurd c2 (by decide)
  · skip
    have c1 := b2_1 c1
    have hb7 := c1
    refine lv_aload_n hx hb dX8_goes_10 rfl (lv_at hl 0 rfl) ?_
    refine z_get (C := RX8) (T := TX8) (N := 26) (ci := 7) hx hb hts iX8 hown hK hP 0 rfl rfl 22 (by decide) (hts (.fieldLink RX8 62 "ShotBoardModel" "giving" "[Z") (by decide +kernel)) (.ref (a 17)) rfl dX8_goes_11 ?_
    refine z_bipush hx hb dX8_goes_14 (by decide +kernel) ?_
    refine lv_iload_n hx hb dX8_goes_16 rfl (lv_at hl 3 rfl) ?_
    refine z_imul hx hb dX8_goes_17 ?_
    refine lv_iload_n hx hb dX8_goes_18 rfl (lv_at hl 1 rfl) ?_
    refine z_iadd hx hb dX8_goes_19 ?_
    refine z_zald hx hb hK hP 17 (st 17) rfl (by omega) (by omega) (by omega) dX8_goes_20 ?_
    have f4 := hQ.c17 (((8) * (cc)) + (bb)) (by omega) (by omega)
    refine z_if_eq (tgt := 28) hx hb (by omega) dX8_goes_21 (by decide) (fun c5 => ?_) (fun c5 => ?_)
    · skip
      have hn : ¬ (bt se cc ∧ st 17 (8 * cc + bb) = 1) := fun z => by have := z.2; omega
      refine z_iconst hx hb dX8_goes_28 ?_
      refine lv_istore (lv' := [(5, .int (iZ (0))), (0, .ref (a 0)), (1, .int (iZ (bb))), (2, .int (iZ (la))), (3, .int (iZ (cc))), (4, .int (iZ (se)))]) hx hb dX8_goes_29 hl (by decide) rfl (fun ls hl => ?_)
      refine lv_iload hx hb dX8_goes_31 (lv_at hl 0 rfl) ?_
      refine z_if_eq (tgt := 78) hx hb (by decide) dX8_goes_33 (by decide) (fun c6 => ?_) (fun c6 => ?_)
      · skip
        refine lv_iload hx hb dX8_goes_78 (lv_at hl 0 rfl) ?_
        refine z_if_eq (tgt := 117) hx hb (by decide) dX8_goes_80 (by decide) (fun c7 => ?_) (fun c7 => ?_)
        · skip
          refine z_iconst hx hb dX8_goes_117 ?_
          exact K _ _ _ (by first | exact b2_neg (fun z => hn z.1.1) rfl | exact b2_pos ⟨⟨hbs, hcx⟩, by rw [hgi]; omega⟩ rfl | exact b2_neg (fun z => by have := z.2; rw [hgi] at this; omega) rfl) dX8_goes_118
        · skip
          exact absurd c7 (by decide)
      · skip
        exact absurd c6 (by decide)
    · skip
      have hbs : bt se cc ∧ st 17 (8 * cc + bb) = 1 := ⟨hb7, by omega⟩
      refine z_iconst hx hb dX8_goes_24 ?_
      refine lv_goto (tgt := 29) hx hb dX8_goes_25 (by decide) ?_
      refine lv_istore (lv' := [(5, .int (iZ (1))), (0, .ref (a 0)), (1, .int (iZ (bb))), (2, .int (iZ (la))), (3, .int (iZ (cc))), (4, .int (iZ (se)))]) hx hb dX8_goes_29 hl (by decide) rfl (fun ls hl => ?_)
      refine lv_iload hx hb dX8_goes_31 (lv_at hl 0 rfl) ?_
      refine z_if_eq (tgt := 78) hx hb (by decide) dX8_goes_33 (by decide) (fun c8 => ?_) (fun c8 => ?_)
      · skip
        exact absurd c8 (by decide)
      · skip
        refine lv_aload_n hx hb dX8_goes_36 rfl (lv_at hl 1 rfl) ?_
        refine z_get (C := RX8) (T := TX8) (N := 26) (ci := 7) hx hb hts iX8 hown hK hP 0 rfl rfl 12 (by decide) (hts (.fieldLink RX8 34 "ShotBoardModel" "kind" "[I") (by decide +kernel)) (.ref (a 9)) rfl dX8_goes_37 ?_
        refine lv_iload_n hx hb dX8_goes_40 rfl (lv_at hl 2 rfl) ?_
        refine z_iald hx hb hK hP 9 (st 9) rfl (by omega) (by omega) (by omega) dX8_goes_41 ?_
        refine z_iconst hx hb dX8_goes_42 ?_
        refine z_icmp_ne (tgt := 78) hx hb (by omega) (by decide) dX8_goes_43 (by decide) (fun c9 => ?_) (fun c9 => ?_)
        · skip
          have hcx : ¬ (st 9 bb = 1 ∧ la < 10 ∧ TA st bb ≠ -1 ∧ CRSm st (TA st bb) la bb cc) := fun z => c9 z.1
          refine lv_iload hx hb dX8_goes_78 (lv_at hl 0 rfl) ?_
          refine z_if_eq (tgt := 117) hx hb (by decide) dX8_goes_80 (by decide) (fun c10 => ?_) (fun c10 => ?_)
          · skip
            exact absurd c10 (by decide)
          · skip
            refine lv_aload_n hx hb dX8_goes_83 rfl (lv_at hl 1 rfl) ?_
            refine z_get (C := RX8) (T := TX8) (N := 26) (ci := 7) hx hb hts iX8 hown hK hP 0 rfl rfl 23 (by decide) (hts (.fieldLink RX8 66 "ShotBoardModel" "canGo" "[Z") (by decide +kernel)) (.ref (a 18)) rfl dX8_goes_84 ?_
            refine z_bipush hx hb dX8_goes_87 (by decide +kernel) ?_
            refine lv_iload_n hx hb dX8_goes_89 rfl (lv_at hl 2 rfl) ?_
            refine z_iconst hx hb dX8_goes_90 ?_
            refine z_iadd hx hb dX8_goes_91 ?_
            refine z_imul hx hb dX8_goes_92 ?_
            refine lv_aload_n hx hb dX8_goes_93 rfl (lv_at hl 1 rfl) ?_
            refine z_get (C := RX8) (T := TX8) (N := 26) (ci := 7) hx hb hts iX8 hown hK hP 0 rfl rfl 12 (by decide) (hts (.fieldLink RX8 34 "ShotBoardModel" "kind" "[I") (by decide +kernel)) (.ref (a 9)) rfl dX8_goes_94 ?_
            refine lv_iload_n hx hb dX8_goes_97 rfl (lv_at hl 2 rfl) ?_
            refine z_iald hx hb hK hP 9 (st 9) rfl (by omega) (by omega) (by omega) dX8_goes_98 ?_
            refine z_iconst hx hb dX8_goes_99 ?_
            refine z_icmp_ne (tgt := 107) hx hb (by omega) (by decide) dX8_goes_100 (by decide) (fun c11 => ?_) (fun c11 => ?_)
            · skip
              have hgi : (if st 9 bb = 1 then cc else la) = la := if_neg c11
              refine lv_iload_n hx hb dX8_goes_107 rfl (lv_at hl 3 rfl) ?_
              refine z_iadd hx hb dX8_goes_108 ?_
              refine z_zald hx hb hK hP 18 (st 18) rfl (by omega) (by omega) (by omega) dX8_goes_109 ?_
              have f12 := hQ.c18 (((11) * ((bb) + (1))) + (la)) (by omega) (by omega)
              refine z_if_eq (tgt := 117) hx hb (by omega) dX8_goes_110 (by decide) (fun c13 => ?_) (fun c13 => ?_)
              · skip
                have hgo := c13
                refine z_iconst hx hb dX8_goes_117 ?_
                exact K _ _ _ (by first | exact b2_neg (fun z => hn z.1.1) rfl | exact b2_pos ⟨⟨hbs, hcx⟩, by rw [hgi]; omega⟩ rfl | exact b2_neg (fun z => by have := z.2; rw [hgi] at this; omega) rfl) dX8_goes_118
              · skip
                have hgo := c13
                refine z_iconst hx hb dX8_goes_113 ?_
                refine lv_goto (tgt := 118) hx hb dX8_goes_114 (by decide) ?_
                exact K _ _ _ (by first | exact b2_neg (fun z => hn z.1.1) rfl | exact b2_pos ⟨⟨hbs, hcx⟩, by rw [hgi]; omega⟩ rfl | exact b2_neg (fun z => by have := z.2; rw [hgi] at this; omega) rfl) dX8_goes_118
            · skip
              have hgi : (if st 9 bb = 1 then cc else la) = cc := if_pos c11
              refine lv_iload_n hx hb dX8_goes_103 rfl (lv_at hl 4 rfl) ?_
              refine lv_goto (tgt := 108) hx hb dX8_goes_104 (by decide) ?_
              refine z_iadd hx hb dX8_goes_108 ?_
              refine z_zald hx hb hK hP 18 (st 18) rfl (by omega) (by omega) (by omega) dX8_goes_109 ?_
              have f14 := hQ.c18 (((11) * ((bb) + (1))) + (cc)) (by omega) (by omega)
              refine z_if_eq (tgt := 117) hx hb (by omega) dX8_goes_110 (by decide) (fun c15 => ?_) (fun c15 => ?_)
              · skip
                have hgo := c15
                refine z_iconst hx hb dX8_goes_117 ?_
                exact K _ _ _ (by first | exact b2_neg (fun z => hn z.1.1) rfl | exact b2_pos ⟨⟨hbs, hcx⟩, by rw [hgi]; omega⟩ rfl | exact b2_neg (fun z => by have := z.2; rw [hgi] at this; omega) rfl) dX8_goes_118
              · skip
                have hgo := c15
                refine z_iconst hx hb dX8_goes_113 ?_
                refine lv_goto (tgt := 118) hx hb dX8_goes_114 (by decide) ?_
                exact K _ _ _ (by first | exact b2_neg (fun z => hn z.1.1) rfl | exact b2_pos ⟨⟨hbs, hcx⟩, by rw [hgi]; omega⟩ rfl | exact b2_neg (fun z => by have := z.2; rw [hgi] at this; omega) rfl) dX8_goes_118
        · skip
          have hk1 := c9
          refine lv_iload_n hx hb dX8_goes_46 rfl (lv_at hl 3 rfl) ?_
          refine z_bipush hx hb dX8_goes_47 (by decide +kernel) ?_
          refine z_icmp_ge (tgt := 78) hx hb (by omega) (by decide) dX8_goes_49 (by decide) (fun c16 => ?_) (fun c16 => ?_)
          · skip
            have hcx : ¬ (st 9 bb = 1 ∧ la < 10 ∧ TA st bb ≠ -1 ∧ CRSm st (TA st bb) la bb cc) := fun z => absurd z.2.1 (by omega)
            refine lv_iload hx hb dX8_goes_78 (lv_at hl 0 rfl) ?_
            refine z_if_eq (tgt := 117) hx hb (by decide) dX8_goes_80 (by decide) (fun c17 => ?_) (fun c17 => ?_)
            · skip
              exact absurd c17 (by decide)
            · skip
              refine lv_aload_n hx hb dX8_goes_83 rfl (lv_at hl 1 rfl) ?_
              refine z_get (C := RX8) (T := TX8) (N := 26) (ci := 7) hx hb hts iX8 hown hK hP 0 rfl rfl 23 (by decide) (hts (.fieldLink RX8 66 "ShotBoardModel" "canGo" "[Z") (by decide +kernel)) (.ref (a 18)) rfl dX8_goes_84 ?_
              refine z_bipush hx hb dX8_goes_87 (by decide +kernel) ?_
              refine lv_iload_n hx hb dX8_goes_89 rfl (lv_at hl 2 rfl) ?_
              refine z_iconst hx hb dX8_goes_90 ?_
              refine z_iadd hx hb dX8_goes_91 ?_
              refine z_imul hx hb dX8_goes_92 ?_
              refine lv_aload_n hx hb dX8_goes_93 rfl (lv_at hl 1 rfl) ?_
              refine z_get (C := RX8) (T := TX8) (N := 26) (ci := 7) hx hb hts iX8 hown hK hP 0 rfl rfl 12 (by decide) (hts (.fieldLink RX8 34 "ShotBoardModel" "kind" "[I") (by decide +kernel)) (.ref (a 9)) rfl dX8_goes_94 ?_
              refine lv_iload_n hx hb dX8_goes_97 rfl (lv_at hl 2 rfl) ?_
              refine z_iald hx hb hK hP 9 (st 9) rfl (by omega) (by omega) (by omega) dX8_goes_98 ?_
              refine z_iconst hx hb dX8_goes_99 ?_
              refine z_icmp_ne (tgt := 107) hx hb (by omega) (by decide) dX8_goes_100 (by decide) (fun c18 => ?_) (fun c18 => ?_)
              · skip
                have hgi : (if st 9 bb = 1 then cc else la) = la := if_neg c18
                refine lv_iload_n hx hb dX8_goes_107 rfl (lv_at hl 3 rfl) ?_
                refine z_iadd hx hb dX8_goes_108 ?_
                refine z_zald hx hb hK hP 18 (st 18) rfl (by omega) (by omega) (by omega) dX8_goes_109 ?_
                have f19 := hQ.c18 (((11) * ((bb) + (1))) + (la)) (by omega) (by omega)
                refine z_if_eq (tgt := 117) hx hb (by omega) dX8_goes_110 (by decide) (fun c20 => ?_) (fun c20 => ?_)
                · skip
                  have hgo := c20
                  refine z_iconst hx hb dX8_goes_117 ?_
                  exact K _ _ _ (by first | exact b2_neg (fun z => hn z.1.1) rfl | exact b2_pos ⟨⟨hbs, hcx⟩, by rw [hgi]; omega⟩ rfl | exact b2_neg (fun z => by have := z.2; rw [hgi] at this; omega) rfl) dX8_goes_118
                · skip
                  have hgo := c20
                  refine z_iconst hx hb dX8_goes_113 ?_
                  refine lv_goto (tgt := 118) hx hb dX8_goes_114 (by decide) ?_
                  exact K _ _ _ (by first | exact b2_neg (fun z => hn z.1.1) rfl | exact b2_pos ⟨⟨hbs, hcx⟩, by rw [hgi]; omega⟩ rfl | exact b2_neg (fun z => by have := z.2; rw [hgi] at this; omega) rfl) dX8_goes_118
              · skip
                have hgi : (if st 9 bb = 1 then cc else la) = cc := if_pos c18
                refine lv_iload_n hx hb dX8_goes_103 rfl (lv_at hl 4 rfl) ?_
                refine lv_goto (tgt := 108) hx hb dX8_goes_104 (by decide) ?_
                refine z_iadd hx hb dX8_goes_108 ?_
                refine z_zald hx hb hK hP 18 (st 18) rfl (by omega) (by omega) (by omega) dX8_goes_109 ?_
                have f21 := hQ.c18 (((11) * ((bb) + (1))) + (cc)) (by omega) (by omega)
                refine z_if_eq (tgt := 117) hx hb (by omega) dX8_goes_110 (by decide) (fun c22 => ?_) (fun c22 => ?_)
                · skip
                  have hgo := c22
                  refine z_iconst hx hb dX8_goes_117 ?_
                  exact K _ _ _ (by first | exact b2_neg (fun z => hn z.1.1) rfl | exact b2_pos ⟨⟨hbs, hcx⟩, by rw [hgi]; omega⟩ rfl | exact b2_neg (fun z => by have := z.2; rw [hgi] at this; omega) rfl) dX8_goes_118
                · skip
                  have hgo := c22
                  refine z_iconst hx hb dX8_goes_113 ?_
                  refine lv_goto (tgt := 118) hx hb dX8_goes_114 (by decide) ?_
                  exact K _ _ _ (by first | exact b2_neg (fun z => hn z.1.1) rfl | exact b2_pos ⟨⟨hbs, hcx⟩, by rw [hgi]; omega⟩ rfl | exact b2_neg (fun z => by have := z.2; rw [hgi] at this; omega) rfl) dX8_goes_118
          · skip
            refine lv_aload_n hx hb dX8_goes_52 rfl (lv_at hl 1 rfl) ?_
            refine lv_iload_n hx hb dX8_goes_53 rfl (lv_at hl 2 rfl) ?_
            refine z_cVR (q0 := 0) (ci := 7) (As := [.int (iZ (bb))]) (rest := []) S (m_X8_twoAhead l D g a (st) (bb) hI (by omega)) (cwV 1 hts gX8_goes_X8_twoAhead rfl rfl rfl (by decide +kernel) ⟨Nat.le_trans (by decide) hRf, Nat.le_trans (by decide) hRl⟩) hK hP rfl rfl rfl hl.1 rfl (Nat.le_of_ble_eq_true rfl) dX8_goes_54 ⟨Nat.zero_le _, Nat.zero_le _⟩ ?_
            refine z_iconst hx hb dX8_goes_57 ?_
            refine z_icmp_eq (tgt := 78) hx hb (by omega) (by decide) dX8_goes_58 (by decide) (fun c23 => ?_) (fun c23 => ?_)
            · skip
              have hcx : ¬ (st 9 bb = 1 ∧ la < 10 ∧ TA st bb ≠ -1 ∧ CRSm st (TA st bb) la bb cc) := fun z => z.2.2.1 c23
              refine lv_iload hx hb dX8_goes_78 (lv_at hl 0 rfl) ?_
              refine z_if_eq (tgt := 117) hx hb (by decide) dX8_goes_80 (by decide) (fun c24 => ?_) (fun c24 => ?_)
              · skip
                exact absurd c24 (by decide)
              · skip
                refine lv_aload_n hx hb dX8_goes_83 rfl (lv_at hl 1 rfl) ?_
                refine z_get (C := RX8) (T := TX8) (N := 26) (ci := 7) hx hb hts iX8 hown hK hP 0 rfl rfl 23 (by decide) (hts (.fieldLink RX8 66 "ShotBoardModel" "canGo" "[Z") (by decide +kernel)) (.ref (a 18)) rfl dX8_goes_84 ?_
                refine z_bipush hx hb dX8_goes_87 (by decide +kernel) ?_
                refine lv_iload_n hx hb dX8_goes_89 rfl (lv_at hl 2 rfl) ?_
                refine z_iconst hx hb dX8_goes_90 ?_
                refine z_iadd hx hb dX8_goes_91 ?_
                refine z_imul hx hb dX8_goes_92 ?_
                refine lv_aload_n hx hb dX8_goes_93 rfl (lv_at hl 1 rfl) ?_
                refine z_get (C := RX8) (T := TX8) (N := 26) (ci := 7) hx hb hts iX8 hown hK hP 0 rfl rfl 12 (by decide) (hts (.fieldLink RX8 34 "ShotBoardModel" "kind" "[I") (by decide +kernel)) (.ref (a 9)) rfl dX8_goes_94 ?_
                refine lv_iload_n hx hb dX8_goes_97 rfl (lv_at hl 2 rfl) ?_
                refine z_iald hx hb hK hP 9 (st 9) rfl (by omega) (by omega) (by omega) dX8_goes_98 ?_
                refine z_iconst hx hb dX8_goes_99 ?_
                refine z_icmp_ne (tgt := 107) hx hb (by omega) (by decide) dX8_goes_100 (by decide) (fun c25 => ?_) (fun c25 => ?_)
                · skip
                  have hgi : (if st 9 bb = 1 then cc else la) = la := if_neg c25
                  refine lv_iload_n hx hb dX8_goes_107 rfl (lv_at hl 3 rfl) ?_
                  refine z_iadd hx hb dX8_goes_108 ?_
                  refine z_zald hx hb hK hP 18 (st 18) rfl (by omega) (by omega) (by omega) dX8_goes_109 ?_
                  have f26 := hQ.c18 (((11) * ((bb) + (1))) + (la)) (by omega) (by omega)
                  refine z_if_eq (tgt := 117) hx hb (by omega) dX8_goes_110 (by decide) (fun c27 => ?_) (fun c27 => ?_)
                  · skip
                    have hgo := c27
                    refine z_iconst hx hb dX8_goes_117 ?_
                    exact K _ _ _ (by first | exact b2_neg (fun z => hn z.1.1) rfl | exact b2_pos ⟨⟨hbs, hcx⟩, by rw [hgi]; omega⟩ rfl | exact b2_neg (fun z => by have := z.2; rw [hgi] at this; omega) rfl) dX8_goes_118
                  · skip
                    have hgo := c27
                    refine z_iconst hx hb dX8_goes_113 ?_
                    refine lv_goto (tgt := 118) hx hb dX8_goes_114 (by decide) ?_
                    exact K _ _ _ (by first | exact b2_neg (fun z => hn z.1.1) rfl | exact b2_pos ⟨⟨hbs, hcx⟩, by rw [hgi]; omega⟩ rfl | exact b2_neg (fun z => by have := z.2; rw [hgi] at this; omega) rfl) dX8_goes_118
                · skip
                  have hgi : (if st 9 bb = 1 then cc else la) = cc := if_pos c25
                  refine lv_iload_n hx hb dX8_goes_103 rfl (lv_at hl 4 rfl) ?_
                  refine lv_goto (tgt := 108) hx hb dX8_goes_104 (by decide) ?_
                  refine z_iadd hx hb dX8_goes_108 ?_
                  refine z_zald hx hb hK hP 18 (st 18) rfl (by omega) (by omega) (by omega) dX8_goes_109 ?_
                  have f28 := hQ.c18 (((11) * ((bb) + (1))) + (cc)) (by omega) (by omega)
                  refine z_if_eq (tgt := 117) hx hb (by omega) dX8_goes_110 (by decide) (fun c29 => ?_) (fun c29 => ?_)
                  · skip
                    have hgo := c29
                    refine z_iconst hx hb dX8_goes_117 ?_
                    exact K _ _ _ (by first | exact b2_neg (fun z => hn z.1.1) rfl | exact b2_pos ⟨⟨hbs, hcx⟩, by rw [hgi]; omega⟩ rfl | exact b2_neg (fun z => by have := z.2; rw [hgi] at this; omega) rfl) dX8_goes_118
                  · skip
                    have hgo := c29
                    refine z_iconst hx hb dX8_goes_113 ?_
                    refine lv_goto (tgt := 118) hx hb dX8_goes_114 (by decide) ?_
                    exact K _ _ _ (by first | exact b2_neg (fun z => hn z.1.1) rfl | exact b2_pos ⟨⟨hbs, hcx⟩, by rw [hgi]; omega⟩ rfl | exact b2_neg (fun z => by have := z.2; rw [hgi] at this; omega) rfl) dX8_goes_118
            · skip
              have htn := c23
              have hta2 := hta.resolve_left htn
              refine lv_aload_n hx hb dX8_goes_61 rfl (lv_at hl 1 rfl) ?_
              refine lv_aload_n hx hb dX8_goes_62 rfl (lv_at hl 1 rfl) ?_
              refine lv_iload_n hx hb dX8_goes_63 rfl (lv_at hl 2 rfl) ?_
              refine z_cVR (q0 := 0) (ci := 7) (As := [.int (iZ (bb))]) (rest := [.ref (a 0)]) S (m_X8_twoAhead l D g a (st) (bb) hI (by omega)) (cwV 1 hts gX8_goes_X8_twoAhead rfl rfl rfl (by decide +kernel) ⟨Nat.le_trans (by decide) hRf, Nat.le_trans (by decide) hRl⟩) hK hP rfl rfl rfl hl.1 rfl (Nat.le_of_ble_eq_true rfl) dX8_goes_64 ⟨Nat.zero_le _, Nat.zero_le _⟩ ?_
              refine lv_iload_n hx hb dX8_goes_67 rfl (lv_at hl 3 rfl) ?_
              refine lv_iload_n hx hb dX8_goes_68 rfl (lv_at hl 2 rfl) ?_
              refine lv_iload_n hx hb dX8_goes_69 rfl (lv_at hl 4 rfl) ?_
              refine z_cVR (q0 := 0) (ci := 7) (As := [.int (iZ (TA st (bb))), .int (iZ (la)), .int (iZ (bb)), .int (iZ (cc))]) (rest := []) S (m_X8_crosses l D g a (st) (TA st (bb)) (la) (bb) (cc) hI (by omega) (by omega) (by omega) (by omega) hta2.2.2 hk1) (cwV 4 hts gX8_goes_X8_crosses rfl rfl rfl (by decide +kernel) ⟨Nat.le_trans (by decide) hRf, Nat.le_trans (by decide) hRl⟩) hK hP rfl rfl rfl hl.1 rfl (Nat.le_of_ble_eq_true rfl) dX8_goes_70 ⟨Nat.zero_le _, Nat.zero_le _⟩ ?_
              refine z_if_eq (tgt := 78) hx hb (b2_rg _) dX8_goes_73 (by decide) (fun c30 => ?_) (fun c30 => ?_)
              · skip
                have c30 := b2_0 c30
                have hcx : ¬ (st 9 bb = 1 ∧ la < 10 ∧ TA st bb ≠ -1 ∧ CRSm st (TA st bb) la bb cc) := fun z => c30 z.2.2.2
                refine lv_iload hx hb dX8_goes_78 (lv_at hl 0 rfl) ?_
                refine z_if_eq (tgt := 117) hx hb (by decide) dX8_goes_80 (by decide) (fun c31 => ?_) (fun c31 => ?_)
                · skip
                  exact absurd c31 (by decide)
                · skip
                  refine lv_aload_n hx hb dX8_goes_83 rfl (lv_at hl 1 rfl) ?_
                  refine z_get (C := RX8) (T := TX8) (N := 26) (ci := 7) hx hb hts iX8 hown hK hP 0 rfl rfl 23 (by decide) (hts (.fieldLink RX8 66 "ShotBoardModel" "canGo" "[Z") (by decide +kernel)) (.ref (a 18)) rfl dX8_goes_84 ?_
                  refine z_bipush hx hb dX8_goes_87 (by decide +kernel) ?_
                  refine lv_iload_n hx hb dX8_goes_89 rfl (lv_at hl 2 rfl) ?_
                  refine z_iconst hx hb dX8_goes_90 ?_
                  refine z_iadd hx hb dX8_goes_91 ?_
                  refine z_imul hx hb dX8_goes_92 ?_
                  refine lv_aload_n hx hb dX8_goes_93 rfl (lv_at hl 1 rfl) ?_
                  refine z_get (C := RX8) (T := TX8) (N := 26) (ci := 7) hx hb hts iX8 hown hK hP 0 rfl rfl 12 (by decide) (hts (.fieldLink RX8 34 "ShotBoardModel" "kind" "[I") (by decide +kernel)) (.ref (a 9)) rfl dX8_goes_94 ?_
                  refine lv_iload_n hx hb dX8_goes_97 rfl (lv_at hl 2 rfl) ?_
                  refine z_iald hx hb hK hP 9 (st 9) rfl (by omega) (by omega) (by omega) dX8_goes_98 ?_
                  refine z_iconst hx hb dX8_goes_99 ?_
                  refine z_icmp_ne (tgt := 107) hx hb (by omega) (by decide) dX8_goes_100 (by decide) (fun c32 => ?_) (fun c32 => ?_)
                  · skip
                    have hgi : (if st 9 bb = 1 then cc else la) = la := if_neg c32
                    refine lv_iload_n hx hb dX8_goes_107 rfl (lv_at hl 3 rfl) ?_
                    refine z_iadd hx hb dX8_goes_108 ?_
                    refine z_zald hx hb hK hP 18 (st 18) rfl (by omega) (by omega) (by omega) dX8_goes_109 ?_
                    have f33 := hQ.c18 (((11) * ((bb) + (1))) + (la)) (by omega) (by omega)
                    refine z_if_eq (tgt := 117) hx hb (by omega) dX8_goes_110 (by decide) (fun c34 => ?_) (fun c34 => ?_)
                    · skip
                      have hgo := c34
                      refine z_iconst hx hb dX8_goes_117 ?_
                      exact K _ _ _ (by first | exact b2_neg (fun z => hn z.1.1) rfl | exact b2_pos ⟨⟨hbs, hcx⟩, by rw [hgi]; omega⟩ rfl | exact b2_neg (fun z => by have := z.2; rw [hgi] at this; omega) rfl) dX8_goes_118
                    · skip
                      have hgo := c34
                      refine z_iconst hx hb dX8_goes_113 ?_
                      refine lv_goto (tgt := 118) hx hb dX8_goes_114 (by decide) ?_
                      exact K _ _ _ (by first | exact b2_neg (fun z => hn z.1.1) rfl | exact b2_pos ⟨⟨hbs, hcx⟩, by rw [hgi]; omega⟩ rfl | exact b2_neg (fun z => by have := z.2; rw [hgi] at this; omega) rfl) dX8_goes_118
                  · skip
                    have hgi : (if st 9 bb = 1 then cc else la) = cc := if_pos c32
                    refine lv_iload_n hx hb dX8_goes_103 rfl (lv_at hl 4 rfl) ?_
                    refine lv_goto (tgt := 108) hx hb dX8_goes_104 (by decide) ?_
                    refine z_iadd hx hb dX8_goes_108 ?_
                    refine z_zald hx hb hK hP 18 (st 18) rfl (by omega) (by omega) (by omega) dX8_goes_109 ?_
                    have f35 := hQ.c18 (((11) * ((bb) + (1))) + (cc)) (by omega) (by omega)
                    refine z_if_eq (tgt := 117) hx hb (by omega) dX8_goes_110 (by decide) (fun c36 => ?_) (fun c36 => ?_)
                    · skip
                      have hgo := c36
                      refine z_iconst hx hb dX8_goes_117 ?_
                      exact K _ _ _ (by first | exact b2_neg (fun z => hn z.1.1) rfl | exact b2_pos ⟨⟨hbs, hcx⟩, by rw [hgi]; omega⟩ rfl | exact b2_neg (fun z => by have := z.2; rw [hgi] at this; omega) rfl) dX8_goes_118
                    · skip
                      have hgo := c36
                      refine z_iconst hx hb dX8_goes_113 ?_
                      refine lv_goto (tgt := 118) hx hb dX8_goes_114 (by decide) ?_
                      exact K _ _ _ (by first | exact b2_neg (fun z => hn z.1.1) rfl | exact b2_pos ⟨⟨hbs, hcx⟩, by rw [hgi]; omega⟩ rfl | exact b2_neg (fun z => by have := z.2; rw [hgi] at this; omega) rfl) dX8_goes_118
              · skip
                have c30 := b2_n0 c30
                have hcy : st 9 bb = 1 ∧ la < 10 ∧ TA st bb ≠ -1 ∧ CRSm st (TA st bb) la bb cc := ⟨hk1, by omega, htn, c30⟩
                refine z_iconst hx hb dX8_goes_76 ?_
                exact K _ _ _ (b2_neg (fun z => z.1.2 hcy) rfl) dX8_goes_77
abbrev rX8_bits : Room := { frames := 0, cells := 0, slots := 0, locals := 0 }
set_option maxHeartbeats 4000000 in
set_option maxRecDepth 100000 in
theorem m_X8_bits (l : Launch) (xx : Int) (h1 : 0 ≤ xx ∧ xx < 1024) : Met l yX8_bits wsX8_bits rX8_bits (PcS [.int (iZ (xx))]) (QcRead (iZ (popc xx))) 0 0 (fun _ => False) := by
  refine metS (cc := cX8_bits) (maxL := 3) (ret := (some .int)) (own := RX8) (by decide) rfl rfl (Nat.le_of_ble_eq_true rfl) (Or.inl rfl) ?_
  intro p e R s m args below meth c Q ls S hRf hRl hl K
  have hx := S.1
  have hb := S.2.1
  have hown := S.2.2.2.1
  have hts := S.2.2.2.2
  have hRf : 0 ≤ R.frames := hRf
  have hRl : 0 ≤ R.locals := hRl
  have hl : lv_has ls 3 [(0, .int (iZ (xx)))] := hl
  refine z_iconst hx hb dX8_bits_0 ?_
  refine lv_istore_n (lv' := [(1, .int (iZ (0))), (0, .int (iZ (xx)))]) hx hb dX8_bits_1 rfl hl (by decide) rfl (fun ls hl => ?_)
  refine z_iconst hx hb dX8_bits_2 ?_
  refine lv_istore_n (lv' := [(2, .int (iZ (0))), (1, .int (iZ (0))), (0, .int (iZ (xx)))]) hx hb dX8_bits_3 rfl hl (by decide) rfl (fun ls hl => ?_)
  have LP4 : ∀ (n4 : Nat) (nn : Int) (kk : Int), (10 - kk) < (n4 : Int) → (0 ≤ kk ∧ kk ≤ 10) → (0 ≤ nn ∧ nn ≤ kk) → (popc xx = nn + cP (fun k => bt xx k) (10 - kk).toNat kk) → ∀ (ls : Array Slot), lv_has ls 3 [(2, .int (iZ (kk))), (1, .int (iZ (nn))), (0, .int (iZ (xx)))] → W p l e R s m args below meth c s.heap [] 0 0 Q (F0 m 4 ls []) := by
    intro n4
    induction n4 with
    | zero =>
      intro nn kk hm4 j1 j0 j2  ls hl
      exact absurd hm4 (by omega)
    | succ n4 ih4 =>
      intro nn kk hm4 j1 j0 j2  ls hl
      refine lv_iload_n hx hb dX8_bits_4 rfl (lv_at hl 0 rfl) ?_
      refine z_bipush hx hb dX8_bits_5 (by decide +kernel) ?_
      refine z_icmp_ge (tgt := 24) hx hb (by omega) (by decide) dX8_bits_7 (by decide) (fun c1 => ?_) (fun c1 => ?_)
      · skip
        refine lv_iload_n hx hb dX8_bits_24 rfl (lv_at hl 1 rfl) ?_
        exact K _ _ _ (by rw [j2, show (10 - kk).toNat = 0 by omega]; simp [cP]) dX8_bits_25
      · skip
        refine lv_iload_n hx hb dX8_bits_10 rfl (lv_at hl 1 rfl) ?_
        refine lv_iload_n hx hb dX8_bits_11 rfl (lv_at hl 2 rfl) ?_
        refine lv_iload_n hx hb dX8_bits_12 rfl (lv_at hl 0 rfl) ?_
        refine z_ishr hx hb dX8_bits_13 ?_
        refine z_iconst hx hb dX8_bits_14 ?_
        refine z_iand hx hb dX8_bits_15 ?_
        refine z_as (y := b2 (bt xx kk)) (bit_z (by omega) (by omega) (by omega) (by omega)) ?_
        refine z_iadd hx hb dX8_bits_16 ?_
        refine lv_istore_n (lv' := [(1, .int (iZ ((nn) + (b2 (bt xx kk))))), (2, .int (iZ (kk))), (0, .int (iZ (xx)))]) hx hb dX8_bits_17 rfl hl (by decide) rfl (fun ls hl => ?_)
        refine z_iinc (lv' := [(2, .int (iZ ((kk) + 1))), (1, .int (iZ ((nn) + (b2 (bt xx kk))))), (0, .int (iZ (xx)))]) hx hb dX8_bits_18 hl (k := 1) rfl (by decide) rfl (fun ls hl => ?_)
        refine lv_goto (tgt := 4) hx hb dX8_bits_21 (by decide) ?_
        have h01 := b2_01 (bt xx kk)
        exact ih4 ((nn) + (b2 (bt xx kk))) ((kk) + 1) (by omega) (by omega) (by omega) (by rw [j2, show (10 - kk).toNat = (10 - (kk + 1)).toNat + 1 by omega, cP_s]; omega)  ls (lv_sub hl [0, 1, 2] rfl)
  exact LP4 ((10 - (0)) + 1 : Int).toNat (0) (0) (by omega) (by omega) (by omega) (by rw [← popc_cP h1.1]; simp)  ls (lv_sub hl [0, 1, 2] rfl)
abbrev rX8_all : Room := { frames := 1, cells := 0, slots := 0, locals := 23 }
set_option maxHeartbeats 4000000 in
set_option maxRecDepth 100000 in
theorem m_X8_all (l : Launch) (D : va_G) (g : Nat → ClassId) (a : Nat → Nat) (st : SS) (hI : IM st) : Met l yX8_all wsX8_all rX8_all (PcR D g (WM g a st) [.ref (a 0)]) (QcRead (iZ (sL (LENm st) (st 0 3).toNat 0))) 0 0 (fun _ => False) := by
  refine metR (cc := cX8_all) (maxL := 3) (ret := (some .int)) (own := RX8) (by decide) rfl rfl (Nat.le_of_ble_eq_true rfl) (Or.inl rfl) ?_
  intro p e R s m args below meth c Q ls S hRf hRl hK hP hl K
  have hx := S.1
  have hb := S.2.1
  have hown := S.2.2.2.1
  have hts := S.2.2.2.2
  have hRf : 1 ≤ R.frames := hRf
  have hRl : 23 ≤ R.locals := hRl
  have hl : lv_has ls 3 [(0, .ref (a 0))] := hl
  have iX8 : ∀ w ∈ wsX80, w ∈ wsX8_all := by decide +kernel
  have hB := hI.s
  have hLb : ∀ j, 0 ≤ j → j < st 0 3 → 1 ≤ LENm st j ∧ LENm st j ≤ 220 := fun j a9 b9 => LEN_b (by have h9 := hI.bd j (by omega) (by omega); omega) ((hI.bl j (by omega) (by omega)).2.1) (by have h9 := hI.bd j (by omega) (by omega); omega) (by have h9 := hI.bd j (by omega) (by omega); omega) (by omega)
  refine z_iconst hx hb dX8_all_0 ?_
  refine lv_istore_n (lv' := [(1, .int (iZ (0))), (0, .ref (a 0))]) hx hb dX8_all_1 rfl hl (by decide) rfl (fun ls hl => ?_)
  refine z_iconst hx hb dX8_all_2 ?_
  refine lv_istore_n (lv' := [(2, .int (iZ (0))), (1, .int (iZ (0))), (0, .ref (a 0))]) hx hb dX8_all_3 rfl hl (by decide) rfl (fun ls hl => ?_)
  have LP4 : ∀ (n4 : Nat) (al : Int) (bb : Int), (st 0 3 - bb) < (n4 : Int) → (0 ≤ bb ∧ bb ≤ st 0 3) → (0 ≤ al ∧ al ≤ 220 * bb) → (sL (LENm st) (st 0 3).toNat 0 = al + sL (LENm st) (st 0 3 - bb).toNat bb) → ∀ (ls : Array Slot), lv_has ls 3 [(2, .int (iZ (bb))), (1, .int (iZ (al))), (0, .ref (a 0))] → W p l e R s m args below meth c s.heap [] 0 0 Q (F0 m 4 ls []) := by
    intro n4
    induction n4 with
    | zero =>
      intro al bb hm4 j1 j0 j2  ls hl
      exact absurd hm4 (by omega)
    | succ n4 ih4 =>
      intro al bb hm4 j1 j0 j2  ls hl
      refine lv_iload_n hx hb dX8_all_4 rfl (lv_at hl 0 rfl) ?_
      refine lv_aload_n hx hb dX8_all_5 rfl (lv_at hl 2 rfl) ?_
      refine z_get (C := RX8) (T := TX8) (N := 26) (ci := 7) hx hb hts iX8 hown hK hP 0 rfl rfl 11 (by decide) (hts (.fieldLink RX8 82 "ShotBoardModel" "boards" "I") (by decide +kernel)) (.int (iZ (st 0 (3)))) rfl dX8_all_6 ?_
      refine z_icmp_ge (tgt := 26) hx hb (by omega) (by omega) dX8_all_9 (by decide) (fun c1 => ?_) (fun c1 => ?_)
      · skip
        refine lv_iload_n hx hb dX8_all_26 rfl (lv_at hl 1 rfl) ?_
        exact K _ _ _ (by rw [j2, show (st 0 3 - bb).toNat = 0 by omega]; simp [sL]) dX8_all_27
      · skip
        refine lv_iload_n hx hb dX8_all_12 rfl (lv_at hl 1 rfl) ?_
        refine lv_aload_n hx hb dX8_all_13 rfl (lv_at hl 2 rfl) ?_
        refine lv_iload_n hx hb dX8_all_14 rfl (lv_at hl 0 rfl) ?_
        refine z_cVR (q0 := 0) (ci := 7) (As := [.int (iZ (bb))]) (rest := [.int (iZ (al))]) S (m_X8_lengthOf l D g a (st) (bb) hI (by omega)) (cwV 1 hts gX8_all_X8_lengthOf rfl rfl rfl (by decide +kernel) ⟨Nat.le_trans (by decide) hRf, Nat.le_trans (by decide) hRl⟩) hK hP rfl rfl rfl hl.1 rfl (Nat.le_of_ble_eq_true rfl) dX8_all_15 ⟨Nat.zero_le _, Nat.zero_le _⟩ ?_
        have f2 := LEN_b (fs := st 13 (bb)) (ls := st 14 (bb)) (wd := st 15 (bb)) (rt := st 0 4) (by have h9 := hI.bd (bb) (by omega) (by omega); omega) ((hI.bl (bb) (by omega) (by omega)).2.1) (by have h9 := hI.bd (bb) (by omega) (by omega); omega) (by have h9 := hI.bd (bb) (by omega) (by omega); omega) (by have h9 := hI.s; omega)
        refine z_iadd hx hb dX8_all_18 ?_
        refine lv_istore_n (lv' := [(1, .int (iZ ((al) + (LEN (st 13 (bb)) (st 14 (bb)) (st 15 (bb)) (st 0 4))))), (2, .int (iZ (bb))), (0, .ref (a 0))]) hx hb dX8_all_19 rfl hl (by decide) rfl (fun ls hl => ?_)
        refine z_iinc (lv' := [(2, .int (iZ ((bb) + 1))), (1, .int (iZ ((al) + (LEN (st 13 (bb)) (st 14 (bb)) (st 15 (bb)) (st 0 4))))), (0, .ref (a 0))]) hx hb dX8_all_20 hl (k := 1) rfl (by decide) rfl (fun ls hl => ?_)
        refine lv_goto (tgt := 4) hx hb dX8_all_23 (by decide) ?_
        exact ih4 ((al) + (LEN (st 13 (bb)) (st 14 (bb)) (st 15 (bb)) (st 0 4))) ((bb) + 1) (by omega) (by omega) (by omega) (by rw [j2, show (st 0 3 - bb).toNat = (st 0 3 - (bb + 1)).toNat + 1 by omega, sL_s, Int.add_assoc])  ls (lv_sub hl [0, 1, 2] rfl)
  exact LP4 ((st 0 3 - (0)) + 1 : Int).toNat (0) (0) (by omega) (by omega) (by omega) (by simp)  ls (lv_sub hl [0, 1, 2] rfl)
