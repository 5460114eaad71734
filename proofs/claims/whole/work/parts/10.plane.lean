abbrev rX2_cross : Room := { frames := 0, cells := 0, slots := 0, locals := 0 }
set_option maxHeartbeats 4000000 in
set_option maxRecDepth 100000 in
theorem m_X2_cross (l : Launch) (ff : Int) (aa : Int) (bb : Int) (hf : plc ff) (ha : plc aa) (hb1 : plc bb) : Met l yX2_cross wsX2_cross rX2_cross (PcS [.int (iZ (ff)), .int (iZ (aa)), .int (iZ (bb))]) (QcRead (iZ (crossZ ff aa bb))) 0 0 (fun _ => False) := by
  refine metS (cc := cX2_cross) (maxL := 5) (ret := (some .int)) (own := RX2) (by decide) rfl rfl (Nat.le_of_ble_eq_true rfl) (Or.inl rfl) ?_
  intro p e R s m args below meth c Q ls S hRf hRl hl K
  have hx := S.1
  have hb := S.2.1
  have hown := S.2.2.2.1
  have hts := S.2.2.2.2
  have hRf : 0 ≤ R.frames := hRf
  have hRl : 0 ≤ R.locals := hRl
  have hl : lv_has ls 5 [(0, .int (iZ (ff))), (1, .int (iZ (aa))), (2, .int (iZ (bb)))] := hl
  refine lv_iload_n hx hb dX2_cross_0 rfl (lv_at hl 0 rfl) ?_
  refine z_bipush hx hb dX2_cross_1 (by decide +kernel) ?_
  refine z_idiv hx hb (by omega) (by omega) (by decide) (by omega) dX2_cross_3 ?_
  refine lv_istore_n (lv' := [(3, .int (iZ ((ff) / (100)))), (0, .int (iZ (ff))), (1, .int (iZ (aa))), (2, .int (iZ (bb)))]) hx hb dX2_cross_4 rfl hl (by decide) rfl (fun ls hl => ?_)
  refine lv_iload_n hx hb dX2_cross_5 rfl (lv_at hl 1 rfl) ?_
  refine z_bipush hx hb dX2_cross_6 (by decide +kernel) ?_
  refine z_irem hx hb (by omega) (by omega) (by decide) (by omega) dX2_cross_8 ?_
  refine lv_istore (lv' := [(4, .int (iZ ((ff) % (100)))), (3, .int (iZ ((ff) / (100)))), (0, .int (iZ (ff))), (1, .int (iZ (aa))), (2, .int (iZ (bb)))]) hx hb dX2_cross_9 hl (by decide) rfl (fun ls hl => ?_)
  refine lv_iload_n hx hb dX2_cross_11 rfl (lv_at hl 3 rfl) ?_
  refine z_bipush hx hb dX2_cross_12 (by decide +kernel) ?_
  refine z_idiv hx hb (by omega) (by omega) (by decide) (by omega) dX2_cross_14 ?_
  refine lv_iload_n hx hb dX2_cross_15 rfl (lv_at hl 1 rfl) ?_
  refine z_isub hx hb dX2_cross_16 ?_
  refine lv_iload_n hx hb dX2_cross_17 rfl (lv_at hl 4 rfl) ?_
  refine z_bipush hx hb dX2_cross_18 (by decide +kernel) ?_
  refine z_irem hx hb (by omega) (by omega) (by decide) (by omega) dX2_cross_20 ?_
  refine lv_iload hx hb dX2_cross_21 (lv_at hl 0 rfl) ?_
  refine z_isub hx hb dX2_cross_23 ?_
  refine z_imul hx hb dX2_cross_24 ?_
  refine lv_iload_n hx hb dX2_cross_25 rfl (lv_at hl 3 rfl) ?_
  refine z_bipush hx hb dX2_cross_26 (by decide +kernel) ?_
  refine z_irem hx hb (by omega) (by omega) (by decide) (by omega) dX2_cross_28 ?_
  refine lv_iload hx hb dX2_cross_29 (lv_at hl 0 rfl) ?_
  refine z_isub hx hb dX2_cross_31 ?_
  refine lv_iload_n hx hb dX2_cross_32 rfl (lv_at hl 4 rfl) ?_
  refine z_bipush hx hb dX2_cross_33 (by decide +kernel) ?_
  refine z_idiv hx hb (by omega) (by omega) (by decide) (by omega) dX2_cross_35 ?_
  refine lv_iload_n hx hb dX2_cross_36 rfl (lv_at hl 1 rfl) ?_
  refine z_isub hx hb dX2_cross_37 ?_
  refine z_imul hx hb dX2_cross_38 ?_
  refine z_isub hx hb dX2_cross_39 ?_
  exact K _ _ _ (rfl) dX2_cross_40
abbrev rX2_dot : Room := { frames := 0, cells := 0, slots := 0, locals := 0 }
set_option maxHeartbeats 4000000 in
set_option maxRecDepth 100000 in
theorem m_X2_dot (l : Launch) (ff : Int) (aa : Int) (bb : Int) (hf : plc ff) (ha : plc aa) (hb1 : plc bb) : Met l yX2_dot wsX2_dot rX2_dot (PcS [.int (iZ (ff)), .int (iZ (aa)), .int (iZ (bb))]) (QcRead (iZ (dotZ ff aa bb))) 0 0 (fun _ => False) := by
  refine metS (cc := cX2_dot) (maxL := 5) (ret := (some .int)) (own := RX2) (by decide) rfl rfl (Nat.le_of_ble_eq_true rfl) (Or.inl rfl) ?_
  intro p e R s m args below meth c Q ls S hRf hRl hl K
  have hx := S.1
  have hb := S.2.1
  have hown := S.2.2.2.1
  have hts := S.2.2.2.2
  have hRf : 0 ≤ R.frames := hRf
  have hRl : 0 ≤ R.locals := hRl
  have hl : lv_has ls 5 [(0, .int (iZ (ff))), (1, .int (iZ (aa))), (2, .int (iZ (bb)))] := hl
  refine lv_iload_n hx hb dX2_dot_0 rfl (lv_at hl 0 rfl) ?_
  refine z_bipush hx hb dX2_dot_1 (by decide +kernel) ?_
  refine z_idiv hx hb (by omega) (by omega) (by decide) (by omega) dX2_dot_3 ?_
  refine lv_istore_n (lv' := [(3, .int (iZ ((ff) / (100)))), (0, .int (iZ (ff))), (1, .int (iZ (aa))), (2, .int (iZ (bb)))]) hx hb dX2_dot_4 rfl hl (by decide) rfl (fun ls hl => ?_)
  refine lv_iload_n hx hb dX2_dot_5 rfl (lv_at hl 1 rfl) ?_
  refine z_bipush hx hb dX2_dot_6 (by decide +kernel) ?_
  refine z_irem hx hb (by omega) (by omega) (by decide) (by omega) dX2_dot_8 ?_
  refine lv_istore (lv' := [(4, .int (iZ ((ff) % (100)))), (3, .int (iZ ((ff) / (100)))), (0, .int (iZ (ff))), (1, .int (iZ (aa))), (2, .int (iZ (bb)))]) hx hb dX2_dot_9 hl (by decide) rfl (fun ls hl => ?_)
  refine lv_iload_n hx hb dX2_dot_11 rfl (lv_at hl 3 rfl) ?_
  refine z_bipush hx hb dX2_dot_12 (by decide +kernel) ?_
  refine z_idiv hx hb (by omega) (by omega) (by decide) (by omega) dX2_dot_14 ?_
  refine lv_iload_n hx hb dX2_dot_15 rfl (lv_at hl 1 rfl) ?_
  refine z_isub hx hb dX2_dot_16 ?_
  refine lv_iload_n hx hb dX2_dot_17 rfl (lv_at hl 4 rfl) ?_
  refine z_bipush hx hb dX2_dot_18 (by decide +kernel) ?_
  refine z_idiv hx hb (by omega) (by omega) (by decide) (by omega) dX2_dot_20 ?_
  refine lv_iload_n hx hb dX2_dot_21 rfl (lv_at hl 1 rfl) ?_
  refine z_isub hx hb dX2_dot_22 ?_
  refine z_imul hx hb dX2_dot_23 ?_
  refine lv_iload_n hx hb dX2_dot_24 rfl (lv_at hl 3 rfl) ?_
  refine z_bipush hx hb dX2_dot_25 (by decide +kernel) ?_
  refine z_irem hx hb (by omega) (by omega) (by decide) (by omega) dX2_dot_27 ?_
  refine lv_iload hx hb dX2_dot_28 (lv_at hl 0 rfl) ?_
  refine z_isub hx hb dX2_dot_30 ?_
  refine lv_iload_n hx hb dX2_dot_31 rfl (lv_at hl 4 rfl) ?_
  refine z_bipush hx hb dX2_dot_32 (by decide +kernel) ?_
  refine z_irem hx hb (by omega) (by omega) (by decide) (by omega) dX2_dot_34 ?_
  refine lv_iload hx hb dX2_dot_35 (lv_at hl 0 rfl) ?_
  refine z_isub hx hb dX2_dot_37 ?_
  refine z_imul hx hb dX2_dot_38 ?_
  refine z_iadd hx hb dX2_dot_39 ?_
  exact K _ _ _ (rfl) dX2_dot_40
abbrev rX2_isBetween : Room := { frames := 1, cells := 0, slots := 0, locals := 24 }
set_option maxHeartbeats 4000000 in
set_option maxRecDepth 100000 in
theorem m_X2_isBetween (l : Launch) (ff : Int) (aa : Int) (bb : Int) (hf : plc ff) (ha : plc aa) (hb1 : plc bb) : Met l yX2_isBetween wsX2_isBetween rX2_isBetween (PcS [.int (iZ (ff)), .int (iZ (aa)), .int (iZ (bb))]) (QcRead (iZ (b2 (betw ff aa bb)))) 0 0 (fun _ => False) := by
  refine metS (cc := cX2_isBetween) (maxL := 3) (ret := (some .boolean)) (own := RX2) (by decide) rfl rfl (Nat.le_of_ble_eq_true rfl) (Or.inr ⟨rfl, b2_01 _⟩) ?_
  intro p e R s m args below meth c Q ls S hRf hRl hl K
  have hx := S.1
  have hb := S.2.1
  have hown := S.2.2.2.1
  have hts := S.2.2.2.2
  have hRf : 1 ≤ R.frames := hRf
  have hRl : 24 ≤ R.locals := hRl
  have hl : lv_has ls 3 [(0, .int (iZ (ff))), (1, .int (iZ (aa))), (2, .int (iZ (bb)))] := hl
  refine lv_iload_n hx hb dX2_isBetween_0 rfl (lv_at hl 0 rfl) ?_
  refine lv_iload_n hx hb dX2_isBetween_1 rfl (lv_at hl 1 rfl) ?_
  refine lv_iload_n hx hb dX2_isBetween_2 rfl (lv_at hl 2 rfl) ?_
  refine z_cSS (As := [.int (iZ (ff)), .int (iZ (aa)), .int (iZ (bb))]) (rest := []) S (m_X2_cross l (ff) (aa) (bb) (by omega) (by omega) (by omega)) (va_cwS 3 hts gX2_isBetween_X2_cross rfl rfl rfl (by decide +kernel) ⟨Nat.le_trans (by decide) hRf, Nat.le_trans (by decide) hRl⟩) rfl hl.1 rfl (Nat.le_of_ble_eq_true rfl) dX2_isBetween_3 ⟨Nat.zero_le _, Nat.zero_le _⟩ ?_
  have f1 := crossZ_b (ff) (aa) (bb) (by omega) (by omega) (by omega)
  refine z_if_ne (tgt := 22) hx hb (by omega) dX2_isBetween_6 (by decide) (fun c2 => ?_) (fun c2 => ?_)
  · skip
    refine z_iconst hx hb dX2_isBetween_22 ?_
    exact K _ _ _ (by first | exact b2_pos (by unfold betw; omega) rfl | exact b2_neg (by unfold betw; omega) rfl) dX2_isBetween_23
  · skip
    refine lv_iload_n hx hb dX2_isBetween_9 rfl (lv_at hl 0 rfl) ?_
    refine lv_iload_n hx hb dX2_isBetween_10 rfl (lv_at hl 1 rfl) ?_
    refine lv_iload_n hx hb dX2_isBetween_11 rfl (lv_at hl 2 rfl) ?_
    refine z_cSS (As := [.int (iZ (ff)), .int (iZ (aa)), .int (iZ (bb))]) (rest := []) S (m_X2_dot l (ff) (aa) (bb) (by omega) (by omega) (by omega)) (va_cwS 3 hts gX2_isBetween_X2_dot rfl rfl rfl (by decide +kernel) ⟨Nat.le_trans (by decide) hRf, Nat.le_trans (by decide) hRl⟩) rfl hl.1 rfl (Nat.le_of_ble_eq_true rfl) dX2_isBetween_12 ⟨Nat.zero_le _, Nat.zero_le _⟩ ?_
    have f3 := dotZ_b (ff) (aa) (bb) (by omega) (by omega) (by omega)
    refine z_if_ge (tgt := 22) hx hb (by omega) dX2_isBetween_15 (by decide) (fun c4 => ?_) (fun c4 => ?_)
    · skip
      refine z_iconst hx hb dX2_isBetween_22 ?_
      exact K _ _ _ (by first | exact b2_pos (by unfold betw; omega) rfl | exact b2_neg (by unfold betw; omega) rfl) dX2_isBetween_23
    · skip
      refine z_iconst hx hb dX2_isBetween_18 ?_
      refine lv_goto (tgt := 23) hx hb dX2_isBetween_19 (by decide) ?_
      exact K _ _ _ (by first | exact b2_pos (by unfold betw; omega) rfl | exact b2_neg (by unfold betw; omega) rfl) dX2_isBetween_23
abbrev rX2_meet : Room := { frames := 1, cells := 0, slots := 0, locals := 24 }
set_option maxHeartbeats 4000000 in
set_option maxRecDepth 100000 in
theorem m_X2_meet (l : Launch) (pp : Int) (qq : Int) (aa : Int) (bb : Int) (h1 : plc pp) (h2 : plc qq) (h3 : plc aa) (h4 : plc bb) : Met l yX2_meet wsX2_meet rX2_meet (PcS [.int (iZ (pp)), .int (iZ (qq)), .int (iZ (aa)), .int (iZ (bb))]) (QcRead (iZ (b2 (meetC pp qq aa bb)))) 0 0 (fun _ => False) := by
  refine metS (cc := cX2_meet) (maxL := 6) (ret := (some .boolean)) (own := RX2) (by decide) rfl rfl (Nat.le_of_ble_eq_true rfl) (Or.inr ⟨rfl, b2_01 _⟩) ?_
  intro p e R s m args below meth c Q ls S hRf hRl hl K
  have hx := S.1
  have hb := S.2.1
  have hown := S.2.2.2.1
  have hts := S.2.2.2.2
  have hRf : 1 ≤ R.frames := hRf
  have hRl : 24 ≤ R.locals := hRl
  have hl : lv_has ls 6 [(0, .int (iZ (pp))), (1, .int (iZ (qq))), (2, .int (iZ (aa))), (3, .int (iZ (bb)))] := hl
  refine lv_iload_n hx hb dX2_meet_0 rfl (lv_at hl 0 rfl) ?_
  refine lv_iload_n hx hb dX2_meet_1 rfl (lv_at hl 1 rfl) ?_
  refine lv_iload_n hx hb dX2_meet_2 rfl (lv_at hl 2 rfl) ?_
  refine z_cSS (As := [.int (iZ (pp)), .int (iZ (qq)), .int (iZ (aa))]) (rest := []) S (m_X2_cross l (pp) (qq) (aa) (by omega) (by omega) (by omega)) (va_cwS 3 hts gX2_meet_X2_cross rfl rfl rfl (by decide +kernel) ⟨Nat.le_trans (by decide) hRf, Nat.le_trans (by decide) hRl⟩) rfl hl.1 rfl (Nat.le_of_ble_eq_true rfl) dX2_meet_3 ⟨Nat.zero_le _, Nat.zero_le _⟩ ?_
  have f1 := crossZ_b (pp) (qq) (aa) (by omega) (by omega) (by omega)
  refine lv_istore (lv' := [(4, .int (iZ (crossZ (pp) (qq) (aa)))), (0, .int (iZ (pp))), (1, .int (iZ (qq))), (2, .int (iZ (aa))), (3, .int (iZ (bb)))]) hx hb dX2_meet_6 hl (by decide) rfl (fun ls hl => ?_)
  refine lv_iload_n hx hb dX2_meet_8 rfl (lv_at hl 1 rfl) ?_
  refine lv_iload_n hx hb dX2_meet_9 rfl (lv_at hl 2 rfl) ?_
  refine lv_iload_n hx hb dX2_meet_10 rfl (lv_at hl 4 rfl) ?_
  refine z_cSS (As := [.int (iZ (pp)), .int (iZ (qq)), .int (iZ (bb))]) (rest := []) S (m_X2_cross l (pp) (qq) (bb) (by omega) (by omega) (by omega)) (va_cwS 3 hts gX2_meet_X2_cross rfl rfl rfl (by decide +kernel) ⟨Nat.le_trans (by decide) hRf, Nat.le_trans (by decide) hRl⟩) rfl hl.1 rfl (Nat.le_of_ble_eq_true rfl) dX2_meet_11 ⟨Nat.zero_le _, Nat.zero_le _⟩ ?_
  have f2 := crossZ_b (pp) (qq) (bb) (by omega) (by omega) (by omega)
  refine lv_istore (lv' := [(5, .int (iZ (crossZ (pp) (qq) (bb)))), (4, .int (iZ (crossZ (pp) (qq) (aa)))), (0, .int (iZ (pp))), (1, .int (iZ (qq))), (2, .int (iZ (aa))), (3, .int (iZ (bb)))]) hx hb dX2_meet_14 hl (by decide) rfl (fun ls hl => ?_)
  have g1 := pr_b (crossZ_b pp qq aa (by omega) (by omega) (by omega)) (crossZ_b pp qq bb (by omega) (by omega) (by omega))
  refine lv_iload hx hb dX2_meet_16 (lv_at hl 1 rfl) ?_
  refine lv_iload hx hb dX2_meet_18 (lv_at hl 0 rfl) ?_
  refine z_imul hx hb dX2_meet_20 ?_
  refine z_if_gt (tgt := 40) hx hb (by omega) dX2_meet_21 (by decide) (fun c3 => ?_) (fun c3 => ?_)
  · skip
    refine z_iconst hx hb dX2_meet_40 ?_
    exact K _ _ _ (by first | exact b2_pos (by unfold meetC; omega) rfl | exact b2_neg (by unfold meetC; omega) rfl) dX2_meet_41
  · skip
    refine lv_iload_n hx hb dX2_meet_24 rfl (lv_at hl 4 rfl) ?_
    refine lv_iload_n hx hb dX2_meet_25 rfl (lv_at hl 5 rfl) ?_
    refine lv_iload_n hx hb dX2_meet_26 rfl (lv_at hl 2 rfl) ?_
    refine z_cSS (As := [.int (iZ (aa)), .int (iZ (bb)), .int (iZ (pp))]) (rest := []) S (m_X2_cross l (aa) (bb) (pp) (by omega) (by omega) (by omega)) (va_cwS 3 hts gX2_meet_X2_cross rfl rfl rfl (by decide +kernel) ⟨Nat.le_trans (by decide) hRf, Nat.le_trans (by decide) hRl⟩) rfl hl.1 rfl (Nat.le_of_ble_eq_true rfl) dX2_meet_27 ⟨Nat.zero_le _, Nat.zero_le _⟩ ?_
    have f4 := crossZ_b (aa) (bb) (pp) (by omega) (by omega) (by omega)
    refine lv_iload_n hx hb dX2_meet_30 rfl (lv_at hl 4 rfl) ?_
    refine lv_iload_n hx hb dX2_meet_31 rfl (lv_at hl 5 rfl) ?_
    refine lv_iload_n hx hb dX2_meet_32 rfl (lv_at hl 3 rfl) ?_
    refine z_cSS (As := [.int (iZ (aa)), .int (iZ (bb)), .int (iZ (qq))]) (rest := [.int (iZ (crossZ (aa) (bb) (pp)))]) S (m_X2_cross l (aa) (bb) (qq) (by omega) (by omega) (by omega)) (va_cwS 3 hts gX2_meet_X2_cross rfl rfl rfl (by decide +kernel) ⟨Nat.le_trans (by decide) hRf, Nat.le_trans (by decide) hRl⟩) rfl hl.1 rfl (Nat.le_of_ble_eq_true rfl) dX2_meet_33 ⟨Nat.zero_le _, Nat.zero_le _⟩ ?_
    have f5 := crossZ_b (aa) (bb) (qq) (by omega) (by omega) (by omega)
    have g2 := pr_b (crossZ_b aa bb pp (by omega) (by omega) (by omega)) (crossZ_b aa bb qq (by omega) (by omega) (by omega))
    refine z_imul hx hb dX2_meet_36 ?_
    refine z_if_le (tgt := 42) hx hb (by omega) dX2_meet_37 (by decide) (fun c6 => ?_) (fun c6 => ?_)
    · skip
      refine lv_iload hx hb dX2_meet_42 (lv_at hl 1 rfl) ?_
      refine z_if_ne (tgt := 52) hx hb (by omega) dX2_meet_44 (by decide) (fun c7 => ?_) (fun c7 => ?_)
      · skip
        refine z_iconst hx hb dX2_meet_52 ?_
        exact K _ _ _ (by first | exact b2_pos (by unfold meetC; omega) rfl | exact b2_neg (by unfold meetC; omega) rfl) dX2_meet_53
      · skip
        refine lv_iload hx hb dX2_meet_47 (lv_at hl 0 rfl) ?_
        refine z_if_eq (tgt := 54) hx hb (by omega) dX2_meet_49 (by decide) (fun c8 => ?_) (fun c8 => ?_)
        · skip
          refine lv_iload_n hx hb dX2_meet_54 rfl (lv_at hl 4 rfl) ?_
          refine lv_iload_n hx hb dX2_meet_55 rfl (lv_at hl 2 rfl) ?_
          refine lv_iload_n hx hb dX2_meet_56 rfl (lv_at hl 3 rfl) ?_
          refine z_cSS (As := [.int (iZ (aa)), .int (iZ (pp)), .int (iZ (qq))]) (rest := []) S (m_X2_dot l (aa) (pp) (qq) (by omega) (by omega) (by omega)) (va_cwS 3 hts gX2_meet_X2_dot rfl rfl rfl (by decide +kernel) ⟨Nat.le_trans (by decide) hRf, Nat.le_trans (by decide) hRl⟩) rfl hl.1 rfl (Nat.le_of_ble_eq_true rfl) dX2_meet_57 ⟨Nat.zero_le _, Nat.zero_le _⟩ ?_
          have f9 := dotZ_b (aa) (pp) (qq) (by omega) (by omega) (by omega)
          refine z_if_le (tgt := 81) hx hb (by omega) dX2_meet_60 (by decide) (fun c10 => ?_) (fun c10 => ?_)
          · skip
            refine z_iconst hx hb dX2_meet_81 ?_
            refine lv_goto (tgt := 86) hx hb dX2_meet_82 (by decide) ?_
            exact K _ _ _ (by first | exact b2_pos (by unfold meetC; omega) rfl | exact b2_neg (by unfold meetC; omega) rfl) dX2_meet_86
          · skip
            refine lv_iload_n hx hb dX2_meet_63 rfl (lv_at hl 5 rfl) ?_
            refine lv_iload_n hx hb dX2_meet_64 rfl (lv_at hl 2 rfl) ?_
            refine lv_iload_n hx hb dX2_meet_65 rfl (lv_at hl 3 rfl) ?_
            refine z_cSS (As := [.int (iZ (bb)), .int (iZ (pp)), .int (iZ (qq))]) (rest := []) S (m_X2_dot l (bb) (pp) (qq) (by omega) (by omega) (by omega)) (va_cwS 3 hts gX2_meet_X2_dot rfl rfl rfl (by decide +kernel) ⟨Nat.le_trans (by decide) hRf, Nat.le_trans (by decide) hRl⟩) rfl hl.1 rfl (Nat.le_of_ble_eq_true rfl) dX2_meet_66 ⟨Nat.zero_le _, Nat.zero_le _⟩ ?_
            have f11 := dotZ_b (bb) (pp) (qq) (by omega) (by omega) (by omega)
            refine z_if_le (tgt := 81) hx hb (by omega) dX2_meet_69 (by decide) (fun c12 => ?_) (fun c12 => ?_)
            · skip
              refine z_iconst hx hb dX2_meet_81 ?_
              refine lv_goto (tgt := 86) hx hb dX2_meet_82 (by decide) ?_
              exact K _ _ _ (by first | exact b2_pos (by unfold meetC; omega) rfl | exact b2_neg (by unfold meetC; omega) rfl) dX2_meet_86
            · skip
              refine lv_iload_n hx hb dX2_meet_72 rfl (lv_at hl 2 rfl) ?_
              refine lv_iload_n hx hb dX2_meet_73 rfl (lv_at hl 4 rfl) ?_
              refine lv_iload_n hx hb dX2_meet_74 rfl (lv_at hl 5 rfl) ?_
              refine z_cSS (As := [.int (iZ (pp)), .int (iZ (aa)), .int (iZ (bb))]) (rest := []) S (m_X2_dot l (pp) (aa) (bb) (by omega) (by omega) (by omega)) (va_cwS 3 hts gX2_meet_X2_dot rfl rfl rfl (by decide +kernel) ⟨Nat.le_trans (by decide) hRf, Nat.le_trans (by decide) hRl⟩) rfl hl.1 rfl (Nat.le_of_ble_eq_true rfl) dX2_meet_75 ⟨Nat.zero_le _, Nat.zero_le _⟩ ?_
              have f13 := dotZ_b (pp) (aa) (bb) (by omega) (by omega) (by omega)
              refine z_if_gt (tgt := 85) hx hb (by omega) dX2_meet_78 (by decide) (fun c14 => ?_) (fun c14 => ?_)
              · skip
                refine z_iconst hx hb dX2_meet_85 ?_
                exact K _ _ _ (by first | exact b2_pos (by unfold meetC; omega) rfl | exact b2_neg (by unfold meetC; omega) rfl) dX2_meet_86
              · skip
                refine z_iconst hx hb dX2_meet_81 ?_
                refine lv_goto (tgt := 86) hx hb dX2_meet_82 (by decide) ?_
                exact K _ _ _ (by first | exact b2_pos (by unfold meetC; omega) rfl | exact b2_neg (by unfold meetC; omega) rfl) dX2_meet_86
        · skip
          refine z_iconst hx hb dX2_meet_52 ?_
          exact K _ _ _ (by first | exact b2_pos (by unfold meetC; omega) rfl | exact b2_neg (by unfold meetC; omega) rfl) dX2_meet_53
    · skip
      refine z_iconst hx hb dX2_meet_40 ?_
      exact K _ _ _ (by first | exact b2_pos (by unfold meetC; omega) rfl | exact b2_neg (by unfold meetC; omega) rfl) dX2_meet_41
abbrev rX2_inCone : Room := { frames := 1, cells := 0, slots := 0, locals := 24 }
set_option maxHeartbeats 4000000 in
set_option maxRecDepth 100000 in
theorem m_X2_inCone (l : Launch) (ff : Int) (mm : Int) (pp : Int) (hf : plc ff) (hm : plc mm) (hp : plc pp) : Met l yX2_inCone wsX2_inCone rX2_inCone (PcS [.int (iZ (ff)), .int (iZ (mm)), .int (iZ (pp))]) (QcRead (iZ (b2 (cone ff mm pp)))) 0 0 (fun _ => False) := by
  refine metS (cc := cX2_inCone) (maxL := 4) (ret := (some .boolean)) (own := RX2) (by decide) rfl rfl (Nat.le_of_ble_eq_true rfl) (Or.inr ⟨rfl, b2_01 _⟩) ?_
  intro p e R s m args below meth c Q ls S hRf hRl hl K
  have hx := S.1
  have hb := S.2.1
  have hown := S.2.2.2.1
  have hts := S.2.2.2.2
  have hRf : 1 ≤ R.frames := hRf
  have hRl : 24 ≤ R.locals := hRl
  have hl : lv_has ls 4 [(0, .int (iZ (ff))), (1, .int (iZ (mm))), (2, .int (iZ (pp)))] := hl
  refine lv_iload_n hx hb dX2_inCone_0 rfl (lv_at hl 0 rfl) ?_
  refine lv_iload_n hx hb dX2_inCone_1 rfl (lv_at hl 1 rfl) ?_
  refine lv_iload_n hx hb dX2_inCone_2 rfl (lv_at hl 2 rfl) ?_
  refine z_cSS (As := [.int (iZ (ff)), .int (iZ (mm)), .int (iZ (pp))]) (rest := []) S (m_X2_dot l (ff) (mm) (pp) (by omega) (by omega) (by omega)) (va_cwS 3 hts gX2_inCone_X2_dot rfl rfl rfl (by decide +kernel) ⟨Nat.le_trans (by decide) hRf, Nat.le_trans (by decide) hRl⟩) rfl hl.1 rfl (Nat.le_of_ble_eq_true rfl) dX2_inCone_3 ⟨Nat.zero_le _, Nat.zero_le _⟩ ?_
  have f1 := dotZ_b (ff) (mm) (pp) (by omega) (by omega) (by omega)
  refine lv_istore_n (lv' := [(3, .int (iZ (dotZ (ff) (mm) (pp)))), (0, .int (iZ (ff))), (1, .int (iZ (mm))), (2, .int (iZ (pp)))]) hx hb dX2_inCone_6 rfl hl (by decide) rfl (fun ls hl => ?_)
  refine lv_iload_n hx hb dX2_inCone_7 rfl (lv_at hl 0 rfl) ?_
  refine z_if_le (tgt := 36) hx hb (by omega) dX2_inCone_8 (by decide) (fun c2 => ?_) (fun c2 => ?_)
  · skip
    refine z_iconst hx hb dX2_inCone_36 ?_
    exact K _ _ _ (by first | exact b2_pos (by unfold cone; omega) rfl | exact b2_neg (by unfold cone; omega) rfl) dX2_inCone_37
  · skip
    refine z_iconst hx hb dX2_inCone_11 ?_
    refine lv_iload_n hx hb dX2_inCone_12 rfl (lv_at hl 0 rfl) ?_
    refine z_imul hx hb dX2_inCone_13 ?_
    refine lv_iload_n hx hb dX2_inCone_14 rfl (lv_at hl 0 rfl) ?_
    refine z_imul hx hb dX2_inCone_15 ?_
    refine lv_iload_n hx hb dX2_inCone_16 rfl (lv_at hl 1 rfl) ?_
    refine lv_iload_n hx hb dX2_inCone_17 rfl (lv_at hl 2 rfl) ?_
    refine lv_iload_n hx hb dX2_inCone_18 rfl (lv_at hl 2 rfl) ?_
    refine z_cSS (As := [.int (iZ (ff)), .int (iZ (mm)), .int (iZ (mm))]) (rest := [.int (iZ (((2) * (dotZ (ff) (mm) (pp))) * (dotZ (ff) (mm) (pp))))]) S (m_X2_dot l (ff) (mm) (mm) (by omega) (by omega) (by omega)) (va_cwS 3 hts gX2_inCone_X2_dot rfl rfl rfl (by decide +kernel) ⟨Nat.le_trans (by decide) hRf, Nat.le_trans (by decide) hRl⟩) rfl hl.1 rfl (Nat.le_of_ble_eq_true rfl) dX2_inCone_19 ⟨Nat.zero_le _, Nat.zero_le _⟩ ?_
    have f3 := dotZ_b (ff) (mm) (mm) (by omega) (by omega) (by omega)
    refine lv_iload_n hx hb dX2_inCone_22 rfl (lv_at hl 1 rfl) ?_
    refine lv_iload_n hx hb dX2_inCone_23 rfl (lv_at hl 3 rfl) ?_
    refine lv_iload_n hx hb dX2_inCone_24 rfl (lv_at hl 3 rfl) ?_
    refine z_cSS (As := [.int (iZ (ff)), .int (iZ (pp)), .int (iZ (pp))]) (rest := [.int (iZ (dotZ (ff) (mm) (mm))), .int (iZ (((2) * (dotZ (ff) (mm) (pp))) * (dotZ (ff) (mm) (pp))))]) S (m_X2_dot l (ff) (pp) (pp) (by omega) (by omega) (by omega)) (va_cwS 3 hts gX2_inCone_X2_dot rfl rfl rfl (by decide +kernel) ⟨Nat.le_trans (by decide) hRf, Nat.le_trans (by decide) hRl⟩) rfl hl.1 rfl (Nat.le_of_ble_eq_true rfl) dX2_inCone_25 ⟨Nat.zero_le _, Nat.zero_le _⟩ ?_
    have f4 := dotZ_b (ff) (pp) (pp) (by omega) (by omega) (by omega)
    have g1 := pr_b (dotZ_b ff mm mm (by omega) (by omega) (by omega)) (dotZ_b ff pp pp (by omega) (by omega) (by omega))
    have g2 := pr2_b (dotZ_b ff mm pp (by omega) (by omega) (by omega))
    refine z_imul hx hb dX2_inCone_28 ?_
    refine z_icmp_lt (tgt := 36) hx hb (by omega) (by omega) dX2_inCone_29 (by decide) (fun c5 => ?_) (fun c5 => ?_)
    · skip
      refine z_iconst hx hb dX2_inCone_36 ?_
      exact K _ _ _ (by first | exact b2_pos (by unfold cone; omega) rfl | exact b2_neg (by unfold cone; omega) rfl) dX2_inCone_37
    · skip
      refine z_iconst hx hb dX2_inCone_32 ?_
      refine lv_goto (tgt := 37) hx hb dX2_inCone_33 (by decide) ?_
      exact K _ _ _ (by first | exact b2_pos (by unfold cone; omega) rfl | exact b2_neg (by unfold cone; omega) rfl) dX2_inCone_37
abbrev rX2_sizeSeen : Room := { frames := 1, cells := 0, slots := 0, locals := 24 }
set_option maxHeartbeats 4000000 in
set_option maxRecDepth 100000 in
theorem m_X2_sizeSeen (l : Launch) (ff : Int) (xx : Int) (hf : plc ff) (hx : plc xx) : Met l yX2_sizeSeen wsX2_sizeSeen rX2_sizeSeen (PcS [.int (iZ (ff)), .int (iZ (xx))]) (QcRead (iZ (sizeZ ff xx))) 0 0 (fun _ => False) := by
  refine metS (cc := cX2_sizeSeen) (maxL := 3) (ret := (some .int)) (own := RX2) (by decide) rfl rfl (Nat.le_of_ble_eq_true rfl) (Or.inl rfl) ?_
  intro p e R s m args below meth c Q ls S hRf hRl hl K
  have hx := S.1
  have hb := S.2.1
  have hown := S.2.2.2.1
  have hts := S.2.2.2.2
  have hRf : 1 ≤ R.frames := hRf
  have hRl : 24 ≤ R.locals := hRl
  have hl : lv_has ls 3 [(0, .int (iZ (ff))), (1, .int (iZ (xx)))] := hl
  refine lv_iload_n hx hb dX2_sizeSeen_0 rfl (lv_at hl 0 rfl) ?_
  refine lv_iload_n hx hb dX2_sizeSeen_1 rfl (lv_at hl 1 rfl) ?_
  refine lv_iload_n hx hb dX2_sizeSeen_2 rfl (lv_at hl 1 rfl) ?_
  refine z_cSS (As := [.int (iZ (ff)), .int (iZ (xx)), .int (iZ (xx))]) (rest := []) S (m_X2_dot l (ff) (xx) (xx) (by omega) (by omega) (by omega)) (va_cwS 3 hts gX2_sizeSeen_X2_dot rfl rfl rfl (by decide +kernel) ⟨Nat.le_trans (by decide) hRf, Nat.le_trans (by decide) hRl⟩) rfl hl.1 rfl (Nat.le_of_ble_eq_true rfl) dX2_sizeSeen_3 ⟨Nat.zero_le _, Nat.zero_le _⟩ ?_
  have f1 := dotZ_b (ff) (xx) (xx) (by omega) (by omega) (by omega)
  refine lv_istore_n (lv' := [(2, .int (iZ (dotZ (ff) (xx) (xx)))), (0, .int (iZ (ff))), (1, .int (iZ (xx)))]) hx hb dX2_sizeSeen_6 rfl hl (by decide) rfl (fun ls hl => ?_)
  refine lv_iload_n hx hb dX2_sizeSeen_7 rfl (lv_at hl 0 rfl) ?_
  refine z_bipush hx hb dX2_sizeSeen_8 (by decide +kernel) ?_
  refine z_icmp_gt (tgt := 17) hx hb (by omega) (by decide) dX2_sizeSeen_10 (by decide) (fun c2 => ?_) (fun c2 => ?_)
  · skip
    refine lv_iload_n hx hb dX2_sizeSeen_17 rfl (lv_at hl 0 rfl) ?_
    refine z_bipush hx hb dX2_sizeSeen_18 (by decide +kernel) ?_
    refine z_icmp_gt (tgt := 27) hx hb (by omega) (by decide) dX2_sizeSeen_20 (by decide) (fun c3 => ?_) (fun c3 => ?_)
    · skip
      refine z_iconst hx hb dX2_sizeSeen_27 ?_
      exact K _ _ _ (by unfold sizeZ; first | rw [if_pos (by omega)] | rw [if_neg (by omega), if_pos (by omega)] | rw [if_neg (by omega), if_neg (by omega)]) dX2_sizeSeen_28
    · skip
      refine z_iconst hx hb dX2_sizeSeen_23 ?_
      refine lv_goto (tgt := 28) hx hb dX2_sizeSeen_24 (by decide) ?_
      exact K _ _ _ (by unfold sizeZ; first | rw [if_pos (by omega)] | rw [if_neg (by omega), if_pos (by omega)] | rw [if_neg (by omega), if_neg (by omega)]) dX2_sizeSeen_28
  · skip
    refine z_iconst hx hb dX2_sizeSeen_13 ?_
    refine lv_goto (tgt := 28) hx hb dX2_sizeSeen_14 (by decide) ?_
    exact K _ _ _ (by unfold sizeZ; first | rw [if_pos (by omega)] | rw [if_neg (by omega), if_pos (by omega)] | rw [if_neg (by omega), if_neg (by omega)]) dX2_sizeSeen_28
abbrev rJ6_signum_0f7a4 : Room := { frames := 0, cells := 0, slots := 0, locals := 0 }
set_option maxHeartbeats 4000000 in
set_option maxRecDepth 100000 in
theorem m_J6_signum_0f7a4 (l : Launch) (xx : Int) (h1 : -1922 ≤ xx ∧ xx ≤ 1922) : Met l yJ6_signum_0f7a4 wsJ6_signum_0f7a4 rJ6_signum_0f7a4 (PcS [.int (iZ (xx))]) (QcRead (iZ (sg xx))) 0 0 (fun _ => False) := by
  refine metS (cc := cJ6_signum_0f7a4) (maxL := 1) (ret := (some .int)) (own := RJ6) (by decide) rfl rfl (Nat.le_of_ble_eq_true rfl) (Or.inl rfl) ?_
  intro p e R s m args below meth c Q ls S hRf hRl hl K
  have hx := S.1
  have hb := S.2.1
  have hown := S.2.2.2.1
  have hts := S.2.2.2.2
  have hRf : 0 ≤ R.frames := hRf
  have hRl : 0 ≤ R.locals := hRl
  have hl : lv_has ls 1 [(0, .int (iZ (xx)))] := hl
  refine lv_iload_n hx hb dJ6_signum_0f7a4_0 rfl (lv_at hl 0 rfl) ?_
  refine z_bipush hx hb dJ6_signum_0f7a4_1 (by decide +kernel) ?_
  refine z_ishr hx hb dJ6_signum_0f7a4_3 ?_
  refine lv_iload_n hx hb dJ6_signum_0f7a4_4 rfl (lv_at hl 0 rfl) ?_
  refine z_ineg hx hb dJ6_signum_0f7a4_5 ?_
  refine z_bipush hx hb dJ6_signum_0f7a4_6 (by decide +kernel) ?_
  refine z_iushr hx hb dJ6_signum_0f7a4_8 ?_
  refine z_ior hx hb dJ6_signum_0f7a4_9 ?_
  exact K _ _ _ (sg_zz h1) dJ6_signum_0f7a4_10
