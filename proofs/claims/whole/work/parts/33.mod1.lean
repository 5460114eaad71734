abbrev rX8_in : Room := { frames := 0, cells := 0, slots := 0, locals := 0 }
set_option maxHeartbeats 4000000 in
set_option maxRecDepth 100000 in
theorem m_X8_in (l : Launch) (vv : Int) (lo : Int) (hi : Int) (h1 : rg vv) (h2 : rg lo) (h3 : rg hi) : Met l yX8_in wsX8_in rX8_in (PcS [.int (iZ (vv)), .int (iZ (lo)), .int (iZ (hi))]) (QcRead (iZ (b2 (lo ≤ vv ∧ vv ≤ hi)))) 0 0 (fun _ => False) := by
  refine metS (cc := cX8_in) (maxL := 3) (ret := (some .boolean)) (own := RX8) (by decide) rfl rfl (Nat.le_of_ble_eq_true rfl) (Or.inr ⟨rfl, b2_01 _⟩) ?_
  intro p e R s m args below meth c Q ls S hRf hRl hl K
  have hx := S.1
  have hb := S.2.1
  have hown := S.2.2.2.1
  have hts := S.2.2.2.2
  have hRf : 0 ≤ R.frames := hRf
  have hRl : 0 ≤ R.locals := hRl
  have hl : lv_has ls 3 [(0, .int (iZ (vv))), (1, .int (iZ (lo))), (2, .int (iZ (hi)))] := hl
  refine lv_iload_n hx hb dX8_in_0 rfl (lv_at hl 0 rfl) ?_
  refine lv_iload_n hx hb dX8_in_1 rfl (lv_at hl 1 rfl) ?_
  refine z_icmp_lt (tgt := 14) hx hb (by omega) (by omega) dX8_in_2 (by decide) (fun c1 => ?_) (fun c1 => ?_)
  · skip
    refine z_iconst hx hb dX8_in_14 ?_
    exact K _ _ _ (by first | exact b2_pos (by omega) rfl | exact b2_neg (by omega) rfl) dX8_in_15
  · skip
    refine lv_iload_n hx hb dX8_in_5 rfl (lv_at hl 0 rfl) ?_
    refine lv_iload_n hx hb dX8_in_6 rfl (lv_at hl 2 rfl) ?_
    refine z_icmp_gt (tgt := 14) hx hb (by omega) (by omega) dX8_in_7 (by decide) (fun c2 => ?_) (fun c2 => ?_)
    · skip
      refine z_iconst hx hb dX8_in_14 ?_
      exact K _ _ _ (by first | exact b2_pos (by omega) rfl | exact b2_neg (by omega) rfl) dX8_in_15
    · skip
      refine z_iconst hx hb dX8_in_10 ?_
      refine lv_goto (tgt := 15) hx hb dX8_in_11 (by decide) ?_
      exact K _ _ _ (by first | exact b2_pos (by omega) rfl | exact b2_neg (by omega) rfl) dX8_in_15
abbrev rX8_isPlace : Room := { frames := 0, cells := 0, slots := 0, locals := 0 }
set_option maxHeartbeats 4000000 in
set_option maxRecDepth 100000 in
theorem m_X8_isPlace (l : Launch) (xx : Int) (hx0 : rg xx) : Met l yX8_isPlace wsX8_isPlace rX8_isPlace (PcS [.int (iZ (xx))]) (QcRead (iZ (b2 (0 ≤ xx ∧ xx / 100 < 32 ∧ xx % 100 < 32)))) 0 0 (fun _ => False) := by
  refine metS (cc := cX8_isPlace) (maxL := 1) (ret := (some .boolean)) (own := RX8) (by decide) rfl rfl (Nat.le_of_ble_eq_true rfl) (Or.inr ⟨rfl, b2_01 _⟩) ?_
  intro p e R s m args below meth c Q ls S hRf hRl hl K
  have hx := S.1
  have hb := S.2.1
  have hown := S.2.2.2.1
  have hts := S.2.2.2.2
  have hRf : 0 ≤ R.frames := hRf
  have hRl : 0 ≤ R.locals := hRl
  have hl : lv_has ls 1 [(0, .int (iZ (xx)))] := hl
  refine lv_iload_n hx hb dX8_isPlace_0 rfl (lv_at hl 0 rfl) ?_
  refine z_if_lt (tgt := 26) hx hb (by omega) dX8_isPlace_1 (by decide) (fun c1 => ?_) (fun c1 => ?_)
  · skip
    refine z_iconst hx hb dX8_isPlace_26 ?_
    exact K _ _ _ (by first | exact b2_pos (by omega) rfl | exact b2_neg (by omega) rfl) dX8_isPlace_27
  · skip
    refine lv_iload_n hx hb dX8_isPlace_4 rfl (lv_at hl 0 rfl) ?_
    refine z_bipush hx hb dX8_isPlace_5 (by decide +kernel) ?_
    refine z_idiv hx hb (by omega) (by omega) (by decide) (by omega) dX8_isPlace_7 ?_
    refine z_bipush hx hb dX8_isPlace_8 (by decide +kernel) ?_
    refine z_icmp_ge (tgt := 26) hx hb (by omega) (by decide) dX8_isPlace_10 (by decide) (fun c2 => ?_) (fun c2 => ?_)
    · skip
      refine z_iconst hx hb dX8_isPlace_26 ?_
      exact K _ _ _ (by first | exact b2_pos (by omega) rfl | exact b2_neg (by omega) rfl) dX8_isPlace_27
    · skip
      refine lv_iload_n hx hb dX8_isPlace_13 rfl (lv_at hl 0 rfl) ?_
      refine z_bipush hx hb dX8_isPlace_14 (by decide +kernel) ?_
      refine z_irem hx hb (by omega) (by omega) (by decide) (by omega) dX8_isPlace_16 ?_
      refine z_bipush hx hb dX8_isPlace_17 (by decide +kernel) ?_
      refine z_icmp_ge (tgt := 26) hx hb (by omega) (by decide) dX8_isPlace_19 (by decide) (fun c3 => ?_) (fun c3 => ?_)
      · skip
        refine z_iconst hx hb dX8_isPlace_26 ?_
        exact K _ _ _ (by first | exact b2_pos (by omega) rfl | exact b2_neg (by omega) rfl) dX8_isPlace_27
      · skip
        refine z_iconst hx hb dX8_isPlace_22 ?_
        refine lv_goto (tgt := 27) hx hb dX8_isPlace_23 (by decide) ?_
        exact K _ _ _ (by first | exact b2_pos (by omega) rfl | exact b2_neg (by omega) rfl) dX8_isPlace_27
abbrev rX8_isTick : Room := { frames := 1, cells := 0, slots := 0, locals := 22 }
set_option maxHeartbeats 4000000 in
set_option maxRecDepth 100000 in
theorem m_X8_isTick (l : Launch) (xx : Int) (hx0 : rg xx) : Met l yX8_isTick wsX8_isTick rX8_isTick (PcS [.int (iZ (xx))]) (QcRead (iZ (b2 (0 ≤ xx ∧ xx < 60)))) 0 0 (fun _ => False) := by
  refine metS (cc := cX8_isTick) (maxL := 1) (ret := (some .boolean)) (own := RX8) (by decide) rfl rfl (Nat.le_of_ble_eq_true rfl) (Or.inr ⟨rfl, b2_01 _⟩) ?_
  intro p e R s m args below meth c Q ls S hRf hRl hl K
  have hx := S.1
  have hb := S.2.1
  have hown := S.2.2.2.1
  have hts := S.2.2.2.2
  have hRf : 1 ≤ R.frames := hRf
  have hRl : 22 ≤ R.locals := hRl
  have hl : lv_has ls 1 [(0, .int (iZ (xx)))] := hl
  refine lv_iload_n hx hb dX8_isTick_0 rfl (lv_at hl 0 rfl) ?_
  refine z_iconst hx hb dX8_isTick_1 ?_
  refine z_bipush hx hb dX8_isTick_2 (by decide +kernel) ?_
  refine z_cSS (As := [.int (iZ (xx)), .int (iZ (0)), .int (iZ (59))]) (rest := []) S (m_X8_in l (xx) (0) (59) (by omega) (by omega) (by omega)) (va_cwS 3 hts gX8_isTick_X8_in rfl rfl rfl (by decide +kernel) ⟨Nat.le_trans (by decide) hRf, Nat.le_trans (by decide) hRl⟩) rfl hl.1 rfl (Nat.le_of_ble_eq_true rfl) dX8_isTick_4 ⟨Nat.zero_le _, Nat.zero_le _⟩ ?_
  exact K _ _ _ (b2_iff (by omega)) dX8_isTick_7
abbrev rX8_isPerson : Room := { frames := 1, cells := 0, slots := 0, locals := 22 }
set_option maxHeartbeats 4000000 in
set_option maxRecDepth 100000 in
theorem m_X8_isPerson (l : Launch) (D : va_G) (g : Nat → ClassId) (a : Nat → Nat) (st : SS) (xx : Int) (hI : IM st) (hx0 : rg xx) : Met l yX8_isPerson wsX8_isPerson rX8_isPerson (PcR D g (WM g a st) [.ref (a 0), .int (iZ (xx))]) (QcRead (iZ (b2 (0 ≤ xx ∧ xx < st 0 0)))) 0 0 (fun _ => False) := by
  refine metR (cc := cX8_isPerson) (maxL := 2) (ret := (some .boolean)) (own := RX8) (by decide) rfl rfl (Nat.le_of_ble_eq_true rfl) (Or.inr ⟨rfl, b2_01 _⟩) ?_
  intro p e R s m args below meth c Q ls S hRf hRl hK hP hl K
  have hx := S.1
  have hb := S.2.1
  have hown := S.2.2.2.1
  have hts := S.2.2.2.2
  have hRf : 1 ≤ R.frames := hRf
  have hRl : 22 ≤ R.locals := hRl
  have hl : lv_has ls 2 [(0, .ref (a 0)), (1, .int (iZ (xx)))] := hl
  have iX8 : ∀ w ∈ wsX80, w ∈ wsX8_isPerson := by decide +kernel
  have hB := hI.s
  refine lv_iload_n hx hb dX8_isPerson_0 rfl (lv_at hl 1 rfl) ?_
  refine z_iconst hx hb dX8_isPerson_1 ?_
  refine lv_aload_n hx hb dX8_isPerson_2 rfl (lv_at hl 0 rfl) ?_
  refine z_get (C := RX8) (T := TX8) (N := 26) (ci := 7) hx hb hts iX8 hown hK hP 0 rfl rfl 0 (by decide) (hts (.fieldLink RX8 72 "ShotBoardModel" "persons" "I") (by decide +kernel)) (.int (iZ (st 0 (0)))) rfl dX8_isPerson_3 ?_
  refine z_iconst hx hb dX8_isPerson_6 ?_
  refine z_isub hx hb dX8_isPerson_7 ?_
  refine z_cSS (As := [.int (iZ (xx)), .int (iZ (0)), .int (iZ ((st 0 (0)) - (1)))]) (rest := []) S (m_X8_in l (xx) (0) ((st 0 (0)) - (1)) (by omega) (by omega) (by omega)) (va_cwS 3 hts gX8_isPerson_X8_in rfl rfl rfl (by decide +kernel) ⟨Nat.le_trans (by decide) hRf, Nat.le_trans (by decide) hRl⟩) rfl hl.1 rfl (Nat.le_of_ble_eq_true rfl) dX8_isPerson_8 ⟨Nat.zero_le _, Nat.zero_le _⟩ ?_
  exact K _ _ _ (b2_iff (by omega)) dX8_isPerson_11
abbrev rX8_isCamera : Room := { frames := 1, cells := 0, slots := 0, locals := 22 }
set_option maxHeartbeats 4000000 in
set_option maxRecDepth 100000 in
theorem m_X8_isCamera (l : Launch) (D : va_G) (g : Nat → ClassId) (a : Nat → Nat) (st : SS) (xx : Int) (hI : IM st) (hx0 : rg xx) : Met l yX8_isCamera wsX8_isCamera rX8_isCamera (PcR D g (WM g a st) [.ref (a 0), .int (iZ (xx))]) (QcRead (iZ (b2 (0 ≤ xx ∧ xx < st 0 2)))) 0 0 (fun _ => False) := by
  refine metR (cc := cX8_isCamera) (maxL := 2) (ret := (some .boolean)) (own := RX8) (by decide) rfl rfl (Nat.le_of_ble_eq_true rfl) (Or.inr ⟨rfl, b2_01 _⟩) ?_
  intro p e R s m args below meth c Q ls S hRf hRl hK hP hl K
  have hx := S.1
  have hb := S.2.1
  have hown := S.2.2.2.1
  have hts := S.2.2.2.2
  have hRf : 1 ≤ R.frames := hRf
  have hRl : 22 ≤ R.locals := hRl
  have hl : lv_has ls 2 [(0, .ref (a 0)), (1, .int (iZ (xx)))] := hl
  have iX8 : ∀ w ∈ wsX80, w ∈ wsX8_isCamera := by decide +kernel
  have hB := hI.s
  refine lv_iload_n hx hb dX8_isCamera_0 rfl (lv_at hl 1 rfl) ?_
  refine z_iconst hx hb dX8_isCamera_1 ?_
  refine lv_aload_n hx hb dX8_isCamera_2 rfl (lv_at hl 0 rfl) ?_
  refine z_get (C := RX8) (T := TX8) (N := 26) (ci := 7) hx hb hts iX8 hown hK hP 0 rfl rfl 8 (by decide) (hts (.fieldLink RX8 79 "ShotBoardModel" "cameras" "I") (by decide +kernel)) (.int (iZ (st 0 (2)))) rfl dX8_isCamera_3 ?_
  refine z_iconst hx hb dX8_isCamera_6 ?_
  refine z_isub hx hb dX8_isCamera_7 ?_
  refine z_cSS (As := [.int (iZ (xx)), .int (iZ (0)), .int (iZ ((st 0 (2)) - (1)))]) (rest := []) S (m_X8_in l (xx) (0) ((st 0 (2)) - (1)) (by omega) (by omega) (by omega)) (va_cwS 3 hts gX8_isCamera_X8_in rfl rfl rfl (by decide +kernel) ⟨Nat.le_trans (by decide) hRf, Nat.le_trans (by decide) hRl⟩) rfl hl.1 rfl (Nat.le_of_ble_eq_true rfl) dX8_isCamera_8 ⟨Nat.zero_le _, Nat.zero_le _⟩ ?_
  exact K _ _ _ (b2_iff (by omega)) dX8_isCamera_11
abbrev rX8_isBoard : Room := { frames := 1, cells := 0, slots := 0, locals := 22 }
set_option maxHeartbeats 4000000 in
set_option maxRecDepth 100000 in
theorem m_X8_isBoard (l : Launch) (D : va_G) (g : Nat → ClassId) (a : Nat → Nat) (st : SS) (xx : Int) (hI : IM st) (hx0 : rg xx) : Met l yX8_isBoard wsX8_isBoard rX8_isBoard (PcR D g (WM g a st) [.ref (a 0), .int (iZ (xx))]) (QcRead (iZ (b2 (0 ≤ xx ∧ xx < st 0 3)))) 0 0 (fun _ => False) := by
  refine metR (cc := cX8_isBoard) (maxL := 2) (ret := (some .boolean)) (own := RX8) (by decide) rfl rfl (Nat.le_of_ble_eq_true rfl) (Or.inr ⟨rfl, b2_01 _⟩) ?_
  intro p e R s m args below meth c Q ls S hRf hRl hK hP hl K
  have hx := S.1
  have hb := S.2.1
  have hown := S.2.2.2.1
  have hts := S.2.2.2.2
  have hRf : 1 ≤ R.frames := hRf
  have hRl : 22 ≤ R.locals := hRl
  have hl : lv_has ls 2 [(0, .ref (a 0)), (1, .int (iZ (xx)))] := hl
  have iX8 : ∀ w ∈ wsX80, w ∈ wsX8_isBoard := by decide +kernel
  have hB := hI.s
  refine lv_iload_n hx hb dX8_isBoard_0 rfl (lv_at hl 1 rfl) ?_
  refine z_iconst hx hb dX8_isBoard_1 ?_
  refine lv_aload_n hx hb dX8_isBoard_2 rfl (lv_at hl 0 rfl) ?_
  refine z_get (C := RX8) (T := TX8) (N := 26) (ci := 7) hx hb hts iX8 hown hK hP 0 rfl rfl 11 (by decide) (hts (.fieldLink RX8 82 "ShotBoardModel" "boards" "I") (by decide +kernel)) (.int (iZ (st 0 (3)))) rfl dX8_isBoard_3 ?_
  refine z_iconst hx hb dX8_isBoard_6 ?_
  refine z_isub hx hb dX8_isBoard_7 ?_
  refine z_cSS (As := [.int (iZ (xx)), .int (iZ (0)), .int (iZ ((st 0 (3)) - (1)))]) (rest := []) S (m_X8_in l (xx) (0) ((st 0 (3)) - (1)) (by omega) (by omega) (by omega)) (va_cwS 3 hts gX8_isBoard_X8_in rfl rfl rfl (by decide +kernel) ⟨Nat.le_trans (by decide) hRf, Nat.le_trans (by decide) hRl⟩) rfl hl.1 rfl (Nat.le_of_ble_eq_true rfl) dX8_isBoard_8 ⟨Nat.zero_le _, Nat.zero_le _⟩ ?_
  exact K _ _ _ (b2_iff (by omega)) dX8_isBoard_11
abbrev rX8_x : Room := { frames := 0, cells := 0, slots := 0, locals := 0 }
set_option maxHeartbeats 4000000 in
set_option maxRecDepth 100000 in
theorem m_X8_x (l : Launch) (xx : Int) (h1 : plc xx) : Met l yX8_x wsX8_x rX8_x (PcS [.int (iZ (xx))]) (QcRead (iZ (xx / 100))) 0 0 (fun _ => False) := by
  refine metS (cc := cX8_x) (maxL := 1) (ret := (some .int)) (own := RX8) (by decide) rfl rfl (Nat.le_of_ble_eq_true rfl) (Or.inl rfl) ?_
  intro p e R s m args below meth c Q ls S hRf hRl hl K
  have hx := S.1
  have hb := S.2.1
  have hown := S.2.2.2.1
  have hts := S.2.2.2.2
  have hRf : 0 ≤ R.frames := hRf
  have hRl : 0 ≤ R.locals := hRl
  have hl : lv_has ls 1 [(0, .int (iZ (xx)))] := hl
  refine lv_iload_n hx hb dX8_x_0 rfl (lv_at hl 0 rfl) ?_
  refine z_bipush hx hb dX8_x_1 (by decide +kernel) ?_
  refine z_idiv hx hb (by omega) (by omega) (by decide) (by omega) dX8_x_3 ?_
  exact K _ _ _ (rfl) dX8_x_4
abbrev rX8_y : Room := { frames := 0, cells := 0, slots := 0, locals := 0 }
set_option maxHeartbeats 4000000 in
set_option maxRecDepth 100000 in
theorem m_X8_y (l : Launch) (xx : Int) (h1 : plc xx) : Met l yX8_y wsX8_y rX8_y (PcS [.int (iZ (xx))]) (QcRead (iZ (xx % 100))) 0 0 (fun _ => False) := by
  refine metS (cc := cX8_y) (maxL := 1) (ret := (some .int)) (own := RX8) (by decide) rfl rfl (Nat.le_of_ble_eq_true rfl) (Or.inl rfl) ?_
  intro p e R s m args below meth c Q ls S hRf hRl hl K
  have hx := S.1
  have hb := S.2.1
  have hown := S.2.2.2.1
  have hts := S.2.2.2.2
  have hRf : 0 ≤ R.frames := hRf
  have hRl : 0 ≤ R.locals := hRl
  have hl : lv_has ls 1 [(0, .int (iZ (xx)))] := hl
  refine lv_iload_n hx hb dX8_y_0 rfl (lv_at hl 0 rfl) ?_
  refine z_bipush hx hb dX8_y_1 (by decide +kernel) ?_
  refine z_irem hx hb (by omega) (by omega) (by decide) (by omega) dX8_y_3 ?_
  exact K _ _ _ (rfl) dX8_y_4
abbrev rX8_turn : Room := { frames := 1, cells := 0, slots := 0, locals := 20 }
set_option maxHeartbeats 4000000 in
set_option maxRecDepth 100000 in
theorem m_X8_turn (l : Launch) (ff : Int) (aa : Int) (bb : Int) (hf : plc ff) (ha : plc aa) (hb1 : plc bb) : Met l yX8_turn wsX8_turn rX8_turn (PcS [.int (iZ (ff)), .int (iZ (aa)), .int (iZ (bb))]) (QcRead (iZ (sg (crossZ ff aa bb)))) 0 0 (fun _ => False) := by
  refine metS (cc := cX8_turn) (maxL := 4) (ret := (some .int)) (own := RX8) (by decide) rfl rfl (Nat.le_of_ble_eq_true rfl) (Or.inl rfl) ?_
  intro p e R s m args below meth c Q ls S hRf hRl hl K
  have hx := S.1
  have hb := S.2.1
  have hown := S.2.2.2.1
  have hts := S.2.2.2.2
  have hRf : 1 ≤ R.frames := hRf
  have hRl : 20 ≤ R.locals := hRl
  have hl : lv_has ls 4 [(0, .int (iZ (ff))), (1, .int (iZ (aa))), (2, .int (iZ (bb)))] := hl
  refine lv_iload_n hx hb dX8_turn_0 rfl (lv_at hl 1 rfl) ?_
  refine z_cSS (As := [.int (iZ (aa))]) (rest := []) S (m_X8_x l (aa) (by omega)) (va_cwS 1 hts gX8_turn_X8_x rfl rfl rfl (by decide +kernel) ⟨Nat.le_trans (by decide) hRf, Nat.le_trans (by decide) hRl⟩) rfl hl.1 rfl (Nat.le_of_ble_eq_true rfl) dX8_turn_1 ⟨Nat.zero_le _, Nat.zero_le _⟩ ?_
  refine lv_iload_n hx hb dX8_turn_4 rfl (lv_at hl 0 rfl) ?_
  refine z_cSS (As := [.int (iZ (ff))]) (rest := [.int (iZ ((aa) / 100))]) S (m_X8_x l (ff) (by omega)) (va_cwS 1 hts gX8_turn_X8_x rfl rfl rfl (by decide +kernel) ⟨Nat.le_trans (by decide) hRf, Nat.le_trans (by decide) hRl⟩) rfl hl.1 rfl (Nat.le_of_ble_eq_true rfl) dX8_turn_5 ⟨Nat.zero_le _, Nat.zero_le _⟩ ?_
  refine z_isub hx hb dX8_turn_8 ?_
  refine lv_iload_n hx hb dX8_turn_9 rfl (lv_at hl 2 rfl) ?_
  refine z_cSS (As := [.int (iZ (bb))]) (rest := [.int (iZ (((aa) / 100) - ((ff) / 100)))]) S (m_X8_y l (bb) (by omega)) (va_cwS 1 hts gX8_turn_X8_y rfl rfl rfl (by decide +kernel) ⟨Nat.le_trans (by decide) hRf, Nat.le_trans (by decide) hRl⟩) rfl hl.1 rfl (Nat.le_of_ble_eq_true rfl) dX8_turn_10 ⟨Nat.zero_le _, Nat.zero_le _⟩ ?_
  refine lv_iload_n hx hb dX8_turn_13 rfl (lv_at hl 0 rfl) ?_
  refine z_cSS (As := [.int (iZ (ff))]) (rest := [.int (iZ ((bb) % 100)), .int (iZ (((aa) / 100) - ((ff) / 100)))]) S (m_X8_y l (ff) (by omega)) (va_cwS 1 hts gX8_turn_X8_y rfl rfl rfl (by decide +kernel) ⟨Nat.le_trans (by decide) hRf, Nat.le_trans (by decide) hRl⟩) rfl hl.1 rfl (Nat.le_of_ble_eq_true rfl) dX8_turn_14 ⟨Nat.zero_le _, Nat.zero_le _⟩ ?_
  refine z_isub hx hb dX8_turn_17 ?_
  refine z_imul hx hb dX8_turn_18 ?_
  refine lv_iload_n hx hb dX8_turn_19 rfl (lv_at hl 1 rfl) ?_
  refine z_cSS (As := [.int (iZ (aa))]) (rest := [.int (iZ ((((aa) / 100) - ((ff) / 100)) * (((bb) % 100) - ((ff) % 100))))]) S (m_X8_y l (aa) (by omega)) (va_cwS 1 hts gX8_turn_X8_y rfl rfl rfl (by decide +kernel) ⟨Nat.le_trans (by decide) hRf, Nat.le_trans (by decide) hRl⟩) rfl hl.1 rfl (Nat.le_of_ble_eq_true rfl) dX8_turn_20 ⟨Nat.zero_le _, Nat.zero_le _⟩ ?_
  refine lv_iload_n hx hb dX8_turn_23 rfl (lv_at hl 0 rfl) ?_
  refine z_cSS (As := [.int (iZ (ff))]) (rest := [.int (iZ ((aa) % 100)), .int (iZ ((((aa) / 100) - ((ff) / 100)) * (((bb) % 100) - ((ff) % 100))))]) S (m_X8_y l (ff) (by omega)) (va_cwS 1 hts gX8_turn_X8_y rfl rfl rfl (by decide +kernel) ⟨Nat.le_trans (by decide) hRf, Nat.le_trans (by decide) hRl⟩) rfl hl.1 rfl (Nat.le_of_ble_eq_true rfl) dX8_turn_24 ⟨Nat.zero_le _, Nat.zero_le _⟩ ?_
  refine z_isub hx hb dX8_turn_27 ?_
  refine lv_iload_n hx hb dX8_turn_28 rfl (lv_at hl 2 rfl) ?_
  refine z_cSS (As := [.int (iZ (bb))]) (rest := [.int (iZ (((aa) % 100) - ((ff) % 100))), .int (iZ ((((aa) / 100) - ((ff) / 100)) * (((bb) % 100) - ((ff) % 100))))]) S (m_X8_x l (bb) (by omega)) (va_cwS 1 hts gX8_turn_X8_x rfl rfl rfl (by decide +kernel) ⟨Nat.le_trans (by decide) hRf, Nat.le_trans (by decide) hRl⟩) rfl hl.1 rfl (Nat.le_of_ble_eq_true rfl) dX8_turn_29 ⟨Nat.zero_le _, Nat.zero_le _⟩ ?_
  refine lv_iload_n hx hb dX8_turn_32 rfl (lv_at hl 0 rfl) ?_
  refine z_cSS (As := [.int (iZ (ff))]) (rest := [.int (iZ ((bb) / 100)), .int (iZ (((aa) % 100) - ((ff) % 100))), .int (iZ ((((aa) / 100) - ((ff) / 100)) * (((bb) % 100) - ((ff) % 100))))]) S (m_X8_x l (ff) (by omega)) (va_cwS 1 hts gX8_turn_X8_x rfl rfl rfl (by decide +kernel) ⟨Nat.le_trans (by decide) hRf, Nat.le_trans (by decide) hRl⟩) rfl hl.1 rfl (Nat.le_of_ble_eq_true rfl) dX8_turn_33 ⟨Nat.zero_le _, Nat.zero_le _⟩ ?_
  refine z_isub hx hb dX8_turn_36 ?_
  refine z_imul hx hb dX8_turn_37 ?_
  have f38 := crossZ_b ff aa bb (by omega) (by omega) (by omega)
  refine z_isub hx hb dX8_turn_38 ?_
  refine z_as (y := crossZ ff aa bb) (rfl) ?_
  refine lv_istore_n (lv' := [(3, .int (iZ (crossZ ff aa bb))), (0, .int (iZ (ff))), (1, .int (iZ (aa))), (2, .int (iZ (bb)))]) hx hb dX8_turn_39 rfl hl (by decide) rfl (fun ls hl => ?_)
  refine lv_iload_n hx hb dX8_turn_40 rfl (lv_at hl 0 rfl) ?_
  refine z_if_le (tgt := 48) hx hb (by omega) dX8_turn_41 (by decide) (fun c1 => ?_) (fun c1 => ?_)
  · skip
    refine lv_iload_n hx hb dX8_turn_48 rfl (lv_at hl 0 rfl) ?_
    refine z_if_ge (tgt := 56) hx hb (by omega) dX8_turn_49 (by decide) (fun c2 => ?_) (fun c2 => ?_)
    · skip
      refine z_iconst hx hb dX8_turn_56 ?_
      exact K _ _ _ (by unfold sg; first | rw [if_pos (by omega)] | rw [if_neg (by omega), if_pos (by omega)] | rw [if_neg (by omega), if_neg (by omega)]) dX8_turn_57
    · skip
      refine z_iconst hx hb dX8_turn_52 ?_
      refine lv_goto (tgt := 57) hx hb dX8_turn_53 (by decide) ?_
      exact K _ _ _ (by unfold sg; first | rw [if_pos (by omega)] | rw [if_neg (by omega), if_pos (by omega)] | rw [if_neg (by omega), if_neg (by omega)]) dX8_turn_57
  · skip
    refine z_iconst hx hb dX8_turn_44 ?_
    refine lv_goto (tgt := 57) hx hb dX8_turn_45 (by decide) ?_
    exact K _ _ _ (by unfold sg; first | rw [if_pos (by omega)] | rw [if_neg (by omega), if_pos (by omega)] | rw [if_neg (by omega), if_neg (by omega)]) dX8_turn_57
abbrev rX8_isBetween : Room := { frames := 1, cells := 0, slots := 0, locals := 22 }
set_option maxHeartbeats 4000000 in
set_option maxRecDepth 100000 in
theorem m_X8_isBetween (l : Launch) (vv : Int) (aa : Int) (bb : Int) (h1 : rg vv) (h2 : rg aa) (h3 : rg bb) : Met l yX8_isBetween wsX8_isBetween rX8_isBetween (PcS [.int (iZ (vv)), .int (iZ (aa)), .int (iZ (bb))]) (QcRead (iZ (b2 ((aa ≤ vv ∧ vv ≤ bb) ∨ (bb ≤ vv ∧ vv ≤ aa))))) 0 0 (fun _ => False) := by
  refine metS (cc := cX8_isBetween) (maxL := 3) (ret := (some .boolean)) (own := RX8) (by decide) rfl rfl (Nat.le_of_ble_eq_true rfl) (Or.inr ⟨rfl, b2_01 _⟩) ?_
  intro p e R s m args below meth c Q ls S hRf hRl hl K
  have hx := S.1
  have hb := S.2.1
  have hown := S.2.2.2.1
  have hts := S.2.2.2.2
  have hRf : 1 ≤ R.frames := hRf
  have hRl : 22 ≤ R.locals := hRl
  have hl : lv_has ls 3 [(0, .int (iZ (vv))), (1, .int (iZ (aa))), (2, .int (iZ (bb)))] := hl
  refine lv_iload_n hx hb dX8_isBetween_0 rfl (lv_at hl 1 rfl) ?_
  refine lv_iload_n hx hb dX8_isBetween_1 rfl (lv_at hl 2 rfl) ?_
  refine z_icmp_ge (tgt := 14) hx hb (by omega) (by omega) dX8_isBetween_2 (by decide) (fun c1 => ?_) (fun c1 => ?_)
  · skip
    refine lv_iload_n hx hb dX8_isBetween_14 rfl (lv_at hl 0 rfl) ?_
    refine lv_iload_n hx hb dX8_isBetween_15 rfl (lv_at hl 2 rfl) ?_
    refine lv_iload_n hx hb dX8_isBetween_16 rfl (lv_at hl 1 rfl) ?_
    refine z_cSS (As := [.int (iZ (vv)), .int (iZ (bb)), .int (iZ (aa))]) (rest := []) S (m_X8_in l (vv) (bb) (aa) (by omega) (by omega) (by omega)) (va_cwS 3 hts gX8_isBetween_X8_in rfl rfl rfl (by decide +kernel) ⟨Nat.le_trans (by decide) hRf, Nat.le_trans (by decide) hRl⟩) rfl hl.1 rfl (Nat.le_of_ble_eq_true rfl) dX8_isBetween_17 ⟨Nat.zero_le _, Nat.zero_le _⟩ ?_
    exact K _ _ _ (b2_iff (by omega)) dX8_isBetween_20
  · skip
    refine lv_iload_n hx hb dX8_isBetween_5 rfl (lv_at hl 0 rfl) ?_
    refine lv_iload_n hx hb dX8_isBetween_6 rfl (lv_at hl 1 rfl) ?_
    refine lv_iload_n hx hb dX8_isBetween_7 rfl (lv_at hl 2 rfl) ?_
    refine z_cSS (As := [.int (iZ (vv)), .int (iZ (aa)), .int (iZ (bb))]) (rest := []) S (m_X8_in l (vv) (aa) (bb) (by omega) (by omega) (by omega)) (va_cwS 3 hts gX8_isBetween_X8_in rfl rfl rfl (by decide +kernel) ⟨Nat.le_trans (by decide) hRf, Nat.le_trans (by decide) hRl⟩) rfl hl.1 rfl (Nat.le_of_ble_eq_true rfl) dX8_isBetween_8 ⟨Nat.zero_le _, Nat.zero_le _⟩ ?_
    refine lv_goto (tgt := 20) hx hb dX8_isBetween_11 (by decide) ?_
    exact K _ _ _ (b2_iff (by omega)) dX8_isBetween_20
abbrev rX8_isOn : Room := { frames := 2, cells := 0, slots := 0, locals := 44 }
set_option maxHeartbeats 4000000 in
set_option maxRecDepth 100000 in
theorem m_X8_isOn (l : Launch) (vv : Int) (aa : Int) (bb : Int) (h1 : plc vv) (h2 : plc aa) (h3 : plc bb) : Met l yX8_isOn wsX8_isOn rX8_isOn (PcS [.int (iZ (vv)), .int (iZ (aa)), .int (iZ (bb))]) (QcRead (iZ (b2 (ONs vv aa bb)))) 0 0 (fun _ => False) := by
  refine metS (cc := cX8_isOn) (maxL := 3) (ret := (some .boolean)) (own := RX8) (by decide) rfl rfl (Nat.le_of_ble_eq_true rfl) (Or.inr ⟨rfl, b2_01 _⟩) ?_
  intro p e R s m args below meth c Q ls S hRf hRl hl K
  have hx := S.1
  have hb := S.2.1
  have hown := S.2.2.2.1
  have hts := S.2.2.2.2
  have hRf : 2 ≤ R.frames := hRf
  have hRl : 44 ≤ R.locals := hRl
  have hl : lv_has ls 3 [(0, .int (iZ (vv))), (1, .int (iZ (aa))), (2, .int (iZ (bb)))] := hl
  refine lv_iload_n hx hb dX8_isOn_0 rfl (lv_at hl 1 rfl) ?_
  refine lv_iload_n hx hb dX8_isOn_1 rfl (lv_at hl 2 rfl) ?_
  refine lv_iload_n hx hb dX8_isOn_2 rfl (lv_at hl 0 rfl) ?_
  refine z_cSS (As := [.int (iZ (aa)), .int (iZ (bb)), .int (iZ (vv))]) (rest := []) S (m_X8_turn l (aa) (bb) (vv) (by omega) (by omega) (by omega)) (va_cwS 3 hts gX8_isOn_X8_turn rfl rfl rfl (by decide +kernel) ⟨Nat.le_trans (by decide) hRf, Nat.le_trans (by decide) hRl⟩) rfl hl.1 rfl (Nat.le_of_ble_eq_true rfl) dX8_isOn_3 ⟨Nat.zero_le _, Nat.zero_le _⟩ ?_
  have f1 := sg_b (crossZ (aa) (bb) (vv))
  refine z_if_ne (tgt := 49) hx hb (by omega) dX8_isOn_6 (by decide) (fun c2 => ?_) (fun c2 => ?_)
  · skip
    have hz : ¬ crossZ aa bb vv = 0 := fun z => c2 ((sg_0 _).mpr z)
    refine z_iconst hx hb dX8_isOn_49 ?_
    exact K _ _ _ (by first | exact b2_neg (fun z => hz z.1) rfl | exact b2_neg (fun z => hbx z.2.1) rfl | exact b2_neg (fun z => hby z.2.2) rfl | exact b2_pos ⟨hz, hbx, hby⟩ rfl) dX8_isOn_50
  · skip
    have hz : crossZ aa bb vv = 0 := (sg_0 _).mp c2
    refine lv_iload_n hx hb dX8_isOn_9 rfl (lv_at hl 0 rfl) ?_
    refine z_cSS (As := [.int (iZ (vv))]) (rest := []) S (m_X8_x l (vv) (by omega)) (va_cwS 1 hts gX8_isOn_X8_x rfl rfl rfl (by decide +kernel) ⟨Nat.le_trans (by decide) hRf, Nat.le_trans (by decide) hRl⟩) rfl hl.1 rfl (Nat.le_of_ble_eq_true rfl) dX8_isOn_10 ⟨Nat.zero_le _, Nat.zero_le _⟩ ?_
    refine lv_iload_n hx hb dX8_isOn_13 rfl (lv_at hl 1 rfl) ?_
    refine z_cSS (As := [.int (iZ (aa))]) (rest := [.int (iZ ((vv) / 100))]) S (m_X8_x l (aa) (by omega)) (va_cwS 1 hts gX8_isOn_X8_x rfl rfl rfl (by decide +kernel) ⟨Nat.le_trans (by decide) hRf, Nat.le_trans (by decide) hRl⟩) rfl hl.1 rfl (Nat.le_of_ble_eq_true rfl) dX8_isOn_14 ⟨Nat.zero_le _, Nat.zero_le _⟩ ?_
    refine lv_iload_n hx hb dX8_isOn_17 rfl (lv_at hl 2 rfl) ?_
    refine z_cSS (As := [.int (iZ (bb))]) (rest := [.int (iZ ((aa) / 100)), .int (iZ ((vv) / 100))]) S (m_X8_x l (bb) (by omega)) (va_cwS 1 hts gX8_isOn_X8_x rfl rfl rfl (by decide +kernel) ⟨Nat.le_trans (by decide) hRf, Nat.le_trans (by decide) hRl⟩) rfl hl.1 rfl (Nat.le_of_ble_eq_true rfl) dX8_isOn_18 ⟨Nat.zero_le _, Nat.zero_le _⟩ ?_
    refine z_cSS (As := [.int (iZ ((vv) / 100)), .int (iZ ((aa) / 100)), .int (iZ ((bb) / 100))]) (rest := []) S (m_X8_isBetween l ((vv) / 100) ((aa) / 100) ((bb) / 100) (by omega) (by omega) (by omega)) (va_cwS 3 hts gX8_isOn_X8_isBetween rfl rfl rfl (by decide +kernel) ⟨Nat.le_trans (by decide) hRf, Nat.le_trans (by decide) hRl⟩) rfl hl.1 rfl (Nat.le_of_ble_eq_true rfl) dX8_isOn_21 ⟨Nat.zero_le _, Nat.zero_le _⟩ ?_
    refine z_if_eq (tgt := 49) hx hb (b2_rg _) dX8_isOn_24 (by decide) (fun c3 => ?_) (fun c3 => ?_)
    · skip
      have c3 := b2_0 c3
      have hbx := c3
      refine z_iconst hx hb dX8_isOn_49 ?_
      exact K _ _ _ (by first | exact b2_neg (fun z => hz z.1) rfl | exact b2_neg (fun z => hbx z.2.1) rfl | exact b2_neg (fun z => hby z.2.2) rfl | exact b2_pos ⟨hz, hbx, hby⟩ rfl) dX8_isOn_50
    · skip
      have c3 := b2_n0 c3
      have hbx := c3
      refine lv_iload_n hx hb dX8_isOn_27 rfl (lv_at hl 0 rfl) ?_
      refine z_cSS (As := [.int (iZ (vv))]) (rest := []) S (m_X8_y l (vv) (by omega)) (va_cwS 1 hts gX8_isOn_X8_y rfl rfl rfl (by decide +kernel) ⟨Nat.le_trans (by decide) hRf, Nat.le_trans (by decide) hRl⟩) rfl hl.1 rfl (Nat.le_of_ble_eq_true rfl) dX8_isOn_28 ⟨Nat.zero_le _, Nat.zero_le _⟩ ?_
      refine lv_iload_n hx hb dX8_isOn_31 rfl (lv_at hl 1 rfl) ?_
      refine z_cSS (As := [.int (iZ (aa))]) (rest := [.int (iZ ((vv) % 100))]) S (m_X8_y l (aa) (by omega)) (va_cwS 1 hts gX8_isOn_X8_y rfl rfl rfl (by decide +kernel) ⟨Nat.le_trans (by decide) hRf, Nat.le_trans (by decide) hRl⟩) rfl hl.1 rfl (Nat.le_of_ble_eq_true rfl) dX8_isOn_32 ⟨Nat.zero_le _, Nat.zero_le _⟩ ?_
      refine lv_iload_n hx hb dX8_isOn_35 rfl (lv_at hl 2 rfl) ?_
      refine z_cSS (As := [.int (iZ (bb))]) (rest := [.int (iZ ((aa) % 100)), .int (iZ ((vv) % 100))]) S (m_X8_y l (bb) (by omega)) (va_cwS 1 hts gX8_isOn_X8_y rfl rfl rfl (by decide +kernel) ⟨Nat.le_trans (by decide) hRf, Nat.le_trans (by decide) hRl⟩) rfl hl.1 rfl (Nat.le_of_ble_eq_true rfl) dX8_isOn_36 ⟨Nat.zero_le _, Nat.zero_le _⟩ ?_
      refine z_cSS (As := [.int (iZ ((vv) % 100)), .int (iZ ((aa) % 100)), .int (iZ ((bb) % 100))]) (rest := []) S (m_X8_isBetween l ((vv) % 100) ((aa) % 100) ((bb) % 100) (by omega) (by omega) (by omega)) (va_cwS 3 hts gX8_isOn_X8_isBetween rfl rfl rfl (by decide +kernel) ⟨Nat.le_trans (by decide) hRf, Nat.le_trans (by decide) hRl⟩) rfl hl.1 rfl (Nat.le_of_ble_eq_true rfl) dX8_isOn_39 ⟨Nat.zero_le _, Nat.zero_le _⟩ ?_
      refine z_if_eq (tgt := 49) hx hb (b2_rg _) dX8_isOn_42 (by decide) (fun c4 => ?_) (fun c4 => ?_)
      · skip
        have c4 := b2_0 c4
        have hby := c4
        refine z_iconst hx hb dX8_isOn_49 ?_
        exact K _ _ _ (by first | exact b2_neg (fun z => hz z.1) rfl | exact b2_neg (fun z => hbx z.2.1) rfl | exact b2_neg (fun z => hby z.2.2) rfl | exact b2_pos ⟨hz, hbx, hby⟩ rfl) dX8_isOn_50
      · skip
        have c4 := b2_n0 c4
        have hby := c4
        refine z_iconst hx hb dX8_isOn_45 ?_
        refine lv_goto (tgt := 50) hx hb dX8_isOn_46 (by decide) ?_
        exact K _ _ _ (by first | exact b2_neg (fun z => hz z.1) rfl | exact b2_neg (fun z => hbx z.2.1) rfl | exact b2_neg (fun z => hby z.2.2) rfl | exact b2_pos ⟨hz, hbx, hby⟩ rfl) dX8_isOn_50
abbrev rX8_meet : Room := { frames := 3, cells := 0, slots := 0, locals := 66 }
set_option maxHeartbeats 4000000 in
set_option maxRecDepth 100000 in
theorem m_X8_meet (l : Launch) (pp : Int) (qq : Int) (aa : Int) (bb : Int) (h1 : plc pp) (h2 : plc qq) (h3 : plc aa) (h4 : plc bb) (h5 : pp ≠ qq) (h6 : aa ≠ bb) : Met l yX8_meet wsX8_meet rX8_meet (PcS [.int (iZ (pp)), .int (iZ (qq)), .int (iZ (aa)), .int (iZ (bb))]) (QcRead (iZ (b2 (meetC pp qq aa bb)))) 0 0 (fun _ => False) := by
  refine metS (cc := cX8_meet) (maxL := 5) (ret := (some .boolean)) (own := RX8) (by decide) rfl rfl (Nat.le_of_ble_eq_true rfl) (Or.inr ⟨rfl, b2_01 _⟩) ?_
  intro p e R s m args below meth c Q ls S hRf hRl hl K
  have hx := S.1
  have hb := S.2.1
  have hown := S.2.2.2.1
  have hts := S.2.2.2.2
  have hRf : 3 ≤ R.frames := hRf
  have hRl : 66 ≤ R.locals := hRl
  have hl : lv_has ls 5 [(0, .int (iZ (pp))), (1, .int (iZ (qq))), (2, .int (iZ (aa))), (3, .int (iZ (bb)))] := hl
  refine lv_iload_n hx hb dX8_meet_0 rfl (lv_at hl 0 rfl) ?_
  refine lv_iload_n hx hb dX8_meet_1 rfl (lv_at hl 1 rfl) ?_
  refine lv_iload_n hx hb dX8_meet_2 rfl (lv_at hl 2 rfl) ?_
  refine z_cSS (As := [.int (iZ (pp)), .int (iZ (qq)), .int (iZ (aa))]) (rest := []) S (m_X8_turn l (pp) (qq) (aa) (by omega) (by omega) (by omega)) (va_cwS 3 hts gX8_meet_X8_turn rfl rfl rfl (by decide +kernel) ⟨Nat.le_trans (by decide) hRf, Nat.le_trans (by decide) hRl⟩) rfl hl.1 rfl (Nat.le_of_ble_eq_true rfl) dX8_meet_3 ⟨Nat.zero_le _, Nat.zero_le _⟩ ?_
  have f1 := sg_b (crossZ (pp) (qq) (aa))
  refine lv_iload_n hx hb dX8_meet_6 rfl (lv_at hl 0 rfl) ?_
  refine lv_iload_n hx hb dX8_meet_7 rfl (lv_at hl 1 rfl) ?_
  refine lv_iload_n hx hb dX8_meet_8 rfl (lv_at hl 3 rfl) ?_
  refine z_cSS (As := [.int (iZ (pp)), .int (iZ (qq)), .int (iZ (bb))]) (rest := [.int (iZ (sg (crossZ (pp) (qq) (aa))))]) S (m_X8_turn l (pp) (qq) (bb) (by omega) (by omega) (by omega)) (va_cwS 3 hts gX8_meet_X8_turn rfl rfl rfl (by decide +kernel) ⟨Nat.le_trans (by decide) hRf, Nat.le_trans (by decide) hRl⟩) rfl hl.1 rfl (Nat.le_of_ble_eq_true rfl) dX8_meet_9 ⟨Nat.zero_le _, Nat.zero_le _⟩ ?_
  have f2 := sg_b (crossZ (pp) (qq) (bb))
  have g1 := mul_b (x := sg (crossZ pp qq aa)) (y := sg (crossZ pp qq bb)) (A := 1) (B := 1) (by omega) (by omega) (by omega) (by omega)
  refine z_imul hx hb dX8_meet_12 ?_
  refine z_if_ge (tgt := 36) hx hb (by omega) dX8_meet_13 (by decide) (fun c3 => ?_) (fun c3 => ?_)
  · skip
    have hx1 : ¬ (crossZ pp qq aa * crossZ pp qq bb < 0 ∧ crossZ aa bb pp * crossZ aa bb qq < 0) := fun z => absurd ((sg_mul _ _).mpr z.1) (by omega)
    refine z_iconst hx hb dX8_meet_36 ?_
    refine lv_istore (lv' := [(4, .int (iZ (0))), (0, .int (iZ (pp))), (1, .int (iZ (qq))), (2, .int (iZ (aa))), (3, .int (iZ (bb)))]) hx hb dX8_meet_37 hl (by decide) rfl (fun ls hl => ?_)
    refine lv_iload hx hb dX8_meet_39 (lv_at hl 0 rfl) ?_
    refine z_if_ne (tgt := 80) hx hb (by decide) dX8_meet_41 (by decide) (fun c4 => ?_) (fun c4 => ?_)
    · skip
      exact absurd c4 (by decide)
    · skip
      refine lv_iload_n hx hb dX8_meet_44 rfl (lv_at hl 3 rfl) ?_
      refine lv_iload_n hx hb dX8_meet_45 rfl (lv_at hl 1 rfl) ?_
      refine lv_iload_n hx hb dX8_meet_46 rfl (lv_at hl 2 rfl) ?_
      refine z_cSS (As := [.int (iZ (aa)), .int (iZ (pp)), .int (iZ (qq))]) (rest := []) S (m_X8_isOn l (aa) (pp) (qq) (by omega) (by omega) (by omega)) (va_cwS 3 hts gX8_meet_X8_isOn rfl rfl rfl (by decide +kernel) ⟨Nat.le_trans (by decide) hRf, Nat.le_trans (by decide) hRl⟩) rfl hl.1 rfl (Nat.le_of_ble_eq_true rfl) dX8_meet_47 ⟨Nat.zero_le _, Nat.zero_le _⟩ ?_
      refine z_if_ne (tgt := 80) hx hb (b2_rg _) dX8_meet_50 (by decide) (fun c5 => ?_) (fun c5 => ?_)
      · skip
        have c5 := b2_n0 c5
        have hm : meetM pp qq aa bb := Or.inr (Or.inl c5)
        refine z_iconst hx hb dX8_meet_80 ?_
        refine lv_goto (tgt := 85) hx hb dX8_meet_81 (by decide) ?_
        exact K _ _ _ (b2_pos ((meet_iff h1 h2 h3 h4 h5 h6).mp hm) rfl) dX8_meet_85
      · skip
        have c5 := b2_0 c5
        have hn1 := c5
        refine lv_iload_n hx hb dX8_meet_53 rfl (lv_at hl 4 rfl) ?_
        refine lv_iload_n hx hb dX8_meet_54 rfl (lv_at hl 1 rfl) ?_
        refine lv_iload_n hx hb dX8_meet_55 rfl (lv_at hl 2 rfl) ?_
        refine z_cSS (As := [.int (iZ (bb)), .int (iZ (pp)), .int (iZ (qq))]) (rest := []) S (m_X8_isOn l (bb) (pp) (qq) (by omega) (by omega) (by omega)) (va_cwS 3 hts gX8_meet_X8_isOn rfl rfl rfl (by decide +kernel) ⟨Nat.le_trans (by decide) hRf, Nat.le_trans (by decide) hRl⟩) rfl hl.1 rfl (Nat.le_of_ble_eq_true rfl) dX8_meet_56 ⟨Nat.zero_le _, Nat.zero_le _⟩ ?_
        refine z_if_ne (tgt := 80) hx hb (b2_rg _) dX8_meet_59 (by decide) (fun c6 => ?_) (fun c6 => ?_)
        · skip
          have c6 := b2_n0 c6
          have hm : meetM pp qq aa bb := Or.inr (Or.inr (Or.inl c6))
          refine z_iconst hx hb dX8_meet_80 ?_
          refine lv_goto (tgt := 85) hx hb dX8_meet_81 (by decide) ?_
          exact K _ _ _ (b2_pos ((meet_iff h1 h2 h3 h4 h5 h6).mp hm) rfl) dX8_meet_85
        · skip
          have c6 := b2_0 c6
          have hn2 := c6
          refine lv_iload_n hx hb dX8_meet_62 rfl (lv_at hl 1 rfl) ?_
          refine lv_iload_n hx hb dX8_meet_63 rfl (lv_at hl 3 rfl) ?_
          refine lv_iload_n hx hb dX8_meet_64 rfl (lv_at hl 4 rfl) ?_
          refine z_cSS (As := [.int (iZ (pp)), .int (iZ (aa)), .int (iZ (bb))]) (rest := []) S (m_X8_isOn l (pp) (aa) (bb) (by omega) (by omega) (by omega)) (va_cwS 3 hts gX8_meet_X8_isOn rfl rfl rfl (by decide +kernel) ⟨Nat.le_trans (by decide) hRf, Nat.le_trans (by decide) hRl⟩) rfl hl.1 rfl (Nat.le_of_ble_eq_true rfl) dX8_meet_65 ⟨Nat.zero_le _, Nat.zero_le _⟩ ?_
          refine z_if_ne (tgt := 80) hx hb (b2_rg _) dX8_meet_68 (by decide) (fun c7 => ?_) (fun c7 => ?_)
          · skip
            have c7 := b2_n0 c7
            have hm : meetM pp qq aa bb := Or.inr (Or.inr (Or.inr (Or.inl c7)))
            refine z_iconst hx hb dX8_meet_80 ?_
            refine lv_goto (tgt := 85) hx hb dX8_meet_81 (by decide) ?_
            exact K _ _ _ (b2_pos ((meet_iff h1 h2 h3 h4 h5 h6).mp hm) rfl) dX8_meet_85
          · skip
            have c7 := b2_0 c7
            have hn3 := c7
            refine lv_iload_n hx hb dX8_meet_71 rfl (lv_at hl 2 rfl) ?_
            refine lv_iload_n hx hb dX8_meet_72 rfl (lv_at hl 3 rfl) ?_
            refine lv_iload_n hx hb dX8_meet_73 rfl (lv_at hl 4 rfl) ?_
            refine z_cSS (As := [.int (iZ (qq)), .int (iZ (aa)), .int (iZ (bb))]) (rest := []) S (m_X8_isOn l (qq) (aa) (bb) (by omega) (by omega) (by omega)) (va_cwS 3 hts gX8_meet_X8_isOn rfl rfl rfl (by decide +kernel) ⟨Nat.le_trans (by decide) hRf, Nat.le_trans (by decide) hRl⟩) rfl hl.1 rfl (Nat.le_of_ble_eq_true rfl) dX8_meet_74 ⟨Nat.zero_le _, Nat.zero_le _⟩ ?_
            refine z_if_eq (tgt := 84) hx hb (b2_rg _) dX8_meet_77 (by decide) (fun c8 => ?_) (fun c8 => ?_)
            · skip
              have c8 := b2_0 c8
              have hn4 := c8
              refine z_iconst hx hb dX8_meet_84 ?_
              exact K _ _ _ (b2_neg (fun z => by
      rcases (meet_iff h1 h2 h3 h4 h5 h6).mpr z with q | q | q | q | q
      · exact hx1 q
      · exact hn1 q
      · exact hn2 q
      · exact hn3 q
      · exact hn4 q) rfl) dX8_meet_85
            · skip
              have c8 := b2_n0 c8
              have hm : meetM pp qq aa bb := Or.inr (Or.inr (Or.inr (Or.inr c8)))
              refine z_iconst hx hb dX8_meet_80 ?_
              refine lv_goto (tgt := 85) hx hb dX8_meet_81 (by decide) ?_
              exact K _ _ _ (b2_pos ((meet_iff h1 h2 h3 h4 h5 h6).mp hm) rfl) dX8_meet_85
  · skip
    have hx0 := (sg_mul _ _).mp c3
    refine lv_iload_n hx hb dX8_meet_16 rfl (lv_at hl 2 rfl) ?_
    refine lv_iload_n hx hb dX8_meet_17 rfl (lv_at hl 3 rfl) ?_
    refine lv_iload_n hx hb dX8_meet_18 rfl (lv_at hl 0 rfl) ?_
    refine z_cSS (As := [.int (iZ (aa)), .int (iZ (bb)), .int (iZ (pp))]) (rest := []) S (m_X8_turn l (aa) (bb) (pp) (by omega) (by omega) (by omega)) (va_cwS 3 hts gX8_meet_X8_turn rfl rfl rfl (by decide +kernel) ⟨Nat.le_trans (by decide) hRf, Nat.le_trans (by decide) hRl⟩) rfl hl.1 rfl (Nat.le_of_ble_eq_true rfl) dX8_meet_19 ⟨Nat.zero_le _, Nat.zero_le _⟩ ?_
    have f9 := sg_b (crossZ (aa) (bb) (pp))
    refine lv_iload_n hx hb dX8_meet_22 rfl (lv_at hl 2 rfl) ?_
    refine lv_iload_n hx hb dX8_meet_23 rfl (lv_at hl 3 rfl) ?_
    refine lv_iload_n hx hb dX8_meet_24 rfl (lv_at hl 1 rfl) ?_
    refine z_cSS (As := [.int (iZ (aa)), .int (iZ (bb)), .int (iZ (qq))]) (rest := [.int (iZ (sg (crossZ (aa) (bb) (pp))))]) S (m_X8_turn l (aa) (bb) (qq) (by omega) (by omega) (by omega)) (va_cwS 3 hts gX8_meet_X8_turn rfl rfl rfl (by decide +kernel) ⟨Nat.le_trans (by decide) hRf, Nat.le_trans (by decide) hRl⟩) rfl hl.1 rfl (Nat.le_of_ble_eq_true rfl) dX8_meet_25 ⟨Nat.zero_le _, Nat.zero_le _⟩ ?_
    have f10 := sg_b (crossZ (aa) (bb) (qq))
    have g2 := mul_b (x := sg (crossZ aa bb pp)) (y := sg (crossZ aa bb qq)) (A := 1) (B := 1) (by omega) (by omega) (by omega) (by omega)
    refine z_imul hx hb dX8_meet_28 ?_
    refine z_if_ge (tgt := 36) hx hb (by omega) dX8_meet_29 (by decide) (fun c11 => ?_) (fun c11 => ?_)
    · skip
      have hx1 : ¬ (crossZ pp qq aa * crossZ pp qq bb < 0 ∧ crossZ aa bb pp * crossZ aa bb qq < 0) := fun z => absurd ((sg_mul _ _).mpr z.2) (by omega)
      refine z_iconst hx hb dX8_meet_36 ?_
      refine lv_istore (lv' := [(4, .int (iZ (0))), (0, .int (iZ (pp))), (1, .int (iZ (qq))), (2, .int (iZ (aa))), (3, .int (iZ (bb)))]) hx hb dX8_meet_37 hl (by decide) rfl (fun ls hl => ?_)
      refine lv_iload hx hb dX8_meet_39 (lv_at hl 0 rfl) ?_
      refine z_if_ne (tgt := 80) hx hb (by decide) dX8_meet_41 (by decide) (fun c12 => ?_) (fun c12 => ?_)
      · skip
        exact absurd c12 (by decide)
      · skip
        refine lv_iload_n hx hb dX8_meet_44 rfl (lv_at hl 3 rfl) ?_
        refine lv_iload_n hx hb dX8_meet_45 rfl (lv_at hl 1 rfl) ?_
        refine lv_iload_n hx hb dX8_meet_46 rfl (lv_at hl 2 rfl) ?_
        refine z_cSS (As := [.int (iZ (aa)), .int (iZ (pp)), .int (iZ (qq))]) (rest := []) S (m_X8_isOn l (aa) (pp) (qq) (by omega) (by omega) (by omega)) (va_cwS 3 hts gX8_meet_X8_isOn rfl rfl rfl (by decide +kernel) ⟨Nat.le_trans (by decide) hRf, Nat.le_trans (by decide) hRl⟩) rfl hl.1 rfl (Nat.le_of_ble_eq_true rfl) dX8_meet_47 ⟨Nat.zero_le _, Nat.zero_le _⟩ ?_
        refine z_if_ne (tgt := 80) hx hb (b2_rg _) dX8_meet_50 (by decide) (fun c13 => ?_) (fun c13 => ?_)
        · skip
          have c13 := b2_n0 c13
          have hm : meetM pp qq aa bb := Or.inr (Or.inl c13)
          refine z_iconst hx hb dX8_meet_80 ?_
          refine lv_goto (tgt := 85) hx hb dX8_meet_81 (by decide) ?_
          exact K _ _ _ (b2_pos ((meet_iff h1 h2 h3 h4 h5 h6).mp hm) rfl) dX8_meet_85
        · skip
          have c13 := b2_0 c13
          have hn1 := c13
          refine lv_iload_n hx hb dX8_meet_53 rfl (lv_at hl 4 rfl) ?_
          refine lv_iload_n hx hb dX8_meet_54 rfl (lv_at hl 1 rfl) ?_
          refine lv_iload_n hx hb dX8_meet_55 rfl (lv_at hl 2 rfl) ?_
          refine z_cSS (As := [.int (iZ (bb)), .int (iZ (pp)), .int (iZ (qq))]) (rest := []) S (m_X8_isOn l (bb) (pp) (qq) (by omega) (by omega) (by omega)) (va_cwS 3 hts gX8_meet_X8_isOn rfl rfl rfl (by decide +kernel) ⟨Nat.le_trans (by decide) hRf, Nat.le_trans (by decide) hRl⟩) rfl hl.1 rfl (Nat.le_of_ble_eq_true rfl) dX8_meet_56 ⟨Nat.zero_le _, Nat.zero_le _⟩ ?_
          refine z_if_ne (tgt := 80) hx hb (b2_rg _) dX8_meet_59 (by decide) (fun c14 => ?_) (fun c14 => ?_)
          · skip
            have c14 := b2_n0 c14
            have hm : meetM pp qq aa bb := Or.inr (Or.inr (Or.inl c14))
            refine z_iconst hx hb dX8_meet_80 ?_
            refine lv_goto (tgt := 85) hx hb dX8_meet_81 (by decide) ?_
            exact K _ _ _ (b2_pos ((meet_iff h1 h2 h3 h4 h5 h6).mp hm) rfl) dX8_meet_85
          · skip
            have c14 := b2_0 c14
            have hn2 := c14
            refine lv_iload_n hx hb dX8_meet_62 rfl (lv_at hl 1 rfl) ?_
            refine lv_iload_n hx hb dX8_meet_63 rfl (lv_at hl 3 rfl) ?_
            refine lv_iload_n hx hb dX8_meet_64 rfl (lv_at hl 4 rfl) ?_
            refine z_cSS (As := [.int (iZ (pp)), .int (iZ (aa)), .int (iZ (bb))]) (rest := []) S (m_X8_isOn l (pp) (aa) (bb) (by omega) (by omega) (by omega)) (va_cwS 3 hts gX8_meet_X8_isOn rfl rfl rfl (by decide +kernel) ⟨Nat.le_trans (by decide) hRf, Nat.le_trans (by decide) hRl⟩) rfl hl.1 rfl (Nat.le_of_ble_eq_true rfl) dX8_meet_65 ⟨Nat.zero_le _, Nat.zero_le _⟩ ?_
            refine z_if_ne (tgt := 80) hx hb (b2_rg _) dX8_meet_68 (by decide) (fun c15 => ?_) (fun c15 => ?_)
            · skip
              have c15 := b2_n0 c15
              have hm : meetM pp qq aa bb := Or.inr (Or.inr (Or.inr (Or.inl c15)))
              refine z_iconst hx hb dX8_meet_80 ?_
              refine lv_goto (tgt := 85) hx hb dX8_meet_81 (by decide) ?_
              exact K _ _ _ (b2_pos ((meet_iff h1 h2 h3 h4 h5 h6).mp hm) rfl) dX8_meet_85
            · skip
              have c15 := b2_0 c15
              have hn3 := c15
              refine lv_iload_n hx hb dX8_meet_71 rfl (lv_at hl 2 rfl) ?_
              refine lv_iload_n hx hb dX8_meet_72 rfl (lv_at hl 3 rfl) ?_
              refine lv_iload_n hx hb dX8_meet_73 rfl (lv_at hl 4 rfl) ?_
              refine z_cSS (As := [.int (iZ (qq)), .int (iZ (aa)), .int (iZ (bb))]) (rest := []) S (m_X8_isOn l (qq) (aa) (bb) (by omega) (by omega) (by omega)) (va_cwS 3 hts gX8_meet_X8_isOn rfl rfl rfl (by decide +kernel) ⟨Nat.le_trans (by decide) hRf, Nat.le_trans (by decide) hRl⟩) rfl hl.1 rfl (Nat.le_of_ble_eq_true rfl) dX8_meet_74 ⟨Nat.zero_le _, Nat.zero_le _⟩ ?_
              refine z_if_eq (tgt := 84) hx hb (b2_rg _) dX8_meet_77 (by decide) (fun c16 => ?_) (fun c16 => ?_)
              · skip
                have c16 := b2_0 c16
                have hn4 := c16
                refine z_iconst hx hb dX8_meet_84 ?_
                exact K _ _ _ (b2_neg (fun z => by
      rcases (meet_iff h1 h2 h3 h4 h5 h6).mpr z with q | q | q | q | q
      · exact hx1 q
      · exact hn1 q
      · exact hn2 q
      · exact hn3 q
      · exact hn4 q) rfl) dX8_meet_85
              · skip
                have c16 := b2_n0 c16
                have hm : meetM pp qq aa bb := Or.inr (Or.inr (Or.inr (Or.inr c16)))
                refine z_iconst hx hb dX8_meet_80 ?_
                refine lv_goto (tgt := 85) hx hb dX8_meet_81 (by decide) ?_
                exact K _ _ _ (b2_pos ((meet_iff h1 h2 h3 h4 h5 h6).mp hm) rfl) dX8_meet_85
    · skip
      have hm : meetM pp qq aa bb := Or.inl ⟨hx0, (sg_mul _ _).mp c11⟩
      refine z_iconst hx hb dX8_meet_32 ?_
      refine lv_goto (tgt := 37) hx hb dX8_meet_33 (by decide) ?_
      refine lv_istore (lv' := [(4, .int (iZ (1))), (0, .int (iZ (pp))), (1, .int (iZ (qq))), (2, .int (iZ (aa))), (3, .int (iZ (bb)))]) hx hb dX8_meet_37 hl (by decide) rfl (fun ls hl => ?_)
      refine lv_iload hx hb dX8_meet_39 (lv_at hl 0 rfl) ?_
      refine z_if_ne (tgt := 80) hx hb (by decide) dX8_meet_41 (by decide) (fun c17 => ?_) (fun c17 => ?_)
      · skip
        refine z_iconst hx hb dX8_meet_80 ?_
        refine lv_goto (tgt := 85) hx hb dX8_meet_81 (by decide) ?_
        exact K _ _ _ (b2_pos ((meet_iff h1 h2 h3 h4 h5 h6).mp hm) rfl) dX8_meet_85
      · skip
        exact absurd c17 (by decide)
abbrev rX8_placeOf : Room := { frames := 0, cells := 0, slots := 0, locals := 0 }
set_option maxHeartbeats 4000000 in
set_option maxRecDepth 100000 in
theorem m_X8_placeOf (l : Launch) (D : va_G) (g : Nat → ClassId) (a : Nat → Nat) (st : SS) (pp : Int) (tt : Int) (hI : IM st) (h1 : 0 ≤ pp ∧ pp < 6) (h2 : 0 ≤ tt ∧ tt < 60) : Met l yX8_placeOf wsX8_placeOf rX8_placeOf (PcR D g (WM g a st) [.ref (a 0), .int (iZ (pp)), .int (iZ (tt))]) (QcRead (iZ (plM st pp tt))) 0 0 (fun _ => False) := by
  refine metR (cc := cX8_placeOf) (maxL := 6) (ret := (some .int)) (own := RX8) (by decide) rfl rfl (Nat.le_of_ble_eq_true rfl) (Or.inl rfl) ?_
  intro p e R s m args below meth c Q ls S hRf hRl hK hP hl K
  have hx := S.1
  have hb := S.2.1
  have hown := S.2.2.2.1
  have hts := S.2.2.2.2
  have hRf : 0 ≤ R.frames := hRf
  have hRl : 0 ≤ R.locals := hRl
  have hl : lv_has ls 6 [(0, .ref (a 0)), (1, .int (iZ (pp))), (2, .int (iZ (tt)))] := hl
  have iX8 : ∀ w ∈ wsX80, w ∈ wsX8_placeOf := by decide +kernel
  have hB := hI.s
  have hc2 := hI.c2 pp (by omega) (by omega)
  refine z_iconst hx hb dX8_placeOf_0 ?_
  refine lv_istore_n (lv' := [(3, .int (iZ (0))), (0, .ref (a 0)), (1, .int (iZ (pp))), (2, .int (iZ (tt)))]) hx hb dX8_placeOf_1 rfl hl (by decide) rfl (fun ls hl => ?_)
  refine lv_aload_n hx hb dX8_placeOf_2 rfl (lv_at hl 1 rfl) ?_
  refine z_get (C := RX8) (T := TX8) (N := 26) (ci := 7) hx hb hts iX8 hown hK hP 0 rfl rfl 1 (by decide) (hts (.fieldLink RX8 7 "ShotBoardModel" "at" "[I") (by decide +kernel)) (.ref (a 1)) rfl dX8_placeOf_3 ?_
  refine lv_iload_n hx hb dX8_placeOf_6 rfl (lv_at hl 2 rfl) ?_
  refine z_iald hx hb hK hP 1 (st 1) rfl (by omega) (by omega) (by omega) dX8_placeOf_7 ?_
  have f1 := hI.c1 (pp) (by omega) (by omega)
  refine lv_istore (lv' := [(4, .int (iZ (st 1 (pp)))), (3, .int (iZ (0))), (0, .ref (a 0)), (1, .int (iZ (pp))), (2, .int (iZ (tt)))]) hx hb dX8_placeOf_8 hl (by decide) rfl (fun ls hl => ?_)
  refine z_bipush hx hb dX8_placeOf_10 (by decide +kernel) ?_
  refine lv_iload_n hx hb dX8_placeOf_12 rfl (lv_at hl 3 rfl) ?_
  refine z_imul hx hb dX8_placeOf_13 ?_
  refine lv_istore (lv' := [(5, .int (iZ ((12) * (pp)))), (4, .int (iZ (st 1 (pp)))), (3, .int (iZ (0))), (0, .ref (a 0)), (1, .int (iZ (pp))), (2, .int (iZ (tt)))]) hx hb dX8_placeOf_14 hl (by decide) rfl (fun ls hl => ?_)
  have LP16 : ∀ (n16 : Nat) (be : Int) (pl : Int) (kk : Int), (12 * pp + st 2 pp - kk) < (n16 : Int) → (12 * pp ≤ kk ∧ kk ≤ 12 * pp + st 2 pp) → (0 ≤ be ∧ be < 60) → (plM st pp tt = PLF (st 3) (st 4) tt (12 * pp + st 2 pp - kk).toNat kk be pl) → ∀ (ls : Array Slot), lv_has ls 6 [(5, .int (iZ (kk))), (4, .int (iZ (pl))), (3, .int (iZ (be))), (0, .ref (a 0)), (1, .int (iZ (pp))), (2, .int (iZ (tt)))] → W p l e R s m args below meth c s.heap [] 0 0 Q (F0 m 16 ls []) := by
    intro n16
    induction n16 with
    | zero =>
      intro be pl kk hm16 j1 j0 j2  ls hl
      exact absurd hm16 (by omega)
    | succ n16 ih16 =>
      intro be pl kk hm16 j1 j0 j2  ls hl
      refine lv_iload hx hb dX8_placeOf_16 (lv_at hl 0 rfl) ?_
      refine z_bipush hx hb dX8_placeOf_18 (by decide +kernel) ?_
      refine lv_iload_n hx hb dX8_placeOf_20 rfl (lv_at hl 4 rfl) ?_
      refine z_imul hx hb dX8_placeOf_21 ?_
      refine lv_aload_n hx hb dX8_placeOf_22 rfl (lv_at hl 3 rfl) ?_
      refine z_get (C := RX8) (T := TX8) (N := 26) (ci := 7) hx hb hts iX8 hown hK hP 0 rfl rfl 2 (by decide) (hts (.fieldLink RX8 13 "ShotBoardModel" "steps" "[I") (by decide +kernel)) (.ref (a 2)) rfl dX8_placeOf_23 ?_
      refine lv_iload_n hx hb dX8_placeOf_26 rfl (lv_at hl 4 rfl) ?_
      refine z_iald hx hb hK hP 2 (st 2) rfl (by omega) (by omega) (by omega) dX8_placeOf_27 ?_
      have f2 := hI.c2 (pp) (by omega) (by omega)
      refine z_iadd hx hb dX8_placeOf_28 ?_
      refine z_icmp_ge (tgt := 77) hx hb (by omega) (by omega) dX8_placeOf_29 (by decide) (fun c3 => ?_) (fun c3 => ?_)
      · skip
        refine lv_iload hx hb dX8_placeOf_77 (lv_at hl 1 rfl) ?_
        exact K _ _ _ (by rw [j2, show (12 * pp + st 2 pp - kk).toNat = 0 by omega]; rfl) dX8_placeOf_79
      · skip
        refine lv_aload_n hx hb dX8_placeOf_32 rfl (lv_at hl 3 rfl) ?_
        refine z_get (C := RX8) (T := TX8) (N := 26) (ci := 7) hx hb hts iX8 hown hK hP 0 rfl rfl 3 (by decide) (hts (.fieldLink RX8 16 "ShotBoardModel" "stepTick" "[I") (by decide +kernel)) (.ref (a 3)) rfl dX8_placeOf_33 ?_
        refine lv_iload hx hb dX8_placeOf_36 (lv_at hl 0 rfl) ?_
        refine z_iald hx hb hK hP 3 (st 3) rfl (by omega) (by omega) (by omega) dX8_placeOf_38 ?_
        have f4 := hI.c3 (kk) (by omega) (by omega)
        refine lv_iload_n hx hb dX8_placeOf_39 rfl (lv_at hl 5 rfl) ?_
        refine z_icmp_gt (tgt := 71) hx hb (by omega) (by omega) dX8_placeOf_40 (by decide) (fun c5 => ?_) (fun c5 => ?_)
        · skip
          have hcnd : ¬ (st 3 kk ≤ tt ∧ be < st 3 kk) := fun z => by omega
          refine z_iinc (lv' := [(5, .int (iZ ((kk) + 1))), (4, .int (iZ (pl))), (3, .int (iZ (be))), (0, .ref (a 0)), (1, .int (iZ (pp))), (2, .int (iZ (tt)))]) hx hb dX8_placeOf_71 hl (k := 0) rfl (by decide) rfl (fun ls hl => ?_)
          refine lv_goto (tgt := 16) hx hb dX8_placeOf_74 (by decide) ?_
          have hs9 : (12 * pp + st 2 pp - kk).toNat = (12 * pp + st 2 pp - (kk + 1)).toNat + 1 := by omega
          exact ih16 (be) (pl) ((kk) + 1) (by omega) (by omega) (by omega) (by first | (rw [j2, hs9, PLF_t hcnd]) | (rw [j2, hs9, PLF_f hcnd]))  ls (lv_sub hl [0, 1, 2, 3, 4, 5] rfl)
        · skip
          refine lv_aload_n hx hb dX8_placeOf_43 rfl (lv_at hl 3 rfl) ?_
          refine z_get (C := RX8) (T := TX8) (N := 26) (ci := 7) hx hb hts iX8 hown hK hP 0 rfl rfl 3 (by decide) (hts (.fieldLink RX8 16 "ShotBoardModel" "stepTick" "[I") (by decide +kernel)) (.ref (a 3)) rfl dX8_placeOf_44 ?_
          refine lv_iload hx hb dX8_placeOf_47 (lv_at hl 0 rfl) ?_
          refine z_iald hx hb hK hP 3 (st 3) rfl (by omega) (by omega) (by omega) dX8_placeOf_49 ?_
          have f6 := hI.c3 (kk) (by omega) (by omega)
          refine lv_iload_n hx hb dX8_placeOf_50 rfl (lv_at hl 2 rfl) ?_
          refine z_icmp_le (tgt := 71) hx hb (by omega) (by omega) dX8_placeOf_51 (by decide) (fun c7 => ?_) (fun c7 => ?_)
          · skip
            have hcnd : ¬ (st 3 kk ≤ tt ∧ be < st 3 kk) := fun z => by omega
            refine z_iinc (lv' := [(5, .int (iZ ((kk) + 1))), (4, .int (iZ (pl))), (3, .int (iZ (be))), (0, .ref (a 0)), (1, .int (iZ (pp))), (2, .int (iZ (tt)))]) hx hb dX8_placeOf_71 hl (k := 0) rfl (by decide) rfl (fun ls hl => ?_)
            refine lv_goto (tgt := 16) hx hb dX8_placeOf_74 (by decide) ?_
            have hs9 : (12 * pp + st 2 pp - kk).toNat = (12 * pp + st 2 pp - (kk + 1)).toNat + 1 := by omega
            exact ih16 (be) (pl) ((kk) + 1) (by omega) (by omega) (by omega) (by first | (rw [j2, hs9, PLF_t hcnd]) | (rw [j2, hs9, PLF_f hcnd]))  ls (lv_sub hl [0, 1, 2, 3, 4, 5] rfl)
          · skip
            have hcnd : st 3 kk ≤ tt ∧ be < st 3 kk := by omega
            refine lv_aload_n hx hb dX8_placeOf_54 rfl (lv_at hl 3 rfl) ?_
            refine z_get (C := RX8) (T := TX8) (N := 26) (ci := 7) hx hb hts iX8 hown hK hP 0 rfl rfl 3 (by decide) (hts (.fieldLink RX8 16 "ShotBoardModel" "stepTick" "[I") (by decide +kernel)) (.ref (a 3)) rfl dX8_placeOf_55 ?_
            refine lv_iload hx hb dX8_placeOf_58 (lv_at hl 0 rfl) ?_
            refine z_iald hx hb hK hP 3 (st 3) rfl (by omega) (by omega) (by omega) dX8_placeOf_60 ?_
            have f8 := hI.c3 (kk) (by omega) (by omega)
            refine lv_istore_n (lv' := [(3, .int (iZ (st 3 (kk)))), (5, .int (iZ (kk))), (4, .int (iZ (pl))), (0, .ref (a 0)), (1, .int (iZ (pp))), (2, .int (iZ (tt)))]) hx hb dX8_placeOf_61 rfl hl (by decide) rfl (fun ls hl => ?_)
            refine lv_aload_n hx hb dX8_placeOf_62 rfl (lv_at hl 3 rfl) ?_
            refine z_get (C := RX8) (T := TX8) (N := 26) (ci := 7) hx hb hts iX8 hown hK hP 0 rfl rfl 4 (by decide) (hts (.fieldLink RX8 19 "ShotBoardModel" "stepPlace" "[I") (by decide +kernel)) (.ref (a 4)) rfl dX8_placeOf_63 ?_
            refine lv_iload hx hb dX8_placeOf_66 (lv_at hl 1 rfl) ?_
            refine z_iald hx hb hK hP 4 (st 4) rfl (by omega) (by omega) (by omega) dX8_placeOf_68 ?_
            have f9 := hI.c4 (kk) (by omega) (by omega)
            refine lv_istore (lv' := [(4, .int (iZ (st 4 (kk)))), (3, .int (iZ (st 3 (kk)))), (5, .int (iZ (kk))), (0, .ref (a 0)), (1, .int (iZ (pp))), (2, .int (iZ (tt)))]) hx hb dX8_placeOf_69 hl (by decide) rfl (fun ls hl => ?_)
            refine z_iinc (lv' := [(5, .int (iZ ((kk) + 1))), (4, .int (iZ (st 4 (kk)))), (3, .int (iZ (st 3 (kk)))), (0, .ref (a 0)), (1, .int (iZ (pp))), (2, .int (iZ (tt)))]) hx hb dX8_placeOf_71 hl (k := 2) rfl (by decide) rfl (fun ls hl => ?_)
            refine lv_goto (tgt := 16) hx hb dX8_placeOf_74 (by decide) ?_
            have hs9 : (12 * pp + st 2 pp - kk).toNat = (12 * pp + st 2 pp - (kk + 1)).toNat + 1 := by omega
            exact ih16 (st 3 (kk)) (st 4 (kk)) ((kk) + 1) (by omega) (by omega) (by omega) (by first | (rw [j2, hs9, PLF_t hcnd]) | (rw [j2, hs9, PLF_f hcnd]))  ls (lv_sub hl [0, 1, 2, 3, 4, 5] rfl)
  exact LP16 ((12 * pp + st 2 pp - ((12) * (pp))) + 1 : Int).toNat (0) (st 1 (pp)) ((12) * (pp)) (by omega) (by omega) (by omega) (by unfold plM; rw [show (12 * pp + st 2 pp - (12) * (pp)).toNat = (st 2 pp).toNat by omega])  ls (lv_sub hl [0, 1, 2, 3, 4, 5] rfl)
abbrev rX8_isHidden : Room := { frames := 4, cells := 0, slots := 0, locals := 90 }
set_option maxHeartbeats 4000000 in
set_option maxRecDepth 100000 in
theorem m_X8_isHidden (l : Launch) (D : va_G) (g : Nat → ClassId) (a : Nat → Nat) (st : SS) (pp : Int) (tt : Int) (ff : Int) (hI : IM st) (h1 : 0 ≤ pp ∧ pp < st 0 0) (h2 : 0 ≤ tt ∧ tt < 60) (h3 : plc ff) : Met l yX8_isHidden wsX8_isHidden rX8_isHidden (PcR D g (WM g a st) [.ref (a 0), .int (iZ (pp)), .int (iZ (tt)), .int (iZ (ff))]) (QcRead (iZ (b2 (HID (plM st) (st 0 0) (st 0 1) (st 5) (st 6) pp tt ff)))) 0 0 (fun _ => False) := by
  refine metR (cc := cX8_isHidden) (maxL := 7) (ret := (some .boolean)) (own := RX8) (by decide) rfl rfl (Nat.le_of_ble_eq_true rfl) (Or.inr ⟨rfl, b2_01 _⟩) ?_
  intro p e R s m args below meth c Q ls S hRf hRl hK hP hl K
  have hx := S.1
  have hb := S.2.1
  have hown := S.2.2.2.1
  have hts := S.2.2.2.2
  have hRf : 4 ≤ R.frames := hRf
  have hRl : 90 ≤ R.locals := hRl
  have hl : lv_has ls 7 [(0, .ref (a 0)), (1, .int (iZ (pp))), (2, .int (iZ (tt))), (3, .int (iZ (ff)))] := hl
  have iX8 : ∀ w ∈ wsX80, w ∈ wsX8_isHidden := by decide +kernel
  have hB := hI.s
  refine lv_aload_n hx hb dX8_isHidden_0 rfl (lv_at hl 0 rfl) ?_
  refine lv_iload_n hx hb dX8_isHidden_1 rfl (lv_at hl 1 rfl) ?_
  refine lv_iload_n hx hb dX8_isHidden_2 rfl (lv_at hl 2 rfl) ?_
  refine z_cVR (q0 := 0) (ci := 7) (As := [.int (iZ (pp)), .int (iZ (tt))]) (rest := []) S (m_X8_placeOf l D g a (st) (pp) (tt) hI (by omega) (by omega)) (cwV 2 hts gX8_isHidden_X8_placeOf rfl rfl rfl (by decide +kernel) ⟨Nat.le_trans (by decide) hRf, Nat.le_trans (by decide) hRl⟩) hK hP rfl rfl rfl hl.1 rfl (Nat.le_of_ble_eq_true rfl) dX8_isHidden_3 ⟨Nat.zero_le _, Nat.zero_le _⟩ ?_
  have f1 := plM_p hI (pp) (tt) (by omega) (by omega)
  refine lv_istore (lv' := [(4, .int (iZ (plM st (pp) (tt)))), (0, .ref (a 0)), (1, .int (iZ (pp))), (2, .int (iZ (tt))), (3, .int (iZ (ff)))]) hx hb dX8_isHidden_6 hl (by decide) rfl (fun ls hl => ?_)
  refine lv_iload hx hb dX8_isHidden_8 (lv_at hl 0 rfl) ?_
  refine lv_iload_n hx hb dX8_isHidden_10 rfl (lv_at hl 4 rfl) ?_
  refine z_icmp_ne (tgt := 16) hx hb (by omega) (by omega) dX8_isHidden_11 (by decide) (fun c2 => ?_) (fun c2 => ?_)
  · skip
    have hne := c2
    refine z_iconst hx hb dX8_isHidden_16 ?_
    refine lv_istore (lv' := [(5, .int (iZ (0))), (4, .int (iZ (plM st (pp) (tt)))), (0, .ref (a 0)), (1, .int (iZ (pp))), (2, .int (iZ (tt))), (3, .int (iZ (ff)))]) hx hb dX8_isHidden_17 hl (by decide) rfl (fun ls hl => ?_)
    have LP19 : ∀ (n19 : Nat) (ww : Int), (st 0 1 - ww) < (n19 : Int) → (0 ≤ ww ∧ ww ≤ st 0 1) → (∀ j, 0 ≤ j → j < ww → ¬ meetC ff (plM st pp tt) (st 5 j) (st 6 j)) → ∀ (ls : Array Slot), lv_has ls 7 [(5, .int (iZ (ww))), (4, .int (iZ (plM st (pp) (tt)))), (0, .ref (a 0)), (1, .int (iZ (pp))), (2, .int (iZ (tt))), (3, .int (iZ (ff)))] → W p l e R s m args below meth c s.heap [] 0 0 Q (F0 m 19 ls []) := by
      intro n19
      induction n19 with
      | zero =>
        intro ww hm19 j1 j2  ls hl
        exact absurd hm19 (by omega)
      | succ n19 ih19 =>
        intro ww hm19 j1 j2  ls hl
        refine lv_iload hx hb dX8_isHidden_19 (lv_at hl 0 rfl) ?_
        refine lv_aload_n hx hb dX8_isHidden_21 rfl (lv_at hl 2 rfl) ?_
        refine z_get (C := RX8) (T := TX8) (N := 26) (ci := 7) hx hb hts iX8 hown hK hP 0 rfl rfl 5 (by decide) (hts (.fieldLink RX8 92 "ShotBoardModel" "walls" "I") (by decide +kernel)) (.int (iZ (st 0 (1)))) rfl dX8_isHidden_22 ?_
        refine z_icmp_ge (tgt := 59) hx hb (by omega) (by omega) dX8_isHidden_25 (by decide) (fun c3 => ?_) (fun c3 => ?_)
        · skip
          refine z_iconst hx hb dX8_isHidden_59 ?_
          refine lv_istore (lv' := [(5, .int (iZ (0))), (4, .int (iZ (plM st (pp) (tt)))), (0, .ref (a 0)), (1, .int (iZ (pp))), (2, .int (iZ (tt))), (3, .int (iZ (ff)))]) hx hb dX8_isHidden_60 hl (by decide) rfl (fun ls hl => ?_)
          have LP62 : ∀ (n62 : Nat) (qq : Int), (st 0 0 - qq) < (n62 : Int) → (0 ≤ qq ∧ qq ≤ st 0 0) → (∀ j, 0 ≤ j → j < qq → ¬ betw (plM st j tt) ff (plM st pp tt)) → ∀ (ls : Array Slot), lv_has ls 7 [(5, .int (iZ (qq))), (4, .int (iZ (plM st (pp) (tt)))), (0, .ref (a 0)), (1, .int (iZ (pp))), (2, .int (iZ (tt))), (3, .int (iZ (ff)))] → W p l e R s m args below meth c s.heap [] 0 0 Q (F0 m 62 ls []) := by
            intro n62
            induction n62 with
            | zero =>
              intro qq hm62 k1 k2  ls hl
              exact absurd hm62 (by omega)
            | succ n62 ih62 =>
              intro qq hm62 k1 k2  ls hl
              refine lv_iload hx hb dX8_isHidden_62 (lv_at hl 0 rfl) ?_
              refine lv_aload_n hx hb dX8_isHidden_64 rfl (lv_at hl 2 rfl) ?_
              refine z_get (C := RX8) (T := TX8) (N := 26) (ci := 7) hx hb hts iX8 hown hK hP 0 rfl rfl 0 (by decide) (hts (.fieldLink RX8 72 "ShotBoardModel" "persons" "I") (by decide +kernel)) (.int (iZ (st 0 (0)))) rfl dX8_isHidden_65 ?_
              refine z_icmp_ge (tgt := 118) hx hb (by omega) (by omega) dX8_isHidden_68 (by decide) (fun c4 => ?_) (fun c4 => ?_)
              · skip
                refine z_iconst hx hb dX8_isHidden_118 ?_
                exact K _ _ _ (b2_neg (fun z => by
      rcases z with z | ⟨w, a, b, d⟩ | ⟨q, a, b, d⟩
      · exact hne z
      · exact j2 w a (by omega) d
      · exact k2 q a (by omega) d) rfl) dX8_isHidden_119
              · skip
                refine lv_aload_n hx hb dX8_isHidden_71 rfl (lv_at hl 2 rfl) ?_
                refine lv_iload hx hb dX8_isHidden_72 (lv_at hl 0 rfl) ?_
                refine lv_iload_n hx hb dX8_isHidden_74 rfl (lv_at hl 4 rfl) ?_
                refine z_cVR (q0 := 0) (ci := 7) (As := [.int (iZ (qq)), .int (iZ (tt))]) (rest := []) S (m_X8_placeOf l D g a (st) (qq) (tt) hI (by omega) (by omega)) (cwV 2 hts gX8_isHidden_X8_placeOf rfl rfl rfl (by decide +kernel) ⟨Nat.le_trans (by decide) hRf, Nat.le_trans (by decide) hRl⟩) hK hP rfl rfl rfl hl.1 rfl (Nat.le_of_ble_eq_true rfl) dX8_isHidden_75 ⟨Nat.zero_le _, Nat.zero_le _⟩ ?_
                have f5 := plM_p hI (qq) (tt) (by omega) (by omega)
                refine lv_istore (lv' := [(6, .int (iZ (plM st (qq) (tt)))), (5, .int (iZ (qq))), (4, .int (iZ (plM st (pp) (tt)))), (0, .ref (a 0)), (1, .int (iZ (pp))), (2, .int (iZ (tt))), (3, .int (iZ (ff)))]) hx hb dX8_isHidden_78 hl (by decide) rfl (fun ls hl => ?_)
                refine lv_iload hx hb dX8_isHidden_80 (lv_at hl 1 rfl) ?_
                refine lv_iload_n hx hb dX8_isHidden_82 rfl (lv_at hl 4 rfl) ?_
                refine z_icmp_eq (tgt := 112) hx hb (by omega) (by omega) dX8_isHidden_83 (by decide) (fun c6 => ?_) (fun c6 => ?_)
                · skip
                  have hnb : ¬ betw (plM st qq tt) ff (plM st pp tt) := by rw [c6]; exact betw_end (Or.inr rfl)
                  refine z_iinc (lv' := [(5, .int (iZ ((qq) + 1))), (6, .int (iZ (plM st (qq) (tt)))), (4, .int (iZ (plM st (pp) (tt)))), (0, .ref (a 0)), (1, .int (iZ (pp))), (2, .int (iZ (tt))), (3, .int (iZ (ff)))]) hx hb dX8_isHidden_112 hl (k := 1) rfl (by decide) rfl (fun ls hl => ?_)
                  refine lv_goto (tgt := 62) hx hb dX8_isHidden_115 (by decide) ?_
                  exact ih62 ((qq) + 1) (by omega) (by omega) (fun j a b => by
      by_cases e9 : j = qq
      · subst e9; exact hnb
      · exact k2 j a (by omega))  ls (lv_sub hl [0, 2, 3, 4, 5, 6] rfl)
                · skip
                  refine lv_iload hx hb dX8_isHidden_86 (lv_at hl 0 rfl) ?_
                  refine lv_iload_n hx hb dX8_isHidden_88 rfl (lv_at hl 6 rfl) ?_
                  refine z_icmp_eq (tgt := 112) hx hb (by omega) (by omega) dX8_isHidden_89 (by decide) (fun c7 => ?_) (fun c7 => ?_)
                  · skip
                    have hnb : ¬ betw (plM st qq tt) ff (plM st pp tt) := betw_end (Or.inl c7)
                    refine z_iinc (lv' := [(5, .int (iZ ((qq) + 1))), (6, .int (iZ (plM st (qq) (tt)))), (4, .int (iZ (plM st (pp) (tt)))), (0, .ref (a 0)), (1, .int (iZ (pp))), (2, .int (iZ (tt))), (3, .int (iZ (ff)))]) hx hb dX8_isHidden_112 hl (k := 1) rfl (by decide) rfl (fun ls hl => ?_)
                    refine lv_goto (tgt := 62) hx hb dX8_isHidden_115 (by decide) ?_
                    exact ih62 ((qq) + 1) (by omega) (by omega) (fun j a b => by
      by_cases e9 : j = qq
      · subst e9; exact hnb
      · exact k2 j a (by omega))  ls (lv_sub hl [0, 2, 3, 4, 5, 6] rfl)
                  · skip
                    have hq1 := c7
                    refine lv_iload hx hb dX8_isHidden_92 (lv_at hl 0 rfl) ?_
                    refine lv_iload hx hb dX8_isHidden_94 (lv_at hl 2 rfl) ?_
                    refine z_icmp_eq (tgt := 112) hx hb (by omega) (by omega) dX8_isHidden_96 (by decide) (fun c8 => ?_) (fun c8 => ?_)
                    · skip
                      have hnb : ¬ betw (plM st qq tt) ff (plM st pp tt) := betw_end (Or.inr c8)
                      refine z_iinc (lv' := [(5, .int (iZ ((qq) + 1))), (6, .int (iZ (plM st (qq) (tt)))), (4, .int (iZ (plM st (pp) (tt)))), (0, .ref (a 0)), (1, .int (iZ (pp))), (2, .int (iZ (tt))), (3, .int (iZ (ff)))]) hx hb dX8_isHidden_112 hl (k := 1) rfl (by decide) rfl (fun ls hl => ?_)
                      refine lv_goto (tgt := 62) hx hb dX8_isHidden_115 (by decide) ?_
                      exact ih62 ((qq) + 1) (by omega) (by omega) (fun j a b => by
      by_cases e9 : j = qq
      · subst e9; exact hnb
      · exact k2 j a (by omega))  ls (lv_sub hl [0, 2, 3, 4, 5, 6] rfl)
                    · skip
                      have hq2 := c8
                      refine lv_iload hx hb dX8_isHidden_99 (lv_at hl 0 rfl) ?_
                      refine lv_iload_n hx hb dX8_isHidden_101 rfl (lv_at hl 6 rfl) ?_
                      refine lv_iload hx hb dX8_isHidden_102 (lv_at hl 2 rfl) ?_
                      refine z_cSS (As := [.int (iZ (plM st (qq) (tt))), .int (iZ (ff)), .int (iZ (plM st (pp) (tt)))]) (rest := []) S (m_X8_isOn l (plM st (qq) (tt)) (ff) (plM st (pp) (tt)) (by omega) (by omega) (by omega)) (va_cwS 3 hts gX8_isHidden_X8_isOn rfl rfl rfl (by decide +kernel) ⟨Nat.le_trans (by decide) hRf, Nat.le_trans (by decide) hRl⟩) rfl hl.1 rfl (Nat.le_of_ble_eq_true rfl) dX8_isHidden_104 ⟨Nat.zero_le _, Nat.zero_le _⟩ ?_
                      refine z_if_eq (tgt := 112) hx hb (b2_rg _) dX8_isHidden_107 (by decide) (fun c9 => ?_) (fun c9 => ?_)
                      · skip
                        have c9 := b2_0 c9
                        have hnb : ¬ betw (plM st qq tt) ff (plM st pp tt) := fun z => c9 ((on_iff (by omega) (by omega) (by omega) hq1 hq2).mpr z)
                        refine z_iinc (lv' := [(5, .int (iZ ((qq) + 1))), (6, .int (iZ (plM st (qq) (tt)))), (4, .int (iZ (plM st (pp) (tt)))), (0, .ref (a 0)), (1, .int (iZ (pp))), (2, .int (iZ (tt))), (3, .int (iZ (ff)))]) hx hb dX8_isHidden_112 hl (k := 1) rfl (by decide) rfl (fun ls hl => ?_)
                        refine lv_goto (tgt := 62) hx hb dX8_isHidden_115 (by decide) ?_
                        exact ih62 ((qq) + 1) (by omega) (by omega) (fun j a b => by
      by_cases e9 : j = qq
      · subst e9; exact hnb
      · exact k2 j a (by omega))  ls (lv_sub hl [0, 2, 3, 4, 5, 6] rfl)
                      · skip
                        have c9 := b2_n0 c9
                        have hyb : betw (plM st qq tt) ff (plM st pp tt) := (on_iff (by omega) (by omega) (by omega) hq1 hq2).mp c9
                        refine z_iconst hx hb dX8_isHidden_110 ?_
                        exact K _ _ _ (b2_pos (Or.inr (Or.inr ⟨qq, by omega, by omega, hyb⟩)) rfl) dX8_isHidden_111
          exact LP62 ((st 0 0 - (0)) + 1 : Int).toNat (0) (by omega) (by omega) (fun j a b => by omega)  ls (lv_sub hl [0, 1, 2, 3, 4, 5] rfl)
        · skip
          have hwne := hI.w ww (by omega) (by omega)
          refine lv_iload_n hx hb dX8_isHidden_28 rfl (lv_at hl 5 rfl) ?_
          refine lv_iload hx hb dX8_isHidden_29 (lv_at hl 1 rfl) ?_
          refine lv_aload_n hx hb dX8_isHidden_31 rfl (lv_at hl 2 rfl) ?_
          refine z_get (C := RX8) (T := TX8) (N := 26) (ci := 7) hx hb hts iX8 hown hK hP 0 rfl rfl 6 (by decide) (hts (.fieldLink RX8 22 "ShotBoardModel" "wallFrom" "[I") (by decide +kernel)) (.ref (a 5)) rfl dX8_isHidden_32 ?_
          refine lv_iload hx hb dX8_isHidden_35 (lv_at hl 0 rfl) ?_
          refine z_iald hx hb hK hP 5 (st 5) rfl (by omega) (by omega) (by omega) dX8_isHidden_37 ?_
          have f10 := hI.c5 (ww) (by omega) (by omega)
          refine lv_aload_n hx hb dX8_isHidden_38 rfl (lv_at hl 2 rfl) ?_
          refine z_get (C := RX8) (T := TX8) (N := 26) (ci := 7) hx hb hts iX8 hown hK hP 0 rfl rfl 7 (by decide) (hts (.fieldLink RX8 25 "ShotBoardModel" "wallTo" "[I") (by decide +kernel)) (.ref (a 6)) rfl dX8_isHidden_39 ?_
          refine lv_iload hx hb dX8_isHidden_42 (lv_at hl 0 rfl) ?_
          refine z_iald hx hb hK hP 6 (st 6) rfl (by omega) (by omega) (by omega) dX8_isHidden_44 ?_
          have f11 := hI.c6 (ww) (by omega) (by omega)
          refine z_cSS (As := [.int (iZ (ff)), .int (iZ (plM st (pp) (tt))), .int (iZ (st 5 (ww))), .int (iZ (st 6 (ww)))]) (rest := []) S (m_X8_meet l (ff) (plM st (pp) (tt)) (st 5 (ww)) (st 6 (ww)) (by omega) (by omega) (by omega) (by omega) (by omega) (by omega)) (va_cwS 4 hts gX8_isHidden_X8_meet rfl rfl rfl (by decide +kernel) ⟨Nat.le_trans (by decide) hRf, Nat.le_trans (by decide) hRl⟩) rfl hl.1 rfl (Nat.le_of_ble_eq_true rfl) dX8_isHidden_45 ⟨Nat.zero_le _, Nat.zero_le _⟩ ?_
          refine z_if_eq (tgt := 53) hx hb (b2_rg _) dX8_isHidden_48 (by decide) (fun c12 => ?_) (fun c12 => ?_)
          · skip
            have c12 := b2_0 c12
            have hnb := c12
            refine z_iinc (lv' := [(5, .int (iZ ((ww) + 1))), (4, .int (iZ (plM st (pp) (tt)))), (0, .ref (a 0)), (1, .int (iZ (pp))), (2, .int (iZ (tt))), (3, .int (iZ (ff)))]) hx hb dX8_isHidden_53 hl (k := 0) rfl (by decide) rfl (fun ls hl => ?_)
            refine lv_goto (tgt := 19) hx hb dX8_isHidden_56 (by decide) ?_
            exact ih19 ((ww) + 1) (by omega) (by omega) (fun j a b => by
      by_cases e9 : j = ww
      · subst e9; exact hnb
      · exact j2 j a (by omega))  ls (lv_sub hl [0, 1, 2, 3, 4, 5] rfl)
          · skip
            have c12 := b2_n0 c12
            have hyb := c12
            refine z_iconst hx hb dX8_isHidden_51 ?_
            exact K _ _ _ (b2_pos (Or.inr (Or.inl ⟨ww, by omega, by omega, hyb⟩)) rfl) dX8_isHidden_52
    exact LP19 ((st 0 1 - (0)) + 1 : Int).toNat (0) (by omega) (by omega) (fun j a b => by omega)  ls (lv_sub hl [0, 1, 2, 3, 4, 5] rfl)
  · skip
    have heq := c2
    refine z_iconst hx hb dX8_isHidden_14 ?_
    exact K _ _ _ (b2_pos (Or.inl heq) rfl) dX8_isHidden_15
abbrev rX8_isBefore : Room := { frames := 1, cells := 0, slots := 0, locals := 25 }
set_option maxHeartbeats 4000000 in
set_option maxRecDepth 100000 in
theorem m_X8_isBefore (l : Launch) (D : va_G) (g : Nat → ClassId) (a : Nat → Nat) (st : SS) (cm : Int) (mm : Int) (pp : Int) (tt : Int) (hI : IM st) (h1 : 0 ≤ cm ∧ cm < 10) (h2 : 0 ≤ mm ∧ mm < 6) (h3 : 0 ≤ pp ∧ pp < 6) (h4 : 0 ≤ tt ∧ tt < 60) : Met l yX8_isBefore wsX8_isBefore rX8_isBefore (PcR D g (WM g a st) [.ref (a 0), .int (iZ (cm)), .int (iZ (mm)), .int (iZ (pp)), .int (iZ (tt))]) (QcRead (iZ (b2 (cone (st 7 cm) (plM st mm tt) (plM st pp tt))))) 0 0 (fun _ => False) := by
  refine metR (cc := cX8_isBefore) (maxL := 12) (ret := (some .boolean)) (own := RX8) (by decide) rfl rfl (Nat.le_of_ble_eq_true rfl) (Or.inr ⟨rfl, b2_01 _⟩) ?_
  intro p e R s m args below meth c Q ls S hRf hRl hK hP hl K
  have hx := S.1
  have hb := S.2.1
  have hown := S.2.2.2.1
  have hts := S.2.2.2.2
  have hRf : 1 ≤ R.frames := hRf
  have hRl : 25 ≤ R.locals := hRl
  have hl : lv_has ls 12 [(0, .ref (a 0)), (1, .int (iZ (cm))), (2, .int (iZ (mm))), (3, .int (iZ (pp))), (4, .int (iZ (tt)))] := hl
  have iX8 : ∀ w ∈ wsX80, w ∈ wsX8_isBefore := by decide +kernel
  refine lv_aload_n hx hb dX8_isBefore_0 rfl (lv_at hl 0 rfl) ?_
  refine lv_iload_n hx hb dX8_isBefore_1 rfl (lv_at hl 2 rfl) ?_
  refine lv_iload hx hb dX8_isBefore_2 (lv_at hl 4 rfl) ?_
  refine z_cVR (q0 := 0) (ci := 7) (As := [.int (iZ (mm)), .int (iZ (tt))]) (rest := []) S (m_X8_placeOf l D g a (st) (mm) (tt) hI (by omega) (by omega)) (cwV 2 hts gX8_isBefore_X8_placeOf rfl rfl rfl (by decide +kernel) ⟨Nat.le_trans (by decide) hRf, Nat.le_trans (by decide) hRl⟩) hK hP rfl rfl rfl hl.1 rfl (Nat.le_of_ble_eq_true rfl) dX8_isBefore_4 ⟨Nat.zero_le _, Nat.zero_le _⟩ ?_
  have f1 := plM_p hI (mm) (tt) (by omega) (by omega)
  refine lv_istore (lv' := [(5, .int (iZ (plM st (mm) (tt)))), (0, .ref (a 0)), (1, .int (iZ (cm))), (2, .int (iZ (mm))), (3, .int (iZ (pp))), (4, .int (iZ (tt)))]) hx hb dX8_isBefore_7 hl (by decide) rfl (fun ls hl => ?_)
  refine lv_aload_n hx hb dX8_isBefore_9 rfl (lv_at hl 1 rfl) ?_
  refine lv_iload_n hx hb dX8_isBefore_10 rfl (lv_at hl 4 rfl) ?_
  refine lv_iload hx hb dX8_isBefore_11 (lv_at hl 5 rfl) ?_
  refine z_cVR (q0 := 0) (ci := 7) (As := [.int (iZ (pp)), .int (iZ (tt))]) (rest := []) S (m_X8_placeOf l D g a (st) (pp) (tt) hI (by omega) (by omega)) (cwV 2 hts gX8_isBefore_X8_placeOf rfl rfl rfl (by decide +kernel) ⟨Nat.le_trans (by decide) hRf, Nat.le_trans (by decide) hRl⟩) hK hP rfl rfl rfl hl.1 rfl (Nat.le_of_ble_eq_true rfl) dX8_isBefore_13 ⟨Nat.zero_le _, Nat.zero_le _⟩ ?_
  have f2 := plM_p hI (pp) (tt) (by omega) (by omega)
  refine lv_istore (lv' := [(6, .int (iZ (plM st (pp) (tt)))), (5, .int (iZ (plM st (mm) (tt)))), (0, .ref (a 0)), (1, .int (iZ (cm))), (2, .int (iZ (mm))), (3, .int (iZ (pp))), (4, .int (iZ (tt)))]) hx hb dX8_isBefore_16 hl (by decide) rfl (fun ls hl => ?_)
  refine lv_iload hx hb dX8_isBefore_18 (lv_at hl 1 rfl) ?_
  refine z_cSS (As := [.int (iZ (plM st (mm) (tt)))]) (rest := []) S (m_X8_x l (plM st (mm) (tt)) (by omega)) (va_cwS 1 hts gX8_isBefore_X8_x rfl rfl rfl (by decide +kernel) ⟨Nat.le_trans (by decide) hRf, Nat.le_trans (by decide) hRl⟩) rfl hl.1 rfl (Nat.le_of_ble_eq_true rfl) dX8_isBefore_20 ⟨Nat.zero_le _, Nat.zero_le _⟩ ?_
  refine lv_aload_n hx hb dX8_isBefore_23 rfl (lv_at hl 2 rfl) ?_
  refine z_get (C := RX8) (T := TX8) (N := 26) (ci := 7) hx hb hts iX8 hown hK hP 0 rfl rfl 9 (by decide) (hts (.fieldLink RX8 28 "ShotBoardModel" "eye" "[I") (by decide +kernel)) (.ref (a 7)) rfl dX8_isBefore_24 ?_
  refine lv_iload_n hx hb dX8_isBefore_27 rfl (lv_at hl 3 rfl) ?_
  refine z_iald hx hb hK hP 7 (st 7) rfl (by omega) (by omega) (by omega) dX8_isBefore_28 ?_
  have f3 := hI.c7 (cm) (by omega) (by omega)
  refine z_cSS (As := [.int (iZ (st 7 (cm)))]) (rest := [.int (iZ ((plM st (mm) (tt)) / 100))]) S (m_X8_x l (st 7 (cm)) (by omega)) (va_cwS 1 hts gX8_isBefore_X8_x rfl rfl rfl (by decide +kernel) ⟨Nat.le_trans (by decide) hRf, Nat.le_trans (by decide) hRl⟩) rfl hl.1 rfl (Nat.le_of_ble_eq_true rfl) dX8_isBefore_29 ⟨Nat.zero_le _, Nat.zero_le _⟩ ?_
  refine z_isub hx hb dX8_isBefore_32 ?_
  refine lv_istore (lv' := [(7, .int (iZ (((plM st (mm) (tt)) / 100) - ((st 7 (cm)) / 100)))), (6, .int (iZ (plM st (pp) (tt)))), (5, .int (iZ (plM st (mm) (tt)))), (0, .ref (a 0)), (1, .int (iZ (cm))), (2, .int (iZ (mm))), (3, .int (iZ (pp))), (4, .int (iZ (tt)))]) hx hb dX8_isBefore_33 hl (by decide) rfl (fun ls hl => ?_)
  refine lv_iload hx hb dX8_isBefore_35 (lv_at hl 2 rfl) ?_
  refine z_cSS (As := [.int (iZ (plM st (mm) (tt)))]) (rest := []) S (m_X8_y l (plM st (mm) (tt)) (by omega)) (va_cwS 1 hts gX8_isBefore_X8_y rfl rfl rfl (by decide +kernel) ⟨Nat.le_trans (by decide) hRf, Nat.le_trans (by decide) hRl⟩) rfl hl.1 rfl (Nat.le_of_ble_eq_true rfl) dX8_isBefore_37 ⟨Nat.zero_le _, Nat.zero_le _⟩ ?_
  refine lv_aload_n hx hb dX8_isBefore_40 rfl (lv_at hl 3 rfl) ?_
  refine z_get (C := RX8) (T := TX8) (N := 26) (ci := 7) hx hb hts iX8 hown hK hP 0 rfl rfl 9 (by decide) (hts (.fieldLink RX8 28 "ShotBoardModel" "eye" "[I") (by decide +kernel)) (.ref (a 7)) rfl dX8_isBefore_41 ?_
  refine lv_iload_n hx hb dX8_isBefore_44 rfl (lv_at hl 4 rfl) ?_
  refine z_iald hx hb hK hP 7 (st 7) rfl (by omega) (by omega) (by omega) dX8_isBefore_45 ?_
  have f4 := hI.c7 (cm) (by omega) (by omega)
  refine z_cSS (As := [.int (iZ (st 7 (cm)))]) (rest := [.int (iZ ((plM st (mm) (tt)) % 100))]) S (m_X8_y l (st 7 (cm)) (by omega)) (va_cwS 1 hts gX8_isBefore_X8_y rfl rfl rfl (by decide +kernel) ⟨Nat.le_trans (by decide) hRf, Nat.le_trans (by decide) hRl⟩) rfl hl.1 rfl (Nat.le_of_ble_eq_true rfl) dX8_isBefore_46 ⟨Nat.zero_le _, Nat.zero_le _⟩ ?_
  refine z_isub hx hb dX8_isBefore_49 ?_
  refine lv_istore (lv' := [(8, .int (iZ (((plM st (mm) (tt)) % 100) - ((st 7 (cm)) % 100)))), (7, .int (iZ (((plM st (mm) (tt)) / 100) - ((st 7 (cm)) / 100)))), (6, .int (iZ (plM st (pp) (tt)))), (5, .int (iZ (plM st (mm) (tt)))), (0, .ref (a 0)), (1, .int (iZ (cm))), (2, .int (iZ (mm))), (3, .int (iZ (pp))), (4, .int (iZ (tt)))]) hx hb dX8_isBefore_50 hl (by decide) rfl (fun ls hl => ?_)
  refine lv_iload hx hb dX8_isBefore_52 (lv_at hl 2 rfl) ?_
  refine z_cSS (As := [.int (iZ (plM st (pp) (tt)))]) (rest := []) S (m_X8_x l (plM st (pp) (tt)) (by omega)) (va_cwS 1 hts gX8_isBefore_X8_x rfl rfl rfl (by decide +kernel) ⟨Nat.le_trans (by decide) hRf, Nat.le_trans (by decide) hRl⟩) rfl hl.1 rfl (Nat.le_of_ble_eq_true rfl) dX8_isBefore_54 ⟨Nat.zero_le _, Nat.zero_le _⟩ ?_
  refine lv_aload_n hx hb dX8_isBefore_57 rfl (lv_at hl 4 rfl) ?_
  refine z_get (C := RX8) (T := TX8) (N := 26) (ci := 7) hx hb hts iX8 hown hK hP 0 rfl rfl 9 (by decide) (hts (.fieldLink RX8 28 "ShotBoardModel" "eye" "[I") (by decide +kernel)) (.ref (a 7)) rfl dX8_isBefore_58 ?_
  refine lv_iload_n hx hb dX8_isBefore_61 rfl (lv_at hl 5 rfl) ?_
  refine z_iald hx hb hK hP 7 (st 7) rfl (by omega) (by omega) (by omega) dX8_isBefore_62 ?_
  have f5 := hI.c7 (cm) (by omega) (by omega)
  refine z_cSS (As := [.int (iZ (st 7 (cm)))]) (rest := [.int (iZ ((plM st (pp) (tt)) / 100))]) S (m_X8_x l (st 7 (cm)) (by omega)) (va_cwS 1 hts gX8_isBefore_X8_x rfl rfl rfl (by decide +kernel) ⟨Nat.le_trans (by decide) hRf, Nat.le_trans (by decide) hRl⟩) rfl hl.1 rfl (Nat.le_of_ble_eq_true rfl) dX8_isBefore_63 ⟨Nat.zero_le _, Nat.zero_le _⟩ ?_
  refine z_isub hx hb dX8_isBefore_66 ?_
  refine lv_istore (lv' := [(9, .int (iZ (((plM st (pp) (tt)) / 100) - ((st 7 (cm)) / 100)))), (8, .int (iZ (((plM st (mm) (tt)) % 100) - ((st 7 (cm)) % 100)))), (7, .int (iZ (((plM st (mm) (tt)) / 100) - ((st 7 (cm)) / 100)))), (6, .int (iZ (plM st (pp) (tt)))), (5, .int (iZ (plM st (mm) (tt)))), (0, .ref (a 0)), (1, .int (iZ (cm))), (2, .int (iZ (mm))), (3, .int (iZ (pp))), (4, .int (iZ (tt)))]) hx hb dX8_isBefore_67 hl (by decide) rfl (fun ls hl => ?_)
  refine lv_iload hx hb dX8_isBefore_69 (lv_at hl 3 rfl) ?_
  refine z_cSS (As := [.int (iZ (plM st (pp) (tt)))]) (rest := []) S (m_X8_y l (plM st (pp) (tt)) (by omega)) (va_cwS 1 hts gX8_isBefore_X8_y rfl rfl rfl (by decide +kernel) ⟨Nat.le_trans (by decide) hRf, Nat.le_trans (by decide) hRl⟩) rfl hl.1 rfl (Nat.le_of_ble_eq_true rfl) dX8_isBefore_71 ⟨Nat.zero_le _, Nat.zero_le _⟩ ?_
  refine lv_aload_n hx hb dX8_isBefore_74 rfl (lv_at hl 5 rfl) ?_
  refine z_get (C := RX8) (T := TX8) (N := 26) (ci := 7) hx hb hts iX8 hown hK hP 0 rfl rfl 9 (by decide) (hts (.fieldLink RX8 28 "ShotBoardModel" "eye" "[I") (by decide +kernel)) (.ref (a 7)) rfl dX8_isBefore_75 ?_
  refine lv_iload_n hx hb dX8_isBefore_78 rfl (lv_at hl 6 rfl) ?_
  refine z_iald hx hb hK hP 7 (st 7) rfl (by omega) (by omega) (by omega) dX8_isBefore_79 ?_
  have f6 := hI.c7 (cm) (by omega) (by omega)
  refine z_cSS (As := [.int (iZ (st 7 (cm)))]) (rest := [.int (iZ ((plM st (pp) (tt)) % 100))]) S (m_X8_y l (st 7 (cm)) (by omega)) (va_cwS 1 hts gX8_isBefore_X8_y rfl rfl rfl (by decide +kernel) ⟨Nat.le_trans (by decide) hRf, Nat.le_trans (by decide) hRl⟩) rfl hl.1 rfl (Nat.le_of_ble_eq_true rfl) dX8_isBefore_80 ⟨Nat.zero_le _, Nat.zero_le _⟩ ?_
  refine z_isub hx hb dX8_isBefore_83 ?_
  refine lv_istore (lv' := [(10, .int (iZ (((plM st (pp) (tt)) % 100) - ((st 7 (cm)) % 100)))), (9, .int (iZ (((plM st (pp) (tt)) / 100) - ((st 7 (cm)) / 100)))), (8, .int (iZ (((plM st (mm) (tt)) % 100) - ((st 7 (cm)) % 100)))), (7, .int (iZ (((plM st (mm) (tt)) / 100) - ((st 7 (cm)) / 100)))), (6, .int (iZ (plM st (pp) (tt)))), (5, .int (iZ (plM st (mm) (tt)))), (0, .ref (a 0)), (1, .int (iZ (cm))), (2, .int (iZ (mm))), (3, .int (iZ (pp))), (4, .int (iZ (tt)))]) hx hb dX8_isBefore_84 hl (by decide) rfl (fun ls hl => ?_)
  refine lv_iload hx hb dX8_isBefore_86 (lv_at hl 3 rfl) ?_
  refine lv_iload hx hb dX8_isBefore_88 (lv_at hl 1 rfl) ?_
  refine z_imul hx hb dX8_isBefore_90 ?_
  refine lv_iload hx hb dX8_isBefore_91 (lv_at hl 2 rfl) ?_
  refine lv_iload hx hb dX8_isBefore_93 (lv_at hl 0 rfl) ?_
  refine z_imul hx hb dX8_isBefore_95 ?_
  refine z_iadd hx hb dX8_isBefore_96 ?_
  refine z_as (y := dotZ (st 7 cm) (plM st mm tt) (plM st pp tt)) (rfl) ?_
  have g0 := dotZ_b (st 7 cm) (plM st mm tt) (plM st pp tt) (by omega) (by omega) (by omega)
  refine lv_istore (lv' := [(11, .int (iZ (dotZ (st 7 cm) (plM st mm tt) (plM st pp tt)))), (10, .int (iZ (((plM st (pp) (tt)) % 100) - ((st 7 (cm)) % 100)))), (9, .int (iZ (((plM st (pp) (tt)) / 100) - ((st 7 (cm)) / 100)))), (8, .int (iZ (((plM st (mm) (tt)) % 100) - ((st 7 (cm)) % 100)))), (7, .int (iZ (((plM st (mm) (tt)) / 100) - ((st 7 (cm)) / 100)))), (6, .int (iZ (plM st (pp) (tt)))), (5, .int (iZ (plM st (mm) (tt)))), (0, .ref (a 0)), (1, .int (iZ (cm))), (2, .int (iZ (mm))), (3, .int (iZ (pp))), (4, .int (iZ (tt)))]) hx hb dX8_isBefore_97 hl (by decide) rfl (fun ls hl => ?_)
  refine lv_iload hx hb dX8_isBefore_99 (lv_at hl 0 rfl) ?_
  refine z_if_le (tgt := 141) hx hb (by omega) dX8_isBefore_101 (by decide) (fun c7 => ?_) (fun c7 => ?_)
  · skip
    refine z_iconst hx hb dX8_isBefore_141 ?_
    exact K _ _ _ (by first | exact b2_pos (by unfold cone; omega) rfl | exact b2_neg (by unfold cone; omega) rfl) dX8_isBefore_142
  · skip
    have g1 := pr_b (dotZ_b (st 7 cm) (plM st mm tt) (plM st mm tt) (by omega) (by omega) (by omega)) (dotZ_b (st 7 cm) (plM st pp tt) (plM st pp tt) (by omega) (by omega) (by omega))
    have g2 := pr2_b (dotZ_b (st 7 cm) (plM st mm tt) (plM st pp tt) (by omega) (by omega) (by omega))
    refine z_iconst hx hb dX8_isBefore_104 ?_
    refine lv_iload hx hb dX8_isBefore_105 (lv_at hl 0 rfl) ?_
    refine z_imul hx hb dX8_isBefore_107 ?_
    refine lv_iload hx hb dX8_isBefore_108 (lv_at hl 0 rfl) ?_
    refine z_imul hx hb dX8_isBefore_110 ?_
    refine lv_iload hx hb dX8_isBefore_111 (lv_at hl 4 rfl) ?_
    refine lv_iload hx hb dX8_isBefore_113 (lv_at hl 4 rfl) ?_
    refine z_imul hx hb dX8_isBefore_115 ?_
    refine lv_iload hx hb dX8_isBefore_116 (lv_at hl 3 rfl) ?_
    refine lv_iload hx hb dX8_isBefore_118 (lv_at hl 3 rfl) ?_
    refine z_imul hx hb dX8_isBefore_120 ?_
    refine z_iadd hx hb dX8_isBefore_121 ?_
    refine z_as (y := dotZ (st 7 cm) (plM st mm tt) (plM st mm tt)) (rfl) ?_
    refine lv_iload hx hb dX8_isBefore_122 (lv_at hl 2 rfl) ?_
    refine lv_iload hx hb dX8_isBefore_124 (lv_at hl 2 rfl) ?_
    refine z_imul hx hb dX8_isBefore_126 ?_
    refine lv_iload hx hb dX8_isBefore_127 (lv_at hl 1 rfl) ?_
    refine lv_iload hx hb dX8_isBefore_129 (lv_at hl 1 rfl) ?_
    refine z_imul hx hb dX8_isBefore_131 ?_
    refine z_iadd hx hb dX8_isBefore_132 ?_
    refine z_as (y := dotZ (st 7 cm) (plM st pp tt) (plM st pp tt)) (rfl) ?_
    refine z_imul hx hb dX8_isBefore_133 ?_
    refine z_icmp_lt (tgt := 141) hx hb (by omega) (by omega) dX8_isBefore_134 (by decide) (fun c8 => ?_) (fun c8 => ?_)
    · skip
      refine z_iconst hx hb dX8_isBefore_141 ?_
      exact K _ _ _ (by first | exact b2_pos (by unfold cone; omega) rfl | exact b2_neg (by unfold cone; omega) rfl) dX8_isBefore_142
    · skip
      refine z_iconst hx hb dX8_isBefore_137 ?_
      refine lv_goto (tgt := 142) hx hb dX8_isBefore_138 (by decide) ?_
      exact K _ _ _ (by first | exact b2_pos (by unfold cone; omega) rfl | exact b2_neg (by unfold cone; omega) rfl) dX8_isBefore_142
abbrev rX8_sizeOf : Room := { frames := 1, cells := 0, slots := 0, locals := 25 }
set_option maxHeartbeats 4000000 in
set_option maxRecDepth 100000 in
theorem m_X8_sizeOf (l : Launch) (D : va_G) (g : Nat → ClassId) (a : Nat → Nat) (st : SS) (cm : Int) (pp : Int) (tt : Int) (hI : IM st) (h1 : 0 ≤ cm ∧ cm < 10) (h3 : 0 ≤ pp ∧ pp < 6) (h4 : 0 ≤ tt ∧ tt < 60) : Met l yX8_sizeOf wsX8_sizeOf rX8_sizeOf (PcR D g (WM g a st) [.ref (a 0), .int (iZ (cm)), .int (iZ (pp)), .int (iZ (tt))]) (QcRead (iZ (sizeZ (st 7 cm) (plM st pp tt)))) 0 0 (fun _ => False) := by
  refine metR (cc := cX8_sizeOf) (maxL := 7) (ret := (some .int)) (own := RX8) (by decide) rfl rfl (Nat.le_of_ble_eq_true rfl) (Or.inl rfl) ?_
  intro p e R s m args below meth c Q ls S hRf hRl hK hP hl K
  have hx := S.1
  have hb := S.2.1
  have hown := S.2.2.2.1
  have hts := S.2.2.2.2
  have hRf : 1 ≤ R.frames := hRf
  have hRl : 25 ≤ R.locals := hRl
  have hl : lv_has ls 7 [(0, .ref (a 0)), (1, .int (iZ (cm))), (2, .int (iZ (pp))), (3, .int (iZ (tt)))] := hl
  have iX8 : ∀ w ∈ wsX80, w ∈ wsX8_sizeOf := by decide +kernel
  refine lv_aload_n hx hb dX8_sizeOf_0 rfl (lv_at hl 0 rfl) ?_
  refine lv_iload_n hx hb dX8_sizeOf_1 rfl (lv_at hl 2 rfl) ?_
  refine lv_iload_n hx hb dX8_sizeOf_2 rfl (lv_at hl 3 rfl) ?_
  refine z_cVR (q0 := 0) (ci := 7) (As := [.int (iZ (pp)), .int (iZ (tt))]) (rest := []) S (m_X8_placeOf l D g a (st) (pp) (tt) hI (by omega) (by omega)) (cwV 2 hts gX8_sizeOf_X8_placeOf rfl rfl rfl (by decide +kernel) ⟨Nat.le_trans (by decide) hRf, Nat.le_trans (by decide) hRl⟩) hK hP rfl rfl rfl hl.1 rfl (Nat.le_of_ble_eq_true rfl) dX8_sizeOf_3 ⟨Nat.zero_le _, Nat.zero_le _⟩ ?_
  have f1 := plM_p hI (pp) (tt) (by omega) (by omega)
  refine z_cSS (As := [.int (iZ (plM st (pp) (tt)))]) (rest := []) S (m_X8_x l (plM st (pp) (tt)) (by omega)) (va_cwS 1 hts gX8_sizeOf_X8_x rfl rfl rfl (by decide +kernel) ⟨Nat.le_trans (by decide) hRf, Nat.le_trans (by decide) hRl⟩) rfl hl.1 rfl (Nat.le_of_ble_eq_true rfl) dX8_sizeOf_6 ⟨Nat.zero_le _, Nat.zero_le _⟩ ?_
  refine lv_aload_n hx hb dX8_sizeOf_9 rfl (lv_at hl 0 rfl) ?_
  refine z_get (C := RX8) (T := TX8) (N := 26) (ci := 7) hx hb hts iX8 hown hK hP 0 rfl rfl 9 (by decide) (hts (.fieldLink RX8 28 "ShotBoardModel" "eye" "[I") (by decide +kernel)) (.ref (a 7)) rfl dX8_sizeOf_10 ?_
  refine lv_iload_n hx hb dX8_sizeOf_13 rfl (lv_at hl 1 rfl) ?_
  refine z_iald hx hb hK hP 7 (st 7) rfl (by omega) (by omega) (by omega) dX8_sizeOf_14 ?_
  have f2 := hI.c7 (cm) (by omega) (by omega)
  refine z_cSS (As := [.int (iZ (st 7 (cm)))]) (rest := [.int (iZ ((plM st (pp) (tt)) / 100))]) S (m_X8_x l (st 7 (cm)) (by omega)) (va_cwS 1 hts gX8_sizeOf_X8_x rfl rfl rfl (by decide +kernel) ⟨Nat.le_trans (by decide) hRf, Nat.le_trans (by decide) hRl⟩) rfl hl.1 rfl (Nat.le_of_ble_eq_true rfl) dX8_sizeOf_15 ⟨Nat.zero_le _, Nat.zero_le _⟩ ?_
  refine z_isub hx hb dX8_sizeOf_18 ?_
  refine lv_istore (lv' := [(4, .int (iZ (((plM st (pp) (tt)) / 100) - ((st 7 (cm)) / 100)))), (0, .ref (a 0)), (1, .int (iZ (cm))), (2, .int (iZ (pp))), (3, .int (iZ (tt)))]) hx hb dX8_sizeOf_19 hl (by decide) rfl (fun ls hl => ?_)
  refine lv_aload_n hx hb dX8_sizeOf_21 rfl (lv_at hl 1 rfl) ?_
  refine lv_iload_n hx hb dX8_sizeOf_22 rfl (lv_at hl 3 rfl) ?_
  refine lv_iload_n hx hb dX8_sizeOf_23 rfl (lv_at hl 4 rfl) ?_
  refine z_cVR (q0 := 0) (ci := 7) (As := [.int (iZ (pp)), .int (iZ (tt))]) (rest := []) S (m_X8_placeOf l D g a (st) (pp) (tt) hI (by omega) (by omega)) (cwV 2 hts gX8_sizeOf_X8_placeOf rfl rfl rfl (by decide +kernel) ⟨Nat.le_trans (by decide) hRf, Nat.le_trans (by decide) hRl⟩) hK hP rfl rfl rfl hl.1 rfl (Nat.le_of_ble_eq_true rfl) dX8_sizeOf_24 ⟨Nat.zero_le _, Nat.zero_le _⟩ ?_
  have f3 := plM_p hI (pp) (tt) (by omega) (by omega)
  refine z_cSS (As := [.int (iZ (plM st (pp) (tt)))]) (rest := []) S (m_X8_y l (plM st (pp) (tt)) (by omega)) (va_cwS 1 hts gX8_sizeOf_X8_y rfl rfl rfl (by decide +kernel) ⟨Nat.le_trans (by decide) hRf, Nat.le_trans (by decide) hRl⟩) rfl hl.1 rfl (Nat.le_of_ble_eq_true rfl) dX8_sizeOf_27 ⟨Nat.zero_le _, Nat.zero_le _⟩ ?_
  refine lv_aload_n hx hb dX8_sizeOf_30 rfl (lv_at hl 1 rfl) ?_
  refine z_get (C := RX8) (T := TX8) (N := 26) (ci := 7) hx hb hts iX8 hown hK hP 0 rfl rfl 9 (by decide) (hts (.fieldLink RX8 28 "ShotBoardModel" "eye" "[I") (by decide +kernel)) (.ref (a 7)) rfl dX8_sizeOf_31 ?_
  refine lv_iload_n hx hb dX8_sizeOf_34 rfl (lv_at hl 2 rfl) ?_
  refine z_iald hx hb hK hP 7 (st 7) rfl (by omega) (by omega) (by omega) dX8_sizeOf_35 ?_
  have f4 := hI.c7 (cm) (by omega) (by omega)
  refine z_cSS (As := [.int (iZ (st 7 (cm)))]) (rest := [.int (iZ ((plM st (pp) (tt)) % 100))]) S (m_X8_y l (st 7 (cm)) (by omega)) (va_cwS 1 hts gX8_sizeOf_X8_y rfl rfl rfl (by decide +kernel) ⟨Nat.le_trans (by decide) hRf, Nat.le_trans (by decide) hRl⟩) rfl hl.1 rfl (Nat.le_of_ble_eq_true rfl) dX8_sizeOf_36 ⟨Nat.zero_le _, Nat.zero_le _⟩ ?_
  refine z_isub hx hb dX8_sizeOf_39 ?_
  refine lv_istore (lv' := [(5, .int (iZ (((plM st (pp) (tt)) % 100) - ((st 7 (cm)) % 100)))), (4, .int (iZ (((plM st (pp) (tt)) / 100) - ((st 7 (cm)) / 100)))), (0, .ref (a 0)), (1, .int (iZ (cm))), (2, .int (iZ (pp))), (3, .int (iZ (tt)))]) hx hb dX8_sizeOf_40 hl (by decide) rfl (fun ls hl => ?_)
  refine lv_iload hx hb dX8_sizeOf_42 (lv_at hl 1 rfl) ?_
  refine lv_iload hx hb dX8_sizeOf_44 (lv_at hl 1 rfl) ?_
  refine z_imul hx hb dX8_sizeOf_46 ?_
  refine lv_iload hx hb dX8_sizeOf_47 (lv_at hl 0 rfl) ?_
  refine lv_iload hx hb dX8_sizeOf_49 (lv_at hl 0 rfl) ?_
  refine z_imul hx hb dX8_sizeOf_51 ?_
  refine z_iadd hx hb dX8_sizeOf_52 ?_
  refine z_as (y := dotZ (st 7 cm) (plM st pp tt) (plM st pp tt)) (rfl) ?_
  have g0 := dotZ_b (st 7 cm) (plM st pp tt) (plM st pp tt) (by omega) (by omega) (by omega)
  refine lv_istore (lv' := [(6, .int (iZ (dotZ (st 7 cm) (plM st pp tt) (plM st pp tt)))), (5, .int (iZ (((plM st (pp) (tt)) % 100) - ((st 7 (cm)) % 100)))), (4, .int (iZ (((plM st (pp) (tt)) / 100) - ((st 7 (cm)) / 100)))), (0, .ref (a 0)), (1, .int (iZ (cm))), (2, .int (iZ (pp))), (3, .int (iZ (tt)))]) hx hb dX8_sizeOf_53 hl (by decide) rfl (fun ls hl => ?_)
  refine lv_iload hx hb dX8_sizeOf_55 (lv_at hl 0 rfl) ?_
  refine z_bipush hx hb dX8_sizeOf_57 (by decide +kernel) ?_
  refine z_icmp_gt (tgt := 66) hx hb (by omega) (by decide) dX8_sizeOf_59 (by decide) (fun c5 => ?_) (fun c5 => ?_)
  · skip
    refine lv_iload hx hb dX8_sizeOf_66 (lv_at hl 0 rfl) ?_
    refine z_bipush hx hb dX8_sizeOf_68 (by decide +kernel) ?_
    refine z_icmp_gt (tgt := 77) hx hb (by omega) (by decide) dX8_sizeOf_70 (by decide) (fun c6 => ?_) (fun c6 => ?_)
    · skip
      refine z_iconst hx hb dX8_sizeOf_77 ?_
      exact K _ _ _ (by unfold sizeZ; first | rw [if_pos (by omega)] | rw [if_neg (by omega), if_pos (by omega)] | rw [if_neg (by omega), if_neg (by omega)]) dX8_sizeOf_78
    · skip
      refine z_iconst hx hb dX8_sizeOf_73 ?_
      refine lv_goto (tgt := 78) hx hb dX8_sizeOf_74 (by decide) ?_
      exact K _ _ _ (by unfold sizeZ; first | rw [if_pos (by omega)] | rw [if_neg (by omega), if_pos (by omega)] | rw [if_neg (by omega), if_neg (by omega)]) dX8_sizeOf_78
  · skip
    refine z_iconst hx hb dX8_sizeOf_62 ?_
    refine lv_goto (tgt := 78) hx hb dX8_sizeOf_63 (by decide) ?_
    exact K _ _ _ (by unfold sizeZ; first | rw [if_pos (by omega)] | rw [if_neg (by omega), if_pos (by omega)] | rw [if_neg (by omega), if_neg (by omega)]) dX8_sizeOf_78
