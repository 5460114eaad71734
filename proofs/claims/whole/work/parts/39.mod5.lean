abbrev rX8_where : Room := { frames := 2, cells := 0, slots := 0, locals := 43 }
set_option maxHeartbeats 4000000 in
set_option maxRecDepth 100000 in
theorem m_X8_where (l : Launch) (D : va_G) (g : Nat → ClassId) (a : Nat → Nat) (st : SS) (pp : Int) (tt : Int) (hI : IM st) (h1 : rg pp) (h2 : rg tt) : Met l yX8_where wsX8_where rX8_where (PcR D g (WM g a st) [.ref (a 0), .int (iZ (pp)), .int (iZ (tt))]) (QcRead (iZ (aWhere (plM st) (st 0 0) pp tt))) 0 0 (fun _ => False) := by
  refine metR (cc := cX8_where) (maxL := 3) (ret := (some .int)) (own := RX8) (by decide) rfl rfl (Nat.le_of_ble_eq_true rfl) (Or.inl rfl) ?_
  intro p e R s m args below meth c Q ls S hRf hRl hK hP hl K
  have hx := S.1
  have hb := S.2.1
  have hown := S.2.2.2.1
  have hts := S.2.2.2.2
  have hRf : 2 ≤ R.frames := hRf
  have hRl : 43 ≤ R.locals := hRl
  have hl : lv_has ls 3 [(0, .ref (a 0)), (1, .int (iZ (pp))), (2, .int (iZ (tt)))] := hl
  have hB := hI.s
  refine lv_aload_n hx hb dX8_where_0 rfl (lv_at hl 0 rfl) ?_
  refine lv_iload_n hx hb dX8_where_1 rfl (lv_at hl 1 rfl) ?_
  refine z_cVR (q0 := 0) (ci := 7) (As := [.int (iZ (pp))]) (rest := []) S (m_X8_isPerson l D g a (st) (pp) hI (by omega)) (cwV 1 hts gX8_where_X8_isPerson rfl rfl rfl (by decide +kernel) ⟨Nat.le_trans (by decide) hRf, Nat.le_trans (by decide) hRl⟩) hK hP rfl rfl rfl hl.1 rfl (Nat.le_of_ble_eq_true rfl) dX8_where_2 ⟨Nat.zero_le _, Nat.zero_le _⟩ ?_
  refine z_if_eq (tgt := 24) hx hb (b2_rg _) dX8_where_5 (by decide) (fun c1 => ?_) (fun c1 => ?_)
  · skip
    have c1 := b2_0 c1
    refine z_iconst hx hb dX8_where_24 ?_
    exact K _ _ _ (by unfold aWhere; first | rw [if_pos (by omega)] | rw [if_neg (by omega)]) dX8_where_25
  · skip
    have c1 := b2_n0 c1
    refine lv_iload_n hx hb dX8_where_8 rfl (lv_at hl 2 rfl) ?_
    refine z_cSS (As := [.int (iZ (tt))]) (rest := []) S (m_X8_isTick l (tt) (by omega)) (va_cwS 1 hts gX8_where_X8_isTick rfl rfl rfl (by decide +kernel) ⟨Nat.le_trans (by decide) hRf, Nat.le_trans (by decide) hRl⟩) rfl hl.1 rfl (Nat.le_of_ble_eq_true rfl) dX8_where_9 ⟨Nat.zero_le _, Nat.zero_le _⟩ ?_
    refine z_if_eq (tgt := 24) hx hb (b2_rg _) dX8_where_12 (by decide) (fun c2 => ?_) (fun c2 => ?_)
    · skip
      have c2 := b2_0 c2
      refine z_iconst hx hb dX8_where_24 ?_
      exact K _ _ _ (by unfold aWhere; first | rw [if_pos (by omega)] | rw [if_neg (by omega)]) dX8_where_25
    · skip
      have c2 := b2_n0 c2
      refine lv_aload_n hx hb dX8_where_15 rfl (lv_at hl 0 rfl) ?_
      refine lv_iload_n hx hb dX8_where_16 rfl (lv_at hl 1 rfl) ?_
      refine lv_iload_n hx hb dX8_where_17 rfl (lv_at hl 2 rfl) ?_
      refine z_cVR (q0 := 0) (ci := 7) (As := [.int (iZ (pp)), .int (iZ (tt))]) (rest := []) S (m_X8_placeOf l D g a (st) (pp) (tt) hI (by omega) (by omega)) (cwV 2 hts gX8_where_X8_placeOf rfl rfl rfl (by decide +kernel) ⟨Nat.le_trans (by decide) hRf, Nat.le_trans (by decide) hRl⟩) hK hP rfl rfl rfl hl.1 rfl (Nat.le_of_ble_eq_true rfl) dX8_where_18 ⟨Nat.zero_le _, Nat.zero_le _⟩ ?_
      have f3 := plM_p hI (pp) (tt) (by omega) (by omega)
      refine lv_goto (tgt := 25) hx hb dX8_where_21 (by decide) ?_
      exact K _ _ _ (by unfold aWhere; first | rw [if_pos (by omega)] | rw [if_neg (by omega)]) dX8_where_25
abbrev rX8_hidden : Room := { frames := 5, cells := 0, slots := 0, locals := 116 }
set_option maxHeartbeats 4000000 in
set_option maxRecDepth 100000 in
theorem m_X8_hidden (l : Launch) (D : va_G) (g : Nat → ClassId) (a : Nat → Nat) (st : SS) (pp : Int) (tt : Int) (ff : Int) (hI : IM st) (h1 : rg pp) (h2 : rg tt) (h3 : rg ff) : Met l yX8_hidden wsX8_hidden rX8_hidden (PcR D g (WM g a st) [.ref (a 0), .int (iZ (pp)), .int (iZ (tt)), .int (iZ (ff))]) (QcRead (iZ (aHidden (plM st) (st 0 0) (st 0 1) (st 5) (st 6) pp tt ff))) 0 0 (fun _ => False) := by
  refine metR (cc := cX8_hidden) (maxL := 4) (ret := (some .int)) (own := RX8) (by decide) rfl rfl (Nat.le_of_ble_eq_true rfl) (Or.inl rfl) ?_
  intro p e R s m args below meth c Q ls S hRf hRl hK hP hl K
  have hx := S.1
  have hb := S.2.1
  have hown := S.2.2.2.1
  have hts := S.2.2.2.2
  have hRf : 5 ≤ R.frames := hRf
  have hRl : 116 ≤ R.locals := hRl
  have hl : lv_has ls 4 [(0, .ref (a 0)), (1, .int (iZ (pp))), (2, .int (iZ (tt))), (3, .int (iZ (ff)))] := hl
  have hB := hI.s
  refine lv_aload_n hx hb dX8_hidden_0 rfl (lv_at hl 0 rfl) ?_
  refine lv_iload_n hx hb dX8_hidden_1 rfl (lv_at hl 1 rfl) ?_
  refine z_cVR (q0 := 0) (ci := 7) (As := [.int (iZ (pp))]) (rest := []) S (m_X8_isPerson l D g a (st) (pp) hI (by omega)) (cwV 1 hts gX8_hidden_X8_isPerson rfl rfl rfl (by decide +kernel) ⟨Nat.le_trans (by decide) hRf, Nat.le_trans (by decide) hRl⟩) hK hP rfl rfl rfl hl.1 rfl (Nat.le_of_ble_eq_true rfl) dX8_hidden_2 ⟨Nat.zero_le _, Nat.zero_le _⟩ ?_
  refine z_if_eq (tgt := 22) hx hb (b2_rg _) dX8_hidden_5 (by decide) (fun c1 => ?_) (fun c1 => ?_)
  · skip
    have c1 := b2_0 c1
    refine z_iconst hx hb dX8_hidden_22 ?_
    exact K _ _ _ (by unfold aHidden; first | rw [if_neg (by omega)] | rw [if_pos (by omega), b2_t hh] | rw [if_pos (by omega), b2_f hh]) dX8_hidden_23
  · skip
    have c1 := b2_n0 c1
    refine lv_iload_n hx hb dX8_hidden_8 rfl (lv_at hl 2 rfl) ?_
    refine z_cSS (As := [.int (iZ (tt))]) (rest := []) S (m_X8_isTick l (tt) (by omega)) (va_cwS 1 hts gX8_hidden_X8_isTick rfl rfl rfl (by decide +kernel) ⟨Nat.le_trans (by decide) hRf, Nat.le_trans (by decide) hRl⟩) rfl hl.1 rfl (Nat.le_of_ble_eq_true rfl) dX8_hidden_9 ⟨Nat.zero_le _, Nat.zero_le _⟩ ?_
    refine z_if_eq (tgt := 22) hx hb (b2_rg _) dX8_hidden_12 (by decide) (fun c2 => ?_) (fun c2 => ?_)
    · skip
      have c2 := b2_0 c2
      refine z_iconst hx hb dX8_hidden_22 ?_
      exact K _ _ _ (by unfold aHidden; first | rw [if_neg (by omega)] | rw [if_pos (by omega), b2_t hh] | rw [if_pos (by omega), b2_f hh]) dX8_hidden_23
    · skip
      have c2 := b2_n0 c2
      refine lv_iload_n hx hb dX8_hidden_15 rfl (lv_at hl 3 rfl) ?_
      refine z_cSS (As := [.int (iZ (ff))]) (rest := []) S (m_X8_isPlace l (ff) (by omega)) (va_cwS 1 hts gX8_hidden_X8_isPlace rfl rfl rfl (by decide +kernel) ⟨Nat.le_trans (by decide) hRf, Nat.le_trans (by decide) hRl⟩) rfl hl.1 rfl (Nat.le_of_ble_eq_true rfl) dX8_hidden_16 ⟨Nat.zero_le _, Nat.zero_le _⟩ ?_
      refine z_if_ne (tgt := 24) hx hb (b2_rg _) dX8_hidden_19 (by decide) (fun c3 => ?_) (fun c3 => ?_)
      · skip
        have c3 := b2_n0 c3
        refine lv_aload_n hx hb dX8_hidden_24 rfl (lv_at hl 0 rfl) ?_
        refine lv_iload_n hx hb dX8_hidden_25 rfl (lv_at hl 1 rfl) ?_
        refine lv_iload_n hx hb dX8_hidden_26 rfl (lv_at hl 2 rfl) ?_
        refine lv_iload_n hx hb dX8_hidden_27 rfl (lv_at hl 3 rfl) ?_
        refine z_cVR (q0 := 0) (ci := 7) (As := [.int (iZ (pp)), .int (iZ (tt)), .int (iZ (ff))]) (rest := []) S (m_X8_isHidden l D g a (st) (pp) (tt) (ff) hI (by omega) (by omega) (by omega)) (cwV 3 hts gX8_hidden_X8_isHidden rfl rfl rfl (by decide +kernel) ⟨Nat.le_trans (by decide) hRf, Nat.le_trans (by decide) hRl⟩) hK hP rfl rfl rfl hl.1 rfl (Nat.le_of_ble_eq_true rfl) dX8_hidden_28 ⟨Nat.zero_le _, Nat.zero_le _⟩ ?_
        refine z_if_eq (tgt := 38) hx hb (b2_rg _) dX8_hidden_31 (by decide) (fun c4 => ?_) (fun c4 => ?_)
        · skip
          have c4 := b2_0 c4
          have hh := c4
          refine z_iconst hx hb dX8_hidden_38 ?_
          exact K _ _ _ (by unfold aHidden; first | rw [if_neg (by omega)] | rw [if_pos (by omega), b2_t hh] | rw [if_pos (by omega), b2_f hh]) dX8_hidden_39
        · skip
          have c4 := b2_n0 c4
          have hh := c4
          refine z_iconst hx hb dX8_hidden_34 ?_
          refine lv_goto (tgt := 39) hx hb dX8_hidden_35 (by decide) ?_
          exact K _ _ _ (by unfold aHidden; first | rw [if_neg (by omega)] | rw [if_pos (by omega), b2_t hh] | rw [if_pos (by omega), b2_f hh]) dX8_hidden_39
      · skip
        have c3 := b2_0 c3
        refine z_iconst hx hb dX8_hidden_22 ?_
        exact K _ _ _ (by unfold aHidden; first | rw [if_neg (by omega)] | rw [if_pos (by omega), b2_t hh] | rw [if_pos (by omega), b2_f hh]) dX8_hidden_23
abbrev rX8_sees : Room := { frames := 5, cells := 0, slots := 0, locals := 116 }
set_option maxHeartbeats 4000000 in
set_option maxRecDepth 100000 in
theorem m_X8_sees (l : Launch) (D : va_G) (g : Nat → ClassId) (a : Nat → Nat) (st : SS) (cm : Int) (mm : Int) (pp : Int) (tt : Int) (hI : IM st) (h1 : rg cm) (h2 : rg mm) (h3 : rg pp) (h4 : rg tt) : Met l yX8_sees wsX8_sees rX8_sees (PcR D g (WM g a st) [.ref (a 0), .int (iZ (cm)), .int (iZ (mm)), .int (iZ (pp)), .int (iZ (tt))]) (QcRead (iZ (aSees (plM st) (st 0 0) (st 0 1) (st 0 2) (st 5) (st 6) (st 7) cm mm pp tt))) 0 0 (fun _ => False) := by
  refine metR (cc := cX8_sees) (maxL := 5) (ret := (some .int)) (own := RX8) (by decide) rfl rfl (Nat.le_of_ble_eq_true rfl) (Or.inl rfl) ?_
  intro p e R s m args below meth c Q ls S hRf hRl hK hP hl K
  have hx := S.1
  have hb := S.2.1
  have hown := S.2.2.2.1
  have hts := S.2.2.2.2
  have hRf : 5 ≤ R.frames := hRf
  have hRl : 116 ≤ R.locals := hRl
  have hl : lv_has ls 5 [(0, .ref (a 0)), (1, .int (iZ (cm))), (2, .int (iZ (mm))), (3, .int (iZ (pp))), (4, .int (iZ (tt)))] := hl
  have iX8 : ∀ w ∈ wsX80, w ∈ wsX8_sees := by decide +kernel
  have hB := hI.s
  refine lv_aload_n hx hb dX8_sees_0 rfl (lv_at hl 0 rfl) ?_
  refine lv_iload_n hx hb dX8_sees_1 rfl (lv_at hl 1 rfl) ?_
  refine z_cVR (q0 := 0) (ci := 7) (As := [.int (iZ (cm))]) (rest := []) S (m_X8_isCamera l D g a (st) (cm) hI (by omega)) (cwV 1 hts gX8_sees_X8_isCamera rfl rfl rfl (by decide +kernel) ⟨Nat.le_trans (by decide) hRf, Nat.le_trans (by decide) hRl⟩) hK hP rfl rfl rfl hl.1 rfl (Nat.le_of_ble_eq_true rfl) dX8_sees_2 ⟨Nat.zero_le _, Nat.zero_le _⟩ ?_
  refine z_if_eq (tgt := 32) hx hb (b2_rg _) dX8_sees_5 (by decide) (fun c1 => ?_) (fun c1 => ?_)
  · skip
    have c1 := b2_0 c1
    refine z_iconst hx hb dX8_sees_32 ?_
    exact K _ _ _ (by unfold aSees; first | rw [if_neg (by omega)] | rw [if_pos (by omega), b2_t hans] | rw [if_pos (by omega), b2_f hans]) dX8_sees_33
  · skip
    have c1 := b2_n0 c1
    refine lv_aload_n hx hb dX8_sees_8 rfl (lv_at hl 0 rfl) ?_
    refine lv_iload_n hx hb dX8_sees_9 rfl (lv_at hl 2 rfl) ?_
    refine z_cVR (q0 := 0) (ci := 7) (As := [.int (iZ (mm))]) (rest := []) S (m_X8_isPerson l D g a (st) (mm) hI (by omega)) (cwV 1 hts gX8_sees_X8_isPerson rfl rfl rfl (by decide +kernel) ⟨Nat.le_trans (by decide) hRf, Nat.le_trans (by decide) hRl⟩) hK hP rfl rfl rfl hl.1 rfl (Nat.le_of_ble_eq_true rfl) dX8_sees_10 ⟨Nat.zero_le _, Nat.zero_le _⟩ ?_
    refine z_if_eq (tgt := 32) hx hb (b2_rg _) dX8_sees_13 (by decide) (fun c2 => ?_) (fun c2 => ?_)
    · skip
      have c2 := b2_0 c2
      refine z_iconst hx hb dX8_sees_32 ?_
      exact K _ _ _ (by unfold aSees; first | rw [if_neg (by omega)] | rw [if_pos (by omega), b2_t hans] | rw [if_pos (by omega), b2_f hans]) dX8_sees_33
    · skip
      have c2 := b2_n0 c2
      refine lv_aload_n hx hb dX8_sees_16 rfl (lv_at hl 0 rfl) ?_
      refine lv_iload_n hx hb dX8_sees_17 rfl (lv_at hl 3 rfl) ?_
      refine z_cVR (q0 := 0) (ci := 7) (As := [.int (iZ (pp))]) (rest := []) S (m_X8_isPerson l D g a (st) (pp) hI (by omega)) (cwV 1 hts gX8_sees_X8_isPerson rfl rfl rfl (by decide +kernel) ⟨Nat.le_trans (by decide) hRf, Nat.le_trans (by decide) hRl⟩) hK hP rfl rfl rfl hl.1 rfl (Nat.le_of_ble_eq_true rfl) dX8_sees_18 ⟨Nat.zero_le _, Nat.zero_le _⟩ ?_
      refine z_if_eq (tgt := 32) hx hb (b2_rg _) dX8_sees_21 (by decide) (fun c3 => ?_) (fun c3 => ?_)
      · skip
        have c3 := b2_0 c3
        refine z_iconst hx hb dX8_sees_32 ?_
        exact K _ _ _ (by unfold aSees; first | rw [if_neg (by omega)] | rw [if_pos (by omega), b2_t hans] | rw [if_pos (by omega), b2_f hans]) dX8_sees_33
      · skip
        have c3 := b2_n0 c3
        refine lv_iload hx hb dX8_sees_24 (lv_at hl 4 rfl) ?_
        refine z_cSS (As := [.int (iZ (tt))]) (rest := []) S (m_X8_isTick l (tt) (by omega)) (va_cwS 1 hts gX8_sees_X8_isTick rfl rfl rfl (by decide +kernel) ⟨Nat.le_trans (by decide) hRf, Nat.le_trans (by decide) hRl⟩) rfl hl.1 rfl (Nat.le_of_ble_eq_true rfl) dX8_sees_26 ⟨Nat.zero_le _, Nat.zero_le _⟩ ?_
        refine z_if_ne (tgt := 34) hx hb (b2_rg _) dX8_sees_29 (by decide) (fun c4 => ?_) (fun c4 => ?_)
        · skip
          have c4 := b2_n0 c4
          refine lv_aload_n hx hb dX8_sees_34 rfl (lv_at hl 0 rfl) ?_
          refine lv_iload_n hx hb dX8_sees_35 rfl (lv_at hl 3 rfl) ?_
          refine lv_iload hx hb dX8_sees_36 (lv_at hl 4 rfl) ?_
          refine lv_aload_n hx hb dX8_sees_38 rfl (lv_at hl 0 rfl) ?_
          refine z_get (C := RX8) (T := TX8) (N := 26) (ci := 7) hx hb hts iX8 hown hK hP 0 rfl rfl 9 (by decide) (hts (.fieldLink RX8 28 "ShotBoardModel" "eye" "[I") (by decide +kernel)) (.ref (a 7)) rfl dX8_sees_39 ?_
          refine lv_iload_n hx hb dX8_sees_42 rfl (lv_at hl 1 rfl) ?_
          refine z_iald hx hb hK hP 7 (st 7) rfl (by omega) (by omega) (by omega) dX8_sees_43 ?_
          have f5 := hI.c7 (cm) (by omega) (by omega)
          refine z_cVR (q0 := 0) (ci := 7) (As := [.int (iZ (pp)), .int (iZ (tt)), .int (iZ (st 7 (cm)))]) (rest := []) S (m_X8_isHidden l D g a (st) (pp) (tt) (st 7 (cm)) hI (by omega) (by omega) (by omega)) (cwV 3 hts gX8_sees_X8_isHidden rfl rfl rfl (by decide +kernel) ⟨Nat.le_trans (by decide) hRf, Nat.le_trans (by decide) hRl⟩) hK hP rfl rfl rfl hl.1 rfl (Nat.le_of_ble_eq_true rfl) dX8_sees_44 ⟨Nat.zero_le _, Nat.zero_le _⟩ ?_
          refine z_if_ne (tgt := 66) hx hb (b2_rg _) dX8_sees_47 (by decide) (fun c6 => ?_) (fun c6 => ?_)
          · skip
            have c6 := b2_n0 c6
            have hans : ¬ (cone (st 7 cm) (plM st mm tt) (plM st pp tt) ∧ ¬ HID (plM st) (st 0 0) (st 0 1) (st 5) (st 6) pp tt (st 7 cm)) := fun z => z.2 c6
            refine z_iconst hx hb dX8_sees_66 ?_
            exact K _ _ _ (by unfold aSees; first | rw [if_neg (by omega)] | rw [if_pos (by omega), b2_t hans] | rw [if_pos (by omega), b2_f hans]) dX8_sees_67
          · skip
            have c6 := b2_0 c6
            have hnh := c6
            refine lv_aload_n hx hb dX8_sees_50 rfl (lv_at hl 0 rfl) ?_
            refine lv_iload_n hx hb dX8_sees_51 rfl (lv_at hl 1 rfl) ?_
            refine lv_iload_n hx hb dX8_sees_52 rfl (lv_at hl 2 rfl) ?_
            refine lv_iload_n hx hb dX8_sees_53 rfl (lv_at hl 3 rfl) ?_
            refine lv_iload hx hb dX8_sees_54 (lv_at hl 4 rfl) ?_
            refine z_cVR (q0 := 0) (ci := 7) (As := [.int (iZ (cm)), .int (iZ (mm)), .int (iZ (pp)), .int (iZ (tt))]) (rest := []) S (m_X8_isBefore l D g a (st) (cm) (mm) (pp) (tt) hI (by omega) (by omega) (by omega) (by omega)) (cwV 4 hts gX8_sees_X8_isBefore rfl rfl rfl (by decide +kernel) ⟨Nat.le_trans (by decide) hRf, Nat.le_trans (by decide) hRl⟩) hK hP rfl rfl rfl hl.1 rfl (Nat.le_of_ble_eq_true rfl) dX8_sees_56 ⟨Nat.zero_le _, Nat.zero_le _⟩ ?_
            refine z_if_eq (tgt := 66) hx hb (b2_rg _) dX8_sees_59 (by decide) (fun c7 => ?_) (fun c7 => ?_)
            · skip
              have c7 := b2_0 c7
              have hans : ¬ (cone (st 7 cm) (plM st mm tt) (plM st pp tt) ∧ ¬ HID (plM st) (st 0 0) (st 0 1) (st 5) (st 6) pp tt (st 7 cm)) := fun z => c7 z.1
              refine z_iconst hx hb dX8_sees_66 ?_
              exact K _ _ _ (by unfold aSees; first | rw [if_neg (by omega)] | rw [if_pos (by omega), b2_t hans] | rw [if_pos (by omega), b2_f hans]) dX8_sees_67
            · skip
              have c7 := b2_n0 c7
              have hans : cone (st 7 cm) (plM st mm tt) (plM st pp tt) ∧ ¬ HID (plM st) (st 0 0) (st 0 1) (st 5) (st 6) pp tt (st 7 cm) := ⟨c7, hnh⟩
              refine z_iconst hx hb dX8_sees_62 ?_
              refine lv_goto (tgt := 67) hx hb dX8_sees_63 (by decide) ?_
              exact K _ _ _ (by unfold aSees; first | rw [if_neg (by omega)] | rw [if_pos (by omega), b2_t hans] | rw [if_pos (by omega), b2_f hans]) dX8_sees_67
        · skip
          have c4 := b2_0 c4
          refine z_iconst hx hb dX8_sees_32 ?_
          exact K _ _ _ (by unfold aSees; first | rw [if_neg (by omega)] | rw [if_pos (by omega), b2_t hans] | rw [if_pos (by omega), b2_f hans]) dX8_sees_33
abbrev rX8_size : Room := { frames := 2, cells := 0, slots := 0, locals := 51 }
set_option maxHeartbeats 4000000 in
set_option maxRecDepth 100000 in
theorem m_X8_size (l : Launch) (D : va_G) (g : Nat → ClassId) (a : Nat → Nat) (st : SS) (cm : Int) (pp : Int) (tt : Int) (hI : IM st) (h1 : rg cm) (h2 : rg pp) (h3 : rg tt) : Met l yX8_size wsX8_size rX8_size (PcR D g (WM g a st) [.ref (a 0), .int (iZ (cm)), .int (iZ (pp)), .int (iZ (tt))]) (QcRead (iZ (aSize (plM st) (st 0 0) (st 0 2) (st 7) cm pp tt))) 0 0 (fun _ => False) := by
  refine metR (cc := cX8_size) (maxL := 4) (ret := (some .int)) (own := RX8) (by decide) rfl rfl (Nat.le_of_ble_eq_true rfl) (Or.inl rfl) ?_
  intro p e R s m args below meth c Q ls S hRf hRl hK hP hl K
  have hx := S.1
  have hb := S.2.1
  have hown := S.2.2.2.1
  have hts := S.2.2.2.2
  have hRf : 2 ≤ R.frames := hRf
  have hRl : 51 ≤ R.locals := hRl
  have hl : lv_has ls 4 [(0, .ref (a 0)), (1, .int (iZ (cm))), (2, .int (iZ (pp))), (3, .int (iZ (tt)))] := hl
  have hB := hI.s
  refine lv_aload_n hx hb dX8_size_0 rfl (lv_at hl 0 rfl) ?_
  refine lv_iload_n hx hb dX8_size_1 rfl (lv_at hl 1 rfl) ?_
  refine z_cVR (q0 := 0) (ci := 7) (As := [.int (iZ (cm))]) (rest := []) S (m_X8_isCamera l D g a (st) (cm) hI (by omega)) (cwV 1 hts gX8_size_X8_isCamera rfl rfl rfl (by decide +kernel) ⟨Nat.le_trans (by decide) hRf, Nat.le_trans (by decide) hRl⟩) hK hP rfl rfl rfl hl.1 rfl (Nat.le_of_ble_eq_true rfl) dX8_size_2 ⟨Nat.zero_le _, Nat.zero_le _⟩ ?_
  refine z_if_eq (tgt := 33) hx hb (b2_rg _) dX8_size_5 (by decide) (fun c1 => ?_) (fun c1 => ?_)
  · skip
    have c1 := b2_0 c1
    refine z_iconst hx hb dX8_size_33 ?_
    exact K _ _ _ (by unfold aSize; first | rw [if_pos (by omega)] | rw [if_neg (by omega)]) dX8_size_34
  · skip
    have c1 := b2_n0 c1
    refine lv_aload_n hx hb dX8_size_8 rfl (lv_at hl 0 rfl) ?_
    refine lv_iload_n hx hb dX8_size_9 rfl (lv_at hl 2 rfl) ?_
    refine z_cVR (q0 := 0) (ci := 7) (As := [.int (iZ (pp))]) (rest := []) S (m_X8_isPerson l D g a (st) (pp) hI (by omega)) (cwV 1 hts gX8_size_X8_isPerson rfl rfl rfl (by decide +kernel) ⟨Nat.le_trans (by decide) hRf, Nat.le_trans (by decide) hRl⟩) hK hP rfl rfl rfl hl.1 rfl (Nat.le_of_ble_eq_true rfl) dX8_size_10 ⟨Nat.zero_le _, Nat.zero_le _⟩ ?_
    refine z_if_eq (tgt := 33) hx hb (b2_rg _) dX8_size_13 (by decide) (fun c2 => ?_) (fun c2 => ?_)
    · skip
      have c2 := b2_0 c2
      refine z_iconst hx hb dX8_size_33 ?_
      exact K _ _ _ (by unfold aSize; first | rw [if_pos (by omega)] | rw [if_neg (by omega)]) dX8_size_34
    · skip
      have c2 := b2_n0 c2
      refine lv_iload_n hx hb dX8_size_16 rfl (lv_at hl 3 rfl) ?_
      refine z_cSS (As := [.int (iZ (tt))]) (rest := []) S (m_X8_isTick l (tt) (by omega)) (va_cwS 1 hts gX8_size_X8_isTick rfl rfl rfl (by decide +kernel) ⟨Nat.le_trans (by decide) hRf, Nat.le_trans (by decide) hRl⟩) rfl hl.1 rfl (Nat.le_of_ble_eq_true rfl) dX8_size_17 ⟨Nat.zero_le _, Nat.zero_le _⟩ ?_
      refine z_if_eq (tgt := 33) hx hb (b2_rg _) dX8_size_20 (by decide) (fun c3 => ?_) (fun c3 => ?_)
      · skip
        have c3 := b2_0 c3
        refine z_iconst hx hb dX8_size_33 ?_
        exact K _ _ _ (by unfold aSize; first | rw [if_pos (by omega)] | rw [if_neg (by omega)]) dX8_size_34
      · skip
        have c3 := b2_n0 c3
        refine lv_aload_n hx hb dX8_size_23 rfl (lv_at hl 0 rfl) ?_
        refine lv_iload_n hx hb dX8_size_24 rfl (lv_at hl 1 rfl) ?_
        refine lv_iload_n hx hb dX8_size_25 rfl (lv_at hl 2 rfl) ?_
        refine lv_iload_n hx hb dX8_size_26 rfl (lv_at hl 3 rfl) ?_
        refine z_cVR (q0 := 0) (ci := 7) (As := [.int (iZ (cm)), .int (iZ (pp)), .int (iZ (tt))]) (rest := []) S (m_X8_sizeOf l D g a (st) (cm) (pp) (tt) hI (by omega) (by omega) (by omega)) (cwV 3 hts gX8_size_X8_sizeOf rfl rfl rfl (by decide +kernel) ⟨Nat.le_trans (by decide) hRf, Nat.le_trans (by decide) hRl⟩) hK hP rfl rfl rfl hl.1 rfl (Nat.le_of_ble_eq_true rfl) dX8_size_27 ⟨Nat.zero_le _, Nat.zero_le _⟩ ?_
        have f4 := sizeZ_b (st 7 (cm)) (plM st (pp) (tt))
        refine lv_goto (tgt := 34) hx hb dX8_size_30 (by decide) ?_
        exact K _ _ _ (by unfold aSize; first | rw [if_pos (by omega)] | rw [if_neg (by omega)]) dX8_size_34
abbrev rX8_views : Room := { frames := 5, cells := 0, slots := 0, locals := 116 }
set_option maxHeartbeats 4000000 in
set_option maxRecDepth 100000 in
theorem m_X8_views (l : Launch) (D : va_G) (g : Nat → ClassId) (a : Nat → Nat) (st : SS) (pp : Int) (tt : Int) (hI : IM st) (h1 : rg pp) (h2 : rg tt) : Met l yX8_views wsX8_views rX8_views (PcR D g (WM g a st) [.ref (a 0), .int (iZ (pp)), .int (iZ (tt))]) (QcRead (iZ (aViews (plM st) (st 0 0) (st 0 1) (st 5) (st 6) pp tt))) 0 0 (fun _ => False) := by
  refine metR (cc := cX8_views) (maxL := 6) (ret := (some .int)) (own := RX8) (by decide) rfl rfl (Nat.le_of_ble_eq_true rfl) (Or.inl rfl) ?_
  intro p e R s m args below meth c Q ls S hRf hRl hK hP hl K
  have hx := S.1
  have hb := S.2.1
  have hown := S.2.2.2.1
  have hts := S.2.2.2.2
  have hRf : 5 ≤ R.frames := hRf
  have hRl : 116 ≤ R.locals := hRl
  have hl : lv_has ls 6 [(0, .ref (a 0)), (1, .int (iZ (pp))), (2, .int (iZ (tt)))] := hl
  have hB := hI.s
  refine lv_aload_n hx hb dX8_views_0 rfl (lv_at hl 0 rfl) ?_
  refine lv_iload_n hx hb dX8_views_1 rfl (lv_at hl 1 rfl) ?_
  refine z_cVR (q0 := 0) (ci := 7) (As := [.int (iZ (pp))]) (rest := []) S (m_X8_isPerson l D g a (st) (pp) hI (by omega)) (cwV 1 hts gX8_views_X8_isPerson rfl rfl rfl (by decide +kernel) ⟨Nat.le_trans (by decide) hRf, Nat.le_trans (by decide) hRl⟩) hK hP rfl rfl rfl hl.1 rfl (Nat.le_of_ble_eq_true rfl) dX8_views_2 ⟨Nat.zero_le _, Nat.zero_le _⟩ ?_
  refine z_if_eq (tgt := 15) hx hb (b2_rg _) dX8_views_5 (by decide) (fun c1 => ?_) (fun c1 => ?_)
  · skip
    have c1 := b2_0 c1
    refine z_iconst hx hb dX8_views_15 ?_
    exact K _ _ _ (by unfold aViews; rw [if_neg (by omega)]) dX8_views_16
  · skip
    have c1 := b2_n0 c1
    refine lv_iload_n hx hb dX8_views_8 rfl (lv_at hl 2 rfl) ?_
    refine z_cSS (As := [.int (iZ (tt))]) (rest := []) S (m_X8_isTick l (tt) (by omega)) (va_cwS 1 hts gX8_views_X8_isTick rfl rfl rfl (by decide +kernel) ⟨Nat.le_trans (by decide) hRf, Nat.le_trans (by decide) hRl⟩) rfl hl.1 rfl (Nat.le_of_ble_eq_true rfl) dX8_views_9 ⟨Nat.zero_le _, Nat.zero_le _⟩ ?_
    refine z_if_ne (tgt := 17) hx hb (b2_rg _) dX8_views_12 (by decide) (fun c2 => ?_) (fun c2 => ?_)
    · skip
      have c2 := b2_n0 c2
      refine z_iconst hx hb dX8_views_17 ?_
      refine lv_istore_n (lv' := [(3, .int (iZ (0))), (0, .ref (a 0)), (1, .int (iZ (pp))), (2, .int (iZ (tt)))]) hx hb dX8_views_18 rfl hl (by decide) rfl (fun ls hl => ?_)
      refine z_iconst hx hb dX8_views_19 ?_
      refine lv_istore (lv' := [(4, .int (iZ (0))), (3, .int (iZ (0))), (0, .ref (a 0)), (1, .int (iZ (pp))), (2, .int (iZ (tt)))]) hx hb dX8_views_20 hl (by decide) rfl (fun ls hl => ?_)
      have LP22 : ∀ (n22 : Nat) (op : Int) (xx : Int), (32 - xx) < (n22 : Int) → (0 ≤ xx ∧ xx ≤ 32) → (0 ≤ op ∧ op ≤ 32 * xx) → (VW (fun f => HID (plM st) (st 0 0) (st 0 1) (st 5) (st 6) pp tt f) = op + sL (VWr (fun f => HID (plM st) (st 0 0) (st 0 1) (st 5) (st 6) pp tt f)) (32 - xx).toNat xx) → ∀ (ls : Array Slot), lv_has ls 6 [(4, .int (iZ (xx))), (3, .int (iZ (op))), (0, .ref (a 0)), (1, .int (iZ (pp))), (2, .int (iZ (tt)))] → W p l e R s m args below meth c s.heap [] 0 0 Q (F0 m 22 ls []) := by
        intro n22
        induction n22 with
        | zero =>
          intro op xx hm22 j1 j0 j2  ls hl
          exact absurd hm22 (by omega)
        | succ n22 ih22 =>
          intro op xx hm22 j1 j0 j2  ls hl
          refine lv_iload hx hb dX8_views_22 (lv_at hl 0 rfl) ?_
          refine z_bipush hx hb dX8_views_24 (by decide +kernel) ?_
          refine z_icmp_ge (tgt := 76) hx hb (by omega) (by decide) dX8_views_26 (by decide) (fun c3 => ?_) (fun c3 => ?_)
          · skip
            refine lv_iload_n hx hb dX8_views_76 rfl (lv_at hl 1 rfl) ?_
            exact K _ _ _ (by unfold aViews; rw [if_pos (by omega), j2, show (32 - xx).toNat = 0 by omega]; simp [sL]) dX8_views_77
          · skip
            refine z_iconst hx hb dX8_views_29 ?_
            refine lv_istore (lv' := [(5, .int (iZ (0))), (4, .int (iZ (xx))), (3, .int (iZ (op))), (0, .ref (a 0)), (1, .int (iZ (pp))), (2, .int (iZ (tt)))]) hx hb dX8_views_30 hl (by decide) rfl (fun ls hl => ?_)
            have LP32 : ∀ (n32 : Nat) (oq : Int) (yy : Int), (32 - yy) < (n32 : Int) → (0 ≤ yy ∧ yy ≤ 32) → (0 ≤ oq ∧ oq ≤ 32 * xx + yy) → ((oq - op) + cP (fun y => ¬ (fun f => HID (plM st) (st 0 0) (st 0 1) (st 5) (st 6) pp tt f) (100 * xx + y)) (32 - yy).toNat yy = VWr (fun f => HID (plM st) (st 0 0) (st 0 1) (st 5) (st 6) pp tt f) xx) → ∀ (ls : Array Slot), lv_has ls 6 [(5, .int (iZ (yy))), (4, .int (iZ (xx))), (3, .int (iZ (oq))), (0, .ref (a 0)), (1, .int (iZ (pp))), (2, .int (iZ (tt)))] → W p l e R s m args below meth c s.heap [] 0 0 Q (F0 m 32 ls []) := by
              intro n32
              induction n32 with
              | zero =>
                intro oq yy hm32 k1 k0 k2  ls hl
                exact absurd hm32 (by omega)
              | succ n32 ih32 =>
                intro oq yy hm32 k1 k0 k2  ls hl
                refine lv_iload hx hb dX8_views_32 (lv_at hl 0 rfl) ?_
                refine z_bipush hx hb dX8_views_34 (by decide +kernel) ?_
                refine z_icmp_ge (tgt := 70) hx hb (by omega) (by decide) dX8_views_36 (by decide) (fun c4 => ?_) (fun c4 => ?_)
                · skip
                  refine z_iinc (lv' := [(4, .int (iZ ((xx) + 1))), (5, .int (iZ (yy))), (3, .int (iZ (oq))), (0, .ref (a 0)), (1, .int (iZ (pp))), (2, .int (iZ (tt)))]) hx hb dX8_views_70 hl (k := 1) rfl (by decide) rfl (fun ls hl => ?_)
                  refine lv_goto (tgt := 22) hx hb dX8_views_73 (by decide) ?_
                  exact ih22 (oq) ((xx) + 1) (by omega) (by omega) (by omega) (by rw [j2, show (32 - xx).toNat = (32 - (xx + 1)).toNat + 1 by omega, sL_s, ← k2, show (32 - yy).toNat = 0 by omega]; simp [cP]; omega)  ls (lv_sub hl [0, 2, 3, 4, 5] rfl)
                · skip
                  refine lv_iload_n hx hb dX8_views_39 rfl (lv_at hl 2 rfl) ?_
                  refine lv_aload_n hx hb dX8_views_40 rfl (lv_at hl 3 rfl) ?_
                  refine lv_iload_n hx hb dX8_views_41 rfl (lv_at hl 4 rfl) ?_
                  refine lv_iload_n hx hb dX8_views_42 rfl (lv_at hl 5 rfl) ?_
                  refine z_bipush hx hb dX8_views_43 (by decide +kernel) ?_
                  refine lv_iload hx hb dX8_views_45 (lv_at hl 1 rfl) ?_
                  refine z_imul hx hb dX8_views_47 ?_
                  refine lv_iload hx hb dX8_views_48 (lv_at hl 0 rfl) ?_
                  refine z_iadd hx hb dX8_views_50 ?_
                  refine z_cVR (q0 := 0) (ci := 7) (As := [.int (iZ (pp)), .int (iZ (tt)), .int (iZ (((100) * (xx)) + (yy)))]) (rest := [.int (iZ (oq))]) S (m_X8_isHidden l D g a (st) (pp) (tt) (((100) * (xx)) + (yy)) hI (by omega) (by omega) (by omega)) (cwV 3 hts gX8_views_X8_isHidden rfl rfl rfl (by decide +kernel) ⟨Nat.le_trans (by decide) hRf, Nat.le_trans (by decide) hRl⟩) hK hP rfl rfl rfl hl.1 rfl (Nat.le_of_ble_eq_true rfl) dX8_views_51 ⟨Nat.zero_le _, Nat.zero_le _⟩ ?_
                  refine z_if_eq (tgt := 61) hx hb (b2_rg _) dX8_views_54 (by decide) (fun c5 => ?_) (fun c5 => ?_)
                  · skip
                    have c5 := b2_0 c5
                    have hbv : b2 (¬ HID (plM st) (st 0 0) (st 0 1) (st 5) (st 6) pp tt (100 * xx + yy)) = 1 := b2_t c5
                    refine z_iconst hx hb dX8_views_61 ?_
                    refine z_iadd hx hb dX8_views_62 ?_
                    refine lv_istore_n (lv' := [(3, .int (iZ ((oq) + (1)))), (5, .int (iZ (yy))), (4, .int (iZ (xx))), (0, .ref (a 0)), (1, .int (iZ (pp))), (2, .int (iZ (tt)))]) hx hb dX8_views_63 rfl hl (by decide) rfl (fun ls hl => ?_)
                    refine z_iinc (lv' := [(5, .int (iZ ((yy) + 1))), (3, .int (iZ ((oq) + (1)))), (4, .int (iZ (xx))), (0, .ref (a 0)), (1, .int (iZ (pp))), (2, .int (iZ (tt)))]) hx hb dX8_views_64 hl (k := 1) rfl (by decide) rfl (fun ls hl => ?_)
                    refine lv_goto (tgt := 32) hx hb dX8_views_67 (by decide) ?_
                    have hcs : cP (fun y => ¬ (fun f => HID (plM st) (st 0 0) (st 0 1) (st 5) (st 6) pp tt f) (100 * xx + y)) (32 - yy).toNat yy = b2 (¬ HID (plM st) (st 0 0) (st 0 1) (st 5) (st 6) pp tt (100 * xx + yy)) + cP (fun y => ¬ (fun f => HID (plM st) (st 0 0) (st 0 1) (st 5) (st 6) pp tt f) (100 * xx + y)) (32 - (yy + 1)).toNat (yy + 1) := by rw [show (32 - yy).toNat = (32 - (yy + 1)).toNat + 1 by omega, cP_s]
                    rw [hbv] at hcs
                    exact ih32 ((oq) + (1)) ((yy) + 1) (by omega) (by omega) (by omega) (by rw [← k2, hcs]; omega)  ls (lv_sub hl [0, 2, 1, 3, 4, 5] rfl)
                  · skip
                    have c5 := b2_n0 c5
                    have hbv : b2 (¬ HID (plM st) (st 0 0) (st 0 1) (st 5) (st 6) pp tt (100 * xx + yy)) = 0 := b2_f (fun z => z c5)
                    refine z_iconst hx hb dX8_views_57 ?_
                    refine lv_goto (tgt := 62) hx hb dX8_views_58 (by decide) ?_
                    refine z_iadd hx hb dX8_views_62 ?_
                    refine lv_istore_n (lv' := [(3, .int (iZ ((oq) + (0)))), (5, .int (iZ (yy))), (4, .int (iZ (xx))), (0, .ref (a 0)), (1, .int (iZ (pp))), (2, .int (iZ (tt)))]) hx hb dX8_views_63 rfl hl (by decide) rfl (fun ls hl => ?_)
                    refine z_iinc (lv' := [(5, .int (iZ ((yy) + 1))), (3, .int (iZ ((oq) + (0)))), (4, .int (iZ (xx))), (0, .ref (a 0)), (1, .int (iZ (pp))), (2, .int (iZ (tt)))]) hx hb dX8_views_64 hl (k := 1) rfl (by decide) rfl (fun ls hl => ?_)
                    refine lv_goto (tgt := 32) hx hb dX8_views_67 (by decide) ?_
                    have hcs : cP (fun y => ¬ (fun f => HID (plM st) (st 0 0) (st 0 1) (st 5) (st 6) pp tt f) (100 * xx + y)) (32 - yy).toNat yy = b2 (¬ HID (plM st) (st 0 0) (st 0 1) (st 5) (st 6) pp tt (100 * xx + yy)) + cP (fun y => ¬ (fun f => HID (plM st) (st 0 0) (st 0 1) (st 5) (st 6) pp tt f) (100 * xx + y)) (32 - (yy + 1)).toNat (yy + 1) := by rw [show (32 - yy).toNat = (32 - (yy + 1)).toNat + 1 by omega, cP_s]
                    rw [hbv] at hcs
                    exact ih32 ((oq) + (0)) ((yy) + 1) (by omega) (by omega) (by omega) (by rw [← k2, hcs]; omega)  ls (lv_sub hl [0, 2, 1, 3, 4, 5] rfl)
            exact LP32 ((32 - (0)) + 1 : Int).toNat (op) (0) (by omega) (by omega) (by omega) (by simp [VWr])  ls (lv_sub hl [0, 1, 2, 3, 4, 5] rfl)
      exact LP22 ((32 - (0)) + 1 : Int).toNat (0) (0) (by omega) (by omega) (by omega) (by simp [VW])  ls (lv_sub hl [0, 1, 2, 3, 4] rfl)
    · skip
      have c2 := b2_0 c2
      refine z_iconst hx hb dX8_views_15 ?_
      exact K _ _ _ (by unfold aViews; rw [if_neg (by omega)]) dX8_views_16
abbrev rX8_gives : Room := { frames := 7, cells := 0, slots := 0, locals := 166 }
set_option maxHeartbeats 4000000 in
set_option maxRecDepth 100000 in
theorem m_X8_gives (l : Launch) (D : va_G) (g : Nat → ClassId) (a : Nat → Nat) (st : SS) (cm : Int) (bb : Int) (hI : IM st) (h1 : rg cm) (h2 : rg bb) : Met l yX8_gives wsX8_gives rX8_gives (PcR D g (WM g a st) [.ref (a 0), .int (iZ (cm)), .int (iZ (bb))]) (QcRead (iZ (aGives (fun c b => WHYm st b (st 7 c)) (st 0 2) (st 0 3) cm bb))) 0 0 (fun _ => False) := by
  refine metR (cc := cX8_gives) (maxL := 3) (ret := (some .int)) (own := RX8) (by decide) rfl rfl (Nat.le_of_ble_eq_true rfl) (Or.inl rfl) ?_
  intro p e R s m args below meth c Q ls S hRf hRl hK hP hl K
  have hx := S.1
  have hb := S.2.1
  have hown := S.2.2.2.1
  have hts := S.2.2.2.2
  have hRf : 7 ≤ R.frames := hRf
  have hRl : 166 ≤ R.locals := hRl
  have hl : lv_has ls 3 [(0, .ref (a 0)), (1, .int (iZ (cm))), (2, .int (iZ (bb)))] := hl
  have hB := hI.s
  refine lv_aload_n hx hb dX8_gives_0 rfl (lv_at hl 0 rfl) ?_
  refine lv_iload_n hx hb dX8_gives_1 rfl (lv_at hl 1 rfl) ?_
  refine z_cVR (q0 := 0) (ci := 7) (As := [.int (iZ (cm))]) (rest := []) S (m_X8_isCamera l D g a (st) (cm) hI (by omega)) (cwV 1 hts gX8_gives_X8_isCamera rfl rfl rfl (by decide +kernel) ⟨Nat.le_trans (by decide) hRf, Nat.le_trans (by decide) hRl⟩) hK hP rfl rfl rfl hl.1 rfl (Nat.le_of_ble_eq_true rfl) dX8_gives_2 ⟨Nat.zero_le _, Nat.zero_le _⟩ ?_
  refine z_if_eq (tgt := 16) hx hb (b2_rg _) dX8_gives_5 (by decide) (fun c1 => ?_) (fun c1 => ?_)
  · skip
    have c1 := b2_0 c1
    refine z_iconst hx hb dX8_gives_16 ?_
    exact K _ _ _ (by unfold aGives; first | rw [if_neg (by omega)] | rw [if_pos (by omega), b2_t hz] | rw [if_pos (by omega), b2_f hz]) dX8_gives_17
  · skip
    have c1 := b2_n0 c1
    refine lv_aload_n hx hb dX8_gives_8 rfl (lv_at hl 0 rfl) ?_
    refine lv_iload_n hx hb dX8_gives_9 rfl (lv_at hl 2 rfl) ?_
    refine z_cVR (q0 := 0) (ci := 7) (As := [.int (iZ (bb))]) (rest := []) S (m_X8_isBoard l D g a (st) (bb) hI (by omega)) (cwV 1 hts gX8_gives_X8_isBoard rfl rfl rfl (by decide +kernel) ⟨Nat.le_trans (by decide) hRf, Nat.le_trans (by decide) hRl⟩) hK hP rfl rfl rfl hl.1 rfl (Nat.le_of_ble_eq_true rfl) dX8_gives_10 ⟨Nat.zero_le _, Nat.zero_le _⟩ ?_
    refine z_if_ne (tgt := 18) hx hb (b2_rg _) dX8_gives_13 (by decide) (fun c2 => ?_) (fun c2 => ?_)
    · skip
      have c2 := b2_n0 c2
      refine lv_aload_n hx hb dX8_gives_18 rfl (lv_at hl 0 rfl) ?_
      refine lv_iload_n hx hb dX8_gives_19 rfl (lv_at hl 1 rfl) ?_
      refine lv_iload_n hx hb dX8_gives_20 rfl (lv_at hl 2 rfl) ?_
      refine z_cVR (q0 := 0) (ci := 7) (As := [.int (iZ (cm)), .int (iZ (bb))]) (rest := []) S (m_X8_whyNot l D g a (st) (cm) (bb) hI (by omega) (by omega)) (cwV 2 hts gX8_gives_X8_whyNot rfl rfl rfl (by decide +kernel) ⟨Nat.le_trans (by decide) hRf, Nat.le_trans (by decide) hRl⟩) hK hP rfl rfl rfl hl.1 rfl (Nat.le_of_ble_eq_true rfl) dX8_gives_21 ⟨Nat.zero_le _, Nat.zero_le _⟩ ?_
      have f21 : 0 ≤ WHYm st bb (st 7 cm) ∧ WHYm st bb (st 7 cm) < 6000 := WHY_b (F := FLm st bb (st 7 cm)) _ _ (by have h9 := hI.bd bb (by omega) (by omega); omega) (by have h9 := hI.bd bb (by omega) (by omega); have h8 := (hI.bl bb (by omega) (by omega)).2.1; omega) (fun j => FL_b _ _ _ _ _ _ _ _ _ _ _ _ (by have h9 := hI.s; omega))
      refine z_if_ne (tgt := 31) hx hb (by omega) dX8_gives_24 (by decide) (fun c3 => ?_) (fun c3 => ?_)
      · skip
        have hz := c3
        refine z_iconst hx hb dX8_gives_31 ?_
        exact K _ _ _ (by unfold aGives; first | rw [if_neg (by omega)] | rw [if_pos (by omega), b2_t hz] | rw [if_pos (by omega), b2_f hz]) dX8_gives_32
      · skip
        have hz := c3
        refine z_iconst hx hb dX8_gives_27 ?_
        refine lv_goto (tgt := 32) hx hb dX8_gives_28 (by decide) ?_
        exact K _ _ _ (by unfold aGives; first | rw [if_neg (by omega)] | rw [if_pos (by omega), b2_t hz] | rw [if_pos (by omega), b2_f hz]) dX8_gives_32
    · skip
      have c2 := b2_0 c2
      refine z_iconst hx hb dX8_gives_16 ?_
      exact K _ _ _ (by unfold aGives; first | rw [if_neg (by omega)] | rw [if_pos (by omega), b2_t hz] | rw [if_pos (by omega), b2_f hz]) dX8_gives_17
abbrev rX8_why : Room := { frames := 7, cells := 0, slots := 0, locals := 166 }
set_option maxHeartbeats 4000000 in
set_option maxRecDepth 100000 in
theorem m_X8_why (l : Launch) (D : va_G) (g : Nat → ClassId) (a : Nat → Nat) (st : SS) (cm : Int) (bb : Int) (hI : IM st) (h1 : rg cm) (h2 : rg bb) : Met l yX8_why wsX8_why rX8_why (PcR D g (WM g a st) [.ref (a 0), .int (iZ (cm)), .int (iZ (bb))]) (QcRead (iZ (aWhy (fun c b => WHYm st b (st 7 c)) (st 0 2) (st 0 3) cm bb))) 0 0 (fun _ => False) := by
  refine metR (cc := cX8_why) (maxL := 3) (ret := (some .int)) (own := RX8) (by decide) rfl rfl (Nat.le_of_ble_eq_true rfl) (Or.inl rfl) ?_
  intro p e R s m args below meth c Q ls S hRf hRl hK hP hl K
  have hx := S.1
  have hb := S.2.1
  have hown := S.2.2.2.1
  have hts := S.2.2.2.2
  have hRf : 7 ≤ R.frames := hRf
  have hRl : 166 ≤ R.locals := hRl
  have hl : lv_has ls 3 [(0, .ref (a 0)), (1, .int (iZ (cm))), (2, .int (iZ (bb)))] := hl
  have hB := hI.s
  refine lv_aload_n hx hb dX8_why_0 rfl (lv_at hl 0 rfl) ?_
  refine lv_iload_n hx hb dX8_why_1 rfl (lv_at hl 1 rfl) ?_
  refine z_cVR (q0 := 0) (ci := 7) (As := [.int (iZ (cm))]) (rest := []) S (m_X8_isCamera l D g a (st) (cm) hI (by omega)) (cwV 1 hts gX8_why_X8_isCamera rfl rfl rfl (by decide +kernel) ⟨Nat.le_trans (by decide) hRf, Nat.le_trans (by decide) hRl⟩) hK hP rfl rfl rfl hl.1 rfl (Nat.le_of_ble_eq_true rfl) dX8_why_2 ⟨Nat.zero_le _, Nat.zero_le _⟩ ?_
  refine z_if_eq (tgt := 25) hx hb (b2_rg _) dX8_why_5 (by decide) (fun c1 => ?_) (fun c1 => ?_)
  · skip
    have c1 := b2_0 c1
    refine z_iconst hx hb dX8_why_25 ?_
    exact K _ _ _ (by unfold aWhy; first | rw [if_pos (by omega)] | rw [if_neg (by omega)]) dX8_why_26
  · skip
    have c1 := b2_n0 c1
    refine lv_aload_n hx hb dX8_why_8 rfl (lv_at hl 0 rfl) ?_
    refine lv_iload_n hx hb dX8_why_9 rfl (lv_at hl 2 rfl) ?_
    refine z_cVR (q0 := 0) (ci := 7) (As := [.int (iZ (bb))]) (rest := []) S (m_X8_isBoard l D g a (st) (bb) hI (by omega)) (cwV 1 hts gX8_why_X8_isBoard rfl rfl rfl (by decide +kernel) ⟨Nat.le_trans (by decide) hRf, Nat.le_trans (by decide) hRl⟩) hK hP rfl rfl rfl hl.1 rfl (Nat.le_of_ble_eq_true rfl) dX8_why_10 ⟨Nat.zero_le _, Nat.zero_le _⟩ ?_
    refine z_if_eq (tgt := 25) hx hb (b2_rg _) dX8_why_13 (by decide) (fun c2 => ?_) (fun c2 => ?_)
    · skip
      have c2 := b2_0 c2
      refine z_iconst hx hb dX8_why_25 ?_
      exact K _ _ _ (by unfold aWhy; first | rw [if_pos (by omega)] | rw [if_neg (by omega)]) dX8_why_26
    · skip
      have c2 := b2_n0 c2
      refine lv_aload_n hx hb dX8_why_16 rfl (lv_at hl 0 rfl) ?_
      refine lv_iload_n hx hb dX8_why_17 rfl (lv_at hl 1 rfl) ?_
      refine lv_iload_n hx hb dX8_why_18 rfl (lv_at hl 2 rfl) ?_
      refine z_cVR (q0 := 0) (ci := 7) (As := [.int (iZ (cm)), .int (iZ (bb))]) (rest := []) S (m_X8_whyNot l D g a (st) (cm) (bb) hI (by omega) (by omega)) (cwV 2 hts gX8_why_X8_whyNot rfl rfl rfl (by decide +kernel) ⟨Nat.le_trans (by decide) hRf, Nat.le_trans (by decide) hRl⟩) hK hP rfl rfl rfl hl.1 rfl (Nat.le_of_ble_eq_true rfl) dX8_why_19 ⟨Nat.zero_le _, Nat.zero_le _⟩ ?_
      refine lv_goto (tgt := 26) hx hb dX8_why_22 (by decide) ?_
      exact K _ _ _ (by unfold aWhy; first | rw [if_pos (by omega)] | rw [if_neg (by omega)]) dX8_why_26
abbrev rX8_side : Room := { frames := 3, cells := 0, slots := 0, locals := 67 }
set_option maxHeartbeats 4000000 in
set_option maxRecDepth 100000 in
theorem m_X8_side (l : Launch) (D : va_G) (g : Nat → ClassId) (a : Nat → Nat) (st : SS) (cm : Int) (bb : Int) (hI : IM st) (h1 : rg cm) (h2 : rg bb) : Met l yX8_side wsX8_side rX8_side (PcR D g (WM g a st) [.ref (a 0), .int (iZ (cm)), .int (iZ (bb))]) (QcRead (iZ (aSide (fun c b => SDm st c b (st 10 b) (PTm st b)) (st 9) (st 0 2) (st 0 3) cm bb))) 0 0 (fun _ => False) := by
  refine metR (cc := cX8_side) (maxL := 3) (ret := (some .int)) (own := RX8) (by decide) rfl rfl (Nat.le_of_ble_eq_true rfl) (Or.inl rfl) ?_
  intro p e R s m args below meth c Q ls S hRf hRl hK hP hl K
  have hx := S.1
  have hb := S.2.1
  have hown := S.2.2.2.1
  have hts := S.2.2.2.2
  have hRf : 3 ≤ R.frames := hRf
  have hRl : 67 ≤ R.locals := hRl
  have hl : lv_has ls 3 [(0, .ref (a 0)), (1, .int (iZ (cm))), (2, .int (iZ (bb)))] := hl
  have iX8 : ∀ w ∈ wsX80, w ∈ wsX8_side := by decide +kernel
  have hB := hI.s
  refine lv_aload_n hx hb dX8_side_0 rfl (lv_at hl 0 rfl) ?_
  refine lv_iload_n hx hb dX8_side_1 rfl (lv_at hl 1 rfl) ?_
  refine z_cVR (q0 := 0) (ci := 7) (As := [.int (iZ (cm))]) (rest := []) S (m_X8_isCamera l D g a (st) (cm) hI (by omega)) (cwV 1 hts gX8_side_X8_isCamera rfl rfl rfl (by decide +kernel) ⟨Nat.le_trans (by decide) hRf, Nat.le_trans (by decide) hRl⟩) hK hP rfl rfl rfl hl.1 rfl (Nat.le_of_ble_eq_true rfl) dX8_side_2 ⟨Nat.zero_le _, Nat.zero_le _⟩ ?_
  refine z_if_eq (tgt := 26) hx hb (b2_rg _) dX8_side_5 (by decide) (fun c1 => ?_) (fun c1 => ?_)
  · skip
    have c1 := b2_0 c1
    refine z_bipush hx hb dX8_side_26 (by decide +kernel) ?_
    exact K _ _ _ (by unfold aSide; first | rw [if_pos (by omega)] | rw [if_neg (by omega)]) dX8_side_28
  · skip
    have c1 := b2_n0 c1
    refine lv_aload_n hx hb dX8_side_8 rfl (lv_at hl 0 rfl) ?_
    refine lv_iload_n hx hb dX8_side_9 rfl (lv_at hl 2 rfl) ?_
    refine z_cVR (q0 := 0) (ci := 7) (As := [.int (iZ (bb))]) (rest := []) S (m_X8_isBoard l D g a (st) (bb) hI (by omega)) (cwV 1 hts gX8_side_X8_isBoard rfl rfl rfl (by decide +kernel) ⟨Nat.le_trans (by decide) hRf, Nat.le_trans (by decide) hRl⟩) hK hP rfl rfl rfl hl.1 rfl (Nat.le_of_ble_eq_true rfl) dX8_side_10 ⟨Nat.zero_le _, Nat.zero_le _⟩ ?_
    refine z_if_eq (tgt := 26) hx hb (b2_rg _) dX8_side_13 (by decide) (fun c2 => ?_) (fun c2 => ?_)
    · skip
      have c2 := b2_0 c2
      refine z_bipush hx hb dX8_side_26 (by decide +kernel) ?_
      exact K _ _ _ (by unfold aSide; first | rw [if_pos (by omega)] | rw [if_neg (by omega)]) dX8_side_28
    · skip
      have c2 := b2_n0 c2
      refine lv_aload_n hx hb dX8_side_16 rfl (lv_at hl 0 rfl) ?_
      refine z_get (C := RX8) (T := TX8) (N := 26) (ci := 7) hx hb hts iX8 hown hK hP 0 rfl rfl 12 (by decide) (hts (.fieldLink RX8 34 "ShotBoardModel" "kind" "[I") (by decide +kernel)) (.ref (a 9)) rfl dX8_side_17 ?_
      refine lv_iload_n hx hb dX8_side_20 rfl (lv_at hl 2 rfl) ?_
      refine z_iald hx hb hK hP 9 (st 9) rfl (by omega) (by omega) (by omega) dX8_side_21 ?_
      have f3 := hI.bd (bb) (by omega) (by omega)
      refine z_iconst hx hb dX8_side_22 ?_
      refine z_icmp_eq (tgt := 29) hx hb (by omega) (by decide) dX8_side_23 (by decide) (fun c4 => ?_) (fun c4 => ?_)
      · skip
        refine lv_aload_n hx hb dX8_side_29 rfl (lv_at hl 0 rfl) ?_
        refine lv_iload_n hx hb dX8_side_30 rfl (lv_at hl 1 rfl) ?_
        refine lv_iload_n hx hb dX8_side_31 rfl (lv_at hl 2 rfl) ?_
        refine lv_aload_n hx hb dX8_side_32 rfl (lv_at hl 0 rfl) ?_
        refine z_get (C := RX8) (T := TX8) (N := 26) (ci := 7) hx hb hts iX8 hown hK hP 0 rfl rfl 13 (by decide) (hts (.fieldLink RX8 37 "ShotBoardModel" "main" "[I") (by decide +kernel)) (.ref (a 10)) rfl dX8_side_33 ?_
        refine lv_iload_n hx hb dX8_side_36 rfl (lv_at hl 2 rfl) ?_
        refine z_iald hx hb hK hP 10 (st 10) rfl (by omega) (by omega) (by omega) dX8_side_37 ?_
        have f5 := hI.bd (bb) (by omega) (by omega)
        refine lv_aload_n hx hb dX8_side_38 rfl (lv_at hl 0 rfl) ?_
        refine lv_iload_n hx hb dX8_side_39 rfl (lv_at hl 2 rfl) ?_
        refine z_cVR (q0 := 0) (ci := 7) (As := [.int (iZ (bb))]) (rest := [.int (iZ (st 10 (bb))), .int (iZ (bb)), .int (iZ (cm)), .ref (a 0)]) S (m_X8_other l D g a (st) (bb) hI (by omega) (by omega)) (cwV 1 hts gX8_side_X8_other rfl rfl rfl (by decide +kernel) ⟨Nat.le_trans (by decide) hRf, Nat.le_trans (by decide) hRl⟩) hK hP rfl rfl rfl hl.1 rfl (Nat.le_of_ble_eq_true rfl) dX8_side_40 ⟨Nat.zero_le _, Nat.zero_le _⟩ ?_
        have f6 := PTN_b (st 10 (bb)) (st 11 (bb)) (by have h9 := hI.bd (bb) (by omega) (by omega); omega)
        refine z_cVR (q0 := 0) (ci := 7) (As := [.int (iZ (cm)), .int (iZ (bb)), .int (iZ (st 10 (bb))), .int (iZ (PTN (st 10 (bb)) (st 11 (bb))))]) (rest := []) S (m_X8_sideOf l D g a (st) (cm) (bb) (st 10 (bb)) (PTN (st 10 (bb)) (st 11 (bb))) hI (by omega) (by omega) (by omega) (by omega)) (cwV 4 hts gX8_side_X8_sideOf rfl rfl rfl (by decide +kernel) ⟨Nat.le_trans (by decide) hRf, Nat.le_trans (by decide) hRl⟩) hK hP rfl rfl rfl hl.1 rfl (Nat.le_of_ble_eq_true rfl) dX8_side_43 ⟨Nat.zero_le _, Nat.zero_le _⟩ ?_
        have f7 := (show -1 ≤ SDm st (cm) (bb) (st 10 (bb)) (PTN (st 10 (bb)) (st 11 (bb))) ∧ SDm st (cm) (bb) (st 10 (bb)) (PTN (st 10 (bb)) (st 11 (bb))) ≤ 1 from sg_b _)
        exact K _ _ _ (by unfold aSide; first | rw [if_pos (by omega)] | rw [if_neg (by omega)]) dX8_side_46
      · skip
        refine z_bipush hx hb dX8_side_26 (by decide +kernel) ?_
        exact K _ _ _ (by unfold aSide; first | rw [if_pos (by omega)] | rw [if_neg (by omega)]) dX8_side_28
abbrev rX8_length : Room := { frames := 2, cells := 0, slots := 0, locals := 43 }
set_option maxHeartbeats 4000000 in
set_option maxRecDepth 100000 in
theorem m_X8_length (l : Launch) (D : va_G) (g : Nat → ClassId) (a : Nat → Nat) (st : SS) (bb : Int) (hI : IM st) (h1 : rg bb) : Met l yX8_length wsX8_length rX8_length (PcR D g (WM g a st) [.ref (a 0), .int (iZ (bb))]) (QcRead (iZ (aLen (LENm st) (st 0 3) bb))) 0 0 (fun _ => False) := by
  refine metR (cc := cX8_length) (maxL := 2) (ret := (some .int)) (own := RX8) (by decide) rfl rfl (Nat.le_of_ble_eq_true rfl) (Or.inl rfl) ?_
  intro p e R s m args below meth c Q ls S hRf hRl hK hP hl K
  have hx := S.1
  have hb := S.2.1
  have hown := S.2.2.2.1
  have hts := S.2.2.2.2
  have hRf : 2 ≤ R.frames := hRf
  have hRl : 43 ≤ R.locals := hRl
  have hl : lv_has ls 2 [(0, .ref (a 0)), (1, .int (iZ (bb)))] := hl
  have hB := hI.s
  refine lv_aload_n hx hb dX8_length_0 rfl (lv_at hl 0 rfl) ?_
  refine lv_iload_n hx hb dX8_length_1 rfl (lv_at hl 1 rfl) ?_
  refine z_cVR (q0 := 0) (ci := 7) (As := [.int (iZ (bb))]) (rest := []) S (m_X8_isBoard l D g a (st) (bb) hI (by omega)) (cwV 1 hts gX8_length_X8_isBoard rfl rfl rfl (by decide +kernel) ⟨Nat.le_trans (by decide) hRf, Nat.le_trans (by decide) hRl⟩) hK hP rfl rfl rfl hl.1 rfl (Nat.le_of_ble_eq_true rfl) dX8_length_2 ⟨Nat.zero_le _, Nat.zero_le _⟩ ?_
  refine z_if_eq (tgt := 16) hx hb (b2_rg _) dX8_length_5 (by decide) (fun c1 => ?_) (fun c1 => ?_)
  · skip
    have c1 := b2_0 c1
    refine z_iconst hx hb dX8_length_16 ?_
    exact K _ _ _ (by unfold aLen; first | rw [if_pos (by omega)] | rw [if_neg (by omega)]) dX8_length_17
  · skip
    have c1 := b2_n0 c1
    refine lv_aload_n hx hb dX8_length_8 rfl (lv_at hl 0 rfl) ?_
    refine lv_iload_n hx hb dX8_length_9 rfl (lv_at hl 1 rfl) ?_
    refine z_cVR (q0 := 0) (ci := 7) (As := [.int (iZ (bb))]) (rest := []) S (m_X8_lengthOf l D g a (st) (bb) hI (by omega)) (cwV 1 hts gX8_length_X8_lengthOf rfl rfl rfl (by decide +kernel) ⟨Nat.le_trans (by decide) hRf, Nat.le_trans (by decide) hRl⟩) hK hP rfl rfl rfl hl.1 rfl (Nat.le_of_ble_eq_true rfl) dX8_length_10 ⟨Nat.zero_le _, Nat.zero_le _⟩ ?_
    have f2 := LEN_b (fs := st 13 (bb)) (ls := st 14 (bb)) (wd := st 15 (bb)) (rt := st 0 4) (by have h9 := hI.bd (bb) (by omega) (by omega); omega) ((hI.bl (bb) (by omega) (by omega)).2.1) (by have h9 := hI.bd (bb) (by omega) (by omega); omega) (by have h9 := hI.bd (bb) (by omega) (by omega); omega) (by have h9 := hI.s; omega)
    refine lv_goto (tgt := 17) hx hb dX8_length_13 (by decide) ?_
    exact K _ _ _ (by unfold aLen; first | rw [if_pos (by omega)] | rw [if_neg (by omega)]) dX8_length_17
abbrev rX8_run : Room := { frames := 2, cells := 0, slots := 0, locals := 45 }
set_option maxHeartbeats 4000000 in
set_option maxRecDepth 100000 in
theorem m_X8_run (l : Launch) (D : va_G) (g : Nat → ClassId) (a : Nat → Nat) (st : SS) (hI : IM st) : Met l yX8_run wsX8_run rX8_run (PcR D g (WM g a st) [.ref (a 0)]) (QcRead (iZ (sL (LENm st) (st 0 3).toNat 0))) 0 0 (fun _ => False) := by
  refine metR (cc := cX8_run) (maxL := 1) (ret := (some .int)) (own := RX8) (by decide) rfl rfl (Nat.le_of_ble_eq_true rfl) (Or.inl rfl) ?_
  intro p e R s m args below meth c Q ls S hRf hRl hK hP hl K
  have hx := S.1
  have hb := S.2.1
  have hown := S.2.2.2.1
  have hts := S.2.2.2.2
  have hRf : 2 ≤ R.frames := hRf
  have hRl : 45 ≤ R.locals := hRl
  have hl : lv_has ls 1 [(0, .ref (a 0))] := hl
  refine lv_aload_n hx hb dX8_run_0 rfl (lv_at hl 0 rfl) ?_
  refine z_cVR (q0 := 0) (ci := 7) (As := []) (rest := []) S (m_X8_all l D g a (st) hI) (cwV 0 hts gX8_run_X8_all rfl rfl rfl (by decide +kernel) ⟨Nat.le_trans (by decide) hRf, Nat.le_trans (by decide) hRl⟩) hK hP rfl rfl rfl hl.1 rfl (Nat.le_of_ble_eq_true rfl) dX8_run_1 ⟨Nat.zero_le _, Nat.zero_le _⟩ ?_
  exact K _ _ _ (rfl) dX8_run_4
abbrev rX8_frame : Room := { frames := 2, cells := 0, slots := 0, locals := 45 }
set_option maxHeartbeats 4000000 in
set_option maxRecDepth 100000 in
theorem m_X8_frame (l : Launch) (D : va_G) (g : Nat → ClassId) (a : Nat → Nat) (st : SS) (ff : Int) (hI : IM st) (h1 : rg ff) : Met l yX8_frame wsX8_frame rX8_frame (PcR D g (WM g a st) [.ref (a 0), .int (iZ (ff))]) (QcRead (iZ (aFrame (LENm st) (st 0 3) ff))) 0 0 (fun _ => False) := by
  refine metR (cc := cX8_frame) (maxL := 4) (ret := (some .int)) (own := RX8) (by decide) rfl rfl (Nat.le_of_ble_eq_true rfl) (Or.inl rfl) ?_
  intro p e R s m args below meth c Q ls S hRf hRl hK hP hl K
  have hx := S.1
  have hb := S.2.1
  have hown := S.2.2.2.1
  have hts := S.2.2.2.2
  have hRf : 2 ≤ R.frames := hRf
  have hRl : 45 ≤ R.locals := hRl
  have hl : lv_has ls 4 [(0, .ref (a 0)), (1, .int (iZ (ff)))] := hl
  have hB := hI.s
  have hLb : ∀ j, 0 ≤ j → j < st 0 3 → 1 ≤ LENm st j ∧ LENm st j ≤ 220 := fun j a9 b9 => LEN_b (by have h9 := hI.bd j (by omega) (by omega); omega) ((hI.bl j (by omega) (by omega)).2.1) (by have h9 := hI.bd j (by omega) (by omega); omega) (by have h9 := hI.bd j (by omega) (by omega); omega) (by omega)
  have hsb := sL_b (f := LENm st) (st 0 3).toNat 0 (fun j a9 b9 => hLb j a9 (by omega))
  refine lv_iload_n hx hb dX8_frame_0 rfl (lv_at hl 1 rfl) ?_
  refine z_iconst hx hb dX8_frame_1 ?_
  refine lv_aload_n hx hb dX8_frame_2 rfl (lv_at hl 0 rfl) ?_
  refine z_cVR (q0 := 0) (ci := 7) (As := []) (rest := [.int (iZ (0)), .int (iZ (ff))]) S (m_X8_all l D g a (st) hI) (cwV 0 hts gX8_frame_X8_all rfl rfl rfl (by decide +kernel) ⟨Nat.le_trans (by decide) hRf, Nat.le_trans (by decide) hRl⟩) hK hP rfl rfl rfl hl.1 rfl (Nat.le_of_ble_eq_true rfl) dX8_frame_3 ⟨Nat.zero_le _, Nat.zero_le _⟩ ?_
  refine z_iconst hx hb dX8_frame_6 ?_
  refine z_isub hx hb dX8_frame_7 ?_
  refine z_cSS (As := [.int (iZ (ff)), .int (iZ (0)), .int (iZ ((sL (LENm st) (st 0 3).toNat 0) - (1)))]) (rest := []) S (m_X8_in l (ff) (0) ((sL (LENm st) (st 0 3).toNat 0) - (1)) (by omega) (by omega) (by omega)) (va_cwS 3 hts gX8_frame_X8_in rfl rfl rfl (by decide +kernel) ⟨Nat.le_trans (by decide) hRf, Nat.le_trans (by decide) hRl⟩) rfl hl.1 rfl (Nat.le_of_ble_eq_true rfl) dX8_frame_8 ⟨Nat.zero_le _, Nat.zero_le _⟩ ?_
  refine z_if_ne (tgt := 16) hx hb (b2_rg _) dX8_frame_11 (by decide) (fun c1 => ?_) (fun c1 => ?_)
  · skip
    have c1 := b2_n0 c1
    have hin := c1
    refine z_iconst hx hb dX8_frame_16 ?_
    refine lv_istore_n (lv' := [(2, .int (iZ (0))), (0, .ref (a 0)), (1, .int (iZ (ff)))]) hx hb dX8_frame_17 rfl hl (by decide) rfl (fun ls hl => ?_)
    refine lv_iload_n hx hb dX8_frame_18 rfl (lv_at hl 2 rfl) ?_
    refine lv_istore_n (lv' := [(3, .int (iZ (ff))), (2, .int (iZ (0))), (0, .ref (a 0)), (1, .int (iZ (ff)))]) hx hb dX8_frame_19 rfl hl (by decide) rfl (fun ls hl => ?_)
    have LP20 : ∀ (n20 : Nat) (bb : Int) (le : Int), (st 0 3 - bb) < (n20 : Int) → (0 ≤ bb ∧ bb ≤ st 0 3) → (0 ≤ le ∧ le < sL (LENm st) (st 0 3 - bb).toNat bb) → (fR (LENm st) (st 0 3).toNat 0 ff = fR (LENm st) (st 0 3 - bb).toNat bb le) → ∀ (ls : Array Slot), lv_has ls 4 [(3, .int (iZ (le))), (2, .int (iZ (bb))), (0, .ref (a 0)), (1, .int (iZ (ff)))] → W p l e R s m args below meth c s.heap [] 0 0 Q (F0 m 20 ls []) := by
      intro n20
      induction n20 with
      | zero =>
        intro bb le hm20 j1 j0 j2  ls hl
        exact absurd hm20 (by omega)
      | succ n20 ih20 =>
        intro bb le hm20 j1 j0 j2  ls hl
        have hbn : bb < st 0 3 := by
          rcases Int.lt_or_le bb (st 0 3) with q9 | q9
          · exact q9
          · rw [show (st 0 3 - bb).toNat = 0 by omega, sL] at j0; omega
        have hLbb := hLb bb (by omega) hbn
        have hsB := sL_b (f := LENm st) (st 0 3 - bb).toNat bb (fun j a9 b9 => hLb j (by omega) (by omega))
        have hsp : sL (LENm st) (st 0 3 - bb).toNat bb = LENm st bb + sL (LENm st) (st 0 3 - (bb + 1)).toNat (bb + 1) := by rw [show (st 0 3 - bb).toNat = (st 0 3 - (bb + 1)).toNat + 1 by omega, sL_s]
        refine lv_iload_n hx hb dX8_frame_20 rfl (lv_at hl 0 rfl) ?_
        refine lv_aload_n hx hb dX8_frame_21 rfl (lv_at hl 2 rfl) ?_
        refine lv_iload_n hx hb dX8_frame_22 rfl (lv_at hl 1 rfl) ?_
        refine z_cVR (q0 := 0) (ci := 7) (As := [.int (iZ (bb))]) (rest := [.int (iZ (le))]) S (m_X8_lengthOf l D g a (st) (bb) hI (by omega)) (cwV 1 hts gX8_frame_X8_lengthOf rfl rfl rfl (by decide +kernel) ⟨Nat.le_trans (by decide) hRf, Nat.le_trans (by decide) hRl⟩) hK hP rfl rfl rfl hl.1 rfl (Nat.le_of_ble_eq_true rfl) dX8_frame_23 ⟨Nat.zero_le _, Nat.zero_le _⟩ ?_
        refine z_as (y := LENm st bb) (rfl) ?_
        refine z_icmp_lt (tgt := 43) hx hb (by omega) (by omega) dX8_frame_26 (by decide) (fun c2 => ?_) (fun c2 => ?_)
        · skip
          have hfl := c2
          refine lv_iload_n hx hb dX8_frame_43 rfl (lv_at hl 1 rfl) ?_
          exact K _ _ _ (by unfold aFrame; rw [if_pos (by omega), j2, show (st 0 3 - bb).toNat = (st 0 3 - (bb + 1)).toNat + 1 by omega, fR_t (L := LENm st) hfl]) dX8_frame_44
        · skip
          have hfl := c2
          refine lv_iload_n hx hb dX8_frame_29 rfl (lv_at hl 0 rfl) ?_
          refine lv_aload_n hx hb dX8_frame_30 rfl (lv_at hl 2 rfl) ?_
          refine lv_iload_n hx hb dX8_frame_31 rfl (lv_at hl 1 rfl) ?_
          refine z_cVR (q0 := 0) (ci := 7) (As := [.int (iZ (bb))]) (rest := [.int (iZ (le))]) S (m_X8_lengthOf l D g a (st) (bb) hI (by omega)) (cwV 1 hts gX8_frame_X8_lengthOf rfl rfl rfl (by decide +kernel) ⟨Nat.le_trans (by decide) hRf, Nat.le_trans (by decide) hRl⟩) hK hP rfl rfl rfl hl.1 rfl (Nat.le_of_ble_eq_true rfl) dX8_frame_32 ⟨Nat.zero_le _, Nat.zero_le _⟩ ?_
          refine z_as (y := LENm st bb) (rfl) ?_
          refine z_isub hx hb dX8_frame_35 ?_
          refine lv_istore_n (lv' := [(3, .int (iZ ((le) - (LENm st bb)))), (2, .int (iZ (bb))), (0, .ref (a 0)), (1, .int (iZ (ff)))]) hx hb dX8_frame_36 rfl hl (by decide) rfl (fun ls hl => ?_)
          refine z_iinc (lv' := [(2, .int (iZ ((bb) + 1))), (3, .int (iZ ((le) - (LENm st bb)))), (0, .ref (a 0)), (1, .int (iZ (ff)))]) hx hb dX8_frame_37 hl (k := 1) rfl (by decide) rfl (fun ls hl => ?_)
          refine lv_goto (tgt := 20) hx hb dX8_frame_40 (by decide) ?_
          exact ih20 ((bb) + 1) ((le) - (LENm st bb)) (by omega) (by omega) (by omega) (by rw [j2, show (st 0 3 - bb).toNat = (st 0 3 - (bb + 1)).toNat + 1 by omega, fR_f (L := LENm st) (Int.not_lt.mpr hfl)])  ls (lv_sub hl [1, 0, 2, 3] rfl)
    exact LP20 ((st 0 3 - (0)) + 1 : Int).toNat (0) (ff) (by omega) (by omega) (by simp; omega) (by simp)  ls (lv_sub hl [0, 1, 2, 3] rfl)
  · skip
    have c1 := b2_0 c1
    have hin := c1
    refine z_iconst hx hb dX8_frame_14 ?_
    exact K _ _ _ (by
      unfold aFrame
      by_cases q9 : 0 ≤ ff
      · rw [if_pos q9, fR_over _ _ _ (fun j a9 b9 => (hLb j a9 (by omega)).1) (by omega)]
      · rw [if_neg q9]) dX8_frame_15
abbrev rX8_count : Room := { frames := 0, cells := 0, slots := 0, locals := 0 }
set_option maxHeartbeats 4000000 in
set_option maxRecDepth 100000 in
theorem m_X8_count (l : Launch) (D : va_G) (g : Nat → ClassId) (a : Nat → Nat) (st : SS) (xx : Int) (hx0 : rg xx) : Met l yX8_count wsX8_count rX8_count (PcR D g (WM g a st) [.ref (a 0), .int (iZ (xx))]) (QcRead (iZ (aCount (st 0 0) (st 0 1) (st 0 2) (st 0 3) (st 0 5) xx))) 0 0 (fun _ => False) := by
  refine metR (cc := cX8_count) (maxL := 2) (ret := (some .int)) (own := RX8) (by decide) rfl rfl (Nat.le_of_ble_eq_true rfl) (Or.inl rfl) ?_
  intro p e R s m args below meth c Q ls S hRf hRl hK hP hl K
  have hx := S.1
  have hb := S.2.1
  have hown := S.2.2.2.1
  have hts := S.2.2.2.2
  have hRf : 0 ≤ R.frames := hRf
  have hRl : 0 ≤ R.locals := hRl
  have hl : lv_has ls 2 [(0, .ref (a 0)), (1, .int (iZ (xx)))] := hl
  have iX8 : ∀ w ∈ wsX80, w ∈ wsX8_count := by decide +kernel
  refine lv_iload_n hx hb dX8_count_0 rfl (lv_at hl 1 rfl) ?_
  rcases Classical.em (xx = 0) with w1 | w1
  · subst w1
    refine lv_tableIn (off := 35) (tgt := 36) hx hb dX8_count_1 (by decide +kernel) (by decide +kernel) (by decide +kernel) (by decide) ?_
    refine lv_aload_n hx hb dX8_count_36 rfl (lv_at hl 0 rfl) ?_
    refine z_get (C := RX8) (T := TX8) (N := 26) (ci := 7) hx hb hts iX8 hown hK hP 0 rfl rfl 0 (by decide) (hts (.fieldLink RX8 72 "ShotBoardModel" "persons" "I") (by decide +kernel)) (.int (iZ (st 0 (0)))) rfl dX8_count_37 ?_
    exact K _ _ _ (by first | rfl | (unfold aCount; rw [if_neg (by omega), if_neg (by omega), if_neg (by omega), if_neg (by omega), if_neg (by omega)])) dX8_count_40
  · skip
    rcases Classical.em (xx = 1) with w2 | w2
    · subst w2
      refine lv_tableIn (off := 40) (tgt := 41) hx hb dX8_count_1 (by decide +kernel) (by decide +kernel) (by decide +kernel) (by decide) ?_
      refine lv_aload_n hx hb dX8_count_41 rfl (lv_at hl 0 rfl) ?_
      refine z_get (C := RX8) (T := TX8) (N := 26) (ci := 7) hx hb hts iX8 hown hK hP 0 rfl rfl 5 (by decide) (hts (.fieldLink RX8 92 "ShotBoardModel" "walls" "I") (by decide +kernel)) (.int (iZ (st 0 (1)))) rfl dX8_count_42 ?_
      exact K _ _ _ (by first | rfl | (unfold aCount; rw [if_neg (by omega), if_neg (by omega), if_neg (by omega), if_neg (by omega), if_neg (by omega)])) dX8_count_45
    · skip
      rcases Classical.em (xx = 2) with w3 | w3
      · subst w3
        refine lv_tableIn (off := 45) (tgt := 46) hx hb dX8_count_1 (by decide +kernel) (by decide +kernel) (by decide +kernel) (by decide) ?_
        refine lv_aload_n hx hb dX8_count_46 rfl (lv_at hl 0 rfl) ?_
        refine z_get (C := RX8) (T := TX8) (N := 26) (ci := 7) hx hb hts iX8 hown hK hP 0 rfl rfl 8 (by decide) (hts (.fieldLink RX8 79 "ShotBoardModel" "cameras" "I") (by decide +kernel)) (.int (iZ (st 0 (2)))) rfl dX8_count_47 ?_
        exact K _ _ _ (by first | rfl | (unfold aCount; rw [if_neg (by omega), if_neg (by omega), if_neg (by omega), if_neg (by omega), if_neg (by omega)])) dX8_count_50
      · skip
        rcases Classical.em (xx = 3) with w4 | w4
        · subst w4
          refine lv_tableIn (off := 50) (tgt := 51) hx hb dX8_count_1 (by decide +kernel) (by decide +kernel) (by decide +kernel) (by decide) ?_
          refine lv_aload_n hx hb dX8_count_51 rfl (lv_at hl 0 rfl) ?_
          refine z_get (C := RX8) (T := TX8) (N := 26) (ci := 7) hx hb hts iX8 hown hK hP 0 rfl rfl 11 (by decide) (hts (.fieldLink RX8 82 "ShotBoardModel" "boards" "I") (by decide +kernel)) (.int (iZ (st 0 (3)))) rfl dX8_count_52 ?_
          exact K _ _ _ (by first | rfl | (unfold aCount; rw [if_neg (by omega), if_neg (by omega), if_neg (by omega), if_neg (by omega), if_neg (by omega)])) dX8_count_55
        · skip
          rcases Classical.em (xx = 4) with w5 | w5
          · subst w5
            refine lv_tableIn (off := 55) (tgt := 56) hx hb dX8_count_1 (by decide +kernel) (by decide +kernel) (by decide +kernel) (by decide) ?_
            refine lv_aload_n hx hb dX8_count_56 rfl (lv_at hl 0 rfl) ?_
            refine z_get (C := RX8) (T := TX8) (N := 26) (ci := 7) hx hb hts iX8 hown hK hP 0 rfl rfl 20 (by decide) (hts (.fieldLink RX8 179 "ShotBoardModel" "listed" "I") (by decide +kernel)) (.int (iZ (st 0 (5)))) rfl dX8_count_57 ?_
            exact K _ _ _ (by first | rfl | (unfold aCount; rw [if_neg (by omega), if_neg (by omega), if_neg (by omega), if_neg (by omega), if_neg (by omega)])) dX8_count_60
          · skip
            refine lv_tableOut (tgt := 61) hx hb dX8_count_1 (by rw [iZ_t (by omega)]; omega) (by decide) ?_
            refine z_iconst hx hb dX8_count_61 ?_
            exact K _ _ _ (by first | rfl | (unfold aCount; rw [if_neg (by omega), if_neg (by omega), if_neg (by omega), if_neg (by omega), if_neg (by omega)])) dX8_count_62
