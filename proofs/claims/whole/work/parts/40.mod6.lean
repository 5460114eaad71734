abbrev rX8_person : Room := { frames := 1, cells := 0, slots := 0, locals := 20 }
set_option maxHeartbeats 4000000 in
set_option maxRecDepth 100000 in
theorem m_X8_person (l : Launch) (D : va_G) (g : Nat → ClassId) (a : Nat → Nat) (st : SS) (xx : Int) (hI : IM st) (hx0 : rg xx) : Met l yX8_person wsX8_person rX8_person (PcM D g (AWM a) (WM g a st) [.ref (a 0), .int (iZ (xx))]) (QcI D (WM g a) (AWM a) (fun r u => (¬ plc xx ∧ r = -1 ∧ u = st) ∨ (plc xx ∧ 6 ≤ st 0 0 ∧ r = -2 ∧ u = st) ∨ (plc xx ∧ st 0 0 < 6 ∧ r = st 0 0 ∧ u = up (up st 1 (st 0 0) xx) 0 0 (st 0 0 + 1)))) 0 0 (AWM a) := by
  refine metI (cc := cX8_person) (maxL := 2) (ret := (some .int)) (own := RX8) (by decide) rfl rfl (Nat.le_of_ble_eq_true rfl) (Or.inl rfl) ?_
  intro p e R s m args below meth c Q ls S hRf hRl hK hP hD hS hl K
  have hx := S.1
  have hb := S.2.1
  have hown := S.2.2.2.1
  have hts := S.2.2.2.2
  have hRf : 1 ≤ R.frames := hRf
  have hRl : 20 ≤ R.locals := hRl
  have hl : lv_has ls 2 [(0, .ref (a 0)), (1, .int (iZ (xx)))] := hl
  have iX8 : ∀ w ∈ wsX80, w ∈ wsX8_person := by decide +kernel
  have hB := hI.s
  refine lv_iload_n hx hb dX8_person_0 rfl (lv_at hl 1 rfl) ?_
  refine z_cSS (As := [.int (iZ (xx))]) (rest := []) S (m_X8_isPlace l (xx) (by omega)) (va_cwS 1 hts gX8_person_X8_isPlace rfl rfl rfl (by decide +kernel) ⟨Nat.le_trans (by decide) hRf, Nat.le_trans (by decide) hRl⟩) rfl hl.1 rfl (Nat.le_of_ble_eq_true rfl) dX8_person_1 ⟨Nat.zero_le _, Nat.zero_le _⟩ ?_
  refine z_if_ne (tgt := 9) hx hb (b2_rg _) dX8_person_4 (by decide) (fun c1 => ?_) (fun c1 => ?_)
  · skip
    have c1 := b2_n0 c1
    have hp := c1
    refine lv_aload_n hx hb dX8_person_9 rfl (lv_at hl 0 rfl) ?_
    refine z_get (C := RX8) (T := TX8) (N := 26) (ci := 7) hx hb hts iX8 hown hK hP 0 rfl rfl 0 (by decide) (hts (.fieldLink RX8 72 "ShotBoardModel" "persons" "I") (by decide +kernel)) (.int (iZ (st 0 (0)))) rfl dX8_person_10 ?_
    refine z_bipush hx hb dX8_person_13 (by decide +kernel) ?_
    refine z_icmp_ne (tgt := 21) hx hb (by omega) (by decide) dX8_person_15 (by decide) (fun c2 => ?_) (fun c2 => ?_)
    · skip
      refine lv_aload_n hx hb dX8_person_21 rfl (lv_at hl 0 rfl) ?_
      refine z_get (C := RX8) (T := TX8) (N := 26) (ci := 7) hx hb hts iX8 hown hK hP 0 rfl rfl 1 (by decide) (hts (.fieldLink RX8 7 "ShotBoardModel" "at" "[I") (by decide +kernel)) (.ref (a 1)) rfl dX8_person_22 ?_
      refine lv_aload_n hx hb dX8_person_25 rfl (lv_at hl 0 rfl) ?_
      refine z_get (C := RX8) (T := TX8) (N := 26) (ci := 7) hx hb hts iX8 hown hK hP 0 rfl rfl 0 (by decide) (hts (.fieldLink RX8 72 "ShotBoardModel" "persons" "I") (by decide +kernel)) (.int (iZ (st 0 (0)))) rfl dX8_person_26 ?_
      refine lv_iload_n hx hb dX8_person_29 rfl (lv_at hl 1 rfl) ?_
      refine z_iast hx hb hK hP hD hS 1 (st 1) rfl (by omega) (by omega) (by omega) (WM g a (up (st) 1 (st 0 (0)) (xx))) rfl dX8_person_30 (fun H locs hP hD hS => ?_)
      refine lv_aload_n hx hb dX8_person_31 rfl (lv_at hl 0 rfl) ?_
      refine lv_dup hx hb dX8_person_32 rfl ?_
      refine z_get (C := RX8) (T := TX8) (N := 26) (ci := 7) hx hb hts iX8 hown hK hP 0 rfl rfl 0 (by decide) (hts (.fieldLink RX8 72 "ShotBoardModel" "persons" "I") (by decide +kernel)) (.int (iZ (st 0 (0)))) rfl dX8_person_33 ?_
      refine z_iconst hx hb dX8_person_36 ?_
      refine z_iadd hx hb dX8_person_37 ?_
      refine z_put (C := RX8) (T := TX8) (N := 26) (ci := 7) (ty := .int) hx hb hts iX8 tyX8 tyX8_ok nmX8 hown hK hP hD hS 0 rfl rfl 0 (by decide) (hts (.fieldLink RX8 72 "ShotBoardModel" "persons" "I") (by decide +kernel)) rfl (by decide +kernel) rfl rfl (Nat.le_of_ble_eq_true rfl) (WM g a (up (up (st) 1 (st 0 (0)) (xx)) 0 (0) ((st 0 (0)) + (1)))) rfl dX8_person_38 (fun H locs hP hD hS => ?_)
      refine lv_aload_n hx hb dX8_person_41 rfl (lv_at hl 0 rfl) ?_
      refine z_get (C := RX8) (T := TX8) (N := 26) (ci := 7) hx hb hts iX8 hown hK hP 0 rfl rfl 0 (by decide) (hts (.fieldLink RX8 72 "ShotBoardModel" "persons" "I") (by decide +kernel)) (.int (iZ ((st 0 (0)) + (1)))) rfl dX8_person_42 ?_
      refine z_iconst hx hb dX8_person_45 ?_
      refine z_isub hx hb dX8_person_46 ?_
      exact K _ (up (up (st) 1 (st 0 (0)) (xx)) 0 (0) ((st 0 (0)) + (1))) _ _ _ _ hP hS (Or.inr (Or.inr ⟨hp, by omega, by omega, rfl⟩)) dX8_person_47
    · skip
      refine z_bipush hx hb dX8_person_18 (by decide +kernel) ?_
      exact K _ (st) _ _ _ _ hP hS (Or.inr (Or.inl ⟨hp, by omega, rfl, rfl⟩)) dX8_person_20
  · skip
    have c1 := b2_0 c1
    have hp := c1
    refine z_iconst hx hb dX8_person_7 ?_
    exact K _ (st) _ _ _ _ hP hS (Or.inl ⟨hp, rfl, rfl⟩) dX8_person_8
abbrev rX8_wall : Room := { frames := 1, cells := 0, slots := 0, locals := 20 }
set_option maxHeartbeats 4000000 in
set_option maxRecDepth 100000 in
theorem m_X8_wall (l : Launch) (D : va_G) (g : Nat → ClassId) (a : Nat → Nat) (st : SS) (ff : Int) (gg : Int) (hI : IM st) (h1 : rg ff) (h2 : rg gg) : Met l yX8_wall wsX8_wall rX8_wall (PcM D g (AWM a) (WM g a st) [.ref (a 0), .int (iZ (ff)), .int (iZ (gg))]) (QcI D (WM g a) (AWM a) (fun r u => (¬ WALLp ff gg ∧ r = -1 ∧ u = st) ∨ (WALLp ff gg ∧ 12 ≤ st 0 1 ∧ r = -2 ∧ u = st) ∨ (WALLp ff gg ∧ st 0 1 < 12 ∧ r = st 0 1 ∧ u = up (up (up st 5 (st 0 1) ff) 6 (st 0 1) gg) 0 1 (st 0 1 + 1)))) 0 0 (AWM a) := by
  refine metI (cc := cX8_wall) (maxL := 3) (ret := (some .int)) (own := RX8) (by decide) rfl rfl (Nat.le_of_ble_eq_true rfl) (Or.inl rfl) ?_
  intro p e R s m args below meth c Q ls S hRf hRl hK hP hD hS hl K
  have hx := S.1
  have hb := S.2.1
  have hown := S.2.2.2.1
  have hts := S.2.2.2.2
  have hRf : 1 ≤ R.frames := hRf
  have hRl : 20 ≤ R.locals := hRl
  have hl : lv_has ls 3 [(0, .ref (a 0)), (1, .int (iZ (ff))), (2, .int (iZ (gg)))] := hl
  have iX8 : ∀ w ∈ wsX80, w ∈ wsX8_wall := by decide +kernel
  have hB := hI.s
  refine lv_iload_n hx hb dX8_wall_0 rfl (lv_at hl 1 rfl) ?_
  refine z_cSS (As := [.int (iZ (ff))]) (rest := []) S (m_X8_isPlace l (ff) (by omega)) (va_cwS 1 hts gX8_wall_X8_isPlace rfl rfl rfl (by decide +kernel) ⟨Nat.le_trans (by decide) hRf, Nat.le_trans (by decide) hRl⟩) rfl hl.1 rfl (Nat.le_of_ble_eq_true rfl) dX8_wall_1 ⟨Nat.zero_le _, Nat.zero_le _⟩ ?_
  refine z_if_eq (tgt := 19) hx hb (b2_rg _) dX8_wall_4 (by decide) (fun c1 => ?_) (fun c1 => ?_)
  · skip
    have c1 := b2_0 c1
    refine z_iconst hx hb dX8_wall_19 ?_
    exact K _ (st) _ _ _ _ hP hS (Or.inl ⟨fun z => by omega, rfl, rfl⟩) dX8_wall_20
  · skip
    have c1 := b2_n0 c1
    refine lv_iload_n hx hb dX8_wall_7 rfl (lv_at hl 2 rfl) ?_
    refine z_cSS (As := [.int (iZ (gg))]) (rest := []) S (m_X8_isPlace l (gg) (by omega)) (va_cwS 1 hts gX8_wall_X8_isPlace rfl rfl rfl (by decide +kernel) ⟨Nat.le_trans (by decide) hRf, Nat.le_trans (by decide) hRl⟩) rfl hl.1 rfl (Nat.le_of_ble_eq_true rfl) dX8_wall_8 ⟨Nat.zero_le _, Nat.zero_le _⟩ ?_
    refine z_if_eq (tgt := 19) hx hb (b2_rg _) dX8_wall_11 (by decide) (fun c2 => ?_) (fun c2 => ?_)
    · skip
      have c2 := b2_0 c2
      refine z_iconst hx hb dX8_wall_19 ?_
      exact K _ (st) _ _ _ _ hP hS (Or.inl ⟨fun z => by omega, rfl, rfl⟩) dX8_wall_20
    · skip
      have c2 := b2_n0 c2
      refine lv_iload_n hx hb dX8_wall_14 rfl (lv_at hl 1 rfl) ?_
      refine lv_iload_n hx hb dX8_wall_15 rfl (lv_at hl 2 rfl) ?_
      refine z_icmp_ne (tgt := 21) hx hb (by omega) (by omega) dX8_wall_16 (by decide) (fun c3 => ?_) (fun c3 => ?_)
      · skip
        refine lv_aload_n hx hb dX8_wall_21 rfl (lv_at hl 0 rfl) ?_
        refine z_get (C := RX8) (T := TX8) (N := 26) (ci := 7) hx hb hts iX8 hown hK hP 0 rfl rfl 5 (by decide) (hts (.fieldLink RX8 92 "ShotBoardModel" "walls" "I") (by decide +kernel)) (.int (iZ (st 0 (1)))) rfl dX8_wall_22 ?_
        refine z_bipush hx hb dX8_wall_25 (by decide +kernel) ?_
        refine z_icmp_ne (tgt := 33) hx hb (by omega) (by decide) dX8_wall_27 (by decide) (fun c4 => ?_) (fun c4 => ?_)
        · skip
          refine lv_aload_n hx hb dX8_wall_33 rfl (lv_at hl 0 rfl) ?_
          refine z_get (C := RX8) (T := TX8) (N := 26) (ci := 7) hx hb hts iX8 hown hK hP 0 rfl rfl 6 (by decide) (hts (.fieldLink RX8 22 "ShotBoardModel" "wallFrom" "[I") (by decide +kernel)) (.ref (a 5)) rfl dX8_wall_34 ?_
          refine lv_aload_n hx hb dX8_wall_37 rfl (lv_at hl 0 rfl) ?_
          refine z_get (C := RX8) (T := TX8) (N := 26) (ci := 7) hx hb hts iX8 hown hK hP 0 rfl rfl 5 (by decide) (hts (.fieldLink RX8 92 "ShotBoardModel" "walls" "I") (by decide +kernel)) (.int (iZ (st 0 (1)))) rfl dX8_wall_38 ?_
          refine lv_iload_n hx hb dX8_wall_41 rfl (lv_at hl 1 rfl) ?_
          refine z_iast hx hb hK hP hD hS 5 (st 5) rfl (by omega) (by omega) (by omega) (WM g a (up (st) 5 (st 0 (1)) (ff))) rfl dX8_wall_42 (fun H locs hP hD hS => ?_)
          refine lv_aload_n hx hb dX8_wall_43 rfl (lv_at hl 0 rfl) ?_
          refine z_get (C := RX8) (T := TX8) (N := 26) (ci := 7) hx hb hts iX8 hown hK hP 0 rfl rfl 7 (by decide) (hts (.fieldLink RX8 25 "ShotBoardModel" "wallTo" "[I") (by decide +kernel)) (.ref (a 6)) rfl dX8_wall_44 ?_
          refine lv_aload_n hx hb dX8_wall_47 rfl (lv_at hl 0 rfl) ?_
          refine z_get (C := RX8) (T := TX8) (N := 26) (ci := 7) hx hb hts iX8 hown hK hP 0 rfl rfl 5 (by decide) (hts (.fieldLink RX8 92 "ShotBoardModel" "walls" "I") (by decide +kernel)) (.int (iZ (st 0 (1)))) rfl dX8_wall_48 ?_
          refine lv_iload_n hx hb dX8_wall_51 rfl (lv_at hl 2 rfl) ?_
          refine z_iast hx hb hK hP hD hS 6 ((up (st) 5 (st 0 (1)) (ff)) 6) rfl (by omega) (by omega) (by omega) (WM g a (up (up (st) 5 (st 0 (1)) (ff)) 6 (st 0 (1)) (gg))) rfl dX8_wall_52 (fun H locs hP hD hS => ?_)
          refine lv_aload_n hx hb dX8_wall_53 rfl (lv_at hl 0 rfl) ?_
          refine lv_dup hx hb dX8_wall_54 rfl ?_
          refine z_get (C := RX8) (T := TX8) (N := 26) (ci := 7) hx hb hts iX8 hown hK hP 0 rfl rfl 5 (by decide) (hts (.fieldLink RX8 92 "ShotBoardModel" "walls" "I") (by decide +kernel)) (.int (iZ (st 0 (1)))) rfl dX8_wall_55 ?_
          refine z_iconst hx hb dX8_wall_58 ?_
          refine z_iadd hx hb dX8_wall_59 ?_
          refine z_put (C := RX8) (T := TX8) (N := 26) (ci := 7) (ty := .int) hx hb hts iX8 tyX8 tyX8_ok nmX8 hown hK hP hD hS 0 rfl rfl 5 (by decide) (hts (.fieldLink RX8 92 "ShotBoardModel" "walls" "I") (by decide +kernel)) rfl (by decide +kernel) rfl rfl (Nat.le_of_ble_eq_true rfl) (WM g a (up (up (up (st) 5 (st 0 (1)) (ff)) 6 (st 0 (1)) (gg)) 0 (1) ((st 0 (1)) + (1)))) rfl dX8_wall_60 (fun H locs hP hD hS => ?_)
          refine lv_aload_n hx hb dX8_wall_63 rfl (lv_at hl 0 rfl) ?_
          refine z_get (C := RX8) (T := TX8) (N := 26) (ci := 7) hx hb hts iX8 hown hK hP 0 rfl rfl 5 (by decide) (hts (.fieldLink RX8 92 "ShotBoardModel" "walls" "I") (by decide +kernel)) (.int (iZ ((st 0 (1)) + (1)))) rfl dX8_wall_64 ?_
          refine z_iconst hx hb dX8_wall_67 ?_
          refine z_isub hx hb dX8_wall_68 ?_
          exact K _ (up (up (up (st) 5 (st 0 (1)) (ff)) 6 (st 0 (1)) (gg)) 0 (1) ((st 0 (1)) + (1))) _ _ _ _ hP hS (Or.inr (Or.inr ⟨⟨by omega, by omega, by omega⟩, by omega, by omega, rfl⟩)) dX8_wall_69
        · skip
          refine z_bipush hx hb dX8_wall_30 (by decide +kernel) ?_
          exact K _ (st) _ _ _ _ hP hS (Or.inr (Or.inl ⟨⟨by omega, by omega, by omega⟩, by omega, rfl, rfl⟩)) dX8_wall_32
      · skip
        refine z_iconst hx hb dX8_wall_19 ?_
        exact K _ (st) _ _ _ _ hP hS (Or.inl ⟨fun z => by omega, rfl, rfl⟩) dX8_wall_20
abbrev rX8_camera : Room := { frames := 1, cells := 0, slots := 0, locals := 22 }
set_option maxHeartbeats 4000000 in
set_option maxRecDepth 100000 in
theorem m_X8_camera (l : Launch) (D : va_G) (g : Nat → ClassId) (a : Nat → Nat) (st : SS) (ff : Int) (gg : Int) (hI : IM st) (h1 : rg ff) (h2 : rg gg) : Met l yX8_camera wsX8_camera rX8_camera (PcM D g (AWM a) (WM g a st) [.ref (a 0), .int (iZ (ff)), .int (iZ (gg))]) (QcI D (WM g a) (AWM a) (fun r u => (¬ (plc ff ∧ (0 ≤ gg ∧ gg < 4)) ∧ r = -1 ∧ u = st) ∨ ((plc ff ∧ (0 ≤ gg ∧ gg < 4)) ∧ 10 ≤ st 0 2 ∧ r = -2 ∧ u = st) ∨ ((plc ff ∧ (0 ≤ gg ∧ gg < 4)) ∧ st 0 2 < 10 ∧ r = st 0 2 ∧ u = up (up (up st 7 (st 0 2) ff) 8 (st 0 2) gg) 0 2 (st 0 2 + 1)))) 0 0 (AWM a) := by
  refine metI (cc := cX8_camera) (maxL := 3) (ret := (some .int)) (own := RX8) (by decide) rfl rfl (Nat.le_of_ble_eq_true rfl) (Or.inl rfl) ?_
  intro p e R s m args below meth c Q ls S hRf hRl hK hP hD hS hl K
  have hx := S.1
  have hb := S.2.1
  have hown := S.2.2.2.1
  have hts := S.2.2.2.2
  have hRf : 1 ≤ R.frames := hRf
  have hRl : 22 ≤ R.locals := hRl
  have hl : lv_has ls 3 [(0, .ref (a 0)), (1, .int (iZ (ff))), (2, .int (iZ (gg)))] := hl
  have iX8 : ∀ w ∈ wsX80, w ∈ wsX8_camera := by decide +kernel
  have hB := hI.s
  refine lv_iload_n hx hb dX8_camera_0 rfl (lv_at hl 1 rfl) ?_
  refine z_cSS (As := [.int (iZ (ff))]) (rest := []) S (m_X8_isPlace l (ff) (by omega)) (va_cwS 1 hts gX8_camera_X8_isPlace rfl rfl rfl (by decide +kernel) ⟨Nat.le_trans (by decide) hRf, Nat.le_trans (by decide) hRl⟩) rfl hl.1 rfl (Nat.le_of_ble_eq_true rfl) dX8_camera_1 ⟨Nat.zero_le _, Nat.zero_le _⟩ ?_
  refine z_if_eq (tgt := 16) hx hb (b2_rg _) dX8_camera_4 (by decide) (fun c1 => ?_) (fun c1 => ?_)
  · skip
    have c1 := b2_0 c1
    refine z_iconst hx hb dX8_camera_16 ?_
    exact K _ (st) _ _ _ _ hP hS (Or.inl ⟨fun z => by omega, rfl, rfl⟩) dX8_camera_17
  · skip
    have c1 := b2_n0 c1
    refine lv_iload_n hx hb dX8_camera_7 rfl (lv_at hl 2 rfl) ?_
    refine z_iconst hx hb dX8_camera_8 ?_
    refine z_iconst hx hb dX8_camera_9 ?_
    refine z_cSS (As := [.int (iZ (gg)), .int (iZ (0)), .int (iZ (3))]) (rest := []) S (m_X8_in l (gg) (0) (3) (by omega) (by omega) (by omega)) (va_cwS 3 hts gX8_camera_X8_in rfl rfl rfl (by decide +kernel) ⟨Nat.le_trans (by decide) hRf, Nat.le_trans (by decide) hRl⟩) rfl hl.1 rfl (Nat.le_of_ble_eq_true rfl) dX8_camera_10 ⟨Nat.zero_le _, Nat.zero_le _⟩ ?_
    refine z_if_ne (tgt := 18) hx hb (b2_rg _) dX8_camera_13 (by decide) (fun c2 => ?_) (fun c2 => ?_)
    · skip
      have c2 := b2_n0 c2
      refine lv_aload_n hx hb dX8_camera_18 rfl (lv_at hl 0 rfl) ?_
      refine z_get (C := RX8) (T := TX8) (N := 26) (ci := 7) hx hb hts iX8 hown hK hP 0 rfl rfl 8 (by decide) (hts (.fieldLink RX8 79 "ShotBoardModel" "cameras" "I") (by decide +kernel)) (.int (iZ (st 0 (2)))) rfl dX8_camera_19 ?_
      refine z_bipush hx hb dX8_camera_22 (by decide +kernel) ?_
      refine z_icmp_ne (tgt := 30) hx hb (by omega) (by decide) dX8_camera_24 (by decide) (fun c3 => ?_) (fun c3 => ?_)
      · skip
        refine lv_aload_n hx hb dX8_camera_30 rfl (lv_at hl 0 rfl) ?_
        refine z_get (C := RX8) (T := TX8) (N := 26) (ci := 7) hx hb hts iX8 hown hK hP 0 rfl rfl 9 (by decide) (hts (.fieldLink RX8 28 "ShotBoardModel" "eye" "[I") (by decide +kernel)) (.ref (a 7)) rfl dX8_camera_31 ?_
        refine lv_aload_n hx hb dX8_camera_34 rfl (lv_at hl 0 rfl) ?_
        refine z_get (C := RX8) (T := TX8) (N := 26) (ci := 7) hx hb hts iX8 hown hK hP 0 rfl rfl 8 (by decide) (hts (.fieldLink RX8 79 "ShotBoardModel" "cameras" "I") (by decide +kernel)) (.int (iZ (st 0 (2)))) rfl dX8_camera_35 ?_
        refine lv_iload_n hx hb dX8_camera_38 rfl (lv_at hl 1 rfl) ?_
        refine z_iast hx hb hK hP hD hS 7 (st 7) rfl (by omega) (by omega) (by omega) (WM g a (up (st) 7 (st 0 (2)) (ff))) rfl dX8_camera_39 (fun H locs hP hD hS => ?_)
        refine lv_aload_n hx hb dX8_camera_40 rfl (lv_at hl 0 rfl) ?_
        refine z_get (C := RX8) (T := TX8) (N := 26) (ci := 7) hx hb hts iX8 hown hK hP 0 rfl rfl 10 (by decide) (hts (.fieldLink RX8 31 "ShotBoardModel" "light" "[I") (by decide +kernel)) (.ref (a 8)) rfl dX8_camera_41 ?_
        refine lv_aload_n hx hb dX8_camera_44 rfl (lv_at hl 0 rfl) ?_
        refine z_get (C := RX8) (T := TX8) (N := 26) (ci := 7) hx hb hts iX8 hown hK hP 0 rfl rfl 8 (by decide) (hts (.fieldLink RX8 79 "ShotBoardModel" "cameras" "I") (by decide +kernel)) (.int (iZ (st 0 (2)))) rfl dX8_camera_45 ?_
        refine lv_iload_n hx hb dX8_camera_48 rfl (lv_at hl 2 rfl) ?_
        refine z_iast hx hb hK hP hD hS 8 ((up (st) 7 (st 0 (2)) (ff)) 8) rfl (by omega) (by omega) (by omega) (WM g a (up (up (st) 7 (st 0 (2)) (ff)) 8 (st 0 (2)) (gg))) rfl dX8_camera_49 (fun H locs hP hD hS => ?_)
        refine lv_aload_n hx hb dX8_camera_50 rfl (lv_at hl 0 rfl) ?_
        refine lv_dup hx hb dX8_camera_51 rfl ?_
        refine z_get (C := RX8) (T := TX8) (N := 26) (ci := 7) hx hb hts iX8 hown hK hP 0 rfl rfl 8 (by decide) (hts (.fieldLink RX8 79 "ShotBoardModel" "cameras" "I") (by decide +kernel)) (.int (iZ (st 0 (2)))) rfl dX8_camera_52 ?_
        refine z_iconst hx hb dX8_camera_55 ?_
        refine z_iadd hx hb dX8_camera_56 ?_
        refine z_put (C := RX8) (T := TX8) (N := 26) (ci := 7) (ty := .int) hx hb hts iX8 tyX8 tyX8_ok nmX8 hown hK hP hD hS 0 rfl rfl 8 (by decide) (hts (.fieldLink RX8 79 "ShotBoardModel" "cameras" "I") (by decide +kernel)) rfl (by decide +kernel) rfl rfl (Nat.le_of_ble_eq_true rfl) (WM g a (up (up (up (st) 7 (st 0 (2)) (ff)) 8 (st 0 (2)) (gg)) 0 (2) ((st 0 (2)) + (1)))) rfl dX8_camera_57 (fun H locs hP hD hS => ?_)
        refine lv_aload_n hx hb dX8_camera_60 rfl (lv_at hl 0 rfl) ?_
        refine z_get (C := RX8) (T := TX8) (N := 26) (ci := 7) hx hb hts iX8 hown hK hP 0 rfl rfl 8 (by decide) (hts (.fieldLink RX8 79 "ShotBoardModel" "cameras" "I") (by decide +kernel)) (.int (iZ ((st 0 (2)) + (1)))) rfl dX8_camera_61 ?_
        refine z_iconst hx hb dX8_camera_64 ?_
        refine z_isub hx hb dX8_camera_65 ?_
        exact K _ (up (up (up (st) 7 (st 0 (2)) (ff)) 8 (st 0 (2)) (gg)) 0 (2) ((st 0 (2)) + (1))) _ _ _ _ hP hS (Or.inr (Or.inr ⟨⟨by omega, by omega⟩, by omega, by omega, rfl⟩)) dX8_camera_66
      · skip
        refine z_bipush hx hb dX8_camera_27 (by decide +kernel) ?_
        exact K _ (st) _ _ _ _ hP hS (Or.inr (Or.inl ⟨⟨by omega, by omega⟩, by omega, rfl, rfl⟩)) dX8_camera_29
    · skip
      have c2 := b2_0 c2
      refine z_iconst hx hb dX8_camera_16 ?_
      exact K _ (st) _ _ _ _ hP hS (Or.inl ⟨fun z => by omega, rfl, rfl⟩) dX8_camera_17
abbrev rX8_open : Room := { frames := 0, cells := 0, slots := 0, locals := 0 }
set_option maxHeartbeats 4000000 in
set_option maxRecDepth 100000 in
theorem m_X8_open (l : Launch) (D : va_G) (g : Nat → ClassId) (a : Nat → Nat) (st : SS) (hI : IM st) : Met l yX8_open wsX8_open rX8_open (PcM D g (AWM a) (WM g a st) [.ref (a 0)]) (QcI D (WM g a) (AWM a) (fun r u => (st 0 1 = 0 ∧ r = -3 ∧ u = st) ∨ (st 0 1 ≠ 0 ∧ r = st 0 1 - 1 ∧ u = up st 0 1 (st 0 1 - 1)))) 0 0 (AWM a) := by
  refine metI (cc := cX8_open) (maxL := 1) (ret := (some .int)) (own := RX8) (by decide) rfl rfl (Nat.le_of_ble_eq_true rfl) (Or.inl rfl) ?_
  intro p e R s m args below meth c Q ls S hRf hRl hK hP hD hS hl K
  have hx := S.1
  have hb := S.2.1
  have hown := S.2.2.2.1
  have hts := S.2.2.2.2
  have hRf : 0 ≤ R.frames := hRf
  have hRl : 0 ≤ R.locals := hRl
  have hl : lv_has ls 1 [(0, .ref (a 0))] := hl
  have iX8 : ∀ w ∈ wsX80, w ∈ wsX8_open := by decide +kernel
  have hB := hI.s
  refine lv_aload_n hx hb dX8_open_0 rfl (lv_at hl 0 rfl) ?_
  refine z_get (C := RX8) (T := TX8) (N := 26) (ci := 7) hx hb hts iX8 hown hK hP 0 rfl rfl 5 (by decide) (hts (.fieldLink RX8 92 "ShotBoardModel" "walls" "I") (by decide +kernel)) (.int (iZ (st 0 (1)))) rfl dX8_open_1 ?_
  refine z_if_ne (tgt := 10) hx hb (by omega) dX8_open_4 (by decide) (fun c1 => ?_) (fun c1 => ?_)
  · skip
    refine lv_aload_n hx hb dX8_open_10 rfl (lv_at hl 0 rfl) ?_
    refine lv_dup hx hb dX8_open_11 rfl ?_
    refine z_get (C := RX8) (T := TX8) (N := 26) (ci := 7) hx hb hts iX8 hown hK hP 0 rfl rfl 5 (by decide) (hts (.fieldLink RX8 92 "ShotBoardModel" "walls" "I") (by decide +kernel)) (.int (iZ (st 0 (1)))) rfl dX8_open_12 ?_
    refine z_iconst hx hb dX8_open_15 ?_
    refine z_isub hx hb dX8_open_16 ?_
    refine z_put (C := RX8) (T := TX8) (N := 26) (ci := 7) (ty := .int) hx hb hts iX8 tyX8 tyX8_ok nmX8 hown hK hP hD hS 0 rfl rfl 5 (by decide) (hts (.fieldLink RX8 92 "ShotBoardModel" "walls" "I") (by decide +kernel)) rfl (by decide +kernel) rfl rfl (Nat.le_of_ble_eq_true rfl) (WM g a (up (st) 0 (1) ((st 0 (1)) - (1)))) rfl dX8_open_17 (fun H locs hP hD hS => ?_)
    refine lv_aload_n hx hb dX8_open_20 rfl (lv_at hl 0 rfl) ?_
    refine z_get (C := RX8) (T := TX8) (N := 26) (ci := 7) hx hb hts iX8 hown hK hP 0 rfl rfl 5 (by decide) (hts (.fieldLink RX8 92 "ShotBoardModel" "walls" "I") (by decide +kernel)) (.int (iZ ((st 0 (1)) - (1)))) rfl dX8_open_21 ?_
    exact K _ (up (st) 0 (1) ((st 0 (1)) - (1))) _ _ _ _ hP hS (Or.inr ⟨by omega, rfl, rfl⟩) dX8_open_24
  · skip
    refine z_bipush hx hb dX8_open_7 (by decide +kernel) ?_
    exact K _ (st) _ _ _ _ hP hS (Or.inl ⟨by omega, rfl, rfl⟩) dX8_open_9
abbrev rX8_drop : Room := { frames := 0, cells := 0, slots := 0, locals := 0 }
set_option maxHeartbeats 4000000 in
set_option maxRecDepth 100000 in
theorem m_X8_drop (l : Launch) (D : va_G) (g : Nat → ClassId) (a : Nat → Nat) (st : SS) (hI : IM st) : Met l yX8_drop wsX8_drop rX8_drop (PcM D g (AWM a) (WM g a st) [.ref (a 0)]) (QcI D (WM g a) (AWM a) (fun r u => (st 0 3 = 0 ∧ r = -3 ∧ u = st) ∨ (st 0 3 ≠ 0 ∧ r = st 0 3 - 1 ∧ u = up st 0 3 (st 0 3 - 1)))) 0 0 (AWM a) := by
  refine metI (cc := cX8_drop) (maxL := 1) (ret := (some .int)) (own := RX8) (by decide) rfl rfl (Nat.le_of_ble_eq_true rfl) (Or.inl rfl) ?_
  intro p e R s m args below meth c Q ls S hRf hRl hK hP hD hS hl K
  have hx := S.1
  have hb := S.2.1
  have hown := S.2.2.2.1
  have hts := S.2.2.2.2
  have hRf : 0 ≤ R.frames := hRf
  have hRl : 0 ≤ R.locals := hRl
  have hl : lv_has ls 1 [(0, .ref (a 0))] := hl
  have iX8 : ∀ w ∈ wsX80, w ∈ wsX8_drop := by decide +kernel
  have hB := hI.s
  refine lv_aload_n hx hb dX8_drop_0 rfl (lv_at hl 0 rfl) ?_
  refine z_get (C := RX8) (T := TX8) (N := 26) (ci := 7) hx hb hts iX8 hown hK hP 0 rfl rfl 11 (by decide) (hts (.fieldLink RX8 82 "ShotBoardModel" "boards" "I") (by decide +kernel)) (.int (iZ (st 0 (3)))) rfl dX8_drop_1 ?_
  refine z_if_ne (tgt := 10) hx hb (by omega) dX8_drop_4 (by decide) (fun c1 => ?_) (fun c1 => ?_)
  · skip
    refine lv_aload_n hx hb dX8_drop_10 rfl (lv_at hl 0 rfl) ?_
    refine lv_dup hx hb dX8_drop_11 rfl ?_
    refine z_get (C := RX8) (T := TX8) (N := 26) (ci := 7) hx hb hts iX8 hown hK hP 0 rfl rfl 11 (by decide) (hts (.fieldLink RX8 82 "ShotBoardModel" "boards" "I") (by decide +kernel)) (.int (iZ (st 0 (3)))) rfl dX8_drop_12 ?_
    refine z_iconst hx hb dX8_drop_15 ?_
    refine z_isub hx hb dX8_drop_16 ?_
    refine z_put (C := RX8) (T := TX8) (N := 26) (ci := 7) (ty := .int) hx hb hts iX8 tyX8 tyX8_ok nmX8 hown hK hP hD hS 0 rfl rfl 11 (by decide) (hts (.fieldLink RX8 82 "ShotBoardModel" "boards" "I") (by decide +kernel)) rfl (by decide +kernel) rfl rfl (Nat.le_of_ble_eq_true rfl) (WM g a (up (st) 0 (3) ((st 0 (3)) - (1)))) rfl dX8_drop_17 (fun H locs hP hD hS => ?_)
    refine lv_aload_n hx hb dX8_drop_20 rfl (lv_at hl 0 rfl) ?_
    refine z_get (C := RX8) (T := TX8) (N := 26) (ci := 7) hx hb hts iX8 hown hK hP 0 rfl rfl 11 (by decide) (hts (.fieldLink RX8 82 "ShotBoardModel" "boards" "I") (by decide +kernel)) (.int (iZ ((st 0 (3)) - (1)))) rfl dX8_drop_21 ?_
    exact K _ (up (st) 0 (3) ((st 0 (3)) - (1))) _ _ _ _ hP hS (Or.inr ⟨by omega, rfl, rfl⟩) dX8_drop_24
  · skip
    refine z_bipush hx hb dX8_drop_7 (by decide +kernel) ?_
    exact K _ (st) _ _ _ _ hP hS (Or.inl ⟨by omega, rfl, rfl⟩) dX8_drop_9
abbrev rX8_rate : Room := { frames := 1, cells := 0, slots := 0, locals := 22 }
set_option maxHeartbeats 4000000 in
set_option maxRecDepth 100000 in
theorem m_X8_rate (l : Launch) (D : va_G) (g : Nat → ClassId) (a : Nat → Nat) (st : SS) (xx : Int) (hI : IM st) (hx0 : rg xx) : Met l yX8_rate wsX8_rate rX8_rate (PcM D g (AWM a) (WM g a st) [.ref (a 0), .int (iZ (xx))]) (QcI D (WM g a) (AWM a) (fun r u => (¬ (1 ≤ xx ∧ xx ≤ 20) ∧ r = -1 ∧ u = st) ∨ ((1 ≤ xx ∧ xx ≤ 20) ∧ r = st 0 4 ∧ u = up st 0 4 xx))) 0 0 (AWM a) := by
  refine metI (cc := cX8_rate) (maxL := 3) (ret := (some .int)) (own := RX8) (by decide) rfl rfl (Nat.le_of_ble_eq_true rfl) (Or.inl rfl) ?_
  intro p e R s m args below meth c Q ls S hRf hRl hK hP hD hS hl K
  have hx := S.1
  have hb := S.2.1
  have hown := S.2.2.2.1
  have hts := S.2.2.2.2
  have hRf : 1 ≤ R.frames := hRf
  have hRl : 22 ≤ R.locals := hRl
  have hl : lv_has ls 3 [(0, .ref (a 0)), (1, .int (iZ (xx)))] := hl
  have iX8 : ∀ w ∈ wsX80, w ∈ wsX8_rate := by decide +kernel
  have hB := hI.s
  refine lv_iload_n hx hb dX8_rate_0 rfl (lv_at hl 1 rfl) ?_
  refine z_iconst hx hb dX8_rate_1 ?_
  refine z_bipush hx hb dX8_rate_2 (by decide +kernel) ?_
  refine z_cSS (As := [.int (iZ (xx)), .int (iZ (1)), .int (iZ (20))]) (rest := []) S (m_X8_in l (xx) (1) (20) (by omega) (by omega) (by omega)) (va_cwS 3 hts gX8_rate_X8_in rfl rfl rfl (by decide +kernel) ⟨Nat.le_trans (by decide) hRf, Nat.le_trans (by decide) hRl⟩) rfl hl.1 rfl (Nat.le_of_ble_eq_true rfl) dX8_rate_4 ⟨Nat.zero_le _, Nat.zero_le _⟩ ?_
  refine z_if_ne (tgt := 12) hx hb (b2_rg _) dX8_rate_7 (by decide) (fun c1 => ?_) (fun c1 => ?_)
  · skip
    have c1 := b2_n0 c1
    refine lv_aload_n hx hb dX8_rate_12 rfl (lv_at hl 0 rfl) ?_
    refine z_get (C := RX8) (T := TX8) (N := 26) (ci := 7) hx hb hts iX8 hown hK hP 0 rfl rfl 19 (by decide) (hts (.fieldLink RX8 55 "ShotBoardModel" "rate" "I") (by decide +kernel)) (.int (iZ (st 0 (4)))) rfl dX8_rate_13 ?_
    refine lv_istore_n (lv' := [(2, .int (iZ (st 0 (4)))), (0, .ref (a 0)), (1, .int (iZ (xx)))]) hx hb dX8_rate_16 rfl hl (by decide) rfl (fun ls hl => ?_)
    refine lv_aload_n hx hb dX8_rate_17 rfl (lv_at hl 1 rfl) ?_
    refine lv_iload_n hx hb dX8_rate_18 rfl (lv_at hl 2 rfl) ?_
    refine z_put (C := RX8) (T := TX8) (N := 26) (ci := 7) (ty := .int) hx hb hts iX8 tyX8 tyX8_ok nmX8 hown hK hP hD hS 0 rfl rfl 19 (by decide) (hts (.fieldLink RX8 55 "ShotBoardModel" "rate" "I") (by decide +kernel)) rfl (by decide +kernel) rfl rfl (Nat.le_of_ble_eq_true rfl) (WM g a (up (st) 0 (4) (xx))) rfl dX8_rate_19 (fun H locs hP hD hS => ?_)
    refine lv_iload_n hx hb dX8_rate_22 rfl (lv_at hl 0 rfl) ?_
    exact K _ (up (st) 0 (4) (xx)) _ _ _ _ hP hS (Or.inr ⟨by omega, rfl, rfl⟩) dX8_rate_23
  · skip
    have c1 := b2_0 c1
    refine z_iconst hx hb dX8_rate_10 ?_
    exact K _ (st) _ _ _ _ hP hS (Or.inl ⟨fun z => by omega, rfl, rfl⟩) dX8_rate_11
abbrev rX8_list : Room := { frames := 2, cells := 0, slots := 0, locals := 43 }
set_option maxHeartbeats 4000000 in
set_option maxRecDepth 100000 in
theorem m_X8_list (l : Launch) (D : va_G) (g : Nat → ClassId) (a : Nat → Nat) (st : SS) (xx : Int) (hI : IM st) (hx0 : rg xx) : Met l yX8_list wsX8_list rX8_list (PcM D g (AWM a) (WM g a st) [.ref (a 0), .int (iZ (xx))]) (QcI D (WM g a) (AWM a) (fun r u => (¬ inP (st 0 2) xx ∧ r = -1 ∧ u = st) ∨ (inP (st 0 2) xx ∧ 8 ≤ st 0 5 ∧ r = -2 ∧ u = st) ∨ (inP (st 0 2) xx ∧ st 0 5 < 8 ∧ r = st 0 5 + 1 ∧ u = up (up st 16 (st 0 5) xx) 0 5 (st 0 5 + 1)))) 0 0 (AWM a) := by
  refine metI (cc := cX8_list) (maxL := 2) (ret := (some .int)) (own := RX8) (by decide) rfl rfl (Nat.le_of_ble_eq_true rfl) (Or.inl rfl) ?_
  intro p e R s m args below meth c Q ls S hRf hRl hK hP hD hS hl K
  have hx := S.1
  have hb := S.2.1
  have hown := S.2.2.2.1
  have hts := S.2.2.2.2
  have hRf : 2 ≤ R.frames := hRf
  have hRl : 43 ≤ R.locals := hRl
  have hl : lv_has ls 2 [(0, .ref (a 0)), (1, .int (iZ (xx)))] := hl
  have iX8 : ∀ w ∈ wsX80, w ∈ wsX8_list := by decide +kernel
  have hB := hI.s
  refine lv_aload_n hx hb dX8_list_0 rfl (lv_at hl 0 rfl) ?_
  refine lv_iload_n hx hb dX8_list_1 rfl (lv_at hl 1 rfl) ?_
  refine z_cVR (q0 := 0) (ci := 7) (As := [.int (iZ (xx))]) (rest := []) S (m_X8_isCamera l D g a (st) (xx) hI (by omega)) (cwV 1 hts gX8_list_X8_isCamera rfl rfl rfl (by decide +kernel) ⟨Nat.le_trans (by decide) hRf, Nat.le_trans (by decide) hRl⟩) hK hP rfl rfl rfl hl.1 rfl (Nat.le_of_ble_eq_true rfl) dX8_list_2 ⟨Nat.zero_le _, Nat.zero_le _⟩ ?_
  refine z_if_ne (tgt := 10) hx hb (b2_rg _) dX8_list_5 (by decide) (fun c1 => ?_) (fun c1 => ?_)
  · skip
    have c1 := b2_n0 c1
    refine lv_aload_n hx hb dX8_list_10 rfl (lv_at hl 0 rfl) ?_
    refine z_get (C := RX8) (T := TX8) (N := 26) (ci := 7) hx hb hts iX8 hown hK hP 0 rfl rfl 20 (by decide) (hts (.fieldLink RX8 179 "ShotBoardModel" "listed" "I") (by decide +kernel)) (.int (iZ (st 0 (5)))) rfl dX8_list_11 ?_
    refine z_bipush hx hb dX8_list_14 (by decide +kernel) ?_
    refine z_icmp_ne (tgt := 22) hx hb (by omega) (by decide) dX8_list_16 (by decide) (fun c2 => ?_) (fun c2 => ?_)
    · skip
      refine lv_aload_n hx hb dX8_list_22 rfl (lv_at hl 0 rfl) ?_
      refine z_get (C := RX8) (T := TX8) (N := 26) (ci := 7) hx hb hts iX8 hown hK hP 0 rfl rfl 21 (by decide) (hts (.fieldLink RX8 59 "ShotBoardModel" "list" "[I") (by decide +kernel)) (.ref (a 16)) rfl dX8_list_23 ?_
      refine lv_aload_n hx hb dX8_list_26 rfl (lv_at hl 0 rfl) ?_
      refine z_get (C := RX8) (T := TX8) (N := 26) (ci := 7) hx hb hts iX8 hown hK hP 0 rfl rfl 20 (by decide) (hts (.fieldLink RX8 179 "ShotBoardModel" "listed" "I") (by decide +kernel)) (.int (iZ (st 0 (5)))) rfl dX8_list_27 ?_
      refine lv_iload_n hx hb dX8_list_30 rfl (lv_at hl 1 rfl) ?_
      refine z_iast hx hb hK hP hD hS 16 (st 16) rfl (by omega) (by omega) (by omega) (WM g a (up (st) 16 (st 0 (5)) (xx))) rfl dX8_list_31 (fun H locs hP hD hS => ?_)
      refine lv_aload_n hx hb dX8_list_32 rfl (lv_at hl 0 rfl) ?_
      refine lv_dup hx hb dX8_list_33 rfl ?_
      refine z_get (C := RX8) (T := TX8) (N := 26) (ci := 7) hx hb hts iX8 hown hK hP 0 rfl rfl 20 (by decide) (hts (.fieldLink RX8 179 "ShotBoardModel" "listed" "I") (by decide +kernel)) (.int (iZ (st 0 (5)))) rfl dX8_list_34 ?_
      refine z_iconst hx hb dX8_list_37 ?_
      refine z_iadd hx hb dX8_list_38 ?_
      refine z_put (C := RX8) (T := TX8) (N := 26) (ci := 7) (ty := .int) hx hb hts iX8 tyX8 tyX8_ok nmX8 hown hK hP hD hS 0 rfl rfl 20 (by decide) (hts (.fieldLink RX8 179 "ShotBoardModel" "listed" "I") (by decide +kernel)) rfl (by decide +kernel) rfl rfl (Nat.le_of_ble_eq_true rfl) (WM g a (up (up (st) 16 (st 0 (5)) (xx)) 0 (5) ((st 0 (5)) + (1)))) rfl dX8_list_39 (fun H locs hP hD hS => ?_)
      refine lv_aload_n hx hb dX8_list_42 rfl (lv_at hl 0 rfl) ?_
      refine z_get (C := RX8) (T := TX8) (N := 26) (ci := 7) hx hb hts iX8 hown hK hP 0 rfl rfl 20 (by decide) (hts (.fieldLink RX8 179 "ShotBoardModel" "listed" "I") (by decide +kernel)) (.int (iZ ((st 0 (5)) + (1)))) rfl dX8_list_43 ?_
      exact K _ (up (up (st) 16 (st 0 (5)) (xx)) 0 (5) ((st 0 (5)) + (1))) _ _ _ _ hP hS (Or.inr (Or.inr ⟨by omega, by omega, rfl, rfl⟩)) dX8_list_46
    · skip
      refine z_bipush hx hb dX8_list_19 (by decide +kernel) ?_
      exact K _ (st) _ _ _ _ hP hS (Or.inr (Or.inl ⟨by omega, by omega, rfl, rfl⟩)) dX8_list_21
  · skip
    have c1 := b2_0 c1
    refine z_iconst hx hb dX8_list_8 ?_
    exact K _ (st) _ _ _ _ hP hS (Or.inl ⟨fun z => by omega, rfl, rfl⟩) dX8_list_9
abbrev rX8_step : Room := { frames := 2, cells := 0, slots := 0, locals := 43 }
set_option maxHeartbeats 4000000 in
set_option maxRecDepth 100000 in
theorem m_X8_step (l : Launch) (D : va_G) (g : Nat → ClassId) (a : Nat → Nat) (st : SS) (pp : Int) (tt : Int) (ff : Int) (hI : IM st) (h1 : rg pp) (h2 : rg tt) (h3 : rg ff) : Met l yX8_step wsX8_step rX8_step (PcM D g (AWM a) (WM g a st) [.ref (a 0), .int (iZ (pp)), .int (iZ (tt)), .int (iZ (ff))]) (QcI D (WM g a) (AWM a) (fun r u => (¬ STEPp (st 0 0) pp tt ff ∧ r = -1 ∧ u = st) ∨ (STEPp (st 0 0) pp tt ff ∧ ∃ k, 12 * pp ≤ k ∧ k < 12 * pp + st 2 pp ∧ st 3 k = tt ∧ r = st 2 pp ∧ u = up st 4 k ff) ∨ (STEPp (st 0 0) pp tt ff ∧ (∀ k, 12 * pp ≤ k → k < 12 * pp + st 2 pp → st 3 k ≠ tt) ∧ 12 ≤ st 2 pp ∧ r = -2 ∧ u = st) ∨ (STEPp (st 0 0) pp tt ff ∧ (∀ k, 12 * pp ≤ k → k < 12 * pp + st 2 pp → st 3 k ≠ tt) ∧ st 2 pp < 12 ∧ r = st 2 pp + 1 ∧ u = up (up (up st 3 (12 * pp + st 2 pp) tt) 4 (12 * pp + st 2 pp) ff) 2 pp (st 2 pp + 1)))) 0 0 (AWM a) := by
  refine metI (cc := cX8_step) (maxL := 5) (ret := (some .int)) (own := RX8) (by decide) rfl rfl (Nat.le_of_ble_eq_true rfl) (Or.inl rfl) ?_
  intro p e R s m args below meth c Q ls S hRf hRl hK hP hD hS hl K
  have hx := S.1
  have hb := S.2.1
  have hown := S.2.2.2.1
  have hts := S.2.2.2.2
  have hRf : 2 ≤ R.frames := hRf
  have hRl : 43 ≤ R.locals := hRl
  have hl : lv_has ls 5 [(0, .ref (a 0)), (1, .int (iZ (pp))), (2, .int (iZ (tt))), (3, .int (iZ (ff)))] := hl
  have iX8 : ∀ w ∈ wsX80, w ∈ wsX8_step := by decide +kernel
  have hB := hI.s
  refine lv_aload_n hx hb dX8_step_0 rfl (lv_at hl 0 rfl) ?_
  refine lv_iload_n hx hb dX8_step_1 rfl (lv_at hl 1 rfl) ?_
  refine z_cVR (q0 := 0) (ci := 7) (As := [.int (iZ (pp))]) (rest := []) S (m_X8_isPerson l D g a (st) (pp) hI (by omega)) (cwV 1 hts gX8_step_X8_isPerson rfl rfl rfl (by decide +kernel) ⟨Nat.le_trans (by decide) hRf, Nat.le_trans (by decide) hRl⟩) hK hP rfl rfl rfl hl.1 rfl (Nat.le_of_ble_eq_true rfl) dX8_step_2 ⟨Nat.zero_le _, Nat.zero_le _⟩ ?_
  refine z_if_eq (tgt := 25) hx hb (b2_rg _) dX8_step_5 (by decide) (fun c1 => ?_) (fun c1 => ?_)
  · skip
    have c1 := b2_0 c1
    refine z_iconst hx hb dX8_step_25 ?_
    exact K _ (st) _ _ _ _ hP hS (Or.inl ⟨fun z => by omega, rfl, rfl⟩) dX8_step_26
  · skip
    have c1 := b2_n0 c1
    refine lv_iload_n hx hb dX8_step_8 rfl (lv_at hl 2 rfl) ?_
    refine z_iconst hx hb dX8_step_9 ?_
    refine z_bipush hx hb dX8_step_10 (by decide +kernel) ?_
    refine z_cSS (As := [.int (iZ (tt)), .int (iZ (1)), .int (iZ (59))]) (rest := []) S (m_X8_in l (tt) (1) (59) (by omega) (by omega) (by omega)) (va_cwS 3 hts gX8_step_X8_in rfl rfl rfl (by decide +kernel) ⟨Nat.le_trans (by decide) hRf, Nat.le_trans (by decide) hRl⟩) rfl hl.1 rfl (Nat.le_of_ble_eq_true rfl) dX8_step_12 ⟨Nat.zero_le _, Nat.zero_le _⟩ ?_
    refine z_if_eq (tgt := 25) hx hb (b2_rg _) dX8_step_15 (by decide) (fun c2 => ?_) (fun c2 => ?_)
    · skip
      have c2 := b2_0 c2
      refine z_iconst hx hb dX8_step_25 ?_
      exact K _ (st) _ _ _ _ hP hS (Or.inl ⟨fun z => by omega, rfl, rfl⟩) dX8_step_26
    · skip
      have c2 := b2_n0 c2
      refine lv_iload_n hx hb dX8_step_18 rfl (lv_at hl 3 rfl) ?_
      refine z_cSS (As := [.int (iZ (ff))]) (rest := []) S (m_X8_isPlace l (ff) (by omega)) (va_cwS 1 hts gX8_step_X8_isPlace rfl rfl rfl (by decide +kernel) ⟨Nat.le_trans (by decide) hRf, Nat.le_trans (by decide) hRl⟩) rfl hl.1 rfl (Nat.le_of_ble_eq_true rfl) dX8_step_19 ⟨Nat.zero_le _, Nat.zero_le _⟩ ?_
      refine z_if_ne (tgt := 27) hx hb (b2_rg _) dX8_step_22 (by decide) (fun c3 => ?_) (fun c3 => ?_)
      · skip
        have c3 := b2_n0 c3
        have hc2 := hI.c2 pp (by omega) (by omega)
        refine z_bipush hx hb dX8_step_27 (by decide +kernel) ?_
        refine lv_iload_n hx hb dX8_step_29 rfl (lv_at hl 1 rfl) ?_
        refine z_imul hx hb dX8_step_30 ?_
        refine lv_istore (lv' := [(4, .int (iZ ((12) * (pp)))), (0, .ref (a 0)), (1, .int (iZ (pp))), (2, .int (iZ (tt))), (3, .int (iZ (ff)))]) hx hb dX8_step_31 hl (by decide) rfl (fun ls hl => ?_)
        have LP33 : ∀ (n33 : Nat) (kk : Int), (12 * pp + st 2 pp - kk) < (n33 : Int) → (12 * pp ≤ kk ∧ kk ≤ 12 * pp + st 2 pp) → (∀ k, 12 * pp ≤ k → k < kk → st 3 k ≠ tt) → ∀ (ls : Array Slot), lv_has ls 5 [(4, .int (iZ (kk))), (0, .ref (a 0)), (1, .int (iZ (pp))), (2, .int (iZ (tt))), (3, .int (iZ (ff)))] → W p l e R s m args below meth c s.heap [] 0 0 Q (F0 m 33 ls []) := by
          intro n33
          induction n33 with
          | zero =>
            intro kk hm33 j1 j2  ls hl
            exact absurd hm33 (by omega)
          | succ n33 ih33 =>
            intro kk hm33 j1 j2  ls hl
            have hc2 := hI.c2 pp (by omega) (by omega)
            refine lv_iload hx hb dX8_step_33 (lv_at hl 0 rfl) ?_
            refine z_bipush hx hb dX8_step_35 (by decide +kernel) ?_
            refine lv_iload_n hx hb dX8_step_37 rfl (lv_at hl 2 rfl) ?_
            refine z_imul hx hb dX8_step_38 ?_
            refine lv_aload_n hx hb dX8_step_39 rfl (lv_at hl 1 rfl) ?_
            refine z_get (C := RX8) (T := TX8) (N := 26) (ci := 7) hx hb hts iX8 hown hK hP 0 rfl rfl 2 (by decide) (hts (.fieldLink RX8 13 "ShotBoardModel" "steps" "[I") (by decide +kernel)) (.ref (a 2)) rfl dX8_step_40 ?_
            refine lv_iload_n hx hb dX8_step_43 rfl (lv_at hl 2 rfl) ?_
            refine z_iald hx hb hK hP 2 (st 2) rfl (by omega) (by omega) (by omega) dX8_step_44 ?_
            have f4 := hI.c2 (pp) (by omega) (by omega)
            refine z_iadd hx hb dX8_step_45 ?_
            refine z_icmp_ge (tgt := 81) hx hb (by omega) (by omega) dX8_step_46 (by decide) (fun c5 => ?_) (fun c5 => ?_)
            · skip
              refine lv_aload_n hx hb dX8_step_81 rfl (lv_at hl 1 rfl) ?_
              refine z_get (C := RX8) (T := TX8) (N := 26) (ci := 7) hx hb hts iX8 hown hK hP 0 rfl rfl 2 (by decide) (hts (.fieldLink RX8 13 "ShotBoardModel" "steps" "[I") (by decide +kernel)) (.ref (a 2)) rfl dX8_step_82 ?_
              refine lv_iload_n hx hb dX8_step_85 rfl (lv_at hl 2 rfl) ?_
              refine z_iald hx hb hK hP 2 (st 2) rfl (by omega) (by omega) (by omega) dX8_step_86 ?_
              have f6 := hI.c2 (pp) (by omega) (by omega)
              refine z_bipush hx hb dX8_step_87 (by decide +kernel) ?_
              refine z_icmp_ne (tgt := 95) hx hb (by omega) (by decide) dX8_step_89 (by decide) (fun c7 => ?_) (fun c7 => ?_)
              · skip
                refine lv_aload_n hx hb dX8_step_95 rfl (lv_at hl 1 rfl) ?_
                refine z_get (C := RX8) (T := TX8) (N := 26) (ci := 7) hx hb hts iX8 hown hK hP 0 rfl rfl 3 (by decide) (hts (.fieldLink RX8 16 "ShotBoardModel" "stepTick" "[I") (by decide +kernel)) (.ref (a 3)) rfl dX8_step_96 ?_
                refine z_bipush hx hb dX8_step_99 (by decide +kernel) ?_
                refine lv_iload_n hx hb dX8_step_101 rfl (lv_at hl 2 rfl) ?_
                refine z_imul hx hb dX8_step_102 ?_
                refine lv_aload_n hx hb dX8_step_103 rfl (lv_at hl 1 rfl) ?_
                refine z_get (C := RX8) (T := TX8) (N := 26) (ci := 7) hx hb hts iX8 hown hK hP 0 rfl rfl 2 (by decide) (hts (.fieldLink RX8 13 "ShotBoardModel" "steps" "[I") (by decide +kernel)) (.ref (a 2)) rfl dX8_step_104 ?_
                refine lv_iload_n hx hb dX8_step_107 rfl (lv_at hl 2 rfl) ?_
                refine z_iald hx hb hK hP 2 (st 2) rfl (by omega) (by omega) (by omega) dX8_step_108 ?_
                have f8 := hI.c2 (pp) (by omega) (by omega)
                refine z_iadd hx hb dX8_step_109 ?_
                refine lv_iload_n hx hb dX8_step_110 rfl (lv_at hl 3 rfl) ?_
                refine z_iast hx hb hK hP hD hS 3 (st 3) rfl (by omega) (by omega) (by omega) (WM g a (up (st) 3 (((12) * (pp)) + (st 2 (pp))) (tt))) rfl dX8_step_111 (fun H locs hP hD hS => ?_)
                refine lv_aload_n hx hb dX8_step_112 rfl (lv_at hl 1 rfl) ?_
                refine z_get (C := RX8) (T := TX8) (N := 26) (ci := 7) hx hb hts iX8 hown hK hP 0 rfl rfl 4 (by decide) (hts (.fieldLink RX8 19 "ShotBoardModel" "stepPlace" "[I") (by decide +kernel)) (.ref (a 4)) rfl dX8_step_113 ?_
                refine z_bipush hx hb dX8_step_116 (by decide +kernel) ?_
                refine lv_iload_n hx hb dX8_step_118 rfl (lv_at hl 2 rfl) ?_
                refine z_imul hx hb dX8_step_119 ?_
                refine lv_aload_n hx hb dX8_step_120 rfl (lv_at hl 1 rfl) ?_
                refine z_get (C := RX8) (T := TX8) (N := 26) (ci := 7) hx hb hts iX8 hown hK hP 0 rfl rfl 2 (by decide) (hts (.fieldLink RX8 13 "ShotBoardModel" "steps" "[I") (by decide +kernel)) (.ref (a 2)) rfl dX8_step_121 ?_
                refine lv_iload_n hx hb dX8_step_124 rfl (lv_at hl 2 rfl) ?_
                refine z_iald hx hb hK hP 2 ((up (st) 3 (((12) * (pp)) + (st 2 (pp))) (tt)) 2) rfl (by omega) (by omega) (by omega) dX8_step_125 ?_
                refine z_as (y := st 2 (pp)) (by simp [up, uf]) ?_
                refine z_iadd hx hb dX8_step_126 ?_
                refine lv_iload_n hx hb dX8_step_127 rfl (lv_at hl 4 rfl) ?_
                refine z_iast hx hb hK hP hD hS 4 ((up (st) 3 (((12) * (pp)) + (st 2 (pp))) (tt)) 4) rfl (by omega) (by omega) (by omega) (WM g a (up (up (st) 3 (((12) * (pp)) + (st 2 (pp))) (tt)) 4 (((12) * (pp)) + (st 2 (pp))) (ff))) rfl dX8_step_128 (fun H locs hP hD hS => ?_)
                refine lv_aload_n hx hb dX8_step_129 rfl (lv_at hl 1 rfl) ?_
                refine z_get (C := RX8) (T := TX8) (N := 26) (ci := 7) hx hb hts iX8 hown hK hP 0 rfl rfl 2 (by decide) (hts (.fieldLink RX8 13 "ShotBoardModel" "steps" "[I") (by decide +kernel)) (.ref (a 2)) rfl dX8_step_130 ?_
                refine lv_iload_n hx hb dX8_step_133 rfl (lv_at hl 2 rfl) ?_
                refine lv_dup2_11 hx hb dX8_step_134 rfl rfl ?_
                refine z_iald hx hb hK hP 2 ((up (up (st) 3 (((12) * (pp)) + (st 2 (pp))) (tt)) 4 (((12) * (pp)) + (st 2 (pp))) (ff)) 2) rfl (by omega) (by omega) (by omega) dX8_step_135 ?_
                refine z_as (y := st 2 (pp)) (by simp [up, uf]) ?_
                refine z_iconst hx hb dX8_step_136 ?_
                refine z_iadd hx hb dX8_step_137 ?_
                refine z_iast hx hb hK hP hD hS 2 ((up (up (st) 3 (((12) * (pp)) + (st 2 (pp))) (tt)) 4 (((12) * (pp)) + (st 2 (pp))) (ff)) 2) rfl (by omega) (by omega) (by omega) (WM g a (up (up (up (st) 3 (((12) * (pp)) + (st 2 (pp))) (tt)) 4 (((12) * (pp)) + (st 2 (pp))) (ff)) 2 (pp) ((st 2 (pp)) + (1)))) rfl dX8_step_138 (fun H locs hP hD hS => ?_)
                refine lv_aload_n hx hb dX8_step_139 rfl (lv_at hl 1 rfl) ?_
                refine z_get (C := RX8) (T := TX8) (N := 26) (ci := 7) hx hb hts iX8 hown hK hP 0 rfl rfl 2 (by decide) (hts (.fieldLink RX8 13 "ShotBoardModel" "steps" "[I") (by decide +kernel)) (.ref (a 2)) rfl dX8_step_140 ?_
                refine lv_iload_n hx hb dX8_step_143 rfl (lv_at hl 2 rfl) ?_
                refine z_iald hx hb hK hP 2 ((up (up (up (st) 3 (((12) * (pp)) + (st 2 (pp))) (tt)) 4 (((12) * (pp)) + (st 2 (pp))) (ff)) 2 (pp) ((st 2 (pp)) + (1))) 2) rfl (by omega) (by omega) (by omega) dX8_step_144 ?_
                refine z_as (y := (st 2 (pp)) + (1)) (by simp [up, uf]) ?_
                exact K _ (up (up (up (st) 3 (((12) * (pp)) + (st 2 (pp))) (tt)) 4 (((12) * (pp)) + (st 2 (pp))) (ff)) 2 (pp) ((st 2 (pp)) + (1))) _ _ _ _ hP hS (Or.inr (Or.inr (Or.inr ⟨⟨by omega, by omega, by omega⟩, fun k a b => j2 k a (by omega), by omega, rfl, rfl⟩))) dX8_step_145
              · skip
                refine z_bipush hx hb dX8_step_92 (by decide +kernel) ?_
                exact K _ (st) _ _ _ _ hP hS (Or.inr (Or.inr (Or.inl ⟨⟨by omega, by omega, by omega⟩, fun k a b => j2 k a (by omega), by omega, rfl, rfl⟩))) dX8_step_94
            · skip
              refine lv_aload_n hx hb dX8_step_49 rfl (lv_at hl 1 rfl) ?_
              refine z_get (C := RX8) (T := TX8) (N := 26) (ci := 7) hx hb hts iX8 hown hK hP 0 rfl rfl 3 (by decide) (hts (.fieldLink RX8 16 "ShotBoardModel" "stepTick" "[I") (by decide +kernel)) (.ref (a 3)) rfl dX8_step_50 ?_
              refine lv_iload hx hb dX8_step_53 (lv_at hl 0 rfl) ?_
              refine z_iald hx hb hK hP 3 (st 3) rfl (by omega) (by omega) (by omega) dX8_step_55 ?_
              have f9 := hI.c3 (kk) (by omega) (by omega)
              refine lv_iload_n hx hb dX8_step_56 rfl (lv_at hl 3 rfl) ?_
              refine z_icmp_ne (tgt := 75) hx hb (by omega) (by omega) dX8_step_57 (by decide) (fun c10 => ?_) (fun c10 => ?_)
              · skip
                have hne := c10
                refine z_iinc (lv' := [(4, .int (iZ ((kk) + 1))), (0, .ref (a 0)), (1, .int (iZ (pp))), (2, .int (iZ (tt))), (3, .int (iZ (ff)))]) hx hb dX8_step_75 hl (k := 0) rfl (by decide) rfl (fun ls hl => ?_)
                refine lv_goto (tgt := 33) hx hb dX8_step_78 (by decide) ?_
                exact ih33 ((kk) + 1) (by omega) (by omega) (fun k a b => by
      by_cases e9 : k = kk
      · subst e9; exact hne
      · exact j2 k a (by omega))  ls (lv_sub hl [0, 1, 2, 3, 4] rfl)
              · skip
                have heq := c10
                refine lv_aload_n hx hb dX8_step_60 rfl (lv_at hl 1 rfl) ?_
                refine z_get (C := RX8) (T := TX8) (N := 26) (ci := 7) hx hb hts iX8 hown hK hP 0 rfl rfl 4 (by decide) (hts (.fieldLink RX8 19 "ShotBoardModel" "stepPlace" "[I") (by decide +kernel)) (.ref (a 4)) rfl dX8_step_61 ?_
                refine lv_iload hx hb dX8_step_64 (lv_at hl 0 rfl) ?_
                refine lv_iload_n hx hb dX8_step_66 rfl (lv_at hl 4 rfl) ?_
                refine z_iast hx hb hK hP hD hS 4 (st 4) rfl (by omega) (by omega) (by omega) (WM g a (up (st) 4 (kk) (ff))) rfl dX8_step_67 (fun H locs hP hD hS => ?_)
                refine lv_aload_n hx hb dX8_step_68 rfl (lv_at hl 1 rfl) ?_
                refine z_get (C := RX8) (T := TX8) (N := 26) (ci := 7) hx hb hts iX8 hown hK hP 0 rfl rfl 2 (by decide) (hts (.fieldLink RX8 13 "ShotBoardModel" "steps" "[I") (by decide +kernel)) (.ref (a 2)) rfl dX8_step_69 ?_
                refine lv_iload_n hx hb dX8_step_72 rfl (lv_at hl 2 rfl) ?_
                refine z_iald hx hb hK hP 2 ((up (st) 4 (kk) (ff)) 2) rfl (by omega) (by omega) (by omega) dX8_step_73 ?_
                refine z_as (y := st 2 (pp)) (by simp [up, uf]) ?_
                exact K _ (up (st) 4 (kk) (ff)) _ _ _ _ hP hS (Or.inr (Or.inl ⟨⟨by omega, by omega, by omega⟩, kk, by omega, by omega, heq, rfl, rfl⟩)) dX8_step_74
        exact LP33 ((12 * pp + st 2 pp - ((12) * (pp))) + 1 : Int).toNat ((12) * (pp)) (by omega) (by have h9 := hI.c2 pp (by omega) (by omega); omega) (fun k a b => by omega)  ls (lv_sub hl [0, 1, 2, 3, 4] rfl)
      · skip
        have c3 := b2_0 c3
        refine z_iconst hx hb dX8_step_25 ?_
        exact K _ (st) _ _ _ _ hP hS (Or.inl ⟨fun z => by omega, rfl, rfl⟩) dX8_step_26
