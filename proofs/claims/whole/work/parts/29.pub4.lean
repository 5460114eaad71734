abbrev rX7_fewest : Room := { frames := 6, cells := 0, slots := 0, locals := 148 }
set_option maxHeartbeats 4000000 in
set_option maxRecDepth 100000 in
theorem m_X7_fewest (l : Launch) (D : va_G) (g : Nat → ClassId) (a : Nat → Nat) (st : SS) (hI : IC st) (hQ : IP st) : Met l yX7_fewest wsX7_fewest rX7_fewest (PcM D g (AWC a) (WC g a st) [.ref (a 0)]) (QcI D (WC g a) (AWC a) (fun r u => REFR st u ∧ r = u 21 0)) 0 0 (AWC a) := by
  refine metI (cc := cX7_fewest) (maxL := 1) (ret := (some .int)) (own := RX7) (by decide) rfl rfl (Nat.le_of_ble_eq_true rfl) (Or.inl rfl) ?_
  intro p e R s m args below meth c Q ls S hRf hRl hK hP hD hS hl K
  have hx := S.1
  have hb := S.2.1
  have hown := S.2.2.2.1
  have hts := S.2.2.2.2
  have hRf : 6 ≤ R.frames := hRf
  have hRl : 148 ≤ R.locals := hRl
  have hl : lv_has ls 1 [(0, .ref (a 0))] := hl
  have iX3 : ∀ w ∈ wsX30, w ∈ wsX7_fewest := by decide +kernel
  have iX7 : ∀ w ∈ wsX70, w ∈ wsX7_fewest := by decide +kernel
  refine lv_aload_n hx hb dX7_fewest_0 rfl (lv_at hl 0 rfl) ?_
  refine z_get (C := RX7) (T := TX7) (N := 7) (ci := 6) hx hb hts iX7 hown hK hP 0 rfl rfl 4 (by decide) (hts (.fieldLink RX7 44 "ShotBoard" "planner" "LShotBoard$Planner;") (by decide +kernel)) (.ref (a 5)) rfl dX7_fewest_1 ?_
  refine z_cVV (q0 := 5) (ci := 2) (As := []) (rest := []) S (m_X3_refresh l D g a (st) hI hQ) (cwV 0 hts gX7_fewest_X3_refresh rfl rfl rfl (by decide +kernel) ⟨Nat.le_trans (by decide) hRf, Nat.le_trans (by decide) hRl⟩) hK hP hD hS (fun _ h => h) rfl rfl rfl hl.1 rfl (Nat.le_of_ble_eq_true rfl) dX7_fewest_4 ⟨Nat.zero_le _, Nat.zero_le _⟩ (fun u1 H locs P2 hP hS _ => ?_)
  have hD : va_D (AWC a) (WC g a u1) := DWC hD
  have hrf : REFR st u1 := P2
  have hQ2 := hrf.ip hQ
  have hI2 := hrf.ic hI
  have hC2 := hQ2.s
  refine lv_aload_n hx hb dX7_fewest_7 rfl (lv_at hl 0 rfl) ?_
  refine z_get (C := RX7) (T := TX7) (N := 7) (ci := 6) hx hb hts iX7 hown hK hP 0 rfl rfl 4 (by decide) (hts (.fieldLink RX7 44 "ShotBoard" "planner" "LShotBoard$Planner;") (by decide +kernel)) (.ref (a 5)) rfl dX7_fewest_8 ?_
  refine z_get (C := RX3) (T := TX3) (N := 11) (ci := 2) hx hb hts iX3 hown hK hP 5 rfl rfl 8 (by decide) (hts (.fieldLink RX7 158 "ShotBoard$Planner" "used" "I") (by decide +kernel)) (.int (iZ (u1 21 (0)))) rfl dX7_fewest_11 ?_
  exact K _ (u1) _ _ _ _ hP hS (⟨hrf, rfl⟩) dX7_fewest_14
abbrev rX7_plan : Room := { frames := 6, cells := 0, slots := 0, locals := 148 }
set_option maxHeartbeats 4000000 in
set_option maxRecDepth 100000 in
theorem m_X7_plan (l : Launch) (D : va_G) (g : Nat → ClassId) (a : Nat → Nat) (st : SS) (xx : Int) (hI : IC st) (hQ : IP st) (hx0 : rg xx) : Met l yX7_plan wsX7_plan rX7_plan (PcM D g (AWC a) (WC g a st) [.ref (a 0), .int (iZ (xx))]) (QcI D (WC g a) (AWC a) (fun r u => (¬ inP (st 19 3) xx ∧ r = -1 ∧ u = st) ∨ (inP (st 19 3) xx ∧ REFR st u ∧ ((u 21 0 < 0 ∧ r = -5) ∨ (0 ≤ u 21 0 ∧ r = u 9 xx))))) 0 0 (AWC a) := by
  refine metI (cc := cX7_plan) (maxL := 2) (ret := (some .int)) (own := RX7) (by decide) rfl rfl (Nat.le_of_ble_eq_true rfl) (Or.inl rfl) ?_
  intro p e R s m args below meth c Q ls S hRf hRl hK hP hD hS hl K
  have hx := S.1
  have hb := S.2.1
  have hown := S.2.2.2.1
  have hts := S.2.2.2.2
  have hRf : 6 ≤ R.frames := hRf
  have hRl : 148 ≤ R.locals := hRl
  have hl : lv_has ls 2 [(0, .ref (a 0)), (1, .int (iZ (xx)))] := hl
  have iX3 : ∀ w ∈ wsX30, w ∈ wsX7_plan := by decide +kernel
  have iX7 : ∀ w ∈ wsX70, w ∈ wsX7_plan := by decide +kernel
  have hB := hI.s
  refine lv_aload_n hx hb dX7_plan_0 rfl (lv_at hl 0 rfl) ?_
  refine lv_iload_n hx hb dX7_plan_1 rfl (lv_at hl 1 rfl) ?_
  refine z_cVR (q0 := 0) (ci := 6) (As := [.int (iZ (xx))]) (rest := []) S (m_X7_isBoard l D g a (st) (xx) hI (by omega)) (cwV 1 hts gX7_plan_X7_isBoard rfl rfl rfl (by decide +kernel) ⟨Nat.le_trans (by decide) hRf, Nat.le_trans (by decide) hRl⟩) hK hP rfl rfl rfl hl.1 rfl (Nat.le_of_ble_eq_true rfl) dX7_plan_2 ⟨Nat.zero_le _, Nat.zero_le _⟩ ?_
  refine z_if_ne (tgt := 10) hx hb (b2_rg _) dX7_plan_5 (by decide) (fun c1 => ?_) (fun c1 => ?_)
  · skip
    have c1 := b2_n0 c1
    have hin := c1
    refine lv_aload_n hx hb dX7_plan_10 rfl (lv_at hl 0 rfl) ?_
    refine z_get (C := RX7) (T := TX7) (N := 7) (ci := 6) hx hb hts iX7 hown hK hP 0 rfl rfl 4 (by decide) (hts (.fieldLink RX7 44 "ShotBoard" "planner" "LShotBoard$Planner;") (by decide +kernel)) (.ref (a 5)) rfl dX7_plan_11 ?_
    refine z_cVV (q0 := 5) (ci := 2) (As := []) (rest := []) S (m_X3_refresh l D g a (st) hI hQ) (cwV 0 hts gX7_plan_X3_refresh rfl rfl rfl (by decide +kernel) ⟨Nat.le_trans (by decide) hRf, Nat.le_trans (by decide) hRl⟩) hK hP hD hS (fun _ h => h) rfl rfl rfl hl.1 rfl (Nat.le_of_ble_eq_true rfl) dX7_plan_14 ⟨Nat.zero_le _, Nat.zero_le _⟩ (fun u2 H locs P3 hP hS _ => ?_)
    have hD : va_D (AWC a) (WC g a u2) := DWC hD
    have hrf : REFR st u2 := P3
    have hQ2 := hrf.ip hQ
    have hI2 := hrf.ic hI
    have hC2 := hQ2.s
    refine lv_aload_n hx hb dX7_plan_17 rfl (lv_at hl 0 rfl) ?_
    refine z_get (C := RX7) (T := TX7) (N := 7) (ci := 6) hx hb hts iX7 hown hK hP 0 rfl rfl 4 (by decide) (hts (.fieldLink RX7 44 "ShotBoard" "planner" "LShotBoard$Planner;") (by decide +kernel)) (.ref (a 5)) rfl dX7_plan_18 ?_
    refine z_get (C := RX3) (T := TX3) (N := 11) (ci := 2) hx hb hts iX3 hown hK hP 5 rfl rfl 8 (by decide) (hts (.fieldLink RX7 158 "ShotBoard$Planner" "used" "I") (by decide +kernel)) (.int (iZ (u2 21 (0)))) rfl dX7_plan_21 ?_
    refine z_if_ge (tgt := 32) hx hb (by omega) dX7_plan_24 (by decide) (fun c4 => ?_) (fun c4 => ?_)
    · skip
      refine lv_aload_n hx hb dX7_plan_32 rfl (lv_at hl 0 rfl) ?_
      refine z_get (C := RX7) (T := TX7) (N := 7) (ci := 6) hx hb hts iX7 hown hK hP 0 rfl rfl 4 (by decide) (hts (.fieldLink RX7 44 "ShotBoard" "planner" "LShotBoard$Planner;") (by decide +kernel)) (.ref (a 5)) rfl dX7_plan_33 ?_
      refine z_get (C := RX3) (T := TX3) (N := 11) (ci := 2) hx hb hts iX3 hown hK hP 5 rfl rfl 6 (by decide) (hts (.fieldLink RX7 161 "ShotBoard$Planner" "row" "[I") (by decide +kernel)) (.ref (a 17)) rfl dX7_plan_36 ?_
      refine lv_iload_n hx hb dX7_plan_39 rfl (lv_at hl 1 rfl) ?_
      refine z_iald hx hb hK hP 17 (u2 9) rfl (by omega) (by omega) (by omega) dX7_plan_40 ?_
      exact K _ (u2) _ _ _ _ hP hS (Or.inr ⟨hin, hrf, Or.inr ⟨by omega, rfl⟩⟩) dX7_plan_41
    · skip
      refine z_bipush hx hb dX7_plan_27 (by decide +kernel) ?_
      refine lv_goto (tgt := 41) hx hb dX7_plan_29 (by decide) ?_
      exact K _ (u2) _ _ _ _ hP hS (Or.inr ⟨hin, hrf, Or.inl ⟨by omega, rfl⟩⟩) dX7_plan_41
  · skip
    have c1 := b2_0 c1
    have hin := c1
    refine z_iconst hx hb dX7_plan_8 ?_
    exact K _ (st) _ _ _ _ hP hS (Or.inl ⟨hin, rfl, rfl⟩) dX7_plan_9
abbrev rX7_swings : Room := { frames := 6, cells := 0, slots := 0, locals := 148 }
set_option maxHeartbeats 4000000 in
set_option maxRecDepth 100000 in
theorem m_X7_swings (l : Launch) (D : va_G) (g : Nat → ClassId) (a : Nat → Nat) (st : SS) (hI : IC st) (hQ : IP st) : Met l yX7_swings wsX7_swings rX7_swings (PcM D g (AWC a) (WC g a st) [.ref (a 0)]) (QcI D (WC g a) (AWC a) (fun r u => REFR st u ∧ ((u 21 0 < 0 ∧ r = -5) ∨ (0 ≤ u 21 0 ∧ r = cP (fun b => u 4 (u 9 b) ≠ u 4 (u 9 (b - 1))) (u 19 3 - 1).toNat 1)))) 0 0 (AWC a) := by
  refine metI (cc := cX7_swings) (maxL := 1) (ret := (some .int)) (own := RX7) (by decide) rfl rfl (Nat.le_of_ble_eq_true rfl) (Or.inl rfl) ?_
  intro p e R s m args below meth c Q ls S hRf hRl hK hP hD hS hl K
  have hx := S.1
  have hb := S.2.1
  have hown := S.2.2.2.1
  have hts := S.2.2.2.2
  have hRf : 6 ≤ R.frames := hRf
  have hRl : 148 ≤ R.locals := hRl
  have hl : lv_has ls 1 [(0, .ref (a 0))] := hl
  have iX3 : ∀ w ∈ wsX30, w ∈ wsX7_swings := by decide +kernel
  have iX7 : ∀ w ∈ wsX70, w ∈ wsX7_swings := by decide +kernel
  refine lv_aload_n hx hb dX7_swings_0 rfl (lv_at hl 0 rfl) ?_
  refine z_get (C := RX7) (T := TX7) (N := 7) (ci := 6) hx hb hts iX7 hown hK hP 0 rfl rfl 4 (by decide) (hts (.fieldLink RX7 44 "ShotBoard" "planner" "LShotBoard$Planner;") (by decide +kernel)) (.ref (a 5)) rfl dX7_swings_1 ?_
  refine z_cVV (q0 := 5) (ci := 2) (As := []) (rest := []) S (m_X3_refresh l D g a (st) hI hQ) (cwV 0 hts gX7_swings_X3_refresh rfl rfl rfl (by decide +kernel) ⟨Nat.le_trans (by decide) hRf, Nat.le_trans (by decide) hRl⟩) hK hP hD hS (fun _ h => h) rfl rfl rfl hl.1 rfl (Nat.le_of_ble_eq_true rfl) dX7_swings_4 ⟨Nat.zero_le _, Nat.zero_le _⟩ (fun u1 H locs P2 hP hS _ => ?_)
  have hD : va_D (AWC a) (WC g a u1) := DWC hD
  have hrf : REFR st u1 := P2
  have hQ2 := hrf.ip hQ
  have hI2 := hrf.ic hI
  have hC2 := hQ2.s
  refine lv_aload_n hx hb dX7_swings_7 rfl (lv_at hl 0 rfl) ?_
  refine z_get (C := RX7) (T := TX7) (N := 7) (ci := 6) hx hb hts iX7 hown hK hP 0 rfl rfl 4 (by decide) (hts (.fieldLink RX7 44 "ShotBoard" "planner" "LShotBoard$Planner;") (by decide +kernel)) (.ref (a 5)) rfl dX7_swings_8 ?_
  refine z_get (C := RX3) (T := TX3) (N := 11) (ci := 2) hx hb hts iX3 hown hK hP 5 rfl rfl 8 (by decide) (hts (.fieldLink RX7 158 "ShotBoard$Planner" "used" "I") (by decide +kernel)) (.int (iZ (u1 21 (0)))) rfl dX7_swings_11 ?_
  refine z_if_ge (tgt := 22) hx hb (by omega) dX7_swings_14 (by decide) (fun c3 => ?_) (fun c3 => ?_)
  · skip
    refine lv_aload_n hx hb dX7_swings_22 rfl (lv_at hl 0 rfl) ?_
    refine z_get (C := RX7) (T := TX7) (N := 7) (ci := 6) hx hb hts iX7 hown hK hP 0 rfl rfl 4 (by decide) (hts (.fieldLink RX7 44 "ShotBoard" "planner" "LShotBoard$Planner;") (by decide +kernel)) (.ref (a 5)) rfl dX7_swings_23 ?_
    refine z_cVR (q0 := 5) (ci := 2) (As := []) (rest := []) S (m_X3_turns l D g a (u1) hI2 hQ2) (cwV 0 hts gX7_swings_X3_turns rfl rfl rfl (by decide +kernel) ⟨Nat.le_trans (by decide) hRf, Nat.le_trans (by decide) hRl⟩) hK hP rfl rfl rfl hl.1 rfl (Nat.le_of_ble_eq_true rfl) dX7_swings_26 ⟨Nat.zero_le _, Nat.zero_le _⟩ ?_
    exact K _ (u1) _ _ _ _ hP hS (⟨hrf, Or.inr ⟨by omega, rfl⟩⟩) dX7_swings_29
  · skip
    refine z_bipush hx hb dX7_swings_17 (by decide +kernel) ?_
    refine lv_goto (tgt := 29) hx hb dX7_swings_19 (by decide) ?_
    exact K _ (u1) _ _ _ _ hP hS (⟨hrf, Or.inl ⟨by omega, rfl⟩⟩) dX7_swings_29
abbrev rX7_order : Room := { frames := 6, cells := 0, slots := 0, locals := 148 }
set_option maxHeartbeats 4000000 in
set_option maxRecDepth 100000 in
theorem m_X7_order (l : Launch) (D : va_G) (g : Nat → ClassId) (a : Nat → Nat) (st : SS) (xx : Int) (hI : IC st) (hQ : IP st) (hx0 : rg xx) : Met l yX7_order wsX7_order rX7_order (PcM D g (AWC a) (WC g a st) [.ref (a 0), .int (iZ (xx))]) (QcI D (WC g a) (AWC a) (fun r u => REFR st u ∧ ((¬ inP (u 21 0) xx ∧ r = -1) ∨ (inP (u 21 0) xx ∧ r = u 10 xx)))) 0 0 (AWC a) := by
  refine metI (cc := cX7_order) (maxL := 2) (ret := (some .int)) (own := RX7) (by decide) rfl rfl (Nat.le_of_ble_eq_true rfl) (Or.inl rfl) ?_
  intro p e R s m args below meth c Q ls S hRf hRl hK hP hD hS hl K
  have hx := S.1
  have hb := S.2.1
  have hown := S.2.2.2.1
  have hts := S.2.2.2.2
  have hRf : 6 ≤ R.frames := hRf
  have hRl : 148 ≤ R.locals := hRl
  have hl : lv_has ls 2 [(0, .ref (a 0)), (1, .int (iZ (xx)))] := hl
  have iX3 : ∀ w ∈ wsX30, w ∈ wsX7_order := by decide +kernel
  have iX7 : ∀ w ∈ wsX70, w ∈ wsX7_order := by decide +kernel
  refine lv_aload_n hx hb dX7_order_0 rfl (lv_at hl 0 rfl) ?_
  refine z_get (C := RX7) (T := TX7) (N := 7) (ci := 6) hx hb hts iX7 hown hK hP 0 rfl rfl 4 (by decide) (hts (.fieldLink RX7 44 "ShotBoard" "planner" "LShotBoard$Planner;") (by decide +kernel)) (.ref (a 5)) rfl dX7_order_1 ?_
  refine z_cVV (q0 := 5) (ci := 2) (As := []) (rest := []) S (m_X3_refresh l D g a (st) hI hQ) (cwV 0 hts gX7_order_X3_refresh rfl rfl rfl (by decide +kernel) ⟨Nat.le_trans (by decide) hRf, Nat.le_trans (by decide) hRl⟩) hK hP hD hS (fun _ h => h) rfl rfl rfl hl.1 rfl (Nat.le_of_ble_eq_true rfl) dX7_order_4 ⟨Nat.zero_le _, Nat.zero_le _⟩ (fun u1 H locs P2 hP hS _ => ?_)
  have hD : va_D (AWC a) (WC g a u1) := DWC hD
  have hrf : REFR st u1 := P2
  have hQ2 := hrf.ip hQ
  have hI2 := hrf.ic hI
  have hC2 := hQ2.s
  refine lv_iload_n hx hb dX7_order_7 rfl (lv_at hl 1 rfl) ?_
  refine z_if_lt (tgt := 22) hx hb (by omega) dX7_order_8 (by decide) (fun c3 => ?_) (fun c3 => ?_)
  · skip
    refine z_iconst hx hb dX7_order_22 ?_
    refine lv_goto (tgt := 35) hx hb dX7_order_23 (by decide) ?_
    exact K _ (u1) _ _ _ _ hP hS (⟨hrf, Or.inl ⟨fun z => by omega, rfl⟩⟩) dX7_order_35
  · skip
    refine lv_iload_n hx hb dX7_order_11 rfl (lv_at hl 1 rfl) ?_
    refine lv_aload_n hx hb dX7_order_12 rfl (lv_at hl 0 rfl) ?_
    refine z_get (C := RX7) (T := TX7) (N := 7) (ci := 6) hx hb hts iX7 hown hK hP 0 rfl rfl 4 (by decide) (hts (.fieldLink RX7 44 "ShotBoard" "planner" "LShotBoard$Planner;") (by decide +kernel)) (.ref (a 5)) rfl dX7_order_13 ?_
    refine z_get (C := RX3) (T := TX3) (N := 11) (ci := 2) hx hb hts iX3 hown hK hP 5 rfl rfl 8 (by decide) (hts (.fieldLink RX7 158 "ShotBoard$Planner" "used" "I") (by decide +kernel)) (.int (iZ (u1 21 (0)))) rfl dX7_order_16 ?_
    refine z_icmp_lt (tgt := 26) hx hb (by omega) (by omega) dX7_order_19 (by decide) (fun c4 => ?_) (fun c4 => ?_)
    · skip
      refine lv_aload_n hx hb dX7_order_26 rfl (lv_at hl 0 rfl) ?_
      refine z_get (C := RX7) (T := TX7) (N := 7) (ci := 6) hx hb hts iX7 hown hK hP 0 rfl rfl 4 (by decide) (hts (.fieldLink RX7 44 "ShotBoard" "planner" "LShotBoard$Planner;") (by decide +kernel)) (.ref (a 5)) rfl dX7_order_27 ?_
      refine z_get (C := RX3) (T := TX3) (N := 11) (ci := 2) hx hb hts iX3 hown hK hP 5 rfl rfl 7 (by decide) (hts (.fieldLink RX7 168 "ShotBoard$Planner" "sequence" "[I") (by decide +kernel)) (.ref (a 18)) rfl dX7_order_30 ?_
      refine lv_iload_n hx hb dX7_order_33 rfl (lv_at hl 1 rfl) ?_
      refine z_iald hx hb hK hP 18 (u1 10) rfl (by omega) (by omega) (by omega) dX7_order_34 ?_
      exact K _ (u1) _ _ _ _ hP hS (⟨hrf, Or.inr ⟨by omega, rfl⟩⟩) dX7_order_35
    · skip
      refine z_iconst hx hb dX7_order_22 ?_
      refine lv_goto (tgt := 35) hx hb dX7_order_23 (by decide) ?_
      exact K _ (u1) _ _ _ _ hP hS (⟨hrf, Or.inl ⟨fun z => by omega, rfl⟩⟩) dX7_order_35
abbrev rX7_crossings : Room := { frames := 5, cells := 0, slots := 0, locals := 124 }
set_option maxHeartbeats 4000000 in
set_option maxRecDepth 100000 in
theorem m_X7_crossings (l : Launch) (D : va_G) (g : Nat → ClassId) (a : Nat → Nat) (st : SS) (hI : IC st) : Met l yX7_crossings wsX7_crossings rX7_crossings (PcM D g (AWC a) (WC g a st) [.ref (a 0)]) (QcI D (WC g a) (AWC a) (fun r u => u = up st 19 5 0 ∧ ((¬ CROK st ∧ r = -3) ∨ (CROK st ∧ r = CR (st 11) (st 18) (fun b => SDL st b (st 3 (st 5 b))) (st 19 3).toNat 0 0)))) 0 0 (AWC a) := by
  refine metI (cc := cX7_crossings) (maxL := 3) (ret := (some .int)) (own := RX7) (by decide) rfl rfl (Nat.le_of_ble_eq_true rfl) (Or.inl rfl) ?_
  intro p e R s m args below meth c Q ls S hRf hRl hK hP hD hS hl K
  have hx := S.1
  have hb := S.2.1
  have hown := S.2.2.2.1
  have hts := S.2.2.2.2
  have hRf : 5 ≤ R.frames := hRf
  have hRl : 124 ≤ R.locals := hRl
  have hl : lv_has ls 3 [(0, .ref (a 0))] := hl
  have iX4 : ∀ w ∈ wsX40, w ∈ wsX7_crossings := by decide +kernel
  have iX5 : ∀ w ∈ wsX50, w ∈ wsX7_crossings := by decide +kernel
  have iX7 : ∀ w ∈ wsX70, w ∈ wsX7_crossings := by decide +kernel
  have hB := hI.s
  have hI5 := IC_t0 hI
  refine lv_aload_n hx hb dX7_crossings_0 rfl (lv_at hl 0 rfl) ?_
  refine z_get (C := RX7) (T := TX7) (N := 7) (ci := 6) hx hb hts iX7 hown hK hP 0 rfl rfl 6 (by decide) (hts (.fieldLink RX7 171 "ShotBoard" "toldCount" "I") (by decide +kernel)) (.int (iZ (st 19 (5)))) rfl dX7_crossings_1 ?_
  refine lv_istore_n (lv' := [(1, .int (iZ (st 19 (5)))), (0, .ref (a 0))]) hx hb dX7_crossings_4 rfl hl (by decide) rfl (fun ls hl => ?_)
  refine lv_aload_n hx hb dX7_crossings_5 rfl (lv_at hl 1 rfl) ?_
  refine z_iconst hx hb dX7_crossings_6 ?_
  refine z_put (C := RX7) (T := TX7) (N := 7) (ci := 6) (ty := .int) hx hb hts iX7 tyX7 tyX7_ok nmX7 hown hK hP hD hS 0 rfl rfl 6 (by decide) (hts (.fieldLink RX7 171 "ShotBoard" "toldCount" "I") (by decide +kernel)) rfl (by decide +kernel) rfl rfl (Nat.le_of_ble_eq_true rfl) (WC g a (up (st) 19 (5) (0))) rfl dX7_crossings_7 (fun H locs hP hD hS => ?_)
  refine lv_iload_n hx hb dX7_crossings_10 rfl (lv_at hl 0 rfl) ?_
  refine lv_aload_n hx hb dX7_crossings_11 rfl (lv_at hl 1 rfl) ?_
  refine z_get (C := RX7) (T := TX7) (N := 7) (ci := 6) hx hb hts iX7 hown hK hP 0 rfl rfl 2 (by decide) (hts (.fieldLink RX7 26 "ShotBoard" "script" "LShotBoard$Script;") (by decide +kernel)) (.ref (a 3)) rfl dX7_crossings_12 ?_
  refine z_get (C := RX5) (T := TX5) (N := 3) (ci := 4) hx hb hts iX5 hown hK hP 3 rfl rfl 1 (by decide) (hts (.fieldLink RX7 103 "ShotBoard$Script" "boards" "I") (by decide +kernel)) (.int (iZ (st 19 (3)))) rfl dX7_crossings_15 ?_
  refine z_icmp_eq (tgt := 24) hx hb (by omega) (by omega) dX7_crossings_18 (by decide) (fun c1 => ?_) (fun c1 => ?_)
  · skip
    refine z_iconst hx hb dX7_crossings_24 ?_
    refine lv_istore_n (lv' := [(2, .int (iZ (0))), (1, .int (iZ (st 19 (5)))), (0, .ref (a 0))]) hx hb dX7_crossings_25 rfl hl (by decide) rfl (fun ls hl => ?_)
    have LP26 : ∀ (n26 : Nat) (bb : Int), (st 19 5 - bb) < (n26 : Int) → (0 ≤ bb ∧ bb ≤ st 19 5) → (∀ b, 0 ≤ b → b < bb → WHYc st b (st 3 (st 5 b)) = 0) → ∀ (ls : Array Slot), lv_has ls 3 [(2, .int (iZ (bb))), (1, .int (iZ (st 19 (5)))), (0, .ref (a 0))] → W p l e R s m args below meth c H locs 0 0 Q (F0 m 26 ls []) := by
      intro n26
      induction n26 with
      | zero =>
        intro bb hm26 j1 j2  ls hl
        exact absurd hm26 (by omega)
      | succ n26 ih26 =>
        intro bb hm26 j1 j2  ls hl
        refine lv_iload_n hx hb dX7_crossings_26 rfl (lv_at hl 0 rfl) ?_
        refine lv_iload_n hx hb dX7_crossings_27 rfl (lv_at hl 1 rfl) ?_
        refine z_icmp_ge (tgt := 73) hx hb (by omega) (by omega) dX7_crossings_28 (by decide) (fun c2 => ?_) (fun c2 => ?_)
        · skip
          refine lv_aload_n hx hb dX7_crossings_73 rfl (lv_at hl 2 rfl) ?_
          refine lv_iload_n hx hb dX7_crossings_74 rfl (lv_at hl 1 rfl) ?_
          refine z_cVR (q0 := 0) (ci := 6) (As := [.int (iZ (st 19 (5)))]) (rest := []) S (m_X7_crossingsOfTold l D g a (up (st) 19 (5) (0)) (st 19 (5)) hI5 (by show st 19 5 = st 19 3; omega) (fun i a9 b9 => hI.td i a9 b9)) (cwV 1 hts gX7_crossings_X7_crossingsOfTold rfl rfl rfl (by decide +kernel) ⟨Nat.le_trans (by decide) hRf, Nat.le_trans (by decide) hRl⟩) hK hP rfl rfl rfl hl.1 rfl (Nat.le_of_ble_eq_true rfl) dX7_crossings_75 ⟨Nat.zero_le _, Nat.zero_le _⟩ ?_
          refine z_as (y := CR (st 11) (st 18) (fun b => SDL st b (st 3 (st 5 b))) (st 19 5).toNat 0 0) (rfl) ?_
          exact K _ (up (st) 19 (5) (0)) _ _ _ _ hP hS (⟨rfl, Or.inr ⟨⟨by omega, fun b a9 b9 => j2 b a9 (by omega)⟩, by rw [show st 19 5 = st 19 3 by omega]⟩⟩) dX7_crossings_78
        · skip
          have f5 := hI.c5 bb (by omega) (by omega)
          have f6 := hI.td bb (by omega) (by omega)
          have f7 := hI.c3 (st 5 bb) (by omega) (by omega)
          refine lv_aload_n hx hb dX7_crossings_31 rfl (lv_at hl 2 rfl) ?_
          refine z_get (C := RX7) (T := TX7) (N := 7) (ci := 6) hx hb hts iX7 hown hK hP 0 rfl rfl 3 (by decide) (hts (.fieldLink RX7 35 "ShotBoard" "judge" "LShotBoard$Judge;") (by decide +kernel)) (.ref (a 4)) rfl dX7_crossings_32 ?_
          refine lv_aload_n hx hb dX7_crossings_35 rfl (lv_at hl 2 rfl) ?_
          refine z_get (C := RX7) (T := TX7) (N := 7) (ci := 6) hx hb hts iX7 hown hK hP 0 rfl rfl 1 (by decide) (hts (.fieldLink RX7 19 "ShotBoard" "rig" "LShotBoard$Rig;") (by decide +kernel)) (.ref (a 2)) rfl dX7_crossings_36 ?_
          refine z_get (C := RX4) (T := TX4) (N := 3) (ci := 3) hx hb hts iX4 hown hK hP 2 rfl rfl 0 (by decide) (hts (.fieldLink RX7 122 "ShotBoard$Rig" "places" "[I") (by decide +kernel)) (.ref (a 11)) rfl dX7_crossings_39 ?_
          refine lv_aload_n hx hb dX7_crossings_42 rfl (lv_at hl 2 rfl) ?_
          refine z_get (C := RX7) (T := TX7) (N := 7) (ci := 6) hx hb hts iX7 hown hK hP 0 rfl rfl 5 (by decide) (hts (.fieldLink RX7 48 "ShotBoard" "told" "[I") (by decide +kernel)) (.ref (a 6)) rfl dX7_crossings_43 ?_
          refine lv_iload_n hx hb dX7_crossings_46 rfl (lv_at hl 0 rfl) ?_
          refine z_iald hx hb hK hP 6 ((up (st) 19 (5) (0)) 5) rfl (by omega) (by omega) (by omega) dX7_crossings_47 ?_
          refine z_as (y := st 5 (bb)) (by simp [up, uf]) ?_
          refine z_iald hx hb hK hP 11 ((up (st) 19 (5) (0)) 3) rfl (by omega) (by omega) (by omega) dX7_crossings_48 ?_
          refine z_as (y := st 3 (st 5 (bb))) (by simp [up, uf]) ?_
          refine lv_aload_n hx hb dX7_crossings_49 rfl (lv_at hl 2 rfl) ?_
          refine z_get (C := RX7) (T := TX7) (N := 7) (ci := 6) hx hb hts iX7 hown hK hP 0 rfl rfl 2 (by decide) (hts (.fieldLink RX7 26 "ShotBoard" "script" "LShotBoard$Script;") (by decide +kernel)) (.ref (a 3)) rfl dX7_crossings_50 ?_
          refine z_get (C := RX5) (T := TX5) (N := 3) (ci := 4) hx hb hts iX5 hown hK hP 3 rfl rfl 0 (by decide) (hts (.fieldLink RX7 136 "ShotBoard$Script" "rows" "[LShotBoard$Board;") (by decide +kernel)) (.ref (a 13)) rfl dX7_crossings_53 ?_
          refine lv_iload_n hx hb dX7_crossings_56 rfl (lv_at hl 0 rfl) ?_
          refine z_aald hx hb hK hP (by omega) (by omega) dX7_crossings_57 ?_
          refine z_cVR (q0 := 4) (ci := 1) (As := [.int (iZ (st 3 (st 5 (bb)))), .ref (a (19 + (bb).toNat))]) (rest := []) S (m_X1_fault l D g a (up (st) 19 (5) (0)) (st 3 (st 5 (bb))) (bb) hI5 (by show 0 ≤ bb ∧ bb < st 19 3; omega) (by omega)) (cwV 2 hts gX7_crossings_X1_fault rfl rfl rfl (by decide +kernel) ⟨Nat.le_trans (by decide) hRf, Nat.le_trans (by decide) hRl⟩) hK hP rfl rfl rfl hl.1 rfl (Nat.le_of_ble_eq_true rfl) dX7_crossings_58 ⟨Nat.zero_le _, Nat.zero_le _⟩ ?_
          have f58 : 0 ≤ WHYc st bb (st 3 (st 5 bb)) ∧ WHYc st bb (st 3 (st 5 bb)) < 6000 := WHY_b (F := FLc st bb (st 3 (st 5 bb))) (st 16 bb - st 15 bb + 1).toNat (st 15 bb) (by have h9 := hI.bd bb (by omega) (by omega); omega) (by have h9 := hI.bd bb (by omega) (by omega); have h8 := (hI.bl bb (by omega) (by omega)).2.1; omega) (fun j => FL_b _ _ _ _ _ _ _ _ _ _ _ _ (by omega))
          refine z_as (y := WHYc st bb (st 3 (st 5 bb))) (rfl) ?_
          refine z_if_eq (tgt := 67) hx hb (by omega) dX7_crossings_61 (by decide) (fun c3 => ?_) (fun c3 => ?_)
          · skip
            have hz := c3
            refine z_iinc (lv' := [(2, .int (iZ ((bb) + 1))), (1, .int (iZ (st 19 (5)))), (0, .ref (a 0))]) hx hb dX7_crossings_67 hl (k := 0) rfl (by decide) rfl (fun ls hl => ?_)
            refine lv_goto (tgt := 26) hx hb dX7_crossings_70 (by decide) ?_
            exact ih26 ((bb) + 1) (by omega) (by omega) (fun b a9 b9 => by
      by_cases e9 : b = bb
      · subst e9; exact hz
      · exact j2 b a9 (by omega))  ls (lv_sub hl [0, 1, 2] rfl)
          · skip
            have hz := c3
            refine z_bipush hx hb dX7_crossings_64 (by decide +kernel) ?_
            exact K _ (up (st) 19 (5) (0)) _ _ _ _ hP hS (⟨rfl, Or.inl ⟨fun z => hz (z.2 bb (by omega) (by omega)), rfl⟩⟩) dX7_crossings_66
    exact LP26 ((st 19 5 - (0)) + 1 : Int).toNat (0) (by omega) (by omega) (fun b a9 b9 => by omega)  ls (lv_sub hl [0, 1, 2] rfl)
  · skip
    refine z_bipush hx hb dX7_crossings_21 (by decide +kernel) ?_
    exact K _ (up (st) 19 (5) (0)) _ _ _ _ hP hS (⟨rfl, Or.inl ⟨fun z => by have := z.1; omega, rfl⟩⟩) dX7_crossings_23
abbrev rX7_list : Room := { frames := 1, cells := 0, slots := 0, locals := 21 }
set_option maxHeartbeats 4000000 in
set_option maxRecDepth 100000 in
theorem m_X7_list (l : Launch) (D : va_G) (g : Nat → ClassId) (a : Nat → Nat) (st : SS) (xx : Int) (hI : IC st) (hx0 : rg xx) : Met l yX7_list wsX7_list rX7_list (PcM D g (AWC a) (WC g a st) [.ref (a 0), .int (iZ (xx))]) (QcI D (WC g a) (AWC a) (fun r u => (¬ inP (st 19 2) xx ∧ r = -1 ∧ u = st) ∨ (inP (st 19 2) xx ∧ 8 ≤ st 19 5 ∧ r = -2 ∧ u = st) ∨ (inP (st 19 2) xx ∧ st 19 5 < 8 ∧ r = st 19 5 + 1 ∧ u = up (up st 5 (st 19 5) xx) 19 5 (st 19 5 + 1)))) 0 0 (AWC a) := by
  refine metI (cc := cX7_list) (maxL := 2) (ret := (some .int)) (own := RX7) (by decide) rfl rfl (Nat.le_of_ble_eq_true rfl) (Or.inl rfl) ?_
  intro p e R s m args below meth c Q ls S hRf hRl hK hP hD hS hl K
  have hx := S.1
  have hb := S.2.1
  have hown := S.2.2.2.1
  have hts := S.2.2.2.2
  have hRf : 1 ≤ R.frames := hRf
  have hRl : 21 ≤ R.locals := hRl
  have hl : lv_has ls 2 [(0, .ref (a 0)), (1, .int (iZ (xx)))] := hl
  have iX7 : ∀ w ∈ wsX70, w ∈ wsX7_list := by decide +kernel
  have hB := hI.s
  refine lv_aload_n hx hb dX7_list_0 rfl (lv_at hl 0 rfl) ?_
  refine lv_iload_n hx hb dX7_list_1 rfl (lv_at hl 1 rfl) ?_
  refine z_cVR (q0 := 0) (ci := 6) (As := [.int (iZ (xx))]) (rest := []) S (m_X7_isCamera l D g a (st) (xx) hI (by omega)) (cwV 1 hts gX7_list_X7_isCamera rfl rfl rfl (by decide +kernel) ⟨Nat.le_trans (by decide) hRf, Nat.le_trans (by decide) hRl⟩) hK hP rfl rfl rfl hl.1 rfl (Nat.le_of_ble_eq_true rfl) dX7_list_2 ⟨Nat.zero_le _, Nat.zero_le _⟩ ?_
  refine z_if_ne (tgt := 10) hx hb (b2_rg _) dX7_list_5 (by decide) (fun c1 => ?_) (fun c1 => ?_)
  · skip
    have c1 := b2_n0 c1
    refine lv_aload_n hx hb dX7_list_10 rfl (lv_at hl 0 rfl) ?_
    refine z_get (C := RX7) (T := TX7) (N := 7) (ci := 6) hx hb hts iX7 hown hK hP 0 rfl rfl 6 (by decide) (hts (.fieldLink RX7 171 "ShotBoard" "toldCount" "I") (by decide +kernel)) (.int (iZ (st 19 (5)))) rfl dX7_list_11 ?_
    refine z_bipush hx hb dX7_list_14 (by decide +kernel) ?_
    refine z_icmp_lt (tgt := 22) hx hb (by omega) (by decide) dX7_list_16 (by decide) (fun c2 => ?_) (fun c2 => ?_)
    · skip
      refine lv_aload_n hx hb dX7_list_22 rfl (lv_at hl 0 rfl) ?_
      refine z_get (C := RX7) (T := TX7) (N := 7) (ci := 6) hx hb hts iX7 hown hK hP 0 rfl rfl 5 (by decide) (hts (.fieldLink RX7 48 "ShotBoard" "told" "[I") (by decide +kernel)) (.ref (a 6)) rfl dX7_list_23 ?_
      refine lv_aload_n hx hb dX7_list_26 rfl (lv_at hl 0 rfl) ?_
      refine z_get (C := RX7) (T := TX7) (N := 7) (ci := 6) hx hb hts iX7 hown hK hP 0 rfl rfl 6 (by decide) (hts (.fieldLink RX7 171 "ShotBoard" "toldCount" "I") (by decide +kernel)) (.int (iZ (st 19 (5)))) rfl dX7_list_27 ?_
      refine lv_iload_n hx hb dX7_list_30 rfl (lv_at hl 1 rfl) ?_
      refine z_iast hx hb hK hP hD hS 6 (st 5) rfl (by omega) (by omega) (by omega) (WC g a (up (st) 5 (st 19 (5)) (xx))) rfl dX7_list_31 (fun H locs hP hD hS => ?_)
      refine lv_aload_n hx hb dX7_list_32 rfl (lv_at hl 0 rfl) ?_
      refine lv_dup hx hb dX7_list_33 rfl ?_
      refine z_get (C := RX7) (T := TX7) (N := 7) (ci := 6) hx hb hts iX7 hown hK hP 0 rfl rfl 6 (by decide) (hts (.fieldLink RX7 171 "ShotBoard" "toldCount" "I") (by decide +kernel)) (.int (iZ (st 19 (5)))) rfl dX7_list_34 ?_
      refine z_iconst hx hb dX7_list_37 ?_
      refine z_iadd hx hb dX7_list_38 ?_
      refine z_put (C := RX7) (T := TX7) (N := 7) (ci := 6) (ty := .int) hx hb hts iX7 tyX7 tyX7_ok nmX7 hown hK hP hD hS 0 rfl rfl 6 (by decide) (hts (.fieldLink RX7 171 "ShotBoard" "toldCount" "I") (by decide +kernel)) rfl (by decide +kernel) rfl rfl (Nat.le_of_ble_eq_true rfl) (WC g a (up (up (st) 5 (st 19 (5)) (xx)) 19 (5) ((st 19 (5)) + (1)))) rfl dX7_list_39 (fun H locs hP hD hS => ?_)
      refine lv_aload_n hx hb dX7_list_42 rfl (lv_at hl 0 rfl) ?_
      refine z_get (C := RX7) (T := TX7) (N := 7) (ci := 6) hx hb hts iX7 hown hK hP 0 rfl rfl 6 (by decide) (hts (.fieldLink RX7 171 "ShotBoard" "toldCount" "I") (by decide +kernel)) (.int (iZ ((st 19 (5)) + (1)))) rfl dX7_list_43 ?_
      exact K _ (up (up (st) 5 (st 19 (5)) (xx)) 19 (5) ((st 19 (5)) + (1))) _ _ _ _ hP hS (Or.inr (Or.inr ⟨by omega, by omega, rfl, rfl⟩)) dX7_list_46
    · skip
      refine z_bipush hx hb dX7_list_19 (by decide +kernel) ?_
      exact K _ (st) _ _ _ _ hP hS (Or.inr (Or.inl ⟨by omega, by omega, rfl, rfl⟩)) dX7_list_21
  · skip
    have c1 := b2_0 c1
    refine z_iconst hx hb dX7_list_8 ?_
    exact K _ (st) _ _ _ _ hP hS (Or.inl ⟨fun z => by omega, rfl, rfl⟩) dX7_list_9
