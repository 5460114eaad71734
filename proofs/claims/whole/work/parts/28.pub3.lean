abbrev rX7_person : Room := { frames := 1, cells := 0, slots := 0, locals := 22 }
set_option maxHeartbeats 4000000 in
set_option maxRecDepth 100000 in
theorem m_X7_person (l : Launch) (D : va_G) (g : Nat → ClassId) (a : Nat → Nat) (st : SS) (xx : Int) (hI : IC st) (hx0 : rg xx) : Met l yX7_person wsX7_person rX7_person (PcM D g (AWC a) (WC g a st) [.ref (a 0), .int (iZ (xx))]) (QcI D (WC g a) (AWC a) (fun r u => (¬ plc xx ∧ r = -1 ∧ u = st) ∨ (plc xx ∧ 6 ≤ st 19 0 ∧ r = -2 ∧ u = st) ∨ (plc xx ∧ st 19 0 < 6 ∧ r = st 19 0 ∧ u = up (sA (up st 21 2 0) 0 (fil (st 0) (st 19 0 * 60) 60 xx)) 19 0 (st 19 0 + 1)))) 0 0 (AWC a) := by
  refine metI (cc := cX7_person) (maxL := 2) (ret := (some .int)) (own := RX7) (by decide) rfl rfl (Nat.le_of_ble_eq_true rfl) (Or.inl rfl) ?_
  intro p e R s m args below meth c Q ls S hRf hRl hK hP hD hS hl K
  have hx := S.1
  have hb := S.2.1
  have hown := S.2.2.2.1
  have hts := S.2.2.2.2
  have hRf : 1 ≤ R.frames := hRf
  have hRl : 22 ≤ R.locals := hRl
  have hl : lv_has ls 2 [(0, .ref (a 0)), (1, .int (iZ (xx)))] := hl
  have iX6 : ∀ w ∈ wsX60, w ∈ wsX7_person := by decide +kernel
  have iX7 : ∀ w ∈ wsX70, w ∈ wsX7_person := by decide +kernel
  have hB := hI.s
  refine lv_iload_n hx hb dX7_person_0 rfl (lv_at hl 1 rfl) ?_
  refine z_cSS (As := [.int (iZ (xx))]) (rest := []) S (m_X7_isPlace l (xx) (by omega)) (va_cwS 1 hts gX7_person_X7_isPlace rfl rfl rfl (by decide +kernel) ⟨Nat.le_trans (by decide) hRf, Nat.le_trans (by decide) hRl⟩) rfl hl.1 rfl (Nat.le_of_ble_eq_true rfl) dX7_person_1 ⟨Nat.zero_le _, Nat.zero_le _⟩ ?_
  refine z_if_ne (tgt := 9) hx hb (b2_rg _) dX7_person_4 (by decide) (fun c1 => ?_) (fun c1 => ?_)
  · skip
    have c1 := b2_n0 c1
    have hp := c1
    refine lv_aload_n hx hb dX7_person_9 rfl (lv_at hl 0 rfl) ?_
    refine z_get (C := RX7) (T := TX7) (N := 7) (ci := 6) hx hb hts iX7 hown hK hP 0 rfl rfl 0 (by decide) (hts (.fieldLink RX7 10 "ShotBoard" "stage" "LShotBoard$Stage;") (by decide +kernel)) (.ref (a 1)) rfl dX7_person_10 ?_
    refine z_get (C := RX6) (T := TX6) (N := 6) (ci := 5) hx hb hts iX6 hown hK hP 1 rfl rfl 4 (by decide) (hts (.fieldLink RX7 56 "ShotBoard$Stage" "persons" "I") (by decide +kernel)) (.int (iZ (st 19 (0)))) rfl dX7_person_13 ?_
    refine z_bipush hx hb dX7_person_16 (by decide +kernel) ?_
    refine z_icmp_lt (tgt := 24) hx hb (by omega) (by decide) dX7_person_18 (by decide) (fun c2 => ?_) (fun c2 => ?_)
    · skip
      refine lv_aload_n hx hb dX7_person_24 rfl (lv_at hl 0 rfl) ?_
      refine z_get (C := RX7) (T := TX7) (N := 7) (ci := 6) hx hb hts iX7 hown hK hP 0 rfl rfl 4 (by decide) (hts (.fieldLink RX7 44 "ShotBoard" "planner" "LShotBoard$Planner;") (by decide +kernel)) (.ref (a 5)) rfl dX7_person_25 ?_
      refine z_cVV (q0 := 5) (ci := 2) (As := []) (rest := []) S (m_X3_forget l D g a (st) ) (cwV 0 hts gX7_person_X3_forget rfl rfl rfl (by decide +kernel) ⟨Nat.le_trans (by decide) hRf, Nat.le_trans (by decide) hRl⟩) hK hP hD hS (fun _ h => h) rfl rfl rfl hl.1 rfl (Nat.le_of_ble_eq_true rfl) dX7_person_28 ⟨Nat.zero_le _, Nat.zero_le _⟩ (fun u3 H locs P4 hP hS _ => ?_)
      have hD : va_D (AWC a) (WC g a u3) := DWC hD
      subst P4
      refine lv_aload_n hx hb dX7_person_31 rfl (lv_at hl 0 rfl) ?_
      refine z_get (C := RX7) (T := TX7) (N := 7) (ci := 6) hx hb hts iX7 hown hK hP 0 rfl rfl 0 (by decide) (hts (.fieldLink RX7 10 "ShotBoard" "stage" "LShotBoard$Stage;") (by decide +kernel)) (.ref (a 1)) rfl dX7_person_32 ?_
      refine lv_iload_n hx hb dX7_person_35 rfl (lv_at hl 1 rfl) ?_
      refine z_cVI (q0 := 1) (ci := 5) (As := [.int (iZ (xx))]) (rest := []) S (m_X6_addPerson l D g a (up (st) 21 (2) (0)) (xx) (by show 0 ≤ st 19 0 ∧ st 19 0 < 6; omega)) (cwV 1 hts gX7_person_X6_addPerson rfl rfl rfl (by decide +kernel) ⟨Nat.le_trans (by decide) hRf, Nat.le_trans (by decide) hRl⟩) hK hP hD hS (fun _ h => h) rfl rfl rfl hl.1 rfl (Nat.le_of_ble_eq_true rfl) dX7_person_36 ⟨Nat.zero_le _, Nat.zero_le _⟩ (fun r7 u5 H locs P6 hP hS _ => ?_)
      have hD : va_D (AWC a) (WC g a u5) := DWC hD
      have hpo := P6
      exact K _ (u5) _ _ _ _ hP hS (Or.inr (Or.inr ⟨hp, by omega, hpo.1, hpo.2⟩)) dX7_person_39
    · skip
      refine z_bipush hx hb dX7_person_21 (by decide +kernel) ?_
      exact K _ (st) _ _ _ _ hP hS (Or.inr (Or.inl ⟨hp, by omega, rfl, rfl⟩)) dX7_person_23
  · skip
    have c1 := b2_0 c1
    have hp := c1
    refine z_iconst hx hb dX7_person_7 ?_
    exact K _ (st) _ _ _ _ hP hS (Or.inl ⟨hp, rfl, rfl⟩) dX7_person_8
abbrev rX7_step : Room := { frames := 3, cells := 0, slots := 0, locals := 66 }
set_option maxHeartbeats 4000000 in
set_option maxRecDepth 100000 in
theorem m_X7_step (l : Launch) (D : va_G) (g : Nat → ClassId) (a : Nat → Nat) (st : SS) (pp : Int) (tt : Int) (ff : Int) (hI : IC st) (h1 : rg pp) (h2 : rg tt) (h3 : rg ff) : Met l yX7_step wsX7_step rX7_step (PcM D g (AWC a) (WC g a st) [.ref (a 0), .int (iZ (pp)), .int (iZ (tt)), .int (iZ (ff))]) (QcI D (WC g a) (AWC a) (fun r u => (¬ STEPp (st 19 0) pp tt ff ∧ r = -1 ∧ u = st) ∨ (STEPp (st 19 0) pp tt ff ∧ ¬ bt (st 20 pp) tt ∧ 12 ≤ ljbc (st 20 pp) ∧ r = -2 ∧ u = st) ∨ (STEPp (st 19 0) pp tt ff ∧ (bt (st 20 pp) tt ∨ ljbc (st 20 pp) < 12) ∧ r = ljbc (sbt (st 20 pp) tt) ∧ ∃ n, 1 ≤ n ∧ tt + n ≤ 60 ∧ (∀ j, tt < j → j < tt + n → ¬ bt (st 20 pp) j) ∧ (tt + n = 60 ∨ bt (st 20 pp) (tt + n)) ∧ u = sA (up (up st 21 2 0) 20 pp (sbt (st 20 pp) tt)) 0 (fil (st 0) (pp * 60 + tt) n ff)))) 0 0 (AWC a) := by
  refine metI (cc := cX7_step) (maxL := 4) (ret := (some .int)) (own := RX7) (by decide) rfl rfl (Nat.le_of_ble_eq_true rfl) (Or.inl rfl) ?_
  intro p e R s m args below meth c Q ls S hRf hRl hK hP hD hS hl K
  have hx := S.1
  have hb := S.2.1
  have hown := S.2.2.2.1
  have hts := S.2.2.2.2
  have hRf : 3 ≤ R.frames := hRf
  have hRl : 66 ≤ R.locals := hRl
  have hl : lv_has ls 4 [(0, .ref (a 0)), (1, .int (iZ (pp))), (2, .int (iZ (tt))), (3, .int (iZ (ff)))] := hl
  have iX7 : ∀ w ∈ wsX70, w ∈ wsX7_step := by decide +kernel
  have hB := hI.s
  refine lv_aload_n hx hb dX7_step_0 rfl (lv_at hl 0 rfl) ?_
  refine lv_iload_n hx hb dX7_step_1 rfl (lv_at hl 1 rfl) ?_
  refine z_cVR (q0 := 0) (ci := 6) (As := [.int (iZ (pp))]) (rest := []) S (m_X7_isPerson l D g a (st) (pp) hI (by omega)) (cwV 1 hts gX7_step_X7_isPerson rfl rfl rfl (by decide +kernel) ⟨Nat.le_trans (by decide) hRf, Nat.le_trans (by decide) hRl⟩) hK hP rfl rfl rfl hl.1 rfl (Nat.le_of_ble_eq_true rfl) dX7_step_2 ⟨Nat.zero_le _, Nat.zero_le _⟩ ?_
  refine z_if_eq (tgt := 26) hx hb (b2_rg _) dX7_step_5 (by decide) (fun c1 => ?_) (fun c1 => ?_)
  · skip
    have c1 := b2_0 c1
    refine z_iconst hx hb dX7_step_26 ?_
    exact K _ (st) _ _ _ _ hP hS (Or.inl ⟨fun z => by omega, rfl, rfl⟩) dX7_step_27
  · skip
    have c1 := b2_n0 c1
    refine lv_iload_n hx hb dX7_step_8 rfl (lv_at hl 2 rfl) ?_
    refine z_cSS (As := [.int (iZ (tt))]) (rest := []) S (m_X7_isTick l (tt) (by omega)) (va_cwS 1 hts gX7_step_X7_isTick rfl rfl rfl (by decide +kernel) ⟨Nat.le_trans (by decide) hRf, Nat.le_trans (by decide) hRl⟩) rfl hl.1 rfl (Nat.le_of_ble_eq_true rfl) dX7_step_9 ⟨Nat.zero_le _, Nat.zero_le _⟩ ?_
    refine z_if_eq (tgt := 26) hx hb (b2_rg _) dX7_step_12 (by decide) (fun c2 => ?_) (fun c2 => ?_)
    · skip
      have c2 := b2_0 c2
      refine z_iconst hx hb dX7_step_26 ?_
      exact K _ (st) _ _ _ _ hP hS (Or.inl ⟨fun z => by omega, rfl, rfl⟩) dX7_step_27
    · skip
      have c2 := b2_n0 c2
      refine lv_iload_n hx hb dX7_step_15 rfl (lv_at hl 2 rfl) ?_
      refine z_if_eq (tgt := 26) hx hb (by omega) dX7_step_16 (by decide) (fun c3 => ?_) (fun c3 => ?_)
      · skip
        refine z_iconst hx hb dX7_step_26 ?_
        exact K _ (st) _ _ _ _ hP hS (Or.inl ⟨fun z => by omega, rfl, rfl⟩) dX7_step_27
      · skip
        refine lv_iload_n hx hb dX7_step_19 rfl (lv_at hl 3 rfl) ?_
        refine z_cSS (As := [.int (iZ (ff))]) (rest := []) S (m_X7_isPlace l (ff) (by omega)) (va_cwS 1 hts gX7_step_X7_isPlace rfl rfl rfl (by decide +kernel) ⟨Nat.le_trans (by decide) hRf, Nat.le_trans (by decide) hRl⟩) rfl hl.1 rfl (Nat.le_of_ble_eq_true rfl) dX7_step_20 ⟨Nat.zero_le _, Nat.zero_le _⟩ ?_
        refine z_if_ne (tgt := 28) hx hb (b2_rg _) dX7_step_23 (by decide) (fun c4 => ?_) (fun c4 => ?_)
        · skip
          have c4 := b2_n0 c4
          refine lv_aload_n hx hb dX7_step_28 rfl (lv_at hl 0 rfl) ?_
          refine z_get (C := RX7) (T := TX7) (N := 7) (ci := 6) hx hb hts iX7 hown hK hP 0 rfl rfl 0 (by decide) (hts (.fieldLink RX7 10 "ShotBoard" "stage" "LShotBoard$Stage;") (by decide +kernel)) (.ref (a 1)) rfl dX7_step_29 ?_
          refine lv_iload_n hx hb dX7_step_32 rfl (lv_at hl 1 rfl) ?_
          refine lv_iload_n hx hb dX7_step_33 rfl (lv_at hl 2 rfl) ?_
          refine z_cVR (q0 := 1) (ci := 5) (As := [.int (iZ (pp)), .int (iZ (tt))]) (rest := []) S (m_X6_hasStep l D g a (st) (pp) (tt) hI.c20 (by omega) (by omega)) (cwV 2 hts gX7_step_X6_hasStep rfl rfl rfl (by decide +kernel) ⟨Nat.le_trans (by decide) hRf, Nat.le_trans (by decide) hRl⟩) hK hP rfl rfl rfl hl.1 rfl (Nat.le_of_ble_eq_true rfl) dX7_step_34 ⟨Nat.zero_le _, Nat.zero_le _⟩ ?_
          refine z_if_ne (tgt := 56) hx hb (b2_rg _) dX7_step_37 (by decide) (fun c5 => ?_) (fun c5 => ?_)
          · skip
            have c5 := b2_n0 c5
            have hb1 := c5
            refine lv_aload_n hx hb dX7_step_56 rfl (lv_at hl 0 rfl) ?_
            refine z_get (C := RX7) (T := TX7) (N := 7) (ci := 6) hx hb hts iX7 hown hK hP 0 rfl rfl 4 (by decide) (hts (.fieldLink RX7 44 "ShotBoard" "planner" "LShotBoard$Planner;") (by decide +kernel)) (.ref (a 5)) rfl dX7_step_57 ?_
            refine z_cVV (q0 := 5) (ci := 2) (As := []) (rest := []) S (m_X3_forget l D g a (st) ) (cwV 0 hts gX7_step_X3_forget rfl rfl rfl (by decide +kernel) ⟨Nat.le_trans (by decide) hRf, Nat.le_trans (by decide) hRl⟩) hK hP hD hS (fun _ h => h) rfl rfl rfl hl.1 rfl (Nat.le_of_ble_eq_true rfl) dX7_step_60 ⟨Nat.zero_le _, Nat.zero_le _⟩ (fun u6 H locs P7 hP hS _ => ?_)
            have hD : va_D (AWC a) (WC g a u6) := DWC hD
            subst P7
            refine lv_aload_n hx hb dX7_step_63 rfl (lv_at hl 0 rfl) ?_
            refine z_get (C := RX7) (T := TX7) (N := 7) (ci := 6) hx hb hts iX7 hown hK hP 0 rfl rfl 0 (by decide) (hts (.fieldLink RX7 10 "ShotBoard" "stage" "LShotBoard$Stage;") (by decide +kernel)) (.ref (a 1)) rfl dX7_step_64 ?_
            refine lv_iload_n hx hb dX7_step_67 rfl (lv_at hl 1 rfl) ?_
            refine lv_iload_n hx hb dX7_step_68 rfl (lv_at hl 2 rfl) ?_
            refine lv_iload_n hx hb dX7_step_69 rfl (lv_at hl 3 rfl) ?_
            refine z_cVI (q0 := 1) (ci := 5) (As := [.int (iZ (pp)), .int (iZ (tt)), .int (iZ (ff))]) (rest := []) S (m_X6_addStep l D g a (up (st) 21 (2) (0)) (pp) (tt) (ff) (fun p a9 b9 => hI.c20 p a9 b9) (by omega) (by omega)) (cwV 3 hts gX7_step_X6_addStep rfl rfl rfl (by decide +kernel) ⟨Nat.le_trans (by decide) hRf, Nat.le_trans (by decide) hRl⟩) hK hP hD hS (fun _ h => h) rfl rfl rfl hl.1 rfl (Nat.le_of_ble_eq_true rfl) dX7_step_70 ⟨Nat.zero_le _, Nat.zero_le _⟩ (fun r10 u8 H locs P9 hP hS _ => ?_)
            have hD : va_D (AWC a) (WC g a u8) := DWC hD
            have hpo := P9
            exact K _ (u8) _ _ _ _ hP hS (Or.inr (Or.inr ⟨⟨by omega, by omega, by omega⟩, by first | exact Or.inl hb1 | exact Or.inr (by omega), hpo.1, hpo.2⟩)) dX7_step_73
          · skip
            have c5 := b2_0 c5
            have hb1 := c5
            refine lv_aload_n hx hb dX7_step_40 rfl (lv_at hl 0 rfl) ?_
            refine z_get (C := RX7) (T := TX7) (N := 7) (ci := 6) hx hb hts iX7 hown hK hP 0 rfl rfl 0 (by decide) (hts (.fieldLink RX7 10 "ShotBoard" "stage" "LShotBoard$Stage;") (by decide +kernel)) (.ref (a 1)) rfl dX7_step_41 ?_
            refine lv_iload_n hx hb dX7_step_44 rfl (lv_at hl 1 rfl) ?_
            refine z_cVR (q0 := 1) (ci := 5) (As := [.int (iZ (pp))]) (rest := []) S (m_X6_stepsOf l D g a (st) (pp) (by omega)) (cwV 1 hts gX7_step_X6_stepsOf rfl rfl rfl (by decide +kernel) ⟨Nat.le_trans (by decide) hRf, Nat.le_trans (by decide) hRl⟩) hK hP rfl rfl rfl hl.1 rfl (Nat.le_of_ble_eq_true rfl) dX7_step_45 ⟨Nat.zero_le _, Nat.zero_le _⟩ ?_
            have f11 := ljbc_b ((st) 20 (pp))
            refine z_bipush hx hb dX7_step_48 (by decide +kernel) ?_
            refine z_icmp_lt (tgt := 56) hx hb (by omega) (by decide) dX7_step_50 (by decide) (fun c12 => ?_) (fun c12 => ?_)
            · skip
              refine lv_aload_n hx hb dX7_step_56 rfl (lv_at hl 0 rfl) ?_
              refine z_get (C := RX7) (T := TX7) (N := 7) (ci := 6) hx hb hts iX7 hown hK hP 0 rfl rfl 4 (by decide) (hts (.fieldLink RX7 44 "ShotBoard" "planner" "LShotBoard$Planner;") (by decide +kernel)) (.ref (a 5)) rfl dX7_step_57 ?_
              refine z_cVV (q0 := 5) (ci := 2) (As := []) (rest := []) S (m_X3_forget l D g a (st) ) (cwV 0 hts gX7_step_X3_forget rfl rfl rfl (by decide +kernel) ⟨Nat.le_trans (by decide) hRf, Nat.le_trans (by decide) hRl⟩) hK hP hD hS (fun _ h => h) rfl rfl rfl hl.1 rfl (Nat.le_of_ble_eq_true rfl) dX7_step_60 ⟨Nat.zero_le _, Nat.zero_le _⟩ (fun u13 H locs P14 hP hS _ => ?_)
              have hD : va_D (AWC a) (WC g a u13) := DWC hD
              subst P14
              refine lv_aload_n hx hb dX7_step_63 rfl (lv_at hl 0 rfl) ?_
              refine z_get (C := RX7) (T := TX7) (N := 7) (ci := 6) hx hb hts iX7 hown hK hP 0 rfl rfl 0 (by decide) (hts (.fieldLink RX7 10 "ShotBoard" "stage" "LShotBoard$Stage;") (by decide +kernel)) (.ref (a 1)) rfl dX7_step_64 ?_
              refine lv_iload_n hx hb dX7_step_67 rfl (lv_at hl 1 rfl) ?_
              refine lv_iload_n hx hb dX7_step_68 rfl (lv_at hl 2 rfl) ?_
              refine lv_iload_n hx hb dX7_step_69 rfl (lv_at hl 3 rfl) ?_
              refine z_cVI (q0 := 1) (ci := 5) (As := [.int (iZ (pp)), .int (iZ (tt)), .int (iZ (ff))]) (rest := []) S (m_X6_addStep l D g a (up (st) 21 (2) (0)) (pp) (tt) (ff) (fun p a9 b9 => hI.c20 p a9 b9) (by omega) (by omega)) (cwV 3 hts gX7_step_X6_addStep rfl rfl rfl (by decide +kernel) ⟨Nat.le_trans (by decide) hRf, Nat.le_trans (by decide) hRl⟩) hK hP hD hS (fun _ h => h) rfl rfl rfl hl.1 rfl (Nat.le_of_ble_eq_true rfl) dX7_step_70 ⟨Nat.zero_le _, Nat.zero_le _⟩ (fun r17 u15 H locs P16 hP hS _ => ?_)
              have hD : va_D (AWC a) (WC g a u15) := DWC hD
              have hpo := P16
              exact K _ (u15) _ _ _ _ hP hS (Or.inr (Or.inr ⟨⟨by omega, by omega, by omega⟩, by first | exact Or.inl hb1 | exact Or.inr (by omega), hpo.1, hpo.2⟩)) dX7_step_73
            · skip
              refine z_bipush hx hb dX7_step_53 (by decide +kernel) ?_
              exact K _ (st) _ _ _ _ hP hS (Or.inr (Or.inl ⟨⟨by omega, by omega, by omega⟩, hb1, by omega, rfl, rfl⟩)) dX7_step_55
        · skip
          have c4 := b2_0 c4
          refine z_iconst hx hb dX7_step_26 ?_
          exact K _ (st) _ _ _ _ hP hS (Or.inl ⟨fun z => by omega, rfl, rfl⟩) dX7_step_27
abbrev rX7_wall : Room := { frames := 1, cells := 0, slots := 0, locals := 22 }
set_option maxHeartbeats 4000000 in
set_option maxRecDepth 100000 in
theorem m_X7_wall (l : Launch) (D : va_G) (g : Nat → ClassId) (a : Nat → Nat) (st : SS) (ff : Int) (gg : Int) (hI : IC st) (h1 : rg ff) (h2 : rg gg) : Met l yX7_wall wsX7_wall rX7_wall (PcM D g (AWC a) (WC g a st) [.ref (a 0), .int (iZ (ff)), .int (iZ (gg))]) (QcI D (WC g a) (AWC a) (fun r u => (¬ WALLp ff gg ∧ r = -1 ∧ u = st) ∨ (WALLp ff gg ∧ 12 ≤ st 19 1 ∧ r = -2 ∧ u = st) ∨ (WALLp ff gg ∧ st 19 1 < 12 ∧ r = st 19 1 ∧ u = up (up (up (up st 21 2 0) 1 (st 19 1) ff) 2 (st 19 1) gg) 19 1 (st 19 1 + 1)))) 0 0 (AWC a) := by
  refine metI (cc := cX7_wall) (maxL := 3) (ret := (some .int)) (own := RX7) (by decide) rfl rfl (Nat.le_of_ble_eq_true rfl) (Or.inl rfl) ?_
  intro p e R s m args below meth c Q ls S hRf hRl hK hP hD hS hl K
  have hx := S.1
  have hb := S.2.1
  have hown := S.2.2.2.1
  have hts := S.2.2.2.2
  have hRf : 1 ≤ R.frames := hRf
  have hRl : 22 ≤ R.locals := hRl
  have hl : lv_has ls 3 [(0, .ref (a 0)), (1, .int (iZ (ff))), (2, .int (iZ (gg)))] := hl
  have iX6 : ∀ w ∈ wsX60, w ∈ wsX7_wall := by decide +kernel
  have iX7 : ∀ w ∈ wsX70, w ∈ wsX7_wall := by decide +kernel
  have hB := hI.s
  refine lv_iload_n hx hb dX7_wall_0 rfl (lv_at hl 1 rfl) ?_
  refine z_cSS (As := [.int (iZ (ff))]) (rest := []) S (m_X7_isPlace l (ff) (by omega)) (va_cwS 1 hts gX7_wall_X7_isPlace rfl rfl rfl (by decide +kernel) ⟨Nat.le_trans (by decide) hRf, Nat.le_trans (by decide) hRl⟩) rfl hl.1 rfl (Nat.le_of_ble_eq_true rfl) dX7_wall_1 ⟨Nat.zero_le _, Nat.zero_le _⟩ ?_
  refine z_if_eq (tgt := 19) hx hb (b2_rg _) dX7_wall_4 (by decide) (fun c1 => ?_) (fun c1 => ?_)
  · skip
    have c1 := b2_0 c1
    refine z_iconst hx hb dX7_wall_19 ?_
    exact K _ (st) _ _ _ _ hP hS (Or.inl ⟨fun z => by omega, rfl, rfl⟩) dX7_wall_20
  · skip
    have c1 := b2_n0 c1
    refine lv_iload_n hx hb dX7_wall_7 rfl (lv_at hl 2 rfl) ?_
    refine z_cSS (As := [.int (iZ (gg))]) (rest := []) S (m_X7_isPlace l (gg) (by omega)) (va_cwS 1 hts gX7_wall_X7_isPlace rfl rfl rfl (by decide +kernel) ⟨Nat.le_trans (by decide) hRf, Nat.le_trans (by decide) hRl⟩) rfl hl.1 rfl (Nat.le_of_ble_eq_true rfl) dX7_wall_8 ⟨Nat.zero_le _, Nat.zero_le _⟩ ?_
    refine z_if_eq (tgt := 19) hx hb (b2_rg _) dX7_wall_11 (by decide) (fun c2 => ?_) (fun c2 => ?_)
    · skip
      have c2 := b2_0 c2
      refine z_iconst hx hb dX7_wall_19 ?_
      exact K _ (st) _ _ _ _ hP hS (Or.inl ⟨fun z => by omega, rfl, rfl⟩) dX7_wall_20
    · skip
      have c2 := b2_n0 c2
      refine lv_iload_n hx hb dX7_wall_14 rfl (lv_at hl 1 rfl) ?_
      refine lv_iload_n hx hb dX7_wall_15 rfl (lv_at hl 2 rfl) ?_
      refine z_icmp_ne (tgt := 21) hx hb (by omega) (by omega) dX7_wall_16 (by decide) (fun c3 => ?_) (fun c3 => ?_)
      · skip
        refine lv_aload_n hx hb dX7_wall_21 rfl (lv_at hl 0 rfl) ?_
        refine z_get (C := RX7) (T := TX7) (N := 7) (ci := 6) hx hb hts iX7 hown hK hP 0 rfl rfl 0 (by decide) (hts (.fieldLink RX7 10 "ShotBoard" "stage" "LShotBoard$Stage;") (by decide +kernel)) (.ref (a 1)) rfl dX7_wall_22 ?_
        refine z_get (C := RX6) (T := TX6) (N := 6) (ci := 5) hx hb hts iX6 hown hK hP 1 rfl rfl 5 (by decide) (hts (.fieldLink RX7 84 "ShotBoard$Stage" "walls" "I") (by decide +kernel)) (.int (iZ (st 19 (1)))) rfl dX7_wall_25 ?_
        refine z_bipush hx hb dX7_wall_28 (by decide +kernel) ?_
        refine z_icmp_lt (tgt := 36) hx hb (by omega) (by decide) dX7_wall_30 (by decide) (fun c4 => ?_) (fun c4 => ?_)
        · skip
          refine lv_aload_n hx hb dX7_wall_36 rfl (lv_at hl 0 rfl) ?_
          refine z_get (C := RX7) (T := TX7) (N := 7) (ci := 6) hx hb hts iX7 hown hK hP 0 rfl rfl 4 (by decide) (hts (.fieldLink RX7 44 "ShotBoard" "planner" "LShotBoard$Planner;") (by decide +kernel)) (.ref (a 5)) rfl dX7_wall_37 ?_
          refine z_cVV (q0 := 5) (ci := 2) (As := []) (rest := []) S (m_X3_forget l D g a (st) ) (cwV 0 hts gX7_wall_X3_forget rfl rfl rfl (by decide +kernel) ⟨Nat.le_trans (by decide) hRf, Nat.le_trans (by decide) hRl⟩) hK hP hD hS (fun _ h => h) rfl rfl rfl hl.1 rfl (Nat.le_of_ble_eq_true rfl) dX7_wall_40 ⟨Nat.zero_le _, Nat.zero_le _⟩ (fun u5 H locs P6 hP hS _ => ?_)
          have hD : va_D (AWC a) (WC g a u5) := DWC hD
          subst P6
          refine lv_aload_n hx hb dX7_wall_43 rfl (lv_at hl 0 rfl) ?_
          refine z_get (C := RX7) (T := TX7) (N := 7) (ci := 6) hx hb hts iX7 hown hK hP 0 rfl rfl 0 (by decide) (hts (.fieldLink RX7 10 "ShotBoard" "stage" "LShotBoard$Stage;") (by decide +kernel)) (.ref (a 1)) rfl dX7_wall_44 ?_
          refine lv_iload_n hx hb dX7_wall_47 rfl (lv_at hl 1 rfl) ?_
          refine lv_iload_n hx hb dX7_wall_48 rfl (lv_at hl 2 rfl) ?_
          refine z_cVI (q0 := 1) (ci := 5) (As := [.int (iZ (ff)), .int (iZ (gg))]) (rest := []) S (m_X6_addWall l D g a (up (st) 21 (2) (0)) (ff) (gg) (by show 0 ≤ st 19 1 ∧ st 19 1 < 12; omega)) (cwV 2 hts gX7_wall_X6_addWall rfl rfl rfl (by decide +kernel) ⟨Nat.le_trans (by decide) hRf, Nat.le_trans (by decide) hRl⟩) hK hP hD hS (fun _ h => h) rfl rfl rfl hl.1 rfl (Nat.le_of_ble_eq_true rfl) dX7_wall_49 ⟨Nat.zero_le _, Nat.zero_le _⟩ (fun r9 u7 H locs P8 hP hS _ => ?_)
          have hD : va_D (AWC a) (WC g a u7) := DWC hD
          have hpo := P8
          exact K _ (u7) _ _ _ _ hP hS (Or.inr (Or.inr ⟨⟨by omega, by omega, by omega⟩, by omega, hpo.1, hpo.2⟩)) dX7_wall_52
        · skip
          refine z_bipush hx hb dX7_wall_33 (by decide +kernel) ?_
          exact K _ (st) _ _ _ _ hP hS (Or.inr (Or.inl ⟨⟨by omega, by omega, by omega⟩, by omega, rfl, rfl⟩)) dX7_wall_35
      · skip
        refine z_iconst hx hb dX7_wall_19 ?_
        exact K _ (st) _ _ _ _ hP hS (Or.inl ⟨fun z => by omega, rfl, rfl⟩) dX7_wall_20
abbrev rX7_camera : Room := { frames := 1, cells := 0, slots := 0, locals := 22 }
set_option maxHeartbeats 4000000 in
set_option maxRecDepth 100000 in
theorem m_X7_camera (l : Launch) (D : va_G) (g : Nat → ClassId) (a : Nat → Nat) (st : SS) (ff : Int) (gg : Int) (hI : IC st) (h1 : rg ff) (h2 : rg gg) : Met l yX7_camera wsX7_camera rX7_camera (PcM D g (AWC a) (WC g a st) [.ref (a 0), .int (iZ (ff)), .int (iZ (gg))]) (QcI D (WC g a) (AWC a) (fun r u => (¬ (plc ff ∧ (0 ≤ gg ∧ gg < 4)) ∧ r = -1 ∧ u = st) ∨ ((plc ff ∧ (0 ≤ gg ∧ gg < 4)) ∧ 10 ≤ st 19 2 ∧ r = -2 ∧ u = st) ∨ ((plc ff ∧ (0 ≤ gg ∧ gg < 4)) ∧ st 19 2 < 10 ∧ r = st 19 2 ∧ u = up (up (up (up st 21 2 0) 3 (st 19 2) ff) 4 (st 19 2) gg) 19 2 (st 19 2 + 1)))) 0 0 (AWC a) := by
  refine metI (cc := cX7_camera) (maxL := 3) (ret := (some .int)) (own := RX7) (by decide) rfl rfl (Nat.le_of_ble_eq_true rfl) (Or.inl rfl) ?_
  intro p e R s m args below meth c Q ls S hRf hRl hK hP hD hS hl K
  have hx := S.1
  have hb := S.2.1
  have hown := S.2.2.2.1
  have hts := S.2.2.2.2
  have hRf : 1 ≤ R.frames := hRf
  have hRl : 22 ≤ R.locals := hRl
  have hl : lv_has ls 3 [(0, .ref (a 0)), (1, .int (iZ (ff))), (2, .int (iZ (gg)))] := hl
  have iX4 : ∀ w ∈ wsX40, w ∈ wsX7_camera := by decide +kernel
  have iX7 : ∀ w ∈ wsX70, w ∈ wsX7_camera := by decide +kernel
  have hB := hI.s
  refine lv_iload_n hx hb dX7_camera_0 rfl (lv_at hl 1 rfl) ?_
  refine z_cSS (As := [.int (iZ (ff))]) (rest := []) S (m_X7_isPlace l (ff) (by omega)) (va_cwS 1 hts gX7_camera_X7_isPlace rfl rfl rfl (by decide +kernel) ⟨Nat.le_trans (by decide) hRf, Nat.le_trans (by decide) hRl⟩) rfl hl.1 rfl (Nat.le_of_ble_eq_true rfl) dX7_camera_1 ⟨Nat.zero_le _, Nat.zero_le _⟩ ?_
  refine z_if_eq (tgt := 16) hx hb (b2_rg _) dX7_camera_4 (by decide) (fun c1 => ?_) (fun c1 => ?_)
  · skip
    have c1 := b2_0 c1
    refine z_iconst hx hb dX7_camera_16 ?_
    exact K _ (st) _ _ _ _ hP hS (Or.inl ⟨fun z => by omega, rfl, rfl⟩) dX7_camera_17
  · skip
    have c1 := b2_n0 c1
    refine lv_iload_n hx hb dX7_camera_7 rfl (lv_at hl 2 rfl) ?_
    refine z_if_lt (tgt := 16) hx hb (by omega) dX7_camera_8 (by decide) (fun c2 => ?_) (fun c2 => ?_)
    · skip
      refine z_iconst hx hb dX7_camera_16 ?_
      exact K _ (st) _ _ _ _ hP hS (Or.inl ⟨fun z => by omega, rfl, rfl⟩) dX7_camera_17
    · skip
      refine lv_iload_n hx hb dX7_camera_11 rfl (lv_at hl 2 rfl) ?_
      refine z_iconst hx hb dX7_camera_12 ?_
      refine z_icmp_lt (tgt := 18) hx hb (by omega) (by decide) dX7_camera_13 (by decide) (fun c3 => ?_) (fun c3 => ?_)
      · skip
        refine lv_aload_n hx hb dX7_camera_18 rfl (lv_at hl 0 rfl) ?_
        refine z_get (C := RX7) (T := TX7) (N := 7) (ci := 6) hx hb hts iX7 hown hK hP 0 rfl rfl 1 (by decide) (hts (.fieldLink RX7 19 "ShotBoard" "rig" "LShotBoard$Rig;") (by decide +kernel)) (.ref (a 2)) rfl dX7_camera_19 ?_
        refine z_get (C := RX4) (T := TX4) (N := 3) (ci := 3) hx hb hts iX4 hown hK hP 2 rfl rfl 2 (by decide) (hts (.fieldLink RX7 91 "ShotBoard$Rig" "cameras" "I") (by decide +kernel)) (.int (iZ (st 19 (2)))) rfl dX7_camera_22 ?_
        refine z_bipush hx hb dX7_camera_25 (by decide +kernel) ?_
        refine z_icmp_lt (tgt := 33) hx hb (by omega) (by decide) dX7_camera_27 (by decide) (fun c4 => ?_) (fun c4 => ?_)
        · skip
          refine lv_aload_n hx hb dX7_camera_33 rfl (lv_at hl 0 rfl) ?_
          refine z_get (C := RX7) (T := TX7) (N := 7) (ci := 6) hx hb hts iX7 hown hK hP 0 rfl rfl 4 (by decide) (hts (.fieldLink RX7 44 "ShotBoard" "planner" "LShotBoard$Planner;") (by decide +kernel)) (.ref (a 5)) rfl dX7_camera_34 ?_
          refine z_cVV (q0 := 5) (ci := 2) (As := []) (rest := []) S (m_X3_forget l D g a (st) ) (cwV 0 hts gX7_camera_X3_forget rfl rfl rfl (by decide +kernel) ⟨Nat.le_trans (by decide) hRf, Nat.le_trans (by decide) hRl⟩) hK hP hD hS (fun _ h => h) rfl rfl rfl hl.1 rfl (Nat.le_of_ble_eq_true rfl) dX7_camera_37 ⟨Nat.zero_le _, Nat.zero_le _⟩ (fun u5 H locs P6 hP hS _ => ?_)
          have hD : va_D (AWC a) (WC g a u5) := DWC hD
          subst P6
          refine lv_aload_n hx hb dX7_camera_40 rfl (lv_at hl 0 rfl) ?_
          refine z_get (C := RX7) (T := TX7) (N := 7) (ci := 6) hx hb hts iX7 hown hK hP 0 rfl rfl 1 (by decide) (hts (.fieldLink RX7 19 "ShotBoard" "rig" "LShotBoard$Rig;") (by decide +kernel)) (.ref (a 2)) rfl dX7_camera_41 ?_
          refine lv_iload_n hx hb dX7_camera_44 rfl (lv_at hl 1 rfl) ?_
          refine lv_iload_n hx hb dX7_camera_45 rfl (lv_at hl 2 rfl) ?_
          refine z_cVI (q0 := 2) (ci := 3) (As := [.int (iZ (ff)), .int (iZ (gg))]) (rest := []) S (m_X4_add l D g a (up (st) 21 (2) (0)) (ff) (gg) (by show 0 ≤ st 19 2 ∧ st 19 2 < 10; omega)) (cwV 2 hts gX7_camera_X4_add rfl rfl rfl (by decide +kernel) ⟨Nat.le_trans (by decide) hRf, Nat.le_trans (by decide) hRl⟩) hK hP hD hS (fun _ h => h) rfl rfl rfl hl.1 rfl (Nat.le_of_ble_eq_true rfl) dX7_camera_46 ⟨Nat.zero_le _, Nat.zero_le _⟩ (fun r9 u7 H locs P8 hP hS _ => ?_)
          have hD : va_D (AWC a) (WC g a u7) := DWC hD
          have hpo := P8
          exact K _ (u7) _ _ _ _ hP hS (Or.inr (Or.inr ⟨⟨by omega, by omega⟩, by omega, hpo.1, hpo.2⟩)) dX7_camera_49
        · skip
          refine z_bipush hx hb dX7_camera_30 (by decide +kernel) ?_
          exact K _ (st) _ _ _ _ hP hS (Or.inr (Or.inl ⟨⟨by omega, by omega⟩, by omega, rfl, rfl⟩)) dX7_camera_32
      · skip
        refine z_iconst hx hb dX7_camera_16 ?_
        exact K _ (st) _ _ _ _ hP hS (Or.inl ⟨fun z => by omega, rfl, rfl⟩) dX7_camera_17
abbrev rX7_open : Room := { frames := 1, cells := 0, slots := 0, locals := 20 }
set_option maxHeartbeats 4000000 in
set_option maxRecDepth 100000 in
theorem m_X7_open (l : Launch) (D : va_G) (g : Nat → ClassId) (a : Nat → Nat) (st : SS) (hI : IC st) : Met l yX7_open wsX7_open rX7_open (PcM D g (AWC a) (WC g a st) [.ref (a 0)]) (QcI D (WC g a) (AWC a) (fun r u => (st 19 1 = 0 ∧ r = -3 ∧ u = st) ∨ (st 19 1 ≠ 0 ∧ r = st 19 1 - 1 ∧ u = up (up st 21 2 0) 19 1 (st 19 1 - 1)))) 0 0 (AWC a) := by
  refine metI (cc := cX7_open) (maxL := 1) (ret := (some .int)) (own := RX7) (by decide) rfl rfl (Nat.le_of_ble_eq_true rfl) (Or.inl rfl) ?_
  intro p e R s m args below meth c Q ls S hRf hRl hK hP hD hS hl K
  have hx := S.1
  have hb := S.2.1
  have hown := S.2.2.2.1
  have hts := S.2.2.2.2
  have hRf : 1 ≤ R.frames := hRf
  have hRl : 20 ≤ R.locals := hRl
  have hl : lv_has ls 1 [(0, .ref (a 0))] := hl
  have iX6 : ∀ w ∈ wsX60, w ∈ wsX7_open := by decide +kernel
  have iX7 : ∀ w ∈ wsX70, w ∈ wsX7_open := by decide +kernel
  have hB := hI.s
  refine lv_aload_n hx hb dX7_open_0 rfl (lv_at hl 0 rfl) ?_
  refine z_get (C := RX7) (T := TX7) (N := 7) (ci := 6) hx hb hts iX7 hown hK hP 0 rfl rfl 0 (by decide) (hts (.fieldLink RX7 10 "ShotBoard" "stage" "LShotBoard$Stage;") (by decide +kernel)) (.ref (a 1)) rfl dX7_open_1 ?_
  refine z_get (C := RX6) (T := TX6) (N := 6) (ci := 5) hx hb hts iX6 hown hK hP 1 rfl rfl 5 (by decide) (hts (.fieldLink RX7 84 "ShotBoard$Stage" "walls" "I") (by decide +kernel)) (.int (iZ (st 19 (1)))) rfl dX7_open_4 ?_
  refine z_if_ne (tgt := 13) hx hb (by omega) dX7_open_7 (by decide) (fun c1 => ?_) (fun c1 => ?_)
  · skip
    refine lv_aload_n hx hb dX7_open_13 rfl (lv_at hl 0 rfl) ?_
    refine z_get (C := RX7) (T := TX7) (N := 7) (ci := 6) hx hb hts iX7 hown hK hP 0 rfl rfl 4 (by decide) (hts (.fieldLink RX7 44 "ShotBoard" "planner" "LShotBoard$Planner;") (by decide +kernel)) (.ref (a 5)) rfl dX7_open_14 ?_
    refine z_cVV (q0 := 5) (ci := 2) (As := []) (rest := []) S (m_X3_forget l D g a (st) ) (cwV 0 hts gX7_open_X3_forget rfl rfl rfl (by decide +kernel) ⟨Nat.le_trans (by decide) hRf, Nat.le_trans (by decide) hRl⟩) hK hP hD hS (fun _ h => h) rfl rfl rfl hl.1 rfl (Nat.le_of_ble_eq_true rfl) dX7_open_17 ⟨Nat.zero_le _, Nat.zero_le _⟩ (fun u2 H locs P3 hP hS _ => ?_)
    have hD : va_D (AWC a) (WC g a u2) := DWC hD
    subst P3
    refine lv_aload_n hx hb dX7_open_20 rfl (lv_at hl 0 rfl) ?_
    refine z_get (C := RX7) (T := TX7) (N := 7) (ci := 6) hx hb hts iX7 hown hK hP 0 rfl rfl 0 (by decide) (hts (.fieldLink RX7 10 "ShotBoard" "stage" "LShotBoard$Stage;") (by decide +kernel)) (.ref (a 1)) rfl dX7_open_21 ?_
    refine lv_dup hx hb dX7_open_24 rfl ?_
    refine z_get (C := RX6) (T := TX6) (N := 6) (ci := 5) hx hb hts iX6 hown hK hP 1 rfl rfl 5 (by decide) (hts (.fieldLink RX7 84 "ShotBoard$Stage" "walls" "I") (by decide +kernel)) (.int (iZ (st 19 (1)))) rfl dX7_open_25 ?_
    refine z_iconst hx hb dX7_open_28 ?_
    refine z_isub hx hb dX7_open_29 ?_
    refine z_put (C := RX6) (T := TX6) (N := 6) (ci := 5) (ty := .int) hx hb hts iX6 tyX6 tyX6_ok nmX6 hown hK hP hD hS 1 rfl rfl 5 (by decide) (hts (.fieldLink RX7 84 "ShotBoard$Stage" "walls" "I") (by decide +kernel)) rfl (by decide +kernel) rfl rfl (Nat.le_of_ble_eq_true rfl) (WC g a (up (up (st) 21 (2) (0)) 19 (1) ((st 19 (1)) - (1)))) rfl dX7_open_30 (fun H locs hP hD hS => ?_)
    refine lv_aload_n hx hb dX7_open_33 rfl (lv_at hl 0 rfl) ?_
    refine z_get (C := RX7) (T := TX7) (N := 7) (ci := 6) hx hb hts iX7 hown hK hP 0 rfl rfl 0 (by decide) (hts (.fieldLink RX7 10 "ShotBoard" "stage" "LShotBoard$Stage;") (by decide +kernel)) (.ref (a 1)) rfl dX7_open_34 ?_
    refine z_get (C := RX6) (T := TX6) (N := 6) (ci := 5) hx hb hts iX6 hown hK hP 1 rfl rfl 5 (by decide) (hts (.fieldLink RX7 84 "ShotBoard$Stage" "walls" "I") (by decide +kernel)) (.int (iZ ((st 19 (1)) - (1)))) rfl dX7_open_37 ?_
    exact K _ (up (up (st) 21 (2) (0)) 19 (1) ((st 19 (1)) - (1))) _ _ _ _ hP hS (Or.inr ⟨by omega, rfl, rfl⟩) dX7_open_40
  · skip
    refine z_bipush hx hb dX7_open_10 (by decide +kernel) ?_
    exact K _ (st) _ _ _ _ hP hS (Or.inl ⟨by omega, rfl, rfl⟩) dX7_open_12
abbrev rX7_drop : Room := { frames := 1, cells := 0, slots := 0, locals := 20 }
set_option maxHeartbeats 4000000 in
set_option maxRecDepth 100000 in
theorem m_X7_drop (l : Launch) (D : va_G) (g : Nat → ClassId) (a : Nat → Nat) (st : SS) (hI : IC st) : Met l yX7_drop wsX7_drop rX7_drop (PcM D g (AWC a) (WC g a st) [.ref (a 0)]) (QcI D (WC g a) (AWC a) (fun r u => (st 19 3 = 0 ∧ r = -3 ∧ u = st) ∨ (st 19 3 ≠ 0 ∧ r = st 19 3 - 1 ∧ u = up (up st 21 2 0) 19 3 (st 19 3 - 1)))) 0 0 (AWC a) := by
  refine metI (cc := cX7_drop) (maxL := 1) (ret := (some .int)) (own := RX7) (by decide) rfl rfl (Nat.le_of_ble_eq_true rfl) (Or.inl rfl) ?_
  intro p e R s m args below meth c Q ls S hRf hRl hK hP hD hS hl K
  have hx := S.1
  have hb := S.2.1
  have hown := S.2.2.2.1
  have hts := S.2.2.2.2
  have hRf : 1 ≤ R.frames := hRf
  have hRl : 20 ≤ R.locals := hRl
  have hl : lv_has ls 1 [(0, .ref (a 0))] := hl
  have iX5 : ∀ w ∈ wsX50, w ∈ wsX7_drop := by decide +kernel
  have iX7 : ∀ w ∈ wsX70, w ∈ wsX7_drop := by decide +kernel
  have hB := hI.s
  refine lv_aload_n hx hb dX7_drop_0 rfl (lv_at hl 0 rfl) ?_
  refine z_get (C := RX7) (T := TX7) (N := 7) (ci := 6) hx hb hts iX7 hown hK hP 0 rfl rfl 2 (by decide) (hts (.fieldLink RX7 26 "ShotBoard" "script" "LShotBoard$Script;") (by decide +kernel)) (.ref (a 3)) rfl dX7_drop_1 ?_
  refine z_get (C := RX5) (T := TX5) (N := 3) (ci := 4) hx hb hts iX5 hown hK hP 3 rfl rfl 1 (by decide) (hts (.fieldLink RX7 103 "ShotBoard$Script" "boards" "I") (by decide +kernel)) (.int (iZ (st 19 (3)))) rfl dX7_drop_4 ?_
  refine z_if_ne (tgt := 13) hx hb (by omega) dX7_drop_7 (by decide) (fun c1 => ?_) (fun c1 => ?_)
  · skip
    refine lv_aload_n hx hb dX7_drop_13 rfl (lv_at hl 0 rfl) ?_
    refine z_get (C := RX7) (T := TX7) (N := 7) (ci := 6) hx hb hts iX7 hown hK hP 0 rfl rfl 4 (by decide) (hts (.fieldLink RX7 44 "ShotBoard" "planner" "LShotBoard$Planner;") (by decide +kernel)) (.ref (a 5)) rfl dX7_drop_14 ?_
    refine z_cVV (q0 := 5) (ci := 2) (As := []) (rest := []) S (m_X3_forget l D g a (st) ) (cwV 0 hts gX7_drop_X3_forget rfl rfl rfl (by decide +kernel) ⟨Nat.le_trans (by decide) hRf, Nat.le_trans (by decide) hRl⟩) hK hP hD hS (fun _ h => h) rfl rfl rfl hl.1 rfl (Nat.le_of_ble_eq_true rfl) dX7_drop_17 ⟨Nat.zero_le _, Nat.zero_le _⟩ (fun u2 H locs P3 hP hS _ => ?_)
    have hD : va_D (AWC a) (WC g a u2) := DWC hD
    subst P3
    refine lv_aload_n hx hb dX7_drop_20 rfl (lv_at hl 0 rfl) ?_
    refine z_get (C := RX7) (T := TX7) (N := 7) (ci := 6) hx hb hts iX7 hown hK hP 0 rfl rfl 2 (by decide) (hts (.fieldLink RX7 26 "ShotBoard" "script" "LShotBoard$Script;") (by decide +kernel)) (.ref (a 3)) rfl dX7_drop_21 ?_
    refine lv_dup hx hb dX7_drop_24 rfl ?_
    refine z_get (C := RX5) (T := TX5) (N := 3) (ci := 4) hx hb hts iX5 hown hK hP 3 rfl rfl 1 (by decide) (hts (.fieldLink RX7 103 "ShotBoard$Script" "boards" "I") (by decide +kernel)) (.int (iZ (st 19 (3)))) rfl dX7_drop_25 ?_
    refine z_iconst hx hb dX7_drop_28 ?_
    refine z_isub hx hb dX7_drop_29 ?_
    refine z_put (C := RX5) (T := TX5) (N := 3) (ci := 4) (ty := .int) hx hb hts iX5 tyX5 tyX5_ok nmX5 hown hK hP hD hS 3 rfl rfl 1 (by decide) (hts (.fieldLink RX7 103 "ShotBoard$Script" "boards" "I") (by decide +kernel)) rfl (by decide +kernel) rfl rfl (Nat.le_of_ble_eq_true rfl) (WC g a (up (up (st) 21 (2) (0)) 19 (3) ((st 19 (3)) - (1)))) rfl dX7_drop_30 (fun H locs hP hD hS => ?_)
    refine lv_aload_n hx hb dX7_drop_33 rfl (lv_at hl 0 rfl) ?_
    refine z_get (C := RX7) (T := TX7) (N := 7) (ci := 6) hx hb hts iX7 hown hK hP 0 rfl rfl 2 (by decide) (hts (.fieldLink RX7 26 "ShotBoard" "script" "LShotBoard$Script;") (by decide +kernel)) (.ref (a 3)) rfl dX7_drop_34 ?_
    refine z_get (C := RX5) (T := TX5) (N := 3) (ci := 4) hx hb hts iX5 hown hK hP 3 rfl rfl 1 (by decide) (hts (.fieldLink RX7 103 "ShotBoard$Script" "boards" "I") (by decide +kernel)) (.int (iZ ((st 19 (3)) - (1)))) rfl dX7_drop_37 ?_
    exact K _ (up (up (st) 21 (2) (0)) 19 (3) ((st 19 (3)) - (1))) _ _ _ _ hP hS (Or.inr ⟨by omega, rfl, rfl⟩) dX7_drop_40
  · skip
    refine z_bipush hx hb dX7_drop_10 (by decide +kernel) ?_
    exact K _ (st) _ _ _ _ hP hS (Or.inl ⟨by omega, rfl, rfl⟩) dX7_drop_12
abbrev rX7_rate : Room := { frames := 0, cells := 0, slots := 0, locals := 0 }
set_option maxHeartbeats 4000000 in
set_option maxRecDepth 100000 in
theorem m_X7_rate (l : Launch) (D : va_G) (g : Nat → ClassId) (a : Nat → Nat) (st : SS) (xx : Int) (hI : IC st) (hx0 : rg xx) : Met l yX7_rate wsX7_rate rX7_rate (PcM D g (AWC a) (WC g a st) [.ref (a 0), .int (iZ (xx))]) (QcI D (WC g a) (AWC a) (fun r u => (¬ (1 ≤ xx ∧ xx ≤ 20) ∧ r = -1 ∧ u = st) ∨ ((1 ≤ xx ∧ xx ≤ 20) ∧ r = st 19 4 ∧ u = up st 19 4 xx))) 0 0 (AWC a) := by
  refine metI (cc := cX7_rate) (maxL := 3) (ret := (some .int)) (own := RX7) (by decide) rfl rfl (Nat.le_of_ble_eq_true rfl) (Or.inl rfl) ?_
  intro p e R s m args below meth c Q ls S hRf hRl hK hP hD hS hl K
  have hx := S.1
  have hb := S.2.1
  have hown := S.2.2.2.1
  have hts := S.2.2.2.2
  have hRf : 0 ≤ R.frames := hRf
  have hRl : 0 ≤ R.locals := hRl
  have hl : lv_has ls 3 [(0, .ref (a 0)), (1, .int (iZ (xx)))] := hl
  have iX5 : ∀ w ∈ wsX50, w ∈ wsX7_rate := by decide +kernel
  have iX7 : ∀ w ∈ wsX70, w ∈ wsX7_rate := by decide +kernel
  have hB := hI.s
  refine lv_iload_n hx hb dX7_rate_0 rfl (lv_at hl 1 rfl) ?_
  refine z_iconst hx hb dX7_rate_1 ?_
  refine z_icmp_lt (tgt := 11) hx hb (by omega) (by decide) dX7_rate_2 (by decide) (fun c1 => ?_) (fun c1 => ?_)
  · skip
    refine z_iconst hx hb dX7_rate_11 ?_
    exact K _ (st) _ _ _ _ hP hS (Or.inl ⟨fun z => by omega, rfl, rfl⟩) dX7_rate_12
  · skip
    refine lv_iload_n hx hb dX7_rate_5 rfl (lv_at hl 1 rfl) ?_
    refine z_bipush hx hb dX7_rate_6 (by decide +kernel) ?_
    refine z_icmp_le (tgt := 13) hx hb (by omega) (by decide) dX7_rate_8 (by decide) (fun c2 => ?_) (fun c2 => ?_)
    · skip
      refine lv_aload_n hx hb dX7_rate_13 rfl (lv_at hl 0 rfl) ?_
      refine z_get (C := RX7) (T := TX7) (N := 7) (ci := 6) hx hb hts iX7 hown hK hP 0 rfl rfl 2 (by decide) (hts (.fieldLink RX7 26 "ShotBoard" "script" "LShotBoard$Script;") (by decide +kernel)) (.ref (a 3)) rfl dX7_rate_14 ?_
      refine z_get (C := RX5) (T := TX5) (N := 3) (ci := 4) hx hb hts iX5 hown hK hP 3 rfl rfl 2 (by decide) (hts (.fieldLink RX7 109 "ShotBoard$Script" "wordsPerTick" "I") (by decide +kernel)) (.int (iZ (st 19 (4)))) rfl dX7_rate_17 ?_
      refine lv_istore_n (lv' := [(2, .int (iZ (st 19 (4)))), (0, .ref (a 0)), (1, .int (iZ (xx)))]) hx hb dX7_rate_20 rfl hl (by decide) rfl (fun ls hl => ?_)
      refine lv_aload_n hx hb dX7_rate_21 rfl (lv_at hl 1 rfl) ?_
      refine z_get (C := RX7) (T := TX7) (N := 7) (ci := 6) hx hb hts iX7 hown hK hP 0 rfl rfl 2 (by decide) (hts (.fieldLink RX7 26 "ShotBoard" "script" "LShotBoard$Script;") (by decide +kernel)) (.ref (a 3)) rfl dX7_rate_22 ?_
      refine lv_iload_n hx hb dX7_rate_25 rfl (lv_at hl 2 rfl) ?_
      refine z_put (C := RX5) (T := TX5) (N := 3) (ci := 4) (ty := .int) hx hb hts iX5 tyX5 tyX5_ok nmX5 hown hK hP hD hS 3 rfl rfl 2 (by decide) (hts (.fieldLink RX7 109 "ShotBoard$Script" "wordsPerTick" "I") (by decide +kernel)) rfl (by decide +kernel) rfl rfl (Nat.le_of_ble_eq_true rfl) (WC g a (up (st) 19 (4) (xx))) rfl dX7_rate_26 (fun H locs hP hD hS => ?_)
      refine lv_iload_n hx hb dX7_rate_29 rfl (lv_at hl 0 rfl) ?_
      exact K _ (up (st) 19 (4) (xx)) _ _ _ _ hP hS (Or.inr ⟨by omega, rfl, rfl⟩) dX7_rate_30
    · skip
      refine z_iconst hx hb dX7_rate_11 ?_
      exact K _ (st) _ _ _ _ hP hS (Or.inl ⟨fun z => by omega, rfl, rfl⟩) dX7_rate_12
abbrev rX7_board : Room := { frames := 5, cells := 0, slots := 0, locals := 108 }
set_option maxHeartbeats 4000000 in
set_option maxRecDepth 100000 in
theorem m_X7_board (l : Launch) (D : va_G) (g : Nat → ClassId) (a : Nat → Nat) (st : SS) (ww : Int) (zz : Int) (sp : Int) (wd : Int) (hI : IC st) (h1 : rg ww) (h2 : rg zz) (h3 : rg sp) (h4 : rg wd) : Met l yX7_board wsX7_board rX7_board (PcM D g (AWC a) (WC g a st) [.ref (a 0), .int (iZ (ww)), .int (iZ (zz)), .int (iZ (sp)), .int (iZ (wd))]) (QcI D (WC g a) (AWC a) (fun r u => (¬ BOARDp (st 19 0) ww zz sp wd ∧ r = -1 ∧ u = st) ∨ (BOARDp (st 19 0) ww zz sp wd ∧ 8 ≤ st 19 3 ∧ r = -2 ∧ u = st) ∨ (BOARDp (st 19 0) ww zz sp wd ∧ st 19 3 < 8 ∧ r = st 19 3 ∧ u = NBD (up st 21 2 0) ww zz sp wd))) 0 0 (AWC a) := by
  refine metI (cc := cX7_board) (maxL := 5) (ret := (some .int)) (own := RX7) (by decide) rfl rfl (Nat.le_of_ble_eq_true rfl) (Or.inl rfl) ?_
  intro p e R s m args below meth c Q ls S hRf hRl hK hP hD hS hl K
  have hx := S.1
  have hb := S.2.1
  have hown := S.2.2.2.1
  have hts := S.2.2.2.2
  have hRf : 5 ≤ R.frames := hRf
  have hRl : 108 ≤ R.locals := hRl
  have hl : lv_has ls 5 [(0, .ref (a 0)), (1, .int (iZ (ww))), (2, .int (iZ (zz))), (3, .int (iZ (sp))), (4, .int (iZ (wd)))] := hl
  have iX5 : ∀ w ∈ wsX50, w ∈ wsX7_board := by decide +kernel
  have iX7 : ∀ w ∈ wsX70, w ∈ wsX7_board := by decide +kernel
  have hB := hI.s
  refine lv_aload_n hx hb dX7_board_0 rfl (lv_at hl 0 rfl) ?_
  refine lv_iload_n hx hb dX7_board_1 rfl (lv_at hl 1 rfl) ?_
  refine z_cVR (q0 := 0) (ci := 6) (As := [.int (iZ (ww))]) (rest := []) S (m_X7_isWho l D g a (st) (ww) hI (by omega)) (cwV 1 hts gX7_board_X7_isWho rfl rfl rfl (by decide +kernel) ⟨Nat.le_trans (by decide) hRf, Nat.le_trans (by decide) hRl⟩) hK hP rfl rfl rfl hl.1 rfl (Nat.le_of_ble_eq_true rfl) dX7_board_2 ⟨Nat.zero_le _, Nat.zero_le _⟩ ?_
  refine z_if_eq (tgt := 39) hx hb (b2_rg _) dX7_board_5 (by decide) (fun c1 => ?_) (fun c1 => ?_)
  · skip
    have c1 := b2_0 c1
    have hw := c1
    refine z_iconst hx hb dX7_board_39 ?_
    exact K _ (st) _ _ _ _ hP hS (Or.inl ⟨fun z => by first | exact hw z.1 | (have := z.2; omega), rfl, rfl⟩) dX7_board_40
  · skip
    have c1 := b2_n0 c1
    have hw := c1
    have hw1 := hw.1
    have hw2 := hw.2.1
    have hw3 := hw.2.2.1
    have hw4 := hw.2.2.2.1
    have hp6 := pw6 (n := st 19 0) (by omega) (by omega)
    refine lv_iload_n hx hb dX7_board_8 rfl (lv_at hl 3 rfl) ?_
    refine z_cSS (As := [.int (iZ (sp))]) (rest := []) S (m_X7_isSpan l (sp) (by omega)) (va_cwS 1 hts gX7_board_X7_isSpan rfl rfl rfl (by decide +kernel) ⟨Nat.le_trans (by decide) hRf, Nat.le_trans (by decide) hRl⟩) rfl hl.1 rfl (Nat.le_of_ble_eq_true rfl) dX7_board_9 ⟨Nat.zero_le _, Nat.zero_le _⟩ ?_
    refine z_if_eq (tgt := 39) hx hb (b2_rg _) dX7_board_12 (by decide) (fun c2 => ?_) (fun c2 => ?_)
    · skip
      have c2 := b2_0 c2
      have hs := c2
      refine z_iconst hx hb dX7_board_39 ?_
      exact K _ (st) _ _ _ _ hP hS (Or.inl ⟨fun z => by first | exact hw z.1 | (have := z.2; omega), rfl, rfl⟩) dX7_board_40
    · skip
      have c2 := b2_n0 c2
      have hs := c2
      refine lv_iload_n hx hb dX7_board_15 rfl (lv_at hl 2 rfl) ?_
      refine z_iconst hx hb dX7_board_16 ?_
      refine z_icmp_lt (tgt := 39) hx hb (by omega) (by decide) dX7_board_17 (by decide) (fun c3 => ?_) (fun c3 => ?_)
      · skip
        refine z_iconst hx hb dX7_board_39 ?_
        exact K _ (st) _ _ _ _ hP hS (Or.inl ⟨fun z => by first | exact hw z.1 | (have := z.2; omega), rfl, rfl⟩) dX7_board_40
      · skip
        refine lv_iload_n hx hb dX7_board_20 rfl (lv_at hl 2 rfl) ?_
        refine z_bipush hx hb dX7_board_21 (by decide +kernel) ?_
        refine z_icmp_gt (tgt := 39) hx hb (by omega) (by decide) dX7_board_23 (by decide) (fun c4 => ?_) (fun c4 => ?_)
        · skip
          refine z_iconst hx hb dX7_board_39 ?_
          exact K _ (st) _ _ _ _ hP hS (Or.inl ⟨fun z => by first | exact hw z.1 | (have := z.2; omega), rfl, rfl⟩) dX7_board_40
        · skip
          refine lv_iload hx hb dX7_board_26 (lv_at hl 4 rfl) ?_
          refine z_if_lt (tgt := 39) hx hb (by omega) dX7_board_28 (by decide) (fun c5 => ?_) (fun c5 => ?_)
          · skip
            refine z_iconst hx hb dX7_board_39 ?_
            exact K _ (st) _ _ _ _ hP hS (Or.inl ⟨fun z => by first | exact hw z.1 | (have := z.2; omega), rfl, rfl⟩) dX7_board_40
          · skip
            refine lv_iload hx hb dX7_board_31 (lv_at hl 4 rfl) ?_
            refine z_sipush hx hb dX7_board_33 (by decide +kernel) ?_
            refine z_icmp_le (tgt := 41) hx hb (by omega) (by decide) dX7_board_36 (by decide) (fun c6 => ?_) (fun c6 => ?_)
            · skip
              refine lv_aload_n hx hb dX7_board_41 rfl (lv_at hl 0 rfl) ?_
              refine z_get (C := RX7) (T := TX7) (N := 7) (ci := 6) hx hb hts iX7 hown hK hP 0 rfl rfl 2 (by decide) (hts (.fieldLink RX7 26 "ShotBoard" "script" "LShotBoard$Script;") (by decide +kernel)) (.ref (a 3)) rfl dX7_board_42 ?_
              refine z_get (C := RX5) (T := TX5) (N := 3) (ci := 4) hx hb hts iX5 hown hK hP 3 rfl rfl 1 (by decide) (hts (.fieldLink RX7 103 "ShotBoard$Script" "boards" "I") (by decide +kernel)) (.int (iZ (st 19 (3)))) rfl dX7_board_45 ?_
              refine z_bipush hx hb dX7_board_48 (by decide +kernel) ?_
              refine z_icmp_lt (tgt := 56) hx hb (by omega) (by decide) dX7_board_50 (by decide) (fun c7 => ?_) (fun c7 => ?_)
              · skip
                refine lv_aload_n hx hb dX7_board_56 rfl (lv_at hl 0 rfl) ?_
                refine z_get (C := RX7) (T := TX7) (N := 7) (ci := 6) hx hb hts iX7 hown hK hP 0 rfl rfl 4 (by decide) (hts (.fieldLink RX7 44 "ShotBoard" "planner" "LShotBoard$Planner;") (by decide +kernel)) (.ref (a 5)) rfl dX7_board_57 ?_
                refine z_cVV (q0 := 5) (ci := 2) (As := []) (rest := []) S (m_X3_forget l D g a (st) ) (cwV 0 hts gX7_board_X3_forget rfl rfl rfl (by decide +kernel) ⟨Nat.le_trans (by decide) hRf, Nat.le_trans (by decide) hRl⟩) hK hP hD hS (fun _ h => h) rfl rfl rfl hl.1 rfl (Nat.le_of_ble_eq_true rfl) dX7_board_60 ⟨Nat.zero_le _, Nat.zero_le _⟩ (fun u8 H locs P9 hP hS _ => ?_)
                have hD : va_D (AWC a) (WC g a u8) := DWC hD
                subst P9
                refine lv_aload_n hx hb dX7_board_63 rfl (lv_at hl 0 rfl) ?_
                refine z_get (C := RX7) (T := TX7) (N := 7) (ci := 6) hx hb hts iX7 hown hK hP 0 rfl rfl 2 (by decide) (hts (.fieldLink RX7 26 "ShotBoard" "script" "LShotBoard$Script;") (by decide +kernel)) (.ref (a 3)) rfl dX7_board_64 ?_
                refine lv_iload_n hx hb dX7_board_67 rfl (lv_at hl 1 rfl) ?_
                refine lv_iload_n hx hb dX7_board_68 rfl (lv_at hl 2 rfl) ?_
                refine lv_iload_n hx hb dX7_board_69 rfl (lv_at hl 3 rfl) ?_
                refine lv_iload hx hb dX7_board_70 (lv_at hl 4 rfl) ?_
                refine z_cVI (q0 := 3) (ci := 4) (As := [.int (iZ (ww)), .int (iZ (zz)), .int (iZ (sp)), .int (iZ (wd))]) (rest := []) S (m_X5_add l D g a (up (st) 21 (2) (0)) (ww) (zz) (sp) (wd) (IC_21 hI) (by show st 19 3 < 8; omega) (by omega) (by omega) (by omega) (by omega) (zor_64 (by omega) (by omega) (by omega) (by omega))) (cwV 4 hts gX7_board_X5_add rfl rfl rfl (by decide +kernel) ⟨Nat.le_trans (by decide) hRf, Nat.le_trans (by decide) hRl⟩) hK hP hD hS (fun _ h => h) rfl rfl rfl hl.1 rfl (Nat.le_of_ble_eq_true rfl) dX7_board_72 ⟨Nat.zero_le _, Nat.zero_le _⟩ (fun r12 u10 H locs P11 hP hS _ => ?_)
                have hD : va_D (AWC a) (WC g a u10) := DWC hD
                have hpo := P11
                exact K _ (u10) _ _ _ _ hP hS (Or.inr (Or.inr ⟨⟨hw, hs, by omega, by omega⟩, by omega, hpo.1, hpo.2⟩)) dX7_board_75
              · skip
                refine z_bipush hx hb dX7_board_53 (by decide +kernel) ?_
                exact K _ (st) _ _ _ _ hP hS (Or.inr (Or.inl ⟨⟨hw, hs, by omega, by omega⟩, by omega, rfl, rfl⟩)) dX7_board_55
            · skip
              refine z_iconst hx hb dX7_board_39 ?_
              exact K _ (st) _ _ _ _ hP hS (Or.inl ⟨fun z => by first | exact hw z.1 | (have := z.2; omega), rfl, rfl⟩) dX7_board_40
