abbrev rX8_fewest : Room := { frames := 8, cells := 0, slots := 0, locals := 188 }
set_option maxHeartbeats 4000000 in
set_option maxRecDepth 100000 in
theorem m_X8_fewest (l : Launch) (D : va_G) (g : Nat → ClassId) (a : Nat → Nat) (st : SS) (hI : IM st) (hQ : IS st) : Met l yX8_fewest wsX8_fewest rX8_fewest (PcM D g (AWM a) (WM g a st) [.ref (a 0)]) (QcI D (WM g a) (AWM a) (fun r u => FND st r u)) 0 0 (AWM a) := by
  refine metI (cc := cX8_fewest) (maxL := 1) (ret := (some .int)) (own := RX8) (by decide) rfl rfl (Nat.le_of_ble_eq_true rfl) (Or.inl rfl) ?_
  intro p e R s m args below meth c Q ls S hRf hRl hK hP hD hS hl K
  have hx := S.1
  have hb := S.2.1
  have hown := S.2.2.2.1
  have hts := S.2.2.2.2
  have hRf : 8 ≤ R.frames := hRf
  have hRl : 188 ≤ R.locals := hRl
  have hl : lv_has ls 1 [(0, .ref (a 0))] := hl
  refine lv_aload_n hx hb dX8_fewest_0 rfl (lv_at hl 0 rfl) ?_
  refine z_cVI (q0 := 0) (ci := 7) (As := []) (rest := []) S (m_X8_finds l D g a (st) hI hQ) (cwV 0 hts gX8_fewest_X8_finds rfl rfl rfl (by decide +kernel) ⟨Nat.le_trans (by decide) hRf, Nat.le_trans (by decide) hRl⟩) hK hP hD hS (fun _ h => h) rfl rfl rfl hl.1 rfl (Nat.le_of_ble_eq_true rfl) dX8_fewest_1 ⟨Nat.zero_le _, Nat.zero_le _⟩ (fun r3 u1 H locs P2 hP hS _ => ?_)
  have hD : va_D (AWM a) (WM g a u1) := DWM hD
  have hf := P2
  exact K _ (u1) _ _ _ _ hP hS (hf) dX8_fewest_4
abbrev rX8_plan : Room := { frames := 8, cells := 0, slots := 0, locals := 188 }
set_option maxHeartbeats 4000000 in
set_option maxRecDepth 100000 in
theorem m_X8_plan (l : Launch) (D : va_G) (g : Nat → ClassId) (a : Nat → Nat) (st : SS) (xx : Int) (hI : IM st) (hQ : IS st) (hx0 : rg xx) : Met l yX8_plan wsX8_plan rX8_plan (PcM D g (AWM a) (WM g a st) [.ref (a 0), .int (iZ (xx))]) (QcI D (WM g a) (AWM a) (fun r u => (¬ inP (st 0 3) xx ∧ r = -1 ∧ u = st) ∨ (inP (st 0 3) xx ∧ ∃ n, FND st n u ∧ ((n = -5 ∧ r = -5) ∨ (n ≠ -5 ∧ r = u 19 xx))))) 0 0 (AWM a) := by
  refine metI (cc := cX8_plan) (maxL := 2) (ret := (some .int)) (own := RX8) (by decide) rfl rfl (Nat.le_of_ble_eq_true rfl) (Or.inl rfl) ?_
  intro p e R s m args below meth c Q ls S hRf hRl hK hP hD hS hl K
  have hx := S.1
  have hb := S.2.1
  have hown := S.2.2.2.1
  have hts := S.2.2.2.2
  have hRf : 8 ≤ R.frames := hRf
  have hRl : 188 ≤ R.locals := hRl
  have hl : lv_has ls 2 [(0, .ref (a 0)), (1, .int (iZ (xx)))] := hl
  have iX8 : ∀ w ∈ wsX80, w ∈ wsX8_plan := by decide +kernel
  have hB := hI.s
  refine lv_aload_n hx hb dX8_plan_0 rfl (lv_at hl 0 rfl) ?_
  refine lv_iload_n hx hb dX8_plan_1 rfl (lv_at hl 1 rfl) ?_
  refine z_cVR (q0 := 0) (ci := 7) (As := [.int (iZ (xx))]) (rest := []) S (m_X8_isBoard l D g a (st) (xx) hI (by omega)) (cwV 1 hts gX8_plan_X8_isBoard rfl rfl rfl (by decide +kernel) ⟨Nat.le_trans (by decide) hRf, Nat.le_trans (by decide) hRl⟩) hK hP rfl rfl rfl hl.1 rfl (Nat.le_of_ble_eq_true rfl) dX8_plan_2 ⟨Nat.zero_le _, Nat.zero_le _⟩ ?_
  refine z_if_ne (tgt := 10) hx hb (b2_rg _) dX8_plan_5 (by decide) (fun c1 => ?_) (fun c1 => ?_)
  · skip
    have c1 := b2_n0 c1
    have hin := c1
    refine lv_aload_n hx hb dX8_plan_10 rfl (lv_at hl 0 rfl) ?_
    refine z_cVI (q0 := 0) (ci := 7) (As := []) (rest := []) S (m_X8_finds l D g a (st) hI hQ) (cwV 0 hts gX8_plan_X8_finds rfl rfl rfl (by decide +kernel) ⟨Nat.le_trans (by decide) hRf, Nat.le_trans (by decide) hRl⟩) hK hP hD hS (fun _ h => h) rfl rfl rfl hl.1 rfl (Nat.le_of_ble_eq_true rfl) dX8_plan_11 ⟨Nat.zero_le _, Nat.zero_le _⟩ (fun r4 u2 H locs P3 hP hS _ => ?_)
    have hD : va_D (AWM a) (WM g a u2) := DWM hD
    have hf := P3
    have hfr : -5 ≤ r4 ∧ r4 ≤ 10 := by rcases hf.2.2.2 with z | z <;> have h9 := hI.s <;> omega
    have hQ2 := hf.2.1
    have hI2 : IM u2 := IM_pl hI hf.1
    have hu0 : u2 0 = st 0 := hf.1 0 (by decide)
    refine z_bipush hx hb dX8_plan_14 (by decide +kernel) ?_
    refine z_icmp_ne (tgt := 24) hx hb (by omega) (by decide) dX8_plan_16 (by decide) (fun c5 => ?_) (fun c5 => ?_)
    · skip
      have hn5 := c5
      refine lv_aload_n hx hb dX8_plan_24 rfl (lv_at hl 0 rfl) ?_
      refine z_get (C := RX8) (T := TX8) (N := 26) (ci := 7) hx hb hts iX8 hown hK hP 0 rfl rfl 24 (by decide) (hts (.fieldLink RX8 69 "ShotBoardModel" "row" "[I") (by decide +kernel)) (.ref (a 19)) rfl dX8_plan_25 ?_
      refine lv_iload_n hx hb dX8_plan_28 rfl (lv_at hl 1 rfl) ?_
      refine z_iald hx hb hK hP 19 (u2 19) rfl (by omega) (by omega) (by omega) dX8_plan_29 ?_
      exact K _ (u2) _ _ _ _ hP hS (Or.inr ⟨hin, _, hf, Or.inr ⟨hn5, rfl⟩⟩) dX8_plan_30
    · skip
      have hn5 := c5
      refine z_bipush hx hb dX8_plan_19 (by decide +kernel) ?_
      refine lv_goto (tgt := 30) hx hb dX8_plan_21 (by decide) ?_
      exact K _ (u2) _ _ _ _ hP hS (Or.inr ⟨hin, _, hf, Or.inl ⟨hn5, rfl⟩⟩) dX8_plan_30
  · skip
    have c1 := b2_0 c1
    have hin := c1
    refine z_iconst hx hb dX8_plan_8 ?_
    exact K _ (st) _ _ _ _ hP hS (Or.inl ⟨hin, rfl, rfl⟩) dX8_plan_9
abbrev rX8_swings : Room := { frames := 8, cells := 0, slots := 0, locals := 188 }
set_option maxHeartbeats 4000000 in
set_option maxRecDepth 100000 in
theorem m_X8_swings (l : Launch) (D : va_G) (g : Nat → ClassId) (a : Nat → Nat) (st : SS) (hI : IM st) (hQ : IS st) : Met l yX8_swings wsX8_swings rX8_swings (PcM D g (AWM a) (WM g a st) [.ref (a 0)]) (QcI D (WM g a) (AWM a) (fun r u => ∃ n, FND st n u ∧ ((n = -5 ∧ r = -5) ∨ (n ≠ -5 ∧ r = cP (fun b => u 8 (u 19 b) ≠ u 8 (u 19 (b - 1))) (st 0 3 - 1).toNat 1)))) 0 0 (AWM a) := by
  refine metI (cc := cX8_swings) (maxL := 3) (ret := (some .int)) (own := RX8) (by decide) rfl rfl (Nat.le_of_ble_eq_true rfl) (Or.inl rfl) ?_
  intro p e R s m args below meth c Q ls S hRf hRl hK hP hD hS hl K
  have hx := S.1
  have hb := S.2.1
  have hown := S.2.2.2.1
  have hts := S.2.2.2.2
  have hRf : 8 ≤ R.frames := hRf
  have hRl : 188 ≤ R.locals := hRl
  have hl : lv_has ls 3 [(0, .ref (a 0))] := hl
  have iX8 : ∀ w ∈ wsX80, w ∈ wsX8_swings := by decide +kernel
  have hB := hI.s
  refine lv_aload_n hx hb dX8_swings_0 rfl (lv_at hl 0 rfl) ?_
  refine z_cVI (q0 := 0) (ci := 7) (As := []) (rest := []) S (m_X8_finds l D g a (st) hI hQ) (cwV 0 hts gX8_swings_X8_finds rfl rfl rfl (by decide +kernel) ⟨Nat.le_trans (by decide) hRf, Nat.le_trans (by decide) hRl⟩) hK hP hD hS (fun _ h => h) rfl rfl rfl hl.1 rfl (Nat.le_of_ble_eq_true rfl) dX8_swings_1 ⟨Nat.zero_le _, Nat.zero_le _⟩ (fun r3 u1 H locs P2 hP hS _ => ?_)
  have hD : va_D (AWM a) (WM g a u1) := DWM hD
  have hf := P2
  have hfr : -5 ≤ r3 ∧ r3 ≤ 10 := by rcases hf.2.2.2 with z | z <;> have h9 := hI.s <;> omega
  have hQ2 := hf.2.1
  have hI2 : IM u1 := IM_pl hI hf.1
  have hu0 : u1 0 = st 0 := hf.1 0 (by decide)
  have hu03 := congrFun hu0 3
  refine z_bipush hx hb dX8_swings_4 (by decide +kernel) ?_
  refine z_icmp_ne (tgt := 12) hx hb (by omega) (by decide) dX8_swings_6 (by decide) (fun c4 => ?_) (fun c4 => ?_)
  · skip
    have hn5 := c4
    refine z_iconst hx hb dX8_swings_12 ?_
    refine lv_istore_n (lv' := [(1, .int (iZ (0))), (0, .ref (a 0))]) hx hb dX8_swings_13 rfl hl (by decide) rfl (fun ls hl => ?_)
    refine z_iconst hx hb dX8_swings_14 ?_
    refine lv_istore_n (lv' := [(2, .int (iZ (1))), (1, .int (iZ (0))), (0, .ref (a 0))]) hx hb dX8_swings_15 rfl hl (by decide) rfl (fun ls hl => ?_)
    have LP16 : ∀ (n16 : Nat) (ch : Int) (bb : Int), (st 0 3 + 1 - bb) < (n16 : Int) → (1 ≤ bb ∧ (bb ≤ st 0 3 ∨ bb = 1)) → (0 ≤ ch ∧ ch ≤ 8 - (st 0 3 - bb)) → (cP (fun b => u1 8 (u1 19 b) ≠ u1 8 (u1 19 (b - 1))) (st 0 3 - 1).toNat 1 = ch + cP (fun b => u1 8 (u1 19 b) ≠ u1 8 (u1 19 (b - 1))) (st 0 3 - bb).toNat bb) → ∀ (ls : Array Slot), lv_has ls 3 [(2, .int (iZ (bb))), (1, .int (iZ (ch))), (0, .ref (a 0))] → W p l e R s m args below meth c H locs 0 0 Q (F0 m 16 ls []) := by
      intro n16
      induction n16 with
      | zero =>
        intro ch bb hm16 j1 j0 j2  ls hl
        exact absurd hm16 (by omega)
      | succ n16 ih16 =>
        intro ch bb hm16 j1 j0 j2  ls hl
        refine lv_iload_n hx hb dX8_swings_16 rfl (lv_at hl 0 rfl) ?_
        refine lv_aload_n hx hb dX8_swings_17 rfl (lv_at hl 2 rfl) ?_
        refine z_get (C := RX8) (T := TX8) (N := 26) (ci := 7) hx hb hts iX8 hown hK hP 0 rfl rfl 11 (by decide) (hts (.fieldLink RX8 82 "ShotBoardModel" "boards" "I") (by decide +kernel)) (.int (iZ (u1 0 (3)))) rfl dX8_swings_18 ?_
        refine z_icmp_ge (tgt := 65) hx hb (by omega) (by omega) dX8_swings_21 (by decide) (fun c5 => ?_) (fun c5 => ?_)
        · skip
          refine lv_iload_n hx hb dX8_swings_65 rfl (lv_at hl 1 rfl) ?_
          exact K _ (u1) _ _ _ _ hP hS (⟨_, hf, Or.inr ⟨hn5, by rw [j2, show (st 0 3 - bb).toNat = 0 by omega]; simp [cP]⟩⟩) dX8_swings_66
        · skip
          have r1 := hQ2.c19 bb (by omega) (by omega)
          have r2 := hQ2.c19 (bb - 1) (by omega) (by omega)
          have l1 := hI2.c8 (u1 19 bb) (by omega) (by omega)
          have l2 := hI2.c8 (u1 19 (bb - 1)) (by omega) (by omega)
          refine lv_iload_n hx hb dX8_swings_24 rfl (lv_at hl 1 rfl) ?_
          refine lv_aload_n hx hb dX8_swings_25 rfl (lv_at hl 2 rfl) ?_
          refine z_get (C := RX8) (T := TX8) (N := 26) (ci := 7) hx hb hts iX8 hown hK hP 0 rfl rfl 10 (by decide) (hts (.fieldLink RX8 31 "ShotBoardModel" "light" "[I") (by decide +kernel)) (.ref (a 8)) rfl dX8_swings_26 ?_
          refine lv_aload_n hx hb dX8_swings_29 rfl (lv_at hl 2 rfl) ?_
          refine z_get (C := RX8) (T := TX8) (N := 26) (ci := 7) hx hb hts iX8 hown hK hP 0 rfl rfl 24 (by decide) (hts (.fieldLink RX8 69 "ShotBoardModel" "row" "[I") (by decide +kernel)) (.ref (a 19)) rfl dX8_swings_30 ?_
          refine lv_iload_n hx hb dX8_swings_33 rfl (lv_at hl 0 rfl) ?_
          refine z_iald hx hb hK hP 19 (u1 19) rfl (by omega) (by omega) (by omega) dX8_swings_34 ?_
          refine z_iald hx hb hK hP 8 (u1 8) rfl (by omega) (by omega) (by omega) dX8_swings_35 ?_
          refine lv_aload_n hx hb dX8_swings_36 rfl (lv_at hl 2 rfl) ?_
          refine z_get (C := RX8) (T := TX8) (N := 26) (ci := 7) hx hb hts iX8 hown hK hP 0 rfl rfl 10 (by decide) (hts (.fieldLink RX8 31 "ShotBoardModel" "light" "[I") (by decide +kernel)) (.ref (a 8)) rfl dX8_swings_37 ?_
          refine lv_aload_n hx hb dX8_swings_40 rfl (lv_at hl 2 rfl) ?_
          refine z_get (C := RX8) (T := TX8) (N := 26) (ci := 7) hx hb hts iX8 hown hK hP 0 rfl rfl 24 (by decide) (hts (.fieldLink RX8 69 "ShotBoardModel" "row" "[I") (by decide +kernel)) (.ref (a 19)) rfl dX8_swings_41 ?_
          refine lv_iload_n hx hb dX8_swings_44 rfl (lv_at hl 0 rfl) ?_
          refine z_iconst hx hb dX8_swings_45 ?_
          refine z_isub hx hb dX8_swings_46 ?_
          refine z_iald hx hb hK hP 19 (u1 19) rfl (by omega) (by omega) (by omega) dX8_swings_47 ?_
          refine z_iald hx hb hK hP 8 (u1 8) rfl (by omega) (by omega) (by omega) dX8_swings_48 ?_
          refine z_icmp_eq (tgt := 56) hx hb (by omega) (by omega) dX8_swings_49 (by decide) (fun c6 => ?_) (fun c6 => ?_)
          · skip
            have hv : b2 (u1 8 (u1 19 bb) ≠ u1 8 (u1 19 (bb - 1))) = 0 := b2_f (fun z => z c6)
            refine z_iconst hx hb dX8_swings_56 ?_
            refine z_iadd hx hb dX8_swings_57 ?_
            refine lv_istore_n (lv' := [(1, .int (iZ ((ch) + (0)))), (2, .int (iZ (bb))), (0, .ref (a 0))]) hx hb dX8_swings_58 rfl hl (by decide) rfl (fun ls hl => ?_)
            refine z_iinc (lv' := [(2, .int (iZ ((bb) + 1))), (1, .int (iZ ((ch) + (0)))), (0, .ref (a 0))]) hx hb dX8_swings_59 hl (k := 1) rfl (by decide) rfl (fun ls hl => ?_)
            refine lv_goto (tgt := 16) hx hb dX8_swings_62 (by decide) ?_
            have hq : cP (fun b => u1 8 (u1 19 b) ≠ u1 8 (u1 19 (b - 1))) (st 0 3 - bb).toNat bb = b2 (u1 8 (u1 19 bb) ≠ u1 8 (u1 19 (bb - 1))) + cP (fun b => u1 8 (u1 19 b) ≠ u1 8 (u1 19 (b - 1))) (st 0 3 - (bb + 1)).toNat (bb + 1) := by rw [show (st 0 3 - bb).toNat = (st 0 3 - (bb + 1)).toNat + 1 by omega, cP_s]
            exact ih16 ((ch) + (0)) ((bb) + 1) (by omega) (by omega) (by omega) (by rw [hv] at hq; omega)  ls (lv_sub hl [0, 1, 2] rfl)
          · skip
            have hv : b2 (u1 8 (u1 19 bb) ≠ u1 8 (u1 19 (bb - 1))) = 1 := b2_t c6
            refine z_iconst hx hb dX8_swings_52 ?_
            refine lv_goto (tgt := 57) hx hb dX8_swings_53 (by decide) ?_
            refine z_iadd hx hb dX8_swings_57 ?_
            refine lv_istore_n (lv' := [(1, .int (iZ ((ch) + (1)))), (2, .int (iZ (bb))), (0, .ref (a 0))]) hx hb dX8_swings_58 rfl hl (by decide) rfl (fun ls hl => ?_)
            refine z_iinc (lv' := [(2, .int (iZ ((bb) + 1))), (1, .int (iZ ((ch) + (1)))), (0, .ref (a 0))]) hx hb dX8_swings_59 hl (k := 1) rfl (by decide) rfl (fun ls hl => ?_)
            refine lv_goto (tgt := 16) hx hb dX8_swings_62 (by decide) ?_
            have hq : cP (fun b => u1 8 (u1 19 b) ≠ u1 8 (u1 19 (b - 1))) (st 0 3 - bb).toNat bb = b2 (u1 8 (u1 19 bb) ≠ u1 8 (u1 19 (bb - 1))) + cP (fun b => u1 8 (u1 19 b) ≠ u1 8 (u1 19 (b - 1))) (st 0 3 - (bb + 1)).toNat (bb + 1) := by rw [show (st 0 3 - bb).toNat = (st 0 3 - (bb + 1)).toNat + 1 by omega, cP_s]
            exact ih16 ((ch) + (1)) ((bb) + 1) (by omega) (by omega) (by omega) (by rw [hv] at hq; omega)  ls (lv_sub hl [0, 1, 2] rfl)
    exact LP16 ((st 0 3 + 1 - (1)) + 1 : Int).toNat (0) (1) (by omega) (by omega) (by omega) (by omega)  ls (lv_sub hl [0, 1, 2] rfl)
  · skip
    have hn5 := c4
    refine z_bipush hx hb dX8_swings_9 (by decide +kernel) ?_
    exact K _ (u1) _ _ _ _ hP hS (⟨_, hf, Or.inl ⟨hn5, rfl⟩⟩) dX8_swings_11
