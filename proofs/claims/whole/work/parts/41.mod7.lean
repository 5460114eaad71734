abbrev rX8_board : Room := { frames := 2, cells := 0, slots := 0, locals := 43 }
set_option maxHeartbeats 4000000 in
set_option maxRecDepth 100000 in
theorem m_X8_board (l : Launch) (D : va_G) (g : Nat → ClassId) (a : Nat → Nat) (st : SS) (ww : Int) (zz : Int) (sp : Int) (wd : Int) (hI : IM st) (h1 : rg ww) (h2 : rg zz) (h3 : rg sp) (h4 : rg wd) : Met l yX8_board wsX8_board rX8_board (PcM D g (AWM a) (WM g a st) [.ref (a 0), .int (iZ (ww)), .int (iZ (zz)), .int (iZ (sp)), .int (iZ (wd))]) (QcI D (WM g a) (AWM a) (fun r u => (¬ BOARDp (st 0 0) ww zz sp wd ∧ r = -1 ∧ u = st) ∨ (BOARDp (st 0 0) ww zz sp wd ∧ 8 ≤ st 0 3 ∧ r = -2 ∧ u = st) ∨ (BOARDp (st 0 0) ww zz sp wd ∧ st 0 3 < 8 ∧ r = st 0 3 ∧ u = NBM st ww zz sp wd))) 0 0 (AWM a) := by
  refine metI (cc := cX8_board) (maxL := 9) (ret := (some .int)) (own := RX8) (by decide) rfl rfl (Nat.le_of_ble_eq_true rfl) (Or.inl rfl) ?_
  intro p e R s m args below meth c Q ls S hRf hRl hK hP hD hS hl K
  have hx := S.1
  have hb := S.2.1
  have hown := S.2.2.2.1
  have hts := S.2.2.2.2
  have hRf : 2 ≤ R.frames := hRf
  have hRl : 43 ≤ R.locals := hRl
  have hl : lv_has ls 9 [(0, .ref (a 0)), (1, .int (iZ (ww))), (2, .int (iZ (zz))), (3, .int (iZ (sp))), (4, .int (iZ (wd)))] := hl
  have iX8 : ∀ w ∈ wsX80, w ∈ wsX8_board := by decide +kernel
  have hB := hI.s
  have hp6 := pw6 (n := st 0 0) (by omega) (by omega)
  have t1 := tdiv_rg (b := 100) h1 (by omega)
  refine lv_iload_n hx hb dX8_board_0 rfl (lv_at hl 1 rfl) ?_
  refine z_sipush hx hb dX8_board_1 (by decide +kernel) ?_
  refine z_tdiv hx hb (by omega) (by decide) (by omega) dX8_board_4 ?_
  refine lv_istore (lv' := [(5, .int (iZ ((ww).tdiv (1000)))), (0, .ref (a 0)), (1, .int (iZ (ww))), (2, .int (iZ (zz))), (3, .int (iZ (sp))), (4, .int (iZ (wd)))]) hx hb dX8_board_5 hl (by decide) rfl (fun ls hl => ?_)
  refine lv_iload_n hx hb dX8_board_7 rfl (lv_at hl 2 rfl) ?_
  refine z_bipush hx hb dX8_board_8 (by decide +kernel) ?_
  refine z_tdiv hx hb (by omega) (by decide) (by omega) dX8_board_10 ?_
  refine z_bipush hx hb dX8_board_11 (by decide +kernel) ?_
  refine z_trem hx hb (by omega) (by decide) (by omega) dX8_board_13 ?_
  refine lv_istore (lv' := [(6, .int (iZ (((ww).tdiv (100)).tmod (10)))), (5, .int (iZ ((ww).tdiv (1000)))), (0, .ref (a 0)), (1, .int (iZ (ww))), (2, .int (iZ (zz))), (3, .int (iZ (sp))), (4, .int (iZ (wd)))]) hx hb dX8_board_14 hl (by decide) rfl (fun ls hl => ?_)
  refine lv_iload_n hx hb dX8_board_16 rfl (lv_at hl 3 rfl) ?_
  refine z_bipush hx hb dX8_board_17 (by decide +kernel) ?_
  refine z_trem hx hb (by omega) (by decide) (by omega) dX8_board_19 ?_
  refine lv_istore (lv' := [(7, .int (iZ ((ww).tmod (100)))), (6, .int (iZ (((ww).tdiv (100)).tmod (10)))), (5, .int (iZ ((ww).tdiv (1000)))), (0, .ref (a 0)), (1, .int (iZ (ww))), (2, .int (iZ (zz))), (3, .int (iZ (sp))), (4, .int (iZ (wd)))]) hx hb dX8_board_20 hl (by decide) rfl (fun ls hl => ?_)
  refine lv_iload_n hx hb dX8_board_22 rfl (lv_at hl 4 rfl) ?_
  refine z_if_lt (tgt := 82) hx hb (by omega) dX8_board_23 (by decide) (fun c1 => ?_) (fun c1 => ?_)
  · skip
    refine z_iconst hx hb dX8_board_82 ?_
    refine lv_istore (lv' := [(8, .int (iZ (0))), (7, .int (iZ ((ww).tmod (100)))), (6, .int (iZ (((ww).tdiv (100)).tmod (10)))), (5, .int (iZ ((ww).tdiv (1000)))), (0, .ref (a 0)), (1, .int (iZ (ww))), (2, .int (iZ (zz))), (3, .int (iZ (sp))), (4, .int (iZ (wd)))]) hx hb dX8_board_83 hl (by decide) rfl (fun ls hl => ?_)
    refine lv_iload hx hb dX8_board_85 (lv_at hl 0 rfl) ?_
    refine z_if_eq (tgt := 129) hx hb (by decide) dX8_board_87 (by decide) (fun c2 => ?_) (fun c2 => ?_)
    · skip
      refine z_iconst hx hb dX8_board_129 ?_
      refine lv_istore (lv' := [(8, .int (iZ (0))), (7, .int (iZ ((ww).tmod (100)))), (6, .int (iZ (((ww).tdiv (100)).tmod (10)))), (5, .int (iZ ((ww).tdiv (1000)))), (0, .ref (a 0)), (1, .int (iZ (ww))), (2, .int (iZ (zz))), (3, .int (iZ (sp))), (4, .int (iZ (wd)))]) hx hb dX8_board_130 hl (by decide) rfl (fun ls hl => ?_)
      refine lv_iload hx hb dX8_board_132 (lv_at hl 0 rfl) ?_
      refine z_if_eq (tgt := 159) hx hb (by decide) dX8_board_134 (by decide) (fun c3 => ?_) (fun c3 => ?_)
      · skip
        refine z_iconst hx hb dX8_board_159 ?_
        refine lv_istore (lv' := [(8, .int (iZ (0))), (7, .int (iZ ((ww).tmod (100)))), (6, .int (iZ (((ww).tdiv (100)).tmod (10)))), (5, .int (iZ ((ww).tdiv (1000)))), (0, .ref (a 0)), (1, .int (iZ (ww))), (2, .int (iZ (zz))), (3, .int (iZ (sp))), (4, .int (iZ (wd)))]) hx hb dX8_board_160 hl (by decide) rfl (fun ls hl => ?_)
        refine lv_iload hx hb dX8_board_162 (lv_at hl 0 rfl) ?_
        refine z_if_ne (tgt := 169) hx hb (by decide) dX8_board_164 (by decide) (fun c4 => ?_) (fun c4 => ?_)
        · skip
          exact absurd c4 (by decide)
        · skip
          refine z_iconst hx hb dX8_board_167 ?_
          exact K _ (st) _ _ _ _ hP hS (by first | exact Or.inl ⟨fun z => by have q1 := z.1.1; have q2 := z.1.2.1; have q3 := z.1.2.2.1; have q4 := z.1.2.2.2.1; have q5 := z.2; omega, rfl, rfl⟩ | exact Or.inl ⟨fun z => by obtain ⟨k9, a9, b9, d9⟩ := z.1.2.2.2.2 hk1; exact hcl k9 a9 b9 d9, rfl, rfl⟩) dX8_board_168
      · skip
        exact absurd c3 (by decide)
    · skip
      exact absurd c2 (by decide)
  · skip
    have hw0 := c1
    have e5 : (ww).tdiv (1000) = ww / 1000 := Int.tdiv_eq_ediv_of_nonneg c1
    have e6 : ((ww).tdiv (100)).tmod (10) = ww / 100 % 10 := by rw [Int.tdiv_eq_ediv_of_nonneg c1, Int.tmod_eq_emod_of_nonneg (by omega)]
    have e7 : (ww).tmod (100) = ww % 100 := Int.tmod_eq_emod_of_nonneg c1
    rw [e5, e6, e7] at hl
    refine lv_iload hx hb dX8_board_26 (lv_at hl 2 rfl) ?_
    refine z_iconst hx hb dX8_board_28 ?_
    refine z_iconst hx hb dX8_board_29 ?_
    refine z_cSS (As := [.int (iZ (ww / 1000)), .int (iZ (0)), .int (iZ (2))]) (rest := []) S (m_X8_in l (ww / 1000) (0) (2) (by omega) (by omega) (by omega)) (va_cwS 3 hts gX8_board_X8_in rfl rfl rfl (by decide +kernel) ⟨Nat.le_trans (by decide) hRf, Nat.le_trans (by decide) hRl⟩) rfl hl.1 rfl (Nat.le_of_ble_eq_true rfl) dX8_board_30 ⟨Nat.zero_le _, Nat.zero_le _⟩ ?_
    refine z_if_eq (tgt := 82) hx hb (b2_rg _) dX8_board_33 (by decide) (fun c5 => ?_) (fun c5 => ?_)
    · skip
      have c5 := b2_0 c5
      refine z_iconst hx hb dX8_board_82 ?_
      refine lv_istore (lv' := [(8, .int (iZ (0))), (7, .int (iZ (ww % 100))), (6, .int (iZ (ww / 100 % 10))), (5, .int (iZ (ww / 1000))), (0, .ref (a 0)), (1, .int (iZ (ww))), (2, .int (iZ (zz))), (3, .int (iZ (sp))), (4, .int (iZ (wd)))]) hx hb dX8_board_83 hl (by decide) rfl (fun ls hl => ?_)
      refine lv_iload hx hb dX8_board_85 (lv_at hl 0 rfl) ?_
      refine z_if_eq (tgt := 129) hx hb (by decide) dX8_board_87 (by decide) (fun c6 => ?_) (fun c6 => ?_)
      · skip
        refine z_iconst hx hb dX8_board_129 ?_
        refine lv_istore (lv' := [(8, .int (iZ (0))), (7, .int (iZ (ww % 100))), (6, .int (iZ (ww / 100 % 10))), (5, .int (iZ (ww / 1000))), (0, .ref (a 0)), (1, .int (iZ (ww))), (2, .int (iZ (zz))), (3, .int (iZ (sp))), (4, .int (iZ (wd)))]) hx hb dX8_board_130 hl (by decide) rfl (fun ls hl => ?_)
        refine lv_iload hx hb dX8_board_132 (lv_at hl 0 rfl) ?_
        refine z_if_eq (tgt := 159) hx hb (by decide) dX8_board_134 (by decide) (fun c7 => ?_) (fun c7 => ?_)
        · skip
          refine z_iconst hx hb dX8_board_159 ?_
          refine lv_istore (lv' := [(8, .int (iZ (0))), (7, .int (iZ (ww % 100))), (6, .int (iZ (ww / 100 % 10))), (5, .int (iZ (ww / 1000))), (0, .ref (a 0)), (1, .int (iZ (ww))), (2, .int (iZ (zz))), (3, .int (iZ (sp))), (4, .int (iZ (wd)))]) hx hb dX8_board_160 hl (by decide) rfl (fun ls hl => ?_)
          refine lv_iload hx hb dX8_board_162 (lv_at hl 0 rfl) ?_
          refine z_if_ne (tgt := 169) hx hb (by decide) dX8_board_164 (by decide) (fun c8 => ?_) (fun c8 => ?_)
          · skip
            exact absurd c8 (by decide)
          · skip
            refine z_iconst hx hb dX8_board_167 ?_
            exact K _ (st) _ _ _ _ hP hS (by first | exact Or.inl ⟨fun z => by have q1 := z.1.1; have q2 := z.1.2.1; have q3 := z.1.2.2.1; have q4 := z.1.2.2.2.1; have q5 := z.2; omega, rfl, rfl⟩ | exact Or.inl ⟨fun z => by obtain ⟨k9, a9, b9, d9⟩ := z.1.2.2.2.2 hk1; exact hcl k9 a9 b9 d9, rfl, rfl⟩) dX8_board_168
        · skip
          exact absurd c7 (by decide)
      · skip
        exact absurd c6 (by decide)
    · skip
      have c5 := b2_n0 c5
      refine lv_aload_n hx hb dX8_board_36 rfl (lv_at hl 3 rfl) ?_
      refine lv_iload hx hb dX8_board_37 (lv_at hl 1 rfl) ?_
      refine z_cVR (q0 := 0) (ci := 7) (As := [.int (iZ (ww / 100 % 10))]) (rest := []) S (m_X8_isPerson l D g a (st) (ww / 100 % 10) hI (by omega)) (cwV 1 hts gX8_board_X8_isPerson rfl rfl rfl (by decide +kernel) ⟨Nat.le_trans (by decide) hRf, Nat.le_trans (by decide) hRl⟩) hK hP rfl rfl rfl hl.1 rfl (Nat.le_of_ble_eq_true rfl) dX8_board_39 ⟨Nat.zero_le _, Nat.zero_le _⟩ ?_
      refine z_if_eq (tgt := 82) hx hb (b2_rg _) dX8_board_42 (by decide) (fun c9 => ?_) (fun c9 => ?_)
      · skip
        have c9 := b2_0 c9
        refine z_iconst hx hb dX8_board_82 ?_
        refine lv_istore (lv' := [(8, .int (iZ (0))), (7, .int (iZ (ww % 100))), (6, .int (iZ (ww / 100 % 10))), (5, .int (iZ (ww / 1000))), (0, .ref (a 0)), (1, .int (iZ (ww))), (2, .int (iZ (zz))), (3, .int (iZ (sp))), (4, .int (iZ (wd)))]) hx hb dX8_board_83 hl (by decide) rfl (fun ls hl => ?_)
        refine lv_iload hx hb dX8_board_85 (lv_at hl 0 rfl) ?_
        refine z_if_eq (tgt := 129) hx hb (by decide) dX8_board_87 (by decide) (fun c10 => ?_) (fun c10 => ?_)
        · skip
          refine z_iconst hx hb dX8_board_129 ?_
          refine lv_istore (lv' := [(8, .int (iZ (0))), (7, .int (iZ (ww % 100))), (6, .int (iZ (ww / 100 % 10))), (5, .int (iZ (ww / 1000))), (0, .ref (a 0)), (1, .int (iZ (ww))), (2, .int (iZ (zz))), (3, .int (iZ (sp))), (4, .int (iZ (wd)))]) hx hb dX8_board_130 hl (by decide) rfl (fun ls hl => ?_)
          refine lv_iload hx hb dX8_board_132 (lv_at hl 0 rfl) ?_
          refine z_if_eq (tgt := 159) hx hb (by decide) dX8_board_134 (by decide) (fun c11 => ?_) (fun c11 => ?_)
          · skip
            refine z_iconst hx hb dX8_board_159 ?_
            refine lv_istore (lv' := [(8, .int (iZ (0))), (7, .int (iZ (ww % 100))), (6, .int (iZ (ww / 100 % 10))), (5, .int (iZ (ww / 1000))), (0, .ref (a 0)), (1, .int (iZ (ww))), (2, .int (iZ (zz))), (3, .int (iZ (sp))), (4, .int (iZ (wd)))]) hx hb dX8_board_160 hl (by decide) rfl (fun ls hl => ?_)
            refine lv_iload hx hb dX8_board_162 (lv_at hl 0 rfl) ?_
            refine z_if_ne (tgt := 169) hx hb (by decide) dX8_board_164 (by decide) (fun c12 => ?_) (fun c12 => ?_)
            · skip
              exact absurd c12 (by decide)
            · skip
              refine z_iconst hx hb dX8_board_167 ?_
              exact K _ (st) _ _ _ _ hP hS (by first | exact Or.inl ⟨fun z => by have q1 := z.1.1; have q2 := z.1.2.1; have q3 := z.1.2.2.1; have q4 := z.1.2.2.2.1; have q5 := z.2; omega, rfl, rfl⟩ | exact Or.inl ⟨fun z => by obtain ⟨k9, a9, b9, d9⟩ := z.1.2.2.2.2 hk1; exact hcl k9 a9 b9 d9, rfl, rfl⟩) dX8_board_168
          · skip
            exact absurd c11 (by decide)
        · skip
          exact absurd c10 (by decide)
      · skip
        have c9 := b2_n0 c9
        refine lv_iload hx hb dX8_board_45 (lv_at hl 0 rfl) ?_
        refine z_iconst hx hb dX8_board_47 ?_
        refine lv_aload_n hx hb dX8_board_48 rfl (lv_at hl 3 rfl) ?_
        refine z_get (C := RX8) (T := TX8) (N := 26) (ci := 7) hx hb hts iX8 hown hK hP 0 rfl rfl 0 (by decide) (hts (.fieldLink RX8 72 "ShotBoardModel" "persons" "I") (by decide +kernel)) (.int (iZ (st 0 (0)))) rfl dX8_board_49 ?_
        refine z_ishl hx hb dX8_board_52 ?_
        refine z_as (y := ((2 ^ (st 0 0).toNat : Nat) : Int)) (zshl_1 (by omega) (by omega)) ?_
        refine z_icmp_ge (tgt := 82) hx hb (by omega) (by omega) dX8_board_53 (by decide) (fun c13 => ?_) (fun c13 => ?_)
        · skip
          refine z_iconst hx hb dX8_board_82 ?_
          refine lv_istore (lv' := [(8, .int (iZ (0))), (7, .int (iZ (ww % 100))), (6, .int (iZ (ww / 100 % 10))), (5, .int (iZ (ww / 1000))), (0, .ref (a 0)), (1, .int (iZ (ww))), (2, .int (iZ (zz))), (3, .int (iZ (sp))), (4, .int (iZ (wd)))]) hx hb dX8_board_83 hl (by decide) rfl (fun ls hl => ?_)
          refine lv_iload hx hb dX8_board_85 (lv_at hl 0 rfl) ?_
          refine z_if_eq (tgt := 129) hx hb (by decide) dX8_board_87 (by decide) (fun c14 => ?_) (fun c14 => ?_)
          · skip
            refine z_iconst hx hb dX8_board_129 ?_
            refine lv_istore (lv' := [(8, .int (iZ (0))), (7, .int (iZ (ww % 100))), (6, .int (iZ (ww / 100 % 10))), (5, .int (iZ (ww / 1000))), (0, .ref (a 0)), (1, .int (iZ (ww))), (2, .int (iZ (zz))), (3, .int (iZ (sp))), (4, .int (iZ (wd)))]) hx hb dX8_board_130 hl (by decide) rfl (fun ls hl => ?_)
            refine lv_iload hx hb dX8_board_132 (lv_at hl 0 rfl) ?_
            refine z_if_eq (tgt := 159) hx hb (by decide) dX8_board_134 (by decide) (fun c15 => ?_) (fun c15 => ?_)
            · skip
              refine z_iconst hx hb dX8_board_159 ?_
              refine lv_istore (lv' := [(8, .int (iZ (0))), (7, .int (iZ (ww % 100))), (6, .int (iZ (ww / 100 % 10))), (5, .int (iZ (ww / 1000))), (0, .ref (a 0)), (1, .int (iZ (ww))), (2, .int (iZ (zz))), (3, .int (iZ (sp))), (4, .int (iZ (wd)))]) hx hb dX8_board_160 hl (by decide) rfl (fun ls hl => ?_)
              refine lv_iload hx hb dX8_board_162 (lv_at hl 0 rfl) ?_
              refine z_if_ne (tgt := 169) hx hb (by decide) dX8_board_164 (by decide) (fun c16 => ?_) (fun c16 => ?_)
              · skip
                exact absurd c16 (by decide)
              · skip
                refine z_iconst hx hb dX8_board_167 ?_
                exact K _ (st) _ _ _ _ hP hS (by first | exact Or.inl ⟨fun z => by have q1 := z.1.1; have q2 := z.1.2.1; have q3 := z.1.2.2.1; have q4 := z.1.2.2.2.1; have q5 := z.2; omega, rfl, rfl⟩ | exact Or.inl ⟨fun z => by obtain ⟨k9, a9, b9, d9⟩ := z.1.2.2.2.2 hk1; exact hcl k9 a9 b9 d9, rfl, rfl⟩) dX8_board_168
            · skip
              exact absurd c15 (by decide)
          · skip
            exact absurd c14 (by decide)
        · skip
          refine lv_iload_n hx hb dX8_board_56 rfl (lv_at hl 5 rfl) ?_
          refine z_iconst hx hb dX8_board_57 ?_
          refine z_bipush hx hb dX8_board_58 (by decide +kernel) ?_
          refine z_cSS (As := [.int (iZ (zz)), .int (iZ (1)), .int (iZ (7))]) (rest := []) S (m_X8_in l (zz) (1) (7) (by omega) (by omega) (by omega)) (va_cwS 3 hts gX8_board_X8_in rfl rfl rfl (by decide +kernel) ⟨Nat.le_trans (by decide) hRf, Nat.le_trans (by decide) hRl⟩) rfl hl.1 rfl (Nat.le_of_ble_eq_true rfl) dX8_board_60 ⟨Nat.zero_le _, Nat.zero_le _⟩ ?_
          refine z_if_eq (tgt := 82) hx hb (b2_rg _) dX8_board_63 (by decide) (fun c17 => ?_) (fun c17 => ?_)
          · skip
            have c17 := b2_0 c17
            refine z_iconst hx hb dX8_board_82 ?_
            refine lv_istore (lv' := [(8, .int (iZ (0))), (7, .int (iZ (ww % 100))), (6, .int (iZ (ww / 100 % 10))), (5, .int (iZ (ww / 1000))), (0, .ref (a 0)), (1, .int (iZ (ww))), (2, .int (iZ (zz))), (3, .int (iZ (sp))), (4, .int (iZ (wd)))]) hx hb dX8_board_83 hl (by decide) rfl (fun ls hl => ?_)
            refine lv_iload hx hb dX8_board_85 (lv_at hl 0 rfl) ?_
            refine z_if_eq (tgt := 129) hx hb (by decide) dX8_board_87 (by decide) (fun c18 => ?_) (fun c18 => ?_)
            · skip
              refine z_iconst hx hb dX8_board_129 ?_
              refine lv_istore (lv' := [(8, .int (iZ (0))), (7, .int (iZ (ww % 100))), (6, .int (iZ (ww / 100 % 10))), (5, .int (iZ (ww / 1000))), (0, .ref (a 0)), (1, .int (iZ (ww))), (2, .int (iZ (zz))), (3, .int (iZ (sp))), (4, .int (iZ (wd)))]) hx hb dX8_board_130 hl (by decide) rfl (fun ls hl => ?_)
              refine lv_iload hx hb dX8_board_132 (lv_at hl 0 rfl) ?_
              refine z_if_eq (tgt := 159) hx hb (by decide) dX8_board_134 (by decide) (fun c19 => ?_) (fun c19 => ?_)
              · skip
                refine z_iconst hx hb dX8_board_159 ?_
                refine lv_istore (lv' := [(8, .int (iZ (0))), (7, .int (iZ (ww % 100))), (6, .int (iZ (ww / 100 % 10))), (5, .int (iZ (ww / 1000))), (0, .ref (a 0)), (1, .int (iZ (ww))), (2, .int (iZ (zz))), (3, .int (iZ (sp))), (4, .int (iZ (wd)))]) hx hb dX8_board_160 hl (by decide) rfl (fun ls hl => ?_)
                refine lv_iload hx hb dX8_board_162 (lv_at hl 0 rfl) ?_
                refine z_if_ne (tgt := 169) hx hb (by decide) dX8_board_164 (by decide) (fun c20 => ?_) (fun c20 => ?_)
                · skip
                  exact absurd c20 (by decide)
                · skip
                  refine z_iconst hx hb dX8_board_167 ?_
                  exact K _ (st) _ _ _ _ hP hS (by first | exact Or.inl ⟨fun z => by have q1 := z.1.1; have q2 := z.1.2.1; have q3 := z.1.2.2.1; have q4 := z.1.2.2.2.1; have q5 := z.2; omega, rfl, rfl⟩ | exact Or.inl ⟨fun z => by obtain ⟨k9, a9, b9, d9⟩ := z.1.2.2.2.2 hk1; exact hcl k9 a9 b9 d9, rfl, rfl⟩) dX8_board_168
              · skip
                exact absurd c19 (by decide)
            · skip
              exact absurd c18 (by decide)
          · skip
            have c17 := b2_n0 c17
            refine lv_iload hx hb dX8_board_66 (lv_at hl 7 rfl) ?_
            refine z_iconst hx hb dX8_board_68 ?_
            refine z_sipush hx hb dX8_board_69 (by decide +kernel) ?_
            refine z_cSS (As := [.int (iZ (wd)), .int (iZ (0)), .int (iZ (200))]) (rest := []) S (m_X8_in l (wd) (0) (200) (by omega) (by omega) (by omega)) (va_cwS 3 hts gX8_board_X8_in rfl rfl rfl (by decide +kernel) ⟨Nat.le_trans (by decide) hRf, Nat.le_trans (by decide) hRl⟩) rfl hl.1 rfl (Nat.le_of_ble_eq_true rfl) dX8_board_72 ⟨Nat.zero_le _, Nat.zero_le _⟩ ?_
            refine z_if_eq (tgt := 82) hx hb (b2_rg _) dX8_board_75 (by decide) (fun c21 => ?_) (fun c21 => ?_)
            · skip
              have c21 := b2_0 c21
              refine z_iconst hx hb dX8_board_82 ?_
              refine lv_istore (lv' := [(8, .int (iZ (0))), (7, .int (iZ (ww % 100))), (6, .int (iZ (ww / 100 % 10))), (5, .int (iZ (ww / 1000))), (0, .ref (a 0)), (1, .int (iZ (ww))), (2, .int (iZ (zz))), (3, .int (iZ (sp))), (4, .int (iZ (wd)))]) hx hb dX8_board_83 hl (by decide) rfl (fun ls hl => ?_)
              refine lv_iload hx hb dX8_board_85 (lv_at hl 0 rfl) ?_
              refine z_if_eq (tgt := 129) hx hb (by decide) dX8_board_87 (by decide) (fun c22 => ?_) (fun c22 => ?_)
              · skip
                refine z_iconst hx hb dX8_board_129 ?_
                refine lv_istore (lv' := [(8, .int (iZ (0))), (7, .int (iZ (ww % 100))), (6, .int (iZ (ww / 100 % 10))), (5, .int (iZ (ww / 1000))), (0, .ref (a 0)), (1, .int (iZ (ww))), (2, .int (iZ (zz))), (3, .int (iZ (sp))), (4, .int (iZ (wd)))]) hx hb dX8_board_130 hl (by decide) rfl (fun ls hl => ?_)
                refine lv_iload hx hb dX8_board_132 (lv_at hl 0 rfl) ?_
                refine z_if_eq (tgt := 159) hx hb (by decide) dX8_board_134 (by decide) (fun c23 => ?_) (fun c23 => ?_)
                · skip
                  refine z_iconst hx hb dX8_board_159 ?_
                  refine lv_istore (lv' := [(8, .int (iZ (0))), (7, .int (iZ (ww % 100))), (6, .int (iZ (ww / 100 % 10))), (5, .int (iZ (ww / 1000))), (0, .ref (a 0)), (1, .int (iZ (ww))), (2, .int (iZ (zz))), (3, .int (iZ (sp))), (4, .int (iZ (wd)))]) hx hb dX8_board_160 hl (by decide) rfl (fun ls hl => ?_)
                  refine lv_iload hx hb dX8_board_162 (lv_at hl 0 rfl) ?_
                  refine z_if_ne (tgt := 169) hx hb (by decide) dX8_board_164 (by decide) (fun c24 => ?_) (fun c24 => ?_)
                  · skip
                    exact absurd c24 (by decide)
                  · skip
                    refine z_iconst hx hb dX8_board_167 ?_
                    exact K _ (st) _ _ _ _ hP hS (by first | exact Or.inl ⟨fun z => by have q1 := z.1.1; have q2 := z.1.2.1; have q3 := z.1.2.2.1; have q4 := z.1.2.2.2.1; have q5 := z.2; omega, rfl, rfl⟩ | exact Or.inl ⟨fun z => by obtain ⟨k9, a9, b9, d9⟩ := z.1.2.2.2.2 hk1; exact hcl k9 a9 b9 d9, rfl, rfl⟩) dX8_board_168
                · skip
                  exact absurd c23 (by decide)
              · skip
                exact absurd c22 (by decide)
            · skip
              have c21 := b2_n0 c21
              refine z_iconst hx hb dX8_board_78 ?_
              refine lv_goto (tgt := 83) hx hb dX8_board_79 (by decide) ?_
              refine lv_istore (lv' := [(8, .int (iZ (1))), (7, .int (iZ (ww % 100))), (6, .int (iZ (ww / 100 % 10))), (5, .int (iZ (ww / 1000))), (0, .ref (a 0)), (1, .int (iZ (ww))), (2, .int (iZ (zz))), (3, .int (iZ (sp))), (4, .int (iZ (wd)))]) hx hb dX8_board_83 hl (by decide) rfl (fun ls hl => ?_)
              refine lv_iload hx hb dX8_board_85 (lv_at hl 0 rfl) ?_
              refine z_if_eq (tgt := 129) hx hb (by decide) dX8_board_87 (by decide) (fun c25 => ?_) (fun c25 => ?_)
              · skip
                exact absurd c25 (by decide)
              · skip
                refine lv_iload_n hx hb dX8_board_90 rfl (lv_at hl 7 rfl) ?_
                refine z_if_lt (tgt := 129) hx hb (by omega) dX8_board_91 (by decide) (fun c26 => ?_) (fun c26 => ?_)
                · skip
                  refine z_iconst hx hb dX8_board_129 ?_
                  refine lv_istore (lv' := [(8, .int (iZ (0))), (7, .int (iZ (ww % 100))), (6, .int (iZ (ww / 100 % 10))), (5, .int (iZ (ww / 1000))), (0, .ref (a 0)), (1, .int (iZ (ww))), (2, .int (iZ (zz))), (3, .int (iZ (sp))), (4, .int (iZ (wd)))]) hx hb dX8_board_130 hl (by decide) rfl (fun ls hl => ?_)
                  refine lv_iload hx hb dX8_board_132 (lv_at hl 0 rfl) ?_
                  refine z_if_eq (tgt := 159) hx hb (by decide) dX8_board_134 (by decide) (fun c27 => ?_) (fun c27 => ?_)
                  · skip
                    refine z_iconst hx hb dX8_board_159 ?_
                    refine lv_istore (lv' := [(8, .int (iZ (0))), (7, .int (iZ (ww % 100))), (6, .int (iZ (ww / 100 % 10))), (5, .int (iZ (ww / 1000))), (0, .ref (a 0)), (1, .int (iZ (ww))), (2, .int (iZ (zz))), (3, .int (iZ (sp))), (4, .int (iZ (wd)))]) hx hb dX8_board_160 hl (by decide) rfl (fun ls hl => ?_)
                    refine lv_iload hx hb dX8_board_162 (lv_at hl 0 rfl) ?_
                    refine z_if_ne (tgt := 169) hx hb (by decide) dX8_board_164 (by decide) (fun c28 => ?_) (fun c28 => ?_)
                    · skip
                      exact absurd c28 (by decide)
                    · skip
                      refine z_iconst hx hb dX8_board_167 ?_
                      exact K _ (st) _ _ _ _ hP hS (by first | exact Or.inl ⟨fun z => by have q1 := z.1.1; have q2 := z.1.2.1; have q3 := z.1.2.2.1; have q4 := z.1.2.2.2.1; have q5 := z.2; omega, rfl, rfl⟩ | exact Or.inl ⟨fun z => by obtain ⟨k9, a9, b9, d9⟩ := z.1.2.2.2.2 hk1; exact hcl k9 a9 b9 d9, rfl, rfl⟩) dX8_board_168
                  · skip
                    exact absurd c27 (by decide)
                · skip
                  refine lv_iload_n hx hb dX8_board_94 rfl (lv_at hl 7 rfl) ?_
                  refine z_bipush hx hb dX8_board_95 (by decide +kernel) ?_
                  refine z_idiv hx hb (by omega) (by omega) (by decide) (by omega) dX8_board_97 ?_
                  refine lv_iload_n hx hb dX8_board_98 rfl (lv_at hl 7 rfl) ?_
                  refine z_bipush hx hb dX8_board_99 (by decide +kernel) ?_
                  refine z_irem hx hb (by omega) (by omega) (by decide) (by omega) dX8_board_101 ?_
                  refine z_icmp_gt (tgt := 129) hx hb (by omega) (by omega) dX8_board_102 (by decide) (fun c29 => ?_) (fun c29 => ?_)
                  · skip
                    refine z_iconst hx hb dX8_board_129 ?_
                    refine lv_istore (lv' := [(8, .int (iZ (0))), (7, .int (iZ (ww % 100))), (6, .int (iZ (ww / 100 % 10))), (5, .int (iZ (ww / 1000))), (0, .ref (a 0)), (1, .int (iZ (ww))), (2, .int (iZ (zz))), (3, .int (iZ (sp))), (4, .int (iZ (wd)))]) hx hb dX8_board_130 hl (by decide) rfl (fun ls hl => ?_)
                    refine lv_iload hx hb dX8_board_132 (lv_at hl 0 rfl) ?_
                    refine z_if_eq (tgt := 159) hx hb (by decide) dX8_board_134 (by decide) (fun c30 => ?_) (fun c30 => ?_)
                    · skip
                      refine z_iconst hx hb dX8_board_159 ?_
                      refine lv_istore (lv' := [(8, .int (iZ (0))), (7, .int (iZ (ww % 100))), (6, .int (iZ (ww / 100 % 10))), (5, .int (iZ (ww / 1000))), (0, .ref (a 0)), (1, .int (iZ (ww))), (2, .int (iZ (zz))), (3, .int (iZ (sp))), (4, .int (iZ (wd)))]) hx hb dX8_board_160 hl (by decide) rfl (fun ls hl => ?_)
                      refine lv_iload hx hb dX8_board_162 (lv_at hl 0 rfl) ?_
                      refine z_if_ne (tgt := 169) hx hb (by decide) dX8_board_164 (by decide) (fun c31 => ?_) (fun c31 => ?_)
                      · skip
                        exact absurd c31 (by decide)
                      · skip
                        refine z_iconst hx hb dX8_board_167 ?_
                        exact K _ (st) _ _ _ _ hP hS (by first | exact Or.inl ⟨fun z => by have q1 := z.1.1; have q2 := z.1.2.1; have q3 := z.1.2.2.1; have q4 := z.1.2.2.2.1; have q5 := z.2; omega, rfl, rfl⟩ | exact Or.inl ⟨fun z => by obtain ⟨k9, a9, b9, d9⟩ := z.1.2.2.2.2 hk1; exact hcl k9 a9 b9 d9, rfl, rfl⟩) dX8_board_168
                    · skip
                      exact absurd c30 (by decide)
                  · skip
                    refine lv_iload_n hx hb dX8_board_105 rfl (lv_at hl 7 rfl) ?_
                    refine z_bipush hx hb dX8_board_106 (by decide +kernel) ?_
                    refine z_idiv hx hb (by omega) (by omega) (by decide) (by omega) dX8_board_108 ?_
                    refine z_cSS (As := [.int (iZ ((sp) / (100)))]) (rest := []) S (m_X8_isTick l ((sp) / (100)) (by omega)) (va_cwS 1 hts gX8_board_X8_isTick rfl rfl rfl (by decide +kernel) ⟨Nat.le_trans (by decide) hRf, Nat.le_trans (by decide) hRl⟩) rfl hl.1 rfl (Nat.le_of_ble_eq_true rfl) dX8_board_109 ⟨Nat.zero_le _, Nat.zero_le _⟩ ?_
                    refine z_if_eq (tgt := 129) hx hb (b2_rg _) dX8_board_112 (by decide) (fun c32 => ?_) (fun c32 => ?_)
                    · skip
                      have c32 := b2_0 c32
                      refine z_iconst hx hb dX8_board_129 ?_
                      refine lv_istore (lv' := [(8, .int (iZ (0))), (7, .int (iZ (ww % 100))), (6, .int (iZ (ww / 100 % 10))), (5, .int (iZ (ww / 1000))), (0, .ref (a 0)), (1, .int (iZ (ww))), (2, .int (iZ (zz))), (3, .int (iZ (sp))), (4, .int (iZ (wd)))]) hx hb dX8_board_130 hl (by decide) rfl (fun ls hl => ?_)
                      refine lv_iload hx hb dX8_board_132 (lv_at hl 0 rfl) ?_
                      refine z_if_eq (tgt := 159) hx hb (by decide) dX8_board_134 (by decide) (fun c33 => ?_) (fun c33 => ?_)
                      · skip
                        refine z_iconst hx hb dX8_board_159 ?_
                        refine lv_istore (lv' := [(8, .int (iZ (0))), (7, .int (iZ (ww % 100))), (6, .int (iZ (ww / 100 % 10))), (5, .int (iZ (ww / 1000))), (0, .ref (a 0)), (1, .int (iZ (ww))), (2, .int (iZ (zz))), (3, .int (iZ (sp))), (4, .int (iZ (wd)))]) hx hb dX8_board_160 hl (by decide) rfl (fun ls hl => ?_)
                        refine lv_iload hx hb dX8_board_162 (lv_at hl 0 rfl) ?_
                        refine z_if_ne (tgt := 169) hx hb (by decide) dX8_board_164 (by decide) (fun c34 => ?_) (fun c34 => ?_)
                        · skip
                          exact absurd c34 (by decide)
                        · skip
                          refine z_iconst hx hb dX8_board_167 ?_
                          exact K _ (st) _ _ _ _ hP hS (by first | exact Or.inl ⟨fun z => by have q1 := z.1.1; have q2 := z.1.2.1; have q3 := z.1.2.2.1; have q4 := z.1.2.2.2.1; have q5 := z.2; omega, rfl, rfl⟩ | exact Or.inl ⟨fun z => by obtain ⟨k9, a9, b9, d9⟩ := z.1.2.2.2.2 hk1; exact hcl k9 a9 b9 d9, rfl, rfl⟩) dX8_board_168
                      · skip
                        exact absurd c33 (by decide)
                    · skip
                      have c32 := b2_n0 c32
                      refine lv_iload_n hx hb dX8_board_115 rfl (lv_at hl 7 rfl) ?_
                      refine z_bipush hx hb dX8_board_116 (by decide +kernel) ?_
                      refine z_irem hx hb (by omega) (by omega) (by decide) (by omega) dX8_board_118 ?_
                      refine z_cSS (As := [.int (iZ ((sp) % (100)))]) (rest := []) S (m_X8_isTick l ((sp) % (100)) (by omega)) (va_cwS 1 hts gX8_board_X8_isTick rfl rfl rfl (by decide +kernel) ⟨Nat.le_trans (by decide) hRf, Nat.le_trans (by decide) hRl⟩) rfl hl.1 rfl (Nat.le_of_ble_eq_true rfl) dX8_board_119 ⟨Nat.zero_le _, Nat.zero_le _⟩ ?_
                      refine z_if_eq (tgt := 129) hx hb (b2_rg _) dX8_board_122 (by decide) (fun c35 => ?_) (fun c35 => ?_)
                      · skip
                        have c35 := b2_0 c35
                        refine z_iconst hx hb dX8_board_129 ?_
                        refine lv_istore (lv' := [(8, .int (iZ (0))), (7, .int (iZ (ww % 100))), (6, .int (iZ (ww / 100 % 10))), (5, .int (iZ (ww / 1000))), (0, .ref (a 0)), (1, .int (iZ (ww))), (2, .int (iZ (zz))), (3, .int (iZ (sp))), (4, .int (iZ (wd)))]) hx hb dX8_board_130 hl (by decide) rfl (fun ls hl => ?_)
                        refine lv_iload hx hb dX8_board_132 (lv_at hl 0 rfl) ?_
                        refine z_if_eq (tgt := 159) hx hb (by decide) dX8_board_134 (by decide) (fun c36 => ?_) (fun c36 => ?_)
                        · skip
                          refine z_iconst hx hb dX8_board_159 ?_
                          refine lv_istore (lv' := [(8, .int (iZ (0))), (7, .int (iZ (ww % 100))), (6, .int (iZ (ww / 100 % 10))), (5, .int (iZ (ww / 1000))), (0, .ref (a 0)), (1, .int (iZ (ww))), (2, .int (iZ (zz))), (3, .int (iZ (sp))), (4, .int (iZ (wd)))]) hx hb dX8_board_160 hl (by decide) rfl (fun ls hl => ?_)
                          refine lv_iload hx hb dX8_board_162 (lv_at hl 0 rfl) ?_
                          refine z_if_ne (tgt := 169) hx hb (by decide) dX8_board_164 (by decide) (fun c37 => ?_) (fun c37 => ?_)
                          · skip
                            exact absurd c37 (by decide)
                          · skip
                            refine z_iconst hx hb dX8_board_167 ?_
                            exact K _ (st) _ _ _ _ hP hS (by first | exact Or.inl ⟨fun z => by have q1 := z.1.1; have q2 := z.1.2.1; have q3 := z.1.2.2.1; have q4 := z.1.2.2.2.1; have q5 := z.2; omega, rfl, rfl⟩ | exact Or.inl ⟨fun z => by obtain ⟨k9, a9, b9, d9⟩ := z.1.2.2.2.2 hk1; exact hcl k9 a9 b9 d9, rfl, rfl⟩) dX8_board_168
                        · skip
                          exact absurd c36 (by decide)
                      · skip
                        have c35 := b2_n0 c35
                        refine z_iconst hx hb dX8_board_125 ?_
                        refine lv_goto (tgt := 130) hx hb dX8_board_126 (by decide) ?_
                        refine lv_istore (lv' := [(8, .int (iZ (1))), (7, .int (iZ (ww % 100))), (6, .int (iZ (ww / 100 % 10))), (5, .int (iZ (ww / 1000))), (0, .ref (a 0)), (1, .int (iZ (ww))), (2, .int (iZ (zz))), (3, .int (iZ (sp))), (4, .int (iZ (wd)))]) hx hb dX8_board_130 hl (by decide) rfl (fun ls hl => ?_)
                        refine lv_iload hx hb dX8_board_132 (lv_at hl 0 rfl) ?_
                        refine z_if_eq (tgt := 159) hx hb (by decide) dX8_board_134 (by decide) (fun c38 => ?_) (fun c38 => ?_)
                        · skip
                          exact absurd c38 (by decide)
                        · skip
                          refine lv_iload hx hb dX8_board_137 (lv_at hl 3 rfl) ?_
                          refine z_iconst hx hb dX8_board_139 ?_
                          refine z_icmp_ne (tgt := 155) hx hb (by omega) (by decide) dX8_board_140 (by decide) (fun c39 => ?_) (fun c39 => ?_)
                          · skip
                            have hgood : BOARDp (st 0 0) ww zz sp wd := ⟨⟨by omega, by omega, by omega, by omega, fun q => absurd q c39⟩, by omega, by omega, by omega⟩
                            refine z_iconst hx hb dX8_board_155 ?_
                            refine lv_goto (tgt := 160) hx hb dX8_board_156 (by decide) ?_
                            refine lv_istore (lv' := [(8, .int (iZ (1))), (7, .int (iZ (ww % 100))), (6, .int (iZ (ww / 100 % 10))), (5, .int (iZ (ww / 1000))), (0, .ref (a 0)), (1, .int (iZ (ww))), (2, .int (iZ (zz))), (3, .int (iZ (sp))), (4, .int (iZ (wd)))]) hx hb dX8_board_160 hl (by decide) rfl (fun ls hl => ?_)
                            refine lv_iload hx hb dX8_board_162 (lv_at hl 0 rfl) ?_
                            refine z_if_ne (tgt := 169) hx hb (by decide) dX8_board_164 (by decide) (fun c40 => ?_) (fun c40 => ?_)
                            · skip
                              refine lv_aload_n hx hb dX8_board_169 rfl (lv_at hl 4 rfl) ?_
                              refine z_get (C := RX8) (T := TX8) (N := 26) (ci := 7) hx hb hts iX8 hown hK hP 0 rfl rfl 11 (by decide) (hts (.fieldLink RX8 82 "ShotBoardModel" "boards" "I") (by decide +kernel)) (.int (iZ (st 0 (3)))) rfl dX8_board_170 ?_
                              refine z_bipush hx hb dX8_board_173 (by decide +kernel) ?_
                              refine z_icmp_ne (tgt := 181) hx hb (by omega) (by decide) dX8_board_175 (by decide) (fun c41 => ?_) (fun c41 => ?_)
                              · skip
                                refine lv_aload_n hx hb dX8_board_181 rfl (lv_at hl 4 rfl) ?_
                                refine z_get (C := RX8) (T := TX8) (N := 26) (ci := 7) hx hb hts iX8 hown hK hP 0 rfl rfl 12 (by decide) (hts (.fieldLink RX8 34 "ShotBoardModel" "kind" "[I") (by decide +kernel)) (.ref (a 9)) rfl dX8_board_182 ?_
                                refine lv_aload_n hx hb dX8_board_185 rfl (lv_at hl 4 rfl) ?_
                                refine z_get (C := RX8) (T := TX8) (N := 26) (ci := 7) hx hb hts iX8 hown hK hP 0 rfl rfl 11 (by decide) (hts (.fieldLink RX8 82 "ShotBoardModel" "boards" "I") (by decide +kernel)) (.int (iZ (st 0 (3)))) rfl dX8_board_186 ?_
                                refine lv_iload hx hb dX8_board_189 (lv_at hl 3 rfl) ?_
                                refine z_iast hx hb hK hP hD hS 9 (st 9) rfl (by omega) (by omega) (by omega) (WM g a (up (st) 9 (st 0 (3)) (ww / 1000))) rfl dX8_board_191 (fun H locs hP hD hS => ?_)
                                refine lv_aload_n hx hb dX8_board_192 rfl (lv_at hl 4 rfl) ?_
                                refine z_get (C := RX8) (T := TX8) (N := 26) (ci := 7) hx hb hts iX8 hown hK hP 0 rfl rfl 13 (by decide) (hts (.fieldLink RX8 37 "ShotBoardModel" "main" "[I") (by decide +kernel)) (.ref (a 10)) rfl dX8_board_193 ?_
                                refine lv_aload_n hx hb dX8_board_196 rfl (lv_at hl 4 rfl) ?_
                                refine z_get (C := RX8) (T := TX8) (N := 26) (ci := 7) hx hb hts iX8 hown hK hP 0 rfl rfl 11 (by decide) (hts (.fieldLink RX8 82 "ShotBoardModel" "boards" "I") (by decide +kernel)) (.int (iZ (st 0 (3)))) rfl dX8_board_197 ?_
                                refine lv_iload hx hb dX8_board_200 (lv_at hl 2 rfl) ?_
                                refine z_iast hx hb hK hP hD hS 10 ((up (st) 9 (st 0 (3)) (ww / 1000)) 10) rfl (by omega) (by omega) (by omega) (WM g a (up (up (st) 9 (st 0 (3)) (ww / 1000)) 10 (st 0 (3)) (ww / 100 % 10))) rfl dX8_board_202 (fun H locs hP hD hS => ?_)
                                refine lv_aload_n hx hb dX8_board_203 rfl (lv_at hl 4 rfl) ?_
                                refine z_get (C := RX8) (T := TX8) (N := 26) (ci := 7) hx hb hts iX8 hown hK hP 0 rfl rfl 14 (by decide) (hts (.fieldLink RX8 40 "ShotBoardModel" "must" "[I") (by decide +kernel)) (.ref (a 11)) rfl dX8_board_204 ?_
                                refine lv_aload_n hx hb dX8_board_207 rfl (lv_at hl 4 rfl) ?_
                                refine z_get (C := RX8) (T := TX8) (N := 26) (ci := 7) hx hb hts iX8 hown hK hP 0 rfl rfl 11 (by decide) (hts (.fieldLink RX8 82 "ShotBoardModel" "boards" "I") (by decide +kernel)) (.int (iZ (st 0 (3)))) rfl dX8_board_208 ?_
                                refine lv_iload hx hb dX8_board_211 (lv_at hl 1 rfl) ?_
                                refine z_iconst hx hb dX8_board_213 ?_
                                refine lv_iload hx hb dX8_board_214 (lv_at hl 2 rfl) ?_
                                refine z_ishl hx hb dX8_board_216 ?_
                                refine z_ior hx hb dX8_board_217 ?_
                                refine z_iast hx hb hK hP hD hS 11 ((up (up (st) 9 (st 0 (3)) (ww / 1000)) 10 (st 0 (3)) (ww / 100 % 10)) 11) rfl (by omega) (by omega) (by omega) (WM g a (up (up (up (st) 9 (st 0 (3)) (ww / 1000)) 10 (st 0 (3)) (ww / 100 % 10)) 11 (st 0 (3)) (zor (ww % 100) (zshl (1) (ww / 100 % 10))))) rfl dX8_board_218 (fun H locs hP hD hS => ?_)
                                refine lv_aload_n hx hb dX8_board_219 rfl (lv_at hl 4 rfl) ?_
                                refine z_get (C := RX8) (T := TX8) (N := 26) (ci := 7) hx hb hts iX8 hown hK hP 0 rfl rfl 15 (by decide) (hts (.fieldLink RX8 43 "ShotBoardModel" "sizes" "[I") (by decide +kernel)) (.ref (a 12)) rfl dX8_board_220 ?_
                                refine lv_aload_n hx hb dX8_board_223 rfl (lv_at hl 4 rfl) ?_
                                refine z_get (C := RX8) (T := TX8) (N := 26) (ci := 7) hx hb hts iX8 hown hK hP 0 rfl rfl 11 (by decide) (hts (.fieldLink RX8 82 "ShotBoardModel" "boards" "I") (by decide +kernel)) (.int (iZ (st 0 (3)))) rfl dX8_board_224 ?_
                                refine lv_iload_n hx hb dX8_board_227 rfl (lv_at hl 6 rfl) ?_
                                refine z_iast hx hb hK hP hD hS 12 ((up (up (up (st) 9 (st 0 (3)) (ww / 1000)) 10 (st 0 (3)) (ww / 100 % 10)) 11 (st 0 (3)) (zor (ww % 100) (zshl (1) (ww / 100 % 10)))) 12) rfl (by omega) (by omega) (by omega) (WM g a (up (up (up (up (st) 9 (st 0 (3)) (ww / 1000)) 10 (st 0 (3)) (ww / 100 % 10)) 11 (st 0 (3)) (zor (ww % 100) (zshl (1) (ww / 100 % 10)))) 12 (st 0 (3)) (zz))) rfl dX8_board_228 (fun H locs hP hD hS => ?_)
                                refine lv_aload_n hx hb dX8_board_229 rfl (lv_at hl 4 rfl) ?_
                                refine z_get (C := RX8) (T := TX8) (N := 26) (ci := 7) hx hb hts iX8 hown hK hP 0 rfl rfl 16 (by decide) (hts (.fieldLink RX8 46 "ShotBoardModel" "from" "[I") (by decide +kernel)) (.ref (a 13)) rfl dX8_board_230 ?_
                                refine lv_aload_n hx hb dX8_board_233 rfl (lv_at hl 4 rfl) ?_
                                refine z_get (C := RX8) (T := TX8) (N := 26) (ci := 7) hx hb hts iX8 hown hK hP 0 rfl rfl 11 (by decide) (hts (.fieldLink RX8 82 "ShotBoardModel" "boards" "I") (by decide +kernel)) (.int (iZ (st 0 (3)))) rfl dX8_board_234 ?_
                                refine lv_iload_n hx hb dX8_board_237 rfl (lv_at hl 7 rfl) ?_
                                refine z_bipush hx hb dX8_board_238 (by decide +kernel) ?_
                                refine z_idiv hx hb (by omega) (by omega) (by decide) (by omega) dX8_board_240 ?_
                                refine z_iast hx hb hK hP hD hS 13 ((up (up (up (up (st) 9 (st 0 (3)) (ww / 1000)) 10 (st 0 (3)) (ww / 100 % 10)) 11 (st 0 (3)) (zor (ww % 100) (zshl (1) (ww / 100 % 10)))) 12 (st 0 (3)) (zz)) 13) rfl (by omega) (by omega) (by omega) (WM g a (up (up (up (up (up (st) 9 (st 0 (3)) (ww / 1000)) 10 (st 0 (3)) (ww / 100 % 10)) 11 (st 0 (3)) (zor (ww % 100) (zshl (1) (ww / 100 % 10)))) 12 (st 0 (3)) (zz)) 13 (st 0 (3)) ((sp) / (100)))) rfl dX8_board_241 (fun H locs hP hD hS => ?_)
                                refine lv_aload_n hx hb dX8_board_242 rfl (lv_at hl 4 rfl) ?_
                                refine z_get (C := RX8) (T := TX8) (N := 26) (ci := 7) hx hb hts iX8 hown hK hP 0 rfl rfl 17 (by decide) (hts (.fieldLink RX8 49 "ShotBoardModel" "to" "[I") (by decide +kernel)) (.ref (a 14)) rfl dX8_board_243 ?_
                                refine lv_aload_n hx hb dX8_board_246 rfl (lv_at hl 4 rfl) ?_
                                refine z_get (C := RX8) (T := TX8) (N := 26) (ci := 7) hx hb hts iX8 hown hK hP 0 rfl rfl 11 (by decide) (hts (.fieldLink RX8 82 "ShotBoardModel" "boards" "I") (by decide +kernel)) (.int (iZ (st 0 (3)))) rfl dX8_board_247 ?_
                                refine lv_iload_n hx hb dX8_board_250 rfl (lv_at hl 7 rfl) ?_
                                refine z_bipush hx hb dX8_board_251 (by decide +kernel) ?_
                                refine z_irem hx hb (by omega) (by omega) (by decide) (by omega) dX8_board_253 ?_
                                refine z_iast hx hb hK hP hD hS 14 ((up (up (up (up (up (st) 9 (st 0 (3)) (ww / 1000)) 10 (st 0 (3)) (ww / 100 % 10)) 11 (st 0 (3)) (zor (ww % 100) (zshl (1) (ww / 100 % 10)))) 12 (st 0 (3)) (zz)) 13 (st 0 (3)) ((sp) / (100))) 14) rfl (by omega) (by omega) (by omega) (WM g a (up (up (up (up (up (up (st) 9 (st 0 (3)) (ww / 1000)) 10 (st 0 (3)) (ww / 100 % 10)) 11 (st 0 (3)) (zor (ww % 100) (zshl (1) (ww / 100 % 10)))) 12 (st 0 (3)) (zz)) 13 (st 0 (3)) ((sp) / (100))) 14 (st 0 (3)) ((sp) % (100)))) rfl dX8_board_254 (fun H locs hP hD hS => ?_)
                                refine lv_aload_n hx hb dX8_board_255 rfl (lv_at hl 4 rfl) ?_
                                refine z_get (C := RX8) (T := TX8) (N := 26) (ci := 7) hx hb hts iX8 hown hK hP 0 rfl rfl 18 (by decide) (hts (.fieldLink RX8 52 "ShotBoardModel" "words" "[I") (by decide +kernel)) (.ref (a 15)) rfl dX8_board_256 ?_
                                refine lv_aload_n hx hb dX8_board_259 rfl (lv_at hl 4 rfl) ?_
                                refine z_get (C := RX8) (T := TX8) (N := 26) (ci := 7) hx hb hts iX8 hown hK hP 0 rfl rfl 11 (by decide) (hts (.fieldLink RX8 82 "ShotBoardModel" "boards" "I") (by decide +kernel)) (.int (iZ (st 0 (3)))) rfl dX8_board_260 ?_
                                refine lv_iload hx hb dX8_board_263 (lv_at hl 8 rfl) ?_
                                refine z_iast hx hb hK hP hD hS 15 ((up (up (up (up (up (up (st) 9 (st 0 (3)) (ww / 1000)) 10 (st 0 (3)) (ww / 100 % 10)) 11 (st 0 (3)) (zor (ww % 100) (zshl (1) (ww / 100 % 10)))) 12 (st 0 (3)) (zz)) 13 (st 0 (3)) ((sp) / (100))) 14 (st 0 (3)) ((sp) % (100))) 15) rfl (by omega) (by omega) (by omega) (WM g a (up (up (up (up (up (up (up (st) 9 (st 0 (3)) (ww / 1000)) 10 (st 0 (3)) (ww / 100 % 10)) 11 (st 0 (3)) (zor (ww % 100) (zshl (1) (ww / 100 % 10)))) 12 (st 0 (3)) (zz)) 13 (st 0 (3)) ((sp) / (100))) 14 (st 0 (3)) ((sp) % (100))) 15 (st 0 (3)) (wd))) rfl dX8_board_265 (fun H locs hP hD hS => ?_)
                                refine lv_aload_n hx hb dX8_board_266 rfl (lv_at hl 4 rfl) ?_
                                refine lv_dup hx hb dX8_board_267 rfl ?_
                                refine z_get (C := RX8) (T := TX8) (N := 26) (ci := 7) hx hb hts iX8 hown hK hP 0 rfl rfl 11 (by decide) (hts (.fieldLink RX8 82 "ShotBoardModel" "boards" "I") (by decide +kernel)) (.int (iZ (st 0 (3)))) rfl dX8_board_268 ?_
                                refine z_iconst hx hb dX8_board_271 ?_
                                refine z_iadd hx hb dX8_board_272 ?_
                                refine z_put (C := RX8) (T := TX8) (N := 26) (ci := 7) (ty := .int) hx hb hts iX8 tyX8 tyX8_ok nmX8 hown hK hP hD hS 0 rfl rfl 11 (by decide) (hts (.fieldLink RX8 82 "ShotBoardModel" "boards" "I") (by decide +kernel)) rfl (by decide +kernel) rfl rfl (Nat.le_of_ble_eq_true rfl) (WM g a (up (up (up (up (up (up (up (up (st) 9 (st 0 (3)) (ww / 1000)) 10 (st 0 (3)) (ww / 100 % 10)) 11 (st 0 (3)) (zor (ww % 100) (zshl (1) (ww / 100 % 10)))) 12 (st 0 (3)) (zz)) 13 (st 0 (3)) ((sp) / (100))) 14 (st 0 (3)) ((sp) % (100))) 15 (st 0 (3)) (wd)) 0 (3) ((st 0 (3)) + (1)))) rfl dX8_board_273 (fun H locs hP hD hS => ?_)
                                refine lv_aload_n hx hb dX8_board_276 rfl (lv_at hl 4 rfl) ?_
                                refine z_get (C := RX8) (T := TX8) (N := 26) (ci := 7) hx hb hts iX8 hown hK hP 0 rfl rfl 11 (by decide) (hts (.fieldLink RX8 82 "ShotBoardModel" "boards" "I") (by decide +kernel)) (.int (iZ ((st 0 (3)) + (1)))) rfl dX8_board_277 ?_
                                refine z_iconst hx hb dX8_board_280 ?_
                                refine z_isub hx hb dX8_board_281 ?_
                                exact K _ (up (up (up (up (up (up (up (up (st) 9 (st 0 (3)) (ww / 1000)) 10 (st 0 (3)) (ww / 100 % 10)) 11 (st 0 (3)) (zor (ww % 100) (zshl (1) (ww / 100 % 10)))) 12 (st 0 (3)) (zz)) 13 (st 0 (3)) ((sp) / (100))) 14 (st 0 (3)) ((sp) % (100))) 15 (st 0 (3)) (wd)) 0 (3) ((st 0 (3)) + (1))) _ _ _ _ hP hS (Or.inr (Or.inr ⟨hgood, by omega, by omega, rfl⟩)) dX8_board_282
                              · skip
                                refine z_bipush hx hb dX8_board_178 (by decide +kernel) ?_
                                exact K _ (st) _ _ _ _ hP hS (Or.inr (Or.inl ⟨hgood, by omega, rfl, rfl⟩)) dX8_board_180
                            · skip
                              exact absurd c40 (by decide)
                          · skip
                            have hk1 := c39
                            refine lv_iload hx hb dX8_board_143 (lv_at hl 1 rfl) ?_
                            refine z_iconst hx hb dX8_board_145 ?_
                            refine lv_iload hx hb dX8_board_146 (lv_at hl 2 rfl) ?_
                            refine z_ishl hx hb dX8_board_148 ?_
                            refine z_iconst hx hb dX8_board_149 ?_
                            refine z_ixor hx hb dX8_board_150 ?_
                            have hzr := zand_rg (ww % 100) (zxor (zshl 1 (ww / 100 % 10)) (-1))
                            refine z_iand hx hb dX8_board_151 ?_
                            refine z_if_eq (tgt := 159) hx hb (by omega) dX8_board_152 (by decide) (fun c42 => ?_) (fun c42 => ?_)
                            · skip
                              have hcl := (clr64 (x := ww % 100) (c := ww / 100 % 10) (by omega) (by omega) (by omega) (by omega)).mp c42
                              refine z_iconst hx hb dX8_board_159 ?_
                              refine lv_istore (lv' := [(8, .int (iZ (0))), (7, .int (iZ (ww % 100))), (6, .int (iZ (ww / 100 % 10))), (5, .int (iZ (ww / 1000))), (0, .ref (a 0)), (1, .int (iZ (ww))), (2, .int (iZ (zz))), (3, .int (iZ (sp))), (4, .int (iZ (wd)))]) hx hb dX8_board_160 hl (by decide) rfl (fun ls hl => ?_)
                              refine lv_iload hx hb dX8_board_162 (lv_at hl 0 rfl) ?_
                              refine z_if_ne (tgt := 169) hx hb (by decide) dX8_board_164 (by decide) (fun c43 => ?_) (fun c43 => ?_)
                              · skip
                                exact absurd c43 (by decide)
                              · skip
                                refine z_iconst hx hb dX8_board_167 ?_
                                exact K _ (st) _ _ _ _ hP hS (by first | exact Or.inl ⟨fun z => by have q1 := z.1.1; have q2 := z.1.2.1; have q3 := z.1.2.2.1; have q4 := z.1.2.2.2.1; have q5 := z.2; omega, rfl, rfl⟩ | exact Or.inl ⟨fun z => by obtain ⟨k9, a9, b9, d9⟩ := z.1.2.2.2.2 hk1; exact hcl k9 a9 b9 d9, rfl, rfl⟩) dX8_board_168
                            · skip
                              have hcl : ∃ k, 0 ≤ k ∧ k ≠ ww / 100 % 10 ∧ bt (ww % 100) k := Classical.byContradiction (fun z => c42 ((clr64 (x := ww % 100) (c := ww / 100 % 10) (by omega) (by omega) (by omega) (by omega)).mpr (fun k a b d => z ⟨k, a, b, d⟩)))
                              have hgood : BOARDp (st 0 0) ww zz sp wd := ⟨⟨by omega, by omega, by omega, by omega, fun _ => hcl⟩, by omega, by omega, by omega⟩
                              refine z_iconst hx hb dX8_board_155 ?_
                              refine lv_goto (tgt := 160) hx hb dX8_board_156 (by decide) ?_
                              refine lv_istore (lv' := [(8, .int (iZ (1))), (7, .int (iZ (ww % 100))), (6, .int (iZ (ww / 100 % 10))), (5, .int (iZ (ww / 1000))), (0, .ref (a 0)), (1, .int (iZ (ww))), (2, .int (iZ (zz))), (3, .int (iZ (sp))), (4, .int (iZ (wd)))]) hx hb dX8_board_160 hl (by decide) rfl (fun ls hl => ?_)
                              refine lv_iload hx hb dX8_board_162 (lv_at hl 0 rfl) ?_
                              refine z_if_ne (tgt := 169) hx hb (by decide) dX8_board_164 (by decide) (fun c44 => ?_) (fun c44 => ?_)
                              · skip
                                refine lv_aload_n hx hb dX8_board_169 rfl (lv_at hl 4 rfl) ?_
                                refine z_get (C := RX8) (T := TX8) (N := 26) (ci := 7) hx hb hts iX8 hown hK hP 0 rfl rfl 11 (by decide) (hts (.fieldLink RX8 82 "ShotBoardModel" "boards" "I") (by decide +kernel)) (.int (iZ (st 0 (3)))) rfl dX8_board_170 ?_
                                refine z_bipush hx hb dX8_board_173 (by decide +kernel) ?_
                                refine z_icmp_ne (tgt := 181) hx hb (by omega) (by decide) dX8_board_175 (by decide) (fun c45 => ?_) (fun c45 => ?_)
                                · skip
                                  refine lv_aload_n hx hb dX8_board_181 rfl (lv_at hl 4 rfl) ?_
                                  refine z_get (C := RX8) (T := TX8) (N := 26) (ci := 7) hx hb hts iX8 hown hK hP 0 rfl rfl 12 (by decide) (hts (.fieldLink RX8 34 "ShotBoardModel" "kind" "[I") (by decide +kernel)) (.ref (a 9)) rfl dX8_board_182 ?_
                                  refine lv_aload_n hx hb dX8_board_185 rfl (lv_at hl 4 rfl) ?_
                                  refine z_get (C := RX8) (T := TX8) (N := 26) (ci := 7) hx hb hts iX8 hown hK hP 0 rfl rfl 11 (by decide) (hts (.fieldLink RX8 82 "ShotBoardModel" "boards" "I") (by decide +kernel)) (.int (iZ (st 0 (3)))) rfl dX8_board_186 ?_
                                  refine lv_iload hx hb dX8_board_189 (lv_at hl 3 rfl) ?_
                                  refine z_iast hx hb hK hP hD hS 9 (st 9) rfl (by omega) (by omega) (by omega) (WM g a (up (st) 9 (st 0 (3)) (ww / 1000))) rfl dX8_board_191 (fun H locs hP hD hS => ?_)
                                  refine lv_aload_n hx hb dX8_board_192 rfl (lv_at hl 4 rfl) ?_
                                  refine z_get (C := RX8) (T := TX8) (N := 26) (ci := 7) hx hb hts iX8 hown hK hP 0 rfl rfl 13 (by decide) (hts (.fieldLink RX8 37 "ShotBoardModel" "main" "[I") (by decide +kernel)) (.ref (a 10)) rfl dX8_board_193 ?_
                                  refine lv_aload_n hx hb dX8_board_196 rfl (lv_at hl 4 rfl) ?_
                                  refine z_get (C := RX8) (T := TX8) (N := 26) (ci := 7) hx hb hts iX8 hown hK hP 0 rfl rfl 11 (by decide) (hts (.fieldLink RX8 82 "ShotBoardModel" "boards" "I") (by decide +kernel)) (.int (iZ (st 0 (3)))) rfl dX8_board_197 ?_
                                  refine lv_iload hx hb dX8_board_200 (lv_at hl 2 rfl) ?_
                                  refine z_iast hx hb hK hP hD hS 10 ((up (st) 9 (st 0 (3)) (ww / 1000)) 10) rfl (by omega) (by omega) (by omega) (WM g a (up (up (st) 9 (st 0 (3)) (ww / 1000)) 10 (st 0 (3)) (ww / 100 % 10))) rfl dX8_board_202 (fun H locs hP hD hS => ?_)
                                  refine lv_aload_n hx hb dX8_board_203 rfl (lv_at hl 4 rfl) ?_
                                  refine z_get (C := RX8) (T := TX8) (N := 26) (ci := 7) hx hb hts iX8 hown hK hP 0 rfl rfl 14 (by decide) (hts (.fieldLink RX8 40 "ShotBoardModel" "must" "[I") (by decide +kernel)) (.ref (a 11)) rfl dX8_board_204 ?_
                                  refine lv_aload_n hx hb dX8_board_207 rfl (lv_at hl 4 rfl) ?_
                                  refine z_get (C := RX8) (T := TX8) (N := 26) (ci := 7) hx hb hts iX8 hown hK hP 0 rfl rfl 11 (by decide) (hts (.fieldLink RX8 82 "ShotBoardModel" "boards" "I") (by decide +kernel)) (.int (iZ (st 0 (3)))) rfl dX8_board_208 ?_
                                  refine lv_iload hx hb dX8_board_211 (lv_at hl 1 rfl) ?_
                                  refine z_iconst hx hb dX8_board_213 ?_
                                  refine lv_iload hx hb dX8_board_214 (lv_at hl 2 rfl) ?_
                                  refine z_ishl hx hb dX8_board_216 ?_
                                  refine z_ior hx hb dX8_board_217 ?_
                                  refine z_iast hx hb hK hP hD hS 11 ((up (up (st) 9 (st 0 (3)) (ww / 1000)) 10 (st 0 (3)) (ww / 100 % 10)) 11) rfl (by omega) (by omega) (by omega) (WM g a (up (up (up (st) 9 (st 0 (3)) (ww / 1000)) 10 (st 0 (3)) (ww / 100 % 10)) 11 (st 0 (3)) (zor (ww % 100) (zshl (1) (ww / 100 % 10))))) rfl dX8_board_218 (fun H locs hP hD hS => ?_)
                                  refine lv_aload_n hx hb dX8_board_219 rfl (lv_at hl 4 rfl) ?_
                                  refine z_get (C := RX8) (T := TX8) (N := 26) (ci := 7) hx hb hts iX8 hown hK hP 0 rfl rfl 15 (by decide) (hts (.fieldLink RX8 43 "ShotBoardModel" "sizes" "[I") (by decide +kernel)) (.ref (a 12)) rfl dX8_board_220 ?_
                                  refine lv_aload_n hx hb dX8_board_223 rfl (lv_at hl 4 rfl) ?_
                                  refine z_get (C := RX8) (T := TX8) (N := 26) (ci := 7) hx hb hts iX8 hown hK hP 0 rfl rfl 11 (by decide) (hts (.fieldLink RX8 82 "ShotBoardModel" "boards" "I") (by decide +kernel)) (.int (iZ (st 0 (3)))) rfl dX8_board_224 ?_
                                  refine lv_iload_n hx hb dX8_board_227 rfl (lv_at hl 6 rfl) ?_
                                  refine z_iast hx hb hK hP hD hS 12 ((up (up (up (st) 9 (st 0 (3)) (ww / 1000)) 10 (st 0 (3)) (ww / 100 % 10)) 11 (st 0 (3)) (zor (ww % 100) (zshl (1) (ww / 100 % 10)))) 12) rfl (by omega) (by omega) (by omega) (WM g a (up (up (up (up (st) 9 (st 0 (3)) (ww / 1000)) 10 (st 0 (3)) (ww / 100 % 10)) 11 (st 0 (3)) (zor (ww % 100) (zshl (1) (ww / 100 % 10)))) 12 (st 0 (3)) (zz))) rfl dX8_board_228 (fun H locs hP hD hS => ?_)
                                  refine lv_aload_n hx hb dX8_board_229 rfl (lv_at hl 4 rfl) ?_
                                  refine z_get (C := RX8) (T := TX8) (N := 26) (ci := 7) hx hb hts iX8 hown hK hP 0 rfl rfl 16 (by decide) (hts (.fieldLink RX8 46 "ShotBoardModel" "from" "[I") (by decide +kernel)) (.ref (a 13)) rfl dX8_board_230 ?_
                                  refine lv_aload_n hx hb dX8_board_233 rfl (lv_at hl 4 rfl) ?_
                                  refine z_get (C := RX8) (T := TX8) (N := 26) (ci := 7) hx hb hts iX8 hown hK hP 0 rfl rfl 11 (by decide) (hts (.fieldLink RX8 82 "ShotBoardModel" "boards" "I") (by decide +kernel)) (.int (iZ (st 0 (3)))) rfl dX8_board_234 ?_
                                  refine lv_iload_n hx hb dX8_board_237 rfl (lv_at hl 7 rfl) ?_
                                  refine z_bipush hx hb dX8_board_238 (by decide +kernel) ?_
                                  refine z_idiv hx hb (by omega) (by omega) (by decide) (by omega) dX8_board_240 ?_
                                  refine z_iast hx hb hK hP hD hS 13 ((up (up (up (up (st) 9 (st 0 (3)) (ww / 1000)) 10 (st 0 (3)) (ww / 100 % 10)) 11 (st 0 (3)) (zor (ww % 100) (zshl (1) (ww / 100 % 10)))) 12 (st 0 (3)) (zz)) 13) rfl (by omega) (by omega) (by omega) (WM g a (up (up (up (up (up (st) 9 (st 0 (3)) (ww / 1000)) 10 (st 0 (3)) (ww / 100 % 10)) 11 (st 0 (3)) (zor (ww % 100) (zshl (1) (ww / 100 % 10)))) 12 (st 0 (3)) (zz)) 13 (st 0 (3)) ((sp) / (100)))) rfl dX8_board_241 (fun H locs hP hD hS => ?_)
                                  refine lv_aload_n hx hb dX8_board_242 rfl (lv_at hl 4 rfl) ?_
                                  refine z_get (C := RX8) (T := TX8) (N := 26) (ci := 7) hx hb hts iX8 hown hK hP 0 rfl rfl 17 (by decide) (hts (.fieldLink RX8 49 "ShotBoardModel" "to" "[I") (by decide +kernel)) (.ref (a 14)) rfl dX8_board_243 ?_
                                  refine lv_aload_n hx hb dX8_board_246 rfl (lv_at hl 4 rfl) ?_
                                  refine z_get (C := RX8) (T := TX8) (N := 26) (ci := 7) hx hb hts iX8 hown hK hP 0 rfl rfl 11 (by decide) (hts (.fieldLink RX8 82 "ShotBoardModel" "boards" "I") (by decide +kernel)) (.int (iZ (st 0 (3)))) rfl dX8_board_247 ?_
                                  refine lv_iload_n hx hb dX8_board_250 rfl (lv_at hl 7 rfl) ?_
                                  refine z_bipush hx hb dX8_board_251 (by decide +kernel) ?_
                                  refine z_irem hx hb (by omega) (by omega) (by decide) (by omega) dX8_board_253 ?_
                                  refine z_iast hx hb hK hP hD hS 14 ((up (up (up (up (up (st) 9 (st 0 (3)) (ww / 1000)) 10 (st 0 (3)) (ww / 100 % 10)) 11 (st 0 (3)) (zor (ww % 100) (zshl (1) (ww / 100 % 10)))) 12 (st 0 (3)) (zz)) 13 (st 0 (3)) ((sp) / (100))) 14) rfl (by omega) (by omega) (by omega) (WM g a (up (up (up (up (up (up (st) 9 (st 0 (3)) (ww / 1000)) 10 (st 0 (3)) (ww / 100 % 10)) 11 (st 0 (3)) (zor (ww % 100) (zshl (1) (ww / 100 % 10)))) 12 (st 0 (3)) (zz)) 13 (st 0 (3)) ((sp) / (100))) 14 (st 0 (3)) ((sp) % (100)))) rfl dX8_board_254 (fun H locs hP hD hS => ?_)
                                  refine lv_aload_n hx hb dX8_board_255 rfl (lv_at hl 4 rfl) ?_
                                  refine z_get (C := RX8) (T := TX8) (N := 26) (ci := 7) hx hb hts iX8 hown hK hP 0 rfl rfl 18 (by decide) (hts (.fieldLink RX8 52 "ShotBoardModel" "words" "[I") (by decide +kernel)) (.ref (a 15)) rfl dX8_board_256 ?_
                                  refine lv_aload_n hx hb dX8_board_259 rfl (lv_at hl 4 rfl) ?_
                                  refine z_get (C := RX8) (T := TX8) (N := 26) (ci := 7) hx hb hts iX8 hown hK hP 0 rfl rfl 11 (by decide) (hts (.fieldLink RX8 82 "ShotBoardModel" "boards" "I") (by decide +kernel)) (.int (iZ (st 0 (3)))) rfl dX8_board_260 ?_
                                  refine lv_iload hx hb dX8_board_263 (lv_at hl 8 rfl) ?_
                                  refine z_iast hx hb hK hP hD hS 15 ((up (up (up (up (up (up (st) 9 (st 0 (3)) (ww / 1000)) 10 (st 0 (3)) (ww / 100 % 10)) 11 (st 0 (3)) (zor (ww % 100) (zshl (1) (ww / 100 % 10)))) 12 (st 0 (3)) (zz)) 13 (st 0 (3)) ((sp) / (100))) 14 (st 0 (3)) ((sp) % (100))) 15) rfl (by omega) (by omega) (by omega) (WM g a (up (up (up (up (up (up (up (st) 9 (st 0 (3)) (ww / 1000)) 10 (st 0 (3)) (ww / 100 % 10)) 11 (st 0 (3)) (zor (ww % 100) (zshl (1) (ww / 100 % 10)))) 12 (st 0 (3)) (zz)) 13 (st 0 (3)) ((sp) / (100))) 14 (st 0 (3)) ((sp) % (100))) 15 (st 0 (3)) (wd))) rfl dX8_board_265 (fun H locs hP hD hS => ?_)
                                  refine lv_aload_n hx hb dX8_board_266 rfl (lv_at hl 4 rfl) ?_
                                  refine lv_dup hx hb dX8_board_267 rfl ?_
                                  refine z_get (C := RX8) (T := TX8) (N := 26) (ci := 7) hx hb hts iX8 hown hK hP 0 rfl rfl 11 (by decide) (hts (.fieldLink RX8 82 "ShotBoardModel" "boards" "I") (by decide +kernel)) (.int (iZ (st 0 (3)))) rfl dX8_board_268 ?_
                                  refine z_iconst hx hb dX8_board_271 ?_
                                  refine z_iadd hx hb dX8_board_272 ?_
                                  refine z_put (C := RX8) (T := TX8) (N := 26) (ci := 7) (ty := .int) hx hb hts iX8 tyX8 tyX8_ok nmX8 hown hK hP hD hS 0 rfl rfl 11 (by decide) (hts (.fieldLink RX8 82 "ShotBoardModel" "boards" "I") (by decide +kernel)) rfl (by decide +kernel) rfl rfl (Nat.le_of_ble_eq_true rfl) (WM g a (up (up (up (up (up (up (up (up (st) 9 (st 0 (3)) (ww / 1000)) 10 (st 0 (3)) (ww / 100 % 10)) 11 (st 0 (3)) (zor (ww % 100) (zshl (1) (ww / 100 % 10)))) 12 (st 0 (3)) (zz)) 13 (st 0 (3)) ((sp) / (100))) 14 (st 0 (3)) ((sp) % (100))) 15 (st 0 (3)) (wd)) 0 (3) ((st 0 (3)) + (1)))) rfl dX8_board_273 (fun H locs hP hD hS => ?_)
                                  refine lv_aload_n hx hb dX8_board_276 rfl (lv_at hl 4 rfl) ?_
                                  refine z_get (C := RX8) (T := TX8) (N := 26) (ci := 7) hx hb hts iX8 hown hK hP 0 rfl rfl 11 (by decide) (hts (.fieldLink RX8 82 "ShotBoardModel" "boards" "I") (by decide +kernel)) (.int (iZ ((st 0 (3)) + (1)))) rfl dX8_board_277 ?_
                                  refine z_iconst hx hb dX8_board_280 ?_
                                  refine z_isub hx hb dX8_board_281 ?_
                                  exact K _ (up (up (up (up (up (up (up (up (st) 9 (st 0 (3)) (ww / 1000)) 10 (st 0 (3)) (ww / 100 % 10)) 11 (st 0 (3)) (zor (ww % 100) (zshl (1) (ww / 100 % 10)))) 12 (st 0 (3)) (zz)) 13 (st 0 (3)) ((sp) / (100))) 14 (st 0 (3)) ((sp) % (100))) 15 (st 0 (3)) (wd)) 0 (3) ((st 0 (3)) + (1))) _ _ _ _ hP hS (Or.inr (Or.inr ⟨hgood, by omega, by omega, rfl⟩)) dX8_board_282
                                · skip
                                  refine z_bipush hx hb dX8_board_178 (by decide +kernel) ?_
                                  exact K _ (st) _ _ _ _ hP hS (Or.inr (Or.inl ⟨hgood, by omega, rfl, rfl⟩)) dX8_board_180
                              · skip
                                exact absurd c44 (by decide)
