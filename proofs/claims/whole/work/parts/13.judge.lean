abbrev rX1_someoneChangesSide : Room := { frames := 1, cells := 0, slots := 0, locals := 24 }
set_option maxHeartbeats 4000000 in
set_option maxRecDepth 100000 in
theorem m_X1_someoneChangesSide (l : Launch) (D : va_G) (g : Nat → ClassId) (a : Nat → Nat) (st : SS) (ff : Int) (bb : Int) (tt : Int) (hI : IC st) (h1 : 0 ≤ bb ∧ bb < st 19 3) (h3 : plc ff) (h2 : 1 ≤ tt ∧ tt < 60) : Met l yX1_someoneChangesSide wsX1_someoneChangesSide rX1_someoneChangesSide (PcR D g (WC g a st) [.ref (a 4), .int (iZ (ff)), .ref (a (19 + (bb).toNat)), .int (iZ (tt))]) (QcRead (iZ (b2 (CHG (fun q t => st 0 (q * 60 + t)) (st 19 0) (st 12 bb) (st 13 bb) ff tt)))) 0 0 (fun _ => False) := by
  refine metR (cc := cX1_someoneChangesSide) (maxL := 9) (ret := (some .boolean)) (own := RX1) (by decide) rfl rfl (Nat.le_of_ble_eq_true rfl) (Or.inr ⟨rfl, b2_01 _⟩) ?_
  intro p e R s m args below meth c Q ls S hRf hRl hK hP hl K
  have hx := S.1
  have hb := S.2.1
  have hown := S.2.2.2.1
  have hts := S.2.2.2.2
  have hRf : 1 ≤ R.frames := hRf
  have hRl : 24 ≤ R.locals := hRl
  have hl : lv_has ls 9 [(0, .ref (a 4)), (1, .int (iZ (ff))), (2, .ref (a (19 + (bb).toNat))), (3, .int (iZ (tt)))] := hl
  have iX0 : ∀ w ∈ wsX00, w ∈ wsX1_someoneChangesSide := by decide +kernel
  have iX1 : ∀ w ∈ wsX10, w ∈ wsX1_someoneChangesSide := by decide +kernel
  have iX6 : ∀ w ∈ wsX60, w ∈ wsX1_someoneChangesSide := by decide +kernel
  have hB := hI.s
  have hbR := hI.bd bb (by omega) (by omega)
  have hL1 := (hI.bl bb (by omega) (by omega)).1
  have hL2 := (hI.bl bb (by omega) (by omega)).2.1
  refine lv_aload_n hx hb dX1_someoneChangesSide_0 rfl (lv_at hl 0 rfl) ?_
  refine z_get (C := RX1) (T := TX1) (N := 1) (ci := 1) hx hb hts iX1 hown hK hP 4 rfl rfl 0 (by decide) (hts (.fieldLink RX1 9 "ShotBoard$Judge" "stage" "LShotBoard$Stage;") (by decide +kernel)) (.ref (a 1)) rfl dX1_someoneChangesSide_1 ?_
  refine lv_aload_n hx hb dX1_someoneChangesSide_4 rfl (lv_at hl 2 rfl) ?_
  refine z_get (C := RX0) (T := TX0) (N := 8) (ci := 0) hx hb hts iX0 hown hK hP (19 + (bb).toNat) (WC_bd g a _ (by omega) (by omega)) rfl 1 (by decide) (hts (.fieldLink RX1 44 "ShotBoard$Board" "main" "I") (by decide +kernel)) (.int (iZ (st 12 (bb)))) rfl dX1_someoneChangesSide_5 ?_
  refine lv_iload_n hx hb dX1_someoneChangesSide_8 rfl (lv_at hl 3 rfl) ?_
  refine z_iconst hx hb dX1_someoneChangesSide_9 ?_
  refine z_isub hx hb dX1_someoneChangesSide_10 ?_
  refine z_cVR (q0 := 1) (ci := 5) (As := [.int (iZ (st 12 (bb))), .int (iZ ((tt) - (1)))]) (rest := []) S (m_X6_placeOf l D g a (st) (st 12 (bb)) ((tt) - (1)) hI (by omega) (by omega)) (cwV 2 hts gX1_someoneChangesSide_X6_placeOf rfl rfl rfl (by decide +kernel) ⟨Nat.le_trans (by decide) hRf, Nat.le_trans (by decide) hRl⟩) hK hP rfl rfl rfl hl.1 rfl (Nat.le_of_ble_eq_true rfl) dX1_someoneChangesSide_11 ⟨Nat.zero_le _, Nat.zero_le _⟩ ?_
  have f1 := hI.c0 ((st 12 (bb)) * 60 + ((tt) - (1))) (by omega) (by omega)
  refine lv_istore (lv' := [(4, .int (iZ (st 0 ((st 12 (bb)) * 60 + ((tt) - (1)))))), (0, .ref (a 4)), (1, .int (iZ (ff))), (2, .ref (a (19 + (bb).toNat))), (3, .int (iZ (tt)))]) hx hb dX1_someoneChangesSide_14 hl (by decide) rfl (fun ls hl => ?_)
  refine lv_aload_n hx hb dX1_someoneChangesSide_16 rfl (lv_at hl 1 rfl) ?_
  refine z_get (C := RX1) (T := TX1) (N := 1) (ci := 1) hx hb hts iX1 hown hK hP 4 rfl rfl 0 (by decide) (hts (.fieldLink RX1 9 "ShotBoard$Judge" "stage" "LShotBoard$Stage;") (by decide +kernel)) (.ref (a 1)) rfl dX1_someoneChangesSide_17 ?_
  refine lv_aload_n hx hb dX1_someoneChangesSide_20 rfl (lv_at hl 3 rfl) ?_
  refine z_get (C := RX0) (T := TX0) (N := 8) (ci := 0) hx hb hts iX0 hown hK hP (19 + (bb).toNat) (WC_bd g a _ (by omega) (by omega)) rfl 1 (by decide) (hts (.fieldLink RX1 44 "ShotBoard$Board" "main" "I") (by decide +kernel)) (.int (iZ (st 12 (bb)))) rfl dX1_someoneChangesSide_21 ?_
  refine lv_iload_n hx hb dX1_someoneChangesSide_24 rfl (lv_at hl 4 rfl) ?_
  refine z_cVR (q0 := 1) (ci := 5) (As := [.int (iZ (st 12 (bb))), .int (iZ (tt))]) (rest := []) S (m_X6_placeOf l D g a (st) (st 12 (bb)) (tt) hI (by omega) (by omega)) (cwV 2 hts gX1_someoneChangesSide_X6_placeOf rfl rfl rfl (by decide +kernel) ⟨Nat.le_trans (by decide) hRf, Nat.le_trans (by decide) hRl⟩) hK hP rfl rfl rfl hl.1 rfl (Nat.le_of_ble_eq_true rfl) dX1_someoneChangesSide_25 ⟨Nat.zero_le _, Nat.zero_le _⟩ ?_
  have f2 := hI.c0 ((st 12 (bb)) * 60 + (tt)) (by omega) (by omega)
  refine lv_istore (lv' := [(5, .int (iZ (st 0 ((st 12 (bb)) * 60 + (tt))))), (4, .int (iZ (st 0 ((st 12 (bb)) * 60 + ((tt) - (1)))))), (0, .ref (a 4)), (1, .int (iZ (ff))), (2, .ref (a (19 + (bb).toNat))), (3, .int (iZ (tt)))]) hx hb dX1_someoneChangesSide_28 hl (by decide) rfl (fun ls hl => ?_)
  refine z_iconst hx hb dX1_someoneChangesSide_30 ?_
  refine lv_istore (lv' := [(6, .int (iZ (0))), (5, .int (iZ (st 0 ((st 12 (bb)) * 60 + (tt))))), (4, .int (iZ (st 0 ((st 12 (bb)) * 60 + ((tt) - (1)))))), (0, .ref (a 4)), (1, .int (iZ (ff))), (2, .ref (a (19 + (bb).toNat))), (3, .int (iZ (tt)))]) hx hb dX1_someoneChangesSide_31 hl (by decide) rfl (fun ls hl => ?_)
  have LP33 : ∀ (n33 : Nat) (qq : Int), (st 19 0 - qq) < (n33 : Int) → (0 ≤ qq ∧ qq ≤ st 19 0) → (∀ j, 0 ≤ j → j < qq → ¬ (bt (st 13 bb) j ∧ crossZ ff (st 0 (st 12 bb * 60 + (tt - 1))) (st 0 (j * 60 + (tt - 1))) * crossZ ff (st 0 (st 12 bb * 60 + tt)) (st 0 (j * 60 + tt)) < 0)) → ∀ (ls : Array Slot), lv_has ls 9 [(6, .int (iZ (qq))), (5, .int (iZ (st 0 ((st 12 (bb)) * 60 + (tt))))), (4, .int (iZ (st 0 ((st 12 (bb)) * 60 + ((tt) - (1)))))), (0, .ref (a 4)), (1, .int (iZ (ff))), (2, .ref (a (19 + (bb).toNat))), (3, .int (iZ (tt)))] → W p l e R s m args below meth c s.heap [] 0 0 Q (F0 m 33 ls []) := by
    intro n33
    induction n33 with
    | zero =>
      intro qq hm33 j1 j2  ls hl
      exact absurd hm33 (by omega)
    | succ n33 ih33 =>
      intro qq hm33 j1 j2  ls hl
      refine lv_iload hx hb dX1_someoneChangesSide_33 (lv_at hl 0 rfl) ?_
      refine lv_aload_n hx hb dX1_someoneChangesSide_35 rfl (lv_at hl 3 rfl) ?_
      refine z_get (C := RX1) (T := TX1) (N := 1) (ci := 1) hx hb hts iX1 hown hK hP 4 rfl rfl 0 (by decide) (hts (.fieldLink RX1 9 "ShotBoard$Judge" "stage" "LShotBoard$Stage;") (by decide +kernel)) (.ref (a 1)) rfl dX1_someoneChangesSide_36 ?_
      refine z_get (C := RX6) (T := TX6) (N := 6) (ci := 5) hx hb hts iX6 hown hK hP 1 rfl rfl 4 (by decide) (hts (.fieldLink RX1 34 "ShotBoard$Stage" "persons" "I") (by decide +kernel)) (.int (iZ (st 19 (0)))) rfl dX1_someoneChangesSide_39 ?_
      refine z_icmp_ge (tgt := 108) hx hb (by omega) (by omega) dX1_someoneChangesSide_42 (by decide) (fun c3 => ?_) (fun c3 => ?_)
      · skip
        refine z_iconst hx hb dX1_someoneChangesSide_108 ?_
        exact K _ _ _ (b2_neg (fun ⟨q, a, b, d⟩ => j2 q a (by omega) d) rfl) dX1_someoneChangesSide_109
      · skip
        refine lv_aload_n hx hb dX1_someoneChangesSide_45 rfl (lv_at hl 5 rfl) ?_
        refine lv_iload hx hb dX1_someoneChangesSide_46 (lv_at hl 0 rfl) ?_
        refine z_cVR (q0 := (19 + (bb).toNat)) (ci := 0) (As := [.int (iZ (qq))]) (rest := []) S (m_X0_mustShow l D g a (st) (bb) (qq) hI (by omega) (by omega)) (cwV 1 hts gX1_someoneChangesSide_X0_mustShow rfl rfl rfl (by decide +kernel) ⟨Nat.le_trans (by decide) hRf, Nat.le_trans (by decide) hRl⟩) hK hP rfl (WC_bd g a _ (by omega) (by omega)) rfl hl.1 rfl (Nat.le_of_ble_eq_true rfl) dX1_someoneChangesSide_48 ⟨Nat.zero_le _, Nat.zero_le _⟩ ?_
        refine z_if_eq (tgt := 102) hx hb (b2_rg _) dX1_someoneChangesSide_51 (by decide) (fun c4 => ?_) (fun c4 => ?_)
        · skip
          have c4 := b2_0 c4
          have hnb := c4
          refine z_iinc (lv' := [(6, .int (iZ ((qq) + 1))), (5, .int (iZ (st 0 ((st 12 (bb)) * 60 + (tt))))), (4, .int (iZ (st 0 ((st 12 (bb)) * 60 + ((tt) - (1)))))), (0, .ref (a 4)), (1, .int (iZ (ff))), (2, .ref (a (19 + (bb).toNat))), (3, .int (iZ (tt)))]) hx hb dX1_someoneChangesSide_102 hl (k := 0) rfl (by decide) rfl (fun ls hl => ?_)
          refine lv_goto (tgt := 33) hx hb dX1_someoneChangesSide_105 (by decide) ?_
          exact ih33 ((qq) + 1) (by omega) (by omega) (fun j a b => by
      by_cases e9 : j = qq
      · subst e9; exact fun z => by first | exact hnb z.1 | exact absurd z.2 (by omega)
      · exact j2 j a (by omega))  ls (lv_sub hl [0, 1, 2, 3, 4, 5, 6] rfl)
        · skip
          have c4 := b2_n0 c4
          have hyb := c4
          refine lv_iload_n hx hb dX1_someoneChangesSide_54 rfl (lv_at hl 4 rfl) ?_
          refine lv_iload hx hb dX1_someoneChangesSide_55 (lv_at hl 2 rfl) ?_
          refine lv_aload_n hx hb dX1_someoneChangesSide_57 rfl (lv_at hl 3 rfl) ?_
          refine z_get (C := RX1) (T := TX1) (N := 1) (ci := 1) hx hb hts iX1 hown hK hP 4 rfl rfl 0 (by decide) (hts (.fieldLink RX1 9 "ShotBoard$Judge" "stage" "LShotBoard$Stage;") (by decide +kernel)) (.ref (a 1)) rfl dX1_someoneChangesSide_58 ?_
          refine lv_iload hx hb dX1_someoneChangesSide_61 (lv_at hl 0 rfl) ?_
          refine lv_iload_n hx hb dX1_someoneChangesSide_63 rfl (lv_at hl 6 rfl) ?_
          refine z_iconst hx hb dX1_someoneChangesSide_64 ?_
          refine z_isub hx hb dX1_someoneChangesSide_65 ?_
          refine z_cVR (q0 := 1) (ci := 5) (As := [.int (iZ (qq)), .int (iZ ((tt) - (1)))]) (rest := [.int (iZ (st 0 ((st 12 (bb)) * 60 + ((tt) - (1))))), .int (iZ (ff))]) S (m_X6_placeOf l D g a (st) (qq) ((tt) - (1)) hI (by omega) (by omega)) (cwV 2 hts gX1_someoneChangesSide_X6_placeOf rfl rfl rfl (by decide +kernel) ⟨Nat.le_trans (by decide) hRf, Nat.le_trans (by decide) hRl⟩) hK hP rfl rfl rfl hl.1 rfl (Nat.le_of_ble_eq_true rfl) dX1_someoneChangesSide_66 ⟨Nat.zero_le _, Nat.zero_le _⟩ ?_
          have f5 := hI.c0 ((qq) * 60 + ((tt) - (1))) (by omega) (by omega)
          refine z_cSS (As := [.int (iZ (ff)), .int (iZ (st 0 ((st 12 (bb)) * 60 + ((tt) - (1))))), .int (iZ (st 0 ((qq) * 60 + ((tt) - (1)))))]) (rest := []) S (m_X2_cross l (ff) (st 0 ((st 12 (bb)) * 60 + ((tt) - (1)))) (st 0 ((qq) * 60 + ((tt) - (1)))) (by omega) (by omega) (by omega)) (va_cwS 3 hts gX1_someoneChangesSide_X2_cross rfl rfl rfl (by decide +kernel) ⟨Nat.le_trans (by decide) hRf, Nat.le_trans (by decide) hRl⟩) rfl hl.1 rfl (Nat.le_of_ble_eq_true rfl) dX1_someoneChangesSide_69 ⟨Nat.zero_le _, Nat.zero_le _⟩ ?_
          have f6 := crossZ_b (ff) (st 0 ((st 12 (bb)) * 60 + ((tt) - (1)))) (st 0 ((qq) * 60 + ((tt) - (1)))) (by omega) (by omega) (by omega)
          refine lv_istore (lv' := [(7, .int (iZ (crossZ (ff) (st 0 ((st 12 (bb)) * 60 + ((tt) - (1)))) (st 0 ((qq) * 60 + ((tt) - (1))))))), (6, .int (iZ (qq))), (5, .int (iZ (st 0 ((st 12 (bb)) * 60 + (tt))))), (4, .int (iZ (st 0 ((st 12 (bb)) * 60 + ((tt) - (1)))))), (0, .ref (a 4)), (1, .int (iZ (ff))), (2, .ref (a (19 + (bb).toNat))), (3, .int (iZ (tt)))]) hx hb dX1_someoneChangesSide_72 hl (by decide) rfl (fun ls hl => ?_)
          refine lv_iload_n hx hb dX1_someoneChangesSide_74 rfl (lv_at hl 5 rfl) ?_
          refine lv_iload hx hb dX1_someoneChangesSide_75 (lv_at hl 2 rfl) ?_
          refine lv_aload_n hx hb dX1_someoneChangesSide_77 rfl (lv_at hl 4 rfl) ?_
          refine z_get (C := RX1) (T := TX1) (N := 1) (ci := 1) hx hb hts iX1 hown hK hP 4 rfl rfl 0 (by decide) (hts (.fieldLink RX1 9 "ShotBoard$Judge" "stage" "LShotBoard$Stage;") (by decide +kernel)) (.ref (a 1)) rfl dX1_someoneChangesSide_78 ?_
          refine lv_iload hx hb dX1_someoneChangesSide_81 (lv_at hl 1 rfl) ?_
          refine lv_iload_n hx hb dX1_someoneChangesSide_83 rfl (lv_at hl 7 rfl) ?_
          refine z_cVR (q0 := 1) (ci := 5) (As := [.int (iZ (qq)), .int (iZ (tt))]) (rest := [.int (iZ (st 0 ((st 12 (bb)) * 60 + (tt)))), .int (iZ (ff))]) S (m_X6_placeOf l D g a (st) (qq) (tt) hI (by omega) (by omega)) (cwV 2 hts gX1_someoneChangesSide_X6_placeOf rfl rfl rfl (by decide +kernel) ⟨Nat.le_trans (by decide) hRf, Nat.le_trans (by decide) hRl⟩) hK hP rfl rfl rfl hl.1 rfl (Nat.le_of_ble_eq_true rfl) dX1_someoneChangesSide_84 ⟨Nat.zero_le _, Nat.zero_le _⟩ ?_
          have f7 := hI.c0 ((qq) * 60 + (tt)) (by omega) (by omega)
          refine z_cSS (As := [.int (iZ (ff)), .int (iZ (st 0 ((st 12 (bb)) * 60 + (tt)))), .int (iZ (st 0 ((qq) * 60 + (tt))))]) (rest := []) S (m_X2_cross l (ff) (st 0 ((st 12 (bb)) * 60 + (tt))) (st 0 ((qq) * 60 + (tt))) (by omega) (by omega) (by omega)) (va_cwS 3 hts gX1_someoneChangesSide_X2_cross rfl rfl rfl (by decide +kernel) ⟨Nat.le_trans (by decide) hRf, Nat.le_trans (by decide) hRl⟩) rfl hl.1 rfl (Nat.le_of_ble_eq_true rfl) dX1_someoneChangesSide_87 ⟨Nat.zero_le _, Nat.zero_le _⟩ ?_
          have f8 := crossZ_b (ff) (st 0 ((st 12 (bb)) * 60 + (tt))) (st 0 ((qq) * 60 + (tt))) (by omega) (by omega) (by omega)
          refine lv_istore (lv' := [(8, .int (iZ (crossZ (ff) (st 0 ((st 12 (bb)) * 60 + (tt))) (st 0 ((qq) * 60 + (tt)))))), (7, .int (iZ (crossZ (ff) (st 0 ((st 12 (bb)) * 60 + ((tt) - (1)))) (st 0 ((qq) * 60 + ((tt) - (1))))))), (6, .int (iZ (qq))), (5, .int (iZ (st 0 ((st 12 (bb)) * 60 + (tt))))), (4, .int (iZ (st 0 ((st 12 (bb)) * 60 + ((tt) - (1)))))), (0, .ref (a 4)), (1, .int (iZ (ff))), (2, .ref (a (19 + (bb).toNat))), (3, .int (iZ (tt)))]) hx hb dX1_someoneChangesSide_90 hl (by decide) rfl (fun ls hl => ?_)
          have g1 := pr_b (crossZ_b ff (st 0 (st 12 bb * 60 + (tt - 1))) (st 0 (qq * 60 + (tt - 1))) (by omega) (by omega) (by omega)) (crossZ_b ff (st 0 (st 12 bb * 60 + tt)) (st 0 (qq * 60 + tt)) (by omega) (by omega) (by omega))
          refine lv_iload hx hb dX1_someoneChangesSide_92 (lv_at hl 1 rfl) ?_
          refine lv_iload hx hb dX1_someoneChangesSide_94 (lv_at hl 0 rfl) ?_
          refine z_imul hx hb dX1_someoneChangesSide_96 ?_
          refine z_if_ge (tgt := 102) hx hb (by omega) dX1_someoneChangesSide_97 (by decide) (fun c9 => ?_) (fun c9 => ?_)
          · skip
            refine z_iinc (lv' := [(6, .int (iZ ((qq) + 1))), (8, .int (iZ (crossZ (ff) (st 0 ((st 12 (bb)) * 60 + (tt))) (st 0 ((qq) * 60 + (tt)))))), (7, .int (iZ (crossZ (ff) (st 0 ((st 12 (bb)) * 60 + ((tt) - (1)))) (st 0 ((qq) * 60 + ((tt) - (1))))))), (5, .int (iZ (st 0 ((st 12 (bb)) * 60 + (tt))))), (4, .int (iZ (st 0 ((st 12 (bb)) * 60 + ((tt) - (1)))))), (0, .ref (a 4)), (1, .int (iZ (ff))), (2, .ref (a (19 + (bb).toNat))), (3, .int (iZ (tt)))]) hx hb dX1_someoneChangesSide_102 hl (k := 2) rfl (by decide) rfl (fun ls hl => ?_)
            refine lv_goto (tgt := 33) hx hb dX1_someoneChangesSide_105 (by decide) ?_
            exact ih33 ((qq) + 1) (by omega) (by omega) (fun j a b => by
      by_cases e9 : j = qq
      · subst e9; exact fun z => by first | exact hnb z.1 | exact absurd z.2 (by omega)
      · exact j2 j a (by omega))  ls (lv_sub hl [0, 3, 4, 5, 6, 7, 8] rfl)
          · skip
            have hlt := c9
            refine z_iconst hx hb dX1_someoneChangesSide_100 ?_
            exact K _ _ _ (b2_pos ⟨qq, by omega, by omega, hyb, hlt⟩ rfl) dX1_someoneChangesSide_101
  exact LP33 ((st 19 0 - (0)) + 1 : Int).toNat (0) (by omega) (by omega) (fun j a b => by omega)  ls (lv_sub hl [0, 1, 2, 3, 4, 5, 6] rfl)
abbrev rX1_faultAt : Room := { frames := 3, cells := 0, slots := 0, locals := 74 }
set_option maxHeartbeats 4000000 in
set_option maxRecDepth 100000 in
theorem m_X1_faultAt (l : Launch) (D : va_G) (g : Nat → ClassId) (a : Nat → Nat) (st : SS) (ff : Int) (bb : Int) (tt : Int) (hI : IC st) (h1 : 0 ≤ bb ∧ bb < st 19 3) (h3 : plc ff) (h2 : st 15 bb ≤ tt ∧ tt ≤ st 16 bb) : Met l yX1_faultAt wsX1_faultAt rX1_faultAt (PcR D g (WC g a st) [.ref (a 4), .int (iZ (ff)), .ref (a (19 + (bb).toNat)), .int (iZ (tt))]) (QcRead (iZ (FL (fun q t => st 0 (q * 60 + t)) (st 19 0) (st 19 1) (st 1) (st 2) (st 11 bb) (st 12 bb) (st 13 bb) (st 14 bb) (st 15 bb) ff tt))) 0 0 (fun _ => False) := by
  refine metR (cc := cX1_faultAt) (maxL := 6) (ret := (some .int)) (own := RX1) (by decide) rfl rfl (Nat.le_of_ble_eq_true rfl) (Or.inl rfl) ?_
  intro p e R s m args below meth c Q ls S hRf hRl hK hP hl K
  have hx := S.1
  have hb := S.2.1
  have hown := S.2.2.2.1
  have hts := S.2.2.2.2
  have hRf : 3 ≤ R.frames := hRf
  have hRl : 74 ≤ R.locals := hRl
  have hl : lv_has ls 6 [(0, .ref (a 4)), (1, .int (iZ (ff))), (2, .ref (a (19 + (bb).toNat))), (3, .int (iZ (tt)))] := hl
  have iX0 : ∀ w ∈ wsX00, w ∈ wsX1_faultAt := by decide +kernel
  have iX1 : ∀ w ∈ wsX10, w ∈ wsX1_faultAt := by decide +kernel
  have iX6 : ∀ w ∈ wsX60, w ∈ wsX1_faultAt := by decide +kernel
  have hB := hI.s
  have hbR := hI.bd bb (by omega) (by omega)
  have hL1 := (hI.bl bb (by omega) (by omega)).1
  have hL2 := (hI.bl bb (by omega) (by omega)).2.1
  refine z_iconst hx hb dX1_faultAt_0 ?_
  refine lv_istore (lv' := [(4, .int (iZ (0))), (0, .ref (a 4)), (1, .int (iZ (ff))), (2, .ref (a (19 + (bb).toNat))), (3, .int (iZ (tt)))]) hx hb dX1_faultAt_1 hl (by decide) rfl (fun ls hl => ?_)
  have LP3 : ∀ (n3 : Nat) (qq : Int), (st 19 0 - qq) < (n3 : Int) → (0 ≤ qq ∧ qq ≤ st 19 0) → (∀ j, 0 ≤ j → j < qq → ¬ (bt (st 13 bb) j ∧ HID (fun q t => st 0 (q * 60 + t)) (st 19 0) (st 19 1) (st 1) (st 2) j tt ff)) → ∀ (ls : Array Slot), lv_has ls 6 [(4, .int (iZ (qq))), (0, .ref (a 4)), (1, .int (iZ (ff))), (2, .ref (a (19 + (bb).toNat))), (3, .int (iZ (tt)))] → W p l e R s m args below meth c s.heap [] 0 0 Q (F0 m 3 ls []) := by
    intro n3
    induction n3 with
    | zero =>
      intro qq hm3 j1 j2  ls hl
      exact absurd hm3 (by omega)
    | succ n3 ih3 =>
      intro qq hm3 j1 j2  ls hl
      refine lv_iload hx hb dX1_faultAt_3 (lv_at hl 0 rfl) ?_
      refine lv_aload_n hx hb dX1_faultAt_5 rfl (lv_at hl 1 rfl) ?_
      refine z_get (C := RX1) (T := TX1) (N := 1) (ci := 1) hx hb hts iX1 hown hK hP 4 rfl rfl 0 (by decide) (hts (.fieldLink RX1 9 "ShotBoard$Judge" "stage" "LShotBoard$Stage;") (by decide +kernel)) (.ref (a 1)) rfl dX1_faultAt_6 ?_
      refine z_get (C := RX6) (T := TX6) (N := 6) (ci := 5) hx hb hts iX6 hown hK hP 1 rfl rfl 4 (by decide) (hts (.fieldLink RX1 34 "ShotBoard$Stage" "persons" "I") (by decide +kernel)) (.int (iZ (st 19 (0)))) rfl dX1_faultAt_9 ?_
      refine z_icmp_ge (tgt := 50) hx hb (by omega) (by omega) dX1_faultAt_12 (by decide) (fun c1 => ?_) (fun c1 => ?_)
      · skip
        have he1 : fP (fun p => bt (st 13 bb) p ∧ HID (fun q t => st 0 (q * 60 + t)) (st 19 0) (st 19 1) (st 1) (st 2) p tt ff) (st 19 0).toNat 0 = -1 := fP_no (fun j a b => j2 j a (by omega))
        refine lv_aload_n hx hb dX1_faultAt_50 rfl (lv_at hl 1 rfl) ?_
        refine z_get (C := RX1) (T := TX1) (N := 1) (ci := 1) hx hb hts iX1 hown hK hP 4 rfl rfl 0 (by decide) (hts (.fieldLink RX1 9 "ShotBoard$Judge" "stage" "LShotBoard$Stage;") (by decide +kernel)) (.ref (a 1)) rfl dX1_faultAt_51 ?_
        refine lv_aload_n hx hb dX1_faultAt_54 rfl (lv_at hl 3 rfl) ?_
        refine z_get (C := RX0) (T := TX0) (N := 8) (ci := 0) hx hb hts iX0 hown hK hP (19 + (bb).toNat) (WC_bd g a _ (by omega) (by omega)) rfl 1 (by decide) (hts (.fieldLink RX1 44 "ShotBoard$Board" "main" "I") (by decide +kernel)) (.int (iZ (st 12 (bb)))) rfl dX1_faultAt_55 ?_
        refine lv_iload_n hx hb dX1_faultAt_58 rfl (lv_at hl 4 rfl) ?_
        refine z_cVR (q0 := 1) (ci := 5) (As := [.int (iZ (st 12 (bb))), .int (iZ (tt))]) (rest := []) S (m_X6_placeOf l D g a (st) (st 12 (bb)) (tt) hI (by omega) (by omega)) (cwV 2 hts gX1_faultAt_X6_placeOf rfl rfl rfl (by decide +kernel) ⟨Nat.le_trans (by decide) hRf, Nat.le_trans (by decide) hRl⟩) hK hP rfl rfl rfl hl.1 rfl (Nat.le_of_ble_eq_true rfl) dX1_faultAt_59 ⟨Nat.zero_le _, Nat.zero_le _⟩ ?_
        have f2 := hI.c0 ((st 12 (bb)) * 60 + (tt)) (by omega) (by omega)
        refine lv_istore (lv' := [(4, .int (iZ (st 0 ((st 12 (bb)) * 60 + (tt))))), (0, .ref (a 4)), (1, .int (iZ (ff))), (2, .ref (a (19 + (bb).toNat))), (3, .int (iZ (tt)))]) hx hb dX1_faultAt_62 hl (by decide) rfl (fun ls hl => ?_)
        refine z_iconst hx hb dX1_faultAt_64 ?_
        refine lv_istore (lv' := [(5, .int (iZ (0))), (4, .int (iZ (st 0 ((st 12 (bb)) * 60 + (tt))))), (0, .ref (a 4)), (1, .int (iZ (ff))), (2, .ref (a (19 + (bb).toNat))), (3, .int (iZ (tt)))]) hx hb dX1_faultAt_65 hl (by decide) rfl (fun ls hl => ?_)
        have LP67 : ∀ (n67 : Nat) (rr : Int), (st 19 0 - rr) < (n67 : Int) → (0 ≤ rr ∧ rr ≤ st 19 0) → (∀ j, 0 ≤ j → j < rr → ¬ (bt (st 13 bb) j ∧ ¬ cone ff (st 0 (st 12 bb * 60 + tt)) (st 0 (j * 60 + tt)))) → ∀ (ls : Array Slot), lv_has ls 6 [(5, .int (iZ (rr))), (4, .int (iZ (st 0 ((st 12 (bb)) * 60 + (tt))))), (0, .ref (a 4)), (1, .int (iZ (ff))), (2, .ref (a (19 + (bb).toNat))), (3, .int (iZ (tt)))] → W p l e R s m args below meth c s.heap [] 0 0 Q (F0 m 67 ls []) := by
          intro n67
          induction n67 with
          | zero =>
            intro rr hm67 k1 k2  ls hl
            exact absurd hm67 (by omega)
          | succ n67 ih67 =>
            intro rr hm67 k1 k2  ls hl
            refine lv_iload hx hb dX1_faultAt_67 (lv_at hl 0 rfl) ?_
            refine lv_aload_n hx hb dX1_faultAt_69 rfl (lv_at hl 2 rfl) ?_
            refine z_get (C := RX1) (T := TX1) (N := 1) (ci := 1) hx hb hts iX1 hown hK hP 4 rfl rfl 0 (by decide) (hts (.fieldLink RX1 9 "ShotBoard$Judge" "stage" "LShotBoard$Stage;") (by decide +kernel)) (.ref (a 1)) rfl dX1_faultAt_70 ?_
            refine z_get (C := RX6) (T := TX6) (N := 6) (ci := 5) hx hb hts iX6 hown hK hP 1 rfl rfl 4 (by decide) (hts (.fieldLink RX1 34 "ShotBoard$Stage" "persons" "I") (by decide +kernel)) (.int (iZ (st 19 (0)))) rfl dX1_faultAt_73 ?_
            refine z_icmp_ge (tgt := 119) hx hb (by omega) (by omega) dX1_faultAt_76 (by decide) (fun c3 => ?_) (fun c3 => ?_)
            · skip
              have he2 : fP (fun p => bt (st 13 bb) p ∧ ¬ cone ff (st 0 (st 12 bb * 60 + tt)) (st 0 (p * 60 + tt))) (st 19 0).toNat 0 = -1 := fP_no (fun j a b => k2 j a (by omega))
              refine lv_aload_n hx hb dX1_faultAt_119 rfl (lv_at hl 4 rfl) ?_
              refine z_get (C := RX0) (T := TX0) (N := 8) (ci := 0) hx hb hts iX0 hown hK hP (19 + (bb).toNat) (WC_bd g a _ (by omega) (by omega)) rfl 3 (by decide) (hts (.fieldLink RX1 56 "ShotBoard$Board" "sizes" "I") (by decide +kernel)) (.int (iZ (st 14 (bb)))) rfl dX1_faultAt_120 ?_
              refine lv_iload_n hx hb dX1_faultAt_123 rfl (lv_at hl 3 rfl) ?_
              refine lv_iload hx hb dX1_faultAt_124 (lv_at hl 1 rfl) ?_
              refine z_cSS (As := [.int (iZ (ff)), .int (iZ (st 0 ((st 12 (bb)) * 60 + (tt))))]) (rest := [.int (iZ (st 14 (bb)))]) S (m_X2_sizeSeen l (ff) (st 0 ((st 12 (bb)) * 60 + (tt))) (by omega) (by omega)) (va_cwS 2 hts gX1_faultAt_X2_sizeSeen rfl rfl rfl (by decide +kernel) ⟨Nat.le_trans (by decide) hRf, Nat.le_trans (by decide) hRl⟩) rfl hl.1 rfl (Nat.le_of_ble_eq_true rfl) dX1_faultAt_126 ⟨Nat.zero_le _, Nat.zero_le _⟩ ?_
              have f4 := sizeZ_b (ff) (st 0 ((st 12 (bb)) * 60 + (tt)))
              refine z_ishr hx hb dX1_faultAt_129 ?_
              refine z_iconst hx hb dX1_faultAt_130 ?_
              refine z_iand hx hb dX1_faultAt_131 ?_
              refine z_as (y := b2 (bt (st 14 bb) (sizeZ ff (st 0 (st 12 bb * 60 + tt))))) (bit_z (by omega) (by omega) (by omega) (by omega)) ?_
              refine z_if_ne (tgt := 138) hx hb (b2_rg _) dX1_faultAt_132 (by decide) (fun c5 => ?_) (fun c5 => ?_)
              · skip
                have c5 := b2_n0 c5
                have hsz := c5
                refine lv_aload_n hx hb dX1_faultAt_138 rfl (lv_at hl 4 rfl) ?_
                refine z_get (C := RX0) (T := TX0) (N := 8) (ci := 0) hx hb hts iX0 hown hK hP (19 + (bb).toNat) (WC_bd g a _ (by omega) (by omega)) rfl 0 (by decide) (hts (.fieldLink RX1 62 "ShotBoard$Board" "kind" "I") (by decide +kernel)) (.int (iZ (st 11 (bb)))) rfl dX1_faultAt_139 ?_
                refine z_iconst hx hb dX1_faultAt_142 ?_
                refine z_icmp_ne (tgt := 158) hx hb (by omega) (by decide) dX1_faultAt_143 (by decide) (fun c6 => ?_) (fun c6 => ?_)
                · skip
                  have hno : ¬ (st 11 bb = 2 ∧ st 15 bb < tt ∧ CHG (fun q t => st 0 (q * 60 + t)) (st 19 0) (st 12 bb) (st 13 bb) ff tt) := fun z => c6 z.1
                  refine z_iconst hx hb dX1_faultAt_158 ?_
                  refine lv_istore (lv' := [(5, .int (iZ (0))), (4, .int (iZ (st 0 ((st 12 (bb)) * 60 + (tt))))), (0, .ref (a 4)), (1, .int (iZ (ff))), (2, .ref (a (19 + (bb).toNat))), (3, .int (iZ (tt)))]) hx hb dX1_faultAt_159 hl (by decide) rfl (fun ls hl => ?_)
                  refine lv_iload hx hb dX1_faultAt_161 (lv_at hl 0 rfl) ?_
                  refine z_if_eq (tgt := 181) hx hb (by decide) dX1_faultAt_163 (by decide) (fun c7 => ?_) (fun c7 => ?_)
                  · skip
                    refine z_iconst hx hb dX1_faultAt_181 ?_
                    exact K _ _ _ (by
      unfold FL
      rw [he1, if_neg (by decide), he2, if_neg (by decide), if_neg (by rw [b2_t hsz]; decide), if_neg (fun z => hno (b2_1 z))]) dX1_faultAt_182
                  · skip
                    exact absurd c7 (by decide)
                · skip
                  refine lv_iload_n hx hb dX1_faultAt_146 rfl (lv_at hl 5 rfl) ?_
                  refine lv_aload_n hx hb dX1_faultAt_147 rfl (lv_at hl 4 rfl) ?_
                  refine z_get (C := RX0) (T := TX0) (N := 8) (ci := 0) hx hb hts iX0 hown hK hP (19 + (bb).toNat) (WC_bd g a _ (by omega) (by omega)) rfl 4 (by decide) (hts (.fieldLink RX1 15 "ShotBoard$Board" "first" "I") (by decide +kernel)) (.int (iZ (st 15 (bb)))) rfl dX1_faultAt_148 ?_
                  refine z_icmp_le (tgt := 158) hx hb (by omega) (by omega) dX1_faultAt_151 (by decide) (fun c8 => ?_) (fun c8 => ?_)
                  · skip
                    have hno : ¬ (st 11 bb = 2 ∧ st 15 bb < tt ∧ CHG (fun q t => st 0 (q * 60 + t)) (st 19 0) (st 12 bb) (st 13 bb) ff tt) := fun z => absurd z.2.1 (by omega)
                    refine z_iconst hx hb dX1_faultAt_158 ?_
                    refine lv_istore (lv' := [(5, .int (iZ (0))), (4, .int (iZ (st 0 ((st 12 (bb)) * 60 + (tt))))), (0, .ref (a 4)), (1, .int (iZ (ff))), (2, .ref (a (19 + (bb).toNat))), (3, .int (iZ (tt)))]) hx hb dX1_faultAt_159 hl (by decide) rfl (fun ls hl => ?_)
                    refine lv_iload hx hb dX1_faultAt_161 (lv_at hl 0 rfl) ?_
                    refine z_if_eq (tgt := 181) hx hb (by decide) dX1_faultAt_163 (by decide) (fun c9 => ?_) (fun c9 => ?_)
                    · skip
                      refine z_iconst hx hb dX1_faultAt_181 ?_
                      exact K _ _ _ (by
      unfold FL
      rw [he1, if_neg (by decide), he2, if_neg (by decide), if_neg (by rw [b2_t hsz]; decide), if_neg (fun z => hno (b2_1 z))]) dX1_faultAt_182
                    · skip
                      exact absurd c9 (by decide)
                  · skip
                    refine z_iconst hx hb dX1_faultAt_154 ?_
                    refine lv_goto (tgt := 159) hx hb dX1_faultAt_155 (by decide) ?_
                    refine lv_istore (lv' := [(5, .int (iZ (1))), (4, .int (iZ (st 0 ((st 12 (bb)) * 60 + (tt))))), (0, .ref (a 4)), (1, .int (iZ (ff))), (2, .ref (a (19 + (bb).toNat))), (3, .int (iZ (tt)))]) hx hb dX1_faultAt_159 hl (by decide) rfl (fun ls hl => ?_)
                    refine lv_iload hx hb dX1_faultAt_161 (lv_at hl 0 rfl) ?_
                    refine z_if_eq (tgt := 181) hx hb (by decide) dX1_faultAt_163 (by decide) (fun c10 => ?_) (fun c10 => ?_)
                    · skip
                      exact absurd c10 (by decide)
                    · skip
                      refine lv_aload_n hx hb dX1_faultAt_166 rfl (lv_at hl 2 rfl) ?_
                      refine lv_iload_n hx hb dX1_faultAt_167 rfl (lv_at hl 3 rfl) ?_
                      refine lv_aload_n hx hb dX1_faultAt_168 rfl (lv_at hl 4 rfl) ?_
                      refine lv_iload_n hx hb dX1_faultAt_169 rfl (lv_at hl 5 rfl) ?_
                      refine z_cVR (q0 := 4) (ci := 1) (As := [.int (iZ (ff)), .ref (a (19 + (bb).toNat)), .int (iZ (tt))]) (rest := []) S (m_X1_someoneChangesSide l D g a (st) (ff) (bb) (tt) hI (by omega) (by omega) (by omega)) (cwV 3 hts gX1_faultAt_X1_someoneChangesSide rfl rfl rfl (by decide +kernel) ⟨Nat.le_trans (by decide) hRf, Nat.le_trans (by decide) hRl⟩) hK hP rfl rfl rfl hl.1 rfl (Nat.le_of_ble_eq_true rfl) dX1_faultAt_170 ⟨Nat.zero_le _, Nat.zero_le _⟩ ?_
                      refine z_if_eq (tgt := 181) hx hb (b2_rg _) dX1_faultAt_173 (by decide) (fun c11 => ?_) (fun c11 => ?_)
                      · skip
                        have c11 := b2_0 c11
                        have hno : ¬ (st 11 bb = 2 ∧ st 15 bb < tt ∧ CHG (fun q t => st 0 (q * 60 + t)) (st 19 0) (st 12 bb) (st 13 bb) ff tt) := fun z => c11 z.2.2
                        refine z_iconst hx hb dX1_faultAt_181 ?_
                        exact K _ _ _ (by
      unfold FL
      rw [he1, if_neg (by decide), he2, if_neg (by decide), if_neg (by rw [b2_t hsz]; decide), if_neg (fun z => hno (b2_1 z))]) dX1_faultAt_182
                      · skip
                        have c11 := b2_n0 c11
                        have hyes : st 11 bb = 2 ∧ st 15 bb < tt ∧ CHG (fun q t => st 0 (q * 60 + t)) (st 19 0) (st 12 bb) (st 13 bb) ff tt := ⟨by omega, by omega, c11⟩
                        refine z_bipush hx hb dX1_faultAt_176 (by decide +kernel) ?_
                        refine lv_goto (tgt := 182) hx hb dX1_faultAt_178 (by decide) ?_
                        exact K _ _ _ (by
      unfold FL
      rw [he1, if_neg (by decide), he2, if_neg (by decide), if_neg (by rw [b2_t hsz]; decide), if_pos (b2_t hyes)]) dX1_faultAt_182
              · skip
                have c5 := b2_0 c5
                have hsz := c5
                refine z_bipush hx hb dX1_faultAt_135 (by decide +kernel) ?_
                exact K _ _ _ (by unfold FL; rw [he1, if_neg (by decide), he2, if_neg (by decide), if_pos (b2_f hsz)]) dX1_faultAt_137
            · skip
              refine lv_aload_n hx hb dX1_faultAt_79 rfl (lv_at hl 4 rfl) ?_
              refine lv_iload hx hb dX1_faultAt_80 (lv_at hl 0 rfl) ?_
              refine z_cVR (q0 := (19 + (bb).toNat)) (ci := 0) (As := [.int (iZ (rr))]) (rest := []) S (m_X0_mustShow l D g a (st) (bb) (rr) hI (by omega) (by omega)) (cwV 1 hts gX1_faultAt_X0_mustShow rfl rfl rfl (by decide +kernel) ⟨Nat.le_trans (by decide) hRf, Nat.le_trans (by decide) hRl⟩) hK hP rfl (WC_bd g a _ (by omega) (by omega)) rfl hl.1 rfl (Nat.le_of_ble_eq_true rfl) dX1_faultAt_82 ⟨Nat.zero_le _, Nat.zero_le _⟩ ?_
              refine z_if_eq (tgt := 113) hx hb (b2_rg _) dX1_faultAt_85 (by decide) (fun c12 => ?_) (fun c12 => ?_)
              · skip
                have c12 := b2_0 c12
                have hnb := c12
                refine z_iinc (lv' := [(5, .int (iZ ((rr) + 1))), (4, .int (iZ (st 0 ((st 12 (bb)) * 60 + (tt))))), (0, .ref (a 4)), (1, .int (iZ (ff))), (2, .ref (a (19 + (bb).toNat))), (3, .int (iZ (tt)))]) hx hb dX1_faultAt_113 hl (k := 0) rfl (by decide) rfl (fun ls hl => ?_)
                refine lv_goto (tgt := 67) hx hb dX1_faultAt_116 (by decide) ?_
                exact ih67 ((rr) + 1) (by omega) (by omega) (fun j a b => by
      by_cases e9 : j = rr
      · subst e9; exact fun z => by first | exact hnb z.1 | exact z.2 hyc
      · exact k2 j a (by omega))  ls (lv_sub hl [0, 1, 2, 3, 4, 5] rfl)
              · skip
                have c12 := b2_n0 c12
                have hyb := c12
                refine lv_iload_n hx hb dX1_faultAt_88 rfl (lv_at hl 3 rfl) ?_
                refine lv_iload hx hb dX1_faultAt_89 (lv_at hl 1 rfl) ?_
                refine lv_aload_n hx hb dX1_faultAt_91 rfl (lv_at hl 2 rfl) ?_
                refine z_get (C := RX1) (T := TX1) (N := 1) (ci := 1) hx hb hts iX1 hown hK hP 4 rfl rfl 0 (by decide) (hts (.fieldLink RX1 9 "ShotBoard$Judge" "stage" "LShotBoard$Stage;") (by decide +kernel)) (.ref (a 1)) rfl dX1_faultAt_92 ?_
                refine lv_iload hx hb dX1_faultAt_95 (lv_at hl 0 rfl) ?_
                refine lv_iload_n hx hb dX1_faultAt_97 rfl (lv_at hl 5 rfl) ?_
                refine z_cVR (q0 := 1) (ci := 5) (As := [.int (iZ (rr)), .int (iZ (tt))]) (rest := [.int (iZ (st 0 ((st 12 (bb)) * 60 + (tt)))), .int (iZ (ff))]) S (m_X6_placeOf l D g a (st) (rr) (tt) hI (by omega) (by omega)) (cwV 2 hts gX1_faultAt_X6_placeOf rfl rfl rfl (by decide +kernel) ⟨Nat.le_trans (by decide) hRf, Nat.le_trans (by decide) hRl⟩) hK hP rfl rfl rfl hl.1 rfl (Nat.le_of_ble_eq_true rfl) dX1_faultAt_98 ⟨Nat.zero_le _, Nat.zero_le _⟩ ?_
                have f13 := hI.c0 ((rr) * 60 + (tt)) (by omega) (by omega)
                refine z_cSS (As := [.int (iZ (ff)), .int (iZ (st 0 ((st 12 (bb)) * 60 + (tt)))), .int (iZ (st 0 ((rr) * 60 + (tt))))]) (rest := []) S (m_X2_inCone l (ff) (st 0 ((st 12 (bb)) * 60 + (tt))) (st 0 ((rr) * 60 + (tt))) (by omega) (by omega) (by omega)) (va_cwS 3 hts gX1_faultAt_X2_inCone rfl rfl rfl (by decide +kernel) ⟨Nat.le_trans (by decide) hRf, Nat.le_trans (by decide) hRl⟩) rfl hl.1 rfl (Nat.le_of_ble_eq_true rfl) dX1_faultAt_101 ⟨Nat.zero_le _, Nat.zero_le _⟩ ?_
                refine z_if_ne (tgt := 113) hx hb (b2_rg _) dX1_faultAt_104 (by decide) (fun c14 => ?_) (fun c14 => ?_)
                · skip
                  have c14 := b2_n0 c14
                  have hyc := c14
                  refine z_iinc (lv' := [(5, .int (iZ ((rr) + 1))), (4, .int (iZ (st 0 ((st 12 (bb)) * 60 + (tt))))), (0, .ref (a 4)), (1, .int (iZ (ff))), (2, .ref (a (19 + (bb).toNat))), (3, .int (iZ (tt)))]) hx hb dX1_faultAt_113 hl (k := 0) rfl (by decide) rfl (fun ls hl => ?_)
                  refine lv_goto (tgt := 67) hx hb dX1_faultAt_116 (by decide) ?_
                  exact ih67 ((rr) + 1) (by omega) (by omega) (fun j a b => by
      by_cases e9 : j = rr
      · subst e9; exact fun z => by first | exact hnb z.1 | exact z.2 hyc
      · exact k2 j a (by omega))  ls (lv_sub hl [0, 1, 2, 3, 4, 5] rfl)
                · skip
                  have c14 := b2_0 c14
                  have hnc := c14
                  refine z_bipush hx hb dX1_faultAt_107 (by decide +kernel) ?_
                  refine lv_iload hx hb dX1_faultAt_109 (lv_at hl 0 rfl) ?_
                  refine z_iadd hx hb dX1_faultAt_111 ?_
                  exact K _ _ _ (by unfold FL; rw [he1, if_neg (by decide), fP_is (q := rr) (by omega) (by omega) ⟨hyb, hnc⟩ k2, if_pos (by omega)]) dX1_faultAt_112
        exact LP67 ((st 19 0 - (0)) + 1 : Int).toNat (0) (by omega) (by omega) (fun j a b => by omega)  ls (lv_sub hl [0, 1, 2, 3, 4, 5] rfl)
      · skip
        refine lv_aload_n hx hb dX1_faultAt_15 rfl (lv_at hl 3 rfl) ?_
        refine lv_iload hx hb dX1_faultAt_16 (lv_at hl 0 rfl) ?_
        refine z_cVR (q0 := (19 + (bb).toNat)) (ci := 0) (As := [.int (iZ (qq))]) (rest := []) S (m_X0_mustShow l D g a (st) (bb) (qq) hI (by omega) (by omega)) (cwV 1 hts gX1_faultAt_X0_mustShow rfl rfl rfl (by decide +kernel) ⟨Nat.le_trans (by decide) hRf, Nat.le_trans (by decide) hRl⟩) hK hP rfl (WC_bd g a _ (by omega) (by omega)) rfl hl.1 rfl (Nat.le_of_ble_eq_true rfl) dX1_faultAt_18 ⟨Nat.zero_le _, Nat.zero_le _⟩ ?_
        refine z_if_eq (tgt := 44) hx hb (b2_rg _) dX1_faultAt_21 (by decide) (fun c15 => ?_) (fun c15 => ?_)
        · skip
          have c15 := b2_0 c15
          have hnb := c15
          refine z_iinc (lv' := [(4, .int (iZ ((qq) + 1))), (0, .ref (a 4)), (1, .int (iZ (ff))), (2, .ref (a (19 + (bb).toNat))), (3, .int (iZ (tt)))]) hx hb dX1_faultAt_44 hl (k := 0) rfl (by decide) rfl (fun ls hl => ?_)
          refine lv_goto (tgt := 3) hx hb dX1_faultAt_47 (by decide) ?_
          exact ih3 ((qq) + 1) (by omega) (by omega) (fun j a b => by
      by_cases e9 : j = qq
      · subst e9; exact fun z => by first | exact hnb z.1 | exact hnb2 z.2
      · exact j2 j a (by omega))  ls (lv_sub hl [0, 1, 2, 3, 4] rfl)
        · skip
          have c15 := b2_n0 c15
          have hyb := c15
          refine lv_aload_n hx hb dX1_faultAt_24 rfl (lv_at hl 1 rfl) ?_
          refine z_get (C := RX1) (T := TX1) (N := 1) (ci := 1) hx hb hts iX1 hown hK hP 4 rfl rfl 0 (by decide) (hts (.fieldLink RX1 9 "ShotBoard$Judge" "stage" "LShotBoard$Stage;") (by decide +kernel)) (.ref (a 1)) rfl dX1_faultAt_25 ?_
          refine lv_iload hx hb dX1_faultAt_28 (lv_at hl 0 rfl) ?_
          refine lv_iload_n hx hb dX1_faultAt_30 rfl (lv_at hl 4 rfl) ?_
          refine lv_iload_n hx hb dX1_faultAt_31 rfl (lv_at hl 2 rfl) ?_
          refine z_cVR (q0 := 1) (ci := 5) (As := [.int (iZ (qq)), .int (iZ (tt)), .int (iZ (ff))]) (rest := []) S (m_X6_hides l D g a (st) (qq) (tt) (ff) hI (by omega) (by omega) (by omega)) (cwV 3 hts gX1_faultAt_X6_hides rfl rfl rfl (by decide +kernel) ⟨Nat.le_trans (by decide) hRf, Nat.le_trans (by decide) hRl⟩) hK hP rfl rfl rfl hl.1 rfl (Nat.le_of_ble_eq_true rfl) dX1_faultAt_32 ⟨Nat.zero_le _, Nat.zero_le _⟩ ?_
          refine z_if_eq (tgt := 44) hx hb (b2_rg _) dX1_faultAt_35 (by decide) (fun c16 => ?_) (fun c16 => ?_)
          · skip
            have c16 := b2_0 c16
            have hnb2 := c16
            refine z_iinc (lv' := [(4, .int (iZ ((qq) + 1))), (0, .ref (a 4)), (1, .int (iZ (ff))), (2, .ref (a (19 + (bb).toNat))), (3, .int (iZ (tt)))]) hx hb dX1_faultAt_44 hl (k := 0) rfl (by decide) rfl (fun ls hl => ?_)
            refine lv_goto (tgt := 3) hx hb dX1_faultAt_47 (by decide) ?_
            exact ih3 ((qq) + 1) (by omega) (by omega) (fun j a b => by
      by_cases e9 : j = qq
      · subst e9; exact fun z => by first | exact hnb z.1 | exact hnb2 z.2
      · exact j2 j a (by omega))  ls (lv_sub hl [0, 1, 2, 3, 4] rfl)
          · skip
            have c16 := b2_n0 c16
            have hyb2 := c16
            refine z_bipush hx hb dX1_faultAt_38 (by decide +kernel) ?_
            refine lv_iload hx hb dX1_faultAt_40 (lv_at hl 0 rfl) ?_
            refine z_iadd hx hb dX1_faultAt_42 ?_
            exact K _ _ _ (by unfold FL; rw [fP_is (q := qq) (by omega) (by omega) ⟨hyb, hyb2⟩ j2, if_pos (by omega)]) dX1_faultAt_43
  exact LP3 ((st 19 0 - (0)) + 1 : Int).toNat (0) (by omega) (by omega) (fun j a b => by omega)  ls (lv_sub hl [0, 1, 2, 3, 4] rfl)
abbrev rX1_fault : Room := { frames := 4, cells := 0, slots := 0, locals := 99 }
set_option maxHeartbeats 4000000 in
set_option maxRecDepth 100000 in
theorem m_X1_fault (l : Launch) (D : va_G) (g : Nat → ClassId) (a : Nat → Nat) (st : SS) (ff : Int) (bb : Int) (hI : IC st) (h1 : 0 ≤ bb ∧ bb < st 19 3) (h3 : plc ff) : Met l yX1_fault wsX1_fault rX1_fault (PcR D g (WC g a st) [.ref (a 4), .int (iZ (ff)), .ref (a (19 + (bb).toNat))]) (QcRead (iZ (WHY (FLc st bb ff) (st 16 bb - st 15 bb + 1).toNat (st 15 bb)))) 0 0 (fun _ => False) := by
  refine metR (cc := cX1_fault) (maxL := 6) (ret := (some .int)) (own := RX1) (by decide) rfl rfl (Nat.le_of_ble_eq_true rfl) (Or.inl rfl) ?_
  intro p e R s m args below meth c Q ls S hRf hRl hK hP hl K
  have hx := S.1
  have hb := S.2.1
  have hown := S.2.2.2.1
  have hts := S.2.2.2.2
  have hRf : 4 ≤ R.frames := hRf
  have hRl : 99 ≤ R.locals := hRl
  have hl : lv_has ls 6 [(0, .ref (a 4)), (1, .int (iZ (ff))), (2, .ref (a (19 + (bb).toNat)))] := hl
  have iX0 : ∀ w ∈ wsX00, w ∈ wsX1_fault := by decide +kernel
  have iX1 : ∀ w ∈ wsX10, w ∈ wsX1_fault := by decide +kernel
  have hB := hI.s
  have hbR := hI.bd bb (by omega) (by omega)
  have hL1 := (hI.bl bb (by omega) (by omega)).1
  have hL2 := (hI.bl bb (by omega) (by omega)).2.1
  refine lv_aload_n hx hb dX1_fault_0 rfl (lv_at hl 2 rfl) ?_
  refine z_get (C := RX0) (T := TX0) (N := 8) (ci := 0) hx hb hts iX0 hown hK hP (19 + (bb).toNat) (WC_bd g a _ (by omega) (by omega)) rfl 4 (by decide) (hts (.fieldLink RX1 15 "ShotBoard$Board" "first" "I") (by decide +kernel)) (.int (iZ (st 15 (bb)))) rfl dX1_fault_1 ?_
  refine lv_istore_n (lv' := [(3, .int (iZ (st 15 (bb)))), (0, .ref (a 4)), (1, .int (iZ (ff))), (2, .ref (a (19 + (bb).toNat)))]) hx hb dX1_fault_4 rfl hl (by decide) rfl (fun ls hl => ?_)
  have LP5 : ∀ (n5 : Nat) (tt : Int), (st 16 bb + 1 - tt) < (n5 : Int) → (st 15 bb ≤ tt ∧ tt ≤ st 16 bb + 1) → (st 15 bb < tt → FLc st bb ff (tt - 1) = 0) → (WHY (FLc st bb ff) (st 16 bb - st 15 bb + 1).toNat (st 15 bb) = WHY (FLc st bb ff) (st 16 bb + 1 - tt).toNat tt) → ∀ (ls : Array Slot), lv_has ls 6 [(3, .int (iZ (tt))), (0, .ref (a 4)), (1, .int (iZ (ff))), (2, .ref (a (19 + (bb).toNat)))] → W p l e R s m args below meth c s.heap [] 0 0 Q (F0 m 5 ls []) := by
    intro n5
    induction n5 with
    | zero =>
      intro tt hm5 j1 j2 j3  ls hl
      exact absurd hm5 (by omega)
    | succ n5 ih5 =>
      intro tt hm5 j1 j2 j3  ls hl
      refine lv_iload_n hx hb dX1_fault_5 rfl (lv_at hl 0 rfl) ?_
      refine lv_aload_n hx hb dX1_fault_6 rfl (lv_at hl 3 rfl) ?_
      refine z_get (C := RX0) (T := TX0) (N := 8) (ci := 0) hx hb hts iX0 hown hK hP (19 + (bb).toNat) (WC_bd g a _ (by omega) (by omega)) rfl 5 (by decide) (hts (.fieldLink RX1 21 "ShotBoard$Board" "last" "I") (by decide +kernel)) (.int (iZ (st 16 (bb)))) rfl dX1_fault_7 ?_
      refine z_icmp_gt (tgt := 76) hx hb (by omega) (by omega) dX1_fault_10 (by decide) (fun c1 => ?_) (fun c1 => ?_)
      · skip
        refine z_iconst hx hb dX1_fault_76 ?_
        exact K _ _ _ (by rw [j3, show (st 16 bb + 1 - tt).toNat = 0 by omega]; rfl) dX1_fault_77
      · skip
        refine lv_iload_n hx hb dX1_fault_13 rfl (lv_at hl 0 rfl) ?_
        refine lv_aload_n hx hb dX1_fault_14 rfl (lv_at hl 3 rfl) ?_
        refine z_get (C := RX0) (T := TX0) (N := 8) (ci := 0) hx hb hts iX0 hown hK hP (19 + (bb).toNat) (WC_bd g a _ (by omega) (by omega)) rfl 4 (by decide) (hts (.fieldLink RX1 15 "ShotBoard$Board" "first" "I") (by decide +kernel)) (.int (iZ (st 15 (bb)))) rfl dX1_fault_15 ?_
        refine z_icmp_eq (tgt := 32) hx hb (by omega) (by omega) dX1_fault_18 (by decide) (fun c2 => ?_) (fun c2 => ?_)
        · skip
          refine z_iconst hx hb dX1_fault_32 ?_
          refine lv_goto (tgt := 37) hx hb dX1_fault_33 (by decide) ?_
          refine lv_istore (lv' := [(4, .int (iZ (1))), (3, .int (iZ (tt))), (0, .ref (a 4)), (1, .int (iZ (ff))), (2, .ref (a (19 + (bb).toNat)))]) hx hb dX1_fault_37 hl (by decide) rfl (fun ls hl => ?_)
          refine lv_iload hx hb dX1_fault_39 (lv_at hl 0 rfl) ?_
          refine z_if_eq (tgt := 54) hx hb (by decide) dX1_fault_41 (by decide) (fun c3 => ?_) (fun c3 => ?_)
          · skip
            exact absurd c3 (by decide)
          · skip
            refine lv_aload_n hx hb dX1_fault_44 rfl (lv_at hl 2 rfl) ?_
            refine lv_iload_n hx hb dX1_fault_45 rfl (lv_at hl 3 rfl) ?_
            refine lv_aload_n hx hb dX1_fault_46 rfl (lv_at hl 4 rfl) ?_
            refine lv_iload_n hx hb dX1_fault_47 rfl (lv_at hl 1 rfl) ?_
            refine z_cVR (q0 := 4) (ci := 1) (As := [.int (iZ (ff)), .ref (a (19 + (bb).toNat)), .int (iZ (tt))]) (rest := []) S (m_X1_faultAt l D g a (st) (ff) (bb) (tt) hI (by omega) (by omega) (by omega)) (cwV 3 hts gX1_fault_X1_faultAt rfl rfl rfl (by decide +kernel) ⟨Nat.le_trans (by decide) hRf, Nat.le_trans (by decide) hRl⟩) hK hP rfl rfl rfl hl.1 rfl (Nat.le_of_ble_eq_true rfl) dX1_fault_48 ⟨Nat.zero_le _, Nat.zero_le _⟩ ?_
            have f4 := FL_b (fun q t => st 0 (q * 60 + t)) (st 19 0) (st 19 1) (st 1) (st 2) (st 11 (bb)) (st 12 (bb)) (st 13 (bb)) (st 14 (bb)) (st 15 (bb)) (ff) (tt) (by omega)
            refine lv_goto (tgt := 55) hx hb dX1_fault_51 (by decide) ?_
            refine lv_istore (lv' := [(5, .int (iZ (FL (fun q t => st 0 (q * 60 + t)) (st 19 0) (st 19 1) (st 1) (st 2) (st 11 (bb)) (st 12 (bb)) (st 13 (bb)) (st 14 (bb)) (st 15 (bb)) (ff) (tt)))), (4, .int (iZ (1))), (3, .int (iZ (tt))), (0, .ref (a 4)), (1, .int (iZ (ff))), (2, .ref (a (19 + (bb).toNat)))]) hx hb dX1_fault_55 hl (by decide) rfl (fun ls hl => ?_)
            refine lv_iload hx hb dX1_fault_57 (lv_at hl 0 rfl) ?_
            refine z_if_eq (tgt := 70) hx hb (by omega) dX1_fault_59 (by decide) (fun c5 => ?_) (fun c5 => ?_)
            · skip
              have hz := c5
              refine z_iinc (lv' := [(3, .int (iZ ((tt) + 1))), (5, .int (iZ (FL (fun q t => st 0 (q * 60 + t)) (st 19 0) (st 19 1) (st 1) (st 2) (st 11 (bb)) (st 12 (bb)) (st 13 (bb)) (st 14 (bb)) (st 15 (bb)) (ff) (tt)))), (4, .int (iZ (1))), (0, .ref (a 4)), (1, .int (iZ (ff))), (2, .ref (a (19 + (bb).toNat)))]) hx hb dX1_fault_70 hl (k := 2) rfl (by decide) rfl (fun ls hl => ?_)
              refine lv_goto (tgt := 5) hx hb dX1_fault_73 (by decide) ?_
              have hz9 : FLc st bb ff tt = 0 := by
                first | exact hz | exact FL_skip (mn := st 12 bb) ⟨by omega, by omega⟩ (fun q a b => hI.st q tt a (by omega) (by omega) (by omega) (fun z => hnew ⟨q, a, b, z⟩)) (j2 (by omega))
              exact ih5 ((tt) + 1) (by omega) (by omega) (fun _ => by rw [show (tt) + 1 - 1 = tt by omega]; exact hz9) (by rw [j3, show (st 16 bb + 1 - tt).toNat = (st 16 bb + 1 - (tt + 1)).toNat + 1 by omega, WHY_0 hz9])  ls (lv_sub hl [0, 3, 4, 5] rfl)
            · skip
              have hnz := c5
              refine z_bipush hx hb dX1_fault_62 (by decide +kernel) ?_
              refine lv_iload_n hx hb dX1_fault_64 rfl (lv_at hl 2 rfl) ?_
              refine z_imul hx hb dX1_fault_65 ?_
              refine lv_iload hx hb dX1_fault_66 (lv_at hl 0 rfl) ?_
              refine z_iadd hx hb dX1_fault_68 ?_
              exact K _ _ _ (by rw [j3, show (st 16 bb + 1 - tt).toNat = (st 16 bb + 1 - (tt + 1)).toNat + 1 by omega, WHY_n hnz]) dX1_fault_69
        · skip
          refine lv_aload_n hx hb dX1_fault_21 rfl (lv_at hl 1 rfl) ?_
          refine z_get (C := RX1) (T := TX1) (N := 1) (ci := 1) hx hb hts iX1 hown hK hP 4 rfl rfl 0 (by decide) (hts (.fieldLink RX1 9 "ShotBoard$Judge" "stage" "LShotBoard$Stage;") (by decide +kernel)) (.ref (a 1)) rfl dX1_fault_22 ?_
          refine lv_iload_n hx hb dX1_fault_25 rfl (lv_at hl 0 rfl) ?_
          refine z_cVR (q0 := 1) (ci := 5) (As := [.int (iZ (tt))]) (rest := []) S (m_X6_someoneStepsAt l D g a (st) (tt) hI (by omega)) (cwV 1 hts gX1_fault_X6_someoneStepsAt rfl rfl rfl (by decide +kernel) ⟨Nat.le_trans (by decide) hRf, Nat.le_trans (by decide) hRl⟩) hK hP rfl rfl rfl hl.1 rfl (Nat.le_of_ble_eq_true rfl) dX1_fault_26 ⟨Nat.zero_le _, Nat.zero_le _⟩ ?_
          refine z_if_eq (tgt := 36) hx hb (b2_rg _) dX1_fault_29 (by decide) (fun c6 => ?_) (fun c6 => ?_)
          · skip
            have c6 := b2_0 c6
            have hnew := c6
            refine z_iconst hx hb dX1_fault_36 ?_
            refine lv_istore (lv' := [(4, .int (iZ (0))), (3, .int (iZ (tt))), (0, .ref (a 4)), (1, .int (iZ (ff))), (2, .ref (a (19 + (bb).toNat)))]) hx hb dX1_fault_37 hl (by decide) rfl (fun ls hl => ?_)
            refine lv_iload hx hb dX1_fault_39 (lv_at hl 0 rfl) ?_
            refine z_if_eq (tgt := 54) hx hb (by decide) dX1_fault_41 (by decide) (fun c7 => ?_) (fun c7 => ?_)
            · skip
              refine z_iconst hx hb dX1_fault_54 ?_
              refine lv_istore (lv' := [(5, .int (iZ (0))), (4, .int (iZ (0))), (3, .int (iZ (tt))), (0, .ref (a 4)), (1, .int (iZ (ff))), (2, .ref (a (19 + (bb).toNat)))]) hx hb dX1_fault_55 hl (by decide) rfl (fun ls hl => ?_)
              refine lv_iload hx hb dX1_fault_57 (lv_at hl 0 rfl) ?_
              refine z_if_eq (tgt := 70) hx hb (by decide) dX1_fault_59 (by decide) (fun c8 => ?_) (fun c8 => ?_)
              · skip
                have hz := c8
                refine z_iinc (lv' := [(3, .int (iZ ((tt) + 1))), (5, .int (iZ (0))), (4, .int (iZ (0))), (0, .ref (a 4)), (1, .int (iZ (ff))), (2, .ref (a (19 + (bb).toNat)))]) hx hb dX1_fault_70 hl (k := 2) rfl (by decide) rfl (fun ls hl => ?_)
                refine lv_goto (tgt := 5) hx hb dX1_fault_73 (by decide) ?_
                have hz9 : FLc st bb ff tt = 0 := by
                  first | exact hz | exact FL_skip (mn := st 12 bb) ⟨by omega, by omega⟩ (fun q a b => hI.st q tt a (by omega) (by omega) (by omega) (fun z => hnew ⟨q, a, b, z⟩)) (j2 (by omega))
                exact ih5 ((tt) + 1) (by omega) (by omega) (fun _ => by rw [show (tt) + 1 - 1 = tt by omega]; exact hz9) (by rw [j3, show (st 16 bb + 1 - tt).toNat = (st 16 bb + 1 - (tt + 1)).toNat + 1 by omega, WHY_0 hz9])  ls (lv_sub hl [0, 3, 4, 5] rfl)
              · skip
                exact absurd c8 (by decide)
            · skip
              exact absurd c7 (by decide)
          · skip
            have c6 := b2_n0 c6
            refine z_iconst hx hb dX1_fault_32 ?_
            refine lv_goto (tgt := 37) hx hb dX1_fault_33 (by decide) ?_
            refine lv_istore (lv' := [(4, .int (iZ (1))), (3, .int (iZ (tt))), (0, .ref (a 4)), (1, .int (iZ (ff))), (2, .ref (a (19 + (bb).toNat)))]) hx hb dX1_fault_37 hl (by decide) rfl (fun ls hl => ?_)
            refine lv_iload hx hb dX1_fault_39 (lv_at hl 0 rfl) ?_
            refine z_if_eq (tgt := 54) hx hb (by decide) dX1_fault_41 (by decide) (fun c9 => ?_) (fun c9 => ?_)
            · skip
              exact absurd c9 (by decide)
            · skip
              refine lv_aload_n hx hb dX1_fault_44 rfl (lv_at hl 2 rfl) ?_
              refine lv_iload_n hx hb dX1_fault_45 rfl (lv_at hl 3 rfl) ?_
              refine lv_aload_n hx hb dX1_fault_46 rfl (lv_at hl 4 rfl) ?_
              refine lv_iload_n hx hb dX1_fault_47 rfl (lv_at hl 1 rfl) ?_
              refine z_cVR (q0 := 4) (ci := 1) (As := [.int (iZ (ff)), .ref (a (19 + (bb).toNat)), .int (iZ (tt))]) (rest := []) S (m_X1_faultAt l D g a (st) (ff) (bb) (tt) hI (by omega) (by omega) (by omega)) (cwV 3 hts gX1_fault_X1_faultAt rfl rfl rfl (by decide +kernel) ⟨Nat.le_trans (by decide) hRf, Nat.le_trans (by decide) hRl⟩) hK hP rfl rfl rfl hl.1 rfl (Nat.le_of_ble_eq_true rfl) dX1_fault_48 ⟨Nat.zero_le _, Nat.zero_le _⟩ ?_
              have f10 := FL_b (fun q t => st 0 (q * 60 + t)) (st 19 0) (st 19 1) (st 1) (st 2) (st 11 (bb)) (st 12 (bb)) (st 13 (bb)) (st 14 (bb)) (st 15 (bb)) (ff) (tt) (by omega)
              refine lv_goto (tgt := 55) hx hb dX1_fault_51 (by decide) ?_
              refine lv_istore (lv' := [(5, .int (iZ (FL (fun q t => st 0 (q * 60 + t)) (st 19 0) (st 19 1) (st 1) (st 2) (st 11 (bb)) (st 12 (bb)) (st 13 (bb)) (st 14 (bb)) (st 15 (bb)) (ff) (tt)))), (4, .int (iZ (1))), (3, .int (iZ (tt))), (0, .ref (a 4)), (1, .int (iZ (ff))), (2, .ref (a (19 + (bb).toNat)))]) hx hb dX1_fault_55 hl (by decide) rfl (fun ls hl => ?_)
              refine lv_iload hx hb dX1_fault_57 (lv_at hl 0 rfl) ?_
              refine z_if_eq (tgt := 70) hx hb (by omega) dX1_fault_59 (by decide) (fun c11 => ?_) (fun c11 => ?_)
              · skip
                have hz := c11
                refine z_iinc (lv' := [(3, .int (iZ ((tt) + 1))), (5, .int (iZ (FL (fun q t => st 0 (q * 60 + t)) (st 19 0) (st 19 1) (st 1) (st 2) (st 11 (bb)) (st 12 (bb)) (st 13 (bb)) (st 14 (bb)) (st 15 (bb)) (ff) (tt)))), (4, .int (iZ (1))), (0, .ref (a 4)), (1, .int (iZ (ff))), (2, .ref (a (19 + (bb).toNat)))]) hx hb dX1_fault_70 hl (k := 2) rfl (by decide) rfl (fun ls hl => ?_)
                refine lv_goto (tgt := 5) hx hb dX1_fault_73 (by decide) ?_
                have hz9 : FLc st bb ff tt = 0 := by
                  first | exact hz | exact FL_skip (mn := st 12 bb) ⟨by omega, by omega⟩ (fun q a b => hI.st q tt a (by omega) (by omega) (by omega) (fun z => hnew ⟨q, a, b, z⟩)) (j2 (by omega))
                exact ih5 ((tt) + 1) (by omega) (by omega) (fun _ => by rw [show (tt) + 1 - 1 = tt by omega]; exact hz9) (by rw [j3, show (st 16 bb + 1 - tt).toNat = (st 16 bb + 1 - (tt + 1)).toNat + 1 by omega, WHY_0 hz9])  ls (lv_sub hl [0, 3, 4, 5] rfl)
              · skip
                have hnz := c11
                refine z_bipush hx hb dX1_fault_62 (by decide +kernel) ?_
                refine lv_iload_n hx hb dX1_fault_64 rfl (lv_at hl 2 rfl) ?_
                refine z_imul hx hb dX1_fault_65 ?_
                refine lv_iload hx hb dX1_fault_66 (lv_at hl 0 rfl) ?_
                refine z_iadd hx hb dX1_fault_68 ?_
                exact K _ _ _ (by rw [j3, show (st 16 bb + 1 - tt).toNat = (st 16 bb + 1 - (tt + 1)).toNat + 1 by omega, WHY_n hnz]) dX1_fault_69
  exact LP5 ((st 16 bb + 1 - (st 15 (bb))) + 1 : Int).toNat (st 15 (bb)) (by omega) (by omega) (fun z => by omega) (by rw [show st 16 bb - st 15 bb + 1 = st 16 bb + 1 - st 15 bb by omega])  ls (lv_sub hl [0, 1, 2, 3] rfl)
abbrev rX1_sideOfMain : Room := { frames := 2, cells := 0, slots := 0, locals := 42 }
set_option maxHeartbeats 4000000 in
set_option maxRecDepth 100000 in
theorem m_X1_sideOfMain (l : Launch) (D : va_G) (g : Nat → ClassId) (a : Nat → Nat) (st : SS) (ff : Int) (bb : Int) (hI : IC st) (h1 : 0 ≤ bb ∧ bb < st 19 3) (h3 : plc ff) : Met l yX1_sideOfMain wsX1_sideOfMain rX1_sideOfMain (PcR D g (WC g a st) [.ref (a 4), .int (iZ (ff)), .ref (a (19 + (bb).toNat))]) (QcRead (iZ (sg (crossZ (st 0 (st 12 bb * 60 + st 15 bb)) (st 0 (PTN (st 12 bb) (st 13 bb) * 60 + st 15 bb)) ff)))) 0 0 (fun _ => False) := by
  refine metR (cc := cX1_sideOfMain) (maxL := 5) (ret := (some .int)) (own := RX1) (by decide) rfl rfl (Nat.le_of_ble_eq_true rfl) (Or.inl rfl) ?_
  intro p e R s m args below meth c Q ls S hRf hRl hK hP hl K
  have hx := S.1
  have hb := S.2.1
  have hown := S.2.2.2.1
  have hts := S.2.2.2.2
  have hRf : 2 ≤ R.frames := hRf
  have hRl : 42 ≤ R.locals := hRl
  have hl : lv_has ls 5 [(0, .ref (a 4)), (1, .int (iZ (ff))), (2, .ref (a (19 + (bb).toNat)))] := hl
  have iX0 : ∀ w ∈ wsX00, w ∈ wsX1_sideOfMain := by decide +kernel
  have iX1 : ∀ w ∈ wsX10, w ∈ wsX1_sideOfMain := by decide +kernel
  have hB := hI.s
  have hbR := hI.bd bb (by omega) (by omega)
  have hL1 := (hI.bl bb (by omega) (by omega)).1
  have hL2 := (hI.bl bb (by omega) (by omega)).2.1
  refine lv_aload_n hx hb dX1_sideOfMain_0 rfl (lv_at hl 0 rfl) ?_
  refine z_get (C := RX1) (T := TX1) (N := 1) (ci := 1) hx hb hts iX1 hown hK hP 4 rfl rfl 0 (by decide) (hts (.fieldLink RX1 9 "ShotBoard$Judge" "stage" "LShotBoard$Stage;") (by decide +kernel)) (.ref (a 1)) rfl dX1_sideOfMain_1 ?_
  refine lv_aload_n hx hb dX1_sideOfMain_4 rfl (lv_at hl 2 rfl) ?_
  refine z_get (C := RX0) (T := TX0) (N := 8) (ci := 0) hx hb hts iX0 hown hK hP (19 + (bb).toNat) (WC_bd g a _ (by omega) (by omega)) rfl 1 (by decide) (hts (.fieldLink RX1 44 "ShotBoard$Board" "main" "I") (by decide +kernel)) (.int (iZ (st 12 (bb)))) rfl dX1_sideOfMain_5 ?_
  refine lv_aload_n hx hb dX1_sideOfMain_8 rfl (lv_at hl 2 rfl) ?_
  refine z_get (C := RX0) (T := TX0) (N := 8) (ci := 0) hx hb hts iX0 hown hK hP (19 + (bb).toNat) (WC_bd g a _ (by omega) (by omega)) rfl 4 (by decide) (hts (.fieldLink RX1 15 "ShotBoard$Board" "first" "I") (by decide +kernel)) (.int (iZ (st 15 (bb)))) rfl dX1_sideOfMain_9 ?_
  refine z_cVR (q0 := 1) (ci := 5) (As := [.int (iZ (st 12 (bb))), .int (iZ (st 15 (bb)))]) (rest := []) S (m_X6_placeOf l D g a (st) (st 12 (bb)) (st 15 (bb)) hI (by omega) (by omega)) (cwV 2 hts gX1_sideOfMain_X6_placeOf rfl rfl rfl (by decide +kernel) ⟨Nat.le_trans (by decide) hRf, Nat.le_trans (by decide) hRl⟩) hK hP rfl rfl rfl hl.1 rfl (Nat.le_of_ble_eq_true rfl) dX1_sideOfMain_12 ⟨Nat.zero_le _, Nat.zero_le _⟩ ?_
  have f1 := hI.c0 ((st 12 (bb)) * 60 + (st 15 (bb))) (by omega) (by omega)
  refine lv_istore_n (lv' := [(3, .int (iZ (st 0 ((st 12 (bb)) * 60 + (st 15 (bb)))))), (0, .ref (a 4)), (1, .int (iZ (ff))), (2, .ref (a (19 + (bb).toNat)))]) hx hb dX1_sideOfMain_15 rfl hl (by decide) rfl (fun ls hl => ?_)
  refine lv_aload_n hx hb dX1_sideOfMain_16 rfl (lv_at hl 1 rfl) ?_
  refine z_get (C := RX1) (T := TX1) (N := 1) (ci := 1) hx hb hts iX1 hown hK hP 4 rfl rfl 0 (by decide) (hts (.fieldLink RX1 9 "ShotBoard$Judge" "stage" "LShotBoard$Stage;") (by decide +kernel)) (.ref (a 1)) rfl dX1_sideOfMain_17 ?_
  refine lv_aload_n hx hb dX1_sideOfMain_20 rfl (lv_at hl 3 rfl) ?_
  refine z_cVR (q0 := (19 + (bb).toNat)) (ci := 0) (As := []) (rest := [.ref (a 1)]) S (m_X0_partner l D g a (st) (bb) hI (by omega)) (cwV 0 hts gX1_sideOfMain_X0_partner rfl rfl rfl (by decide +kernel) ⟨Nat.le_trans (by decide) hRf, Nat.le_trans (by decide) hRl⟩) hK hP rfl (WC_bd g a _ (by omega) (by omega)) rfl hl.1 rfl (Nat.le_of_ble_eq_true rfl) dX1_sideOfMain_21 ⟨Nat.zero_le _, Nat.zero_le _⟩ ?_
  have f2 := PTN_b (st 12 (bb)) (st 13 (bb)) (by have h9 := hI.bd (bb) (by omega) (by omega); omega)
  refine lv_aload_n hx hb dX1_sideOfMain_24 rfl (lv_at hl 3 rfl) ?_
  refine z_get (C := RX0) (T := TX0) (N := 8) (ci := 0) hx hb hts iX0 hown hK hP (19 + (bb).toNat) (WC_bd g a _ (by omega) (by omega)) rfl 4 (by decide) (hts (.fieldLink RX1 15 "ShotBoard$Board" "first" "I") (by decide +kernel)) (.int (iZ (st 15 (bb)))) rfl dX1_sideOfMain_25 ?_
  refine z_cVR (q0 := 1) (ci := 5) (As := [.int (iZ (PTN (st 12 (bb)) (st 13 (bb)))), .int (iZ (st 15 (bb)))]) (rest := []) S (m_X6_placeOf l D g a (st) (PTN (st 12 (bb)) (st 13 (bb))) (st 15 (bb)) hI (by omega) (by omega)) (cwV 2 hts gX1_sideOfMain_X6_placeOf rfl rfl rfl (by decide +kernel) ⟨Nat.le_trans (by decide) hRf, Nat.le_trans (by decide) hRl⟩) hK hP rfl rfl rfl hl.1 rfl (Nat.le_of_ble_eq_true rfl) dX1_sideOfMain_28 ⟨Nat.zero_le _, Nat.zero_le _⟩ ?_
  have f3 := hI.c0 ((PTN (st 12 (bb)) (st 13 (bb))) * 60 + (st 15 (bb))) (by omega) (by omega)
  refine lv_istore (lv' := [(4, .int (iZ (st 0 ((PTN (st 12 (bb)) (st 13 (bb))) * 60 + (st 15 (bb)))))), (3, .int (iZ (st 0 ((st 12 (bb)) * 60 + (st 15 (bb)))))), (0, .ref (a 4)), (1, .int (iZ (ff))), (2, .ref (a (19 + (bb).toNat)))]) hx hb dX1_sideOfMain_31 hl (by decide) rfl (fun ls hl => ?_)
  refine lv_iload_n hx hb dX1_sideOfMain_33 rfl (lv_at hl 1 rfl) ?_
  refine lv_iload hx hb dX1_sideOfMain_34 (lv_at hl 0 rfl) ?_
  refine lv_iload_n hx hb dX1_sideOfMain_36 rfl (lv_at hl 3 rfl) ?_
  refine z_cSS (As := [.int (iZ (st 0 ((st 12 (bb)) * 60 + (st 15 (bb))))), .int (iZ (st 0 ((PTN (st 12 (bb)) (st 13 (bb))) * 60 + (st 15 (bb))))), .int (iZ (ff))]) (rest := []) S (m_X2_cross l (st 0 ((st 12 (bb)) * 60 + (st 15 (bb)))) (st 0 ((PTN (st 12 (bb)) (st 13 (bb))) * 60 + (st 15 (bb)))) (ff) (by omega) (by omega) (by omega)) (va_cwS 3 hts gX1_sideOfMain_X2_cross rfl rfl rfl (by decide +kernel) ⟨Nat.le_trans (by decide) hRf, Nat.le_trans (by decide) hRl⟩) rfl hl.1 rfl (Nat.le_of_ble_eq_true rfl) dX1_sideOfMain_37 ⟨Nat.zero_le _, Nat.zero_le _⟩ ?_
  have f4 := crossZ_b (st 0 ((st 12 (bb)) * 60 + (st 15 (bb)))) (st 0 ((PTN (st 12 (bb)) (st 13 (bb))) * 60 + (st 15 (bb)))) (ff) (by omega) (by omega) (by omega)
  refine z_cSS (As := [.int (iZ (crossZ (st 0 ((st 12 (bb)) * 60 + (st 15 (bb)))) (st 0 ((PTN (st 12 (bb)) (st 13 (bb))) * 60 + (st 15 (bb)))) (ff)))]) (rest := []) S (m_J6_signum_0f7a4 l (crossZ (st 0 ((st 12 (bb)) * 60 + (st 15 (bb)))) (st 0 ((PTN (st 12 (bb)) (st 13 (bb))) * 60 + (st 15 (bb)))) (ff)) (by omega)) (va_cwS 1 hts gX1_sideOfMain_J6_signum_0f7a4 rfl rfl rfl (by decide +kernel) ⟨Nat.le_trans (by decide) hRf, Nat.le_trans (by decide) hRl⟩) rfl hl.1 rfl (Nat.le_of_ble_eq_true rfl) dX1_sideOfMain_40 ⟨Nat.zero_le _, Nat.zero_le _⟩ ?_
  have f5 := sg_b (crossZ (st 0 ((st 12 (bb)) * 60 + (st 15 (bb)))) (st 0 ((PTN (st 12 (bb)) (st 13 (bb))) * 60 + (st 15 (bb)))) (ff))
  exact K _ _ _ (rfl) dX1_sideOfMain_43
abbrev rX1_sideOfLesser : Room := { frames := 3, cells := 0, slots := 0, locals := 66 }
set_option maxHeartbeats 4000000 in
set_option maxRecDepth 100000 in
theorem m_X1_sideOfLesser (l : Launch) (D : va_G) (g : Nat → ClassId) (a : Nat → Nat) (st : SS) (ff : Int) (bb : Int) (hI : IC st) (h1 : 0 ≤ bb ∧ bb < st 19 3) (h3 : plc ff) : Met l yX1_sideOfLesser wsX1_sideOfLesser rX1_sideOfLesser (PcR D g (WC g a st) [.ref (a 4), .int (iZ (ff)), .ref (a (19 + (bb).toNat))]) (QcRead (iZ (SDL st bb ff))) 0 0 (fun _ => False) := by
  refine metR (cc := cX1_sideOfLesser) (maxL := 4) (ret := (some .int)) (own := RX1) (by decide) rfl rfl (Nat.le_of_ble_eq_true rfl) (Or.inl rfl) ?_
  intro p e R s m args below meth c Q ls S hRf hRl hK hP hl K
  have hx := S.1
  have hb := S.2.1
  have hown := S.2.2.2.1
  have hts := S.2.2.2.2
  have hRf : 3 ≤ R.frames := hRf
  have hRl : 66 ≤ R.locals := hRl
  have hl : lv_has ls 4 [(0, .ref (a 4)), (1, .int (iZ (ff))), (2, .ref (a (19 + (bb).toNat)))] := hl
  have iX0 : ∀ w ∈ wsX00, w ∈ wsX1_sideOfLesser := by decide +kernel
  have hB := hI.s
  have hbR := hI.bd bb (by omega) (by omega)
  have hL1 := (hI.bl bb (by omega) (by omega)).1
  have hL2 := (hI.bl bb (by omega) (by omega)).2.1
  refine lv_aload_n hx hb dX1_sideOfLesser_0 rfl (lv_at hl 0 rfl) ?_
  refine lv_iload_n hx hb dX1_sideOfLesser_1 rfl (lv_at hl 1 rfl) ?_
  refine lv_aload_n hx hb dX1_sideOfLesser_2 rfl (lv_at hl 2 rfl) ?_
  refine z_cVR (q0 := 4) (ci := 1) (As := [.int (iZ (ff)), .ref (a (19 + (bb).toNat))]) (rest := []) S (m_X1_sideOfMain l D g a (st) (ff) (bb) hI (by omega) (by omega)) (cwV 2 hts gX1_sideOfLesser_X1_sideOfMain rfl rfl rfl (by decide +kernel) ⟨Nat.le_trans (by decide) hRf, Nat.le_trans (by decide) hRl⟩) hK hP rfl rfl rfl hl.1 rfl (Nat.le_of_ble_eq_true rfl) dX1_sideOfLesser_3 ⟨Nat.zero_le _, Nat.zero_le _⟩ ?_
  have f1 := sg_b (crossZ (st 0 (st 12 (bb) * 60 + st 15 (bb))) (st 0 (PTN (st 12 (bb)) (st 13 (bb)) * 60 + st 15 (bb))) (ff))
  refine lv_istore_n (lv' := [(3, .int (iZ (sg (crossZ (st 0 (st 12 (bb) * 60 + st 15 (bb))) (st 0 (PTN (st 12 (bb)) (st 13 (bb)) * 60 + st 15 (bb))) (ff))))), (0, .ref (a 4)), (1, .int (iZ (ff))), (2, .ref (a (19 + (bb).toNat)))]) hx hb dX1_sideOfLesser_6 rfl hl (by decide) rfl (fun ls hl => ?_)
  refine lv_aload_n hx hb dX1_sideOfLesser_7 rfl (lv_at hl 3 rfl) ?_
  refine z_get (C := RX0) (T := TX0) (N := 8) (ci := 0) hx hb hts iX0 hown hK hP (19 + (bb).toNat) (WC_bd g a _ (by omega) (by omega)) rfl 1 (by decide) (hts (.fieldLink RX1 44 "ShotBoard$Board" "main" "I") (by decide +kernel)) (.int (iZ (st 12 (bb)))) rfl dX1_sideOfLesser_8 ?_
  refine lv_aload_n hx hb dX1_sideOfLesser_11 rfl (lv_at hl 3 rfl) ?_
  refine z_cVR (q0 := (19 + (bb).toNat)) (ci := 0) (As := []) (rest := [.int (iZ (st 12 (bb)))]) S (m_X0_partner l D g a (st) (bb) hI (by omega)) (cwV 0 hts gX1_sideOfLesser_X0_partner rfl rfl rfl (by decide +kernel) ⟨Nat.le_trans (by decide) hRf, Nat.le_trans (by decide) hRl⟩) hK hP rfl (WC_bd g a _ (by omega) (by omega)) rfl hl.1 rfl (Nat.le_of_ble_eq_true rfl) dX1_sideOfLesser_12 ⟨Nat.zero_le _, Nat.zero_le _⟩ ?_
  have f2 := PTN_b (st 12 (bb)) (st 13 (bb)) (by have h9 := hI.bd (bb) (by omega) (by omega); omega)
  refine z_icmp_ge (tgt := 22) hx hb (by omega) (by omega) dX1_sideOfLesser_15 (by decide) (fun c3 => ?_) (fun c3 => ?_)
  · skip
    have hif : SDL st bb ff = -(SDM st bb ff) := if_neg (Int.not_lt.mpr c3)
    refine lv_iload_n hx hb dX1_sideOfLesser_22 rfl (lv_at hl 0 rfl) ?_
    refine z_ineg hx hb dX1_sideOfLesser_23 ?_
    exact K _ _ _ (hif.symm) dX1_sideOfLesser_24
  · skip
    have hif : SDL st bb ff = SDM st bb ff := if_pos c3
    refine lv_iload_n hx hb dX1_sideOfLesser_18 rfl (lv_at hl 0 rfl) ?_
    refine lv_goto (tgt := 24) hx hb dX1_sideOfLesser_19 (by decide) ?_
    exact K _ _ _ (hif.symm) dX1_sideOfLesser_24
