abbrev rX8_crossings : Room := { frames := 7, cells := 0, slots := 0, locals := 166 }
set_option maxHeartbeats 4000000 in
set_option maxRecDepth 100000 in
theorem m_X8_crossings (l : Launch) (D : va_G) (g : Nat → ClassId) (a : Nat → Nat) (st : SS) (hI : IM st) (htd : ∀ i, 0 ≤ i → i < st 0 5 → st 16 i < st 0 2) : Met l yX8_crossings wsX8_crossings rX8_crossings (PcM D g (AWM a) (WM g a st) [.ref (a 0)]) (QcI D (WM g a) (AWM a) (fun r u => u = up st 0 5 0 ∧ ((¬ CROKm st ∧ r = -3) ∨ (CROKm st ∧ r = cP (fun b => CXm st b) (st 0 3).toNat 0)))) 0 0 (AWM a) := by
  refine metI (cc := cX8_crossings) (maxL := 5) (ret := (some .int)) (own := RX8) (by decide) rfl rfl (Nat.le_of_ble_eq_true rfl) (Or.inl rfl) ?_
  intro p e R s m args below meth c Q ls S hRf hRl hK hP hD hS hl K
  have hx := S.1
  have hb := S.2.1
  have hown := S.2.2.2.1
  have hts := S.2.2.2.2
  have hRf : 7 ≤ R.frames := hRf
  have hRl : 166 ≤ R.locals := hRl
  have hl : lv_has ls 5 [(0, .ref (a 0))] := hl
  have iX8 : ∀ w ∈ wsX80, w ∈ wsX8_crossings := by decide +kernel
  have hB := hI.s
  have hI5 := IM_t0 hI
  refine lv_aload_n hx hb dX8_crossings_0 rfl (lv_at hl 0 rfl) ?_
  refine z_get (C := RX8) (T := TX8) (N := 26) (ci := 7) hx hb hts iX8 hown hK hP 0 rfl rfl 20 (by decide) (hts (.fieldLink RX8 179 "ShotBoardModel" "listed" "I") (by decide +kernel)) (.int (iZ (st 0 (5)))) rfl dX8_crossings_1 ?_
  refine lv_aload_n hx hb dX8_crossings_4 rfl (lv_at hl 0 rfl) ?_
  refine z_get (C := RX8) (T := TX8) (N := 26) (ci := 7) hx hb hts iX8 hown hK hP 0 rfl rfl 11 (by decide) (hts (.fieldLink RX8 82 "ShotBoardModel" "boards" "I") (by decide +kernel)) (.int (iZ (st 0 (3)))) rfl dX8_crossings_5 ?_
  refine z_icmp_ne (tgt := 15) hx hb (by omega) (by omega) dX8_crossings_8 (by decide) (fun c1 => ?_) (fun c1 => ?_)
  · skip
    have hg0 : (0 : Int) = b2 (CROKn st 0) := (b2_f (fun z => c1 z.1)).symm
    refine z_iconst hx hb dX8_crossings_15 ?_
    refine lv_istore_n (lv' := [(1, .int (iZ (0))), (0, .ref (a 0))]) hx hb dX8_crossings_16 rfl hl (by decide) rfl (fun ls hl => ?_)
    refine z_iconst hx hb dX8_crossings_17 ?_
    refine lv_istore_n (lv' := [(2, .int (iZ (0))), (1, .int (iZ (0))), (0, .ref (a 0))]) hx hb dX8_crossings_18 rfl hl (by decide) rfl (fun ls hl => ?_)
    have LP19 : ∀ (n19 : Nat) (gd : Int) (bb : Int), (st 0 5 - bb) < (n19 : Int) → (0 ≤ bb ∧ bb ≤ st 0 5) → (gd = b2 (CROKn st bb)) → ∀ (ls : Array Slot), lv_has ls 5 [(2, .int (iZ (bb))), (1, .int (iZ (gd))), (0, .ref (a 0))] → W p l e R s m args below meth c s.heap [] 0 0 Q (F0 m 19 ls []) := by
      intro n19
      induction n19 with
      | zero =>
        intro gd bb hm19 j1 j2  ls hl
        exact absurd hm19 (by omega)
      | succ n19 ih19 =>
        intro gd bb hm19 j1 j2  ls hl
        have g01 : gd = 0 ∨ gd = 1 := by rw [j2]; exact b2_01 _
        refine lv_iload_n hx hb dX8_crossings_19 rfl (lv_at hl 0 rfl) ?_
        refine lv_aload_n hx hb dX8_crossings_20 rfl (lv_at hl 2 rfl) ?_
        refine z_get (C := RX8) (T := TX8) (N := 26) (ci := 7) hx hb hts iX8 hown hK hP 0 rfl rfl 20 (by decide) (hts (.fieldLink RX8 179 "ShotBoardModel" "listed" "I") (by decide +kernel)) (.int (iZ (st 0 (5)))) rfl dX8_crossings_21 ?_
        refine z_icmp_ge (tgt := 57) hx hb (by omega) (by omega) dX8_crossings_24 (by decide) (fun c2 => ?_) (fun c2 => ?_)
        · skip
          refine lv_aload_n hx hb dX8_crossings_57 rfl (lv_at hl 2 rfl) ?_
          refine z_iconst hx hb dX8_crossings_58 ?_
          refine z_put (C := RX8) (T := TX8) (N := 26) (ci := 7) (ty := .int) hx hb hts iX8 tyX8 tyX8_ok nmX8 hown hK hP hD hS 0 rfl rfl 20 (by decide) (hts (.fieldLink RX8 179 "ShotBoardModel" "listed" "I") (by decide +kernel)) rfl (by decide +kernel) rfl rfl (Nat.le_of_ble_eq_true rfl) (WM g a (up (st) 0 (5) (0))) rfl dX8_crossings_59 (fun H locs hP hD hS => ?_)
          refine lv_iload_n hx hb dX8_crossings_62 rfl (lv_at hl 1 rfl) ?_
          refine z_if_ne (tgt := 69) hx hb (by omega) dX8_crossings_63 (by decide) (fun c3 => ?_) (fun c3 => ?_)
          · skip
            have hyes : CROKm st := CROK_of (b2_1 (show b2 (CROKn st bb) = 1 by omega)) (by omega)
            refine z_iconst hx hb dX8_crossings_69 ?_
            refine lv_istore_n (lv' := [(2, .int (iZ (0))), (1, .int (iZ (gd))), (0, .ref (a 0))]) hx hb dX8_crossings_70 rfl hl (by decide) rfl (fun ls hl => ?_)
            refine z_iconst hx hb dX8_crossings_71 ?_
            refine lv_istore_n (lv' := [(3, .int (iZ (0))), (2, .int (iZ (0))), (1, .int (iZ (gd))), (0, .ref (a 0))]) hx hb dX8_crossings_72 rfl hl (by decide) rfl (fun ls hl => ?_)
            have LP73 : ∀ (n73 : Nat) (nn : Int) (bc : Int), (st 0 3 - bc) < (n73 : Int) → (0 ≤ bc ∧ bc ≤ st 0 3) → (0 ≤ nn ∧ nn ≤ bc) → (cP (fun b => CXm st b) (st 0 3).toNat 0 = nn + cP (fun b => CXm st b) (st 0 3 - bc).toNat bc) → ∀ (ls : Array Slot), lv_has ls 5 [(3, .int (iZ (bc))), (2, .int (iZ (nn))), (1, .int (iZ (gd))), (0, .ref (a 0))] → W p l e R s m args below meth c H locs 0 0 Q (F0 m 73 ls []) := by
              intro n73
              induction n73 with
              | zero =>
                intro nn bc hm73 k1 k0 k2  ls hl
                exact absurd hm73 (by omega)
              | succ n73 ih73 =>
                intro nn bc hm73 k1 k0 k2  ls hl
                refine lv_iload_n hx hb dX8_crossings_73 rfl (lv_at hl 0 rfl) ?_
                refine lv_aload_n hx hb dX8_crossings_74 rfl (lv_at hl 3 rfl) ?_
                refine z_get (C := RX8) (T := TX8) (N := 26) (ci := 7) hx hb hts iX8 hown hK hP 0 rfl rfl 11 (by decide) (hts (.fieldLink RX8 82 "ShotBoardModel" "boards" "I") (by decide +kernel)) (.int (iZ (st 0 (3)))) rfl dX8_crossings_75 ?_
                refine z_icmp_ge (tgt := 145) hx hb (by omega) (by omega) dX8_crossings_78 (by decide) (fun c4 => ?_) (fun c4 => ?_)
                · skip
                  refine lv_iload_n hx hb dX8_crossings_145 rfl (lv_at hl 1 rfl) ?_
                  exact K _ (up (st) 0 (5) (0)) _ _ _ _ hP hS (⟨rfl, Or.inr ⟨hyes, by rw [k2, show (st 0 3 - bc).toNat = 0 by omega]; simp [cP]⟩⟩) dX8_crossings_146
                · skip
                  have hbR := hI.bd bc (by omega) (by omega)
                  have hq1 := hyes.1
                  have hta := TA_b st bc (by omega)
                  refine lv_aload_n hx hb dX8_crossings_81 rfl (lv_at hl 3 rfl) ?_
                  refine z_get (C := RX8) (T := TX8) (N := 26) (ci := 7) hx hb hts iX8 hown hK hP 0 rfl rfl 12 (by decide) (hts (.fieldLink RX8 34 "ShotBoardModel" "kind" "[I") (by decide +kernel)) (.ref (a 9)) rfl dX8_crossings_82 ?_
                  refine lv_iload_n hx hb dX8_crossings_85 rfl (lv_at hl 0 rfl) ?_
                  refine z_iald hx hb hK hP 9 ((up (st) 0 (5) (0)) 9) rfl (by omega) (by omega) (by omega) dX8_crossings_86 ?_
                  refine z_as (y := st 9 (bc)) (by simp [up, uf]) ?_
                  refine z_iconst hx hb dX8_crossings_87 ?_
                  refine z_icmp_ne (tgt := 99) hx hb (by omega) (by decide) dX8_crossings_88 (by decide) (fun c5 => ?_) (fun c5 => ?_)
                  · skip
                    have hkn : ¬ st 9 bc = 1 := c5
                    refine z_iconst hx hb dX8_crossings_99 ?_
                    refine lv_istore (lv' := [(4, .int (iZ (-1))), (3, .int (iZ (bc))), (2, .int (iZ (nn))), (1, .int (iZ (gd))), (0, .ref (a 0))]) hx hb dX8_crossings_100 hl (by decide) rfl (fun ls hl => ?_)
                    refine lv_iload_n hx hb dX8_crossings_102 rfl (lv_at hl 2 rfl) ?_
                    refine lv_iload hx hb dX8_crossings_103 (lv_at hl 0 rfl) ?_
                    refine z_iconst hx hb dX8_crossings_105 ?_
                    refine z_icmp_eq (tgt := 136) hx hb (by decide) (by decide) dX8_crossings_106 (by decide) (fun c6 => ?_) (fun c6 => ?_)
                    · skip
                      have hbv : b2 (CXm st bc) = 0 := b2_f (fun z => by first | exact hkn z.1 | exact z.2.1 c6)
                      refine z_iconst hx hb dX8_crossings_136 ?_
                      refine z_iadd hx hb dX8_crossings_137 ?_
                      refine lv_istore_n (lv' := [(2, .int (iZ ((nn) + (0)))), (4, .int (iZ (-1))), (3, .int (iZ (bc))), (1, .int (iZ (gd))), (0, .ref (a 0))]) hx hb dX8_crossings_138 rfl hl (by decide) rfl (fun ls hl => ?_)
                      refine z_iinc (lv' := [(3, .int (iZ ((bc) + 1))), (2, .int (iZ ((nn) + (0)))), (4, .int (iZ (-1))), (1, .int (iZ (gd))), (0, .ref (a 0))]) hx hb dX8_crossings_139 hl (k := 2) rfl (by decide) rfl (fun ls hl => ?_)
                      refine lv_goto (tgt := 73) hx hb dX8_crossings_142 (by decide) ?_
                      have hcs : cP (fun b => CXm st b) (st 0 3 - bc).toNat bc = b2 (CXm st bc) + cP (fun b => CXm st b) (st 0 3 - (bc + 1)).toNat (bc + 1) := by rw [show (st 0 3 - bc).toNat = (st 0 3 - (bc + 1)).toNat + 1 by omega, cP_s]
                      rw [hbv] at hcs
                      exact ih73 ((nn) + (0)) ((bc) + 1) (by omega) (by omega) (by omega) (by rw [k2, hcs]; omega)  ls (lv_sub hl [0, 1, 3, 4] rfl)
                    · skip
                      exact absurd c6 (by decide)
                  · skip
                    have hky := c5
                    refine lv_aload_n hx hb dX8_crossings_91 rfl (lv_at hl 3 rfl) ?_
                    refine lv_iload_n hx hb dX8_crossings_92 rfl (lv_at hl 0 rfl) ?_
                    refine z_cVR (q0 := 0) (ci := 7) (As := [.int (iZ (bc))]) (rest := []) S (m_X8_twoAhead l D g a (up (st) 0 (5) (0)) (bc) hI5 (by omega)) (cwV 1 hts gX8_crossings_X8_twoAhead rfl rfl rfl (by decide +kernel) ⟨Nat.le_trans (by decide) hRf, Nat.le_trans (by decide) hRl⟩) hK hP rfl rfl rfl hl.1 rfl (Nat.le_of_ble_eq_true rfl) dX8_crossings_93 ⟨Nat.zero_le _, Nat.zero_le _⟩ ?_
                    refine z_as (y := TA st bc) (rfl) ?_
                    refine lv_goto (tgt := 100) hx hb dX8_crossings_96 (by decide) ?_
                    refine lv_istore (lv' := [(4, .int (iZ (TA st bc))), (3, .int (iZ (bc))), (2, .int (iZ (nn))), (1, .int (iZ (gd))), (0, .ref (a 0))]) hx hb dX8_crossings_100 hl (by decide) rfl (fun ls hl => ?_)
                    refine lv_iload_n hx hb dX8_crossings_102 rfl (lv_at hl 2 rfl) ?_
                    refine lv_iload hx hb dX8_crossings_103 (lv_at hl 0 rfl) ?_
                    refine z_iconst hx hb dX8_crossings_105 ?_
                    refine z_icmp_eq (tgt := 136) hx hb (by omega) (by decide) dX8_crossings_106 (by decide) (fun c7 => ?_) (fun c7 => ?_)
                    · skip
                      have hbv : b2 (CXm st bc) = 0 := b2_f (fun z => by first | exact hkn z.1 | exact z.2.1 c7)
                      refine z_iconst hx hb dX8_crossings_136 ?_
                      refine z_iadd hx hb dX8_crossings_137 ?_
                      refine lv_istore_n (lv' := [(2, .int (iZ ((nn) + (0)))), (4, .int (iZ (TA st bc))), (3, .int (iZ (bc))), (1, .int (iZ (gd))), (0, .ref (a 0))]) hx hb dX8_crossings_138 rfl hl (by decide) rfl (fun ls hl => ?_)
                      refine z_iinc (lv' := [(3, .int (iZ ((bc) + 1))), (2, .int (iZ ((nn) + (0)))), (4, .int (iZ (TA st bc))), (1, .int (iZ (gd))), (0, .ref (a 0))]) hx hb dX8_crossings_139 hl (k := 2) rfl (by decide) rfl (fun ls hl => ?_)
                      refine lv_goto (tgt := 73) hx hb dX8_crossings_142 (by decide) ?_
                      have hcs : cP (fun b => CXm st b) (st 0 3 - bc).toNat bc = b2 (CXm st bc) + cP (fun b => CXm st b) (st 0 3 - (bc + 1)).toNat (bc + 1) := by rw [show (st 0 3 - bc).toNat = (st 0 3 - (bc + 1)).toNat + 1 by omega, cP_s]
                      rw [hbv] at hcs
                      exact ih73 ((nn) + (0)) ((bc) + 1) (by omega) (by omega) (by omega) (by rw [k2, hcs]; omega)  ls (lv_sub hl [0, 1, 3, 4] rfl)
                    · skip
                      have hta2 := (TA_b st bc (by omega)).resolve_left c7
                      have htn := c7
                      refine lv_aload_n hx hb dX8_crossings_109 rfl (lv_at hl 4 rfl) ?_
                      refine lv_iload hx hb dX8_crossings_110 (lv_at hl 0 rfl) ?_
                      refine lv_aload_n hx hb dX8_crossings_112 rfl (lv_at hl 4 rfl) ?_
                      refine z_get (C := RX8) (T := TX8) (N := 26) (ci := 7) hx hb hts iX8 hown hK hP 0 rfl rfl 21 (by decide) (hts (.fieldLink RX8 59 "ShotBoardModel" "list" "[I") (by decide +kernel)) (.ref (a 16)) rfl dX8_crossings_113 ?_
                      refine lv_iload hx hb dX8_crossings_116 (lv_at hl 0 rfl) ?_
                      refine z_iald hx hb hK hP 16 ((up (st) 0 (5) (0)) 16) rfl (by omega) (by omega) (by omega) dX8_crossings_118 ?_
                      refine z_as (y := st 16 (TA st bc)) (by simp [up, uf]) ?_
                      refine lv_iload_n hx hb dX8_crossings_119 rfl (lv_at hl 1 rfl) ?_
                      refine lv_aload_n hx hb dX8_crossings_120 rfl (lv_at hl 4 rfl) ?_
                      refine z_get (C := RX8) (T := TX8) (N := 26) (ci := 7) hx hb hts iX8 hown hK hP 0 rfl rfl 21 (by decide) (hts (.fieldLink RX8 59 "ShotBoardModel" "list" "[I") (by decide +kernel)) (.ref (a 16)) rfl dX8_crossings_121 ?_
                      refine lv_iload_n hx hb dX8_crossings_124 rfl (lv_at hl 1 rfl) ?_
                      refine z_iald hx hb hK hP 16 ((up (st) 0 (5) (0)) 16) rfl (by omega) (by omega) (by omega) dX8_crossings_125 ?_
                      refine z_as (y := st 16 (bc)) (by simp [up, uf]) ?_
                      refine z_cVR (q0 := 0) (ci := 7) (As := [.int (iZ (TA st bc)), .int (iZ (st 16 (TA st bc))), .int (iZ (bc)), .int (iZ (st 16 (bc)))]) (rest := [.int (iZ (nn))]) S (m_X8_crosses l D g a (up (st) 0 (5) (0)) (TA st bc) (st 16 (TA st bc)) (bc) (st 16 (bc)) hI5 (by show 0 ≤ TA st bc ∧ TA st bc < st 0 3; omega) (by show 0 ≤ bc ∧ bc < st 0 3; omega) (hI.c16 _ (by omega) (by omega)) (hI.c16 _ (by omega) (by omega)) hta2.2.2 hky) (cwV 4 hts gX8_crossings_X8_crosses rfl rfl rfl (by decide +kernel) ⟨Nat.le_trans (by decide) hRf, Nat.le_trans (by decide) hRl⟩) hK hP rfl rfl rfl hl.1 rfl (Nat.le_of_ble_eq_true rfl) dX8_crossings_126 ⟨Nat.zero_le _, Nat.zero_le _⟩ ?_
                      refine z_as (y := b2 (CRSm st (TA st bc) (st 16 (TA st bc)) bc (st 16 bc))) (rfl) ?_
                      refine z_if_eq (tgt := 136) hx hb (b2_rg _) dX8_crossings_129 (by decide) (fun c8 => ?_) (fun c8 => ?_)
                      · skip
                        have c8 := b2_0 c8
                        have hbv : b2 (CXm st bc) = 0 := b2_f (fun z => c8 z.2.2)
                        refine z_iconst hx hb dX8_crossings_136 ?_
                        refine z_iadd hx hb dX8_crossings_137 ?_
                        refine lv_istore_n (lv' := [(2, .int (iZ ((nn) + (0)))), (4, .int (iZ (TA st bc))), (3, .int (iZ (bc))), (1, .int (iZ (gd))), (0, .ref (a 0))]) hx hb dX8_crossings_138 rfl hl (by decide) rfl (fun ls hl => ?_)
                        refine z_iinc (lv' := [(3, .int (iZ ((bc) + 1))), (2, .int (iZ ((nn) + (0)))), (4, .int (iZ (TA st bc))), (1, .int (iZ (gd))), (0, .ref (a 0))]) hx hb dX8_crossings_139 hl (k := 2) rfl (by decide) rfl (fun ls hl => ?_)
                        refine lv_goto (tgt := 73) hx hb dX8_crossings_142 (by decide) ?_
                        have hcs : cP (fun b => CXm st b) (st 0 3 - bc).toNat bc = b2 (CXm st bc) + cP (fun b => CXm st b) (st 0 3 - (bc + 1)).toNat (bc + 1) := by rw [show (st 0 3 - bc).toNat = (st 0 3 - (bc + 1)).toNat + 1 by omega, cP_s]
                        rw [hbv] at hcs
                        exact ih73 ((nn) + (0)) ((bc) + 1) (by omega) (by omega) (by omega) (by rw [k2, hcs]; omega)  ls (lv_sub hl [0, 1, 3, 4] rfl)
                      · skip
                        have c8 := b2_n0 c8
                        have hbv : b2 (CXm st bc) = 1 := b2_t ⟨hky, htn, c8⟩
                        refine z_iconst hx hb dX8_crossings_132 ?_
                        refine lv_goto (tgt := 137) hx hb dX8_crossings_133 (by decide) ?_
                        refine z_iadd hx hb dX8_crossings_137 ?_
                        refine lv_istore_n (lv' := [(2, .int (iZ ((nn) + (1)))), (4, .int (iZ (TA st bc))), (3, .int (iZ (bc))), (1, .int (iZ (gd))), (0, .ref (a 0))]) hx hb dX8_crossings_138 rfl hl (by decide) rfl (fun ls hl => ?_)
                        refine z_iinc (lv' := [(3, .int (iZ ((bc) + 1))), (2, .int (iZ ((nn) + (1)))), (4, .int (iZ (TA st bc))), (1, .int (iZ (gd))), (0, .ref (a 0))]) hx hb dX8_crossings_139 hl (k := 2) rfl (by decide) rfl (fun ls hl => ?_)
                        refine lv_goto (tgt := 73) hx hb dX8_crossings_142 (by decide) ?_
                        have hcs : cP (fun b => CXm st b) (st 0 3 - bc).toNat bc = b2 (CXm st bc) + cP (fun b => CXm st b) (st 0 3 - (bc + 1)).toNat (bc + 1) := by rw [show (st 0 3 - bc).toNat = (st 0 3 - (bc + 1)).toNat + 1 by omega, cP_s]
                        rw [hbv] at hcs
                        exact ih73 ((nn) + (1)) ((bc) + 1) (by omega) (by omega) (by omega) (by rw [k2, hcs]; omega)  ls (lv_sub hl [0, 1, 3, 4] rfl)
            exact LP73 ((st 0 3 - (0)) + 1 : Int).toNat (0) (0) (by omega) (by omega) (by omega) (by simp)  ls (lv_sub hl [0, 1, 2, 3] rfl)
          · skip
            have hno : ¬ CROKm st := CROK_no (b2_0 (show b2 (CROKn st bb) = 0 by omega)) (by omega)
            refine z_bipush hx hb dX8_crossings_66 (by decide +kernel) ?_
            exact K _ (up (st) 0 (5) (0)) _ _ _ _ hP hS (⟨rfl, Or.inl ⟨hno, rfl⟩⟩) dX8_crossings_68
        · skip
          refine lv_iload_n hx hb dX8_crossings_27 rfl (lv_at hl 1 rfl) ?_
          refine z_if_eq (tgt := 57) hx hb (by omega) dX8_crossings_28 (by decide) (fun c9 => ?_) (fun c9 => ?_)
          · skip
            have hnok : ¬ CROKn st bb := b2_0 (by omega)
            refine lv_aload_n hx hb dX8_crossings_57 rfl (lv_at hl 2 rfl) ?_
            refine z_iconst hx hb dX8_crossings_58 ?_
            refine z_put (C := RX8) (T := TX8) (N := 26) (ci := 7) (ty := .int) hx hb hts iX8 tyX8 tyX8_ok nmX8 hown hK hP hD hS 0 rfl rfl 20 (by decide) (hts (.fieldLink RX8 179 "ShotBoardModel" "listed" "I") (by decide +kernel)) rfl (by decide +kernel) rfl rfl (Nat.le_of_ble_eq_true rfl) (WM g a (up (st) 0 (5) (0))) rfl dX8_crossings_59 (fun H locs hP hD hS => ?_)
            refine lv_iload_n hx hb dX8_crossings_62 rfl (lv_at hl 1 rfl) ?_
            refine z_if_ne (tgt := 69) hx hb (by omega) dX8_crossings_63 (by decide) (fun c10 => ?_) (fun c10 => ?_)
            · skip
              have hyes : CROKm st := CROK_of (b2_1 (show b2 (CROKn st bb) = 1 by omega)) (by omega)
              refine z_iconst hx hb dX8_crossings_69 ?_
              refine lv_istore_n (lv' := [(2, .int (iZ (0))), (1, .int (iZ (gd))), (0, .ref (a 0))]) hx hb dX8_crossings_70 rfl hl (by decide) rfl (fun ls hl => ?_)
              refine z_iconst hx hb dX8_crossings_71 ?_
              refine lv_istore_n (lv' := [(3, .int (iZ (0))), (2, .int (iZ (0))), (1, .int (iZ (gd))), (0, .ref (a 0))]) hx hb dX8_crossings_72 rfl hl (by decide) rfl (fun ls hl => ?_)
              have LP73 : ∀ (n73 : Nat) (nn : Int) (bc : Int), (st 0 3 - bc) < (n73 : Int) → (0 ≤ bc ∧ bc ≤ st 0 3) → (0 ≤ nn ∧ nn ≤ bc) → (cP (fun b => CXm st b) (st 0 3).toNat 0 = nn + cP (fun b => CXm st b) (st 0 3 - bc).toNat bc) → ∀ (ls : Array Slot), lv_has ls 5 [(3, .int (iZ (bc))), (2, .int (iZ (nn))), (1, .int (iZ (gd))), (0, .ref (a 0))] → W p l e R s m args below meth c H locs 0 0 Q (F0 m 73 ls []) := by
                intro n73
                induction n73 with
                | zero =>
                  intro nn bc hm73 k1 k0 k2  ls hl
                  exact absurd hm73 (by omega)
                | succ n73 ih73 =>
                  intro nn bc hm73 k1 k0 k2  ls hl
                  refine lv_iload_n hx hb dX8_crossings_73 rfl (lv_at hl 0 rfl) ?_
                  refine lv_aload_n hx hb dX8_crossings_74 rfl (lv_at hl 3 rfl) ?_
                  refine z_get (C := RX8) (T := TX8) (N := 26) (ci := 7) hx hb hts iX8 hown hK hP 0 rfl rfl 11 (by decide) (hts (.fieldLink RX8 82 "ShotBoardModel" "boards" "I") (by decide +kernel)) (.int (iZ (st 0 (3)))) rfl dX8_crossings_75 ?_
                  refine z_icmp_ge (tgt := 145) hx hb (by omega) (by omega) dX8_crossings_78 (by decide) (fun c11 => ?_) (fun c11 => ?_)
                  · skip
                    refine lv_iload_n hx hb dX8_crossings_145 rfl (lv_at hl 1 rfl) ?_
                    exact K _ (up (st) 0 (5) (0)) _ _ _ _ hP hS (⟨rfl, Or.inr ⟨hyes, by rw [k2, show (st 0 3 - bc).toNat = 0 by omega]; simp [cP]⟩⟩) dX8_crossings_146
                  · skip
                    have hbR := hI.bd bc (by omega) (by omega)
                    have hq1 := hyes.1
                    have hta := TA_b st bc (by omega)
                    refine lv_aload_n hx hb dX8_crossings_81 rfl (lv_at hl 3 rfl) ?_
                    refine z_get (C := RX8) (T := TX8) (N := 26) (ci := 7) hx hb hts iX8 hown hK hP 0 rfl rfl 12 (by decide) (hts (.fieldLink RX8 34 "ShotBoardModel" "kind" "[I") (by decide +kernel)) (.ref (a 9)) rfl dX8_crossings_82 ?_
                    refine lv_iload_n hx hb dX8_crossings_85 rfl (lv_at hl 0 rfl) ?_
                    refine z_iald hx hb hK hP 9 ((up (st) 0 (5) (0)) 9) rfl (by omega) (by omega) (by omega) dX8_crossings_86 ?_
                    refine z_as (y := st 9 (bc)) (by simp [up, uf]) ?_
                    refine z_iconst hx hb dX8_crossings_87 ?_
                    refine z_icmp_ne (tgt := 99) hx hb (by omega) (by decide) dX8_crossings_88 (by decide) (fun c12 => ?_) (fun c12 => ?_)
                    · skip
                      have hkn : ¬ st 9 bc = 1 := c12
                      refine z_iconst hx hb dX8_crossings_99 ?_
                      refine lv_istore (lv' := [(4, .int (iZ (-1))), (3, .int (iZ (bc))), (2, .int (iZ (nn))), (1, .int (iZ (gd))), (0, .ref (a 0))]) hx hb dX8_crossings_100 hl (by decide) rfl (fun ls hl => ?_)
                      refine lv_iload_n hx hb dX8_crossings_102 rfl (lv_at hl 2 rfl) ?_
                      refine lv_iload hx hb dX8_crossings_103 (lv_at hl 0 rfl) ?_
                      refine z_iconst hx hb dX8_crossings_105 ?_
                      refine z_icmp_eq (tgt := 136) hx hb (by decide) (by decide) dX8_crossings_106 (by decide) (fun c13 => ?_) (fun c13 => ?_)
                      · skip
                        have hbv : b2 (CXm st bc) = 0 := b2_f (fun z => by first | exact hkn z.1 | exact z.2.1 c13)
                        refine z_iconst hx hb dX8_crossings_136 ?_
                        refine z_iadd hx hb dX8_crossings_137 ?_
                        refine lv_istore_n (lv' := [(2, .int (iZ ((nn) + (0)))), (4, .int (iZ (-1))), (3, .int (iZ (bc))), (1, .int (iZ (gd))), (0, .ref (a 0))]) hx hb dX8_crossings_138 rfl hl (by decide) rfl (fun ls hl => ?_)
                        refine z_iinc (lv' := [(3, .int (iZ ((bc) + 1))), (2, .int (iZ ((nn) + (0)))), (4, .int (iZ (-1))), (1, .int (iZ (gd))), (0, .ref (a 0))]) hx hb dX8_crossings_139 hl (k := 2) rfl (by decide) rfl (fun ls hl => ?_)
                        refine lv_goto (tgt := 73) hx hb dX8_crossings_142 (by decide) ?_
                        have hcs : cP (fun b => CXm st b) (st 0 3 - bc).toNat bc = b2 (CXm st bc) + cP (fun b => CXm st b) (st 0 3 - (bc + 1)).toNat (bc + 1) := by rw [show (st 0 3 - bc).toNat = (st 0 3 - (bc + 1)).toNat + 1 by omega, cP_s]
                        rw [hbv] at hcs
                        exact ih73 ((nn) + (0)) ((bc) + 1) (by omega) (by omega) (by omega) (by rw [k2, hcs]; omega)  ls (lv_sub hl [0, 1, 3, 4] rfl)
                      · skip
                        exact absurd c13 (by decide)
                    · skip
                      have hky := c12
                      refine lv_aload_n hx hb dX8_crossings_91 rfl (lv_at hl 3 rfl) ?_
                      refine lv_iload_n hx hb dX8_crossings_92 rfl (lv_at hl 0 rfl) ?_
                      refine z_cVR (q0 := 0) (ci := 7) (As := [.int (iZ (bc))]) (rest := []) S (m_X8_twoAhead l D g a (up (st) 0 (5) (0)) (bc) hI5 (by omega)) (cwV 1 hts gX8_crossings_X8_twoAhead rfl rfl rfl (by decide +kernel) ⟨Nat.le_trans (by decide) hRf, Nat.le_trans (by decide) hRl⟩) hK hP rfl rfl rfl hl.1 rfl (Nat.le_of_ble_eq_true rfl) dX8_crossings_93 ⟨Nat.zero_le _, Nat.zero_le _⟩ ?_
                      refine z_as (y := TA st bc) (rfl) ?_
                      refine lv_goto (tgt := 100) hx hb dX8_crossings_96 (by decide) ?_
                      refine lv_istore (lv' := [(4, .int (iZ (TA st bc))), (3, .int (iZ (bc))), (2, .int (iZ (nn))), (1, .int (iZ (gd))), (0, .ref (a 0))]) hx hb dX8_crossings_100 hl (by decide) rfl (fun ls hl => ?_)
                      refine lv_iload_n hx hb dX8_crossings_102 rfl (lv_at hl 2 rfl) ?_
                      refine lv_iload hx hb dX8_crossings_103 (lv_at hl 0 rfl) ?_
                      refine z_iconst hx hb dX8_crossings_105 ?_
                      refine z_icmp_eq (tgt := 136) hx hb (by omega) (by decide) dX8_crossings_106 (by decide) (fun c14 => ?_) (fun c14 => ?_)
                      · skip
                        have hbv : b2 (CXm st bc) = 0 := b2_f (fun z => by first | exact hkn z.1 | exact z.2.1 c14)
                        refine z_iconst hx hb dX8_crossings_136 ?_
                        refine z_iadd hx hb dX8_crossings_137 ?_
                        refine lv_istore_n (lv' := [(2, .int (iZ ((nn) + (0)))), (4, .int (iZ (TA st bc))), (3, .int (iZ (bc))), (1, .int (iZ (gd))), (0, .ref (a 0))]) hx hb dX8_crossings_138 rfl hl (by decide) rfl (fun ls hl => ?_)
                        refine z_iinc (lv' := [(3, .int (iZ ((bc) + 1))), (2, .int (iZ ((nn) + (0)))), (4, .int (iZ (TA st bc))), (1, .int (iZ (gd))), (0, .ref (a 0))]) hx hb dX8_crossings_139 hl (k := 2) rfl (by decide) rfl (fun ls hl => ?_)
                        refine lv_goto (tgt := 73) hx hb dX8_crossings_142 (by decide) ?_
                        have hcs : cP (fun b => CXm st b) (st 0 3 - bc).toNat bc = b2 (CXm st bc) + cP (fun b => CXm st b) (st 0 3 - (bc + 1)).toNat (bc + 1) := by rw [show (st 0 3 - bc).toNat = (st 0 3 - (bc + 1)).toNat + 1 by omega, cP_s]
                        rw [hbv] at hcs
                        exact ih73 ((nn) + (0)) ((bc) + 1) (by omega) (by omega) (by omega) (by rw [k2, hcs]; omega)  ls (lv_sub hl [0, 1, 3, 4] rfl)
                      · skip
                        have hta2 := (TA_b st bc (by omega)).resolve_left c14
                        have htn := c14
                        refine lv_aload_n hx hb dX8_crossings_109 rfl (lv_at hl 4 rfl) ?_
                        refine lv_iload hx hb dX8_crossings_110 (lv_at hl 0 rfl) ?_
                        refine lv_aload_n hx hb dX8_crossings_112 rfl (lv_at hl 4 rfl) ?_
                        refine z_get (C := RX8) (T := TX8) (N := 26) (ci := 7) hx hb hts iX8 hown hK hP 0 rfl rfl 21 (by decide) (hts (.fieldLink RX8 59 "ShotBoardModel" "list" "[I") (by decide +kernel)) (.ref (a 16)) rfl dX8_crossings_113 ?_
                        refine lv_iload hx hb dX8_crossings_116 (lv_at hl 0 rfl) ?_
                        refine z_iald hx hb hK hP 16 ((up (st) 0 (5) (0)) 16) rfl (by omega) (by omega) (by omega) dX8_crossings_118 ?_
                        refine z_as (y := st 16 (TA st bc)) (by simp [up, uf]) ?_
                        refine lv_iload_n hx hb dX8_crossings_119 rfl (lv_at hl 1 rfl) ?_
                        refine lv_aload_n hx hb dX8_crossings_120 rfl (lv_at hl 4 rfl) ?_
                        refine z_get (C := RX8) (T := TX8) (N := 26) (ci := 7) hx hb hts iX8 hown hK hP 0 rfl rfl 21 (by decide) (hts (.fieldLink RX8 59 "ShotBoardModel" "list" "[I") (by decide +kernel)) (.ref (a 16)) rfl dX8_crossings_121 ?_
                        refine lv_iload_n hx hb dX8_crossings_124 rfl (lv_at hl 1 rfl) ?_
                        refine z_iald hx hb hK hP 16 ((up (st) 0 (5) (0)) 16) rfl (by omega) (by omega) (by omega) dX8_crossings_125 ?_
                        refine z_as (y := st 16 (bc)) (by simp [up, uf]) ?_
                        refine z_cVR (q0 := 0) (ci := 7) (As := [.int (iZ (TA st bc)), .int (iZ (st 16 (TA st bc))), .int (iZ (bc)), .int (iZ (st 16 (bc)))]) (rest := [.int (iZ (nn))]) S (m_X8_crosses l D g a (up (st) 0 (5) (0)) (TA st bc) (st 16 (TA st bc)) (bc) (st 16 (bc)) hI5 (by show 0 ≤ TA st bc ∧ TA st bc < st 0 3; omega) (by show 0 ≤ bc ∧ bc < st 0 3; omega) (hI.c16 _ (by omega) (by omega)) (hI.c16 _ (by omega) (by omega)) hta2.2.2 hky) (cwV 4 hts gX8_crossings_X8_crosses rfl rfl rfl (by decide +kernel) ⟨Nat.le_trans (by decide) hRf, Nat.le_trans (by decide) hRl⟩) hK hP rfl rfl rfl hl.1 rfl (Nat.le_of_ble_eq_true rfl) dX8_crossings_126 ⟨Nat.zero_le _, Nat.zero_le _⟩ ?_
                        refine z_as (y := b2 (CRSm st (TA st bc) (st 16 (TA st bc)) bc (st 16 bc))) (rfl) ?_
                        refine z_if_eq (tgt := 136) hx hb (b2_rg _) dX8_crossings_129 (by decide) (fun c15 => ?_) (fun c15 => ?_)
                        · skip
                          have c15 := b2_0 c15
                          have hbv : b2 (CXm st bc) = 0 := b2_f (fun z => c15 z.2.2)
                          refine z_iconst hx hb dX8_crossings_136 ?_
                          refine z_iadd hx hb dX8_crossings_137 ?_
                          refine lv_istore_n (lv' := [(2, .int (iZ ((nn) + (0)))), (4, .int (iZ (TA st bc))), (3, .int (iZ (bc))), (1, .int (iZ (gd))), (0, .ref (a 0))]) hx hb dX8_crossings_138 rfl hl (by decide) rfl (fun ls hl => ?_)
                          refine z_iinc (lv' := [(3, .int (iZ ((bc) + 1))), (2, .int (iZ ((nn) + (0)))), (4, .int (iZ (TA st bc))), (1, .int (iZ (gd))), (0, .ref (a 0))]) hx hb dX8_crossings_139 hl (k := 2) rfl (by decide) rfl (fun ls hl => ?_)
                          refine lv_goto (tgt := 73) hx hb dX8_crossings_142 (by decide) ?_
                          have hcs : cP (fun b => CXm st b) (st 0 3 - bc).toNat bc = b2 (CXm st bc) + cP (fun b => CXm st b) (st 0 3 - (bc + 1)).toNat (bc + 1) := by rw [show (st 0 3 - bc).toNat = (st 0 3 - (bc + 1)).toNat + 1 by omega, cP_s]
                          rw [hbv] at hcs
                          exact ih73 ((nn) + (0)) ((bc) + 1) (by omega) (by omega) (by omega) (by rw [k2, hcs]; omega)  ls (lv_sub hl [0, 1, 3, 4] rfl)
                        · skip
                          have c15 := b2_n0 c15
                          have hbv : b2 (CXm st bc) = 1 := b2_t ⟨hky, htn, c15⟩
                          refine z_iconst hx hb dX8_crossings_132 ?_
                          refine lv_goto (tgt := 137) hx hb dX8_crossings_133 (by decide) ?_
                          refine z_iadd hx hb dX8_crossings_137 ?_
                          refine lv_istore_n (lv' := [(2, .int (iZ ((nn) + (1)))), (4, .int (iZ (TA st bc))), (3, .int (iZ (bc))), (1, .int (iZ (gd))), (0, .ref (a 0))]) hx hb dX8_crossings_138 rfl hl (by decide) rfl (fun ls hl => ?_)
                          refine z_iinc (lv' := [(3, .int (iZ ((bc) + 1))), (2, .int (iZ ((nn) + (1)))), (4, .int (iZ (TA st bc))), (1, .int (iZ (gd))), (0, .ref (a 0))]) hx hb dX8_crossings_139 hl (k := 2) rfl (by decide) rfl (fun ls hl => ?_)
                          refine lv_goto (tgt := 73) hx hb dX8_crossings_142 (by decide) ?_
                          have hcs : cP (fun b => CXm st b) (st 0 3 - bc).toNat bc = b2 (CXm st bc) + cP (fun b => CXm st b) (st 0 3 - (bc + 1)).toNat (bc + 1) := by rw [show (st 0 3 - bc).toNat = (st 0 3 - (bc + 1)).toNat + 1 by omega, cP_s]
                          rw [hbv] at hcs
                          exact ih73 ((nn) + (1)) ((bc) + 1) (by omega) (by omega) (by omega) (by rw [k2, hcs]; omega)  ls (lv_sub hl [0, 1, 3, 4] rfl)
              exact LP73 ((st 0 3 - (0)) + 1 : Int).toNat (0) (0) (by omega) (by omega) (by omega) (by simp)  ls (lv_sub hl [0, 1, 2, 3] rfl)
            · skip
              have hno : ¬ CROKm st := CROK_no (b2_0 (show b2 (CROKn st bb) = 0 by omega)) (by omega)
              refine z_bipush hx hb dX8_crossings_66 (by decide +kernel) ?_
              exact K _ (up (st) 0 (5) (0)) _ _ _ _ hP hS (⟨rfl, Or.inl ⟨hno, rfl⟩⟩) dX8_crossings_68
          · skip
            have hok : CROKn st bb := b2_1 (by omega)
            have hok1 := hok.1
            have f16 := hI.c16 bb (by omega) (by omega)
            refine lv_aload_n hx hb dX8_crossings_31 rfl (lv_at hl 2 rfl) ?_
            refine lv_aload_n hx hb dX8_crossings_32 rfl (lv_at hl 2 rfl) ?_
            refine z_get (C := RX8) (T := TX8) (N := 26) (ci := 7) hx hb hts iX8 hown hK hP 0 rfl rfl 21 (by decide) (hts (.fieldLink RX8 59 "ShotBoardModel" "list" "[I") (by decide +kernel)) (.ref (a 16)) rfl dX8_crossings_33 ?_
            refine lv_iload_n hx hb dX8_crossings_36 rfl (lv_at hl 0 rfl) ?_
            refine z_iald hx hb hK hP 16 (st 16) rfl (by omega) (by omega) (by omega) dX8_crossings_37 ?_
            refine lv_iload_n hx hb dX8_crossings_38 rfl (lv_at hl 0 rfl) ?_
            refine z_cVR (q0 := 0) (ci := 7) (As := [.int (iZ (st 16 (bb))), .int (iZ (bb))]) (rest := []) S (m_X8_whyNot l D g a (st) (st 16 (bb)) (bb) hI (by omega) (by omega)) (cwV 2 hts gX8_crossings_X8_whyNot rfl rfl rfl (by decide +kernel) ⟨Nat.le_trans (by decide) hRf, Nat.le_trans (by decide) hRl⟩) hK hP rfl rfl rfl hl.1 rfl (Nat.le_of_ble_eq_true rfl) dX8_crossings_39 ⟨Nat.zero_le _, Nat.zero_le _⟩ ?_
            have f39 : 0 ≤ WHYm st bb (st 7 (st 16 bb)) ∧ WHYm st bb (st 7 (st 16 bb)) < 6000 := WHY_b (F := FLm st bb (st 7 (st 16 bb))) _ _ (by have h9 := hI.bd bb (by omega) (by omega); omega) (by have h9 := hI.bd bb (by omega) (by omega); have h8 := (hI.bl bb (by omega) (by omega)).2.1; omega) (fun j => FL_b _ _ _ _ _ _ _ _ _ _ _ _ (by have h9 := hI.s; omega))
            refine z_if_ne (tgt := 49) hx hb (by omega) dX8_crossings_42 (by decide) (fun c16 => ?_) (fun c16 => ?_)
            · skip
              have hgs : (0 : Int) = b2 (CROKn st (bb + 1)) := (b2_f (CROKn_n (by omega) c16)).symm
              refine z_iconst hx hb dX8_crossings_49 ?_
              refine lv_istore_n (lv' := [(1, .int (iZ (0))), (2, .int (iZ (bb))), (0, .ref (a 0))]) hx hb dX8_crossings_50 rfl hl (by decide) rfl (fun ls hl => ?_)
              refine z_iinc (lv' := [(2, .int (iZ ((bb) + 1))), (1, .int (iZ (0))), (0, .ref (a 0))]) hx hb dX8_crossings_51 hl (k := 1) rfl (by decide) rfl (fun ls hl => ?_)
              refine lv_goto (tgt := 19) hx hb dX8_crossings_54 (by decide) ?_
              exact ih19 (0) ((bb) + 1) (by omega) (by omega) (hgs)  ls (lv_sub hl [0, 1, 2] rfl)
            · skip
              have hgs : (1 : Int) = b2 (CROKn st (bb + 1)) := (b2_t (CROKn_y hok c16)).symm
              refine z_iconst hx hb dX8_crossings_45 ?_
              refine lv_goto (tgt := 50) hx hb dX8_crossings_46 (by decide) ?_
              refine lv_istore_n (lv' := [(1, .int (iZ (1))), (2, .int (iZ (bb))), (0, .ref (a 0))]) hx hb dX8_crossings_50 rfl hl (by decide) rfl (fun ls hl => ?_)
              refine z_iinc (lv' := [(2, .int (iZ ((bb) + 1))), (1, .int (iZ (1))), (0, .ref (a 0))]) hx hb dX8_crossings_51 hl (k := 1) rfl (by decide) rfl (fun ls hl => ?_)
              refine lv_goto (tgt := 19) hx hb dX8_crossings_54 (by decide) ?_
              exact ih19 (1) ((bb) + 1) (by omega) (by omega) (hgs)  ls (lv_sub hl [0, 1, 2] rfl)
    exact LP19 ((st 0 5 - (0)) + 1 : Int).toNat (0) (0) (by omega) (by omega) (hg0)  ls (lv_sub hl [0, 1, 2] rfl)
  · skip
    have hg0 : (1 : Int) = b2 (CROKn st 0) := (b2_t ⟨c1, fun b a c => by omega⟩).symm
    refine z_iconst hx hb dX8_crossings_11 ?_
    refine lv_goto (tgt := 16) hx hb dX8_crossings_12 (by decide) ?_
    refine lv_istore_n (lv' := [(1, .int (iZ (1))), (0, .ref (a 0))]) hx hb dX8_crossings_16 rfl hl (by decide) rfl (fun ls hl => ?_)
    refine z_iconst hx hb dX8_crossings_17 ?_
    refine lv_istore_n (lv' := [(2, .int (iZ (0))), (1, .int (iZ (1))), (0, .ref (a 0))]) hx hb dX8_crossings_18 rfl hl (by decide) rfl (fun ls hl => ?_)
    have LP19 : ∀ (n19 : Nat) (gd : Int) (bb : Int), (st 0 5 - bb) < (n19 : Int) → (0 ≤ bb ∧ bb ≤ st 0 5) → (gd = b2 (CROKn st bb)) → ∀ (ls : Array Slot), lv_has ls 5 [(2, .int (iZ (bb))), (1, .int (iZ (gd))), (0, .ref (a 0))] → W p l e R s m args below meth c s.heap [] 0 0 Q (F0 m 19 ls []) := by
      intro n19
      induction n19 with
      | zero =>
        intro gd bb hm19 j1 j2  ls hl
        exact absurd hm19 (by omega)
      | succ n19 ih19 =>
        intro gd bb hm19 j1 j2  ls hl
        have g01 : gd = 0 ∨ gd = 1 := by rw [j2]; exact b2_01 _
        refine lv_iload_n hx hb dX8_crossings_19 rfl (lv_at hl 0 rfl) ?_
        refine lv_aload_n hx hb dX8_crossings_20 rfl (lv_at hl 2 rfl) ?_
        refine z_get (C := RX8) (T := TX8) (N := 26) (ci := 7) hx hb hts iX8 hown hK hP 0 rfl rfl 20 (by decide) (hts (.fieldLink RX8 179 "ShotBoardModel" "listed" "I") (by decide +kernel)) (.int (iZ (st 0 (5)))) rfl dX8_crossings_21 ?_
        refine z_icmp_ge (tgt := 57) hx hb (by omega) (by omega) dX8_crossings_24 (by decide) (fun c17 => ?_) (fun c17 => ?_)
        · skip
          refine lv_aload_n hx hb dX8_crossings_57 rfl (lv_at hl 2 rfl) ?_
          refine z_iconst hx hb dX8_crossings_58 ?_
          refine z_put (C := RX8) (T := TX8) (N := 26) (ci := 7) (ty := .int) hx hb hts iX8 tyX8 tyX8_ok nmX8 hown hK hP hD hS 0 rfl rfl 20 (by decide) (hts (.fieldLink RX8 179 "ShotBoardModel" "listed" "I") (by decide +kernel)) rfl (by decide +kernel) rfl rfl (Nat.le_of_ble_eq_true rfl) (WM g a (up (st) 0 (5) (0))) rfl dX8_crossings_59 (fun H locs hP hD hS => ?_)
          refine lv_iload_n hx hb dX8_crossings_62 rfl (lv_at hl 1 rfl) ?_
          refine z_if_ne (tgt := 69) hx hb (by omega) dX8_crossings_63 (by decide) (fun c18 => ?_) (fun c18 => ?_)
          · skip
            have hyes : CROKm st := CROK_of (b2_1 (show b2 (CROKn st bb) = 1 by omega)) (by omega)
            refine z_iconst hx hb dX8_crossings_69 ?_
            refine lv_istore_n (lv' := [(2, .int (iZ (0))), (1, .int (iZ (gd))), (0, .ref (a 0))]) hx hb dX8_crossings_70 rfl hl (by decide) rfl (fun ls hl => ?_)
            refine z_iconst hx hb dX8_crossings_71 ?_
            refine lv_istore_n (lv' := [(3, .int (iZ (0))), (2, .int (iZ (0))), (1, .int (iZ (gd))), (0, .ref (a 0))]) hx hb dX8_crossings_72 rfl hl (by decide) rfl (fun ls hl => ?_)
            have LP73 : ∀ (n73 : Nat) (nn : Int) (bc : Int), (st 0 3 - bc) < (n73 : Int) → (0 ≤ bc ∧ bc ≤ st 0 3) → (0 ≤ nn ∧ nn ≤ bc) → (cP (fun b => CXm st b) (st 0 3).toNat 0 = nn + cP (fun b => CXm st b) (st 0 3 - bc).toNat bc) → ∀ (ls : Array Slot), lv_has ls 5 [(3, .int (iZ (bc))), (2, .int (iZ (nn))), (1, .int (iZ (gd))), (0, .ref (a 0))] → W p l e R s m args below meth c H locs 0 0 Q (F0 m 73 ls []) := by
              intro n73
              induction n73 with
              | zero =>
                intro nn bc hm73 k1 k0 k2  ls hl
                exact absurd hm73 (by omega)
              | succ n73 ih73 =>
                intro nn bc hm73 k1 k0 k2  ls hl
                refine lv_iload_n hx hb dX8_crossings_73 rfl (lv_at hl 0 rfl) ?_
                refine lv_aload_n hx hb dX8_crossings_74 rfl (lv_at hl 3 rfl) ?_
                refine z_get (C := RX8) (T := TX8) (N := 26) (ci := 7) hx hb hts iX8 hown hK hP 0 rfl rfl 11 (by decide) (hts (.fieldLink RX8 82 "ShotBoardModel" "boards" "I") (by decide +kernel)) (.int (iZ (st 0 (3)))) rfl dX8_crossings_75 ?_
                refine z_icmp_ge (tgt := 145) hx hb (by omega) (by omega) dX8_crossings_78 (by decide) (fun c19 => ?_) (fun c19 => ?_)
                · skip
                  refine lv_iload_n hx hb dX8_crossings_145 rfl (lv_at hl 1 rfl) ?_
                  exact K _ (up (st) 0 (5) (0)) _ _ _ _ hP hS (⟨rfl, Or.inr ⟨hyes, by rw [k2, show (st 0 3 - bc).toNat = 0 by omega]; simp [cP]⟩⟩) dX8_crossings_146
                · skip
                  have hbR := hI.bd bc (by omega) (by omega)
                  have hq1 := hyes.1
                  have hta := TA_b st bc (by omega)
                  refine lv_aload_n hx hb dX8_crossings_81 rfl (lv_at hl 3 rfl) ?_
                  refine z_get (C := RX8) (T := TX8) (N := 26) (ci := 7) hx hb hts iX8 hown hK hP 0 rfl rfl 12 (by decide) (hts (.fieldLink RX8 34 "ShotBoardModel" "kind" "[I") (by decide +kernel)) (.ref (a 9)) rfl dX8_crossings_82 ?_
                  refine lv_iload_n hx hb dX8_crossings_85 rfl (lv_at hl 0 rfl) ?_
                  refine z_iald hx hb hK hP 9 ((up (st) 0 (5) (0)) 9) rfl (by omega) (by omega) (by omega) dX8_crossings_86 ?_
                  refine z_as (y := st 9 (bc)) (by simp [up, uf]) ?_
                  refine z_iconst hx hb dX8_crossings_87 ?_
                  refine z_icmp_ne (tgt := 99) hx hb (by omega) (by decide) dX8_crossings_88 (by decide) (fun c20 => ?_) (fun c20 => ?_)
                  · skip
                    have hkn : ¬ st 9 bc = 1 := c20
                    refine z_iconst hx hb dX8_crossings_99 ?_
                    refine lv_istore (lv' := [(4, .int (iZ (-1))), (3, .int (iZ (bc))), (2, .int (iZ (nn))), (1, .int (iZ (gd))), (0, .ref (a 0))]) hx hb dX8_crossings_100 hl (by decide) rfl (fun ls hl => ?_)
                    refine lv_iload_n hx hb dX8_crossings_102 rfl (lv_at hl 2 rfl) ?_
                    refine lv_iload hx hb dX8_crossings_103 (lv_at hl 0 rfl) ?_
                    refine z_iconst hx hb dX8_crossings_105 ?_
                    refine z_icmp_eq (tgt := 136) hx hb (by decide) (by decide) dX8_crossings_106 (by decide) (fun c21 => ?_) (fun c21 => ?_)
                    · skip
                      have hbv : b2 (CXm st bc) = 0 := b2_f (fun z => by first | exact hkn z.1 | exact z.2.1 c21)
                      refine z_iconst hx hb dX8_crossings_136 ?_
                      refine z_iadd hx hb dX8_crossings_137 ?_
                      refine lv_istore_n (lv' := [(2, .int (iZ ((nn) + (0)))), (4, .int (iZ (-1))), (3, .int (iZ (bc))), (1, .int (iZ (gd))), (0, .ref (a 0))]) hx hb dX8_crossings_138 rfl hl (by decide) rfl (fun ls hl => ?_)
                      refine z_iinc (lv' := [(3, .int (iZ ((bc) + 1))), (2, .int (iZ ((nn) + (0)))), (4, .int (iZ (-1))), (1, .int (iZ (gd))), (0, .ref (a 0))]) hx hb dX8_crossings_139 hl (k := 2) rfl (by decide) rfl (fun ls hl => ?_)
                      refine lv_goto (tgt := 73) hx hb dX8_crossings_142 (by decide) ?_
                      have hcs : cP (fun b => CXm st b) (st 0 3 - bc).toNat bc = b2 (CXm st bc) + cP (fun b => CXm st b) (st 0 3 - (bc + 1)).toNat (bc + 1) := by rw [show (st 0 3 - bc).toNat = (st 0 3 - (bc + 1)).toNat + 1 by omega, cP_s]
                      rw [hbv] at hcs
                      exact ih73 ((nn) + (0)) ((bc) + 1) (by omega) (by omega) (by omega) (by rw [k2, hcs]; omega)  ls (lv_sub hl [0, 1, 3, 4] rfl)
                    · skip
                      exact absurd c21 (by decide)
                  · skip
                    have hky := c20
                    refine lv_aload_n hx hb dX8_crossings_91 rfl (lv_at hl 3 rfl) ?_
                    refine lv_iload_n hx hb dX8_crossings_92 rfl (lv_at hl 0 rfl) ?_
                    refine z_cVR (q0 := 0) (ci := 7) (As := [.int (iZ (bc))]) (rest := []) S (m_X8_twoAhead l D g a (up (st) 0 (5) (0)) (bc) hI5 (by omega)) (cwV 1 hts gX8_crossings_X8_twoAhead rfl rfl rfl (by decide +kernel) ⟨Nat.le_trans (by decide) hRf, Nat.le_trans (by decide) hRl⟩) hK hP rfl rfl rfl hl.1 rfl (Nat.le_of_ble_eq_true rfl) dX8_crossings_93 ⟨Nat.zero_le _, Nat.zero_le _⟩ ?_
                    refine z_as (y := TA st bc) (rfl) ?_
                    refine lv_goto (tgt := 100) hx hb dX8_crossings_96 (by decide) ?_
                    refine lv_istore (lv' := [(4, .int (iZ (TA st bc))), (3, .int (iZ (bc))), (2, .int (iZ (nn))), (1, .int (iZ (gd))), (0, .ref (a 0))]) hx hb dX8_crossings_100 hl (by decide) rfl (fun ls hl => ?_)
                    refine lv_iload_n hx hb dX8_crossings_102 rfl (lv_at hl 2 rfl) ?_
                    refine lv_iload hx hb dX8_crossings_103 (lv_at hl 0 rfl) ?_
                    refine z_iconst hx hb dX8_crossings_105 ?_
                    refine z_icmp_eq (tgt := 136) hx hb (by omega) (by decide) dX8_crossings_106 (by decide) (fun c22 => ?_) (fun c22 => ?_)
                    · skip
                      have hbv : b2 (CXm st bc) = 0 := b2_f (fun z => by first | exact hkn z.1 | exact z.2.1 c22)
                      refine z_iconst hx hb dX8_crossings_136 ?_
                      refine z_iadd hx hb dX8_crossings_137 ?_
                      refine lv_istore_n (lv' := [(2, .int (iZ ((nn) + (0)))), (4, .int (iZ (TA st bc))), (3, .int (iZ (bc))), (1, .int (iZ (gd))), (0, .ref (a 0))]) hx hb dX8_crossings_138 rfl hl (by decide) rfl (fun ls hl => ?_)
                      refine z_iinc (lv' := [(3, .int (iZ ((bc) + 1))), (2, .int (iZ ((nn) + (0)))), (4, .int (iZ (TA st bc))), (1, .int (iZ (gd))), (0, .ref (a 0))]) hx hb dX8_crossings_139 hl (k := 2) rfl (by decide) rfl (fun ls hl => ?_)
                      refine lv_goto (tgt := 73) hx hb dX8_crossings_142 (by decide) ?_
                      have hcs : cP (fun b => CXm st b) (st 0 3 - bc).toNat bc = b2 (CXm st bc) + cP (fun b => CXm st b) (st 0 3 - (bc + 1)).toNat (bc + 1) := by rw [show (st 0 3 - bc).toNat = (st 0 3 - (bc + 1)).toNat + 1 by omega, cP_s]
                      rw [hbv] at hcs
                      exact ih73 ((nn) + (0)) ((bc) + 1) (by omega) (by omega) (by omega) (by rw [k2, hcs]; omega)  ls (lv_sub hl [0, 1, 3, 4] rfl)
                    · skip
                      have hta2 := (TA_b st bc (by omega)).resolve_left c22
                      have htn := c22
                      refine lv_aload_n hx hb dX8_crossings_109 rfl (lv_at hl 4 rfl) ?_
                      refine lv_iload hx hb dX8_crossings_110 (lv_at hl 0 rfl) ?_
                      refine lv_aload_n hx hb dX8_crossings_112 rfl (lv_at hl 4 rfl) ?_
                      refine z_get (C := RX8) (T := TX8) (N := 26) (ci := 7) hx hb hts iX8 hown hK hP 0 rfl rfl 21 (by decide) (hts (.fieldLink RX8 59 "ShotBoardModel" "list" "[I") (by decide +kernel)) (.ref (a 16)) rfl dX8_crossings_113 ?_
                      refine lv_iload hx hb dX8_crossings_116 (lv_at hl 0 rfl) ?_
                      refine z_iald hx hb hK hP 16 ((up (st) 0 (5) (0)) 16) rfl (by omega) (by omega) (by omega) dX8_crossings_118 ?_
                      refine z_as (y := st 16 (TA st bc)) (by simp [up, uf]) ?_
                      refine lv_iload_n hx hb dX8_crossings_119 rfl (lv_at hl 1 rfl) ?_
                      refine lv_aload_n hx hb dX8_crossings_120 rfl (lv_at hl 4 rfl) ?_
                      refine z_get (C := RX8) (T := TX8) (N := 26) (ci := 7) hx hb hts iX8 hown hK hP 0 rfl rfl 21 (by decide) (hts (.fieldLink RX8 59 "ShotBoardModel" "list" "[I") (by decide +kernel)) (.ref (a 16)) rfl dX8_crossings_121 ?_
                      refine lv_iload_n hx hb dX8_crossings_124 rfl (lv_at hl 1 rfl) ?_
                      refine z_iald hx hb hK hP 16 ((up (st) 0 (5) (0)) 16) rfl (by omega) (by omega) (by omega) dX8_crossings_125 ?_
                      refine z_as (y := st 16 (bc)) (by simp [up, uf]) ?_
                      refine z_cVR (q0 := 0) (ci := 7) (As := [.int (iZ (TA st bc)), .int (iZ (st 16 (TA st bc))), .int (iZ (bc)), .int (iZ (st 16 (bc)))]) (rest := [.int (iZ (nn))]) S (m_X8_crosses l D g a (up (st) 0 (5) (0)) (TA st bc) (st 16 (TA st bc)) (bc) (st 16 (bc)) hI5 (by show 0 ≤ TA st bc ∧ TA st bc < st 0 3; omega) (by show 0 ≤ bc ∧ bc < st 0 3; omega) (hI.c16 _ (by omega) (by omega)) (hI.c16 _ (by omega) (by omega)) hta2.2.2 hky) (cwV 4 hts gX8_crossings_X8_crosses rfl rfl rfl (by decide +kernel) ⟨Nat.le_trans (by decide) hRf, Nat.le_trans (by decide) hRl⟩) hK hP rfl rfl rfl hl.1 rfl (Nat.le_of_ble_eq_true rfl) dX8_crossings_126 ⟨Nat.zero_le _, Nat.zero_le _⟩ ?_
                      refine z_as (y := b2 (CRSm st (TA st bc) (st 16 (TA st bc)) bc (st 16 bc))) (rfl) ?_
                      refine z_if_eq (tgt := 136) hx hb (b2_rg _) dX8_crossings_129 (by decide) (fun c23 => ?_) (fun c23 => ?_)
                      · skip
                        have c23 := b2_0 c23
                        have hbv : b2 (CXm st bc) = 0 := b2_f (fun z => c23 z.2.2)
                        refine z_iconst hx hb dX8_crossings_136 ?_
                        refine z_iadd hx hb dX8_crossings_137 ?_
                        refine lv_istore_n (lv' := [(2, .int (iZ ((nn) + (0)))), (4, .int (iZ (TA st bc))), (3, .int (iZ (bc))), (1, .int (iZ (gd))), (0, .ref (a 0))]) hx hb dX8_crossings_138 rfl hl (by decide) rfl (fun ls hl => ?_)
                        refine z_iinc (lv' := [(3, .int (iZ ((bc) + 1))), (2, .int (iZ ((nn) + (0)))), (4, .int (iZ (TA st bc))), (1, .int (iZ (gd))), (0, .ref (a 0))]) hx hb dX8_crossings_139 hl (k := 2) rfl (by decide) rfl (fun ls hl => ?_)
                        refine lv_goto (tgt := 73) hx hb dX8_crossings_142 (by decide) ?_
                        have hcs : cP (fun b => CXm st b) (st 0 3 - bc).toNat bc = b2 (CXm st bc) + cP (fun b => CXm st b) (st 0 3 - (bc + 1)).toNat (bc + 1) := by rw [show (st 0 3 - bc).toNat = (st 0 3 - (bc + 1)).toNat + 1 by omega, cP_s]
                        rw [hbv] at hcs
                        exact ih73 ((nn) + (0)) ((bc) + 1) (by omega) (by omega) (by omega) (by rw [k2, hcs]; omega)  ls (lv_sub hl [0, 1, 3, 4] rfl)
                      · skip
                        have c23 := b2_n0 c23
                        have hbv : b2 (CXm st bc) = 1 := b2_t ⟨hky, htn, c23⟩
                        refine z_iconst hx hb dX8_crossings_132 ?_
                        refine lv_goto (tgt := 137) hx hb dX8_crossings_133 (by decide) ?_
                        refine z_iadd hx hb dX8_crossings_137 ?_
                        refine lv_istore_n (lv' := [(2, .int (iZ ((nn) + (1)))), (4, .int (iZ (TA st bc))), (3, .int (iZ (bc))), (1, .int (iZ (gd))), (0, .ref (a 0))]) hx hb dX8_crossings_138 rfl hl (by decide) rfl (fun ls hl => ?_)
                        refine z_iinc (lv' := [(3, .int (iZ ((bc) + 1))), (2, .int (iZ ((nn) + (1)))), (4, .int (iZ (TA st bc))), (1, .int (iZ (gd))), (0, .ref (a 0))]) hx hb dX8_crossings_139 hl (k := 2) rfl (by decide) rfl (fun ls hl => ?_)
                        refine lv_goto (tgt := 73) hx hb dX8_crossings_142 (by decide) ?_
                        have hcs : cP (fun b => CXm st b) (st 0 3 - bc).toNat bc = b2 (CXm st bc) + cP (fun b => CXm st b) (st 0 3 - (bc + 1)).toNat (bc + 1) := by rw [show (st 0 3 - bc).toNat = (st 0 3 - (bc + 1)).toNat + 1 by omega, cP_s]
                        rw [hbv] at hcs
                        exact ih73 ((nn) + (1)) ((bc) + 1) (by omega) (by omega) (by omega) (by rw [k2, hcs]; omega)  ls (lv_sub hl [0, 1, 3, 4] rfl)
            exact LP73 ((st 0 3 - (0)) + 1 : Int).toNat (0) (0) (by omega) (by omega) (by omega) (by simp)  ls (lv_sub hl [0, 1, 2, 3] rfl)
          · skip
            have hno : ¬ CROKm st := CROK_no (b2_0 (show b2 (CROKn st bb) = 0 by omega)) (by omega)
            refine z_bipush hx hb dX8_crossings_66 (by decide +kernel) ?_
            exact K _ (up (st) 0 (5) (0)) _ _ _ _ hP hS (⟨rfl, Or.inl ⟨hno, rfl⟩⟩) dX8_crossings_68
        · skip
          refine lv_iload_n hx hb dX8_crossings_27 rfl (lv_at hl 1 rfl) ?_
          refine z_if_eq (tgt := 57) hx hb (by omega) dX8_crossings_28 (by decide) (fun c24 => ?_) (fun c24 => ?_)
          · skip
            have hnok : ¬ CROKn st bb := b2_0 (by omega)
            refine lv_aload_n hx hb dX8_crossings_57 rfl (lv_at hl 2 rfl) ?_
            refine z_iconst hx hb dX8_crossings_58 ?_
            refine z_put (C := RX8) (T := TX8) (N := 26) (ci := 7) (ty := .int) hx hb hts iX8 tyX8 tyX8_ok nmX8 hown hK hP hD hS 0 rfl rfl 20 (by decide) (hts (.fieldLink RX8 179 "ShotBoardModel" "listed" "I") (by decide +kernel)) rfl (by decide +kernel) rfl rfl (Nat.le_of_ble_eq_true rfl) (WM g a (up (st) 0 (5) (0))) rfl dX8_crossings_59 (fun H locs hP hD hS => ?_)
            refine lv_iload_n hx hb dX8_crossings_62 rfl (lv_at hl 1 rfl) ?_
            refine z_if_ne (tgt := 69) hx hb (by omega) dX8_crossings_63 (by decide) (fun c25 => ?_) (fun c25 => ?_)
            · skip
              have hyes : CROKm st := CROK_of (b2_1 (show b2 (CROKn st bb) = 1 by omega)) (by omega)
              refine z_iconst hx hb dX8_crossings_69 ?_
              refine lv_istore_n (lv' := [(2, .int (iZ (0))), (1, .int (iZ (gd))), (0, .ref (a 0))]) hx hb dX8_crossings_70 rfl hl (by decide) rfl (fun ls hl => ?_)
              refine z_iconst hx hb dX8_crossings_71 ?_
              refine lv_istore_n (lv' := [(3, .int (iZ (0))), (2, .int (iZ (0))), (1, .int (iZ (gd))), (0, .ref (a 0))]) hx hb dX8_crossings_72 rfl hl (by decide) rfl (fun ls hl => ?_)
              have LP73 : ∀ (n73 : Nat) (nn : Int) (bc : Int), (st 0 3 - bc) < (n73 : Int) → (0 ≤ bc ∧ bc ≤ st 0 3) → (0 ≤ nn ∧ nn ≤ bc) → (cP (fun b => CXm st b) (st 0 3).toNat 0 = nn + cP (fun b => CXm st b) (st 0 3 - bc).toNat bc) → ∀ (ls : Array Slot), lv_has ls 5 [(3, .int (iZ (bc))), (2, .int (iZ (nn))), (1, .int (iZ (gd))), (0, .ref (a 0))] → W p l e R s m args below meth c H locs 0 0 Q (F0 m 73 ls []) := by
                intro n73
                induction n73 with
                | zero =>
                  intro nn bc hm73 k1 k0 k2  ls hl
                  exact absurd hm73 (by omega)
                | succ n73 ih73 =>
                  intro nn bc hm73 k1 k0 k2  ls hl
                  refine lv_iload_n hx hb dX8_crossings_73 rfl (lv_at hl 0 rfl) ?_
                  refine lv_aload_n hx hb dX8_crossings_74 rfl (lv_at hl 3 rfl) ?_
                  refine z_get (C := RX8) (T := TX8) (N := 26) (ci := 7) hx hb hts iX8 hown hK hP 0 rfl rfl 11 (by decide) (hts (.fieldLink RX8 82 "ShotBoardModel" "boards" "I") (by decide +kernel)) (.int (iZ (st 0 (3)))) rfl dX8_crossings_75 ?_
                  refine z_icmp_ge (tgt := 145) hx hb (by omega) (by omega) dX8_crossings_78 (by decide) (fun c26 => ?_) (fun c26 => ?_)
                  · skip
                    refine lv_iload_n hx hb dX8_crossings_145 rfl (lv_at hl 1 rfl) ?_
                    exact K _ (up (st) 0 (5) (0)) _ _ _ _ hP hS (⟨rfl, Or.inr ⟨hyes, by rw [k2, show (st 0 3 - bc).toNat = 0 by omega]; simp [cP]⟩⟩) dX8_crossings_146
                  · skip
                    have hbR := hI.bd bc (by omega) (by omega)
                    have hq1 := hyes.1
                    have hta := TA_b st bc (by omega)
                    refine lv_aload_n hx hb dX8_crossings_81 rfl (lv_at hl 3 rfl) ?_
                    refine z_get (C := RX8) (T := TX8) (N := 26) (ci := 7) hx hb hts iX8 hown hK hP 0 rfl rfl 12 (by decide) (hts (.fieldLink RX8 34 "ShotBoardModel" "kind" "[I") (by decide +kernel)) (.ref (a 9)) rfl dX8_crossings_82 ?_
                    refine lv_iload_n hx hb dX8_crossings_85 rfl (lv_at hl 0 rfl) ?_
                    refine z_iald hx hb hK hP 9 ((up (st) 0 (5) (0)) 9) rfl (by omega) (by omega) (by omega) dX8_crossings_86 ?_
                    refine z_as (y := st 9 (bc)) (by simp [up, uf]) ?_
                    refine z_iconst hx hb dX8_crossings_87 ?_
                    refine z_icmp_ne (tgt := 99) hx hb (by omega) (by decide) dX8_crossings_88 (by decide) (fun c27 => ?_) (fun c27 => ?_)
                    · skip
                      have hkn : ¬ st 9 bc = 1 := c27
                      refine z_iconst hx hb dX8_crossings_99 ?_
                      refine lv_istore (lv' := [(4, .int (iZ (-1))), (3, .int (iZ (bc))), (2, .int (iZ (nn))), (1, .int (iZ (gd))), (0, .ref (a 0))]) hx hb dX8_crossings_100 hl (by decide) rfl (fun ls hl => ?_)
                      refine lv_iload_n hx hb dX8_crossings_102 rfl (lv_at hl 2 rfl) ?_
                      refine lv_iload hx hb dX8_crossings_103 (lv_at hl 0 rfl) ?_
                      refine z_iconst hx hb dX8_crossings_105 ?_
                      refine z_icmp_eq (tgt := 136) hx hb (by decide) (by decide) dX8_crossings_106 (by decide) (fun c28 => ?_) (fun c28 => ?_)
                      · skip
                        have hbv : b2 (CXm st bc) = 0 := b2_f (fun z => by first | exact hkn z.1 | exact z.2.1 c28)
                        refine z_iconst hx hb dX8_crossings_136 ?_
                        refine z_iadd hx hb dX8_crossings_137 ?_
                        refine lv_istore_n (lv' := [(2, .int (iZ ((nn) + (0)))), (4, .int (iZ (-1))), (3, .int (iZ (bc))), (1, .int (iZ (gd))), (0, .ref (a 0))]) hx hb dX8_crossings_138 rfl hl (by decide) rfl (fun ls hl => ?_)
                        refine z_iinc (lv' := [(3, .int (iZ ((bc) + 1))), (2, .int (iZ ((nn) + (0)))), (4, .int (iZ (-1))), (1, .int (iZ (gd))), (0, .ref (a 0))]) hx hb dX8_crossings_139 hl (k := 2) rfl (by decide) rfl (fun ls hl => ?_)
                        refine lv_goto (tgt := 73) hx hb dX8_crossings_142 (by decide) ?_
                        have hcs : cP (fun b => CXm st b) (st 0 3 - bc).toNat bc = b2 (CXm st bc) + cP (fun b => CXm st b) (st 0 3 - (bc + 1)).toNat (bc + 1) := by rw [show (st 0 3 - bc).toNat = (st 0 3 - (bc + 1)).toNat + 1 by omega, cP_s]
                        rw [hbv] at hcs
                        exact ih73 ((nn) + (0)) ((bc) + 1) (by omega) (by omega) (by omega) (by rw [k2, hcs]; omega)  ls (lv_sub hl [0, 1, 3, 4] rfl)
                      · skip
                        exact absurd c28 (by decide)
                    · skip
                      have hky := c27
                      refine lv_aload_n hx hb dX8_crossings_91 rfl (lv_at hl 3 rfl) ?_
                      refine lv_iload_n hx hb dX8_crossings_92 rfl (lv_at hl 0 rfl) ?_
                      refine z_cVR (q0 := 0) (ci := 7) (As := [.int (iZ (bc))]) (rest := []) S (m_X8_twoAhead l D g a (up (st) 0 (5) (0)) (bc) hI5 (by omega)) (cwV 1 hts gX8_crossings_X8_twoAhead rfl rfl rfl (by decide +kernel) ⟨Nat.le_trans (by decide) hRf, Nat.le_trans (by decide) hRl⟩) hK hP rfl rfl rfl hl.1 rfl (Nat.le_of_ble_eq_true rfl) dX8_crossings_93 ⟨Nat.zero_le _, Nat.zero_le _⟩ ?_
                      refine z_as (y := TA st bc) (rfl) ?_
                      refine lv_goto (tgt := 100) hx hb dX8_crossings_96 (by decide) ?_
                      refine lv_istore (lv' := [(4, .int (iZ (TA st bc))), (3, .int (iZ (bc))), (2, .int (iZ (nn))), (1, .int (iZ (gd))), (0, .ref (a 0))]) hx hb dX8_crossings_100 hl (by decide) rfl (fun ls hl => ?_)
                      refine lv_iload_n hx hb dX8_crossings_102 rfl (lv_at hl 2 rfl) ?_
                      refine lv_iload hx hb dX8_crossings_103 (lv_at hl 0 rfl) ?_
                      refine z_iconst hx hb dX8_crossings_105 ?_
                      refine z_icmp_eq (tgt := 136) hx hb (by omega) (by decide) dX8_crossings_106 (by decide) (fun c29 => ?_) (fun c29 => ?_)
                      · skip
                        have hbv : b2 (CXm st bc) = 0 := b2_f (fun z => by first | exact hkn z.1 | exact z.2.1 c29)
                        refine z_iconst hx hb dX8_crossings_136 ?_
                        refine z_iadd hx hb dX8_crossings_137 ?_
                        refine lv_istore_n (lv' := [(2, .int (iZ ((nn) + (0)))), (4, .int (iZ (TA st bc))), (3, .int (iZ (bc))), (1, .int (iZ (gd))), (0, .ref (a 0))]) hx hb dX8_crossings_138 rfl hl (by decide) rfl (fun ls hl => ?_)
                        refine z_iinc (lv' := [(3, .int (iZ ((bc) + 1))), (2, .int (iZ ((nn) + (0)))), (4, .int (iZ (TA st bc))), (1, .int (iZ (gd))), (0, .ref (a 0))]) hx hb dX8_crossings_139 hl (k := 2) rfl (by decide) rfl (fun ls hl => ?_)
                        refine lv_goto (tgt := 73) hx hb dX8_crossings_142 (by decide) ?_
                        have hcs : cP (fun b => CXm st b) (st 0 3 - bc).toNat bc = b2 (CXm st bc) + cP (fun b => CXm st b) (st 0 3 - (bc + 1)).toNat (bc + 1) := by rw [show (st 0 3 - bc).toNat = (st 0 3 - (bc + 1)).toNat + 1 by omega, cP_s]
                        rw [hbv] at hcs
                        exact ih73 ((nn) + (0)) ((bc) + 1) (by omega) (by omega) (by omega) (by rw [k2, hcs]; omega)  ls (lv_sub hl [0, 1, 3, 4] rfl)
                      · skip
                        have hta2 := (TA_b st bc (by omega)).resolve_left c29
                        have htn := c29
                        refine lv_aload_n hx hb dX8_crossings_109 rfl (lv_at hl 4 rfl) ?_
                        refine lv_iload hx hb dX8_crossings_110 (lv_at hl 0 rfl) ?_
                        refine lv_aload_n hx hb dX8_crossings_112 rfl (lv_at hl 4 rfl) ?_
                        refine z_get (C := RX8) (T := TX8) (N := 26) (ci := 7) hx hb hts iX8 hown hK hP 0 rfl rfl 21 (by decide) (hts (.fieldLink RX8 59 "ShotBoardModel" "list" "[I") (by decide +kernel)) (.ref (a 16)) rfl dX8_crossings_113 ?_
                        refine lv_iload hx hb dX8_crossings_116 (lv_at hl 0 rfl) ?_
                        refine z_iald hx hb hK hP 16 ((up (st) 0 (5) (0)) 16) rfl (by omega) (by omega) (by omega) dX8_crossings_118 ?_
                        refine z_as (y := st 16 (TA st bc)) (by simp [up, uf]) ?_
                        refine lv_iload_n hx hb dX8_crossings_119 rfl (lv_at hl 1 rfl) ?_
                        refine lv_aload_n hx hb dX8_crossings_120 rfl (lv_at hl 4 rfl) ?_
                        refine z_get (C := RX8) (T := TX8) (N := 26) (ci := 7) hx hb hts iX8 hown hK hP 0 rfl rfl 21 (by decide) (hts (.fieldLink RX8 59 "ShotBoardModel" "list" "[I") (by decide +kernel)) (.ref (a 16)) rfl dX8_crossings_121 ?_
                        refine lv_iload_n hx hb dX8_crossings_124 rfl (lv_at hl 1 rfl) ?_
                        refine z_iald hx hb hK hP 16 ((up (st) 0 (5) (0)) 16) rfl (by omega) (by omega) (by omega) dX8_crossings_125 ?_
                        refine z_as (y := st 16 (bc)) (by simp [up, uf]) ?_
                        refine z_cVR (q0 := 0) (ci := 7) (As := [.int (iZ (TA st bc)), .int (iZ (st 16 (TA st bc))), .int (iZ (bc)), .int (iZ (st 16 (bc)))]) (rest := [.int (iZ (nn))]) S (m_X8_crosses l D g a (up (st) 0 (5) (0)) (TA st bc) (st 16 (TA st bc)) (bc) (st 16 (bc)) hI5 (by show 0 ≤ TA st bc ∧ TA st bc < st 0 3; omega) (by show 0 ≤ bc ∧ bc < st 0 3; omega) (hI.c16 _ (by omega) (by omega)) (hI.c16 _ (by omega) (by omega)) hta2.2.2 hky) (cwV 4 hts gX8_crossings_X8_crosses rfl rfl rfl (by decide +kernel) ⟨Nat.le_trans (by decide) hRf, Nat.le_trans (by decide) hRl⟩) hK hP rfl rfl rfl hl.1 rfl (Nat.le_of_ble_eq_true rfl) dX8_crossings_126 ⟨Nat.zero_le _, Nat.zero_le _⟩ ?_
                        refine z_as (y := b2 (CRSm st (TA st bc) (st 16 (TA st bc)) bc (st 16 bc))) (rfl) ?_
                        refine z_if_eq (tgt := 136) hx hb (b2_rg _) dX8_crossings_129 (by decide) (fun c30 => ?_) (fun c30 => ?_)
                        · skip
                          have c30 := b2_0 c30
                          have hbv : b2 (CXm st bc) = 0 := b2_f (fun z => c30 z.2.2)
                          refine z_iconst hx hb dX8_crossings_136 ?_
                          refine z_iadd hx hb dX8_crossings_137 ?_
                          refine lv_istore_n (lv' := [(2, .int (iZ ((nn) + (0)))), (4, .int (iZ (TA st bc))), (3, .int (iZ (bc))), (1, .int (iZ (gd))), (0, .ref (a 0))]) hx hb dX8_crossings_138 rfl hl (by decide) rfl (fun ls hl => ?_)
                          refine z_iinc (lv' := [(3, .int (iZ ((bc) + 1))), (2, .int (iZ ((nn) + (0)))), (4, .int (iZ (TA st bc))), (1, .int (iZ (gd))), (0, .ref (a 0))]) hx hb dX8_crossings_139 hl (k := 2) rfl (by decide) rfl (fun ls hl => ?_)
                          refine lv_goto (tgt := 73) hx hb dX8_crossings_142 (by decide) ?_
                          have hcs : cP (fun b => CXm st b) (st 0 3 - bc).toNat bc = b2 (CXm st bc) + cP (fun b => CXm st b) (st 0 3 - (bc + 1)).toNat (bc + 1) := by rw [show (st 0 3 - bc).toNat = (st 0 3 - (bc + 1)).toNat + 1 by omega, cP_s]
                          rw [hbv] at hcs
                          exact ih73 ((nn) + (0)) ((bc) + 1) (by omega) (by omega) (by omega) (by rw [k2, hcs]; omega)  ls (lv_sub hl [0, 1, 3, 4] rfl)
                        · skip
                          have c30 := b2_n0 c30
                          have hbv : b2 (CXm st bc) = 1 := b2_t ⟨hky, htn, c30⟩
                          refine z_iconst hx hb dX8_crossings_132 ?_
                          refine lv_goto (tgt := 137) hx hb dX8_crossings_133 (by decide) ?_
                          refine z_iadd hx hb dX8_crossings_137 ?_
                          refine lv_istore_n (lv' := [(2, .int (iZ ((nn) + (1)))), (4, .int (iZ (TA st bc))), (3, .int (iZ (bc))), (1, .int (iZ (gd))), (0, .ref (a 0))]) hx hb dX8_crossings_138 rfl hl (by decide) rfl (fun ls hl => ?_)
                          refine z_iinc (lv' := [(3, .int (iZ ((bc) + 1))), (2, .int (iZ ((nn) + (1)))), (4, .int (iZ (TA st bc))), (1, .int (iZ (gd))), (0, .ref (a 0))]) hx hb dX8_crossings_139 hl (k := 2) rfl (by decide) rfl (fun ls hl => ?_)
                          refine lv_goto (tgt := 73) hx hb dX8_crossings_142 (by decide) ?_
                          have hcs : cP (fun b => CXm st b) (st 0 3 - bc).toNat bc = b2 (CXm st bc) + cP (fun b => CXm st b) (st 0 3 - (bc + 1)).toNat (bc + 1) := by rw [show (st 0 3 - bc).toNat = (st 0 3 - (bc + 1)).toNat + 1 by omega, cP_s]
                          rw [hbv] at hcs
                          exact ih73 ((nn) + (1)) ((bc) + 1) (by omega) (by omega) (by omega) (by rw [k2, hcs]; omega)  ls (lv_sub hl [0, 1, 3, 4] rfl)
              exact LP73 ((st 0 3 - (0)) + 1 : Int).toNat (0) (0) (by omega) (by omega) (by omega) (by simp)  ls (lv_sub hl [0, 1, 2, 3] rfl)
            · skip
              have hno : ¬ CROKm st := CROK_no (b2_0 (show b2 (CROKn st bb) = 0 by omega)) (by omega)
              refine z_bipush hx hb dX8_crossings_66 (by decide +kernel) ?_
              exact K _ (up (st) 0 (5) (0)) _ _ _ _ hP hS (⟨rfl, Or.inl ⟨hno, rfl⟩⟩) dX8_crossings_68
          · skip
            have hok : CROKn st bb := b2_1 (by omega)
            have hok1 := hok.1
            have f16 := hI.c16 bb (by omega) (by omega)
            refine lv_aload_n hx hb dX8_crossings_31 rfl (lv_at hl 2 rfl) ?_
            refine lv_aload_n hx hb dX8_crossings_32 rfl (lv_at hl 2 rfl) ?_
            refine z_get (C := RX8) (T := TX8) (N := 26) (ci := 7) hx hb hts iX8 hown hK hP 0 rfl rfl 21 (by decide) (hts (.fieldLink RX8 59 "ShotBoardModel" "list" "[I") (by decide +kernel)) (.ref (a 16)) rfl dX8_crossings_33 ?_
            refine lv_iload_n hx hb dX8_crossings_36 rfl (lv_at hl 0 rfl) ?_
            refine z_iald hx hb hK hP 16 (st 16) rfl (by omega) (by omega) (by omega) dX8_crossings_37 ?_
            refine lv_iload_n hx hb dX8_crossings_38 rfl (lv_at hl 0 rfl) ?_
            refine z_cVR (q0 := 0) (ci := 7) (As := [.int (iZ (st 16 (bb))), .int (iZ (bb))]) (rest := []) S (m_X8_whyNot l D g a (st) (st 16 (bb)) (bb) hI (by omega) (by omega)) (cwV 2 hts gX8_crossings_X8_whyNot rfl rfl rfl (by decide +kernel) ⟨Nat.le_trans (by decide) hRf, Nat.le_trans (by decide) hRl⟩) hK hP rfl rfl rfl hl.1 rfl (Nat.le_of_ble_eq_true rfl) dX8_crossings_39 ⟨Nat.zero_le _, Nat.zero_le _⟩ ?_
            have f39 : 0 ≤ WHYm st bb (st 7 (st 16 bb)) ∧ WHYm st bb (st 7 (st 16 bb)) < 6000 := WHY_b (F := FLm st bb (st 7 (st 16 bb))) _ _ (by have h9 := hI.bd bb (by omega) (by omega); omega) (by have h9 := hI.bd bb (by omega) (by omega); have h8 := (hI.bl bb (by omega) (by omega)).2.1; omega) (fun j => FL_b _ _ _ _ _ _ _ _ _ _ _ _ (by have h9 := hI.s; omega))
            refine z_if_ne (tgt := 49) hx hb (by omega) dX8_crossings_42 (by decide) (fun c31 => ?_) (fun c31 => ?_)
            · skip
              have hgs : (0 : Int) = b2 (CROKn st (bb + 1)) := (b2_f (CROKn_n (by omega) c31)).symm
              refine z_iconst hx hb dX8_crossings_49 ?_
              refine lv_istore_n (lv' := [(1, .int (iZ (0))), (2, .int (iZ (bb))), (0, .ref (a 0))]) hx hb dX8_crossings_50 rfl hl (by decide) rfl (fun ls hl => ?_)
              refine z_iinc (lv' := [(2, .int (iZ ((bb) + 1))), (1, .int (iZ (0))), (0, .ref (a 0))]) hx hb dX8_crossings_51 hl (k := 1) rfl (by decide) rfl (fun ls hl => ?_)
              refine lv_goto (tgt := 19) hx hb dX8_crossings_54 (by decide) ?_
              exact ih19 (0) ((bb) + 1) (by omega) (by omega) (hgs)  ls (lv_sub hl [0, 1, 2] rfl)
            · skip
              have hgs : (1 : Int) = b2 (CROKn st (bb + 1)) := (b2_t (CROKn_y hok c31)).symm
              refine z_iconst hx hb dX8_crossings_45 ?_
              refine lv_goto (tgt := 50) hx hb dX8_crossings_46 (by decide) ?_
              refine lv_istore_n (lv' := [(1, .int (iZ (1))), (2, .int (iZ (bb))), (0, .ref (a 0))]) hx hb dX8_crossings_50 rfl hl (by decide) rfl (fun ls hl => ?_)
              refine z_iinc (lv' := [(2, .int (iZ ((bb) + 1))), (1, .int (iZ (1))), (0, .ref (a 0))]) hx hb dX8_crossings_51 hl (k := 1) rfl (by decide) rfl (fun ls hl => ?_)
              refine lv_goto (tgt := 19) hx hb dX8_crossings_54 (by decide) ?_
              exact ih19 (1) ((bb) + 1) (by omega) (by omega) (hgs)  ls (lv_sub hl [0, 1, 2] rfl)
    exact LP19 ((st 0 5 - (0)) + 1 : Int).toNat (1) (0) (by omega) (by omega) (hg0)  ls (lv_sub hl [0, 1, 2] rfl)
