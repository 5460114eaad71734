abbrev rX8_fails : Room := { frames := 5, cells := 0, slots := 0, locals := 116 }
set_option maxHeartbeats 4000000 in
set_option maxRecDepth 100000 in
theorem m_X8_fails (l : Launch) (D : va_G) (g : Nat → ClassId) (a : Nat → Nat) (st : SS) (cm : Int) (bb : Int) (tt : Int) (hI : IM st) (h1 : 0 ≤ cm ∧ cm < 10) (h2 : 0 ≤ bb ∧ bb < st 0 3) (h3 : st 13 bb ≤ tt ∧ tt ≤ st 14 bb) : Met l yX8_fails wsX8_fails rX8_fails (PcR D g (WM g a st) [.ref (a 0), .int (iZ (cm)), .int (iZ (bb)), .int (iZ (tt))]) (QcRead (iZ (FLm st bb (st 7 cm) tt))) 0 0 (fun _ => False) := by
  refine metR (cc := cX8_fails) (maxL := 7) (ret := (some .int)) (own := RX8) (by decide) rfl rfl (Nat.le_of_ble_eq_true rfl) (Or.inl rfl) ?_
  intro p e R s m args below meth c Q ls S hRf hRl hK hP hl K
  have hx := S.1
  have hb := S.2.1
  have hown := S.2.2.2.1
  have hts := S.2.2.2.2
  have hRf : 5 ≤ R.frames := hRf
  have hRl : 116 ≤ R.locals := hRl
  have hl : lv_has ls 7 [(0, .ref (a 0)), (1, .int (iZ (cm))), (2, .int (iZ (bb))), (3, .int (iZ (tt)))] := hl
  have iX8 : ∀ w ∈ wsX80, w ∈ wsX8_fails := by decide +kernel
  have hB := hI.s
  have hbR := hI.bd bb (by omega) (by omega)
  have hL1 := (hI.bl bb (by omega) (by omega)).1
  have hL2 := (hI.bl bb (by omega) (by omega)).2.1
  refine lv_aload_n hx hb dX8_fails_0 rfl (lv_at hl 0 rfl) ?_
  refine z_get (C := RX8) (T := TX8) (N := 26) (ci := 7) hx hb hts iX8 hown hK hP 0 rfl rfl 13 (by decide) (hts (.fieldLink RX8 37 "ShotBoardModel" "main" "[I") (by decide +kernel)) (.ref (a 10)) rfl dX8_fails_1 ?_
  refine lv_iload_n hx hb dX8_fails_4 rfl (lv_at hl 2 rfl) ?_
  refine z_iald hx hb hK hP 10 (st 10) rfl (by omega) (by omega) (by omega) dX8_fails_5 ?_
  refine lv_istore (lv' := [(4, .int (iZ (st 10 (bb)))), (0, .ref (a 0)), (1, .int (iZ (cm))), (2, .int (iZ (bb))), (3, .int (iZ (tt)))]) hx hb dX8_fails_6 hl (by decide) rfl (fun ls hl => ?_)
  refine z_iconst hx hb dX8_fails_8 ?_
  refine lv_istore (lv' := [(5, .int (iZ (0))), (4, .int (iZ (st 10 (bb)))), (0, .ref (a 0)), (1, .int (iZ (cm))), (2, .int (iZ (bb))), (3, .int (iZ (tt)))]) hx hb dX8_fails_9 hl (by decide) rfl (fun ls hl => ?_)
  have LP11 : ∀ (n11 : Nat) (qq : Int), (st 0 0 - qq) < (n11 : Int) → (0 ≤ qq ∧ qq ≤ st 0 0) → (∀ j, 0 ≤ j → j < qq → ¬ (bt (st 11 bb) j ∧ HID (plM st) (st 0 0) (st 0 1) (st 5) (st 6) j tt (st 7 cm))) → ∀ (ls : Array Slot), lv_has ls 7 [(5, .int (iZ (qq))), (4, .int (iZ (st 10 (bb)))), (0, .ref (a 0)), (1, .int (iZ (cm))), (2, .int (iZ (bb))), (3, .int (iZ (tt)))] → W p l e R s m args below meth c s.heap [] 0 0 Q (F0 m 11 ls []) := by
    intro n11
    induction n11 with
    | zero =>
      intro qq hm11 j1 j2  ls hl
      exact absurd hm11 (by omega)
    | succ n11 ih11 =>
      intro qq hm11 j1 j2  ls hl
      refine lv_iload hx hb dX8_fails_11 (lv_at hl 0 rfl) ?_
      refine lv_aload_n hx hb dX8_fails_13 rfl (lv_at hl 2 rfl) ?_
      refine z_get (C := RX8) (T := TX8) (N := 26) (ci := 7) hx hb hts iX8 hown hK hP 0 rfl rfl 0 (by decide) (hts (.fieldLink RX8 72 "ShotBoardModel" "persons" "I") (by decide +kernel)) (.int (iZ (st 0 (0)))) rfl dX8_fails_14 ?_
      refine z_icmp_ge (tgt := 63) hx hb (by omega) (by omega) dX8_fails_17 (by decide) (fun c1 => ?_) (fun c1 => ?_)
      · skip
        have he1 : fP (fun p => bt (st 11 bb) p ∧ HID (plM st) (st 0 0) (st 0 1) (st 5) (st 6) p tt (st 7 cm)) (st 0 0).toNat 0 = -1 := fP_no (fun j a b => j2 j a (by omega))
        refine z_iconst hx hb dX8_fails_63 ?_
        refine lv_istore (lv' := [(5, .int (iZ (0))), (4, .int (iZ (st 10 (bb)))), (0, .ref (a 0)), (1, .int (iZ (cm))), (2, .int (iZ (bb))), (3, .int (iZ (tt)))]) hx hb dX8_fails_64 hl (by decide) rfl (fun ls hl => ?_)
        have LP66 : ∀ (n66 : Nat) (rr : Int), (st 0 0 - rr) < (n66 : Int) → (0 ≤ rr ∧ rr ≤ st 0 0) → (∀ j, 0 ≤ j → j < rr → ¬ (bt (st 11 bb) j ∧ ¬ cone (st 7 cm) (plM st (st 10 bb) tt) (plM st j tt))) → ∀ (ls : Array Slot), lv_has ls 7 [(5, .int (iZ (rr))), (4, .int (iZ (st 10 (bb)))), (0, .ref (a 0)), (1, .int (iZ (cm))), (2, .int (iZ (bb))), (3, .int (iZ (tt)))] → W p l e R s m args below meth c s.heap [] 0 0 Q (F0 m 66 ls []) := by
          intro n66
          induction n66 with
          | zero =>
            intro rr hm66 k1 k2  ls hl
            exact absurd hm66 (by omega)
          | succ n66 ih66 =>
            intro rr hm66 k1 k2  ls hl
            refine lv_iload hx hb dX8_fails_66 (lv_at hl 0 rfl) ?_
            refine lv_aload_n hx hb dX8_fails_68 rfl (lv_at hl 2 rfl) ?_
            refine z_get (C := RX8) (T := TX8) (N := 26) (ci := 7) hx hb hts iX8 hown hK hP 0 rfl rfl 0 (by decide) (hts (.fieldLink RX8 72 "ShotBoardModel" "persons" "I") (by decide +kernel)) (.int (iZ (st 0 (0)))) rfl dX8_fails_69 ?_
            refine z_icmp_ge (tgt := 115) hx hb (by omega) (by omega) dX8_fails_72 (by decide) (fun c2 => ?_) (fun c2 => ?_)
            · skip
              have he2 : fP (fun p => bt (st 11 bb) p ∧ ¬ cone (st 7 cm) (plM st (st 10 bb) tt) (plM st p tt)) (st 0 0).toNat 0 = -1 := fP_no (fun j a b => k2 j a (by omega))
              refine lv_aload_n hx hb dX8_fails_115 rfl (lv_at hl 2 rfl) ?_
              refine z_get (C := RX8) (T := TX8) (N := 26) (ci := 7) hx hb hts iX8 hown hK hP 0 rfl rfl 15 (by decide) (hts (.fieldLink RX8 43 "ShotBoardModel" "sizes" "[I") (by decide +kernel)) (.ref (a 12)) rfl dX8_fails_116 ?_
              refine lv_iload_n hx hb dX8_fails_119 rfl (lv_at hl 4 rfl) ?_
              refine z_iald hx hb hK hP 12 (st 12) rfl (by omega) (by omega) (by omega) dX8_fails_120 ?_
              refine lv_aload_n hx hb dX8_fails_121 rfl (lv_at hl 2 rfl) ?_
              refine lv_iload_n hx hb dX8_fails_122 rfl (lv_at hl 3 rfl) ?_
              refine lv_iload hx hb dX8_fails_123 (lv_at hl 1 rfl) ?_
              refine lv_iload_n hx hb dX8_fails_125 rfl (lv_at hl 5 rfl) ?_
              refine z_cVR (q0 := 0) (ci := 7) (As := [.int (iZ (cm)), .int (iZ (st 10 (bb))), .int (iZ (tt))]) (rest := [.int (iZ (st 12 (bb)))]) S (m_X8_sizeOf l D g a (st) (cm) (st 10 (bb)) (tt) hI (by omega) (by omega) (by omega)) (cwV 3 hts gX8_fails_X8_sizeOf rfl rfl rfl (by decide +kernel) ⟨Nat.le_trans (by decide) hRf, Nat.le_trans (by decide) hRl⟩) hK hP rfl rfl rfl hl.1 rfl (Nat.le_of_ble_eq_true rfl) dX8_fails_126 ⟨Nat.zero_le _, Nat.zero_le _⟩ ?_
              have f3 := sizeZ_b (st 7 (cm)) (plM st (st 10 (bb)) (tt))
              refine z_ishr hx hb dX8_fails_129 ?_
              refine z_iconst hx hb dX8_fails_130 ?_
              refine z_iand hx hb dX8_fails_131 ?_
              refine z_as (y := b2 (bt (st 12 bb) (sizeZ (st 7 cm) (plM st (st 10 bb) tt)))) (bit_z (by omega) (by omega) (by omega) (by omega)) ?_
              refine z_if_ne (tgt := 138) hx hb (b2_rg _) dX8_fails_132 (by decide) (fun c4 => ?_) (fun c4 => ?_)
              · skip
                have c4 := b2_n0 c4
                have hsz := c4
                refine z_iconst hx hb dX8_fails_138 ?_
                refine lv_istore (lv' := [(5, .int (iZ (0))), (4, .int (iZ (st 10 (bb)))), (0, .ref (a 0)), (1, .int (iZ (cm))), (2, .int (iZ (bb))), (3, .int (iZ (tt)))]) hx hb dX8_fails_139 hl (by decide) rfl (fun ls hl => ?_)
                have LP141 : ∀ (n141 : Nat) (ss : Int), (st 0 0 - ss) < (n141 : Int) → (0 ≤ ss ∧ ss ≤ st 0 0) → (∀ j, 0 ≤ j → j < ss → ¬ (bt (st 11 bb) j ∧ crossZ (st 7 cm) (plM st (st 10 bb) (tt - 1)) (plM st j (tt - 1)) * crossZ (st 7 cm) (plM st (st 10 bb) tt) (plM st j tt) < 0)) → ∀ (ls : Array Slot), lv_has ls 7 [(5, .int (iZ (ss))), (4, .int (iZ (st 10 (bb)))), (0, .ref (a 0)), (1, .int (iZ (cm))), (2, .int (iZ (bb))), (3, .int (iZ (tt)))] → W p l e R s m args below meth c s.heap [] 0 0 Q (F0 m 141 ls []) := by
                  intro n141
                  induction n141 with
                  | zero =>
                    intro ss hm141 l1 l2  ls hl
                    exact absurd hm141 (by omega)
                  | succ n141 ih141 =>
                    intro ss hm141 l1 l2  ls hl
                    refine lv_iload hx hb dX8_fails_141 (lv_at hl 0 rfl) ?_
                    refine lv_aload_n hx hb dX8_fails_143 rfl (lv_at hl 2 rfl) ?_
                    refine z_get (C := RX8) (T := TX8) (N := 26) (ci := 7) hx hb hts iX8 hown hK hP 0 rfl rfl 0 (by decide) (hts (.fieldLink RX8 72 "ShotBoardModel" "persons" "I") (by decide +kernel)) (.int (iZ (st 0 (0)))) rfl dX8_fails_144 ?_
                    refine z_icmp_ge (tgt := 260) hx hb (by omega) (by omega) dX8_fails_147 (by decide) (fun c5 => ?_) (fun c5 => ?_)
                    · skip
                      have hno : ¬ (st 9 bb = 2 ∧ st 13 bb < tt ∧ CHG (plM st) (st 0 0) (st 10 bb) (st 11 bb) (st 7 cm) tt) := fun ⟨_, _, q, a9, b9, d9⟩ => l2 q a9 (by omega) d9
                      refine z_iconst hx hb dX8_fails_260 ?_
                      exact K _ _ _ (by unfold FLm FL; rw [he1, if_neg (by decide), he2, if_neg (by decide), if_neg (by rw [b2_t hsz]; decide), if_neg (fun z => hno (b2_1 z))]) dX8_fails_261
                    · skip
                      refine lv_aload_n hx hb dX8_fails_150 rfl (lv_at hl 2 rfl) ?_
                      refine z_get (C := RX8) (T := TX8) (N := 26) (ci := 7) hx hb hts iX8 hown hK hP 0 rfl rfl 12 (by decide) (hts (.fieldLink RX8 34 "ShotBoardModel" "kind" "[I") (by decide +kernel)) (.ref (a 9)) rfl dX8_fails_151 ?_
                      refine lv_iload_n hx hb dX8_fails_154 rfl (lv_at hl 4 rfl) ?_
                      refine z_iald hx hb hK hP 9 (st 9) rfl (by omega) (by omega) (by omega) dX8_fails_155 ?_
                      refine z_iconst hx hb dX8_fails_156 ?_
                      refine z_icmp_ne (tgt := 260) hx hb (by omega) (by decide) dX8_fails_157 (by decide) (fun c6 => ?_) (fun c6 => ?_)
                      · skip
                        have hno : ¬ (st 9 bb = 2 ∧ st 13 bb < tt ∧ CHG (plM st) (st 0 0) (st 10 bb) (st 11 bb) (st 7 cm) tt) := fun z => c6 z.1
                        refine z_iconst hx hb dX8_fails_260 ?_
                        exact K _ _ _ (by unfold FLm FL; rw [he1, if_neg (by decide), he2, if_neg (by decide), if_neg (by rw [b2_t hsz]; decide), if_neg (fun z => hno (b2_1 z))]) dX8_fails_261
                      · skip
                        have hk2 := c6
                        refine lv_iload_n hx hb dX8_fails_160 rfl (lv_at hl 5 rfl) ?_
                        refine lv_aload_n hx hb dX8_fails_161 rfl (lv_at hl 2 rfl) ?_
                        refine z_get (C := RX8) (T := TX8) (N := 26) (ci := 7) hx hb hts iX8 hown hK hP 0 rfl rfl 16 (by decide) (hts (.fieldLink RX8 46 "ShotBoardModel" "from" "[I") (by decide +kernel)) (.ref (a 13)) rfl dX8_fails_162 ?_
                        refine lv_iload_n hx hb dX8_fails_165 rfl (lv_at hl 4 rfl) ?_
                        refine z_iald hx hb hK hP 13 (st 13) rfl (by omega) (by omega) (by omega) dX8_fails_166 ?_
                        refine z_icmp_le (tgt := 260) hx hb (by omega) (by omega) dX8_fails_167 (by decide) (fun c7 => ?_) (fun c7 => ?_)
                        · skip
                          have hno : ¬ (st 9 bb = 2 ∧ st 13 bb < tt ∧ CHG (plM st) (st 0 0) (st 10 bb) (st 11 bb) (st 7 cm) tt) := fun z => absurd z.2.1 (by omega)
                          refine z_iconst hx hb dX8_fails_260 ?_
                          exact K _ _ _ (by unfold FLm FL; rw [he1, if_neg (by decide), he2, if_neg (by decide), if_neg (by rw [b2_t hsz]; decide), if_neg (fun z => hno (b2_1 z))]) dX8_fails_261
                        · skip
                          have hk3 := c7
                          refine lv_aload_n hx hb dX8_fails_170 rfl (lv_at hl 2 rfl) ?_
                          refine z_get (C := RX8) (T := TX8) (N := 26) (ci := 7) hx hb hts iX8 hown hK hP 0 rfl rfl 14 (by decide) (hts (.fieldLink RX8 40 "ShotBoardModel" "must" "[I") (by decide +kernel)) (.ref (a 11)) rfl dX8_fails_171 ?_
                          refine lv_iload_n hx hb dX8_fails_174 rfl (lv_at hl 4 rfl) ?_
                          refine z_iald hx hb hK hP 11 (st 11) rfl (by omega) (by omega) (by omega) dX8_fails_175 ?_
                          refine lv_iload hx hb dX8_fails_176 (lv_at hl 0 rfl) ?_
                          refine z_ishr hx hb dX8_fails_178 ?_
                          refine z_iconst hx hb dX8_fails_179 ?_
                          refine z_iand hx hb dX8_fails_180 ?_
                          refine z_as (y := b2 (bt (st 11 bb) ss)) (bit_z (by omega) (by omega) (by omega) (by omega)) ?_
                          refine z_iconst hx hb dX8_fails_181 ?_
                          refine z_icmp_ne (tgt := 189) hx hb (b2_rg _) (by decide) dX8_fails_182 (by decide) (fun c8 => ?_) (fun c8 => ?_)
                          · skip
                            have c8 := b2_n1 c8
                            have hnb := c8
                            refine z_iconst hx hb dX8_fails_189 ?_
                            refine lv_istore (lv' := [(6, .int (iZ (0))), (5, .int (iZ (ss))), (4, .int (iZ (st 10 (bb)))), (0, .ref (a 0)), (1, .int (iZ (cm))), (2, .int (iZ (bb))), (3, .int (iZ (tt)))]) hx hb dX8_fails_190 hl (by decide) rfl (fun ls hl => ?_)
                            refine lv_iload hx hb dX8_fails_192 (lv_at hl 0 rfl) ?_
                            refine z_if_eq (tgt := 254) hx hb (by decide) dX8_fails_194 (by decide) (fun c9 => ?_) (fun c9 => ?_)
                            · skip
                              refine z_iinc (lv' := [(5, .int (iZ ((ss) + 1))), (6, .int (iZ (0))), (4, .int (iZ (st 10 (bb)))), (0, .ref (a 0)), (1, .int (iZ (cm))), (2, .int (iZ (bb))), (3, .int (iZ (tt)))]) hx hb dX8_fails_254 hl (k := 1) rfl (by decide) rfl (fun ls hl => ?_)
                              refine lv_goto (tgt := 141) hx hb dX8_fails_257 (by decide) ?_
                              exact ih141 ((ss) + 1) (by omega) (by omega) (fun j a b => by
      by_cases e9 : j = ss
      · subst e9; exact fun z => by first | exact hnb z.1 | exact hnc2 z.2
      · exact l2 j a (by omega))  ls (lv_sub hl [0, 2, 3, 4, 5, 6] rfl)
                            · skip
                              exact absurd c9 (by decide)
                          · skip
                            have c8 := b2_1 c8
                            have hyb := c8
                            refine z_iconst hx hb dX8_fails_185 ?_
                            refine lv_goto (tgt := 190) hx hb dX8_fails_186 (by decide) ?_
                            refine lv_istore (lv' := [(6, .int (iZ (1))), (5, .int (iZ (ss))), (4, .int (iZ (st 10 (bb)))), (0, .ref (a 0)), (1, .int (iZ (cm))), (2, .int (iZ (bb))), (3, .int (iZ (tt)))]) hx hb dX8_fails_190 hl (by decide) rfl (fun ls hl => ?_)
                            refine lv_iload hx hb dX8_fails_192 (lv_at hl 0 rfl) ?_
                            refine z_if_eq (tgt := 254) hx hb (by decide) dX8_fails_194 (by decide) (fun c10 => ?_) (fun c10 => ?_)
                            · skip
                              exact absurd c10 (by decide)
                            · skip
                              refine lv_aload_n hx hb dX8_fails_197 rfl (lv_at hl 3 rfl) ?_
                              refine z_get (C := RX8) (T := TX8) (N := 26) (ci := 7) hx hb hts iX8 hown hK hP 0 rfl rfl 9 (by decide) (hts (.fieldLink RX8 28 "ShotBoardModel" "eye" "[I") (by decide +kernel)) (.ref (a 7)) rfl dX8_fails_198 ?_
                              refine lv_iload_n hx hb dX8_fails_201 rfl (lv_at hl 4 rfl) ?_
                              refine z_iald hx hb hK hP 7 (st 7) rfl (by omega) (by omega) (by omega) dX8_fails_202 ?_
                              have f11 := hI.c7 (cm) (by omega) (by omega)
                              refine lv_aload_n hx hb dX8_fails_203 rfl (lv_at hl 3 rfl) ?_
                              refine lv_iload hx hb dX8_fails_204 (lv_at hl 2 rfl) ?_
                              refine lv_iload_n hx hb dX8_fails_206 rfl (lv_at hl 6 rfl) ?_
                              refine z_cVR (q0 := 0) (ci := 7) (As := [.int (iZ (st 10 (bb))), .int (iZ (tt))]) (rest := [.int (iZ (st 7 (cm)))]) S (m_X8_placeOf l D g a (st) (st 10 (bb)) (tt) hI (by omega) (by omega)) (cwV 2 hts gX8_fails_X8_placeOf rfl rfl rfl (by decide +kernel) ⟨Nat.le_trans (by decide) hRf, Nat.le_trans (by decide) hRl⟩) hK hP rfl rfl rfl hl.1 rfl (Nat.le_of_ble_eq_true rfl) dX8_fails_207 ⟨Nat.zero_le _, Nat.zero_le _⟩ ?_
                              have f12 := plM_p hI (st 10 (bb)) (tt) (by omega) (by omega)
                              refine lv_aload_n hx hb dX8_fails_210 rfl (lv_at hl 3 rfl) ?_
                              refine lv_iload hx hb dX8_fails_211 (lv_at hl 1 rfl) ?_
                              refine lv_iload_n hx hb dX8_fails_213 rfl (lv_at hl 6 rfl) ?_
                              refine z_cVR (q0 := 0) (ci := 7) (As := [.int (iZ (ss)), .int (iZ (tt))]) (rest := [.int (iZ (plM st (st 10 (bb)) (tt))), .int (iZ (st 7 (cm)))]) S (m_X8_placeOf l D g a (st) (ss) (tt) hI (by omega) (by omega)) (cwV 2 hts gX8_fails_X8_placeOf rfl rfl rfl (by decide +kernel) ⟨Nat.le_trans (by decide) hRf, Nat.le_trans (by decide) hRl⟩) hK hP rfl rfl rfl hl.1 rfl (Nat.le_of_ble_eq_true rfl) dX8_fails_214 ⟨Nat.zero_le _, Nat.zero_le _⟩ ?_
                              have f13 := plM_p hI (ss) (tt) (by omega) (by omega)
                              refine z_cSS (As := [.int (iZ (st 7 (cm))), .int (iZ (plM st (st 10 (bb)) (tt))), .int (iZ (plM st (ss) (tt)))]) (rest := []) S (m_X8_turn l (st 7 (cm)) (plM st (st 10 (bb)) (tt)) (plM st (ss) (tt)) (by omega) (by omega) (by omega)) (va_cwS 3 hts gX8_fails_X8_turn rfl rfl rfl (by decide +kernel) ⟨Nat.le_trans (by decide) hRf, Nat.le_trans (by decide) hRl⟩) rfl hl.1 rfl (Nat.le_of_ble_eq_true rfl) dX8_fails_217 ⟨Nat.zero_le _, Nat.zero_le _⟩ ?_
                              have f14 := sg_b (crossZ (st 7 (cm)) (plM st (st 10 (bb)) (tt)) (plM st (ss) (tt)))
                              refine lv_aload_n hx hb dX8_fails_220 rfl (lv_at hl 3 rfl) ?_
                              refine z_get (C := RX8) (T := TX8) (N := 26) (ci := 7) hx hb hts iX8 hown hK hP 0 rfl rfl 9 (by decide) (hts (.fieldLink RX8 28 "ShotBoardModel" "eye" "[I") (by decide +kernel)) (.ref (a 7)) rfl dX8_fails_221 ?_
                              refine lv_iload_n hx hb dX8_fails_224 rfl (lv_at hl 4 rfl) ?_
                              refine z_iald hx hb hK hP 7 (st 7) rfl (by omega) (by omega) (by omega) dX8_fails_225 ?_
                              have f15 := hI.c7 (cm) (by omega) (by omega)
                              refine lv_aload_n hx hb dX8_fails_226 rfl (lv_at hl 3 rfl) ?_
                              refine lv_iload hx hb dX8_fails_227 (lv_at hl 2 rfl) ?_
                              refine lv_iload_n hx hb dX8_fails_229 rfl (lv_at hl 6 rfl) ?_
                              refine z_iconst hx hb dX8_fails_230 ?_
                              refine z_isub hx hb dX8_fails_231 ?_
                              refine z_cVR (q0 := 0) (ci := 7) (As := [.int (iZ (st 10 (bb))), .int (iZ ((tt) - (1)))]) (rest := [.int (iZ (st 7 (cm))), .int (iZ (sg (crossZ (st 7 (cm)) (plM st (st 10 (bb)) (tt)) (plM st (ss) (tt)))))]) S (m_X8_placeOf l D g a (st) (st 10 (bb)) ((tt) - (1)) hI (by omega) (by omega)) (cwV 2 hts gX8_fails_X8_placeOf rfl rfl rfl (by decide +kernel) ⟨Nat.le_trans (by decide) hRf, Nat.le_trans (by decide) hRl⟩) hK hP rfl rfl rfl hl.1 rfl (Nat.le_of_ble_eq_true rfl) dX8_fails_232 ⟨Nat.zero_le _, Nat.zero_le _⟩ ?_
                              have f16 := plM_p hI (st 10 (bb)) ((tt) - (1)) (by omega) (by omega)
                              refine lv_aload_n hx hb dX8_fails_235 rfl (lv_at hl 3 rfl) ?_
                              refine lv_iload hx hb dX8_fails_236 (lv_at hl 1 rfl) ?_
                              refine lv_iload_n hx hb dX8_fails_238 rfl (lv_at hl 6 rfl) ?_
                              refine z_iconst hx hb dX8_fails_239 ?_
                              refine z_isub hx hb dX8_fails_240 ?_
                              refine z_cVR (q0 := 0) (ci := 7) (As := [.int (iZ (ss)), .int (iZ ((tt) - (1)))]) (rest := [.int (iZ (plM st (st 10 (bb)) ((tt) - (1)))), .int (iZ (st 7 (cm))), .int (iZ (sg (crossZ (st 7 (cm)) (plM st (st 10 (bb)) (tt)) (plM st (ss) (tt)))))]) S (m_X8_placeOf l D g a (st) (ss) ((tt) - (1)) hI (by omega) (by omega)) (cwV 2 hts gX8_fails_X8_placeOf rfl rfl rfl (by decide +kernel) ⟨Nat.le_trans (by decide) hRf, Nat.le_trans (by decide) hRl⟩) hK hP rfl rfl rfl hl.1 rfl (Nat.le_of_ble_eq_true rfl) dX8_fails_241 ⟨Nat.zero_le _, Nat.zero_le _⟩ ?_
                              have f17 := plM_p hI (ss) ((tt) - (1)) (by omega) (by omega)
                              refine z_cSS (As := [.int (iZ (st 7 (cm))), .int (iZ (plM st (st 10 (bb)) ((tt) - (1)))), .int (iZ (plM st (ss) ((tt) - (1))))]) (rest := [.int (iZ (sg (crossZ (st 7 (cm)) (plM st (st 10 (bb)) (tt)) (plM st (ss) (tt)))))]) S (m_X8_turn l (st 7 (cm)) (plM st (st 10 (bb)) ((tt) - (1))) (plM st (ss) ((tt) - (1))) (by omega) (by omega) (by omega)) (va_cwS 3 hts gX8_fails_X8_turn rfl rfl rfl (by decide +kernel) ⟨Nat.le_trans (by decide) hRf, Nat.le_trans (by decide) hRl⟩) rfl hl.1 rfl (Nat.le_of_ble_eq_true rfl) dX8_fails_244 ⟨Nat.zero_le _, Nat.zero_le _⟩ ?_
                              have f18 := sg_b (crossZ (st 7 (cm)) (plM st (st 10 (bb)) ((tt) - (1))) (plM st (ss) ((tt) - (1))))
                              have g1 := mul_b (x := sg (crossZ (st 7 cm) (plM st (st 10 bb) tt) (plM st ss tt))) (y := sg (crossZ (st 7 cm) (plM st (st 10 bb) (tt - 1)) (plM st ss (tt - 1)))) (A := 1) (B := 1) (by omega) (by omega) (by omega) (by omega)
                              refine z_imul hx hb dX8_fails_247 ?_
                              refine z_if_ge (tgt := 254) hx hb (by omega) dX8_fails_248 (by decide) (fun c19 => ?_) (fun c19 => ?_)
                              · skip
                                have hnc2 : ¬ crossZ (st 7 cm) (plM st (st 10 bb) (tt - 1)) (plM st ss (tt - 1)) * crossZ (st 7 cm) (plM st (st 10 bb) tt) (plM st ss tt) < 0 := fun z => by rw [Int.mul_comm] at z; exact absurd ((sg_mul _ _).mpr z) (by omega)
                                refine z_iinc (lv' := [(5, .int (iZ ((ss) + 1))), (6, .int (iZ (1))), (4, .int (iZ (st 10 (bb)))), (0, .ref (a 0)), (1, .int (iZ (cm))), (2, .int (iZ (bb))), (3, .int (iZ (tt)))]) hx hb dX8_fails_254 hl (k := 1) rfl (by decide) rfl (fun ls hl => ?_)
                                refine lv_goto (tgt := 141) hx hb dX8_fails_257 (by decide) ?_
                                exact ih141 ((ss) + 1) (by omega) (by omega) (fun j a b => by
      by_cases e9 : j = ss
      · subst e9; exact fun z => by first | exact hnb z.1 | exact hnc2 z.2
      · exact l2 j a (by omega))  ls (lv_sub hl [0, 2, 3, 4, 5, 6] rfl)
                              · skip
                                have hlt : crossZ (st 7 cm) (plM st (st 10 bb) (tt - 1)) (plM st ss (tt - 1)) * crossZ (st 7 cm) (plM st (st 10 bb) tt) (plM st ss tt) < 0 := by rw [Int.mul_comm]; exact (sg_mul _ _).mp c19
                                have hyes : st 9 bb = 2 ∧ st 13 bb < tt ∧ CHG (plM st) (st 0 0) (st 10 bb) (st 11 bb) (st 7 cm) tt := ⟨hk2, hk3, ss, by omega, by omega, hyb, hlt⟩
                                refine z_bipush hx hb dX8_fails_251 (by decide +kernel) ?_
                                exact K _ _ _ (by unfold FLm FL; rw [he1, if_neg (by decide), he2, if_neg (by decide), if_neg (by rw [b2_t hsz]; decide), if_pos (b2_t hyes)]) dX8_fails_253
                exact LP141 ((st 0 0 - (0)) + 1 : Int).toNat (0) (by omega) (by omega) (fun j a b => by omega)  ls (lv_sub hl [0, 1, 2, 3, 4, 5] rfl)
              · skip
                have c4 := b2_0 c4
                have hsz := c4
                refine z_bipush hx hb dX8_fails_135 (by decide +kernel) ?_
                exact K _ _ _ (by unfold FLm FL; rw [he1, if_neg (by decide), he2, if_neg (by decide), if_pos (b2_f hsz)]) dX8_fails_137
            · skip
              refine lv_aload_n hx hb dX8_fails_75 rfl (lv_at hl 2 rfl) ?_
              refine z_get (C := RX8) (T := TX8) (N := 26) (ci := 7) hx hb hts iX8 hown hK hP 0 rfl rfl 14 (by decide) (hts (.fieldLink RX8 40 "ShotBoardModel" "must" "[I") (by decide +kernel)) (.ref (a 11)) rfl dX8_fails_76 ?_
              refine lv_iload_n hx hb dX8_fails_79 rfl (lv_at hl 4 rfl) ?_
              refine z_iald hx hb hK hP 11 (st 11) rfl (by omega) (by omega) (by omega) dX8_fails_80 ?_
              refine lv_iload hx hb dX8_fails_81 (lv_at hl 0 rfl) ?_
              refine z_ishr hx hb dX8_fails_83 ?_
              refine z_iconst hx hb dX8_fails_84 ?_
              refine z_iand hx hb dX8_fails_85 ?_
              refine z_as (y := b2 (bt (st 11 bb) rr)) (bit_z (by omega) (by omega) (by omega) (by omega)) ?_
              refine z_iconst hx hb dX8_fails_86 ?_
              refine z_icmp_ne (tgt := 109) hx hb (b2_rg _) (by decide) dX8_fails_87 (by decide) (fun c20 => ?_) (fun c20 => ?_)
              · skip
                have c20 := b2_n1 c20
                have hnb := c20
                refine z_iinc (lv' := [(5, .int (iZ ((rr) + 1))), (4, .int (iZ (st 10 (bb)))), (0, .ref (a 0)), (1, .int (iZ (cm))), (2, .int (iZ (bb))), (3, .int (iZ (tt)))]) hx hb dX8_fails_109 hl (k := 0) rfl (by decide) rfl (fun ls hl => ?_)
                refine lv_goto (tgt := 66) hx hb dX8_fails_112 (by decide) ?_
                exact ih66 ((rr) + 1) (by omega) (by omega) (fun j a b => by
      by_cases e9 : j = rr
      · subst e9; exact fun z => by first | exact hnb z.1 | exact z.2 hyc
      · exact k2 j a (by omega))  ls (lv_sub hl [0, 1, 2, 3, 4, 5] rfl)
              · skip
                have c20 := b2_1 c20
                have hyb := c20
                refine lv_aload_n hx hb dX8_fails_90 rfl (lv_at hl 2 rfl) ?_
                refine lv_iload_n hx hb dX8_fails_91 rfl (lv_at hl 3 rfl) ?_
                refine lv_iload hx hb dX8_fails_92 (lv_at hl 1 rfl) ?_
                refine lv_iload hx hb dX8_fails_94 (lv_at hl 0 rfl) ?_
                refine lv_iload_n hx hb dX8_fails_96 rfl (lv_at hl 5 rfl) ?_
                refine z_cVR (q0 := 0) (ci := 7) (As := [.int (iZ (cm)), .int (iZ (st 10 (bb))), .int (iZ (rr)), .int (iZ (tt))]) (rest := []) S (m_X8_isBefore l D g a (st) (cm) (st 10 (bb)) (rr) (tt) hI (by omega) (by omega) (by omega) (by omega)) (cwV 4 hts gX8_fails_X8_isBefore rfl rfl rfl (by decide +kernel) ⟨Nat.le_trans (by decide) hRf, Nat.le_trans (by decide) hRl⟩) hK hP rfl rfl rfl hl.1 rfl (Nat.le_of_ble_eq_true rfl) dX8_fails_97 ⟨Nat.zero_le _, Nat.zero_le _⟩ ?_
                refine z_if_ne (tgt := 109) hx hb (b2_rg _) dX8_fails_100 (by decide) (fun c21 => ?_) (fun c21 => ?_)
                · skip
                  have c21 := b2_n0 c21
                  have hyc := c21
                  refine z_iinc (lv' := [(5, .int (iZ ((rr) + 1))), (4, .int (iZ (st 10 (bb)))), (0, .ref (a 0)), (1, .int (iZ (cm))), (2, .int (iZ (bb))), (3, .int (iZ (tt)))]) hx hb dX8_fails_109 hl (k := 0) rfl (by decide) rfl (fun ls hl => ?_)
                  refine lv_goto (tgt := 66) hx hb dX8_fails_112 (by decide) ?_
                  exact ih66 ((rr) + 1) (by omega) (by omega) (fun j a b => by
      by_cases e9 : j = rr
      · subst e9; exact fun z => by first | exact hnb z.1 | exact z.2 hyc
      · exact k2 j a (by omega))  ls (lv_sub hl [0, 1, 2, 3, 4, 5] rfl)
                · skip
                  have c21 := b2_0 c21
                  have hnc := c21
                  refine z_bipush hx hb dX8_fails_103 (by decide +kernel) ?_
                  refine lv_iload hx hb dX8_fails_105 (lv_at hl 0 rfl) ?_
                  refine z_iadd hx hb dX8_fails_107 ?_
                  exact K _ _ _ (by unfold FLm FL; rw [he1, if_neg (by decide), fP_is (q := rr) (by omega) (by omega) ⟨hyb, hnc⟩ k2, if_pos (by omega)]) dX8_fails_108
        exact LP66 ((st 0 0 - (0)) + 1 : Int).toNat (0) (by omega) (by omega) (fun j a b => by omega)  ls (lv_sub hl [0, 1, 2, 3, 4, 5] rfl)
      · skip
        refine lv_aload_n hx hb dX8_fails_20 rfl (lv_at hl 2 rfl) ?_
        refine z_get (C := RX8) (T := TX8) (N := 26) (ci := 7) hx hb hts iX8 hown hK hP 0 rfl rfl 14 (by decide) (hts (.fieldLink RX8 40 "ShotBoardModel" "must" "[I") (by decide +kernel)) (.ref (a 11)) rfl dX8_fails_21 ?_
        refine lv_iload_n hx hb dX8_fails_24 rfl (lv_at hl 4 rfl) ?_
        refine z_iald hx hb hK hP 11 (st 11) rfl (by omega) (by omega) (by omega) dX8_fails_25 ?_
        refine lv_iload hx hb dX8_fails_26 (lv_at hl 0 rfl) ?_
        refine z_ishr hx hb dX8_fails_28 ?_
        refine z_iconst hx hb dX8_fails_29 ?_
        refine z_iand hx hb dX8_fails_30 ?_
        refine z_as (y := b2 (bt (st 11 bb) qq)) (bit_z (by omega) (by omega) (by omega) (by omega)) ?_
        refine z_iconst hx hb dX8_fails_31 ?_
        refine z_icmp_ne (tgt := 57) hx hb (b2_rg _) (by decide) dX8_fails_32 (by decide) (fun c22 => ?_) (fun c22 => ?_)
        · skip
          have c22 := b2_n1 c22
          have hnb := c22
          refine z_iinc (lv' := [(5, .int (iZ ((qq) + 1))), (4, .int (iZ (st 10 (bb)))), (0, .ref (a 0)), (1, .int (iZ (cm))), (2, .int (iZ (bb))), (3, .int (iZ (tt)))]) hx hb dX8_fails_57 hl (k := 0) rfl (by decide) rfl (fun ls hl => ?_)
          refine lv_goto (tgt := 11) hx hb dX8_fails_60 (by decide) ?_
          exact ih11 ((qq) + 1) (by omega) (by omega) (fun j a b => by
      by_cases e9 : j = qq
      · subst e9; exact fun z => by first | exact hnb z.1 | exact hnb2 z.2
      · exact j2 j a (by omega))  ls (lv_sub hl [0, 1, 2, 3, 4, 5] rfl)
        · skip
          have c22 := b2_1 c22
          have hyb := c22
          refine lv_aload_n hx hb dX8_fails_35 rfl (lv_at hl 2 rfl) ?_
          refine lv_iload hx hb dX8_fails_36 (lv_at hl 0 rfl) ?_
          refine lv_iload_n hx hb dX8_fails_38 rfl (lv_at hl 5 rfl) ?_
          refine lv_aload_n hx hb dX8_fails_39 rfl (lv_at hl 2 rfl) ?_
          refine z_get (C := RX8) (T := TX8) (N := 26) (ci := 7) hx hb hts iX8 hown hK hP 0 rfl rfl 9 (by decide) (hts (.fieldLink RX8 28 "ShotBoardModel" "eye" "[I") (by decide +kernel)) (.ref (a 7)) rfl dX8_fails_40 ?_
          refine lv_iload_n hx hb dX8_fails_43 rfl (lv_at hl 3 rfl) ?_
          refine z_iald hx hb hK hP 7 (st 7) rfl (by omega) (by omega) (by omega) dX8_fails_44 ?_
          have f23 := hI.c7 (cm) (by omega) (by omega)
          refine z_cVR (q0 := 0) (ci := 7) (As := [.int (iZ (qq)), .int (iZ (tt)), .int (iZ (st 7 (cm)))]) (rest := []) S (m_X8_isHidden l D g a (st) (qq) (tt) (st 7 (cm)) hI (by omega) (by omega) (by omega)) (cwV 3 hts gX8_fails_X8_isHidden rfl rfl rfl (by decide +kernel) ⟨Nat.le_trans (by decide) hRf, Nat.le_trans (by decide) hRl⟩) hK hP rfl rfl rfl hl.1 rfl (Nat.le_of_ble_eq_true rfl) dX8_fails_45 ⟨Nat.zero_le _, Nat.zero_le _⟩ ?_
          refine z_if_eq (tgt := 57) hx hb (b2_rg _) dX8_fails_48 (by decide) (fun c24 => ?_) (fun c24 => ?_)
          · skip
            have c24 := b2_0 c24
            have hnb2 := c24
            refine z_iinc (lv' := [(5, .int (iZ ((qq) + 1))), (4, .int (iZ (st 10 (bb)))), (0, .ref (a 0)), (1, .int (iZ (cm))), (2, .int (iZ (bb))), (3, .int (iZ (tt)))]) hx hb dX8_fails_57 hl (k := 0) rfl (by decide) rfl (fun ls hl => ?_)
            refine lv_goto (tgt := 11) hx hb dX8_fails_60 (by decide) ?_
            exact ih11 ((qq) + 1) (by omega) (by omega) (fun j a b => by
      by_cases e9 : j = qq
      · subst e9; exact fun z => by first | exact hnb z.1 | exact hnb2 z.2
      · exact j2 j a (by omega))  ls (lv_sub hl [0, 1, 2, 3, 4, 5] rfl)
          · skip
            have c24 := b2_n0 c24
            have hyb2 := c24
            refine z_bipush hx hb dX8_fails_51 (by decide +kernel) ?_
            refine lv_iload hx hb dX8_fails_53 (lv_at hl 0 rfl) ?_
            refine z_iadd hx hb dX8_fails_55 ?_
            exact K _ _ _ (by unfold FLm FL; rw [fP_is (q := qq) (by omega) (by omega) ⟨hyb, hyb2⟩ j2, if_pos (by omega)]) dX8_fails_56
  exact LP11 ((st 0 0 - (0)) + 1 : Int).toNat (0) (by omega) (by omega) (fun j a b => by omega)  ls (lv_sub hl [0, 1, 2, 3, 4, 5] rfl)
abbrev rX8_whyNot : Room := { frames := 6, cells := 0, slots := 0, locals := 142 }
set_option maxHeartbeats 4000000 in
set_option maxRecDepth 100000 in
theorem m_X8_whyNot (l : Launch) (D : va_G) (g : Nat → ClassId) (a : Nat → Nat) (st : SS) (cm : Int) (bb : Int) (hI : IM st) (h1 : 0 ≤ cm ∧ cm < 10) (h2 : 0 ≤ bb ∧ bb < st 0 3) : Met l yX8_whyNot wsX8_whyNot rX8_whyNot (PcR D g (WM g a st) [.ref (a 0), .int (iZ (cm)), .int (iZ (bb))]) (QcRead (iZ (WHYm st bb (st 7 cm)))) 0 0 (fun _ => False) := by
  refine metR (cc := cX8_whyNot) (maxL := 5) (ret := (some .int)) (own := RX8) (by decide) rfl rfl (Nat.le_of_ble_eq_true rfl) (Or.inl rfl) ?_
  intro p e R s m args below meth c Q ls S hRf hRl hK hP hl K
  have hx := S.1
  have hb := S.2.1
  have hown := S.2.2.2.1
  have hts := S.2.2.2.2
  have hRf : 6 ≤ R.frames := hRf
  have hRl : 142 ≤ R.locals := hRl
  have hl : lv_has ls 5 [(0, .ref (a 0)), (1, .int (iZ (cm))), (2, .int (iZ (bb)))] := hl
  have iX8 : ∀ w ∈ wsX80, w ∈ wsX8_whyNot := by decide +kernel
  have hB := hI.s
  have hbR := hI.bd bb (by omega) (by omega)
  have hL2 := (hI.bl bb (by omega) (by omega)).2.1
  refine lv_aload_n hx hb dX8_whyNot_0 rfl (lv_at hl 0 rfl) ?_
  refine z_get (C := RX8) (T := TX8) (N := 26) (ci := 7) hx hb hts iX8 hown hK hP 0 rfl rfl 16 (by decide) (hts (.fieldLink RX8 46 "ShotBoardModel" "from" "[I") (by decide +kernel)) (.ref (a 13)) rfl dX8_whyNot_1 ?_
  refine lv_iload_n hx hb dX8_whyNot_4 rfl (lv_at hl 2 rfl) ?_
  refine z_iald hx hb hK hP 13 (st 13) rfl (by omega) (by omega) (by omega) dX8_whyNot_5 ?_
  refine lv_istore_n (lv' := [(3, .int (iZ (st 13 (bb)))), (0, .ref (a 0)), (1, .int (iZ (cm))), (2, .int (iZ (bb)))]) hx hb dX8_whyNot_6 rfl hl (by decide) rfl (fun ls hl => ?_)
  have LP7 : ∀ (n7 : Nat) (tt : Int), (st 14 bb + 1 - tt) < (n7 : Int) → (st 13 bb ≤ tt ∧ tt ≤ st 14 bb + 1) → (WHYm st bb (st 7 cm) = WHY (FLm st bb (st 7 cm)) (st 14 bb + 1 - tt).toNat tt) → ∀ (ls : Array Slot), lv_has ls 5 [(3, .int (iZ (tt))), (0, .ref (a 0)), (1, .int (iZ (cm))), (2, .int (iZ (bb)))] → W p l e R s m args below meth c s.heap [] 0 0 Q (F0 m 7 ls []) := by
    intro n7
    induction n7 with
    | zero =>
      intro tt hm7 j1 j3  ls hl
      exact absurd hm7 (by omega)
    | succ n7 ih7 =>
      intro tt hm7 j1 j3  ls hl
      refine lv_iload_n hx hb dX8_whyNot_7 rfl (lv_at hl 0 rfl) ?_
      refine lv_aload_n hx hb dX8_whyNot_8 rfl (lv_at hl 1 rfl) ?_
      refine z_get (C := RX8) (T := TX8) (N := 26) (ci := 7) hx hb hts iX8 hown hK hP 0 rfl rfl 17 (by decide) (hts (.fieldLink RX8 49 "ShotBoardModel" "to" "[I") (by decide +kernel)) (.ref (a 14)) rfl dX8_whyNot_9 ?_
      refine lv_iload_n hx hb dX8_whyNot_12 rfl (lv_at hl 3 rfl) ?_
      refine z_iald hx hb hK hP 14 (st 14) rfl (by omega) (by omega) (by omega) dX8_whyNot_13 ?_
      refine z_icmp_gt (tgt := 45) hx hb (by omega) (by omega) dX8_whyNot_14 (by decide) (fun c1 => ?_) (fun c1 => ?_)
      · skip
        refine z_iconst hx hb dX8_whyNot_45 ?_
        exact K _ _ _ (by rw [j3, show (st 14 bb + 1 - tt).toNat = 0 by omega]; rfl) dX8_whyNot_46
      · skip
        refine lv_aload_n hx hb dX8_whyNot_17 rfl (lv_at hl 1 rfl) ?_
        refine lv_iload_n hx hb dX8_whyNot_18 rfl (lv_at hl 2 rfl) ?_
        refine lv_iload_n hx hb dX8_whyNot_19 rfl (lv_at hl 3 rfl) ?_
        refine lv_iload_n hx hb dX8_whyNot_20 rfl (lv_at hl 0 rfl) ?_
        refine z_cVR (q0 := 0) (ci := 7) (As := [.int (iZ (cm)), .int (iZ (bb)), .int (iZ (tt))]) (rest := []) S (m_X8_fails l D g a (st) (cm) (bb) (tt) hI (by omega) (by omega) (by omega)) (cwV 3 hts gX8_whyNot_X8_fails rfl rfl rfl (by decide +kernel) ⟨Nat.le_trans (by decide) hRf, Nat.le_trans (by decide) hRl⟩) hK hP rfl rfl rfl hl.1 rfl (Nat.le_of_ble_eq_true rfl) dX8_whyNot_21 ⟨Nat.zero_le _, Nat.zero_le _⟩ ?_
        have f21 : 0 ≤ FLm st bb (st 7 cm) tt ∧ FLm st bb (st 7 cm) tt ≤ 40 := FL_b _ _ _ _ _ _ _ _ _ _ _ _ (by omega)
        refine lv_istore (lv' := [(4, .int (iZ (FLm st (bb) (st 7 (cm)) (tt)))), (3, .int (iZ (tt))), (0, .ref (a 0)), (1, .int (iZ (cm))), (2, .int (iZ (bb)))]) hx hb dX8_whyNot_24 hl (by decide) rfl (fun ls hl => ?_)
        refine lv_iload hx hb dX8_whyNot_26 (lv_at hl 0 rfl) ?_
        refine z_if_eq (tgt := 39) hx hb (by omega) dX8_whyNot_28 (by decide) (fun c2 => ?_) (fun c2 => ?_)
        · skip
          have hz := c2
          refine z_iinc (lv' := [(3, .int (iZ ((tt) + 1))), (4, .int (iZ (FLm st (bb) (st 7 (cm)) (tt)))), (0, .ref (a 0)), (1, .int (iZ (cm))), (2, .int (iZ (bb)))]) hx hb dX8_whyNot_39 hl (k := 1) rfl (by decide) rfl (fun ls hl => ?_)
          refine lv_goto (tgt := 7) hx hb dX8_whyNot_42 (by decide) ?_
          exact ih7 ((tt) + 1) (by omega) (by omega) (by rw [j3, show (st 14 bb + 1 - tt).toNat = (st 14 bb + 1 - (tt + 1)).toNat + 1 by omega, WHY_0 hz])  ls (lv_sub hl [0, 2, 3, 4] rfl)
        · skip
          have hnz := c2
          refine z_bipush hx hb dX8_whyNot_31 (by decide +kernel) ?_
          refine lv_iload_n hx hb dX8_whyNot_33 rfl (lv_at hl 1 rfl) ?_
          refine z_imul hx hb dX8_whyNot_34 ?_
          refine lv_iload hx hb dX8_whyNot_35 (lv_at hl 0 rfl) ?_
          refine z_iadd hx hb dX8_whyNot_37 ?_
          exact K _ _ _ (by rw [j3, show (st 14 bb + 1 - tt).toNat = (st 14 bb + 1 - (tt + 1)).toNat + 1 by omega, WHY_n hnz]) dX8_whyNot_38
  exact LP7 ((st 14 bb + 1 - (st 13 (bb))) + 1 : Int).toNat (st 13 (bb)) (by omega) (by omega) (by unfold WHYm; rw [show st 14 bb - st 13 bb + 1 = st 14 bb + 1 - st 13 bb by omega])  ls (lv_sub hl [0, 1, 2, 3] rfl)
