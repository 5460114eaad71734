abbrev rX6_placeOf : Room := { frames := 0, cells := 0, slots := 0, locals := 0 }
set_option maxHeartbeats 4000000 in
set_option maxRecDepth 100000 in
theorem m_X6_placeOf (l : Launch) (D : va_G) (g : Nat → ClassId) (a : Nat → Nat) (st : SS) (pp : Int) (tt : Int) (hI : IC st) (h1 : 0 ≤ pp ∧ pp < 6) (h2 : 0 ≤ tt ∧ tt < 60) : Met l yX6_placeOf wsX6_placeOf rX6_placeOf (PcR D g (WC g a st) [.ref (a 1), .int (iZ (pp)), .int (iZ (tt))]) (QcRead (iZ (st 0 (pp * 60 + tt)))) 0 0 (fun _ => False) := by
  refine metR (cc := cX6_placeOf) (maxL := 3) (ret := (some .int)) (own := RX6) (by decide) rfl rfl (Nat.le_of_ble_eq_true rfl) (Or.inl rfl) ?_
  intro p e R s m args below meth c Q ls S hRf hRl hK hP hl K
  have hx := S.1
  have hb := S.2.1
  have hown := S.2.2.2.1
  have hts := S.2.2.2.2
  have hRf : 0 ≤ R.frames := hRf
  have hRl : 0 ≤ R.locals := hRl
  have hl : lv_has ls 3 [(0, .ref (a 1)), (1, .int (iZ (pp))), (2, .int (iZ (tt)))] := hl
  have iX6 : ∀ w ∈ wsX60, w ∈ wsX6_placeOf := by decide +kernel
  refine lv_aload_n hx hb dX6_placeOf_0 rfl (lv_at hl 0 rfl) ?_
  refine z_get (C := RX6) (T := TX6) (N := 6) (ci := 5) hx hb hts iX6 hown hK hP 1 rfl rfl 0 (by decide) (hts (.fieldLink RX6 9 "ShotBoard$Stage" "placeAt" "[I") (by decide +kernel)) (.ref (a 7)) rfl dX6_placeOf_1 ?_
  refine lv_iload_n hx hb dX6_placeOf_4 rfl (lv_at hl 1 rfl) ?_
  refine z_bipush hx hb dX6_placeOf_5 (by decide +kernel) ?_
  refine z_imul hx hb dX6_placeOf_7 ?_
  refine lv_iload_n hx hb dX6_placeOf_8 rfl (lv_at hl 2 rfl) ?_
  refine z_iadd hx hb dX6_placeOf_9 ?_
  refine z_iald hx hb hK hP 7 (st 0) rfl (by omega) (by omega) (by omega) dX6_placeOf_10 ?_
  have f1 := hI.c0 (((pp) * (60)) + (tt)) (by omega) (by omega)
  exact K _ _ _ (rfl) dX6_placeOf_11
abbrev rX6_hasStep : Room := { frames := 0, cells := 0, slots := 0, locals := 0 }
set_option maxHeartbeats 4000000 in
set_option maxRecDepth 100000 in
theorem m_X6_hasStep (l : Launch) (D : va_G) (g : Nat → ClassId) (a : Nat → Nat) (st : SS) (pp : Int) (tt : Int) (h0 : ∀ p, 0 ≤ p → p < 6 → 0 ≤ st 20 p ∧ st 20 p < 1152921504606846976) (h1 : 0 ≤ pp ∧ pp < 6) (h2 : 0 ≤ tt ∧ tt < 60) : Met l yX6_hasStep wsX6_hasStep rX6_hasStep (PcR D g (WC g a st) [.ref (a 1), .int (iZ (pp)), .int (iZ (tt))]) (QcRead (iZ (b2 (bt (st 20 pp) tt)))) 0 0 (fun _ => False) := by
  refine metR (cc := cX6_hasStep) (maxL := 3) (ret := (some .boolean)) (own := RX6) (by decide) rfl rfl (Nat.le_of_ble_eq_true rfl) (Or.inr ⟨rfl, b2_01 _⟩) ?_
  intro p e R s m args below meth c Q ls S hRf hRl hK hP hl K
  have hx := S.1
  have hb := S.2.1
  have hown := S.2.2.2.1
  have hts := S.2.2.2.2
  have hRf : 0 ≤ R.frames := hRf
  have hRl : 0 ≤ R.locals := hRl
  have hl : lv_has ls 3 [(0, .ref (a 1)), (1, .int (iZ (pp))), (2, .int (iZ (tt)))] := hl
  have iX6 : ∀ w ∈ wsX60, w ∈ wsX6_hasStep := by decide +kernel
  refine lv_aload_n hx hb dX6_hasStep_0 rfl (lv_at hl 0 rfl) ?_
  refine z_get (C := RX6) (T := TX6) (N := 6) (ci := 5) hx hb hts iX6 hown hK hP 1 rfl rfl 1 (by decide) (hts (.fieldLink RX6 15 "ShotBoard$Stage" "stepTicks" "[J") (by decide +kernel)) (.ref (a 8)) rfl dX6_hasStep_1 ?_
  refine lv_iload_n hx hb dX6_hasStep_4 rfl (lv_at hl 1 rfl) ?_
  refine z_lald hx hb hK hP 8 (st 20) rfl (by omega) (by omega) (by omega) dX6_hasStep_5 ?_
  refine lv_iload_n hx hb dX6_hasStep_6 rfl (lv_at hl 2 rfl) ?_
  refine z_lshr hx hb dX6_hasStep_7 ?_
  refine z_lconst hx hb 1 dX6_hasStep_8 (by decide +kernel) ?_
  refine z_land hx hb dX6_hasStep_9 ?_
  refine z_lconst hx hb 0 dX6_hasStep_10 (by decide +kernel) ?_
  refine z_lcmp hx hb dX6_hasStep_11 ?_
  refine z_as (y := b2 (bt (st 20 pp) tt)) (step_z (h0 pp (by omega) (by omega)).1 (h0 pp (by omega) (by omega)).2 (by omega) (by omega)) ?_
  refine z_if_eq (tgt := 19) hx hb (b2_rg _) dX6_hasStep_12 (by decide) (fun c1 => ?_) (fun c1 => ?_)
  · skip
    have c1 := b2_0 c1
    refine z_iconst hx hb dX6_hasStep_19 ?_
    exact K _ _ _ (by first | exact b2_pos ‹_› rfl | exact b2_neg ‹_› rfl) dX6_hasStep_20
  · skip
    have c1 := b2_n0 c1
    refine z_iconst hx hb dX6_hasStep_15 ?_
    refine lv_goto (tgt := 20) hx hb dX6_hasStep_16 (by decide) ?_
    exact K _ _ _ (by first | exact b2_pos ‹_› rfl | exact b2_neg ‹_› rfl) dX6_hasStep_20
abbrev rX6_someoneStepsAt : Room := { frames := 1, cells := 0, slots := 0, locals := 22 }
set_option maxHeartbeats 4000000 in
set_option maxRecDepth 100000 in
theorem m_X6_someoneStepsAt (l : Launch) (D : va_G) (g : Nat → ClassId) (a : Nat → Nat) (st : SS) (tt : Int) (hI : IC st) (h2 : 0 ≤ tt ∧ tt < 60) : Met l yX6_someoneStepsAt wsX6_someoneStepsAt rX6_someoneStepsAt (PcR D g (WC g a st) [.ref (a 1), .int (iZ (tt))]) (QcRead (iZ (b2 (∃ p, 0 ≤ p ∧ p < st 19 0 ∧ bt (st 20 p) tt)))) 0 0 (fun _ => False) := by
  refine metR (cc := cX6_someoneStepsAt) (maxL := 3) (ret := (some .boolean)) (own := RX6) (by decide) rfl rfl (Nat.le_of_ble_eq_true rfl) (Or.inr ⟨rfl, b2_01 _⟩) ?_
  intro p e R s m args below meth c Q ls S hRf hRl hK hP hl K
  have hx := S.1
  have hb := S.2.1
  have hown := S.2.2.2.1
  have hts := S.2.2.2.2
  have hRf : 1 ≤ R.frames := hRf
  have hRl : 22 ≤ R.locals := hRl
  have hl : lv_has ls 3 [(0, .ref (a 1)), (1, .int (iZ (tt)))] := hl
  have iX6 : ∀ w ∈ wsX60, w ∈ wsX6_someoneStepsAt := by decide +kernel
  have hB := hI.s
  refine z_iconst hx hb dX6_someoneStepsAt_0 ?_
  refine lv_istore_n (lv' := [(2, .int (iZ (0))), (0, .ref (a 1)), (1, .int (iZ (tt)))]) hx hb dX6_someoneStepsAt_1 rfl hl (by decide) rfl (fun ls hl => ?_)
  have LP2 : ∀ (n2 : Nat) (qq : Int), (st 19 0 - qq) < (n2 : Int) → (0 ≤ qq ∧ qq ≤ st 19 0) → (∀ j, 0 ≤ j → j < qq → ¬ bt (st 20 j) tt) → ∀ (ls : Array Slot), lv_has ls 3 [(2, .int (iZ (qq))), (0, .ref (a 1)), (1, .int (iZ (tt)))] → W p l e R s m args below meth c s.heap [] 0 0 Q (F0 m 2 ls []) := by
    intro n2
    induction n2 with
    | zero =>
      intro qq hm2 j1 j2  ls hl
      exact absurd hm2 (by omega)
    | succ n2 ih2 =>
      intro qq hm2 j1 j2  ls hl
      refine lv_iload_n hx hb dX6_someoneStepsAt_2 rfl (lv_at hl 0 rfl) ?_
      refine lv_aload_n hx hb dX6_someoneStepsAt_3 rfl (lv_at hl 1 rfl) ?_
      refine z_get (C := RX6) (T := TX6) (N := 6) (ci := 5) hx hb hts iX6 hown hK hP 1 rfl rfl 4 (by decide) (hts (.fieldLink RX6 25 "ShotBoard$Stage" "persons" "I") (by decide +kernel)) (.int (iZ (st 19 (0)))) rfl dX6_someoneStepsAt_4 ?_
      refine z_icmp_ge (tgt := 27) hx hb (by omega) (by omega) dX6_someoneStepsAt_7 (by decide) (fun c1 => ?_) (fun c1 => ?_)
      · skip
        refine z_iconst hx hb dX6_someoneStepsAt_27 ?_
        exact K _ _ _ (b2_neg (fun ⟨q, a, b, d⟩ => j2 q a (by omega) d) rfl) dX6_someoneStepsAt_28
      · skip
        refine lv_aload_n hx hb dX6_someoneStepsAt_10 rfl (lv_at hl 1 rfl) ?_
        refine lv_iload_n hx hb dX6_someoneStepsAt_11 rfl (lv_at hl 0 rfl) ?_
        refine lv_iload_n hx hb dX6_someoneStepsAt_12 rfl (lv_at hl 2 rfl) ?_
        refine z_cVR (q0 := 1) (ci := 5) (As := [.int (iZ (qq)), .int (iZ (tt))]) (rest := []) S (m_X6_hasStep l D g a (st) (qq) (tt) hI.c20 (by omega) (by omega)) (cwV 2 hts gX6_someoneStepsAt_X6_hasStep rfl rfl rfl (by decide +kernel) ⟨Nat.le_trans (by decide) hRf, Nat.le_trans (by decide) hRl⟩) hK hP rfl rfl rfl hl.1 rfl (Nat.le_of_ble_eq_true rfl) dX6_someoneStepsAt_13 ⟨Nat.zero_le _, Nat.zero_le _⟩ ?_
        refine z_if_eq (tgt := 21) hx hb (b2_rg _) dX6_someoneStepsAt_16 (by decide) (fun c2 => ?_) (fun c2 => ?_)
        · skip
          have c2 := b2_0 c2
          have hnb := c2
          refine z_iinc (lv' := [(2, .int (iZ ((qq) + 1))), (0, .ref (a 1)), (1, .int (iZ (tt)))]) hx hb dX6_someoneStepsAt_21 hl (k := 0) rfl (by decide) rfl (fun ls hl => ?_)
          refine lv_goto (tgt := 2) hx hb dX6_someoneStepsAt_24 (by decide) ?_
          exact ih2 ((qq) + 1) (by omega) (by omega) (fun j a b => by
      by_cases e9 : j = qq
      · subst e9; exact hnb
      · exact j2 j a (by omega))  ls (lv_sub hl [0, 1, 2] rfl)
        · skip
          have c2 := b2_n0 c2
          have hyb := c2
          refine z_iconst hx hb dX6_someoneStepsAt_19 ?_
          exact K _ _ _ (b2_pos ⟨qq, by omega, by omega, hyb⟩ rfl) dX6_someoneStepsAt_20
  exact LP2 ((st 19 0 - (0)) + 1 : Int).toNat (0) (by omega) (by omega) (fun j a b => by omega)  ls (lv_sub hl [0, 1, 2] rfl)
abbrev rX6_hides : Room := { frames := 2, cells := 0, slots := 0, locals := 49 }
set_option maxHeartbeats 4000000 in
set_option maxRecDepth 100000 in
theorem m_X6_hides (l : Launch) (D : va_G) (g : Nat → ClassId) (a : Nat → Nat) (st : SS) (pp : Int) (tt : Int) (ff : Int) (hI : IC st) (h1 : 0 ≤ pp ∧ pp < st 19 0) (h2 : 0 ≤ tt ∧ tt < 60) (h3 : plc ff) : Met l yX6_hides wsX6_hides rX6_hides (PcR D g (WC g a st) [.ref (a 1), .int (iZ (pp)), .int (iZ (tt)), .int (iZ (ff))]) (QcRead (iZ (b2 (HID (fun q t => st 0 (q * 60 + t)) (st 19 0) (st 19 1) (st 1) (st 2) pp tt ff)))) 0 0 (fun _ => False) := by
  refine metR (cc := cX6_hides) (maxL := 6) (ret := (some .boolean)) (own := RX6) (by decide) rfl rfl (Nat.le_of_ble_eq_true rfl) (Or.inr ⟨rfl, b2_01 _⟩) ?_
  intro p e R s m args below meth c Q ls S hRf hRl hK hP hl K
  have hx := S.1
  have hb := S.2.1
  have hown := S.2.2.2.1
  have hts := S.2.2.2.2
  have hRf : 2 ≤ R.frames := hRf
  have hRl : 49 ≤ R.locals := hRl
  have hl : lv_has ls 6 [(0, .ref (a 1)), (1, .int (iZ (pp))), (2, .int (iZ (tt))), (3, .int (iZ (ff)))] := hl
  have iX6 : ∀ w ∈ wsX60, w ∈ wsX6_hides := by decide +kernel
  have hB := hI.s
  refine lv_aload_n hx hb dX6_hides_0 rfl (lv_at hl 0 rfl) ?_
  refine lv_iload_n hx hb dX6_hides_1 rfl (lv_at hl 1 rfl) ?_
  refine lv_iload_n hx hb dX6_hides_2 rfl (lv_at hl 2 rfl) ?_
  refine z_cVR (q0 := 1) (ci := 5) (As := [.int (iZ (pp)), .int (iZ (tt))]) (rest := []) S (m_X6_placeOf l D g a (st) (pp) (tt) hI (by omega) (by omega)) (cwV 2 hts gX6_hides_X6_placeOf rfl rfl rfl (by decide +kernel) ⟨Nat.le_trans (by decide) hRf, Nat.le_trans (by decide) hRl⟩) hK hP rfl rfl rfl hl.1 rfl (Nat.le_of_ble_eq_true rfl) dX6_hides_3 ⟨Nat.zero_le _, Nat.zero_le _⟩ ?_
  have f1 := hI.c0 ((pp) * 60 + (tt)) (by omega) (by omega)
  refine lv_istore (lv' := [(4, .int (iZ (st 0 ((pp) * 60 + (tt))))), (0, .ref (a 1)), (1, .int (iZ (pp))), (2, .int (iZ (tt))), (3, .int (iZ (ff)))]) hx hb dX6_hides_6 hl (by decide) rfl (fun ls hl => ?_)
  refine lv_iload_n hx hb dX6_hides_8 rfl (lv_at hl 4 rfl) ?_
  refine lv_iload hx hb dX6_hides_9 (lv_at hl 0 rfl) ?_
  refine z_icmp_ne (tgt := 16) hx hb (by omega) (by omega) dX6_hides_11 (by decide) (fun c2 => ?_) (fun c2 => ?_)
  · skip
    have hne := c2
    refine z_iconst hx hb dX6_hides_16 ?_
    refine lv_istore (lv' := [(5, .int (iZ (0))), (4, .int (iZ (st 0 ((pp) * 60 + (tt))))), (0, .ref (a 1)), (1, .int (iZ (pp))), (2, .int (iZ (tt))), (3, .int (iZ (ff)))]) hx hb dX6_hides_17 hl (by decide) rfl (fun ls hl => ?_)
    have LP19 : ∀ (n19 : Nat) (ww : Int), (st 19 1 - ww) < (n19 : Int) → (0 ≤ ww ∧ ww ≤ st 19 1) → (∀ j, 0 ≤ j → j < ww → ¬ meetC ff (st 0 (pp * 60 + tt)) (st 1 j) (st 2 j)) → ∀ (ls : Array Slot), lv_has ls 6 [(5, .int (iZ (ww))), (4, .int (iZ (st 0 ((pp) * 60 + (tt))))), (0, .ref (a 1)), (1, .int (iZ (pp))), (2, .int (iZ (tt))), (3, .int (iZ (ff)))] → W p l e R s m args below meth c s.heap [] 0 0 Q (F0 m 19 ls []) := by
      intro n19
      induction n19 with
      | zero =>
        intro ww hm19 j1 j2  ls hl
        exact absurd hm19 (by omega)
      | succ n19 ih19 =>
        intro ww hm19 j1 j2  ls hl
        refine lv_iload hx hb dX6_hides_19 (lv_at hl 0 rfl) ?_
        refine lv_aload_n hx hb dX6_hides_21 rfl (lv_at hl 2 rfl) ?_
        refine z_get (C := RX6) (T := TX6) (N := 6) (ci := 5) hx hb hts iX6 hown hK hP 1 rfl rfl 5 (by decide) (hts (.fieldLink RX6 43 "ShotBoard$Stage" "walls" "I") (by decide +kernel)) (.int (iZ (st 19 (1)))) rfl dX6_hides_22 ?_
        refine z_icmp_ge (tgt := 59) hx hb (by omega) (by omega) dX6_hides_25 (by decide) (fun c3 => ?_) (fun c3 => ?_)
        · skip
          have hend := c3
          refine z_iconst hx hb dX6_hides_59 ?_
          refine lv_istore (lv' := [(5, .int (iZ (0))), (4, .int (iZ (st 0 ((pp) * 60 + (tt))))), (0, .ref (a 1)), (1, .int (iZ (pp))), (2, .int (iZ (tt))), (3, .int (iZ (ff)))]) hx hb dX6_hides_60 hl (by decide) rfl (fun ls hl => ?_)
          have LP62 : ∀ (n62 : Nat) (qq : Int), (st 19 0 - qq) < (n62 : Int) → (0 ≤ qq ∧ qq ≤ st 19 0) → (∀ j, 0 ≤ j → j < qq → ¬ betw (st 0 (j * 60 + tt)) ff (st 0 (pp * 60 + tt))) → ∀ (ls : Array Slot), lv_has ls 6 [(5, .int (iZ (qq))), (4, .int (iZ (st 0 ((pp) * 60 + (tt))))), (0, .ref (a 1)), (1, .int (iZ (pp))), (2, .int (iZ (tt))), (3, .int (iZ (ff)))] → W p l e R s m args below meth c s.heap [] 0 0 Q (F0 m 62 ls []) := by
            intro n62
            induction n62 with
            | zero =>
              intro qq hm62 k1 k2  ls hl
              exact absurd hm62 (by omega)
            | succ n62 ih62 =>
              intro qq hm62 k1 k2  ls hl
              refine lv_iload hx hb dX6_hides_62 (lv_at hl 0 rfl) ?_
              refine lv_aload_n hx hb dX6_hides_64 rfl (lv_at hl 2 rfl) ?_
              refine z_get (C := RX6) (T := TX6) (N := 6) (ci := 5) hx hb hts iX6 hown hK hP 1 rfl rfl 4 (by decide) (hts (.fieldLink RX6 25 "ShotBoard$Stage" "persons" "I") (by decide +kernel)) (.int (iZ (st 19 (0)))) rfl dX6_hides_65 ?_
              refine z_icmp_ge (tgt := 95) hx hb (by omega) (by omega) dX6_hides_68 (by decide) (fun c4 => ?_) (fun c4 => ?_)
              · skip
                have hend2 := c4
                refine z_iconst hx hb dX6_hides_95 ?_
                exact K _ _ _ (b2_neg (fun z => by
      rcases z with z | ⟨w, a, b, d⟩ | ⟨q, a, b, d⟩
      · exact hne z.symm
      · exact j2 w a (by omega) d
      · exact k2 q a (by omega) d) rfl) dX6_hides_96
              · skip
                refine lv_aload_n hx hb dX6_hides_71 rfl (lv_at hl 2 rfl) ?_
                refine lv_iload hx hb dX6_hides_72 (lv_at hl 0 rfl) ?_
                refine lv_iload_n hx hb dX6_hides_74 rfl (lv_at hl 4 rfl) ?_
                refine z_cVR (q0 := 1) (ci := 5) (As := [.int (iZ (qq)), .int (iZ (tt))]) (rest := []) S (m_X6_placeOf l D g a (st) (qq) (tt) hI (by omega) (by omega)) (cwV 2 hts gX6_hides_X6_placeOf rfl rfl rfl (by decide +kernel) ⟨Nat.le_trans (by decide) hRf, Nat.le_trans (by decide) hRl⟩) hK hP rfl rfl rfl hl.1 rfl (Nat.le_of_ble_eq_true rfl) dX6_hides_75 ⟨Nat.zero_le _, Nat.zero_le _⟩ ?_
                have f5 := hI.c0 ((qq) * 60 + (tt)) (by omega) (by omega)
                refine lv_iload_n hx hb dX6_hides_78 rfl (lv_at hl 5 rfl) ?_
                refine lv_iload hx hb dX6_hides_79 (lv_at hl 1 rfl) ?_
                refine z_cSS (As := [.int (iZ (st 0 ((qq) * 60 + (tt)))), .int (iZ (ff)), .int (iZ (st 0 ((pp) * 60 + (tt))))]) (rest := []) S (m_X2_isBetween l (st 0 ((qq) * 60 + (tt))) (ff) (st 0 ((pp) * 60 + (tt))) (by omega) (by omega) (by omega)) (va_cwS 3 hts gX6_hides_X2_isBetween rfl rfl rfl (by decide +kernel) ⟨Nat.le_trans (by decide) hRf, Nat.le_trans (by decide) hRl⟩) rfl hl.1 rfl (Nat.le_of_ble_eq_true rfl) dX6_hides_81 ⟨Nat.zero_le _, Nat.zero_le _⟩ ?_
                refine z_if_eq (tgt := 89) hx hb (b2_rg _) dX6_hides_84 (by decide) (fun c6 => ?_) (fun c6 => ?_)
                · skip
                  have c6 := b2_0 c6
                  have hnb := c6
                  refine z_iinc (lv' := [(5, .int (iZ ((qq) + 1))), (4, .int (iZ (st 0 ((pp) * 60 + (tt))))), (0, .ref (a 1)), (1, .int (iZ (pp))), (2, .int (iZ (tt))), (3, .int (iZ (ff)))]) hx hb dX6_hides_89 hl (k := 0) rfl (by decide) rfl (fun ls hl => ?_)
                  refine lv_goto (tgt := 62) hx hb dX6_hides_92 (by decide) ?_
                  exact ih62 ((qq) + 1) (by omega) (by omega) (fun j a b => by
      by_cases e9 : j = qq
      · subst e9; exact hnb
      · exact k2 j a (by omega))  ls (lv_sub hl [0, 1, 2, 3, 4, 5] rfl)
                · skip
                  have c6 := b2_n0 c6
                  have hyb := c6
                  refine z_iconst hx hb dX6_hides_87 ?_
                  exact K _ _ _ (b2_pos (Or.inr (Or.inr ⟨qq, by omega, by omega, hyb⟩)) rfl) dX6_hides_88
          exact LP62 ((st 19 0 - (0)) + 1 : Int).toNat (0) (by omega) (by omega) (fun j a b => by omega)  ls (lv_sub hl [0, 1, 2, 3, 4, 5] rfl)
        · skip
          refine lv_iload_n hx hb dX6_hides_28 rfl (lv_at hl 5 rfl) ?_
          refine lv_iload hx hb dX6_hides_29 (lv_at hl 1 rfl) ?_
          refine lv_aload_n hx hb dX6_hides_31 rfl (lv_at hl 2 rfl) ?_
          refine z_get (C := RX6) (T := TX6) (N := 6) (ci := 5) hx hb hts iX6 hown hK hP 1 rfl rfl 2 (by decide) (hts (.fieldLink RX6 19 "ShotBoard$Stage" "wallFrom" "[I") (by decide +kernel)) (.ref (a 9)) rfl dX6_hides_32 ?_
          refine lv_iload hx hb dX6_hides_35 (lv_at hl 0 rfl) ?_
          refine z_iald hx hb hK hP 9 (st 1) rfl (by omega) (by omega) (by omega) dX6_hides_37 ?_
          have f7 := hI.c1 (ww) (by omega) (by omega)
          refine lv_aload_n hx hb dX6_hides_38 rfl (lv_at hl 2 rfl) ?_
          refine z_get (C := RX6) (T := TX6) (N := 6) (ci := 5) hx hb hts iX6 hown hK hP 1 rfl rfl 3 (by decide) (hts (.fieldLink RX6 22 "ShotBoard$Stage" "wallTo" "[I") (by decide +kernel)) (.ref (a 10)) rfl dX6_hides_39 ?_
          refine lv_iload hx hb dX6_hides_42 (lv_at hl 0 rfl) ?_
          refine z_iald hx hb hK hP 10 (st 2) rfl (by omega) (by omega) (by omega) dX6_hides_44 ?_
          have f8 := hI.c2 (ww) (by omega) (by omega)
          refine z_cSS (As := [.int (iZ (ff)), .int (iZ (st 0 ((pp) * 60 + (tt)))), .int (iZ (st 1 (ww))), .int (iZ (st 2 (ww)))]) (rest := []) S (m_X2_meet l (ff) (st 0 ((pp) * 60 + (tt))) (st 1 (ww)) (st 2 (ww)) (by omega) (by omega) (by omega) (by omega)) (va_cwS 4 hts gX6_hides_X2_meet rfl rfl rfl (by decide +kernel) ⟨Nat.le_trans (by decide) hRf, Nat.le_trans (by decide) hRl⟩) rfl hl.1 rfl (Nat.le_of_ble_eq_true rfl) dX6_hides_45 ⟨Nat.zero_le _, Nat.zero_le _⟩ ?_
          refine z_if_eq (tgt := 53) hx hb (b2_rg _) dX6_hides_48 (by decide) (fun c9 => ?_) (fun c9 => ?_)
          · skip
            have c9 := b2_0 c9
            have hnb := c9
            refine z_iinc (lv' := [(5, .int (iZ ((ww) + 1))), (4, .int (iZ (st 0 ((pp) * 60 + (tt))))), (0, .ref (a 1)), (1, .int (iZ (pp))), (2, .int (iZ (tt))), (3, .int (iZ (ff)))]) hx hb dX6_hides_53 hl (k := 0) rfl (by decide) rfl (fun ls hl => ?_)
            refine lv_goto (tgt := 19) hx hb dX6_hides_56 (by decide) ?_
            exact ih19 ((ww) + 1) (by omega) (by omega) (fun j a b => by
      by_cases e9 : j = ww
      · subst e9; exact hnb
      · exact j2 j a (by omega))  ls (lv_sub hl [0, 1, 2, 3, 4, 5] rfl)
          · skip
            have c9 := b2_n0 c9
            have hyb := c9
            refine z_iconst hx hb dX6_hides_51 ?_
            exact K _ _ _ (b2_pos (Or.inr (Or.inl ⟨ww, by omega, by omega, hyb⟩)) rfl) dX6_hides_52
    exact LP19 ((st 19 1 - (0)) + 1 : Int).toNat (0) (by omega) (by omega) (fun j a b => by omega)  ls (lv_sub hl [0, 1, 2, 3, 4, 5] rfl)
  · skip
    have heq := c2
    refine z_iconst hx hb dX6_hides_14 ?_
    exact K _ _ _ (b2_pos (Or.inl heq.symm) rfl) dX6_hides_15
