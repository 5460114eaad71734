abbrev rX3_sideAfter : Room := { frames := 0, cells := 0, slots := 0, locals := 0 }
set_option maxHeartbeats 4000000 in
set_option maxRecDepth 100000 in
theorem m_X3_sideAfter (l : Launch) (D : va_G) (g : Nat → ClassId) (a : Nat → Nat) (st : SS) (bb : Int) (la : Int) (cm : Int) (hI : IC st) (hQ : IP st) (h1 : 0 ≤ bb ∧ bb < st 19 3) (h2 : -1 ≤ la ∧ la ≤ 1) (h3 : 0 ≤ cm ∧ cm < 10) : Met l yX3_sideAfter wsX3_sideAfter rX3_sideAfter (PcR D g (WC g a st) [.ref (a 5), .int (iZ (bb)), .int (iZ (la)), .int (iZ (cm))]) (QcRead (iZ (sAf st bb la cm))) 0 0 (fun _ => False) := by
  refine metR (cc := cX3_sideAfter) (maxL := 4) (ret := (some .int)) (own := RX3) (by decide) rfl rfl (Nat.le_of_ble_eq_true rfl) (Or.inl rfl) ?_
  intro p e R s m args below meth c Q ls S hRf hRl hK hP hl K
  have hx := S.1
  have hb := S.2.1
  have hown := S.2.2.2.1
  have hts := S.2.2.2.2
  have hRf : 0 ≤ R.frames := hRf
  have hRl : 0 ≤ R.locals := hRl
  have hl : lv_has ls 4 [(0, .ref (a 5)), (1, .int (iZ (bb))), (2, .int (iZ (la))), (3, .int (iZ (cm)))] := hl
  have iX0 : ∀ w ∈ wsX00, w ∈ wsX3_sideAfter := by decide +kernel
  have iX3 : ∀ w ∈ wsX30, w ∈ wsX3_sideAfter := by decide +kernel
  have iX5 : ∀ w ∈ wsX50, w ∈ wsX3_sideAfter := by decide +kernel
  have hB := hI.s
  have hC := hQ.s
  have hbR := hI.bd bb (by omega) (by omega)
  refine lv_aload_n hx hb dX3_sideAfter_0 rfl (lv_at hl 0 rfl) ?_
  refine z_get (C := RX3) (T := TX3) (N := 11) (ci := 2) hx hb hts iX3 hown hK hP 5 rfl rfl 2 (by decide) (hts (.fieldLink RX3 36 "ShotBoard$Planner" "script" "LShotBoard$Script;") (by decide +kernel)) (.ref (a 3)) rfl dX3_sideAfter_1 ?_
  refine z_get (C := RX5) (T := TX5) (N := 3) (ci := 4) hx hb hts iX5 hown hK hP 3 rfl rfl 0 (by decide) (hts (.fieldLink RX3 50 "ShotBoard$Script" "rows" "[LShotBoard$Board;") (by decide +kernel)) (.ref (a 13)) rfl dX3_sideAfter_4 ?_
  refine lv_iload_n hx hb dX3_sideAfter_7 rfl (lv_at hl 1 rfl) ?_
  refine z_aald hx hb hK hP (by omega) (by omega) dX3_sideAfter_8 ?_
  refine z_get (C := RX0) (T := TX0) (N := 8) (ci := 0) hx hb hts iX0 hown hK hP (19 + (bb).toNat) (WC_bd g a _ (by omega) (by omega)) rfl 0 (by decide) (hts (.fieldLink RX3 68 "ShotBoard$Board" "kind" "I") (by decide +kernel)) (.int (iZ (st 11 (bb)))) rfl dX3_sideAfter_9 ?_
  refine z_iconst hx hb dX3_sideAfter_12 ?_
  refine z_icmp_ne (tgt := 30) hx hb (by omega) (by decide) dX3_sideAfter_13 (by decide) (fun c1 => ?_) (fun c1 => ?_)
  · skip
    have hk := c1
    refine lv_iload_n hx hb dX3_sideAfter_30 rfl (lv_at hl 2 rfl) ?_
    exact K _ _ _ ((if_neg hk).symm) dX3_sideAfter_31
  · skip
    have hk := c1
    refine lv_aload_n hx hb dX3_sideAfter_16 rfl (lv_at hl 0 rfl) ?_
    refine z_get (C := RX3) (T := TX3) (N := 11) (ci := 2) hx hb hts iX3 hown hK hP 5 rfl rfl 4 (by decide) (hts (.fieldLink RX3 15 "ShotBoard$Planner" "sides" "[I") (by decide +kernel)) (.ref (a 15)) rfl dX3_sideAfter_17 ?_
    refine lv_iload_n hx hb dX3_sideAfter_20 rfl (lv_at hl 1 rfl) ?_
    refine z_bipush hx hb dX3_sideAfter_21 (by decide +kernel) ?_
    refine z_imul hx hb dX3_sideAfter_23 ?_
    refine lv_iload_n hx hb dX3_sideAfter_24 rfl (lv_at hl 3 rfl) ?_
    refine z_iadd hx hb dX3_sideAfter_25 ?_
    refine z_iald hx hb hK hP 15 (st 7) rfl (by omega) (by omega) (by omega) dX3_sideAfter_26 ?_
    have f2 := hQ.c7 (((bb) * (10)) + (cm)) (by omega) (by omega)
    refine lv_goto (tgt := 31) hx hb dX3_sideAfter_27 (by decide) ?_
    exact K _ _ _ ((if_pos hk).symm) dX3_sideAfter_31
abbrev rX3_fits : Room := { frames := 1, cells := 0, slots := 0, locals := 23 }
set_option maxHeartbeats 4000000 in
set_option maxRecDepth 100000 in
theorem m_X3_fits (l : Launch) (D : va_G) (g : Nat → ClassId) (a : Nat → Nat) (st : SS) (bb : Int) (la : Int) (cm : Int) (hI : IC st) (hQ : IP st) (h1 : 0 ≤ bb ∧ bb < st 19 3) (h2 : -1 ≤ la ∧ la ≤ 1) (h3 : 0 ≤ cm ∧ cm < 10) : Met l yX3_fits wsX3_fits rX3_fits (PcR D g (WC g a st) [.ref (a 5), .int (iZ (bb)), .int (iZ (la)), .int (iZ (cm))]) (QcRead (iZ (b2 (FIT st bb la cm)))) 0 0 (fun _ => False) := by
  refine metR (cc := cX3_fits) (maxL := 6) (ret := (some .boolean)) (own := RX3) (by decide) rfl rfl (Nat.le_of_ble_eq_true rfl) (Or.inr ⟨rfl, b2_01 _⟩) ?_
  intro p e R s m args below meth c Q ls S hRf hRl hK hP hl K
  have hx := S.1
  have hb := S.2.1
  have hown := S.2.2.2.1
  have hts := S.2.2.2.2
  have hRf : 1 ≤ R.frames := hRf
  have hRl : 23 ≤ R.locals := hRl
  have hl : lv_has ls 6 [(0, .ref (a 5)), (1, .int (iZ (bb))), (2, .int (iZ (la))), (3, .int (iZ (cm)))] := hl
  have iX0 : ∀ w ∈ wsX00, w ∈ wsX3_fits := by decide +kernel
  have iX3 : ∀ w ∈ wsX30, w ∈ wsX3_fits := by decide +kernel
  have iX5 : ∀ w ∈ wsX50, w ∈ wsX3_fits := by decide +kernel
  have hB := hI.s
  have hC := hQ.s
  have hbR := hI.bd bb (by omega) (by omega)
  have hm := mul_b (x := la) (y := st 7 (bb * 10 + cm)) (A := 1) (B := 1) (by omega) (by omega) (by have := hQ.c7 (bb * 10 + cm) (by omega) (by omega); omega) (by have := hQ.c7 (bb * 10 + cm) (by omega) (by omega); omega)
  refine lv_aload_n hx hb dX3_fits_0 rfl (lv_at hl 0 rfl) ?_
  refine z_get (C := RX3) (T := TX3) (N := 11) (ci := 2) hx hb hts iX3 hown hK hP 5 rfl rfl 4 (by decide) (hts (.fieldLink RX3 15 "ShotBoard$Planner" "sides" "[I") (by decide +kernel)) (.ref (a 15)) rfl dX3_fits_1 ?_
  refine lv_iload_n hx hb dX3_fits_4 rfl (lv_at hl 1 rfl) ?_
  refine z_bipush hx hb dX3_fits_5 (by decide +kernel) ?_
  refine z_imul hx hb dX3_fits_7 ?_
  refine lv_iload_n hx hb dX3_fits_8 rfl (lv_at hl 3 rfl) ?_
  refine z_iadd hx hb dX3_fits_9 ?_
  refine z_iald hx hb hK hP 15 (st 7) rfl (by omega) (by omega) (by omega) dX3_fits_10 ?_
  have f1 := hQ.c7 (((bb) * (10)) + (cm)) (by omega) (by omega)
  refine lv_istore (lv' := [(4, .int (iZ (st 7 (((bb) * (10)) + (cm))))), (0, .ref (a 5)), (1, .int (iZ (bb))), (2, .int (iZ (la))), (3, .int (iZ (cm)))]) hx hb dX3_fits_11 hl (by decide) rfl (fun ls hl => ?_)
  refine lv_aload_n hx hb dX3_fits_13 rfl (lv_at hl 1 rfl) ?_
  refine z_get (C := RX3) (T := TX3) (N := 11) (ci := 2) hx hb hts iX3 hown hK hP 5 rfl rfl 2 (by decide) (hts (.fieldLink RX3 36 "ShotBoard$Planner" "script" "LShotBoard$Script;") (by decide +kernel)) (.ref (a 3)) rfl dX3_fits_14 ?_
  refine z_get (C := RX5) (T := TX5) (N := 3) (ci := 4) hx hb hts iX5 hown hK hP 3 rfl rfl 0 (by decide) (hts (.fieldLink RX3 50 "ShotBoard$Script" "rows" "[LShotBoard$Board;") (by decide +kernel)) (.ref (a 13)) rfl dX3_fits_17 ?_
  refine lv_iload_n hx hb dX3_fits_20 rfl (lv_at hl 2 rfl) ?_
  refine z_aald hx hb hK hP (by omega) (by omega) dX3_fits_21 ?_
  refine z_get (C := RX0) (T := TX0) (N := 8) (ci := 0) hx hb hts iX0 hown hK hP (19 + (bb).toNat) (WC_bd g a _ (by omega) (by omega)) rfl 7 (by decide) (hts (.fieldLink RX3 110 "ShotBoard$Board" "cutsOnPair" "Z") (by decide +kernel)) (.int (iZ (st 18 (bb)))) rfl dX3_fits_22 ?_
  refine z_if_eq (tgt := 39) hx hb (by omega) dX3_fits_25 (by decide) (fun c2 => ?_) (fun c2 => ?_)
  · skip
    have hcr := c2
    refine z_iconst hx hb dX3_fits_39 ?_
    refine lv_istore (lv' := [(5, .int (iZ (0))), (4, .int (iZ (st 7 (((bb) * (10)) + (cm))))), (0, .ref (a 5)), (1, .int (iZ (bb))), (2, .int (iZ (la))), (3, .int (iZ (cm)))]) hx hb dX3_fits_40 hl (by decide) rfl (fun ls hl => ?_)
    refine lv_iload hx hb dX3_fits_42 (lv_at hl 0 rfl) ?_
    refine z_if_ne (tgt := 74) hx hb (by decide) dX3_fits_44 (by decide) (fun c3 => ?_) (fun c3 => ?_)
    · skip
      exact absurd c3 (by decide)
    · skip
      refine lv_aload_n hx hb dX3_fits_47 rfl (lv_at hl 2 rfl) ?_
      refine z_get (C := RX3) (T := TX3) (N := 11) (ci := 2) hx hb hts iX3 hown hK hP 5 rfl rfl 5 (by decide) (hts (.fieldLink RX3 18 "ShotBoard$Planner" "canGoOn" "[Z") (by decide +kernel)) (.ref (a 16)) rfl dX3_fits_48 ?_
      refine lv_iload_n hx hb dX3_fits_51 rfl (lv_at hl 3 rfl) ?_
      refine z_iconst hx hb dX3_fits_52 ?_
      refine z_iadd hx hb dX3_fits_53 ?_
      refine z_iconst hx hb dX3_fits_54 ?_
      refine z_imul hx hb dX3_fits_55 ?_
      refine z_iconst hx hb dX3_fits_56 ?_
      refine z_iadd hx hb dX3_fits_57 ?_
      refine lv_aload_n hx hb dX3_fits_58 rfl (lv_at hl 2 rfl) ?_
      refine lv_iload_n hx hb dX3_fits_59 rfl (lv_at hl 3 rfl) ?_
      refine lv_iload_n hx hb dX3_fits_60 rfl (lv_at hl 4 rfl) ?_
      refine lv_iload_n hx hb dX3_fits_61 rfl (lv_at hl 5 rfl) ?_
      refine z_cVR (q0 := 5) (ci := 2) (As := [.int (iZ (bb)), .int (iZ (la)), .int (iZ (cm))]) (rest := [.int (iZ ((((bb) + (1)) * (3)) + (1))), .ref (a 16)]) S (m_X3_sideAfter l D g a (st) (bb) (la) (cm) hI hQ (by omega) (by omega) (by omega)) (cwV 3 hts gX3_fits_X3_sideAfter rfl rfl rfl (by decide +kernel) ⟨Nat.le_trans (by decide) hRf, Nat.le_trans (by decide) hRl⟩) hK hP rfl rfl rfl hl.1 rfl (Nat.le_of_ble_eq_true rfl) dX3_fits_62 ⟨Nat.zero_le _, Nat.zero_le _⟩ ?_
      have f4 := sAf_b hQ (b := (bb)) (la := (la)) (c := (cm)) (by omega) (by omega) (by omega)
      refine z_iadd hx hb dX3_fits_65 ?_
      refine z_zald hx hb hK hP 16 (st 8) rfl (by omega) (by omega) (by omega) dX3_fits_66 ?_
      have f5 := hQ.c8 (((((bb) + (1)) * (3)) + (1)) + (sAf st (bb) (la) (cm))) (by omega) (by omega)
      refine z_if_eq (tgt := 74) hx hb (by omega) dX3_fits_67 (by decide) (fun c6 => ?_) (fun c6 => ?_)
      · skip
        have hgo := c6
        refine z_iconst hx hb dX3_fits_74 ?_
        exact K _ _ _ (by first | exact b2_pos ⟨fun z => by omega, by omega⟩ rfl | exact b2_neg (fun z => z.1 ⟨by omega, by omega⟩) rfl | exact b2_neg (fun z => absurd z.2 (by omega)) rfl) dX3_fits_75
      · skip
        have hgo := c6
        refine z_iconst hx hb dX3_fits_70 ?_
        refine lv_goto (tgt := 75) hx hb dX3_fits_71 (by decide) ?_
        exact K _ _ _ (by first | exact b2_pos ⟨fun z => by omega, by omega⟩ rfl | exact b2_neg (fun z => z.1 ⟨by omega, by omega⟩) rfl | exact b2_neg (fun z => absurd z.2 (by omega)) rfl) dX3_fits_75
  · skip
    have hcr := c2
    refine lv_iload_n hx hb dX3_fits_28 rfl (lv_at hl 3 rfl) ?_
    refine lv_iload hx hb dX3_fits_29 (lv_at hl 0 rfl) ?_
    refine z_imul hx hb dX3_fits_31 ?_
    refine z_if_ge (tgt := 39) hx hb (by omega) dX3_fits_32 (by decide) (fun c7 => ?_) (fun c7 => ?_)
    · skip
      have hpr := c7
      refine z_iconst hx hb dX3_fits_39 ?_
      refine lv_istore (lv' := [(5, .int (iZ (0))), (4, .int (iZ (st 7 (((bb) * (10)) + (cm))))), (0, .ref (a 5)), (1, .int (iZ (bb))), (2, .int (iZ (la))), (3, .int (iZ (cm)))]) hx hb dX3_fits_40 hl (by decide) rfl (fun ls hl => ?_)
      refine lv_iload hx hb dX3_fits_42 (lv_at hl 0 rfl) ?_
      refine z_if_ne (tgt := 74) hx hb (by decide) dX3_fits_44 (by decide) (fun c8 => ?_) (fun c8 => ?_)
      · skip
        exact absurd c8 (by decide)
      · skip
        refine lv_aload_n hx hb dX3_fits_47 rfl (lv_at hl 2 rfl) ?_
        refine z_get (C := RX3) (T := TX3) (N := 11) (ci := 2) hx hb hts iX3 hown hK hP 5 rfl rfl 5 (by decide) (hts (.fieldLink RX3 18 "ShotBoard$Planner" "canGoOn" "[Z") (by decide +kernel)) (.ref (a 16)) rfl dX3_fits_48 ?_
        refine lv_iload_n hx hb dX3_fits_51 rfl (lv_at hl 3 rfl) ?_
        refine z_iconst hx hb dX3_fits_52 ?_
        refine z_iadd hx hb dX3_fits_53 ?_
        refine z_iconst hx hb dX3_fits_54 ?_
        refine z_imul hx hb dX3_fits_55 ?_
        refine z_iconst hx hb dX3_fits_56 ?_
        refine z_iadd hx hb dX3_fits_57 ?_
        refine lv_aload_n hx hb dX3_fits_58 rfl (lv_at hl 2 rfl) ?_
        refine lv_iload_n hx hb dX3_fits_59 rfl (lv_at hl 3 rfl) ?_
        refine lv_iload_n hx hb dX3_fits_60 rfl (lv_at hl 4 rfl) ?_
        refine lv_iload_n hx hb dX3_fits_61 rfl (lv_at hl 5 rfl) ?_
        refine z_cVR (q0 := 5) (ci := 2) (As := [.int (iZ (bb)), .int (iZ (la)), .int (iZ (cm))]) (rest := [.int (iZ ((((bb) + (1)) * (3)) + (1))), .ref (a 16)]) S (m_X3_sideAfter l D g a (st) (bb) (la) (cm) hI hQ (by omega) (by omega) (by omega)) (cwV 3 hts gX3_fits_X3_sideAfter rfl rfl rfl (by decide +kernel) ⟨Nat.le_trans (by decide) hRf, Nat.le_trans (by decide) hRl⟩) hK hP rfl rfl rfl hl.1 rfl (Nat.le_of_ble_eq_true rfl) dX3_fits_62 ⟨Nat.zero_le _, Nat.zero_le _⟩ ?_
        have f9 := sAf_b hQ (b := (bb)) (la := (la)) (c := (cm)) (by omega) (by omega) (by omega)
        refine z_iadd hx hb dX3_fits_65 ?_
        refine z_zald hx hb hK hP 16 (st 8) rfl (by omega) (by omega) (by omega) dX3_fits_66 ?_
        have f10 := hQ.c8 (((((bb) + (1)) * (3)) + (1)) + (sAf st (bb) (la) (cm))) (by omega) (by omega)
        refine z_if_eq (tgt := 74) hx hb (by omega) dX3_fits_67 (by decide) (fun c11 => ?_) (fun c11 => ?_)
        · skip
          have hgo := c11
          refine z_iconst hx hb dX3_fits_74 ?_
          exact K _ _ _ (by first | exact b2_pos ⟨fun z => by omega, by omega⟩ rfl | exact b2_neg (fun z => z.1 ⟨by omega, by omega⟩) rfl | exact b2_neg (fun z => absurd z.2 (by omega)) rfl) dX3_fits_75
        · skip
          have hgo := c11
          refine z_iconst hx hb dX3_fits_70 ?_
          refine lv_goto (tgt := 75) hx hb dX3_fits_71 (by decide) ?_
          exact K _ _ _ (by first | exact b2_pos ⟨fun z => by omega, by omega⟩ rfl | exact b2_neg (fun z => z.1 ⟨by omega, by omega⟩) rfl | exact b2_neg (fun z => absurd z.2 (by omega)) rfl) dX3_fits_75
    · skip
      have hpr := c7
      refine z_iconst hx hb dX3_fits_35 ?_
      refine lv_goto (tgt := 40) hx hb dX3_fits_36 (by decide) ?_
      refine lv_istore (lv' := [(5, .int (iZ (1))), (4, .int (iZ (st 7 (((bb) * (10)) + (cm))))), (0, .ref (a 5)), (1, .int (iZ (bb))), (2, .int (iZ (la))), (3, .int (iZ (cm)))]) hx hb dX3_fits_40 hl (by decide) rfl (fun ls hl => ?_)
      refine lv_iload hx hb dX3_fits_42 (lv_at hl 0 rfl) ?_
      refine z_if_ne (tgt := 74) hx hb (by decide) dX3_fits_44 (by decide) (fun c12 => ?_) (fun c12 => ?_)
      · skip
        refine z_iconst hx hb dX3_fits_74 ?_
        exact K _ _ _ (by first | exact b2_pos ⟨fun z => by omega, by omega⟩ rfl | exact b2_neg (fun z => z.1 ⟨by omega, by omega⟩) rfl | exact b2_neg (fun z => absurd z.2 (by omega)) rfl) dX3_fits_75
      · skip
        exact absurd c12 (by decide)
abbrev rX3_firstFor : Room := { frames := 2, cells := 0, slots := 0, locals := 48 }
set_option maxHeartbeats 4000000 in
set_option maxRecDepth 100000 in
theorem m_X3_firstFor (l : Launch) (D : va_G) (g : Nat → ClassId) (a : Nat → Nat) (st : SS) (bb : Int) (la : Int) (se : Int) (hI : IC st) (hQ : IP st) (h1 : 0 ≤ bb ∧ bb < st 19 3) (h2 : -1 ≤ la ∧ la ≤ 1) (h3 : 0 ≤ se ∧ se < 1024) : Met l yX3_firstFor wsX3_firstFor rX3_firstFor (PcR D g (WC g a st) [.ref (a 5), .int (iZ (bb)), .int (iZ (la)), .int (iZ (se))]) (QcRead (iZ (fP (fun c => (bt se c ∧ bt (st 6 bb) c) ∧ FIT st bb la c) (st 19 2).toNat 0))) 0 0 (fun _ => False) := by
  refine metR (cc := cX3_firstFor) (maxL := 5) (ret := (some .int)) (own := RX3) (by decide) rfl rfl (Nat.le_of_ble_eq_true rfl) (Or.inl rfl) ?_
  intro p e R s m args below meth c Q ls S hRf hRl hK hP hl K
  have hx := S.1
  have hb := S.2.1
  have hown := S.2.2.2.1
  have hts := S.2.2.2.2
  have hRf : 2 ≤ R.frames := hRf
  have hRl : 48 ≤ R.locals := hRl
  have hl : lv_has ls 5 [(0, .ref (a 5)), (1, .int (iZ (bb))), (2, .int (iZ (la))), (3, .int (iZ (se)))] := hl
  have iX3 : ∀ w ∈ wsX30, w ∈ wsX3_firstFor := by decide +kernel
  have iX4 : ∀ w ∈ wsX40, w ∈ wsX3_firstFor := by decide +kernel
  have hB := hI.s
  have hC := hQ.s
  have hbR := hI.bd bb (by omega) (by omega)
  have hg := hQ.c6 bb (by omega) (by omega)
  refine z_iconst hx hb dX3_firstFor_0 ?_
  refine lv_istore (lv' := [(4, .int (iZ (0))), (0, .ref (a 5)), (1, .int (iZ (bb))), (2, .int (iZ (la))), (3, .int (iZ (se)))]) hx hb dX3_firstFor_1 hl (by decide) rfl (fun ls hl => ?_)
  have LP3 : ∀ (n3 : Nat) (cm : Int), (st 19 2 - cm) < (n3 : Int) → (0 ≤ cm ∧ cm ≤ st 19 2) → (∀ j, 0 ≤ j → j < cm → ¬ ((bt se j ∧ bt (st 6 bb) j) ∧ FIT st bb la j)) → ∀ (ls : Array Slot), lv_has ls 5 [(4, .int (iZ (cm))), (0, .ref (a 5)), (1, .int (iZ (bb))), (2, .int (iZ (la))), (3, .int (iZ (se)))] → W p l e R s m args below meth c s.heap [] 0 0 Q (F0 m 3 ls []) := by
    intro n3
    induction n3 with
    | zero =>
      intro cm hm3 j1 j2  ls hl
      exact absurd hm3 (by omega)
    | succ n3 ih3 =>
      intro cm hm3 j1 j2  ls hl
      refine lv_iload hx hb dX3_firstFor_3 (lv_at hl 0 rfl) ?_
      refine lv_aload_n hx hb dX3_firstFor_5 rfl (lv_at hl 1 rfl) ?_
      refine z_get (C := RX3) (T := TX3) (N := 11) (ci := 2) hx hb hts iX3 hown hK hP 5 rfl rfl 1 (by decide) (hts (.fieldLink RX3 32 "ShotBoard$Planner" "rig" "LShotBoard$Rig;") (by decide +kernel)) (.ref (a 2)) rfl dX3_firstFor_6 ?_
      refine z_get (C := RX4) (T := TX4) (N := 3) (ci := 3) hx hb hts iX4 hown hK hP 2 rfl rfl 2 (by decide) (hts (.fieldLink RX3 54 "ShotBoard$Rig" "cameras" "I") (by decide +kernel)) (.int (iZ (st 19 (2)))) rfl dX3_firstFor_9 ?_
      refine z_icmp_ge (tgt := 51) hx hb (by omega) (by omega) dX3_firstFor_12 (by decide) (fun c1 => ?_) (fun c1 => ?_)
      · skip
        refine z_iconst hx hb dX3_firstFor_51 ?_
        exact K _ _ _ ((fP_no (fun j a b => j2 j a (by omega))).symm) dX3_firstFor_52
      · skip
        refine lv_iload_n hx hb dX3_firstFor_15 rfl (lv_at hl 4 rfl) ?_
        refine lv_aload_n hx hb dX3_firstFor_16 rfl (lv_at hl 1 rfl) ?_
        refine z_get (C := RX3) (T := TX3) (N := 11) (ci := 2) hx hb hts iX3 hown hK hP 5 rfl rfl 3 (by decide) (hts (.fieldLink RX3 9 "ShotBoard$Planner" "givers" "[I") (by decide +kernel)) (.ref (a 14)) rfl dX3_firstFor_17 ?_
        refine lv_iload_n hx hb dX3_firstFor_20 rfl (lv_at hl 2 rfl) ?_
        refine z_iald hx hb hK hP 14 (st 6) rfl (by omega) (by omega) (by omega) dX3_firstFor_21 ?_
        have f2 := hQ.c6 (bb) (by omega) (by omega)
        refine z_iand hx hb dX3_firstFor_22 ?_
        refine z_iconst hx hb dX3_firstFor_23 ?_
        refine lv_iload hx hb dX3_firstFor_24 (lv_at hl 0 rfl) ?_
        refine z_ishl hx hb dX3_firstFor_26 ?_
        have hzr := zand_rg (zand se (st 6 bb)) (zshl 1 cm)
        refine z_iand hx hb dX3_firstFor_27 ?_
        refine z_if_eq (tgt := 45) hx hb (by omega) dX3_firstFor_28 (by decide) (fun c3 => ?_) (fun c3 => ?_)
        · skip
          have hnb := (and3_z (by omega) (by omega) (by omega) (by omega) (by omega) (by omega)).mp c3
          refine z_iinc (lv' := [(4, .int (iZ ((cm) + 1))), (0, .ref (a 5)), (1, .int (iZ (bb))), (2, .int (iZ (la))), (3, .int (iZ (se)))]) hx hb dX3_firstFor_45 hl (k := 0) rfl (by decide) rfl (fun ls hl => ?_)
          refine lv_goto (tgt := 3) hx hb dX3_firstFor_48 (by decide) ?_
          exact ih3 ((cm) + 1) (by omega) (by omega) (fun j a b => by
      by_cases e9 : j = cm
      · subst e9; exact fun z => by first | exact hnb z.1 | exact hnb2 z.2
      · exact j2 j a (by omega))  ls (lv_sub hl [0, 1, 2, 3, 4] rfl)
        · skip
          have hyb : bt se cm ∧ bt (st 6 bb) cm := Classical.byContradiction (fun z => c3 ((and3_z (by omega) (by omega) (by omega) (by omega) (by omega) (by omega)).mpr z))
          refine lv_aload_n hx hb dX3_firstFor_31 rfl (lv_at hl 1 rfl) ?_
          refine lv_iload_n hx hb dX3_firstFor_32 rfl (lv_at hl 2 rfl) ?_
          refine lv_iload_n hx hb dX3_firstFor_33 rfl (lv_at hl 3 rfl) ?_
          refine lv_iload hx hb dX3_firstFor_34 (lv_at hl 0 rfl) ?_
          refine z_cVR (q0 := 5) (ci := 2) (As := [.int (iZ (bb)), .int (iZ (la)), .int (iZ (cm))]) (rest := []) S (m_X3_fits l D g a (st) (bb) (la) (cm) hI hQ (by omega) (by omega) (by omega)) (cwV 3 hts gX3_firstFor_X3_fits rfl rfl rfl (by decide +kernel) ⟨Nat.le_trans (by decide) hRf, Nat.le_trans (by decide) hRl⟩) hK hP rfl rfl rfl hl.1 rfl (Nat.le_of_ble_eq_true rfl) dX3_firstFor_36 ⟨Nat.zero_le _, Nat.zero_le _⟩ ?_
          refine z_if_eq (tgt := 45) hx hb (b2_rg _) dX3_firstFor_39 (by decide) (fun c4 => ?_) (fun c4 => ?_)
          · skip
            have c4 := b2_0 c4
            have hnb2 := c4
            refine z_iinc (lv' := [(4, .int (iZ ((cm) + 1))), (0, .ref (a 5)), (1, .int (iZ (bb))), (2, .int (iZ (la))), (3, .int (iZ (se)))]) hx hb dX3_firstFor_45 hl (k := 0) rfl (by decide) rfl (fun ls hl => ?_)
            refine lv_goto (tgt := 3) hx hb dX3_firstFor_48 (by decide) ?_
            exact ih3 ((cm) + 1) (by omega) (by omega) (fun j a b => by
      by_cases e9 : j = cm
      · subst e9; exact fun z => by first | exact hnb z.1 | exact hnb2 z.2
      · exact j2 j a (by omega))  ls (lv_sub hl [0, 1, 2, 3, 4] rfl)
          · skip
            have c4 := b2_n0 c4
            have hyb2 := c4
            refine lv_iload hx hb dX3_firstFor_42 (lv_at hl 0 rfl) ?_
            exact K _ _ _ ((fP_is (by omega) (by omega) ⟨hyb, hyb2⟩ j2).symm) dX3_firstFor_44
  exact LP3 ((st 19 2 - (0)) + 1 : Int).toNat (0) (by omega) (by omega) (fun j a b => by omega)  ls (lv_sub hl [0, 1, 2, 3, 4] rfl)
abbrev rX3_leastOf : Room := { frames := 0, cells := 0, slots := 0, locals := 0 }
set_option maxHeartbeats 4000000 in
set_option maxRecDepth 100000 in
theorem m_X3_leastOf (l : Launch) (D : va_G) (g : Nat → ClassId) (a : Nat → Nat) (st : SS) (se : Int) (li : Int) (hI : IC st) (h1 : 0 ≤ se ∧ se < 1024) (h2 : -1 ≤ li ∧ li < 4) : Met l yX3_leastOf wsX3_leastOf rX3_leastOf (PcR D g (WC g a st) [.ref (a 5), .int (iZ (se)), .int (iZ (li))]) (QcRead (iZ (fP (fun c => bt se c ∧ (li < 0 ∨ st 4 c = li)) (st 19 2).toNat 0))) 0 0 (fun _ => False) := by
  refine metR (cc := cX3_leastOf) (maxL := 4) (ret := (some .int)) (own := RX3) (by decide) rfl rfl (Nat.le_of_ble_eq_true rfl) (Or.inl rfl) ?_
  intro p e R s m args below meth c Q ls S hRf hRl hK hP hl K
  have hx := S.1
  have hb := S.2.1
  have hown := S.2.2.2.1
  have hts := S.2.2.2.2
  have hRf : 0 ≤ R.frames := hRf
  have hRl : 0 ≤ R.locals := hRl
  have hl : lv_has ls 4 [(0, .ref (a 5)), (1, .int (iZ (se))), (2, .int (iZ (li)))] := hl
  have iX3 : ∀ w ∈ wsX30, w ∈ wsX3_leastOf := by decide +kernel
  have iX4 : ∀ w ∈ wsX40, w ∈ wsX3_leastOf := by decide +kernel
  have hB := hI.s
  refine z_iconst hx hb dX3_leastOf_0 ?_
  refine lv_istore_n (lv' := [(3, .int (iZ (0))), (0, .ref (a 5)), (1, .int (iZ (se))), (2, .int (iZ (li)))]) hx hb dX3_leastOf_1 rfl hl (by decide) rfl (fun ls hl => ?_)
  have LP2 : ∀ (n2 : Nat) (cm : Int), (st 19 2 - cm) < (n2 : Int) → (0 ≤ cm ∧ cm ≤ st 19 2) → (∀ j, 0 ≤ j → j < cm → ¬ (bt se j ∧ (li < 0 ∨ st 4 j = li))) → ∀ (ls : Array Slot), lv_has ls 4 [(3, .int (iZ (cm))), (0, .ref (a 5)), (1, .int (iZ (se))), (2, .int (iZ (li)))] → W p l e R s m args below meth c s.heap [] 0 0 Q (F0 m 2 ls []) := by
    intro n2
    induction n2 with
    | zero =>
      intro cm hm2 j1 j2  ls hl
      exact absurd hm2 (by omega)
    | succ n2 ih2 =>
      intro cm hm2 j1 j2  ls hl
      refine lv_iload_n hx hb dX3_leastOf_2 rfl (lv_at hl 0 rfl) ?_
      refine lv_aload_n hx hb dX3_leastOf_3 rfl (lv_at hl 1 rfl) ?_
      refine z_get (C := RX3) (T := TX3) (N := 11) (ci := 2) hx hb hts iX3 hown hK hP 5 rfl rfl 1 (by decide) (hts (.fieldLink RX3 32 "ShotBoard$Planner" "rig" "LShotBoard$Rig;") (by decide +kernel)) (.ref (a 2)) rfl dX3_leastOf_4 ?_
      refine z_get (C := RX4) (T := TX4) (N := 3) (ci := 3) hx hb hts iX4 hown hK hP 2 rfl rfl 2 (by decide) (hts (.fieldLink RX3 54 "ShotBoard$Rig" "cameras" "I") (by decide +kernel)) (.int (iZ (st 19 (2)))) rfl dX3_leastOf_7 ?_
      refine z_icmp_ge (tgt := 46) hx hb (by omega) (by omega) dX3_leastOf_10 (by decide) (fun c1 => ?_) (fun c1 => ?_)
      · skip
        refine z_iconst hx hb dX3_leastOf_46 ?_
        exact K _ _ _ ((fP_no (fun j a b => j2 j a (by omega))).symm) dX3_leastOf_47
      · skip
        refine lv_iload_n hx hb dX3_leastOf_13 rfl (lv_at hl 2 rfl) ?_
        refine lv_iload_n hx hb dX3_leastOf_14 rfl (lv_at hl 0 rfl) ?_
        refine z_ishr hx hb dX3_leastOf_15 ?_
        refine z_iconst hx hb dX3_leastOf_16 ?_
        refine z_iand hx hb dX3_leastOf_17 ?_
        refine z_as (y := b2 (bt se cm)) (bit_z (by omega) (by omega) (by omega) (by omega)) ?_
        refine z_if_eq (tgt := 40) hx hb (b2_rg _) dX3_leastOf_18 (by decide) (fun c2 => ?_) (fun c2 => ?_)
        · skip
          have c2 := b2_0 c2
          have hnb := c2
          refine z_iinc (lv' := [(3, .int (iZ ((cm) + 1))), (0, .ref (a 5)), (1, .int (iZ (se))), (2, .int (iZ (li)))]) hx hb dX3_leastOf_40 hl (k := 0) rfl (by decide) rfl (fun ls hl => ?_)
          refine lv_goto (tgt := 2) hx hb dX3_leastOf_43 (by decide) ?_
          exact ih2 ((cm) + 1) (by omega) (by omega) (fun j a b => by
      by_cases e9 : j = cm
      · subst e9; exact fun z => by first | exact hnb z.1 | exact absurd z.2 (by omega)
      · exact j2 j a (by omega))  ls (lv_sub hl [0, 1, 2, 3] rfl)
        · skip
          have c2 := b2_n0 c2
          have hyb := c2
          refine lv_iload_n hx hb dX3_leastOf_21 rfl (lv_at hl 3 rfl) ?_
          refine z_if_lt (tgt := 38) hx hb (by omega) dX3_leastOf_22 (by decide) (fun c3 => ?_) (fun c3 => ?_)
          · skip
            refine lv_iload_n hx hb dX3_leastOf_38 rfl (lv_at hl 0 rfl) ?_
            exact K _ _ _ ((fP_is (by omega) (by omega) ⟨hyb, by omega⟩ j2).symm) dX3_leastOf_39
          · skip
            refine lv_aload_n hx hb dX3_leastOf_25 rfl (lv_at hl 1 rfl) ?_
            refine z_get (C := RX3) (T := TX3) (N := 11) (ci := 2) hx hb hts iX3 hown hK hP 5 rfl rfl 1 (by decide) (hts (.fieldLink RX3 32 "ShotBoard$Planner" "rig" "LShotBoard$Rig;") (by decide +kernel)) (.ref (a 2)) rfl dX3_leastOf_26 ?_
            refine z_get (C := RX4) (T := TX4) (N := 3) (ci := 3) hx hb hts iX4 hown hK hP 2 rfl rfl 1 (by decide) (hts (.fieldLink RX3 125 "ShotBoard$Rig" "lights" "[I") (by decide +kernel)) (.ref (a 12)) rfl dX3_leastOf_29 ?_
            refine lv_iload_n hx hb dX3_leastOf_32 rfl (lv_at hl 0 rfl) ?_
            refine z_iald hx hb hK hP 12 (st 4) rfl (by omega) (by omega) (by omega) dX3_leastOf_33 ?_
            have f4 := hI.c4 (cm) (by omega) (by omega)
            refine lv_iload_n hx hb dX3_leastOf_34 rfl (lv_at hl 3 rfl) ?_
            refine z_icmp_ne (tgt := 40) hx hb (by omega) (by omega) dX3_leastOf_35 (by decide) (fun c5 => ?_) (fun c5 => ?_)
            · skip
              refine z_iinc (lv' := [(3, .int (iZ ((cm) + 1))), (0, .ref (a 5)), (1, .int (iZ (se))), (2, .int (iZ (li)))]) hx hb dX3_leastOf_40 hl (k := 0) rfl (by decide) rfl (fun ls hl => ?_)
              refine lv_goto (tgt := 2) hx hb dX3_leastOf_43 (by decide) ?_
              exact ih2 ((cm) + 1) (by omega) (by omega) (fun j a b => by
      by_cases e9 : j = cm
      · subst e9; exact fun z => by first | exact hnb z.1 | exact absurd z.2 (by omega)
      · exact j2 j a (by omega))  ls (lv_sub hl [0, 1, 2, 3] rfl)
            · skip
              refine lv_iload_n hx hb dX3_leastOf_38 rfl (lv_at hl 0 rfl) ?_
              exact K _ _ _ ((fP_is (by omega) (by omega) ⟨hyb, by omega⟩ j2).symm) dX3_leastOf_39
  exact LP2 ((st 19 2 - (0)) + 1 : Int).toNat (0) (by omega) (by omega) (fun j a b => by omega)  ls (lv_sub hl [0, 1, 2, 3] rfl)
abbrev rX3_turns : Room := { frames := 0, cells := 0, slots := 0, locals := 0 }
set_option maxHeartbeats 4000000 in
set_option maxRecDepth 100000 in
theorem m_X3_turns (l : Launch) (D : va_G) (g : Nat → ClassId) (a : Nat → Nat) (st : SS) (hI : IC st) (hQ : IP st) : Met l yX3_turns wsX3_turns rX3_turns (PcR D g (WC g a st) [.ref (a 5)]) (QcRead (iZ (cP (fun b => st 4 (st 9 b) ≠ st 4 (st 9 (b - 1))) (st 19 3 - 1).toNat 1))) 0 0 (fun _ => False) := by
  refine metR (cc := cX3_turns) (maxL := 3) (ret := (some .int)) (own := RX3) (by decide) rfl rfl (Nat.le_of_ble_eq_true rfl) (Or.inl rfl) ?_
  intro p e R s m args below meth c Q ls S hRf hRl hK hP hl K
  have hx := S.1
  have hb := S.2.1
  have hown := S.2.2.2.1
  have hts := S.2.2.2.2
  have hRf : 0 ≤ R.frames := hRf
  have hRl : 0 ≤ R.locals := hRl
  have hl : lv_has ls 3 [(0, .ref (a 5))] := hl
  have iX3 : ∀ w ∈ wsX30, w ∈ wsX3_turns := by decide +kernel
  have iX4 : ∀ w ∈ wsX40, w ∈ wsX3_turns := by decide +kernel
  have iX5 : ∀ w ∈ wsX50, w ∈ wsX3_turns := by decide +kernel
  have hB := hI.s
  refine z_iconst hx hb dX3_turns_0 ?_
  refine lv_istore_n (lv' := [(1, .int (iZ (0))), (0, .ref (a 5))]) hx hb dX3_turns_1 rfl hl (by decide) rfl (fun ls hl => ?_)
  refine z_iconst hx hb dX3_turns_2 ?_
  refine lv_istore_n (lv' := [(2, .int (iZ (1))), (1, .int (iZ (0))), (0, .ref (a 5))]) hx hb dX3_turns_3 rfl hl (by decide) rfl (fun ls hl => ?_)
  have LP4 : ∀ (n4 : Nat) (ch : Int) (bb : Int), (st 19 3 + 1 - bb) < (n4 : Int) → (1 ≤ bb ∧ (bb ≤ st 19 3 ∨ bb = 1)) → (0 ≤ ch ∧ ch ≤ 8 - (st 19 3 - bb)) → (cP (fun b => st 4 (st 9 b) ≠ st 4 (st 9 (b - 1))) (st 19 3 - 1).toNat 1 = ch + cP (fun b => st 4 (st 9 b) ≠ st 4 (st 9 (b - 1))) (st 19 3 - bb).toNat bb) → ∀ (ls : Array Slot), lv_has ls 3 [(2, .int (iZ (bb))), (1, .int (iZ (ch))), (0, .ref (a 5))] → W p l e R s m args below meth c s.heap [] 0 0 Q (F0 m 4 ls []) := by
    intro n4
    induction n4 with
    | zero =>
      intro ch bb hm4 j1 j0 j2  ls hl
      exact absurd hm4 (by omega)
    | succ n4 ih4 =>
      intro ch bb hm4 j1 j0 j2  ls hl
      refine lv_iload_n hx hb dX3_turns_4 rfl (lv_at hl 0 rfl) ?_
      refine lv_aload_n hx hb dX3_turns_5 rfl (lv_at hl 2 rfl) ?_
      refine z_get (C := RX3) (T := TX3) (N := 11) (ci := 2) hx hb hts iX3 hown hK hP 5 rfl rfl 2 (by decide) (hts (.fieldLink RX3 36 "ShotBoard$Planner" "script" "LShotBoard$Script;") (by decide +kernel)) (.ref (a 3)) rfl dX3_turns_6 ?_
      refine z_get (C := RX5) (T := TX5) (N := 3) (ci := 4) hx hb hts iX5 hown hK hP 3 rfl rfl 1 (by decide) (hts (.fieldLink RX3 44 "ShotBoard$Script" "boards" "I") (by decide +kernel)) (.int (iZ (st 19 (3)))) rfl dX3_turns_9 ?_
      refine z_icmp_ge (tgt := 57) hx hb (by omega) (by omega) dX3_turns_12 (by decide) (fun c1 => ?_) (fun c1 => ?_)
      · skip
        refine lv_iload_n hx hb dX3_turns_57 rfl (lv_at hl 1 rfl) ?_
        exact K _ _ _ (by rw [j2, show (st 19 3 - bb).toNat = 0 by omega]; simp [cP]) dX3_turns_58
      · skip
        refine lv_aload_n hx hb dX3_turns_15 rfl (lv_at hl 2 rfl) ?_
        refine z_get (C := RX3) (T := TX3) (N := 11) (ci := 2) hx hb hts iX3 hown hK hP 5 rfl rfl 1 (by decide) (hts (.fieldLink RX3 32 "ShotBoard$Planner" "rig" "LShotBoard$Rig;") (by decide +kernel)) (.ref (a 2)) rfl dX3_turns_16 ?_
        refine z_get (C := RX4) (T := TX4) (N := 3) (ci := 3) hx hb hts iX4 hown hK hP 2 rfl rfl 1 (by decide) (hts (.fieldLink RX3 125 "ShotBoard$Rig" "lights" "[I") (by decide +kernel)) (.ref (a 12)) rfl dX3_turns_19 ?_
        refine lv_aload_n hx hb dX3_turns_22 rfl (lv_at hl 2 rfl) ?_
        refine z_get (C := RX3) (T := TX3) (N := 11) (ci := 2) hx hb hts iX3 hown hK hP 5 rfl rfl 6 (by decide) (hts (.fieldLink RX3 22 "ShotBoard$Planner" "row" "[I") (by decide +kernel)) (.ref (a 17)) rfl dX3_turns_23 ?_
        refine lv_iload_n hx hb dX3_turns_26 rfl (lv_at hl 0 rfl) ?_
        refine z_iald hx hb hK hP 17 (st 9) rfl (by omega) (by omega) (by omega) dX3_turns_27 ?_
        have f2 := hQ.c9 (bb) (by omega) (by omega)
        refine z_iald hx hb hK hP 12 (st 4) rfl (by omega) (by omega) (by omega) dX3_turns_28 ?_
        have f3 := hI.c4 (st 9 (bb)) (by omega) (by omega)
        refine lv_aload_n hx hb dX3_turns_29 rfl (lv_at hl 2 rfl) ?_
        refine z_get (C := RX3) (T := TX3) (N := 11) (ci := 2) hx hb hts iX3 hown hK hP 5 rfl rfl 1 (by decide) (hts (.fieldLink RX3 32 "ShotBoard$Planner" "rig" "LShotBoard$Rig;") (by decide +kernel)) (.ref (a 2)) rfl dX3_turns_30 ?_
        refine z_get (C := RX4) (T := TX4) (N := 3) (ci := 3) hx hb hts iX4 hown hK hP 2 rfl rfl 1 (by decide) (hts (.fieldLink RX3 125 "ShotBoard$Rig" "lights" "[I") (by decide +kernel)) (.ref (a 12)) rfl dX3_turns_33 ?_
        refine lv_aload_n hx hb dX3_turns_36 rfl (lv_at hl 2 rfl) ?_
        refine z_get (C := RX3) (T := TX3) (N := 11) (ci := 2) hx hb hts iX3 hown hK hP 5 rfl rfl 6 (by decide) (hts (.fieldLink RX3 22 "ShotBoard$Planner" "row" "[I") (by decide +kernel)) (.ref (a 17)) rfl dX3_turns_37 ?_
        refine lv_iload_n hx hb dX3_turns_40 rfl (lv_at hl 0 rfl) ?_
        refine z_iconst hx hb dX3_turns_41 ?_
        refine z_isub hx hb dX3_turns_42 ?_
        refine z_iald hx hb hK hP 17 (st 9) rfl (by omega) (by omega) (by omega) dX3_turns_43 ?_
        have f4 := hQ.c9 ((bb) - (1)) (by omega) (by omega)
        refine z_iald hx hb hK hP 12 (st 4) rfl (by omega) (by omega) (by omega) dX3_turns_44 ?_
        have f5 := hI.c4 (st 9 ((bb) - (1))) (by omega) (by omega)
        refine z_icmp_eq (tgt := 51) hx hb (by omega) (by omega) dX3_turns_45 (by decide) (fun c6 => ?_) (fun c6 => ?_)
        · skip
          have hv : b2 (st 4 (st 9 bb) ≠ st 4 (st 9 (bb - 1))) = 0 := b2_f (fun z => z c6)
          refine z_iinc (lv' := [(2, .int (iZ ((bb) + 1))), (1, .int (iZ (ch))), (0, .ref (a 5))]) hx hb dX3_turns_51 hl (k := 0) rfl (by decide) rfl (fun ls hl => ?_)
          refine lv_goto (tgt := 4) hx hb dX3_turns_54 (by decide) ?_
          have hq : cP (fun b => st 4 (st 9 b) ≠ st 4 (st 9 (b - 1))) (st 19 3 - bb).toNat bb = b2 (st 4 (st 9 bb) ≠ st 4 (st 9 (bb - 1))) + cP (fun b => st 4 (st 9 b) ≠ st 4 (st 9 (b - 1))) (st 19 3 - (bb + 1)).toNat (bb + 1) := by rw [show (st 19 3 - bb).toNat = (st 19 3 - (bb + 1)).toNat + 1 by omega, cP_s]
          exact ih4 (ch) ((bb) + 1) (by omega) (by omega) (by omega) (by rw [hv] at hq; omega)  ls (lv_sub hl [0, 1, 2] rfl)
        · skip
          have hv : b2 (st 4 (st 9 bb) ≠ st 4 (st 9 (bb - 1))) = 1 := b2_t c6
          refine z_iinc (lv' := [(1, .int (iZ ((ch) + 1))), (2, .int (iZ (bb))), (0, .ref (a 5))]) hx hb dX3_turns_48 hl (k := 1) rfl (by decide) rfl (fun ls hl => ?_)
          refine z_iinc (lv' := [(2, .int (iZ ((bb) + 1))), (1, .int (iZ ((ch) + 1))), (0, .ref (a 5))]) hx hb dX3_turns_51 hl (k := 1) rfl (by decide) rfl (fun ls hl => ?_)
          refine lv_goto (tgt := 4) hx hb dX3_turns_54 (by decide) ?_
          have hq : cP (fun b => st 4 (st 9 b) ≠ st 4 (st 9 (b - 1))) (st 19 3 - bb).toNat bb = b2 (st 4 (st 9 bb) ≠ st 4 (st 9 (bb - 1))) + cP (fun b => st 4 (st 9 b) ≠ st 4 (st 9 (b - 1))) (st 19 3 - (bb + 1)).toNat (bb + 1) := by rw [show (st 19 3 - bb).toNat = (st 19 3 - (bb + 1)).toNat + 1 by omega, cP_s]
          exact ih4 ((ch) + 1) ((bb) + 1) (by omega) (by omega) (by omega) (by rw [hv] at hq; omega)  ls (lv_sub hl [0, 1, 2] rfl)
  exact LP4 ((st 19 3 + 1 - (1)) + 1 : Int).toNat (0) (1) (by omega) (by omega) (by omega) (by omega)  ls (lv_sub hl [0, 1, 2] rfl)
