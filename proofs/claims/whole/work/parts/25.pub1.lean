abbrev rX7_isPlace : Room := { frames := 0, cells := 0, slots := 0, locals := 0 }
set_option maxHeartbeats 4000000 in
set_option maxRecDepth 100000 in
theorem m_X7_isPlace (l : Launch) (xx : Int) (hx0 : rg xx) : Met l yX7_isPlace wsX7_isPlace rX7_isPlace (PcS [.int (iZ (xx))]) (QcRead (iZ (b2 (0 ≤ xx ∧ xx / 100 < 32 ∧ xx % 100 < 32)))) 0 0 (fun _ => False) := by
  refine metS (cc := cX7_isPlace) (maxL := 1) (ret := (some .boolean)) (own := RX7) (by decide) rfl rfl (Nat.le_of_ble_eq_true rfl) (Or.inr ⟨rfl, b2_01 _⟩) ?_
  intro p e R s m args below meth c Q ls S hRf hRl hl K
  have hx := S.1
  have hb := S.2.1
  have hown := S.2.2.2.1
  have hts := S.2.2.2.2
  have hRf : 0 ≤ R.frames := hRf
  have hRl : 0 ≤ R.locals := hRl
  have hl : lv_has ls 1 [(0, .int (iZ (xx)))] := hl
  refine lv_iload_n hx hb dX7_isPlace_0 rfl (lv_at hl 0 rfl) ?_
  refine z_if_lt (tgt := 26) hx hb (by omega) dX7_isPlace_1 (by decide) (fun c1 => ?_) (fun c1 => ?_)
  · skip
    refine z_iconst hx hb dX7_isPlace_26 ?_
    exact K _ _ _ (by first | exact b2_pos (by omega) rfl | exact b2_neg (by omega) rfl) dX7_isPlace_27
  · skip
    refine lv_iload_n hx hb dX7_isPlace_4 rfl (lv_at hl 0 rfl) ?_
    refine z_bipush hx hb dX7_isPlace_5 (by decide +kernel) ?_
    refine z_idiv hx hb (by omega) (by omega) (by decide) (by omega) dX7_isPlace_7 ?_
    refine z_bipush hx hb dX7_isPlace_8 (by decide +kernel) ?_
    refine z_icmp_ge (tgt := 26) hx hb (by omega) (by decide) dX7_isPlace_10 (by decide) (fun c2 => ?_) (fun c2 => ?_)
    · skip
      refine z_iconst hx hb dX7_isPlace_26 ?_
      exact K _ _ _ (by first | exact b2_pos (by omega) rfl | exact b2_neg (by omega) rfl) dX7_isPlace_27
    · skip
      refine lv_iload_n hx hb dX7_isPlace_13 rfl (lv_at hl 0 rfl) ?_
      refine z_bipush hx hb dX7_isPlace_14 (by decide +kernel) ?_
      refine z_irem hx hb (by omega) (by omega) (by decide) (by omega) dX7_isPlace_16 ?_
      refine z_bipush hx hb dX7_isPlace_17 (by decide +kernel) ?_
      refine z_icmp_ge (tgt := 26) hx hb (by omega) (by decide) dX7_isPlace_19 (by decide) (fun c3 => ?_) (fun c3 => ?_)
      · skip
        refine z_iconst hx hb dX7_isPlace_26 ?_
        exact K _ _ _ (by first | exact b2_pos (by omega) rfl | exact b2_neg (by omega) rfl) dX7_isPlace_27
      · skip
        refine z_iconst hx hb dX7_isPlace_22 ?_
        refine lv_goto (tgt := 27) hx hb dX7_isPlace_23 (by decide) ?_
        exact K _ _ _ (by first | exact b2_pos (by omega) rfl | exact b2_neg (by omega) rfl) dX7_isPlace_27
abbrev rX7_isTick : Room := { frames := 0, cells := 0, slots := 0, locals := 0 }
set_option maxHeartbeats 4000000 in
set_option maxRecDepth 100000 in
theorem m_X7_isTick (l : Launch) (xx : Int) (hx0 : rg xx) : Met l yX7_isTick wsX7_isTick rX7_isTick (PcS [.int (iZ (xx))]) (QcRead (iZ (b2 (0 ≤ xx ∧ xx < 60)))) 0 0 (fun _ => False) := by
  refine metS (cc := cX7_isTick) (maxL := 1) (ret := (some .boolean)) (own := RX7) (by decide) rfl rfl (Nat.le_of_ble_eq_true rfl) (Or.inr ⟨rfl, b2_01 _⟩) ?_
  intro p e R s m args below meth c Q ls S hRf hRl hl K
  have hx := S.1
  have hb := S.2.1
  have hown := S.2.2.2.1
  have hts := S.2.2.2.2
  have hRf : 0 ≤ R.frames := hRf
  have hRl : 0 ≤ R.locals := hRl
  have hl : lv_has ls 1 [(0, .int (iZ (xx)))] := hl
  refine lv_iload_n hx hb dX7_isTick_0 rfl (lv_at hl 0 rfl) ?_
  refine z_if_lt (tgt := 14) hx hb (by omega) dX7_isTick_1 (by decide) (fun c1 => ?_) (fun c1 => ?_)
  · skip
    refine z_iconst hx hb dX7_isTick_14 ?_
    exact K _ _ _ (by first | exact b2_pos (by omega) rfl | exact b2_neg (by omega) rfl) dX7_isTick_15
  · skip
    refine lv_iload_n hx hb dX7_isTick_4 rfl (lv_at hl 0 rfl) ?_
    refine z_bipush hx hb dX7_isTick_5 (by decide +kernel) ?_
    refine z_icmp_ge (tgt := 14) hx hb (by omega) (by decide) dX7_isTick_7 (by decide) (fun c2 => ?_) (fun c2 => ?_)
    · skip
      refine z_iconst hx hb dX7_isTick_14 ?_
      exact K _ _ _ (by first | exact b2_pos (by omega) rfl | exact b2_neg (by omega) rfl) dX7_isTick_15
    · skip
      refine z_iconst hx hb dX7_isTick_10 ?_
      refine lv_goto (tgt := 15) hx hb dX7_isTick_11 (by decide) ?_
      exact K _ _ _ (by first | exact b2_pos (by omega) rfl | exact b2_neg (by omega) rfl) dX7_isTick_15
abbrev rX7_isSpan : Room := { frames := 1, cells := 0, slots := 0, locals := 20 }
set_option maxHeartbeats 4000000 in
set_option maxRecDepth 100000 in
theorem m_X7_isSpan (l : Launch) (xx : Int) (hx0 : rg xx) : Met l yX7_isSpan wsX7_isSpan rX7_isSpan (PcS [.int (iZ (xx))]) (QcRead (iZ (b2 (0 ≤ xx ∧ xx % 100 < 60 ∧ xx / 100 ≤ xx % 100)))) 0 0 (fun _ => False) := by
  refine metS (cc := cX7_isSpan) (maxL := 1) (ret := (some .boolean)) (own := RX7) (by decide) rfl rfl (Nat.le_of_ble_eq_true rfl) (Or.inr ⟨rfl, b2_01 _⟩) ?_
  intro p e R s m args below meth c Q ls S hRf hRl hl K
  have hx := S.1
  have hb := S.2.1
  have hown := S.2.2.2.1
  have hts := S.2.2.2.2
  have hRf : 1 ≤ R.frames := hRf
  have hRl : 20 ≤ R.locals := hRl
  have hl : lv_has ls 1 [(0, .int (iZ (xx)))] := hl
  refine lv_iload_n hx hb dX7_isSpan_0 rfl (lv_at hl 0 rfl) ?_
  refine z_if_lt (tgt := 29) hx hb (by omega) dX7_isSpan_1 (by decide) (fun c1 => ?_) (fun c1 => ?_)
  · skip
    refine z_iconst hx hb dX7_isSpan_29 ?_
    exact K _ _ _ (by first | exact b2_pos (by omega) rfl | exact b2_neg (by omega) rfl) dX7_isSpan_30
  · skip
    refine lv_iload_n hx hb dX7_isSpan_4 rfl (lv_at hl 0 rfl) ?_
    refine z_bipush hx hb dX7_isSpan_5 (by decide +kernel) ?_
    refine z_irem hx hb (by omega) (by omega) (by decide) (by omega) dX7_isSpan_7 ?_
    refine z_cSS (As := [.int (iZ ((xx) % (100)))]) (rest := []) S (m_X7_isTick l ((xx) % (100)) (by omega)) (va_cwS 1 hts gX7_isSpan_X7_isTick rfl rfl rfl (by decide +kernel) ⟨Nat.le_trans (by decide) hRf, Nat.le_trans (by decide) hRl⟩) rfl hl.1 rfl (Nat.le_of_ble_eq_true rfl) dX7_isSpan_8 ⟨Nat.zero_le _, Nat.zero_le _⟩ ?_
    refine z_if_eq (tgt := 29) hx hb (b2_rg _) dX7_isSpan_11 (by decide) (fun c2 => ?_) (fun c2 => ?_)
    · skip
      have c2 := b2_0 c2
      refine z_iconst hx hb dX7_isSpan_29 ?_
      exact K _ _ _ (by first | exact b2_pos (by omega) rfl | exact b2_neg (by omega) rfl) dX7_isSpan_30
    · skip
      have c2 := b2_n0 c2
      refine lv_iload_n hx hb dX7_isSpan_14 rfl (lv_at hl 0 rfl) ?_
      refine z_bipush hx hb dX7_isSpan_15 (by decide +kernel) ?_
      refine z_idiv hx hb (by omega) (by omega) (by decide) (by omega) dX7_isSpan_17 ?_
      refine lv_iload_n hx hb dX7_isSpan_18 rfl (lv_at hl 0 rfl) ?_
      refine z_bipush hx hb dX7_isSpan_19 (by decide +kernel) ?_
      refine z_irem hx hb (by omega) (by omega) (by decide) (by omega) dX7_isSpan_21 ?_
      refine z_icmp_gt (tgt := 29) hx hb (by omega) (by omega) dX7_isSpan_22 (by decide) (fun c3 => ?_) (fun c3 => ?_)
      · skip
        refine z_iconst hx hb dX7_isSpan_29 ?_
        exact K _ _ _ (by first | exact b2_pos (by omega) rfl | exact b2_neg (by omega) rfl) dX7_isSpan_30
      · skip
        refine z_iconst hx hb dX7_isSpan_25 ?_
        refine lv_goto (tgt := 30) hx hb dX7_isSpan_26 (by decide) ?_
        exact K _ _ _ (by first | exact b2_pos (by omega) rfl | exact b2_neg (by omega) rfl) dX7_isSpan_30
abbrev rX7_isPerson : Room := { frames := 0, cells := 0, slots := 0, locals := 0 }
set_option maxHeartbeats 4000000 in
set_option maxRecDepth 100000 in
theorem m_X7_isPerson (l : Launch) (D : va_G) (g : Nat → ClassId) (a : Nat → Nat) (st : SS) (xx : Int) (hI : IC st) (hx0 : rg xx) : Met l yX7_isPerson wsX7_isPerson rX7_isPerson (PcR D g (WC g a st) [.ref (a 0), .int (iZ (xx))]) (QcRead (iZ (b2 (0 ≤ xx ∧ xx < st 19 0)))) 0 0 (fun _ => False) := by
  refine metR (cc := cX7_isPerson) (maxL := 2) (ret := (some .boolean)) (own := RX7) (by decide) rfl rfl (Nat.le_of_ble_eq_true rfl) (Or.inr ⟨rfl, b2_01 _⟩) ?_
  intro p e R s m args below meth c Q ls S hRf hRl hK hP hl K
  have hx := S.1
  have hb := S.2.1
  have hown := S.2.2.2.1
  have hts := S.2.2.2.2
  have hRf : 0 ≤ R.frames := hRf
  have hRl : 0 ≤ R.locals := hRl
  have hl : lv_has ls 2 [(0, .ref (a 0)), (1, .int (iZ (xx)))] := hl
  have iX6 : ∀ w ∈ wsX60, w ∈ wsX7_isPerson := by decide +kernel
  have iX7 : ∀ w ∈ wsX70, w ∈ wsX7_isPerson := by decide +kernel
  have hB := hI.s
  refine lv_iload_n hx hb dX7_isPerson_0 rfl (lv_at hl 1 rfl) ?_
  refine z_if_lt (tgt := 19) hx hb (by omega) dX7_isPerson_1 (by decide) (fun c1 => ?_) (fun c1 => ?_)
  · skip
    refine z_iconst hx hb dX7_isPerson_19 ?_
    exact K _ _ _ (by first | exact b2_pos (by omega) rfl | exact b2_neg (by omega) rfl) dX7_isPerson_20
  · skip
    refine lv_iload_n hx hb dX7_isPerson_4 rfl (lv_at hl 1 rfl) ?_
    refine lv_aload_n hx hb dX7_isPerson_5 rfl (lv_at hl 0 rfl) ?_
    refine z_get (C := RX7) (T := TX7) (N := 7) (ci := 6) hx hb hts iX7 hown hK hP 0 rfl rfl 0 (by decide) (hts (.fieldLink RX7 10 "ShotBoard" "stage" "LShotBoard$Stage;") (by decide +kernel)) (.ref (a 1)) rfl dX7_isPerson_6 ?_
    refine z_get (C := RX6) (T := TX6) (N := 6) (ci := 5) hx hb hts iX6 hown hK hP 1 rfl rfl 4 (by decide) (hts (.fieldLink RX7 56 "ShotBoard$Stage" "persons" "I") (by decide +kernel)) (.int (iZ (st 19 (0)))) rfl dX7_isPerson_9 ?_
    refine z_icmp_ge (tgt := 19) hx hb (by omega) (by omega) dX7_isPerson_12 (by decide) (fun c2 => ?_) (fun c2 => ?_)
    · skip
      refine z_iconst hx hb dX7_isPerson_19 ?_
      exact K _ _ _ (by first | exact b2_pos (by omega) rfl | exact b2_neg (by omega) rfl) dX7_isPerson_20
    · skip
      refine z_iconst hx hb dX7_isPerson_15 ?_
      refine lv_goto (tgt := 20) hx hb dX7_isPerson_16 (by decide) ?_
      exact K _ _ _ (by first | exact b2_pos (by omega) rfl | exact b2_neg (by omega) rfl) dX7_isPerson_20
abbrev rX7_isCamera : Room := { frames := 0, cells := 0, slots := 0, locals := 0 }
set_option maxHeartbeats 4000000 in
set_option maxRecDepth 100000 in
theorem m_X7_isCamera (l : Launch) (D : va_G) (g : Nat → ClassId) (a : Nat → Nat) (st : SS) (xx : Int) (hI : IC st) (hx0 : rg xx) : Met l yX7_isCamera wsX7_isCamera rX7_isCamera (PcR D g (WC g a st) [.ref (a 0), .int (iZ (xx))]) (QcRead (iZ (b2 (0 ≤ xx ∧ xx < st 19 2)))) 0 0 (fun _ => False) := by
  refine metR (cc := cX7_isCamera) (maxL := 2) (ret := (some .boolean)) (own := RX7) (by decide) rfl rfl (Nat.le_of_ble_eq_true rfl) (Or.inr ⟨rfl, b2_01 _⟩) ?_
  intro p e R s m args below meth c Q ls S hRf hRl hK hP hl K
  have hx := S.1
  have hb := S.2.1
  have hown := S.2.2.2.1
  have hts := S.2.2.2.2
  have hRf : 0 ≤ R.frames := hRf
  have hRl : 0 ≤ R.locals := hRl
  have hl : lv_has ls 2 [(0, .ref (a 0)), (1, .int (iZ (xx)))] := hl
  have iX4 : ∀ w ∈ wsX40, w ∈ wsX7_isCamera := by decide +kernel
  have iX7 : ∀ w ∈ wsX70, w ∈ wsX7_isCamera := by decide +kernel
  have hB := hI.s
  refine lv_iload_n hx hb dX7_isCamera_0 rfl (lv_at hl 1 rfl) ?_
  refine z_if_lt (tgt := 19) hx hb (by omega) dX7_isCamera_1 (by decide) (fun c1 => ?_) (fun c1 => ?_)
  · skip
    refine z_iconst hx hb dX7_isCamera_19 ?_
    exact K _ _ _ (by first | exact b2_pos (by omega) rfl | exact b2_neg (by omega) rfl) dX7_isCamera_20
  · skip
    refine lv_iload_n hx hb dX7_isCamera_4 rfl (lv_at hl 1 rfl) ?_
    refine lv_aload_n hx hb dX7_isCamera_5 rfl (lv_at hl 0 rfl) ?_
    refine z_get (C := RX7) (T := TX7) (N := 7) (ci := 6) hx hb hts iX7 hown hK hP 0 rfl rfl 1 (by decide) (hts (.fieldLink RX7 19 "ShotBoard" "rig" "LShotBoard$Rig;") (by decide +kernel)) (.ref (a 2)) rfl dX7_isCamera_6 ?_
    refine z_get (C := RX4) (T := TX4) (N := 3) (ci := 3) hx hb hts iX4 hown hK hP 2 rfl rfl 2 (by decide) (hts (.fieldLink RX7 91 "ShotBoard$Rig" "cameras" "I") (by decide +kernel)) (.int (iZ (st 19 (2)))) rfl dX7_isCamera_9 ?_
    refine z_icmp_ge (tgt := 19) hx hb (by omega) (by omega) dX7_isCamera_12 (by decide) (fun c2 => ?_) (fun c2 => ?_)
    · skip
      refine z_iconst hx hb dX7_isCamera_19 ?_
      exact K _ _ _ (by first | exact b2_pos (by omega) rfl | exact b2_neg (by omega) rfl) dX7_isCamera_20
    · skip
      refine z_iconst hx hb dX7_isCamera_15 ?_
      refine lv_goto (tgt := 20) hx hb dX7_isCamera_16 (by decide) ?_
      exact K _ _ _ (by first | exact b2_pos (by omega) rfl | exact b2_neg (by omega) rfl) dX7_isCamera_20
abbrev rX7_isBoard : Room := { frames := 0, cells := 0, slots := 0, locals := 0 }
set_option maxHeartbeats 4000000 in
set_option maxRecDepth 100000 in
theorem m_X7_isBoard (l : Launch) (D : va_G) (g : Nat → ClassId) (a : Nat → Nat) (st : SS) (xx : Int) (hI : IC st) (hx0 : rg xx) : Met l yX7_isBoard wsX7_isBoard rX7_isBoard (PcR D g (WC g a st) [.ref (a 0), .int (iZ (xx))]) (QcRead (iZ (b2 (0 ≤ xx ∧ xx < st 19 3)))) 0 0 (fun _ => False) := by
  refine metR (cc := cX7_isBoard) (maxL := 2) (ret := (some .boolean)) (own := RX7) (by decide) rfl rfl (Nat.le_of_ble_eq_true rfl) (Or.inr ⟨rfl, b2_01 _⟩) ?_
  intro p e R s m args below meth c Q ls S hRf hRl hK hP hl K
  have hx := S.1
  have hb := S.2.1
  have hown := S.2.2.2.1
  have hts := S.2.2.2.2
  have hRf : 0 ≤ R.frames := hRf
  have hRl : 0 ≤ R.locals := hRl
  have hl : lv_has ls 2 [(0, .ref (a 0)), (1, .int (iZ (xx)))] := hl
  have iX5 : ∀ w ∈ wsX50, w ∈ wsX7_isBoard := by decide +kernel
  have iX7 : ∀ w ∈ wsX70, w ∈ wsX7_isBoard := by decide +kernel
  have hB := hI.s
  refine lv_iload_n hx hb dX7_isBoard_0 rfl (lv_at hl 1 rfl) ?_
  refine z_if_lt (tgt := 19) hx hb (by omega) dX7_isBoard_1 (by decide) (fun c1 => ?_) (fun c1 => ?_)
  · skip
    refine z_iconst hx hb dX7_isBoard_19 ?_
    exact K _ _ _ (by first | exact b2_pos (by omega) rfl | exact b2_neg (by omega) rfl) dX7_isBoard_20
  · skip
    refine lv_iload_n hx hb dX7_isBoard_4 rfl (lv_at hl 1 rfl) ?_
    refine lv_aload_n hx hb dX7_isBoard_5 rfl (lv_at hl 0 rfl) ?_
    refine z_get (C := RX7) (T := TX7) (N := 7) (ci := 6) hx hb hts iX7 hown hK hP 0 rfl rfl 2 (by decide) (hts (.fieldLink RX7 26 "ShotBoard" "script" "LShotBoard$Script;") (by decide +kernel)) (.ref (a 3)) rfl dX7_isBoard_6 ?_
    refine z_get (C := RX5) (T := TX5) (N := 3) (ci := 4) hx hb hts iX5 hown hK hP 3 rfl rfl 1 (by decide) (hts (.fieldLink RX7 103 "ShotBoard$Script" "boards" "I") (by decide +kernel)) (.int (iZ (st 19 (3)))) rfl dX7_isBoard_9 ?_
    refine z_icmp_ge (tgt := 19) hx hb (by omega) (by omega) dX7_isBoard_12 (by decide) (fun c2 => ?_) (fun c2 => ?_)
    · skip
      refine z_iconst hx hb dX7_isBoard_19 ?_
      exact K _ _ _ (by first | exact b2_pos (by omega) rfl | exact b2_neg (by omega) rfl) dX7_isBoard_20
    · skip
      refine z_iconst hx hb dX7_isBoard_15 ?_
      refine lv_goto (tgt := 20) hx hb dX7_isBoard_16 (by decide) ?_
      exact K _ _ _ (by first | exact b2_pos (by omega) rfl | exact b2_neg (by omega) rfl) dX7_isBoard_20
abbrev rX7_isWho : Room := { frames := 1, cells := 0, slots := 0, locals := 21 }
set_option maxHeartbeats 4000000 in
set_option maxRecDepth 100000 in
theorem m_X7_isWho (l : Launch) (D : va_G) (g : Nat → ClassId) (a : Nat → Nat) (st : SS) (xx : Int) (hI : IC st) (hx0 : rg xx) : Met l yX7_isWho wsX7_isWho rX7_isWho (PcR D g (WC g a st) [.ref (a 0), .int (iZ (xx))]) (QcRead (iZ (b2 (WHOp (st 19 0) xx)))) 0 0 (fun _ => False) := by
  refine metR (cc := cX7_isWho) (maxL := 4) (ret := (some .boolean)) (own := RX7) (by decide) rfl rfl (Nat.le_of_ble_eq_true rfl) (Or.inr ⟨rfl, b2_01 _⟩) ?_
  intro p e R s m args below meth c Q ls S hRf hRl hK hP hl K
  have hx := S.1
  have hb := S.2.1
  have hown := S.2.2.2.1
  have hts := S.2.2.2.2
  have hRf : 1 ≤ R.frames := hRf
  have hRl : 21 ≤ R.locals := hRl
  have hl : lv_has ls 4 [(0, .ref (a 0)), (1, .int (iZ (xx)))] := hl
  have iX6 : ∀ w ∈ wsX60, w ∈ wsX7_isWho := by decide +kernel
  have iX7 : ∀ w ∈ wsX70, w ∈ wsX7_isWho := by decide +kernel
  have hB := hI.s
  have hN := pw10 (n := st 19 0) (by omega) (by omega)
  refine lv_iload_n hx hb dX7_isWho_0 rfl (lv_at hl 1 rfl) ?_
  refine z_if_lt (tgt := 13) hx hb (by omega) dX7_isWho_1 (by decide) (fun c1 => ?_) (fun c1 => ?_)
  · skip
    have hq := c1
    refine z_iconst hx hb dX7_isWho_13 ?_
    exact K _ _ _ (b2_neg (fun z => by have := z.1; have := z.2.1; omega) rfl) dX7_isWho_14
  · skip
    refine lv_iload_n hx hb dX7_isWho_4 rfl (lv_at hl 1 rfl) ?_
    refine z_sipush hx hb dX7_isWho_5 (by decide +kernel) ?_
    refine z_idiv hx hb (by omega) (by omega) (by decide) (by omega) dX7_isWho_8 ?_
    refine z_iconst hx hb dX7_isWho_9 ?_
    refine z_icmp_le (tgt := 15) hx hb (by omega) (by decide) dX7_isWho_10 (by decide) (fun c2 => ?_) (fun c2 => ?_)
    · skip
      refine lv_iload_n hx hb dX7_isWho_15 rfl (lv_at hl 1 rfl) ?_
      refine z_bipush hx hb dX7_isWho_16 (by decide +kernel) ?_
      refine z_idiv hx hb (by omega) (by omega) (by decide) (by omega) dX7_isWho_18 ?_
      refine z_bipush hx hb dX7_isWho_19 (by decide +kernel) ?_
      refine z_irem hx hb (by omega) (by omega) (by decide) (by omega) dX7_isWho_21 ?_
      refine lv_istore_n (lv' := [(2, .int (iZ (((xx) / (100)) % (10)))), (0, .ref (a 0)), (1, .int (iZ (xx)))]) hx hb dX7_isWho_22 rfl hl (by decide) rfl (fun ls hl => ?_)
      refine lv_iload_n hx hb dX7_isWho_23 rfl (lv_at hl 2 rfl) ?_
      refine z_bipush hx hb dX7_isWho_24 (by decide +kernel) ?_
      refine z_irem hx hb (by omega) (by omega) (by decide) (by omega) dX7_isWho_26 ?_
      refine lv_istore_n (lv' := [(3, .int (iZ ((xx) % (100)))), (2, .int (iZ (((xx) / (100)) % (10)))), (0, .ref (a 0)), (1, .int (iZ (xx)))]) hx hb dX7_isWho_27 rfl hl (by decide) rfl (fun ls hl => ?_)
      refine lv_aload_n hx hb dX7_isWho_28 rfl (lv_at hl 2 rfl) ?_
      refine lv_iload_n hx hb dX7_isWho_29 rfl (lv_at hl 1 rfl) ?_
      refine z_cVR (q0 := 0) (ci := 6) (As := [.int (iZ (((xx) / (100)) % (10)))]) (rest := []) S (m_X7_isPerson l D g a (st) (((xx) / (100)) % (10)) hI (by omega)) (cwV 1 hts gX7_isWho_X7_isPerson rfl rfl rfl (by decide +kernel) ⟨Nat.le_trans (by decide) hRf, Nat.le_trans (by decide) hRl⟩) hK hP rfl rfl rfl hl.1 rfl (Nat.le_of_ble_eq_true rfl) dX7_isWho_30 ⟨Nat.zero_le _, Nat.zero_le _⟩ ?_
      refine z_if_eq (tgt := 49) hx hb (b2_rg _) dX7_isWho_33 (by decide) (fun c3 => ?_) (fun c3 => ?_)
      · skip
        have c3 := b2_0 c3
        have hq := c3
        refine z_iconst hx hb dX7_isWho_49 ?_
        exact K _ _ _ (b2_neg (fun z => by have := z.1; have := z.2.2.1; have := z.2.2.2.1; omega) rfl) dX7_isWho_50
      · skip
        have c3 := b2_n0 c3
        refine lv_iload_n hx hb dX7_isWho_36 rfl (lv_at hl 0 rfl) ?_
        refine z_iconst hx hb dX7_isWho_37 ?_
        refine lv_aload_n hx hb dX7_isWho_38 rfl (lv_at hl 2 rfl) ?_
        refine z_get (C := RX7) (T := TX7) (N := 7) (ci := 6) hx hb hts iX7 hown hK hP 0 rfl rfl 0 (by decide) (hts (.fieldLink RX7 10 "ShotBoard" "stage" "LShotBoard$Stage;") (by decide +kernel)) (.ref (a 1)) rfl dX7_isWho_39 ?_
        refine z_get (C := RX6) (T := TX6) (N := 6) (ci := 5) hx hb hts iX6 hown hK hP 1 rfl rfl 4 (by decide) (hts (.fieldLink RX7 56 "ShotBoard$Stage" "persons" "I") (by decide +kernel)) (.int (iZ (st 19 (0)))) rfl dX7_isWho_42 ?_
        refine z_ishl hx hb dX7_isWho_45 ?_
        refine z_as (y := ((2 ^ (st 19 0).toNat : Nat) : Int)) (zshl_1 (by omega) (by omega)) ?_
        refine z_icmp_lt (tgt := 51) hx hb (by omega) (by omega) dX7_isWho_46 (by decide) (fun c4 => ?_) (fun c4 => ?_)
        · skip
          refine lv_iload_n hx hb dX7_isWho_51 rfl (lv_at hl 3 rfl) ?_
          refine z_sipush hx hb dX7_isWho_52 (by decide +kernel) ?_
          refine z_idiv hx hb (by omega) (by omega) (by decide) (by omega) dX7_isWho_55 ?_
          refine z_iconst hx hb dX7_isWho_56 ?_
          refine z_icmp_ne (tgt := 70) hx hb (by omega) (by decide) dX7_isWho_57 (by decide) (fun c5 => ?_) (fun c5 => ?_)
          · skip
            have hk := c5
            refine z_iconst hx hb dX7_isWho_70 ?_
            refine lv_goto (tgt := 75) hx hb dX7_isWho_71 (by decide) ?_
            exact K _ _ _ (by first | exact b2_pos ⟨by omega, by omega, by omega, by omega, fun _ => hcl⟩ rfl | exact b2_pos ⟨by omega, by omega, by omega, by omega, fun q => absurd q hk⟩ rfl) dX7_isWho_75
          · skip
            have hk := c5
            refine lv_iload_n hx hb dX7_isWho_60 rfl (lv_at hl 0 rfl) ?_
            refine z_iconst hx hb dX7_isWho_61 ?_
            refine lv_iload_n hx hb dX7_isWho_62 rfl (lv_at hl 1 rfl) ?_
            refine z_ishl hx hb dX7_isWho_63 ?_
            refine z_iconst hx hb dX7_isWho_64 ?_
            refine z_ixor hx hb dX7_isWho_65 ?_
            have hzr := zand_rg (xx % 100) (zxor (zshl 1 (xx / 100 % 10)) (-1))
            refine z_iand hx hb dX7_isWho_66 ?_
            refine z_if_eq (tgt := 74) hx hb (by omega) dX7_isWho_67 (by decide) (fun c6 => ?_) (fun c6 => ?_)
            · skip
              have hcl := (clr64 (x := xx % 100) (c := xx / 100 % 10) (by omega) (by omega) (by omega) (by omega)).mp c6
              refine z_iconst hx hb dX7_isWho_74 ?_
              exact K _ _ _ (b2_neg (fun z => by obtain ⟨k, a9, b9, d9⟩ := z.2.2.2.2 hk; exact hcl k a9 b9 d9) rfl) dX7_isWho_75
            · skip
              have hcl : ∃ k, 0 ≤ k ∧ k ≠ xx / 100 % 10 ∧ bt (xx % 100) k := Classical.byContradiction (fun z => c6 ((clr64 (x := xx % 100) (c := xx / 100 % 10) (by omega) (by omega) (by omega) (by omega)).mpr (fun k a b d => z ⟨k, a, b, d⟩)))
              refine z_iconst hx hb dX7_isWho_70 ?_
              refine lv_goto (tgt := 75) hx hb dX7_isWho_71 (by decide) ?_
              exact K _ _ _ (by first | exact b2_pos ⟨by omega, by omega, by omega, by omega, fun _ => hcl⟩ rfl | exact b2_pos ⟨by omega, by omega, by omega, by omega, fun q => absurd q hk⟩ rfl) dX7_isWho_75
        · skip
          have hq := c4
          refine z_iconst hx hb dX7_isWho_49 ?_
          exact K _ _ _ (b2_neg (fun z => by have := z.1; have := z.2.2.1; have := z.2.2.2.1; omega) rfl) dX7_isWho_50
    · skip
      have hq := c2
      refine z_iconst hx hb dX7_isWho_13 ?_
      exact K _ _ _ (b2_neg (fun z => by have := z.1; have := z.2.1; omega) rfl) dX7_isWho_14
abbrev rX7_where : Room := { frames := 1, cells := 0, slots := 0, locals := 22 }
set_option maxHeartbeats 4000000 in
set_option maxRecDepth 100000 in
theorem m_X7_where (l : Launch) (D : va_G) (g : Nat → ClassId) (a : Nat → Nat) (st : SS) (pp : Int) (tt : Int) (hI : IC st) (h1 : rg pp) (h2 : rg tt) : Met l yX7_where wsX7_where rX7_where (PcR D g (WC g a st) [.ref (a 0), .int (iZ (pp)), .int (iZ (tt))]) (QcRead (iZ (aWhere (fun q t => st 0 (q * 60 + t)) (st 19 0) pp tt))) 0 0 (fun _ => False) := by
  refine metR (cc := cX7_where) (maxL := 3) (ret := (some .int)) (own := RX7) (by decide) rfl rfl (Nat.le_of_ble_eq_true rfl) (Or.inl rfl) ?_
  intro p e R s m args below meth c Q ls S hRf hRl hK hP hl K
  have hx := S.1
  have hb := S.2.1
  have hown := S.2.2.2.1
  have hts := S.2.2.2.2
  have hRf : 1 ≤ R.frames := hRf
  have hRl : 22 ≤ R.locals := hRl
  have hl : lv_has ls 3 [(0, .ref (a 0)), (1, .int (iZ (pp))), (2, .int (iZ (tt)))] := hl
  have iX7 : ∀ w ∈ wsX70, w ∈ wsX7_where := by decide +kernel
  have hB := hI.s
  refine lv_aload_n hx hb dX7_where_0 rfl (lv_at hl 0 rfl) ?_
  refine lv_iload_n hx hb dX7_where_1 rfl (lv_at hl 1 rfl) ?_
  refine z_cVR (q0 := 0) (ci := 6) (As := [.int (iZ (pp))]) (rest := []) S (m_X7_isPerson l D g a (st) (pp) hI (by omega)) (cwV 1 hts gX7_where_X7_isPerson rfl rfl rfl (by decide +kernel) ⟨Nat.le_trans (by decide) hRf, Nat.le_trans (by decide) hRl⟩) hK hP rfl rfl rfl hl.1 rfl (Nat.le_of_ble_eq_true rfl) dX7_where_2 ⟨Nat.zero_le _, Nat.zero_le _⟩ ?_
  refine z_if_eq (tgt := 15) hx hb (b2_rg _) dX7_where_5 (by decide) (fun c1 => ?_) (fun c1 => ?_)
  · skip
    have c1 := b2_0 c1
    refine z_iconst hx hb dX7_where_15 ?_
    exact K _ _ _ (by unfold aWhere; first | rw [if_pos (by omega)] | rw [if_neg (by omega)]) dX7_where_16
  · skip
    have c1 := b2_n0 c1
    refine lv_iload_n hx hb dX7_where_8 rfl (lv_at hl 2 rfl) ?_
    refine z_cSS (As := [.int (iZ (tt))]) (rest := []) S (m_X7_isTick l (tt) (by omega)) (va_cwS 1 hts gX7_where_X7_isTick rfl rfl rfl (by decide +kernel) ⟨Nat.le_trans (by decide) hRf, Nat.le_trans (by decide) hRl⟩) rfl hl.1 rfl (Nat.le_of_ble_eq_true rfl) dX7_where_9 ⟨Nat.zero_le _, Nat.zero_le _⟩ ?_
    refine z_if_ne (tgt := 17) hx hb (b2_rg _) dX7_where_12 (by decide) (fun c2 => ?_) (fun c2 => ?_)
    · skip
      have c2 := b2_n0 c2
      refine lv_aload_n hx hb dX7_where_17 rfl (lv_at hl 0 rfl) ?_
      refine z_get (C := RX7) (T := TX7) (N := 7) (ci := 6) hx hb hts iX7 hown hK hP 0 rfl rfl 0 (by decide) (hts (.fieldLink RX7 10 "ShotBoard" "stage" "LShotBoard$Stage;") (by decide +kernel)) (.ref (a 1)) rfl dX7_where_18 ?_
      refine lv_iload_n hx hb dX7_where_21 rfl (lv_at hl 1 rfl) ?_
      refine lv_iload_n hx hb dX7_where_22 rfl (lv_at hl 2 rfl) ?_
      refine z_cVR (q0 := 1) (ci := 5) (As := [.int (iZ (pp)), .int (iZ (tt))]) (rest := []) S (m_X6_placeOf l D g a (st) (pp) (tt) hI (by omega) (by omega)) (cwV 2 hts gX7_where_X6_placeOf rfl rfl rfl (by decide +kernel) ⟨Nat.le_trans (by decide) hRf, Nat.le_trans (by decide) hRl⟩) hK hP rfl rfl rfl hl.1 rfl (Nat.le_of_ble_eq_true rfl) dX7_where_23 ⟨Nat.zero_le _, Nat.zero_le _⟩ ?_
      have f3 := hI.c0 ((pp) * 60 + (tt)) (by omega) (by omega)
      exact K _ _ _ (by unfold aWhere; first | rw [if_pos (by omega)] | rw [if_neg (by omega)]) dX7_where_26
    · skip
      have c2 := b2_0 c2
      refine z_iconst hx hb dX7_where_15 ?_
      exact K _ _ _ (by unfold aWhere; first | rw [if_pos (by omega)] | rw [if_neg (by omega)]) dX7_where_16
abbrev rX7_hidden : Room := { frames := 3, cells := 0, slots := 0, locals := 74 }
set_option maxHeartbeats 4000000 in
set_option maxRecDepth 100000 in
theorem m_X7_hidden (l : Launch) (D : va_G) (g : Nat → ClassId) (a : Nat → Nat) (st : SS) (pp : Int) (tt : Int) (ff : Int) (hI : IC st) (h1 : rg pp) (h2 : rg tt) (h3 : rg ff) : Met l yX7_hidden wsX7_hidden rX7_hidden (PcR D g (WC g a st) [.ref (a 0), .int (iZ (pp)), .int (iZ (tt)), .int (iZ (ff))]) (QcRead (iZ (aHidden (fun q t => st 0 (q * 60 + t)) (st 19 0) (st 19 1) (st 1) (st 2) pp tt ff))) 0 0 (fun _ => False) := by
  refine metR (cc := cX7_hidden) (maxL := 4) (ret := (some .int)) (own := RX7) (by decide) rfl rfl (Nat.le_of_ble_eq_true rfl) (Or.inl rfl) ?_
  intro p e R s m args below meth c Q ls S hRf hRl hK hP hl K
  have hx := S.1
  have hb := S.2.1
  have hown := S.2.2.2.1
  have hts := S.2.2.2.2
  have hRf : 3 ≤ R.frames := hRf
  have hRl : 74 ≤ R.locals := hRl
  have hl : lv_has ls 4 [(0, .ref (a 0)), (1, .int (iZ (pp))), (2, .int (iZ (tt))), (3, .int (iZ (ff)))] := hl
  have iX7 : ∀ w ∈ wsX70, w ∈ wsX7_hidden := by decide +kernel
  have hB := hI.s
  refine lv_aload_n hx hb dX7_hidden_0 rfl (lv_at hl 0 rfl) ?_
  refine lv_iload_n hx hb dX7_hidden_1 rfl (lv_at hl 1 rfl) ?_
  refine z_cVR (q0 := 0) (ci := 6) (As := [.int (iZ (pp))]) (rest := []) S (m_X7_isPerson l D g a (st) (pp) hI (by omega)) (cwV 1 hts gX7_hidden_X7_isPerson rfl rfl rfl (by decide +kernel) ⟨Nat.le_trans (by decide) hRf, Nat.le_trans (by decide) hRl⟩) hK hP rfl rfl rfl hl.1 rfl (Nat.le_of_ble_eq_true rfl) dX7_hidden_2 ⟨Nat.zero_le _, Nat.zero_le _⟩ ?_
  refine z_if_eq (tgt := 22) hx hb (b2_rg _) dX7_hidden_5 (by decide) (fun c1 => ?_) (fun c1 => ?_)
  · skip
    have c1 := b2_0 c1
    refine z_iconst hx hb dX7_hidden_22 ?_
    exact K _ _ _ (by unfold aHidden; first | rw [if_neg (by omega)] | rw [if_pos (by omega), b2_t hh] | rw [if_pos (by omega), b2_f hh]) dX7_hidden_23
  · skip
    have c1 := b2_n0 c1
    refine lv_iload_n hx hb dX7_hidden_8 rfl (lv_at hl 2 rfl) ?_
    refine z_cSS (As := [.int (iZ (tt))]) (rest := []) S (m_X7_isTick l (tt) (by omega)) (va_cwS 1 hts gX7_hidden_X7_isTick rfl rfl rfl (by decide +kernel) ⟨Nat.le_trans (by decide) hRf, Nat.le_trans (by decide) hRl⟩) rfl hl.1 rfl (Nat.le_of_ble_eq_true rfl) dX7_hidden_9 ⟨Nat.zero_le _, Nat.zero_le _⟩ ?_
    refine z_if_eq (tgt := 22) hx hb (b2_rg _) dX7_hidden_12 (by decide) (fun c2 => ?_) (fun c2 => ?_)
    · skip
      have c2 := b2_0 c2
      refine z_iconst hx hb dX7_hidden_22 ?_
      exact K _ _ _ (by unfold aHidden; first | rw [if_neg (by omega)] | rw [if_pos (by omega), b2_t hh] | rw [if_pos (by omega), b2_f hh]) dX7_hidden_23
    · skip
      have c2 := b2_n0 c2
      refine lv_iload_n hx hb dX7_hidden_15 rfl (lv_at hl 3 rfl) ?_
      refine z_cSS (As := [.int (iZ (ff))]) (rest := []) S (m_X7_isPlace l (ff) (by omega)) (va_cwS 1 hts gX7_hidden_X7_isPlace rfl rfl rfl (by decide +kernel) ⟨Nat.le_trans (by decide) hRf, Nat.le_trans (by decide) hRl⟩) rfl hl.1 rfl (Nat.le_of_ble_eq_true rfl) dX7_hidden_16 ⟨Nat.zero_le _, Nat.zero_le _⟩ ?_
      refine z_if_ne (tgt := 24) hx hb (b2_rg _) dX7_hidden_19 (by decide) (fun c3 => ?_) (fun c3 => ?_)
      · skip
        have c3 := b2_n0 c3
        refine lv_aload_n hx hb dX7_hidden_24 rfl (lv_at hl 0 rfl) ?_
        refine z_get (C := RX7) (T := TX7) (N := 7) (ci := 6) hx hb hts iX7 hown hK hP 0 rfl rfl 0 (by decide) (hts (.fieldLink RX7 10 "ShotBoard" "stage" "LShotBoard$Stage;") (by decide +kernel)) (.ref (a 1)) rfl dX7_hidden_25 ?_
        refine lv_iload_n hx hb dX7_hidden_28 rfl (lv_at hl 1 rfl) ?_
        refine lv_iload_n hx hb dX7_hidden_29 rfl (lv_at hl 2 rfl) ?_
        refine lv_iload_n hx hb dX7_hidden_30 rfl (lv_at hl 3 rfl) ?_
        refine z_cVR (q0 := 1) (ci := 5) (As := [.int (iZ (pp)), .int (iZ (tt)), .int (iZ (ff))]) (rest := []) S (m_X6_hides l D g a (st) (pp) (tt) (ff) hI (by omega) (by omega) (by omega)) (cwV 3 hts gX7_hidden_X6_hides rfl rfl rfl (by decide +kernel) ⟨Nat.le_trans (by decide) hRf, Nat.le_trans (by decide) hRl⟩) hK hP rfl rfl rfl hl.1 rfl (Nat.le_of_ble_eq_true rfl) dX7_hidden_31 ⟨Nat.zero_le _, Nat.zero_le _⟩ ?_
        refine z_if_eq (tgt := 41) hx hb (b2_rg _) dX7_hidden_34 (by decide) (fun c4 => ?_) (fun c4 => ?_)
        · skip
          have c4 := b2_0 c4
          have hh := c4
          refine z_iconst hx hb dX7_hidden_41 ?_
          exact K _ _ _ (by unfold aHidden; first | rw [if_neg (by omega)] | rw [if_pos (by omega), b2_t hh] | rw [if_pos (by omega), b2_f hh]) dX7_hidden_42
        · skip
          have c4 := b2_n0 c4
          have hh := c4
          refine z_iconst hx hb dX7_hidden_37 ?_
          refine lv_goto (tgt := 42) hx hb dX7_hidden_38 (by decide) ?_
          exact K _ _ _ (by unfold aHidden; first | rw [if_neg (by omega)] | rw [if_pos (by omega), b2_t hh] | rw [if_pos (by omega), b2_f hh]) dX7_hidden_42
      · skip
        have c3 := b2_0 c3
        refine z_iconst hx hb dX7_hidden_22 ?_
        exact K _ _ _ (by unfold aHidden; first | rw [if_neg (by omega)] | rw [if_pos (by omega), b2_t hh] | rw [if_pos (by omega), b2_f hh]) dX7_hidden_23
abbrev rX7_sees : Room := { frames := 3, cells := 0, slots := 0, locals := 74 }
set_option maxHeartbeats 4000000 in
set_option maxRecDepth 100000 in
theorem m_X7_sees (l : Launch) (D : va_G) (g : Nat → ClassId) (a : Nat → Nat) (st : SS) (cm : Int) (mm : Int) (pp : Int) (tt : Int) (hI : IC st) (h1 : rg cm) (h2 : rg mm) (h3 : rg pp) (h4 : rg tt) : Met l yX7_sees wsX7_sees rX7_sees (PcR D g (WC g a st) [.ref (a 0), .int (iZ (cm)), .int (iZ (mm)), .int (iZ (pp)), .int (iZ (tt))]) (QcRead (iZ (aSees (fun q t => st 0 (q * 60 + t)) (st 19 0) (st 19 1) (st 19 2) (st 1) (st 2) (st 3) cm mm pp tt))) 0 0 (fun _ => False) := by
  refine metR (cc := cX7_sees) (maxL := 7) (ret := (some .int)) (own := RX7) (by decide) rfl rfl (Nat.le_of_ble_eq_true rfl) (Or.inl rfl) ?_
  intro p e R s m args below meth c Q ls S hRf hRl hK hP hl K
  have hx := S.1
  have hb := S.2.1
  have hown := S.2.2.2.1
  have hts := S.2.2.2.2
  have hRf : 3 ≤ R.frames := hRf
  have hRl : 74 ≤ R.locals := hRl
  have hl : lv_has ls 7 [(0, .ref (a 0)), (1, .int (iZ (cm))), (2, .int (iZ (mm))), (3, .int (iZ (pp))), (4, .int (iZ (tt)))] := hl
  have iX4 : ∀ w ∈ wsX40, w ∈ wsX7_sees := by decide +kernel
  have iX7 : ∀ w ∈ wsX70, w ∈ wsX7_sees := by decide +kernel
  have hB := hI.s
  refine lv_aload_n hx hb dX7_sees_0 rfl (lv_at hl 0 rfl) ?_
  refine lv_iload_n hx hb dX7_sees_1 rfl (lv_at hl 1 rfl) ?_
  refine z_cVR (q0 := 0) (ci := 6) (As := [.int (iZ (cm))]) (rest := []) S (m_X7_isCamera l D g a (st) (cm) hI (by omega)) (cwV 1 hts gX7_sees_X7_isCamera rfl rfl rfl (by decide +kernel) ⟨Nat.le_trans (by decide) hRf, Nat.le_trans (by decide) hRl⟩) hK hP rfl rfl rfl hl.1 rfl (Nat.le_of_ble_eq_true rfl) dX7_sees_2 ⟨Nat.zero_le _, Nat.zero_le _⟩ ?_
  refine z_if_eq (tgt := 32) hx hb (b2_rg _) dX7_sees_5 (by decide) (fun c1 => ?_) (fun c1 => ?_)
  · skip
    have c1 := b2_0 c1
    refine z_iconst hx hb dX7_sees_32 ?_
    exact K _ _ _ (by unfold aSees; first | rw [if_neg (by omega)] | rw [if_pos (by omega), b2_t hans] | rw [if_pos (by omega), b2_f hans]) dX7_sees_33
  · skip
    have c1 := b2_n0 c1
    refine lv_aload_n hx hb dX7_sees_8 rfl (lv_at hl 0 rfl) ?_
    refine lv_iload_n hx hb dX7_sees_9 rfl (lv_at hl 2 rfl) ?_
    refine z_cVR (q0 := 0) (ci := 6) (As := [.int (iZ (mm))]) (rest := []) S (m_X7_isPerson l D g a (st) (mm) hI (by omega)) (cwV 1 hts gX7_sees_X7_isPerson rfl rfl rfl (by decide +kernel) ⟨Nat.le_trans (by decide) hRf, Nat.le_trans (by decide) hRl⟩) hK hP rfl rfl rfl hl.1 rfl (Nat.le_of_ble_eq_true rfl) dX7_sees_10 ⟨Nat.zero_le _, Nat.zero_le _⟩ ?_
    refine z_if_eq (tgt := 32) hx hb (b2_rg _) dX7_sees_13 (by decide) (fun c2 => ?_) (fun c2 => ?_)
    · skip
      have c2 := b2_0 c2
      refine z_iconst hx hb dX7_sees_32 ?_
      exact K _ _ _ (by unfold aSees; first | rw [if_neg (by omega)] | rw [if_pos (by omega), b2_t hans] | rw [if_pos (by omega), b2_f hans]) dX7_sees_33
    · skip
      have c2 := b2_n0 c2
      refine lv_aload_n hx hb dX7_sees_16 rfl (lv_at hl 0 rfl) ?_
      refine lv_iload_n hx hb dX7_sees_17 rfl (lv_at hl 3 rfl) ?_
      refine z_cVR (q0 := 0) (ci := 6) (As := [.int (iZ (pp))]) (rest := []) S (m_X7_isPerson l D g a (st) (pp) hI (by omega)) (cwV 1 hts gX7_sees_X7_isPerson rfl rfl rfl (by decide +kernel) ⟨Nat.le_trans (by decide) hRf, Nat.le_trans (by decide) hRl⟩) hK hP rfl rfl rfl hl.1 rfl (Nat.le_of_ble_eq_true rfl) dX7_sees_18 ⟨Nat.zero_le _, Nat.zero_le _⟩ ?_
      refine z_if_eq (tgt := 32) hx hb (b2_rg _) dX7_sees_21 (by decide) (fun c3 => ?_) (fun c3 => ?_)
      · skip
        have c3 := b2_0 c3
        refine z_iconst hx hb dX7_sees_32 ?_
        exact K _ _ _ (by unfold aSees; first | rw [if_neg (by omega)] | rw [if_pos (by omega), b2_t hans] | rw [if_pos (by omega), b2_f hans]) dX7_sees_33
      · skip
        have c3 := b2_n0 c3
        refine lv_iload hx hb dX7_sees_24 (lv_at hl 4 rfl) ?_
        refine z_cSS (As := [.int (iZ (tt))]) (rest := []) S (m_X7_isTick l (tt) (by omega)) (va_cwS 1 hts gX7_sees_X7_isTick rfl rfl rfl (by decide +kernel) ⟨Nat.le_trans (by decide) hRf, Nat.le_trans (by decide) hRl⟩) rfl hl.1 rfl (Nat.le_of_ble_eq_true rfl) dX7_sees_26 ⟨Nat.zero_le _, Nat.zero_le _⟩ ?_
        refine z_if_ne (tgt := 34) hx hb (b2_rg _) dX7_sees_29 (by decide) (fun c4 => ?_) (fun c4 => ?_)
        · skip
          have c4 := b2_n0 c4
          refine lv_aload_n hx hb dX7_sees_34 rfl (lv_at hl 0 rfl) ?_
          refine z_get (C := RX7) (T := TX7) (N := 7) (ci := 6) hx hb hts iX7 hown hK hP 0 rfl rfl 1 (by decide) (hts (.fieldLink RX7 19 "ShotBoard" "rig" "LShotBoard$Rig;") (by decide +kernel)) (.ref (a 2)) rfl dX7_sees_35 ?_
          refine z_get (C := RX4) (T := TX4) (N := 3) (ci := 3) hx hb hts iX4 hown hK hP 2 rfl rfl 0 (by decide) (hts (.fieldLink RX7 122 "ShotBoard$Rig" "places" "[I") (by decide +kernel)) (.ref (a 11)) rfl dX7_sees_38 ?_
          refine lv_iload_n hx hb dX7_sees_41 rfl (lv_at hl 1 rfl) ?_
          refine z_iald hx hb hK hP 11 (st 3) rfl (by omega) (by omega) (by omega) dX7_sees_42 ?_
          have f5 := hI.c3 (cm) (by omega) (by omega)
          refine lv_istore (lv' := [(5, .int (iZ (st 3 (cm)))), (0, .ref (a 0)), (1, .int (iZ (cm))), (2, .int (iZ (mm))), (3, .int (iZ (pp))), (4, .int (iZ (tt)))]) hx hb dX7_sees_43 hl (by decide) rfl (fun ls hl => ?_)
          refine lv_iload hx hb dX7_sees_45 (lv_at hl 0 rfl) ?_
          refine lv_aload_n hx hb dX7_sees_47 rfl (lv_at hl 1 rfl) ?_
          refine z_get (C := RX7) (T := TX7) (N := 7) (ci := 6) hx hb hts iX7 hown hK hP 0 rfl rfl 0 (by decide) (hts (.fieldLink RX7 10 "ShotBoard" "stage" "LShotBoard$Stage;") (by decide +kernel)) (.ref (a 1)) rfl dX7_sees_48 ?_
          refine lv_iload_n hx hb dX7_sees_51 rfl (lv_at hl 3 rfl) ?_
          refine lv_iload hx hb dX7_sees_52 (lv_at hl 5 rfl) ?_
          refine z_cVR (q0 := 1) (ci := 5) (As := [.int (iZ (mm)), .int (iZ (tt))]) (rest := [.int (iZ (st 3 (cm)))]) S (m_X6_placeOf l D g a (st) (mm) (tt) hI (by omega) (by omega)) (cwV 2 hts gX7_sees_X6_placeOf rfl rfl rfl (by decide +kernel) ⟨Nat.le_trans (by decide) hRf, Nat.le_trans (by decide) hRl⟩) hK hP rfl rfl rfl hl.1 rfl (Nat.le_of_ble_eq_true rfl) dX7_sees_54 ⟨Nat.zero_le _, Nat.zero_le _⟩ ?_
          have f6 := hI.c0 ((mm) * 60 + (tt)) (by omega) (by omega)
          refine lv_aload_n hx hb dX7_sees_57 rfl (lv_at hl 1 rfl) ?_
          refine z_get (C := RX7) (T := TX7) (N := 7) (ci := 6) hx hb hts iX7 hown hK hP 0 rfl rfl 0 (by decide) (hts (.fieldLink RX7 10 "ShotBoard" "stage" "LShotBoard$Stage;") (by decide +kernel)) (.ref (a 1)) rfl dX7_sees_58 ?_
          refine lv_iload_n hx hb dX7_sees_61 rfl (lv_at hl 4 rfl) ?_
          refine lv_iload hx hb dX7_sees_62 (lv_at hl 5 rfl) ?_
          refine z_cVR (q0 := 1) (ci := 5) (As := [.int (iZ (pp)), .int (iZ (tt))]) (rest := [.int (iZ (st 0 ((mm) * 60 + (tt)))), .int (iZ (st 3 (cm)))]) S (m_X6_placeOf l D g a (st) (pp) (tt) hI (by omega) (by omega)) (cwV 2 hts gX7_sees_X6_placeOf rfl rfl rfl (by decide +kernel) ⟨Nat.le_trans (by decide) hRf, Nat.le_trans (by decide) hRl⟩) hK hP rfl rfl rfl hl.1 rfl (Nat.le_of_ble_eq_true rfl) dX7_sees_64 ⟨Nat.zero_le _, Nat.zero_le _⟩ ?_
          have f7 := hI.c0 ((pp) * 60 + (tt)) (by omega) (by omega)
          refine z_cSS (As := [.int (iZ (st 3 (cm))), .int (iZ (st 0 ((mm) * 60 + (tt)))), .int (iZ (st 0 ((pp) * 60 + (tt))))]) (rest := []) S (m_X2_inCone l (st 3 (cm)) (st 0 ((mm) * 60 + (tt))) (st 0 ((pp) * 60 + (tt))) (by omega) (by omega) (by omega)) (va_cwS 3 hts gX7_sees_X2_inCone rfl rfl rfl (by decide +kernel) ⟨Nat.le_trans (by decide) hRf, Nat.le_trans (by decide) hRl⟩) rfl hl.1 rfl (Nat.le_of_ble_eq_true rfl) dX7_sees_67 ⟨Nat.zero_le _, Nat.zero_le _⟩ ?_
          refine lv_istore (lv' := [(6, .int (iZ (b2 (cone (st 3 (cm)) (st 0 ((mm) * 60 + (tt))) (st 0 ((pp) * 60 + (tt))))))), (5, .int (iZ (st 3 (cm)))), (0, .ref (a 0)), (1, .int (iZ (cm))), (2, .int (iZ (mm))), (3, .int (iZ (pp))), (4, .int (iZ (tt)))]) hx hb dX7_sees_70 hl (by decide) rfl (fun ls hl => ?_)
          refine lv_iload hx hb dX7_sees_72 (lv_at hl 0 rfl) ?_
          refine z_if_eq (tgt := 96) hx hb (b2_rg _) dX7_sees_74 (by decide) (fun c8 => ?_) (fun c8 => ?_)
          · skip
            have c8 := b2_0 c8
            have hans : ¬ (cone (st 3 cm) (st 0 (mm * 60 + tt)) (st 0 (pp * 60 + tt)) ∧ ¬ HID (fun q t => st 0 (q * 60 + t)) (st 19 0) (st 19 1) (st 1) (st 2) pp tt (st 3 cm)) := fun z => c8 z.1
            refine z_iconst hx hb dX7_sees_96 ?_
            exact K _ _ _ (by unfold aSees; first | rw [if_neg (by omega)] | rw [if_pos (by omega), b2_t hans] | rw [if_pos (by omega), b2_f hans]) dX7_sees_97
          · skip
            have c8 := b2_n0 c8
            have hco := c8
            refine lv_aload_n hx hb dX7_sees_77 rfl (lv_at hl 2 rfl) ?_
            refine z_get (C := RX7) (T := TX7) (N := 7) (ci := 6) hx hb hts iX7 hown hK hP 0 rfl rfl 0 (by decide) (hts (.fieldLink RX7 10 "ShotBoard" "stage" "LShotBoard$Stage;") (by decide +kernel)) (.ref (a 1)) rfl dX7_sees_78 ?_
            refine lv_iload_n hx hb dX7_sees_81 rfl (lv_at hl 5 rfl) ?_
            refine lv_iload hx hb dX7_sees_82 (lv_at hl 6 rfl) ?_
            refine lv_iload hx hb dX7_sees_84 (lv_at hl 1 rfl) ?_
            refine z_cVR (q0 := 1) (ci := 5) (As := [.int (iZ (pp)), .int (iZ (tt)), .int (iZ (st 3 (cm)))]) (rest := []) S (m_X6_hides l D g a (st) (pp) (tt) (st 3 (cm)) hI (by omega) (by omega) (by omega)) (cwV 3 hts gX7_sees_X6_hides rfl rfl rfl (by decide +kernel) ⟨Nat.le_trans (by decide) hRf, Nat.le_trans (by decide) hRl⟩) hK hP rfl rfl rfl hl.1 rfl (Nat.le_of_ble_eq_true rfl) dX7_sees_86 ⟨Nat.zero_le _, Nat.zero_le _⟩ ?_
            refine z_if_ne (tgt := 96) hx hb (b2_rg _) dX7_sees_89 (by decide) (fun c9 => ?_) (fun c9 => ?_)
            · skip
              have c9 := b2_n0 c9
              have hans : ¬ (cone (st 3 cm) (st 0 (mm * 60 + tt)) (st 0 (pp * 60 + tt)) ∧ ¬ HID (fun q t => st 0 (q * 60 + t)) (st 19 0) (st 19 1) (st 1) (st 2) pp tt (st 3 cm)) := fun z => z.2 c9
              refine z_iconst hx hb dX7_sees_96 ?_
              exact K _ _ _ (by unfold aSees; first | rw [if_neg (by omega)] | rw [if_pos (by omega), b2_t hans] | rw [if_pos (by omega), b2_f hans]) dX7_sees_97
            · skip
              have c9 := b2_0 c9
              have hans : cone (st 3 cm) (st 0 (mm * 60 + tt)) (st 0 (pp * 60 + tt)) ∧ ¬ HID (fun q t => st 0 (q * 60 + t)) (st 19 0) (st 19 1) (st 1) (st 2) pp tt (st 3 cm) := ⟨hco, c9⟩
              refine z_iconst hx hb dX7_sees_92 ?_
              refine lv_goto (tgt := 97) hx hb dX7_sees_93 (by decide) ?_
              exact K _ _ _ (by unfold aSees; first | rw [if_neg (by omega)] | rw [if_pos (by omega), b2_t hans] | rw [if_pos (by omega), b2_f hans]) dX7_sees_97
        · skip
          have c4 := b2_0 c4
          refine z_iconst hx hb dX7_sees_32 ?_
          exact K _ _ _ (by unfold aSees; first | rw [if_neg (by omega)] | rw [if_pos (by omega), b2_t hans] | rw [if_pos (by omega), b2_f hans]) dX7_sees_33
abbrev rX7_size : Room := { frames := 2, cells := 0, slots := 0, locals := 46 }
set_option maxHeartbeats 4000000 in
set_option maxRecDepth 100000 in
theorem m_X7_size (l : Launch) (D : va_G) (g : Nat → ClassId) (a : Nat → Nat) (st : SS) (cm : Int) (pp : Int) (tt : Int) (hI : IC st) (h1 : rg cm) (h2 : rg pp) (h3 : rg tt) : Met l yX7_size wsX7_size rX7_size (PcR D g (WC g a st) [.ref (a 0), .int (iZ (cm)), .int (iZ (pp)), .int (iZ (tt))]) (QcRead (iZ (aSize (fun q t => st 0 (q * 60 + t)) (st 19 0) (st 19 2) (st 3) cm pp tt))) 0 0 (fun _ => False) := by
  refine metR (cc := cX7_size) (maxL := 4) (ret := (some .int)) (own := RX7) (by decide) rfl rfl (Nat.le_of_ble_eq_true rfl) (Or.inl rfl) ?_
  intro p e R s m args below meth c Q ls S hRf hRl hK hP hl K
  have hx := S.1
  have hb := S.2.1
  have hown := S.2.2.2.1
  have hts := S.2.2.2.2
  have hRf : 2 ≤ R.frames := hRf
  have hRl : 46 ≤ R.locals := hRl
  have hl : lv_has ls 4 [(0, .ref (a 0)), (1, .int (iZ (cm))), (2, .int (iZ (pp))), (3, .int (iZ (tt)))] := hl
  have iX4 : ∀ w ∈ wsX40, w ∈ wsX7_size := by decide +kernel
  have iX7 : ∀ w ∈ wsX70, w ∈ wsX7_size := by decide +kernel
  have hB := hI.s
  refine lv_aload_n hx hb dX7_size_0 rfl (lv_at hl 0 rfl) ?_
  refine lv_iload_n hx hb dX7_size_1 rfl (lv_at hl 1 rfl) ?_
  refine z_cVR (q0 := 0) (ci := 6) (As := [.int (iZ (cm))]) (rest := []) S (m_X7_isCamera l D g a (st) (cm) hI (by omega)) (cwV 1 hts gX7_size_X7_isCamera rfl rfl rfl (by decide +kernel) ⟨Nat.le_trans (by decide) hRf, Nat.le_trans (by decide) hRl⟩) hK hP rfl rfl rfl hl.1 rfl (Nat.le_of_ble_eq_true rfl) dX7_size_2 ⟨Nat.zero_le _, Nat.zero_le _⟩ ?_
  refine z_if_eq (tgt := 23) hx hb (b2_rg _) dX7_size_5 (by decide) (fun c1 => ?_) (fun c1 => ?_)
  · skip
    have c1 := b2_0 c1
    refine z_iconst hx hb dX7_size_23 ?_
    exact K _ _ _ (by unfold aSize; first | rw [if_pos (by omega)] | rw [if_neg (by omega)]) dX7_size_24
  · skip
    have c1 := b2_n0 c1
    refine lv_aload_n hx hb dX7_size_8 rfl (lv_at hl 0 rfl) ?_
    refine lv_iload_n hx hb dX7_size_9 rfl (lv_at hl 2 rfl) ?_
    refine z_cVR (q0 := 0) (ci := 6) (As := [.int (iZ (pp))]) (rest := []) S (m_X7_isPerson l D g a (st) (pp) hI (by omega)) (cwV 1 hts gX7_size_X7_isPerson rfl rfl rfl (by decide +kernel) ⟨Nat.le_trans (by decide) hRf, Nat.le_trans (by decide) hRl⟩) hK hP rfl rfl rfl hl.1 rfl (Nat.le_of_ble_eq_true rfl) dX7_size_10 ⟨Nat.zero_le _, Nat.zero_le _⟩ ?_
    refine z_if_eq (tgt := 23) hx hb (b2_rg _) dX7_size_13 (by decide) (fun c2 => ?_) (fun c2 => ?_)
    · skip
      have c2 := b2_0 c2
      refine z_iconst hx hb dX7_size_23 ?_
      exact K _ _ _ (by unfold aSize; first | rw [if_pos (by omega)] | rw [if_neg (by omega)]) dX7_size_24
    · skip
      have c2 := b2_n0 c2
      refine lv_iload_n hx hb dX7_size_16 rfl (lv_at hl 3 rfl) ?_
      refine z_cSS (As := [.int (iZ (tt))]) (rest := []) S (m_X7_isTick l (tt) (by omega)) (va_cwS 1 hts gX7_size_X7_isTick rfl rfl rfl (by decide +kernel) ⟨Nat.le_trans (by decide) hRf, Nat.le_trans (by decide) hRl⟩) rfl hl.1 rfl (Nat.le_of_ble_eq_true rfl) dX7_size_17 ⟨Nat.zero_le _, Nat.zero_le _⟩ ?_
      refine z_if_ne (tgt := 25) hx hb (b2_rg _) dX7_size_20 (by decide) (fun c3 => ?_) (fun c3 => ?_)
      · skip
        have c3 := b2_n0 c3
        refine lv_aload_n hx hb dX7_size_25 rfl (lv_at hl 0 rfl) ?_
        refine z_get (C := RX7) (T := TX7) (N := 7) (ci := 6) hx hb hts iX7 hown hK hP 0 rfl rfl 1 (by decide) (hts (.fieldLink RX7 19 "ShotBoard" "rig" "LShotBoard$Rig;") (by decide +kernel)) (.ref (a 2)) rfl dX7_size_26 ?_
        refine z_get (C := RX4) (T := TX4) (N := 3) (ci := 3) hx hb hts iX4 hown hK hP 2 rfl rfl 0 (by decide) (hts (.fieldLink RX7 122 "ShotBoard$Rig" "places" "[I") (by decide +kernel)) (.ref (a 11)) rfl dX7_size_29 ?_
        refine lv_iload_n hx hb dX7_size_32 rfl (lv_at hl 1 rfl) ?_
        refine z_iald hx hb hK hP 11 (st 3) rfl (by omega) (by omega) (by omega) dX7_size_33 ?_
        have f4 := hI.c3 (cm) (by omega) (by omega)
        refine lv_aload_n hx hb dX7_size_34 rfl (lv_at hl 0 rfl) ?_
        refine z_get (C := RX7) (T := TX7) (N := 7) (ci := 6) hx hb hts iX7 hown hK hP 0 rfl rfl 0 (by decide) (hts (.fieldLink RX7 10 "ShotBoard" "stage" "LShotBoard$Stage;") (by decide +kernel)) (.ref (a 1)) rfl dX7_size_35 ?_
        refine lv_iload_n hx hb dX7_size_38 rfl (lv_at hl 2 rfl) ?_
        refine lv_iload_n hx hb dX7_size_39 rfl (lv_at hl 3 rfl) ?_
        refine z_cVR (q0 := 1) (ci := 5) (As := [.int (iZ (pp)), .int (iZ (tt))]) (rest := [.int (iZ (st 3 (cm)))]) S (m_X6_placeOf l D g a (st) (pp) (tt) hI (by omega) (by omega)) (cwV 2 hts gX7_size_X6_placeOf rfl rfl rfl (by decide +kernel) ⟨Nat.le_trans (by decide) hRf, Nat.le_trans (by decide) hRl⟩) hK hP rfl rfl rfl hl.1 rfl (Nat.le_of_ble_eq_true rfl) dX7_size_40 ⟨Nat.zero_le _, Nat.zero_le _⟩ ?_
        have f5 := hI.c0 ((pp) * 60 + (tt)) (by omega) (by omega)
        refine z_cSS (As := [.int (iZ (st 3 (cm))), .int (iZ (st 0 ((pp) * 60 + (tt))))]) (rest := []) S (m_X2_sizeSeen l (st 3 (cm)) (st 0 ((pp) * 60 + (tt))) (by omega) (by omega)) (va_cwS 2 hts gX7_size_X2_sizeSeen rfl rfl rfl (by decide +kernel) ⟨Nat.le_trans (by decide) hRf, Nat.le_trans (by decide) hRl⟩) rfl hl.1 rfl (Nat.le_of_ble_eq_true rfl) dX7_size_43 ⟨Nat.zero_le _, Nat.zero_le _⟩ ?_
        have f6 := sizeZ_b (st 3 (cm)) (st 0 ((pp) * 60 + (tt)))
        exact K _ _ _ (by unfold aSize; first | rw [if_pos (by omega)] | rw [if_neg (by omega)]) dX7_size_46
      · skip
        have c3 := b2_0 c3
        refine z_iconst hx hb dX7_size_23 ?_
        exact K _ _ _ (by unfold aSize; first | rw [if_pos (by omega)] | rw [if_neg (by omega)]) dX7_size_24
abbrev rX7_views : Room := { frames := 3, cells := 0, slots := 0, locals := 74 }
set_option maxHeartbeats 4000000 in
set_option maxRecDepth 100000 in
theorem m_X7_views (l : Launch) (D : va_G) (g : Nat → ClassId) (a : Nat → Nat) (st : SS) (pp : Int) (tt : Int) (hI : IC st) (h1 : rg pp) (h2 : rg tt) : Met l yX7_views wsX7_views rX7_views (PcR D g (WC g a st) [.ref (a 0), .int (iZ (pp)), .int (iZ (tt))]) (QcRead (iZ (aViews (fun q t => st 0 (q * 60 + t)) (st 19 0) (st 19 1) (st 1) (st 2) pp tt))) 0 0 (fun _ => False) := by
  refine metR (cc := cX7_views) (maxL := 6) (ret := (some .int)) (own := RX7) (by decide) rfl rfl (Nat.le_of_ble_eq_true rfl) (Or.inl rfl) ?_
  intro p e R s m args below meth c Q ls S hRf hRl hK hP hl K
  have hx := S.1
  have hb := S.2.1
  have hown := S.2.2.2.1
  have hts := S.2.2.2.2
  have hRf : 3 ≤ R.frames := hRf
  have hRl : 74 ≤ R.locals := hRl
  have hl : lv_has ls 6 [(0, .ref (a 0)), (1, .int (iZ (pp))), (2, .int (iZ (tt)))] := hl
  have iX7 : ∀ w ∈ wsX70, w ∈ wsX7_views := by decide +kernel
  have hB := hI.s
  refine lv_aload_n hx hb dX7_views_0 rfl (lv_at hl 0 rfl) ?_
  refine lv_iload_n hx hb dX7_views_1 rfl (lv_at hl 1 rfl) ?_
  refine z_cVR (q0 := 0) (ci := 6) (As := [.int (iZ (pp))]) (rest := []) S (m_X7_isPerson l D g a (st) (pp) hI (by omega)) (cwV 1 hts gX7_views_X7_isPerson rfl rfl rfl (by decide +kernel) ⟨Nat.le_trans (by decide) hRf, Nat.le_trans (by decide) hRl⟩) hK hP rfl rfl rfl hl.1 rfl (Nat.le_of_ble_eq_true rfl) dX7_views_2 ⟨Nat.zero_le _, Nat.zero_le _⟩ ?_
  refine z_if_eq (tgt := 15) hx hb (b2_rg _) dX7_views_5 (by decide) (fun c1 => ?_) (fun c1 => ?_)
  · skip
    have c1 := b2_0 c1
    refine z_iconst hx hb dX7_views_15 ?_
    exact K _ _ _ (by unfold aViews; rw [if_neg (by omega)]) dX7_views_16
  · skip
    have c1 := b2_n0 c1
    refine lv_iload_n hx hb dX7_views_8 rfl (lv_at hl 2 rfl) ?_
    refine z_cSS (As := [.int (iZ (tt))]) (rest := []) S (m_X7_isTick l (tt) (by omega)) (va_cwS 1 hts gX7_views_X7_isTick rfl rfl rfl (by decide +kernel) ⟨Nat.le_trans (by decide) hRf, Nat.le_trans (by decide) hRl⟩) rfl hl.1 rfl (Nat.le_of_ble_eq_true rfl) dX7_views_9 ⟨Nat.zero_le _, Nat.zero_le _⟩ ?_
    refine z_if_ne (tgt := 17) hx hb (b2_rg _) dX7_views_12 (by decide) (fun c2 => ?_) (fun c2 => ?_)
    · skip
      have c2 := b2_n0 c2
      refine z_iconst hx hb dX7_views_17 ?_
      refine lv_istore_n (lv' := [(3, .int (iZ (0))), (0, .ref (a 0)), (1, .int (iZ (pp))), (2, .int (iZ (tt)))]) hx hb dX7_views_18 rfl hl (by decide) rfl (fun ls hl => ?_)
      refine z_iconst hx hb dX7_views_19 ?_
      refine lv_istore (lv' := [(4, .int (iZ (0))), (3, .int (iZ (0))), (0, .ref (a 0)), (1, .int (iZ (pp))), (2, .int (iZ (tt)))]) hx hb dX7_views_20 hl (by decide) rfl (fun ls hl => ?_)
      have LP22 : ∀ (n22 : Nat) (op : Int) (xx : Int), (32 - xx) < (n22 : Int) → (0 ≤ xx ∧ xx ≤ 32) → (0 ≤ op ∧ op ≤ 32 * xx) → (VW (fun f => HID (fun q t => st 0 (q * 60 + t)) (st 19 0) (st 19 1) (st 1) (st 2) pp tt f) = op + sL (VWr (fun f => HID (fun q t => st 0 (q * 60 + t)) (st 19 0) (st 19 1) (st 1) (st 2) pp tt f)) (32 - xx).toNat xx) → ∀ (ls : Array Slot), lv_has ls 6 [(4, .int (iZ (xx))), (3, .int (iZ (op))), (0, .ref (a 0)), (1, .int (iZ (pp))), (2, .int (iZ (tt)))] → W p l e R s m args below meth c s.heap [] 0 0 Q (F0 m 22 ls []) := by
        intro n22
        induction n22 with
        | zero =>
          intro op xx hm22 j1 j0 j2  ls hl
          exact absurd hm22 (by omega)
        | succ n22 ih22 =>
          intro op xx hm22 j1 j0 j2  ls hl
          refine lv_iload hx hb dX7_views_22 (lv_at hl 0 rfl) ?_
          refine z_bipush hx hb dX7_views_24 (by decide +kernel) ?_
          refine z_icmp_ge (tgt := 74) hx hb (by omega) (by decide) dX7_views_26 (by decide) (fun c3 => ?_) (fun c3 => ?_)
          · skip
            refine lv_iload_n hx hb dX7_views_74 rfl (lv_at hl 1 rfl) ?_
            exact K _ _ _ (by unfold aViews; rw [if_pos (by omega), j2, show (32 - xx).toNat = 0 by omega]; simp [sL]) dX7_views_75
          · skip
            refine z_iconst hx hb dX7_views_29 ?_
            refine lv_istore (lv' := [(5, .int (iZ (0))), (4, .int (iZ (xx))), (3, .int (iZ (op))), (0, .ref (a 0)), (1, .int (iZ (pp))), (2, .int (iZ (tt)))]) hx hb dX7_views_30 hl (by decide) rfl (fun ls hl => ?_)
            have LP32 : ∀ (n32 : Nat) (oq : Int) (yy : Int), (32 - yy) < (n32 : Int) → (0 ≤ yy ∧ yy ≤ 32) → (0 ≤ oq ∧ oq ≤ 32 * xx + yy) → ((oq - op) + cP (fun y => ¬ (fun f => HID (fun q t => st 0 (q * 60 + t)) (st 19 0) (st 19 1) (st 1) (st 2) pp tt f) (100 * xx + y)) (32 - yy).toNat yy = VWr (fun f => HID (fun q t => st 0 (q * 60 + t)) (st 19 0) (st 19 1) (st 1) (st 2) pp tt f) xx) → ∀ (ls : Array Slot), lv_has ls 6 [(5, .int (iZ (yy))), (4, .int (iZ (xx))), (3, .int (iZ (oq))), (0, .ref (a 0)), (1, .int (iZ (pp))), (2, .int (iZ (tt)))] → W p l e R s m args below meth c s.heap [] 0 0 Q (F0 m 32 ls []) := by
              intro n32
              induction n32 with
              | zero =>
                intro oq yy hm32 k1 k0 k2  ls hl
                exact absurd hm32 (by omega)
              | succ n32 ih32 =>
                intro oq yy hm32 k1 k0 k2  ls hl
                refine lv_iload hx hb dX7_views_32 (lv_at hl 0 rfl) ?_
                refine z_bipush hx hb dX7_views_34 (by decide +kernel) ?_
                refine z_icmp_ge (tgt := 68) hx hb (by omega) (by decide) dX7_views_36 (by decide) (fun c4 => ?_) (fun c4 => ?_)
                · skip
                  refine z_iinc (lv' := [(4, .int (iZ ((xx) + 1))), (5, .int (iZ (yy))), (3, .int (iZ (oq))), (0, .ref (a 0)), (1, .int (iZ (pp))), (2, .int (iZ (tt)))]) hx hb dX7_views_68 hl (k := 1) rfl (by decide) rfl (fun ls hl => ?_)
                  refine lv_goto (tgt := 22) hx hb dX7_views_71 (by decide) ?_
                  exact ih22 (oq) ((xx) + 1) (by omega) (by omega) (by omega) (by rw [j2, show (32 - xx).toNat = (32 - (xx + 1)).toNat + 1 by omega, sL_s, ← k2, show (32 - yy).toNat = 0 by omega]; simp [cP]; omega)  ls (lv_sub hl [0, 2, 3, 4, 5] rfl)
                · skip
                  refine lv_aload_n hx hb dX7_views_39 rfl (lv_at hl 3 rfl) ?_
                  refine z_get (C := RX7) (T := TX7) (N := 7) (ci := 6) hx hb hts iX7 hown hK hP 0 rfl rfl 0 (by decide) (hts (.fieldLink RX7 10 "ShotBoard" "stage" "LShotBoard$Stage;") (by decide +kernel)) (.ref (a 1)) rfl dX7_views_40 ?_
                  refine lv_iload_n hx hb dX7_views_43 rfl (lv_at hl 4 rfl) ?_
                  refine lv_iload_n hx hb dX7_views_44 rfl (lv_at hl 5 rfl) ?_
                  refine z_bipush hx hb dX7_views_45 (by decide +kernel) ?_
                  refine lv_iload hx hb dX7_views_47 (lv_at hl 1 rfl) ?_
                  refine z_imul hx hb dX7_views_49 ?_
                  refine lv_iload hx hb dX7_views_50 (lv_at hl 0 rfl) ?_
                  refine z_iadd hx hb dX7_views_52 ?_
                  refine z_cVR (q0 := 1) (ci := 5) (As := [.int (iZ (pp)), .int (iZ (tt)), .int (iZ (((100) * (xx)) + (yy)))]) (rest := []) S (m_X6_hides l D g a (st) (pp) (tt) (((100) * (xx)) + (yy)) hI (by omega) (by omega) (by omega)) (cwV 3 hts gX7_views_X6_hides rfl rfl rfl (by decide +kernel) ⟨Nat.le_trans (by decide) hRf, Nat.le_trans (by decide) hRl⟩) hK hP rfl rfl rfl hl.1 rfl (Nat.le_of_ble_eq_true rfl) dX7_views_53 ⟨Nat.zero_le _, Nat.zero_le _⟩ ?_
                  refine z_if_ne (tgt := 62) hx hb (b2_rg _) dX7_views_56 (by decide) (fun c5 => ?_) (fun c5 => ?_)
                  · skip
                    have c5 := b2_n0 c5
                    have hbv : b2 (¬ HID (fun q t => st 0 (q * 60 + t)) (st 19 0) (st 19 1) (st 1) (st 2) pp tt (100 * xx + yy)) = 0 := b2_f (fun z => z c5)
                    refine z_iinc (lv' := [(5, .int (iZ ((yy) + 1))), (4, .int (iZ (xx))), (3, .int (iZ (oq))), (0, .ref (a 0)), (1, .int (iZ (pp))), (2, .int (iZ (tt)))]) hx hb dX7_views_62 hl (k := 0) rfl (by decide) rfl (fun ls hl => ?_)
                    refine lv_goto (tgt := 32) hx hb dX7_views_65 (by decide) ?_
                    have hcs : cP (fun y => ¬ (fun f => HID (fun q t => st 0 (q * 60 + t)) (st 19 0) (st 19 1) (st 1) (st 2) pp tt f) (100 * xx + y)) (32 - yy).toNat yy = b2 (¬ HID (fun q t => st 0 (q * 60 + t)) (st 19 0) (st 19 1) (st 1) (st 2) pp tt (100 * xx + yy)) + cP (fun y => ¬ (fun f => HID (fun q t => st 0 (q * 60 + t)) (st 19 0) (st 19 1) (st 1) (st 2) pp tt f) (100 * xx + y)) (32 - (yy + 1)).toNat (yy + 1) := by rw [show (32 - yy).toNat = (32 - (yy + 1)).toNat + 1 by omega, cP_s]
                    rw [hbv] at hcs
                    exact ih32 (oq) ((yy) + 1) (by omega) (by omega) (by omega) (by rw [← k2, hcs]; omega)  ls (lv_sub hl [0, 1, 2, 3, 4, 5] rfl)
                  · skip
                    have c5 := b2_0 c5
                    have hbv : b2 (¬ HID (fun q t => st 0 (q * 60 + t)) (st 19 0) (st 19 1) (st 1) (st 2) pp tt (100 * xx + yy)) = 1 := b2_t c5
                    refine z_iinc (lv' := [(3, .int (iZ ((oq) + 1))), (5, .int (iZ (yy))), (4, .int (iZ (xx))), (0, .ref (a 0)), (1, .int (iZ (pp))), (2, .int (iZ (tt)))]) hx hb dX7_views_59 hl (k := 2) rfl (by decide) rfl (fun ls hl => ?_)
                    refine z_iinc (lv' := [(5, .int (iZ ((yy) + 1))), (3, .int (iZ ((oq) + 1))), (4, .int (iZ (xx))), (0, .ref (a 0)), (1, .int (iZ (pp))), (2, .int (iZ (tt)))]) hx hb dX7_views_62 hl (k := 1) rfl (by decide) rfl (fun ls hl => ?_)
                    refine lv_goto (tgt := 32) hx hb dX7_views_65 (by decide) ?_
                    have hcs : cP (fun y => ¬ (fun f => HID (fun q t => st 0 (q * 60 + t)) (st 19 0) (st 19 1) (st 1) (st 2) pp tt f) (100 * xx + y)) (32 - yy).toNat yy = b2 (¬ HID (fun q t => st 0 (q * 60 + t)) (st 19 0) (st 19 1) (st 1) (st 2) pp tt (100 * xx + yy)) + cP (fun y => ¬ (fun f => HID (fun q t => st 0 (q * 60 + t)) (st 19 0) (st 19 1) (st 1) (st 2) pp tt f) (100 * xx + y)) (32 - (yy + 1)).toNat (yy + 1) := by rw [show (32 - yy).toNat = (32 - (yy + 1)).toNat + 1 by omega, cP_s]
                    rw [hbv] at hcs
                    exact ih32 ((oq) + 1) ((yy) + 1) (by omega) (by omega) (by omega) (by rw [← k2, hcs]; omega)  ls (lv_sub hl [0, 2, 1, 3, 4, 5] rfl)
            exact LP32 ((32 - (0)) + 1 : Int).toNat (op) (0) (by omega) (by omega) (by omega) (by simp [VWr])  ls (lv_sub hl [0, 1, 2, 3, 4, 5] rfl)
      exact LP22 ((32 - (0)) + 1 : Int).toNat (0) (0) (by omega) (by omega) (by omega) (by simp [VW])  ls (lv_sub hl [0, 1, 2, 3, 4] rfl)
    · skip
      have c2 := b2_0 c2
      refine z_iconst hx hb dX7_views_15 ?_
      exact K _ _ _ (by unfold aViews; rw [if_neg (by omega)]) dX7_views_16
