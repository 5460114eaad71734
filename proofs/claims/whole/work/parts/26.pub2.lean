abbrev rX7_gives : Room := { frames := 5, cells := 0, slots := 0, locals := 124 }
set_option maxHeartbeats 4000000 in
set_option maxRecDepth 100000 in
theorem m_X7_gives (l : Launch) (D : va_G) (g : Nat → ClassId) (a : Nat → Nat) (st : SS) (cm : Int) (bb : Int) (hI : IC st) (h1 : rg cm) (h2 : rg bb) : Met l yX7_gives wsX7_gives rX7_gives (PcR D g (WC g a st) [.ref (a 0), .int (iZ (cm)), .int (iZ (bb))]) (QcRead (iZ (aGives (fun c b => WHYc st b (st 3 c)) (st 19 2) (st 19 3) cm bb))) 0 0 (fun _ => False) := by
  refine metR (cc := cX7_gives) (maxL := 3) (ret := (some .int)) (own := RX7) (by decide) rfl rfl (Nat.le_of_ble_eq_true rfl) (Or.inl rfl) ?_
  intro p e R s m args below meth c Q ls S hRf hRl hK hP hl K
  have hx := S.1
  have hb := S.2.1
  have hown := S.2.2.2.1
  have hts := S.2.2.2.2
  have hRf : 5 ≤ R.frames := hRf
  have hRl : 124 ≤ R.locals := hRl
  have hl : lv_has ls 3 [(0, .ref (a 0)), (1, .int (iZ (cm))), (2, .int (iZ (bb)))] := hl
  have iX4 : ∀ w ∈ wsX40, w ∈ wsX7_gives := by decide +kernel
  have iX5 : ∀ w ∈ wsX50, w ∈ wsX7_gives := by decide +kernel
  have iX7 : ∀ w ∈ wsX70, w ∈ wsX7_gives := by decide +kernel
  have hB := hI.s
  refine lv_aload_n hx hb dX7_gives_0 rfl (lv_at hl 0 rfl) ?_
  refine lv_iload_n hx hb dX7_gives_1 rfl (lv_at hl 1 rfl) ?_
  refine z_cVR (q0 := 0) (ci := 6) (As := [.int (iZ (cm))]) (rest := []) S (m_X7_isCamera l D g a (st) (cm) hI (by omega)) (cwV 1 hts gX7_gives_X7_isCamera rfl rfl rfl (by decide +kernel) ⟨Nat.le_trans (by decide) hRf, Nat.le_trans (by decide) hRl⟩) hK hP rfl rfl rfl hl.1 rfl (Nat.le_of_ble_eq_true rfl) dX7_gives_2 ⟨Nat.zero_le _, Nat.zero_le _⟩ ?_
  refine z_if_eq (tgt := 16) hx hb (b2_rg _) dX7_gives_5 (by decide) (fun c1 => ?_) (fun c1 => ?_)
  · skip
    have c1 := b2_0 c1
    refine z_iconst hx hb dX7_gives_16 ?_
    exact K _ _ _ (by unfold aGives; first | rw [if_neg (by omega)] | rw [if_pos (by omega), b2_t hz] | rw [if_pos (by omega), b2_f hz]) dX7_gives_17
  · skip
    have c1 := b2_n0 c1
    refine lv_aload_n hx hb dX7_gives_8 rfl (lv_at hl 0 rfl) ?_
    refine lv_iload_n hx hb dX7_gives_9 rfl (lv_at hl 2 rfl) ?_
    refine z_cVR (q0 := 0) (ci := 6) (As := [.int (iZ (bb))]) (rest := []) S (m_X7_isBoard l D g a (st) (bb) hI (by omega)) (cwV 1 hts gX7_gives_X7_isBoard rfl rfl rfl (by decide +kernel) ⟨Nat.le_trans (by decide) hRf, Nat.le_trans (by decide) hRl⟩) hK hP rfl rfl rfl hl.1 rfl (Nat.le_of_ble_eq_true rfl) dX7_gives_10 ⟨Nat.zero_le _, Nat.zero_le _⟩ ?_
    refine z_if_ne (tgt := 18) hx hb (b2_rg _) dX7_gives_13 (by decide) (fun c2 => ?_) (fun c2 => ?_)
    · skip
      have c2 := b2_n0 c2
      refine lv_aload_n hx hb dX7_gives_18 rfl (lv_at hl 0 rfl) ?_
      refine z_get (C := RX7) (T := TX7) (N := 7) (ci := 6) hx hb hts iX7 hown hK hP 0 rfl rfl 3 (by decide) (hts (.fieldLink RX7 35 "ShotBoard" "judge" "LShotBoard$Judge;") (by decide +kernel)) (.ref (a 4)) rfl dX7_gives_19 ?_
      refine lv_aload_n hx hb dX7_gives_22 rfl (lv_at hl 0 rfl) ?_
      refine z_get (C := RX7) (T := TX7) (N := 7) (ci := 6) hx hb hts iX7 hown hK hP 0 rfl rfl 1 (by decide) (hts (.fieldLink RX7 19 "ShotBoard" "rig" "LShotBoard$Rig;") (by decide +kernel)) (.ref (a 2)) rfl dX7_gives_23 ?_
      refine z_get (C := RX4) (T := TX4) (N := 3) (ci := 3) hx hb hts iX4 hown hK hP 2 rfl rfl 0 (by decide) (hts (.fieldLink RX7 122 "ShotBoard$Rig" "places" "[I") (by decide +kernel)) (.ref (a 11)) rfl dX7_gives_26 ?_
      refine lv_iload_n hx hb dX7_gives_29 rfl (lv_at hl 1 rfl) ?_
      refine z_iald hx hb hK hP 11 (st 3) rfl (by omega) (by omega) (by omega) dX7_gives_30 ?_
      have f3 := hI.c3 (cm) (by omega) (by omega)
      refine lv_aload_n hx hb dX7_gives_31 rfl (lv_at hl 0 rfl) ?_
      refine z_get (C := RX7) (T := TX7) (N := 7) (ci := 6) hx hb hts iX7 hown hK hP 0 rfl rfl 2 (by decide) (hts (.fieldLink RX7 26 "ShotBoard" "script" "LShotBoard$Script;") (by decide +kernel)) (.ref (a 3)) rfl dX7_gives_32 ?_
      refine z_get (C := RX5) (T := TX5) (N := 3) (ci := 4) hx hb hts iX5 hown hK hP 3 rfl rfl 0 (by decide) (hts (.fieldLink RX7 136 "ShotBoard$Script" "rows" "[LShotBoard$Board;") (by decide +kernel)) (.ref (a 13)) rfl dX7_gives_35 ?_
      refine lv_iload_n hx hb dX7_gives_38 rfl (lv_at hl 2 rfl) ?_
      refine z_aald hx hb hK hP (by omega) (by omega) dX7_gives_39 ?_
      refine z_cVR (q0 := 4) (ci := 1) (As := [.int (iZ (st 3 (cm))), .ref (a (19 + (bb).toNat))]) (rest := []) S (m_X1_fault l D g a (st) (st 3 (cm)) (bb) hI (by omega) (by omega)) (cwV 2 hts gX7_gives_X1_fault rfl rfl rfl (by decide +kernel) ⟨Nat.le_trans (by decide) hRf, Nat.le_trans (by decide) hRl⟩) hK hP rfl rfl rfl hl.1 rfl (Nat.le_of_ble_eq_true rfl) dX7_gives_40 ⟨Nat.zero_le _, Nat.zero_le _⟩ ?_
      have f4 := WHY_b (F := FLc st (bb) (st 3 (cm))) (st 16 (bb) - st 15 (bb) + 1).toNat (st 15 (bb)) (by have h9 := hI.bd (bb) (by omega) (by omega); omega) (by have h9 := hI.bd (bb) (by omega) (by omega); have h8 := (hI.bl (bb) (by omega) (by omega)).2.1; omega) (fun j => FL_b _ _ _ _ _ _ _ _ _ _ _ _ (by have h9 := hI.s; omega))
      refine z_if_ne (tgt := 50) hx hb (by omega) dX7_gives_43 (by decide) (fun c5 => ?_) (fun c5 => ?_)
      · skip
        have hz := c5
        refine z_iconst hx hb dX7_gives_50 ?_
        exact K _ _ _ (by unfold aGives; first | rw [if_neg (by omega)] | rw [if_pos (by omega), b2_t hz] | rw [if_pos (by omega), b2_f hz]) dX7_gives_51
      · skip
        have hz := c5
        refine z_iconst hx hb dX7_gives_46 ?_
        refine lv_goto (tgt := 51) hx hb dX7_gives_47 (by decide) ?_
        exact K _ _ _ (by unfold aGives; first | rw [if_neg (by omega)] | rw [if_pos (by omega), b2_t hz] | rw [if_pos (by omega), b2_f hz]) dX7_gives_51
    · skip
      have c2 := b2_0 c2
      refine z_iconst hx hb dX7_gives_16 ?_
      exact K _ _ _ (by unfold aGives; first | rw [if_neg (by omega)] | rw [if_pos (by omega), b2_t hz] | rw [if_pos (by omega), b2_f hz]) dX7_gives_17
abbrev rX7_why : Room := { frames := 5, cells := 0, slots := 0, locals := 124 }
set_option maxHeartbeats 4000000 in
set_option maxRecDepth 100000 in
theorem m_X7_why (l : Launch) (D : va_G) (g : Nat → ClassId) (a : Nat → Nat) (st : SS) (cm : Int) (bb : Int) (hI : IC st) (h1 : rg cm) (h2 : rg bb) : Met l yX7_why wsX7_why rX7_why (PcR D g (WC g a st) [.ref (a 0), .int (iZ (cm)), .int (iZ (bb))]) (QcRead (iZ (aWhy (fun c b => WHYc st b (st 3 c)) (st 19 2) (st 19 3) cm bb))) 0 0 (fun _ => False) := by
  refine metR (cc := cX7_why) (maxL := 3) (ret := (some .int)) (own := RX7) (by decide) rfl rfl (Nat.le_of_ble_eq_true rfl) (Or.inl rfl) ?_
  intro p e R s m args below meth c Q ls S hRf hRl hK hP hl K
  have hx := S.1
  have hb := S.2.1
  have hown := S.2.2.2.1
  have hts := S.2.2.2.2
  have hRf : 5 ≤ R.frames := hRf
  have hRl : 124 ≤ R.locals := hRl
  have hl : lv_has ls 3 [(0, .ref (a 0)), (1, .int (iZ (cm))), (2, .int (iZ (bb)))] := hl
  have iX4 : ∀ w ∈ wsX40, w ∈ wsX7_why := by decide +kernel
  have iX5 : ∀ w ∈ wsX50, w ∈ wsX7_why := by decide +kernel
  have iX7 : ∀ w ∈ wsX70, w ∈ wsX7_why := by decide +kernel
  have hB := hI.s
  refine lv_aload_n hx hb dX7_why_0 rfl (lv_at hl 0 rfl) ?_
  refine lv_iload_n hx hb dX7_why_1 rfl (lv_at hl 1 rfl) ?_
  refine z_cVR (q0 := 0) (ci := 6) (As := [.int (iZ (cm))]) (rest := []) S (m_X7_isCamera l D g a (st) (cm) hI (by omega)) (cwV 1 hts gX7_why_X7_isCamera rfl rfl rfl (by decide +kernel) ⟨Nat.le_trans (by decide) hRf, Nat.le_trans (by decide) hRl⟩) hK hP rfl rfl rfl hl.1 rfl (Nat.le_of_ble_eq_true rfl) dX7_why_2 ⟨Nat.zero_le _, Nat.zero_le _⟩ ?_
  refine z_if_eq (tgt := 16) hx hb (b2_rg _) dX7_why_5 (by decide) (fun c1 => ?_) (fun c1 => ?_)
  · skip
    have c1 := b2_0 c1
    refine z_iconst hx hb dX7_why_16 ?_
    exact K _ _ _ (by unfold aWhy; first | rw [if_pos (by omega)] | rw [if_neg (by omega)]) dX7_why_17
  · skip
    have c1 := b2_n0 c1
    refine lv_aload_n hx hb dX7_why_8 rfl (lv_at hl 0 rfl) ?_
    refine lv_iload_n hx hb dX7_why_9 rfl (lv_at hl 2 rfl) ?_
    refine z_cVR (q0 := 0) (ci := 6) (As := [.int (iZ (bb))]) (rest := []) S (m_X7_isBoard l D g a (st) (bb) hI (by omega)) (cwV 1 hts gX7_why_X7_isBoard rfl rfl rfl (by decide +kernel) ⟨Nat.le_trans (by decide) hRf, Nat.le_trans (by decide) hRl⟩) hK hP rfl rfl rfl hl.1 rfl (Nat.le_of_ble_eq_true rfl) dX7_why_10 ⟨Nat.zero_le _, Nat.zero_le _⟩ ?_
    refine z_if_ne (tgt := 18) hx hb (b2_rg _) dX7_why_13 (by decide) (fun c2 => ?_) (fun c2 => ?_)
    · skip
      have c2 := b2_n0 c2
      refine lv_aload_n hx hb dX7_why_18 rfl (lv_at hl 0 rfl) ?_
      refine z_get (C := RX7) (T := TX7) (N := 7) (ci := 6) hx hb hts iX7 hown hK hP 0 rfl rfl 3 (by decide) (hts (.fieldLink RX7 35 "ShotBoard" "judge" "LShotBoard$Judge;") (by decide +kernel)) (.ref (a 4)) rfl dX7_why_19 ?_
      refine lv_aload_n hx hb dX7_why_22 rfl (lv_at hl 0 rfl) ?_
      refine z_get (C := RX7) (T := TX7) (N := 7) (ci := 6) hx hb hts iX7 hown hK hP 0 rfl rfl 1 (by decide) (hts (.fieldLink RX7 19 "ShotBoard" "rig" "LShotBoard$Rig;") (by decide +kernel)) (.ref (a 2)) rfl dX7_why_23 ?_
      refine z_get (C := RX4) (T := TX4) (N := 3) (ci := 3) hx hb hts iX4 hown hK hP 2 rfl rfl 0 (by decide) (hts (.fieldLink RX7 122 "ShotBoard$Rig" "places" "[I") (by decide +kernel)) (.ref (a 11)) rfl dX7_why_26 ?_
      refine lv_iload_n hx hb dX7_why_29 rfl (lv_at hl 1 rfl) ?_
      refine z_iald hx hb hK hP 11 (st 3) rfl (by omega) (by omega) (by omega) dX7_why_30 ?_
      have f3 := hI.c3 (cm) (by omega) (by omega)
      refine lv_aload_n hx hb dX7_why_31 rfl (lv_at hl 0 rfl) ?_
      refine z_get (C := RX7) (T := TX7) (N := 7) (ci := 6) hx hb hts iX7 hown hK hP 0 rfl rfl 2 (by decide) (hts (.fieldLink RX7 26 "ShotBoard" "script" "LShotBoard$Script;") (by decide +kernel)) (.ref (a 3)) rfl dX7_why_32 ?_
      refine z_get (C := RX5) (T := TX5) (N := 3) (ci := 4) hx hb hts iX5 hown hK hP 3 rfl rfl 0 (by decide) (hts (.fieldLink RX7 136 "ShotBoard$Script" "rows" "[LShotBoard$Board;") (by decide +kernel)) (.ref (a 13)) rfl dX7_why_35 ?_
      refine lv_iload_n hx hb dX7_why_38 rfl (lv_at hl 2 rfl) ?_
      refine z_aald hx hb hK hP (by omega) (by omega) dX7_why_39 ?_
      refine z_cVR (q0 := 4) (ci := 1) (As := [.int (iZ (st 3 (cm))), .ref (a (19 + (bb).toNat))]) (rest := []) S (m_X1_fault l D g a (st) (st 3 (cm)) (bb) hI (by omega) (by omega)) (cwV 2 hts gX7_why_X1_fault rfl rfl rfl (by decide +kernel) ⟨Nat.le_trans (by decide) hRf, Nat.le_trans (by decide) hRl⟩) hK hP rfl rfl rfl hl.1 rfl (Nat.le_of_ble_eq_true rfl) dX7_why_40 ⟨Nat.zero_le _, Nat.zero_le _⟩ ?_
      have f4 := WHY_b (F := FLc st (bb) (st 3 (cm))) (st 16 (bb) - st 15 (bb) + 1).toNat (st 15 (bb)) (by have h9 := hI.bd (bb) (by omega) (by omega); omega) (by have h9 := hI.bd (bb) (by omega) (by omega); have h8 := (hI.bl (bb) (by omega) (by omega)).2.1; omega) (fun j => FL_b _ _ _ _ _ _ _ _ _ _ _ _ (by have h9 := hI.s; omega))
      exact K _ _ _ (by unfold aWhy; first | rw [if_pos (by omega)] | rw [if_neg (by omega)]) dX7_why_43
    · skip
      have c2 := b2_0 c2
      refine z_iconst hx hb dX7_why_16 ?_
      exact K _ _ _ (by unfold aWhy; first | rw [if_pos (by omega)] | rw [if_neg (by omega)]) dX7_why_17
abbrev rX7_side : Room := { frames := 3, cells := 0, slots := 0, locals := 66 }
set_option maxHeartbeats 4000000 in
set_option maxRecDepth 100000 in
theorem m_X7_side (l : Launch) (D : va_G) (g : Nat → ClassId) (a : Nat → Nat) (st : SS) (cm : Int) (bb : Int) (hI : IC st) (h1 : rg cm) (h2 : rg bb) : Met l yX7_side wsX7_side rX7_side (PcR D g (WC g a st) [.ref (a 0), .int (iZ (cm)), .int (iZ (bb))]) (QcRead (iZ (aSide (fun c b => SDM st b (st 3 c)) (st 11) (st 19 2) (st 19 3) cm bb))) 0 0 (fun _ => False) := by
  refine metR (cc := cX7_side) (maxL := 3) (ret := (some .int)) (own := RX7) (by decide) rfl rfl (Nat.le_of_ble_eq_true rfl) (Or.inl rfl) ?_
  intro p e R s m args below meth c Q ls S hRf hRl hK hP hl K
  have hx := S.1
  have hb := S.2.1
  have hown := S.2.2.2.1
  have hts := S.2.2.2.2
  have hRf : 3 ≤ R.frames := hRf
  have hRl : 66 ≤ R.locals := hRl
  have hl : lv_has ls 3 [(0, .ref (a 0)), (1, .int (iZ (cm))), (2, .int (iZ (bb)))] := hl
  have iX0 : ∀ w ∈ wsX00, w ∈ wsX7_side := by decide +kernel
  have iX4 : ∀ w ∈ wsX40, w ∈ wsX7_side := by decide +kernel
  have iX5 : ∀ w ∈ wsX50, w ∈ wsX7_side := by decide +kernel
  have iX7 : ∀ w ∈ wsX70, w ∈ wsX7_side := by decide +kernel
  have hB := hI.s
  refine lv_aload_n hx hb dX7_side_0 rfl (lv_at hl 0 rfl) ?_
  refine lv_iload_n hx hb dX7_side_1 rfl (lv_at hl 1 rfl) ?_
  refine z_cVR (q0 := 0) (ci := 6) (As := [.int (iZ (cm))]) (rest := []) S (m_X7_isCamera l D g a (st) (cm) hI (by omega)) (cwV 1 hts gX7_side_X7_isCamera rfl rfl rfl (by decide +kernel) ⟨Nat.le_trans (by decide) hRf, Nat.le_trans (by decide) hRl⟩) hK hP rfl rfl rfl hl.1 rfl (Nat.le_of_ble_eq_true rfl) dX7_side_2 ⟨Nat.zero_le _, Nat.zero_le _⟩ ?_
  refine z_if_eq (tgt := 32) hx hb (b2_rg _) dX7_side_5 (by decide) (fun c1 => ?_) (fun c1 => ?_)
  · skip
    have c1 := b2_0 c1
    refine z_bipush hx hb dX7_side_32 (by decide +kernel) ?_
    exact K _ _ _ (by unfold aSide; first | rw [if_pos (by omega)] | rw [if_neg (by omega)]) dX7_side_34
  · skip
    have c1 := b2_n0 c1
    refine lv_aload_n hx hb dX7_side_8 rfl (lv_at hl 0 rfl) ?_
    refine lv_iload_n hx hb dX7_side_9 rfl (lv_at hl 2 rfl) ?_
    refine z_cVR (q0 := 0) (ci := 6) (As := [.int (iZ (bb))]) (rest := []) S (m_X7_isBoard l D g a (st) (bb) hI (by omega)) (cwV 1 hts gX7_side_X7_isBoard rfl rfl rfl (by decide +kernel) ⟨Nat.le_trans (by decide) hRf, Nat.le_trans (by decide) hRl⟩) hK hP rfl rfl rfl hl.1 rfl (Nat.le_of_ble_eq_true rfl) dX7_side_10 ⟨Nat.zero_le _, Nat.zero_le _⟩ ?_
    refine z_if_eq (tgt := 32) hx hb (b2_rg _) dX7_side_13 (by decide) (fun c2 => ?_) (fun c2 => ?_)
    · skip
      have c2 := b2_0 c2
      refine z_bipush hx hb dX7_side_32 (by decide +kernel) ?_
      exact K _ _ _ (by unfold aSide; first | rw [if_pos (by omega)] | rw [if_neg (by omega)]) dX7_side_34
    · skip
      have c2 := b2_n0 c2
      refine lv_aload_n hx hb dX7_side_16 rfl (lv_at hl 0 rfl) ?_
      refine z_get (C := RX7) (T := TX7) (N := 7) (ci := 6) hx hb hts iX7 hown hK hP 0 rfl rfl 2 (by decide) (hts (.fieldLink RX7 26 "ShotBoard" "script" "LShotBoard$Script;") (by decide +kernel)) (.ref (a 3)) rfl dX7_side_17 ?_
      refine z_get (C := RX5) (T := TX5) (N := 3) (ci := 4) hx hb hts iX5 hown hK hP 3 rfl rfl 0 (by decide) (hts (.fieldLink RX7 136 "ShotBoard$Script" "rows" "[LShotBoard$Board;") (by decide +kernel)) (.ref (a 13)) rfl dX7_side_20 ?_
      refine lv_iload_n hx hb dX7_side_23 rfl (lv_at hl 2 rfl) ?_
      refine z_aald hx hb hK hP (by omega) (by omega) dX7_side_24 ?_
      refine z_get (C := RX0) (T := TX0) (N := 8) (ci := 0) hx hb hts iX0 hown hK hP (19 + (bb).toNat) (WC_bd g a _ (by omega) (by omega)) rfl 0 (by decide) (hts (.fieldLink RX7 144 "ShotBoard$Board" "kind" "I") (by decide +kernel)) (.int (iZ (st 11 (bb)))) rfl dX7_side_25 ?_
      have f3 := hI.bd (bb) (by omega) (by omega)
      refine z_iconst hx hb dX7_side_28 ?_
      refine z_icmp_eq (tgt := 35) hx hb (by omega) (by decide) dX7_side_29 (by decide) (fun c4 => ?_) (fun c4 => ?_)
      · skip
        refine lv_aload_n hx hb dX7_side_35 rfl (lv_at hl 0 rfl) ?_
        refine z_get (C := RX7) (T := TX7) (N := 7) (ci := 6) hx hb hts iX7 hown hK hP 0 rfl rfl 3 (by decide) (hts (.fieldLink RX7 35 "ShotBoard" "judge" "LShotBoard$Judge;") (by decide +kernel)) (.ref (a 4)) rfl dX7_side_36 ?_
        refine lv_aload_n hx hb dX7_side_39 rfl (lv_at hl 0 rfl) ?_
        refine z_get (C := RX7) (T := TX7) (N := 7) (ci := 6) hx hb hts iX7 hown hK hP 0 rfl rfl 1 (by decide) (hts (.fieldLink RX7 19 "ShotBoard" "rig" "LShotBoard$Rig;") (by decide +kernel)) (.ref (a 2)) rfl dX7_side_40 ?_
        refine z_get (C := RX4) (T := TX4) (N := 3) (ci := 3) hx hb hts iX4 hown hK hP 2 rfl rfl 0 (by decide) (hts (.fieldLink RX7 122 "ShotBoard$Rig" "places" "[I") (by decide +kernel)) (.ref (a 11)) rfl dX7_side_43 ?_
        refine lv_iload_n hx hb dX7_side_46 rfl (lv_at hl 1 rfl) ?_
        refine z_iald hx hb hK hP 11 (st 3) rfl (by omega) (by omega) (by omega) dX7_side_47 ?_
        have f5 := hI.c3 (cm) (by omega) (by omega)
        refine lv_aload_n hx hb dX7_side_48 rfl (lv_at hl 0 rfl) ?_
        refine z_get (C := RX7) (T := TX7) (N := 7) (ci := 6) hx hb hts iX7 hown hK hP 0 rfl rfl 2 (by decide) (hts (.fieldLink RX7 26 "ShotBoard" "script" "LShotBoard$Script;") (by decide +kernel)) (.ref (a 3)) rfl dX7_side_49 ?_
        refine z_get (C := RX5) (T := TX5) (N := 3) (ci := 4) hx hb hts iX5 hown hK hP 3 rfl rfl 0 (by decide) (hts (.fieldLink RX7 136 "ShotBoard$Script" "rows" "[LShotBoard$Board;") (by decide +kernel)) (.ref (a 13)) rfl dX7_side_52 ?_
        refine lv_iload_n hx hb dX7_side_55 rfl (lv_at hl 2 rfl) ?_
        refine z_aald hx hb hK hP (by omega) (by omega) dX7_side_56 ?_
        refine z_cVR (q0 := 4) (ci := 1) (As := [.int (iZ (st 3 (cm))), .ref (a (19 + (bb).toNat))]) (rest := []) S (m_X1_sideOfMain l D g a (st) (st 3 (cm)) (bb) hI (by omega) (by omega)) (cwV 2 hts gX7_side_X1_sideOfMain rfl rfl rfl (by decide +kernel) ⟨Nat.le_trans (by decide) hRf, Nat.le_trans (by decide) hRl⟩) hK hP rfl rfl rfl hl.1 rfl (Nat.le_of_ble_eq_true rfl) dX7_side_57 ⟨Nat.zero_le _, Nat.zero_le _⟩ ?_
        have f6 := sg_b (crossZ (st 0 (st 12 (bb) * 60 + st 15 (bb))) (st 0 (PTN (st 12 (bb)) (st 13 (bb)) * 60 + st 15 (bb))) (st 3 (cm)))
        exact K _ _ _ (by unfold aSide; first | rw [if_pos (by omega)] | rw [if_neg (by omega)]) dX7_side_60
      · skip
        refine z_bipush hx hb dX7_side_32 (by decide +kernel) ?_
        exact K _ _ _ (by unfold aSide; first | rw [if_pos (by omega)] | rw [if_neg (by omega)]) dX7_side_34
abbrev rX7_length : Room := { frames := 2, cells := 0, slots := 0, locals := 48 }
set_option maxHeartbeats 4000000 in
set_option maxRecDepth 100000 in
theorem m_X7_length (l : Launch) (D : va_G) (g : Nat → ClassId) (a : Nat → Nat) (st : SS) (bb : Int) (hI : IC st) (h1 : rg bb) : Met l yX7_length wsX7_length rX7_length (PcR D g (WC g a st) [.ref (a 0), .int (iZ (bb))]) (QcRead (iZ (aLen (LENc st) (st 19 3) bb))) 0 0 (fun _ => False) := by
  refine metR (cc := cX7_length) (maxL := 2) (ret := (some .int)) (own := RX7) (by decide) rfl rfl (Nat.le_of_ble_eq_true rfl) (Or.inl rfl) ?_
  intro p e R s m args below meth c Q ls S hRf hRl hK hP hl K
  have hx := S.1
  have hb := S.2.1
  have hown := S.2.2.2.1
  have hts := S.2.2.2.2
  have hRf : 2 ≤ R.frames := hRf
  have hRl : 48 ≤ R.locals := hRl
  have hl : lv_has ls 2 [(0, .ref (a 0)), (1, .int (iZ (bb)))] := hl
  have iX7 : ∀ w ∈ wsX70, w ∈ wsX7_length := by decide +kernel
  have hB := hI.s
  refine lv_aload_n hx hb dX7_length_0 rfl (lv_at hl 0 rfl) ?_
  refine lv_iload_n hx hb dX7_length_1 rfl (lv_at hl 1 rfl) ?_
  refine z_cVR (q0 := 0) (ci := 6) (As := [.int (iZ (bb))]) (rest := []) S (m_X7_isBoard l D g a (st) (bb) hI (by omega)) (cwV 1 hts gX7_length_X7_isBoard rfl rfl rfl (by decide +kernel) ⟨Nat.le_trans (by decide) hRf, Nat.le_trans (by decide) hRl⟩) hK hP rfl rfl rfl hl.1 rfl (Nat.le_of_ble_eq_true rfl) dX7_length_2 ⟨Nat.zero_le _, Nat.zero_le _⟩ ?_
  refine z_if_ne (tgt := 10) hx hb (b2_rg _) dX7_length_5 (by decide) (fun c1 => ?_) (fun c1 => ?_)
  · skip
    have c1 := b2_n0 c1
    refine lv_aload_n hx hb dX7_length_10 rfl (lv_at hl 0 rfl) ?_
    refine z_get (C := RX7) (T := TX7) (N := 7) (ci := 6) hx hb hts iX7 hown hK hP 0 rfl rfl 2 (by decide) (hts (.fieldLink RX7 26 "ShotBoard" "script" "LShotBoard$Script;") (by decide +kernel)) (.ref (a 3)) rfl dX7_length_11 ?_
    refine lv_iload_n hx hb dX7_length_14 rfl (lv_at hl 1 rfl) ?_
    refine z_cVR (q0 := 3) (ci := 4) (As := [.int (iZ (bb))]) (rest := []) S (m_X5_lengthOf l D g a (st) (bb) hI (by omega)) (cwV 1 hts gX7_length_X5_lengthOf rfl rfl rfl (by decide +kernel) ⟨Nat.le_trans (by decide) hRf, Nat.le_trans (by decide) hRl⟩) hK hP rfl rfl rfl hl.1 rfl (Nat.le_of_ble_eq_true rfl) dX7_length_15 ⟨Nat.zero_le _, Nat.zero_le _⟩ ?_
    have f2 := LEN_b (fs := st 15 (bb)) (ls := st 16 (bb)) (wd := st 17 (bb)) (rt := st 19 4) (by have h9 := hI.bd (bb) (by omega) (by omega); omega) ((hI.bl (bb) (by omega) (by omega)).2.1) (by have h9 := hI.bd (bb) (by omega) (by omega); omega) (by have h9 := hI.bd (bb) (by omega) (by omega); omega) (by have h9 := hI.s; omega)
    exact K _ _ _ (by unfold aLen; first | rw [if_pos (by omega)] | rw [if_neg (by omega)]) dX7_length_18
  · skip
    have c1 := b2_0 c1
    refine z_iconst hx hb dX7_length_8 ?_
    exact K _ _ _ (by unfold aLen; first | rw [if_pos (by omega)] | rw [if_neg (by omega)]) dX7_length_9
abbrev rX7_run : Room := { frames := 2, cells := 0, slots := 0, locals := 48 }
set_option maxHeartbeats 4000000 in
set_option maxRecDepth 100000 in
theorem m_X7_run (l : Launch) (D : va_G) (g : Nat → ClassId) (a : Nat → Nat) (st : SS) (hI : IC st) : Met l yX7_run wsX7_run rX7_run (PcR D g (WC g a st) [.ref (a 0)]) (QcRead (iZ (sL (LENc st) (st 19 3).toNat 0))) 0 0 (fun _ => False) := by
  refine metR (cc := cX7_run) (maxL := 3) (ret := (some .int)) (own := RX7) (by decide) rfl rfl (Nat.le_of_ble_eq_true rfl) (Or.inl rfl) ?_
  intro p e R s m args below meth c Q ls S hRf hRl hK hP hl K
  have hx := S.1
  have hb := S.2.1
  have hown := S.2.2.2.1
  have hts := S.2.2.2.2
  have hRf : 2 ≤ R.frames := hRf
  have hRl : 48 ≤ R.locals := hRl
  have hl : lv_has ls 3 [(0, .ref (a 0))] := hl
  have iX5 : ∀ w ∈ wsX50, w ∈ wsX7_run := by decide +kernel
  have iX7 : ∀ w ∈ wsX70, w ∈ wsX7_run := by decide +kernel
  have hB := hI.s
  have hLb : ∀ j, 0 ≤ j → j < st 19 3 → 1 ≤ LENc st j ∧ LENc st j ≤ 220 := fun j a9 b9 => LEN_b (by have h9 := hI.bd j (by omega) (by omega); omega) ((hI.bl j (by omega) (by omega)).2.1) (by have h9 := hI.bd j (by omega) (by omega); omega) (by have h9 := hI.bd j (by omega) (by omega); omega) (by omega)
  refine z_iconst hx hb dX7_run_0 ?_
  refine lv_istore_n (lv' := [(1, .int (iZ (0))), (0, .ref (a 0))]) hx hb dX7_run_1 rfl hl (by decide) rfl (fun ls hl => ?_)
  refine z_iconst hx hb dX7_run_2 ?_
  refine lv_istore_n (lv' := [(2, .int (iZ (0))), (1, .int (iZ (0))), (0, .ref (a 0))]) hx hb dX7_run_3 rfl hl (by decide) rfl (fun ls hl => ?_)
  have LP4 : ∀ (n4 : Nat) (al : Int) (bb : Int), (st 19 3 - bb) < (n4 : Int) → (0 ≤ bb ∧ bb ≤ st 19 3) → (0 ≤ al ∧ al ≤ 220 * bb) → (sL (LENc st) (st 19 3).toNat 0 = al + sL (LENc st) (st 19 3 - bb).toNat bb) → ∀ (ls : Array Slot), lv_has ls 3 [(2, .int (iZ (bb))), (1, .int (iZ (al))), (0, .ref (a 0))] → W p l e R s m args below meth c s.heap [] 0 0 Q (F0 m 4 ls []) := by
    intro n4
    induction n4 with
    | zero =>
      intro al bb hm4 j1 j0 j2  ls hl
      exact absurd hm4 (by omega)
    | succ n4 ih4 =>
      intro al bb hm4 j1 j0 j2  ls hl
      refine lv_iload_n hx hb dX7_run_4 rfl (lv_at hl 0 rfl) ?_
      refine lv_aload_n hx hb dX7_run_5 rfl (lv_at hl 2 rfl) ?_
      refine z_get (C := RX7) (T := TX7) (N := 7) (ci := 6) hx hb hts iX7 hown hK hP 0 rfl rfl 2 (by decide) (hts (.fieldLink RX7 26 "ShotBoard" "script" "LShotBoard$Script;") (by decide +kernel)) (.ref (a 3)) rfl dX7_run_6 ?_
      refine z_get (C := RX5) (T := TX5) (N := 3) (ci := 4) hx hb hts iX5 hown hK hP 3 rfl rfl 1 (by decide) (hts (.fieldLink RX7 103 "ShotBoard$Script" "boards" "I") (by decide +kernel)) (.int (iZ (st 19 (3)))) rfl dX7_run_9 ?_
      refine z_icmp_ge (tgt := 32) hx hb (by omega) (by omega) dX7_run_12 (by decide) (fun c1 => ?_) (fun c1 => ?_)
      · skip
        refine lv_iload_n hx hb dX7_run_32 rfl (lv_at hl 1 rfl) ?_
        exact K _ _ _ (by rw [j2, show (st 19 3 - bb).toNat = 0 by omega]; simp [sL]) dX7_run_33
      · skip
        refine lv_iload_n hx hb dX7_run_15 rfl (lv_at hl 1 rfl) ?_
        refine lv_aload_n hx hb dX7_run_16 rfl (lv_at hl 2 rfl) ?_
        refine z_get (C := RX7) (T := TX7) (N := 7) (ci := 6) hx hb hts iX7 hown hK hP 0 rfl rfl 2 (by decide) (hts (.fieldLink RX7 26 "ShotBoard" "script" "LShotBoard$Script;") (by decide +kernel)) (.ref (a 3)) rfl dX7_run_17 ?_
        refine lv_iload_n hx hb dX7_run_20 rfl (lv_at hl 0 rfl) ?_
        refine z_cVR (q0 := 3) (ci := 4) (As := [.int (iZ (bb))]) (rest := [.int (iZ (al))]) S (m_X5_lengthOf l D g a (st) (bb) hI (by omega)) (cwV 1 hts gX7_run_X5_lengthOf rfl rfl rfl (by decide +kernel) ⟨Nat.le_trans (by decide) hRf, Nat.le_trans (by decide) hRl⟩) hK hP rfl rfl rfl hl.1 rfl (Nat.le_of_ble_eq_true rfl) dX7_run_21 ⟨Nat.zero_le _, Nat.zero_le _⟩ ?_
        have f2 := LEN_b (fs := st 15 (bb)) (ls := st 16 (bb)) (wd := st 17 (bb)) (rt := st 19 4) (by have h9 := hI.bd (bb) (by omega) (by omega); omega) ((hI.bl (bb) (by omega) (by omega)).2.1) (by have h9 := hI.bd (bb) (by omega) (by omega); omega) (by have h9 := hI.bd (bb) (by omega) (by omega); omega) (by have h9 := hI.s; omega)
        refine z_iadd hx hb dX7_run_24 ?_
        refine lv_istore_n (lv' := [(1, .int (iZ ((al) + (LEN (st 15 (bb)) (st 16 (bb)) (st 17 (bb)) (st 19 4))))), (2, .int (iZ (bb))), (0, .ref (a 0))]) hx hb dX7_run_25 rfl hl (by decide) rfl (fun ls hl => ?_)
        refine z_iinc (lv' := [(2, .int (iZ ((bb) + 1))), (1, .int (iZ ((al) + (LEN (st 15 (bb)) (st 16 (bb)) (st 17 (bb)) (st 19 4))))), (0, .ref (a 0))]) hx hb dX7_run_26 hl (k := 1) rfl (by decide) rfl (fun ls hl => ?_)
        refine lv_goto (tgt := 4) hx hb dX7_run_29 (by decide) ?_
        exact ih4 ((al) + (LEN (st 15 (bb)) (st 16 (bb)) (st 17 (bb)) (st 19 4))) ((bb) + 1) (by omega) (by omega) (by omega) (by rw [j2, show (st 19 3 - bb).toNat = (st 19 3 - (bb + 1)).toNat + 1 by omega, sL_s, Int.add_assoc])  ls (lv_sub hl [0, 1, 2] rfl)
  exact LP4 ((st 19 3 - (0)) + 1 : Int).toNat (0) (0) (by omega) (by omega) (by omega) (by simp)  ls (lv_sub hl [0, 1, 2] rfl)
abbrev rX7_frame : Room := { frames := 2, cells := 0, slots := 0, locals := 48 }
set_option maxHeartbeats 4000000 in
set_option maxRecDepth 100000 in
theorem m_X7_frame (l : Launch) (D : va_G) (g : Nat → ClassId) (a : Nat → Nat) (st : SS) (ff : Int) (hI : IC st) (h1 : rg ff) : Met l yX7_frame wsX7_frame rX7_frame (PcR D g (WC g a st) [.ref (a 0), .int (iZ (ff))]) (QcRead (iZ (aFrame (LENc st) (st 19 3) ff))) 0 0 (fun _ => False) := by
  refine metR (cc := cX7_frame) (maxL := 5) (ret := (some .int)) (own := RX7) (by decide) rfl rfl (Nat.le_of_ble_eq_true rfl) (Or.inl rfl) ?_
  intro p e R s m args below meth c Q ls S hRf hRl hK hP hl K
  have hx := S.1
  have hb := S.2.1
  have hown := S.2.2.2.1
  have hts := S.2.2.2.2
  have hRf : 2 ≤ R.frames := hRf
  have hRl : 48 ≤ R.locals := hRl
  have hl : lv_has ls 5 [(0, .ref (a 0)), (1, .int (iZ (ff)))] := hl
  have iX5 : ∀ w ∈ wsX50, w ∈ wsX7_frame := by decide +kernel
  have iX7 : ∀ w ∈ wsX70, w ∈ wsX7_frame := by decide +kernel
  have hB := hI.s
  have hLb : ∀ j, 0 ≤ j → j < st 19 3 → 1 ≤ LENc st j ∧ LENc st j ≤ 220 := fun j a9 b9 => LEN_b (by have h9 := hI.bd j (by omega) (by omega); omega) ((hI.bl j (by omega) (by omega)).2.1) (by have h9 := hI.bd j (by omega) (by omega); omega) (by have h9 := hI.bd j (by omega) (by omega); omega) (by omega)
  refine lv_iload_n hx hb dX7_frame_0 rfl (lv_at hl 1 rfl) ?_
  refine z_if_ge (tgt := 6) hx hb (by omega) dX7_frame_1 (by decide) (fun c1 => ?_) (fun c1 => ?_)
  · skip
    refine lv_iload_n hx hb dX7_frame_6 rfl (lv_at hl 1 rfl) ?_
    refine lv_istore_n (lv' := [(2, .int (iZ (ff))), (0, .ref (a 0)), (1, .int (iZ (ff)))]) hx hb dX7_frame_7 rfl hl (by decide) rfl (fun ls hl => ?_)
    refine z_iconst hx hb dX7_frame_8 ?_
    refine lv_istore_n (lv' := [(3, .int (iZ (0))), (2, .int (iZ (ff))), (0, .ref (a 0)), (1, .int (iZ (ff)))]) hx hb dX7_frame_9 rfl hl (by decide) rfl (fun ls hl => ?_)
    have LP10 : ∀ (n10 : Nat) (le : Int) (bb : Int), (st 19 3 - bb) < (n10 : Int) → (0 ≤ bb ∧ bb ≤ st 19 3) → (0 ≤ le ∧ le < 2147483648) → (fR (LENc st) (st 19 3).toNat 0 ff = fR (LENc st) (st 19 3 - bb).toNat bb le) → ∀ (ls : Array Slot), lv_has ls 5 [(3, .int (iZ (bb))), (2, .int (iZ (le))), (0, .ref (a 0)), (1, .int (iZ (ff)))] → W p l e R s m args below meth c s.heap [] 0 0 Q (F0 m 10 ls []) := by
      intro n10
      induction n10 with
      | zero =>
        intro le bb hm10 j1 j0 j2  ls hl
        exact absurd hm10 (by omega)
      | succ n10 ih10 =>
        intro le bb hm10 j1 j0 j2  ls hl
        refine lv_iload_n hx hb dX7_frame_10 rfl (lv_at hl 0 rfl) ?_
        refine lv_aload_n hx hb dX7_frame_11 rfl (lv_at hl 2 rfl) ?_
        refine z_get (C := RX7) (T := TX7) (N := 7) (ci := 6) hx hb hts iX7 hown hK hP 0 rfl rfl 2 (by decide) (hts (.fieldLink RX7 26 "ShotBoard" "script" "LShotBoard$Script;") (by decide +kernel)) (.ref (a 3)) rfl dX7_frame_12 ?_
        refine z_get (C := RX5) (T := TX5) (N := 3) (ci := 4) hx hb hts iX5 hown hK hP 3 rfl rfl 1 (by decide) (hts (.fieldLink RX7 103 "ShotBoard$Script" "boards" "I") (by decide +kernel)) (.int (iZ (st 19 (3)))) rfl dX7_frame_15 ?_
        refine z_icmp_ge (tgt := 50) hx hb (by omega) (by omega) dX7_frame_18 (by decide) (fun c2 => ?_) (fun c2 => ?_)
        · skip
          refine z_iconst hx hb dX7_frame_50 ?_
          exact K _ _ _ (by unfold aFrame; rw [if_pos (by omega), j2, show (st 19 3 - bb).toNat = 0 by omega]; rfl) dX7_frame_51
        · skip
          refine lv_aload_n hx hb dX7_frame_21 rfl (lv_at hl 2 rfl) ?_
          refine z_get (C := RX7) (T := TX7) (N := 7) (ci := 6) hx hb hts iX7 hown hK hP 0 rfl rfl 2 (by decide) (hts (.fieldLink RX7 26 "ShotBoard" "script" "LShotBoard$Script;") (by decide +kernel)) (.ref (a 3)) rfl dX7_frame_22 ?_
          refine lv_iload_n hx hb dX7_frame_25 rfl (lv_at hl 0 rfl) ?_
          refine z_cVR (q0 := 3) (ci := 4) (As := [.int (iZ (bb))]) (rest := []) S (m_X5_lengthOf l D g a (st) (bb) hI (by omega)) (cwV 1 hts gX7_frame_X5_lengthOf rfl rfl rfl (by decide +kernel) ⟨Nat.le_trans (by decide) hRf, Nat.le_trans (by decide) hRl⟩) hK hP rfl rfl rfl hl.1 rfl (Nat.le_of_ble_eq_true rfl) dX7_frame_26 ⟨Nat.zero_le _, Nat.zero_le _⟩ ?_
          have f3 := LEN_b (fs := st 15 (bb)) (ls := st 16 (bb)) (wd := st 17 (bb)) (rt := st 19 4) (by have h9 := hI.bd (bb) (by omega) (by omega); omega) ((hI.bl (bb) (by omega) (by omega)).2.1) (by have h9 := hI.bd (bb) (by omega) (by omega); omega) (by have h9 := hI.bd (bb) (by omega) (by omega); omega) (by have h9 := hI.s; omega)
          refine lv_istore (lv' := [(4, .int (iZ (LEN (st 15 (bb)) (st 16 (bb)) (st 17 (bb)) (st 19 4)))), (3, .int (iZ (bb))), (2, .int (iZ (le))), (0, .ref (a 0)), (1, .int (iZ (ff)))]) hx hb dX7_frame_29 hl (by decide) rfl (fun ls hl => ?_)
          refine lv_iload_n hx hb dX7_frame_31 rfl (lv_at hl 2 rfl) ?_
          refine lv_iload hx hb dX7_frame_32 (lv_at hl 0 rfl) ?_
          refine z_icmp_ge (tgt := 39) hx hb (by omega) (by omega) dX7_frame_34 (by decide) (fun c4 => ?_) (fun c4 => ?_)
          · skip
            have hfl := c4
            refine lv_iload_n hx hb dX7_frame_39 rfl (lv_at hl 2 rfl) ?_
            refine lv_iload hx hb dX7_frame_40 (lv_at hl 0 rfl) ?_
            refine z_isub hx hb dX7_frame_42 ?_
            refine lv_istore_n (lv' := [(2, .int (iZ ((le) - (LEN (st 15 (bb)) (st 16 (bb)) (st 17 (bb)) (st 19 4))))), (4, .int (iZ (LEN (st 15 (bb)) (st 16 (bb)) (st 17 (bb)) (st 19 4)))), (3, .int (iZ (bb))), (0, .ref (a 0)), (1, .int (iZ (ff)))]) hx hb dX7_frame_43 rfl hl (by decide) rfl (fun ls hl => ?_)
            refine z_iinc (lv' := [(3, .int (iZ ((bb) + 1))), (2, .int (iZ ((le) - (LEN (st 15 (bb)) (st 16 (bb)) (st 17 (bb)) (st 19 4))))), (4, .int (iZ (LEN (st 15 (bb)) (st 16 (bb)) (st 17 (bb)) (st 19 4)))), (0, .ref (a 0)), (1, .int (iZ (ff)))]) hx hb dX7_frame_44 hl (k := 2) rfl (by decide) rfl (fun ls hl => ?_)
            refine lv_goto (tgt := 10) hx hb dX7_frame_47 (by decide) ?_
            exact ih10 ((le) - (LEN (st 15 (bb)) (st 16 (bb)) (st 17 (bb)) (st 19 4))) ((bb) + 1) (by omega) (by omega) (by omega) (by rw [j2, show (st 19 3 - bb).toNat = (st 19 3 - (bb + 1)).toNat + 1 by omega, fR_f (L := LENc st) (Int.not_lt.mpr hfl)])  ls (lv_sub hl [0, 1, 3, 4] rfl)
          · skip
            have hfl := c4
            refine lv_iload_n hx hb dX7_frame_37 rfl (lv_at hl 1 rfl) ?_
            exact K _ _ _ (by unfold aFrame; rw [if_pos (by omega), j2, show (st 19 3 - bb).toNat = (st 19 3 - (bb + 1)).toNat + 1 by omega, fR_t (L := LENc st) hfl]) dX7_frame_38
    exact LP10 ((st 19 3 - (0)) + 1 : Int).toNat (ff) (0) (by omega) (by omega) (by omega) (by simp)  ls (lv_sub hl [0, 1, 2, 3] rfl)
  · skip
    refine z_iconst hx hb dX7_frame_4 ?_
    exact K _ _ _ (by unfold aFrame; rw [if_neg (by omega)]) dX7_frame_5
abbrev rX7_count : Room := { frames := 0, cells := 0, slots := 0, locals := 0 }
set_option maxHeartbeats 4000000 in
set_option maxRecDepth 100000 in
theorem m_X7_count (l : Launch) (D : va_G) (g : Nat → ClassId) (a : Nat → Nat) (st : SS) (xx : Int) (hx0 : rg xx) : Met l yX7_count wsX7_count rX7_count (PcR D g (WC g a st) [.ref (a 0), .int (iZ (xx))]) (QcRead (iZ (aCount (st 19 0) (st 19 1) (st 19 2) (st 19 3) (st 19 5) xx))) 0 0 (fun _ => False) := by
  refine metR (cc := cX7_count) (maxL := 2) (ret := (some .int)) (own := RX7) (by decide) rfl rfl (Nat.le_of_ble_eq_true rfl) (Or.inl rfl) ?_
  intro p e R s m args below meth c Q ls S hRf hRl hK hP hl K
  have hx := S.1
  have hb := S.2.1
  have hown := S.2.2.2.1
  have hts := S.2.2.2.2
  have hRf : 0 ≤ R.frames := hRf
  have hRl : 0 ≤ R.locals := hRl
  have hl : lv_has ls 2 [(0, .ref (a 0)), (1, .int (iZ (xx)))] := hl
  have iX4 : ∀ w ∈ wsX40, w ∈ wsX7_count := by decide +kernel
  have iX5 : ∀ w ∈ wsX50, w ∈ wsX7_count := by decide +kernel
  have iX6 : ∀ w ∈ wsX60, w ∈ wsX7_count := by decide +kernel
  have iX7 : ∀ w ∈ wsX70, w ∈ wsX7_count := by decide +kernel
  refine lv_iload_n hx hb dX7_count_0 rfl (lv_at hl 1 rfl) ?_
  rcases Classical.em (xx = 0) with w1 | w1
  · subst w1
    refine lv_tableIn (off := 35) (tgt := 36) hx hb dX7_count_1 (by decide +kernel) (by decide +kernel) (by decide +kernel) (by decide) ?_
    refine lv_aload_n hx hb dX7_count_36 rfl (lv_at hl 0 rfl) ?_
    refine z_get (C := RX7) (T := TX7) (N := 7) (ci := 6) hx hb hts iX7 hown hK hP 0 rfl rfl 0 (by decide) (hts (.fieldLink RX7 10 "ShotBoard" "stage" "LShotBoard$Stage;") (by decide +kernel)) (.ref (a 1)) rfl dX7_count_37 ?_
    refine z_get (C := RX6) (T := TX6) (N := 6) (ci := 5) hx hb hts iX6 hown hK hP 1 rfl rfl 4 (by decide) (hts (.fieldLink RX7 56 "ShotBoard$Stage" "persons" "I") (by decide +kernel)) (.int (iZ (st 19 (0)))) rfl dX7_count_40 ?_
    exact K _ _ _ (by first | rfl | (unfold aCount; rw [if_neg (by omega), if_neg (by omega), if_neg (by omega), if_neg (by omega), if_neg (by omega)])) dX7_count_43
  · skip
    rcases Classical.em (xx = 1) with w2 | w2
    · subst w2
      refine lv_tableIn (off := 43) (tgt := 44) hx hb dX7_count_1 (by decide +kernel) (by decide +kernel) (by decide +kernel) (by decide) ?_
      refine lv_aload_n hx hb dX7_count_44 rfl (lv_at hl 0 rfl) ?_
      refine z_get (C := RX7) (T := TX7) (N := 7) (ci := 6) hx hb hts iX7 hown hK hP 0 rfl rfl 0 (by decide) (hts (.fieldLink RX7 10 "ShotBoard" "stage" "LShotBoard$Stage;") (by decide +kernel)) (.ref (a 1)) rfl dX7_count_45 ?_
      refine z_get (C := RX6) (T := TX6) (N := 6) (ci := 5) hx hb hts iX6 hown hK hP 1 rfl rfl 5 (by decide) (hts (.fieldLink RX7 84 "ShotBoard$Stage" "walls" "I") (by decide +kernel)) (.int (iZ (st 19 (1)))) rfl dX7_count_48 ?_
      exact K _ _ _ (by first | rfl | (unfold aCount; rw [if_neg (by omega), if_neg (by omega), if_neg (by omega), if_neg (by omega), if_neg (by omega)])) dX7_count_51
    · skip
      rcases Classical.em (xx = 2) with w3 | w3
      · subst w3
        refine lv_tableIn (off := 51) (tgt := 52) hx hb dX7_count_1 (by decide +kernel) (by decide +kernel) (by decide +kernel) (by decide) ?_
        refine lv_aload_n hx hb dX7_count_52 rfl (lv_at hl 0 rfl) ?_
        refine z_get (C := RX7) (T := TX7) (N := 7) (ci := 6) hx hb hts iX7 hown hK hP 0 rfl rfl 1 (by decide) (hts (.fieldLink RX7 19 "ShotBoard" "rig" "LShotBoard$Rig;") (by decide +kernel)) (.ref (a 2)) rfl dX7_count_53 ?_
        refine z_get (C := RX4) (T := TX4) (N := 3) (ci := 3) hx hb hts iX4 hown hK hP 2 rfl rfl 2 (by decide) (hts (.fieldLink RX7 91 "ShotBoard$Rig" "cameras" "I") (by decide +kernel)) (.int (iZ (st 19 (2)))) rfl dX7_count_56 ?_
        exact K _ _ _ (by first | rfl | (unfold aCount; rw [if_neg (by omega), if_neg (by omega), if_neg (by omega), if_neg (by omega), if_neg (by omega)])) dX7_count_59
      · skip
        rcases Classical.em (xx = 3) with w4 | w4
        · subst w4
          refine lv_tableIn (off := 59) (tgt := 60) hx hb dX7_count_1 (by decide +kernel) (by decide +kernel) (by decide +kernel) (by decide) ?_
          refine lv_aload_n hx hb dX7_count_60 rfl (lv_at hl 0 rfl) ?_
          refine z_get (C := RX7) (T := TX7) (N := 7) (ci := 6) hx hb hts iX7 hown hK hP 0 rfl rfl 2 (by decide) (hts (.fieldLink RX7 26 "ShotBoard" "script" "LShotBoard$Script;") (by decide +kernel)) (.ref (a 3)) rfl dX7_count_61 ?_
          refine z_get (C := RX5) (T := TX5) (N := 3) (ci := 4) hx hb hts iX5 hown hK hP 3 rfl rfl 1 (by decide) (hts (.fieldLink RX7 103 "ShotBoard$Script" "boards" "I") (by decide +kernel)) (.int (iZ (st 19 (3)))) rfl dX7_count_64 ?_
          exact K _ _ _ (by first | rfl | (unfold aCount; rw [if_neg (by omega), if_neg (by omega), if_neg (by omega), if_neg (by omega), if_neg (by omega)])) dX7_count_67
        · skip
          rcases Classical.em (xx = 4) with w5 | w5
          · subst w5
            refine lv_tableIn (off := 67) (tgt := 68) hx hb dX7_count_1 (by decide +kernel) (by decide +kernel) (by decide +kernel) (by decide) ?_
            refine lv_aload_n hx hb dX7_count_68 rfl (lv_at hl 0 rfl) ?_
            refine z_get (C := RX7) (T := TX7) (N := 7) (ci := 6) hx hb hts iX7 hown hK hP 0 rfl rfl 6 (by decide) (hts (.fieldLink RX7 171 "ShotBoard" "toldCount" "I") (by decide +kernel)) (.int (iZ (st 19 (5)))) rfl dX7_count_69 ?_
            exact K _ _ _ (by first | rfl | (unfold aCount; rw [if_neg (by omega), if_neg (by omega), if_neg (by omega), if_neg (by omega), if_neg (by omega)])) dX7_count_72
          · skip
            refine lv_tableOut (tgt := 73) hx hb dX7_count_1 (by rw [iZ_t (by omega)]; omega) (by decide) ?_
            refine z_iconst hx hb dX7_count_73 ?_
            exact K _ _ _ (by first | rfl | (unfold aCount; rw [if_neg (by omega), if_neg (by omega), if_neg (by omega), if_neg (by omega), if_neg (by omega)])) dX7_count_74
abbrev rX7_crossingsOfTold : Room := { frames := 4, cells := 0, slots := 0, locals := 89 }
set_option maxHeartbeats 4000000 in
set_option maxRecDepth 100000 in
theorem m_X7_crossingsOfTold (l : Launch) (D : va_G) (g : Nat → ClassId) (a : Nat → Nat) (st : SS) (nn : Int) (hI : IC st) (h1 : nn = st 19 3) (h2 : ∀ i, 0 ≤ i → i < nn → st 5 i < st 19 2) : Met l yX7_crossingsOfTold wsX7_crossingsOfTold rX7_crossingsOfTold (PcR D g (WC g a st) [.ref (a 0), .int (iZ (nn))]) (QcRead (iZ (CR (st 11) (st 18) (fun b => SDL st b (st 3 (st 5 b))) nn.toNat 0 0))) 0 0 (fun _ => False) := by
  refine metR (cc := cX7_crossingsOfTold) (maxL := 7) (ret := (some .int)) (own := RX7) (by decide) rfl rfl (Nat.le_of_ble_eq_true rfl) (Or.inl rfl) ?_
  intro p e R s m args below meth c Q ls S hRf hRl hK hP hl K
  have hx := S.1
  have hb := S.2.1
  have hown := S.2.2.2.1
  have hts := S.2.2.2.2
  have hRf : 4 ≤ R.frames := hRf
  have hRl : 89 ≤ R.locals := hRl
  have hl : lv_has ls 7 [(0, .ref (a 0)), (1, .int (iZ (nn)))] := hl
  have iX0 : ∀ w ∈ wsX00, w ∈ wsX7_crossingsOfTold := by decide +kernel
  have iX4 : ∀ w ∈ wsX40, w ∈ wsX7_crossingsOfTold := by decide +kernel
  have iX5 : ∀ w ∈ wsX50, w ∈ wsX7_crossingsOfTold := by decide +kernel
  have iX7 : ∀ w ∈ wsX70, w ∈ wsX7_crossingsOfTold := by decide +kernel
  have hB := hI.s
  refine z_iconst hx hb dX7_crossingsOfTold_0 ?_
  refine lv_istore_n (lv' := [(2, .int (iZ (0))), (0, .ref (a 0)), (1, .int (iZ (nn)))]) hx hb dX7_crossingsOfTold_1 rfl hl (by decide) rfl (fun ls hl => ?_)
  refine z_iconst hx hb dX7_crossingsOfTold_2 ?_
  refine lv_istore_n (lv' := [(3, .int (iZ (0))), (2, .int (iZ (0))), (0, .ref (a 0)), (1, .int (iZ (nn)))]) hx hb dX7_crossingsOfTold_3 rfl hl (by decide) rfl (fun ls hl => ?_)
  refine z_iconst hx hb dX7_crossingsOfTold_4 ?_
  refine lv_istore (lv' := [(4, .int (iZ (0))), (3, .int (iZ (0))), (2, .int (iZ (0))), (0, .ref (a 0)), (1, .int (iZ (nn)))]) hx hb dX7_crossingsOfTold_5 hl (by decide) rfl (fun ls hl => ?_)
  have LP7 : ∀ (n7 : Nat) (cr : Int) (la : Int) (bb : Int), (nn - bb) < (n7 : Int) → (0 ≤ bb ∧ bb ≤ nn) → (0 ≤ cr ∧ cr ≤ bb) → (-1 ≤ la ∧ la ≤ 1) → (CR (st 11) (st 18) (fun b => SDL st b (st 3 (st 5 b))) nn.toNat 0 0 = cr + CR (st 11) (st 18) (fun b => SDL st b (st 3 (st 5 b))) (nn - bb).toNat bb la) → ∀ (ls : Array Slot), lv_has ls 7 [(4, .int (iZ (bb))), (3, .int (iZ (la))), (2, .int (iZ (cr))), (0, .ref (a 0)), (1, .int (iZ (nn)))] → W p l e R s m args below meth c s.heap [] 0 0 Q (F0 m 7 ls []) := by
    intro n7
    induction n7 with
    | zero =>
      intro cr la bb hm7 j1 j0 j3 j2  ls hl
      exact absurd hm7 (by omega)
    | succ n7 ih7 =>
      intro cr la bb hm7 j1 j0 j3 j2  ls hl
      refine lv_iload hx hb dX7_crossingsOfTold_7 (lv_at hl 0 rfl) ?_
      refine lv_iload_n hx hb dX7_crossingsOfTold_9 rfl (lv_at hl 4 rfl) ?_
      refine z_icmp_ge (tgt := 87) hx hb (by omega) (by omega) dX7_crossingsOfTold_10 (by decide) (fun c1 => ?_) (fun c1 => ?_)
      · skip
        refine lv_iload_n hx hb dX7_crossingsOfTold_87 rfl (lv_at hl 2 rfl) ?_
        exact K _ _ _ (by rw [j2, show (nn - bb).toNat = 0 by omega]; simp [CR]) dX7_crossingsOfTold_88
      · skip
        have hbR := hI.bd bb (by omega) (by omega)
        have hto := h2 bb (by omega) (by omega)
        have hSb := SDL_b st bb (st 3 (st 5 bb))
        have hm := mul_b (x := la) (y := SDL st bb (st 3 (st 5 bb))) (A := 1) (B := 1) (by omega) (by omega) (by omega) (by omega)
        refine lv_aload_n hx hb dX7_crossingsOfTold_13 rfl (lv_at hl 3 rfl) ?_
        refine z_get (C := RX7) (T := TX7) (N := 7) (ci := 6) hx hb hts iX7 hown hK hP 0 rfl rfl 2 (by decide) (hts (.fieldLink RX7 26 "ShotBoard" "script" "LShotBoard$Script;") (by decide +kernel)) (.ref (a 3)) rfl dX7_crossingsOfTold_14 ?_
        refine z_get (C := RX5) (T := TX5) (N := 3) (ci := 4) hx hb hts iX5 hown hK hP 3 rfl rfl 0 (by decide) (hts (.fieldLink RX7 136 "ShotBoard$Script" "rows" "[LShotBoard$Board;") (by decide +kernel)) (.ref (a 13)) rfl dX7_crossingsOfTold_17 ?_
        refine lv_iload hx hb dX7_crossingsOfTold_20 (lv_at hl 0 rfl) ?_
        refine z_aald hx hb hK hP (by omega) (by omega) dX7_crossingsOfTold_22 ?_
        refine lv_astore (lv' := [(5, .ref (a (19 + (bb).toNat))), (4, .int (iZ (bb))), (3, .int (iZ (la))), (2, .int (iZ (cr))), (0, .ref (a 0)), (1, .int (iZ (nn)))]) hx hb dX7_crossingsOfTold_23 hl (by decide) rfl (fun ls hl => ?_)
        refine lv_aload hx hb dX7_crossingsOfTold_25 (lv_at hl 0 rfl) ?_
        refine z_get (C := RX0) (T := TX0) (N := 8) (ci := 0) hx hb hts iX0 hown hK hP (19 + (bb).toNat) (WC_bd g a _ (by omega) (by omega)) rfl 0 (by decide) (hts (.fieldLink RX7 144 "ShotBoard$Board" "kind" "I") (by decide +kernel)) (.int (iZ (st 11 (bb)))) rfl dX7_crossingsOfTold_27 ?_
        refine z_iconst hx hb dX7_crossingsOfTold_30 ?_
        refine z_icmp_ne (tgt := 81) hx hb (by omega) (by decide) dX7_crossingsOfTold_31 (by decide) (fun c2 => ?_) (fun c2 => ?_)
        · skip
          have hk := c2
          refine z_iinc (lv' := [(4, .int (iZ ((bb) + 1))), (5, .ref (a (19 + (bb).toNat))), (3, .int (iZ (la))), (2, .int (iZ (cr))), (0, .ref (a 0)), (1, .int (iZ (nn)))]) hx hb dX7_crossingsOfTold_81 hl (k := 1) rfl (by decide) rfl (fun ls hl => ?_)
          refine lv_goto (tgt := 7) hx hb dX7_crossingsOfTold_84 (by decide) ?_
          have hst : CR (st 11) (st 18) (fun b => SDL st b (st 3 (st 5 b))) (nn - bb).toNat bb la = CR (st 11) (st 18) (fun b => SDL st b (st 3 (st 5 b))) ((nn - (bb + 1)).toNat + 1) bb la := by rw [show (nn - bb).toNat = (nn - (bb + 1)).toNat + 1 by omega]
          exact ih7 (cr) (la) ((bb) + 1) (by omega) (by omega) (by omega) (by omega) (by first | (rw [j2, hst, CR_f hk]) | (rw [j2, hst, CR_t hk, hct]; omega))  ls (lv_sub hl [0, 2, 3, 4, 5] rfl)
        · skip
          have hk := c2
          refine lv_aload_n hx hb dX7_crossingsOfTold_34 rfl (lv_at hl 4 rfl) ?_
          refine z_get (C := RX7) (T := TX7) (N := 7) (ci := 6) hx hb hts iX7 hown hK hP 0 rfl rfl 3 (by decide) (hts (.fieldLink RX7 35 "ShotBoard" "judge" "LShotBoard$Judge;") (by decide +kernel)) (.ref (a 4)) rfl dX7_crossingsOfTold_35 ?_
          refine lv_aload_n hx hb dX7_crossingsOfTold_38 rfl (lv_at hl 4 rfl) ?_
          refine z_get (C := RX7) (T := TX7) (N := 7) (ci := 6) hx hb hts iX7 hown hK hP 0 rfl rfl 1 (by decide) (hts (.fieldLink RX7 19 "ShotBoard" "rig" "LShotBoard$Rig;") (by decide +kernel)) (.ref (a 2)) rfl dX7_crossingsOfTold_39 ?_
          refine z_get (C := RX4) (T := TX4) (N := 3) (ci := 3) hx hb hts iX4 hown hK hP 2 rfl rfl 0 (by decide) (hts (.fieldLink RX7 122 "ShotBoard$Rig" "places" "[I") (by decide +kernel)) (.ref (a 11)) rfl dX7_crossingsOfTold_42 ?_
          refine lv_aload_n hx hb dX7_crossingsOfTold_45 rfl (lv_at hl 4 rfl) ?_
          refine z_get (C := RX7) (T := TX7) (N := 7) (ci := 6) hx hb hts iX7 hown hK hP 0 rfl rfl 5 (by decide) (hts (.fieldLink RX7 48 "ShotBoard" "told" "[I") (by decide +kernel)) (.ref (a 6)) rfl dX7_crossingsOfTold_46 ?_
          refine lv_iload hx hb dX7_crossingsOfTold_49 (lv_at hl 1 rfl) ?_
          refine z_iald hx hb hK hP 6 (st 5) rfl (by omega) (by omega) (by omega) dX7_crossingsOfTold_51 ?_
          have f3 := hI.c5 (bb) (by omega) (by omega)
          refine z_iald hx hb hK hP 11 (st 3) rfl (by omega) (by omega) (by omega) dX7_crossingsOfTold_52 ?_
          have f4 := hI.c3 (st 5 (bb)) (by omega) (by omega)
          refine lv_aload hx hb dX7_crossingsOfTold_53 (lv_at hl 0 rfl) ?_
          refine z_cVR (q0 := 4) (ci := 1) (As := [.int (iZ (st 3 (st 5 (bb)))), .ref (a (19 + (bb).toNat))]) (rest := []) S (m_X1_sideOfLesser l D g a (st) (st 3 (st 5 (bb))) (bb) hI (by omega) (by omega)) (cwV 2 hts gX7_crossingsOfTold_X1_sideOfLesser rfl rfl rfl (by decide +kernel) ⟨Nat.le_trans (by decide) hRf, Nat.le_trans (by decide) hRl⟩) hK hP rfl rfl rfl hl.1 rfl (Nat.le_of_ble_eq_true rfl) dX7_crossingsOfTold_55 ⟨Nat.zero_le _, Nat.zero_le _⟩ ?_
          have f5 := SDL_b st (bb) (st 3 (st 5 (bb)))
          refine lv_istore (lv' := [(6, .int (iZ (SDL st (bb) (st 3 (st 5 (bb)))))), (5, .ref (a (19 + (bb).toNat))), (4, .int (iZ (bb))), (3, .int (iZ (la))), (2, .int (iZ (cr))), (0, .ref (a 0)), (1, .int (iZ (nn)))]) hx hb dX7_crossingsOfTold_58 hl (by decide) rfl (fun ls hl => ?_)
          refine lv_aload hx hb dX7_crossingsOfTold_60 (lv_at hl 1 rfl) ?_
          refine z_get (C := RX0) (T := TX0) (N := 8) (ci := 0) hx hb hts iX0 hown hK hP (19 + (bb).toNat) (WC_bd g a _ (by omega) (by omega)) rfl 7 (by decide) (hts (.fieldLink RX7 180 "ShotBoard$Board" "cutsOnPair" "Z") (by decide +kernel)) (.int (iZ (st 18 (bb)))) rfl dX7_crossingsOfTold_62 ?_
          refine z_if_eq (tgt := 78) hx hb (by omega) dX7_crossingsOfTold_65 (by decide) (fun c6 => ?_) (fun c6 => ?_)
          · skip
            have hct : b2 (st 18 bb = 1 ∧ la * (fun b => SDL st b (st 3 (st 5 b))) bb < 0) = 0 := b2_f (fun z => by have := z.1; omega)
            refine lv_iload hx hb dX7_crossingsOfTold_78 (lv_at hl 0 rfl) ?_
            refine lv_istore_n (lv' := [(3, .int (iZ (SDL st (bb) (st 3 (st 5 (bb)))))), (6, .int (iZ (SDL st (bb) (st 3 (st 5 (bb)))))), (5, .ref (a (19 + (bb).toNat))), (4, .int (iZ (bb))), (2, .int (iZ (cr))), (0, .ref (a 0)), (1, .int (iZ (nn)))]) hx hb dX7_crossingsOfTold_80 rfl hl (by decide) rfl (fun ls hl => ?_)
            refine z_iinc (lv' := [(4, .int (iZ ((bb) + 1))), (3, .int (iZ (SDL st (bb) (st 3 (st 5 (bb)))))), (6, .int (iZ (SDL st (bb) (st 3 (st 5 (bb)))))), (5, .ref (a (19 + (bb).toNat))), (2, .int (iZ (cr))), (0, .ref (a 0)), (1, .int (iZ (nn)))]) hx hb dX7_crossingsOfTold_81 hl (k := 3) rfl (by decide) rfl (fun ls hl => ?_)
            refine lv_goto (tgt := 7) hx hb dX7_crossingsOfTold_84 (by decide) ?_
            have hst : CR (st 11) (st 18) (fun b => SDL st b (st 3 (st 5 b))) (nn - bb).toNat bb la = CR (st 11) (st 18) (fun b => SDL st b (st 3 (st 5 b))) ((nn - (bb + 1)).toNat + 1) bb la := by rw [show (nn - bb).toNat = (nn - (bb + 1)).toNat + 1 by omega]
            exact ih7 (cr) (SDL st (bb) (st 3 (st 5 (bb)))) ((bb) + 1) (by omega) (by omega) (by omega) (by omega) (by first | (rw [j2, hst, CR_f hk]) | (rw [j2, hst, CR_t hk, hct]; omega))  ls (lv_sub hl [0, 1, 4, 5, 6] rfl)
          · skip
            refine lv_iload_n hx hb dX7_crossingsOfTold_68 rfl (lv_at hl 3 rfl) ?_
            refine lv_iload hx hb dX7_crossingsOfTold_69 (lv_at hl 0 rfl) ?_
            refine z_imul hx hb dX7_crossingsOfTold_71 ?_
            refine z_if_ge (tgt := 78) hx hb (by omega) dX7_crossingsOfTold_72 (by decide) (fun c7 => ?_) (fun c7 => ?_)
            · skip
              have hct : b2 (st 18 bb = 1 ∧ la * (fun b => SDL st b (st 3 (st 5 b))) bb < 0) = 0 := b2_f (fun z => absurd z.2 (Int.not_lt.mpr c7))
              refine lv_iload hx hb dX7_crossingsOfTold_78 (lv_at hl 0 rfl) ?_
              refine lv_istore_n (lv' := [(3, .int (iZ (SDL st (bb) (st 3 (st 5 (bb)))))), (6, .int (iZ (SDL st (bb) (st 3 (st 5 (bb)))))), (5, .ref (a (19 + (bb).toNat))), (4, .int (iZ (bb))), (2, .int (iZ (cr))), (0, .ref (a 0)), (1, .int (iZ (nn)))]) hx hb dX7_crossingsOfTold_80 rfl hl (by decide) rfl (fun ls hl => ?_)
              refine z_iinc (lv' := [(4, .int (iZ ((bb) + 1))), (3, .int (iZ (SDL st (bb) (st 3 (st 5 (bb)))))), (6, .int (iZ (SDL st (bb) (st 3 (st 5 (bb)))))), (5, .ref (a (19 + (bb).toNat))), (2, .int (iZ (cr))), (0, .ref (a 0)), (1, .int (iZ (nn)))]) hx hb dX7_crossingsOfTold_81 hl (k := 3) rfl (by decide) rfl (fun ls hl => ?_)
              refine lv_goto (tgt := 7) hx hb dX7_crossingsOfTold_84 (by decide) ?_
              have hst : CR (st 11) (st 18) (fun b => SDL st b (st 3 (st 5 b))) (nn - bb).toNat bb la = CR (st 11) (st 18) (fun b => SDL st b (st 3 (st 5 b))) ((nn - (bb + 1)).toNat + 1) bb la := by rw [show (nn - bb).toNat = (nn - (bb + 1)).toNat + 1 by omega]
              exact ih7 (cr) (SDL st (bb) (st 3 (st 5 (bb)))) ((bb) + 1) (by omega) (by omega) (by omega) (by omega) (by first | (rw [j2, hst, CR_f hk]) | (rw [j2, hst, CR_t hk, hct]; omega))  ls (lv_sub hl [0, 1, 4, 5, 6] rfl)
            · skip
              have hct : b2 (st 18 bb = 1 ∧ la * (fun b => SDL st b (st 3 (st 5 b))) bb < 0) = 1 := b2_t ⟨by omega, c7⟩
              refine z_iinc (lv' := [(2, .int (iZ ((cr) + 1))), (6, .int (iZ (SDL st (bb) (st 3 (st 5 (bb)))))), (5, .ref (a (19 + (bb).toNat))), (4, .int (iZ (bb))), (3, .int (iZ (la))), (0, .ref (a 0)), (1, .int (iZ (nn)))]) hx hb dX7_crossingsOfTold_75 hl (k := 4) rfl (by decide) rfl (fun ls hl => ?_)
              refine lv_iload hx hb dX7_crossingsOfTold_78 (lv_at hl 1 rfl) ?_
              refine lv_istore_n (lv' := [(3, .int (iZ (SDL st (bb) (st 3 (st 5 (bb)))))), (2, .int (iZ ((cr) + 1))), (6, .int (iZ (SDL st (bb) (st 3 (st 5 (bb)))))), (5, .ref (a (19 + (bb).toNat))), (4, .int (iZ (bb))), (0, .ref (a 0)), (1, .int (iZ (nn)))]) hx hb dX7_crossingsOfTold_80 rfl hl (by decide) rfl (fun ls hl => ?_)
              refine z_iinc (lv' := [(4, .int (iZ ((bb) + 1))), (3, .int (iZ (SDL st (bb) (st 3 (st 5 (bb)))))), (2, .int (iZ ((cr) + 1))), (6, .int (iZ (SDL st (bb) (st 3 (st 5 (bb)))))), (5, .ref (a (19 + (bb).toNat))), (0, .ref (a 0)), (1, .int (iZ (nn)))]) hx hb dX7_crossingsOfTold_81 hl (k := 4) rfl (by decide) rfl (fun ls hl => ?_)
              refine lv_goto (tgt := 7) hx hb dX7_crossingsOfTold_84 (by decide) ?_
              have hst : CR (st 11) (st 18) (fun b => SDL st b (st 3 (st 5 b))) (nn - bb).toNat bb la = CR (st 11) (st 18) (fun b => SDL st b (st 3 (st 5 b))) ((nn - (bb + 1)).toNat + 1) bb la := by rw [show (nn - bb).toNat = (nn - (bb + 1)).toNat + 1 by omega]
              exact ih7 ((cr) + 1) (SDL st (bb) (st 3 (st 5 (bb)))) ((bb) + 1) (by omega) (by omega) (by omega) (by omega) (by first | (rw [j2, hst, CR_f hk]) | (rw [j2, hst, CR_t hk, hct]; omega))  ls (lv_sub hl [0, 1, 2, 5, 6] rfl)
  exact LP7 ((nn - (0)) + 1 : Int).toNat (0) (0) (0) (by omega) (by omega) (by omega) (by omega) (by simp)  ls (lv_sub hl [0, 1, 2, 3, 4] rfl)
