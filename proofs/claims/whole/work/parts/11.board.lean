abbrev rX0_mustShow : Room := { frames := 0, cells := 0, slots := 0, locals := 0 }
set_option maxHeartbeats 4000000 in
set_option maxRecDepth 100000 in
theorem m_X0_mustShow (l : Launch) (D : va_G) (g : Nat → ClassId) (a : Nat → Nat) (st : SS) (bb : Int) (pp : Int) (hI : IC st) (h1 : 0 ≤ bb ∧ bb < 8) (h2 : 0 ≤ pp ∧ pp < 32) : Met l yX0_mustShow wsX0_mustShow rX0_mustShow (PcR D g (WC g a st) [.ref (a (19 + (bb).toNat)), .int (iZ (pp))]) (QcRead (iZ (b2 (bt (st 13 bb) pp)))) 0 0 (fun _ => False) := by
  refine metR (cc := cX0_mustShow) (maxL := 2) (ret := (some .boolean)) (own := RX0) (by decide) rfl rfl (Nat.le_of_ble_eq_true rfl) (Or.inr ⟨rfl, b2_01 _⟩) ?_
  intro p e R s m args below meth c Q ls S hRf hRl hK hP hl K
  have hx := S.1
  have hb := S.2.1
  have hown := S.2.2.2.1
  have hts := S.2.2.2.2
  have hRf : 0 ≤ R.frames := hRf
  have hRl : 0 ≤ R.locals := hRl
  have hl : lv_has ls 2 [(0, .ref (a (19 + (bb).toNat))), (1, .int (iZ (pp)))] := hl
  have iX0 : ∀ w ∈ wsX00, w ∈ wsX0_mustShow := by decide +kernel
  have hB := hI.bd bb (by omega) (by omega)
  refine lv_aload_n hx hb dX0_mustShow_0 rfl (lv_at hl 0 rfl) ?_
  refine z_get (C := RX0) (T := TX0) (N := 8) (ci := 0) hx hb hts iX0 hown hK hP (19 + (bb).toNat) (WC_bd g a _ (by omega) (by omega)) rfl 2 (by decide) (hts (.fieldLink RX0 9 "ShotBoard$Board" "mask" "I") (by decide +kernel)) (.int (iZ (st 13 (bb)))) rfl dX0_mustShow_1 ?_
  refine lv_iload_n hx hb dX0_mustShow_4 rfl (lv_at hl 1 rfl) ?_
  refine z_ishr hx hb dX0_mustShow_5 ?_
  refine z_iconst hx hb dX0_mustShow_6 ?_
  refine z_iand hx hb dX0_mustShow_7 ?_
  refine z_as (y := b2 (bt (st 13 bb) pp)) (bit_z (by omega) (by omega) (by omega) (by omega)) ?_
  refine z_if_eq (tgt := 15) hx hb (b2_rg _) dX0_mustShow_8 (by decide) (fun c1 => ?_) (fun c1 => ?_)
  · skip
    have c1 := b2_0 c1
    refine z_iconst hx hb dX0_mustShow_15 ?_
    exact K _ _ _ (by first | exact b2_pos ‹_› rfl | exact b2_neg ‹_› rfl) dX0_mustShow_16
  · skip
    have c1 := b2_n0 c1
    refine z_iconst hx hb dX0_mustShow_11 ?_
    refine lv_goto (tgt := 16) hx hb dX0_mustShow_12 (by decide) ?_
    exact K _ _ _ (by first | exact b2_pos ‹_› rfl | exact b2_neg ‹_› rfl) dX0_mustShow_16
abbrev rX0_partner : Room := { frames := 1, cells := 0, slots := 0, locals := 21 }
set_option maxHeartbeats 4000000 in
set_option maxRecDepth 100000 in
theorem m_X0_partner (l : Launch) (D : va_G) (g : Nat → ClassId) (a : Nat → Nat) (st : SS) (bb : Int) (hI : IC st) (h1 : 0 ≤ bb ∧ bb < 8) : Met l yX0_partner wsX0_partner rX0_partner (PcR D g (WC g a st) [.ref (a (19 + (bb).toNat))]) (QcRead (iZ (PTN (st 12 bb) (st 13 bb)))) 0 0 (fun _ => False) := by
  refine metR (cc := cX0_partner) (maxL := 2) (ret := (some .int)) (own := RX0) (by decide) rfl rfl (Nat.le_of_ble_eq_true rfl) (Or.inl rfl) ?_
  intro p e R s m args below meth c Q ls S hRf hRl hK hP hl K
  have hx := S.1
  have hb := S.2.1
  have hown := S.2.2.2.1
  have hts := S.2.2.2.2
  have hRf : 1 ≤ R.frames := hRf
  have hRl : 21 ≤ R.locals := hRl
  have hl : lv_has ls 2 [(0, .ref (a (19 + (bb).toNat)))] := hl
  have iX0 : ∀ w ∈ wsX00, w ∈ wsX0_partner := by decide +kernel
  have hB := hI.bd bb (by omega) (by omega)
  refine z_iconst hx hb dX0_partner_0 ?_
  refine lv_istore_n (lv' := [(1, .int (iZ (0))), (0, .ref (a (19 + (bb).toNat)))]) hx hb dX0_partner_1 rfl hl (by decide) rfl (fun ls hl => ?_)
  have LP2 : ∀ (n2 : Nat) (qq : Int), (6 - qq) < (n2 : Int) → (0 ≤ qq ∧ qq ≤ 6) → (∀ j, 0 ≤ j → j < qq → ¬ (j ≠ st 12 bb ∧ bt (st 13 bb) j)) → ∀ (ls : Array Slot), lv_has ls 2 [(1, .int (iZ (qq))), (0, .ref (a (19 + (bb).toNat)))] → W p l e R s m args below meth c s.heap [] 0 0 Q (F0 m 2 ls []) := by
    intro n2
    induction n2 with
    | zero =>
      intro qq hm2 j1 j2  ls hl
      exact absurd hm2 (by omega)
    | succ n2 ih2 =>
      intro qq hm2 j1 j2  ls hl
      refine lv_iload_n hx hb dX0_partner_2 rfl (lv_at hl 0 rfl) ?_
      refine z_bipush hx hb dX0_partner_3 (by decide +kernel) ?_
      refine z_icmp_ge (tgt := 32) hx hb (by omega) (by decide) dX0_partner_5 (by decide) (fun c1 => ?_) (fun c1 => ?_)
      · skip
        refine lv_aload_n hx hb dX0_partner_32 rfl (lv_at hl 1 rfl) ?_
        refine z_get (C := RX0) (T := TX0) (N := 8) (ci := 0) hx hb hts iX0 hown hK hP (19 + (bb).toNat) (WC_bd g a _ (by omega) (by omega)) rfl 1 (by decide) (hts (.fieldLink RX0 15 "ShotBoard$Board" "main" "I") (by decide +kernel)) (.int (iZ (st 12 (bb)))) rfl dX0_partner_33 ?_
        exact K _ _ _ (by unfold PTN; rw [fP_no (fun j a b => j2 j a (by omega)), if_pos rfl]) dX0_partner_36
      · skip
        refine lv_iload_n hx hb dX0_partner_8 rfl (lv_at hl 0 rfl) ?_
        refine lv_aload_n hx hb dX0_partner_9 rfl (lv_at hl 1 rfl) ?_
        refine z_get (C := RX0) (T := TX0) (N := 8) (ci := 0) hx hb hts iX0 hown hK hP (19 + (bb).toNat) (WC_bd g a _ (by omega) (by omega)) rfl 1 (by decide) (hts (.fieldLink RX0 15 "ShotBoard$Board" "main" "I") (by decide +kernel)) (.int (iZ (st 12 (bb)))) rfl dX0_partner_10 ?_
        refine z_icmp_eq (tgt := 26) hx hb (by omega) (by omega) dX0_partner_13 (by decide) (fun c2 => ?_) (fun c2 => ?_)
        · skip
          refine z_iinc (lv' := [(1, .int (iZ ((qq) + 1))), (0, .ref (a (19 + (bb).toNat)))]) hx hb dX0_partner_26 hl (k := 0) rfl (by decide) rfl (fun ls hl => ?_)
          refine lv_goto (tgt := 2) hx hb dX0_partner_29 (by decide) ?_
          exact ih2 ((qq) + 1) (by omega) (by omega) (fun j a b => by
      by_cases e9 : j = qq
      · subst e9; exact fun z => by first | exact z.1 (by omega) | exact hnb z.2
      · exact j2 j a (by omega))  ls (lv_sub hl [0, 1] rfl)
        · skip
          refine lv_aload_n hx hb dX0_partner_16 rfl (lv_at hl 1 rfl) ?_
          refine lv_iload_n hx hb dX0_partner_17 rfl (lv_at hl 0 rfl) ?_
          refine z_cVR (q0 := (19 + (bb).toNat)) (ci := 0) (As := [.int (iZ (qq))]) (rest := []) S (m_X0_mustShow l D g a (st) (bb) (qq) hI (by omega) (by omega)) (cwV 1 hts gX0_partner_X0_mustShow rfl rfl rfl (by decide +kernel) ⟨Nat.le_trans (by decide) hRf, Nat.le_trans (by decide) hRl⟩) hK hP rfl (WC_bd g a _ (by omega) (by omega)) rfl hl.1 rfl (Nat.le_of_ble_eq_true rfl) dX0_partner_18 ⟨Nat.zero_le _, Nat.zero_le _⟩ ?_
          refine z_if_eq (tgt := 26) hx hb (b2_rg _) dX0_partner_21 (by decide) (fun c3 => ?_) (fun c3 => ?_)
          · skip
            have c3 := b2_0 c3
            have hnb := c3
            refine z_iinc (lv' := [(1, .int (iZ ((qq) + 1))), (0, .ref (a (19 + (bb).toNat)))]) hx hb dX0_partner_26 hl (k := 0) rfl (by decide) rfl (fun ls hl => ?_)
            refine lv_goto (tgt := 2) hx hb dX0_partner_29 (by decide) ?_
            exact ih2 ((qq) + 1) (by omega) (by omega) (fun j a b => by
      by_cases e9 : j = qq
      · subst e9; exact fun z => by first | exact z.1 (by omega) | exact hnb z.2
      · exact j2 j a (by omega))  ls (lv_sub hl [0, 1] rfl)
          · skip
            have c3 := b2_n0 c3
            have hyb := c3
            refine lv_iload_n hx hb dX0_partner_24 rfl (lv_at hl 0 rfl) ?_
            exact K _ _ _ (by unfold PTN; rw [fP_is (q := qq) (by omega) (by omega) ⟨by omega, hyb⟩ j2, if_neg (by omega)]) dX0_partner_25
  exact LP2 ((6 - (0)) + 1 : Int).toNat (0) (by omega) (by omega) (fun j a b => by omega)  ls (lv_sub hl [0, 1] rfl)
abbrev rX0_speakers : Room := { frames := 2, cells := 0, slots := 0, locals := 42 }
set_option maxHeartbeats 4000000 in
set_option maxRecDepth 100000 in
theorem m_X0_speakers (l : Launch) (D : va_G) (g : Nat → ClassId) (a : Nat → Nat) (st : SS) (bb : Int) (hI : IC st) (h1 : 0 ≤ bb ∧ bb < 8) : Met l yX0_speakers wsX0_speakers rX0_speakers (PcR D g (WC g a st) [.ref (a (19 + (bb).toNat))]) (QcRead (iZ (spk (st 12 bb) (PTN (st 12 bb) (st 13 bb))))) 0 0 (fun _ => False) := by
  refine metR (cc := cX0_speakers) (maxL := 1) (ret := (some .int)) (own := RX0) (by decide) rfl rfl (Nat.le_of_ble_eq_true rfl) (Or.inl rfl) ?_
  intro p e R s m args below meth c Q ls S hRf hRl hK hP hl K
  have hx := S.1
  have hb := S.2.1
  have hown := S.2.2.2.1
  have hts := S.2.2.2.2
  have hRf : 2 ≤ R.frames := hRf
  have hRl : 42 ≤ R.locals := hRl
  have hl : lv_has ls 1 [(0, .ref (a (19 + (bb).toNat)))] := hl
  have iX0 : ∀ w ∈ wsX00, w ∈ wsX0_speakers := by decide +kernel
  have hB := hI.bd bb (by omega) (by omega)
  refine z_iconst hx hb dX0_speakers_0 ?_
  refine lv_aload_n hx hb dX0_speakers_1 rfl (lv_at hl 0 rfl) ?_
  refine z_get (C := RX0) (T := TX0) (N := 8) (ci := 0) hx hb hts iX0 hown hK hP (19 + (bb).toNat) (WC_bd g a _ (by omega) (by omega)) rfl 1 (by decide) (hts (.fieldLink RX0 15 "ShotBoard$Board" "main" "I") (by decide +kernel)) (.int (iZ (st 12 (bb)))) rfl dX0_speakers_2 ?_
  refine z_ishl hx hb dX0_speakers_5 ?_
  refine z_iconst hx hb dX0_speakers_6 ?_
  refine lv_aload_n hx hb dX0_speakers_7 rfl (lv_at hl 0 rfl) ?_
  refine z_cVR (q0 := (19 + (bb).toNat)) (ci := 0) (As := []) (rest := [.int (iZ (1)), .int (iZ (zshl (1) (st 12 (bb))))]) S (m_X0_partner l D g a (st) (bb) hI (by omega)) (cwV 0 hts gX0_speakers_X0_partner rfl rfl rfl (by decide +kernel) ⟨Nat.le_trans (by decide) hRf, Nat.le_trans (by decide) hRl⟩) hK hP rfl (WC_bd g a _ (by omega) (by omega)) rfl hl.1 rfl (Nat.le_of_ble_eq_true rfl) dX0_speakers_8 ⟨Nat.zero_le _, Nat.zero_le _⟩ ?_
  have f1 := PTN_b (st 12 (bb)) (st 13 (bb)) (by have h9 := hI.bd (bb) (by omega) (by omega); omega)
  refine z_ishl hx hb dX0_speakers_11 ?_
  refine z_ior hx hb dX0_speakers_12 ?_
  exact K _ _ _ (rfl) dX0_speakers_13
