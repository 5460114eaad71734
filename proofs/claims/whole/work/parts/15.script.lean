abbrev rX5_lengthOf : Room := { frames := 1, cells := 0, slots := 0, locals := 25 }
set_option maxHeartbeats 4000000 in
set_option maxRecDepth 100000 in
theorem m_X5_lengthOf (l : Launch) (D : va_G) (g : Nat → ClassId) (a : Nat → Nat) (st : SS) (bb : Int) (hI : IC st) (h1 : 0 ≤ bb ∧ bb < st 19 3) : Met l yX5_lengthOf wsX5_lengthOf rX5_lengthOf (PcR D g (WC g a st) [.ref (a 3), .int (iZ (bb))]) (QcRead (iZ (LEN (st 15 bb) (st 16 bb) (st 17 bb) (st 19 4)))) 0 0 (fun _ => False) := by
  refine metR (cc := cX5_lengthOf) (maxL := 4) (ret := (some .int)) (own := RX5) (by decide) rfl rfl (Nat.le_of_ble_eq_true rfl) (Or.inl rfl) ?_
  intro p e R s m args below meth c Q ls S hRf hRl hK hP hl K
  have hx := S.1
  have hb := S.2.1
  have hown := S.2.2.2.1
  have hts := S.2.2.2.2
  have hRf : 1 ≤ R.frames := hRf
  have hRl : 25 ≤ R.locals := hRl
  have hl : lv_has ls 4 [(0, .ref (a 3)), (1, .int (iZ (bb)))] := hl
  have iX0 : ∀ w ∈ wsX00, w ∈ wsX5_lengthOf := by decide +kernel
  have iX5 : ∀ w ∈ wsX50, w ∈ wsX5_lengthOf := by decide +kernel
  have hB := hI.s
  have hbR := hI.bd bb (by omega) (by omega)
  have hle : ((st 17 bb + st 19 4) - 1) / st 19 4 ≤ st 17 bb + st 19 4 - 1 := Int.ediv_le_self _ (by omega)
  have hge : 0 ≤ ((st 17 bb + st 19 4) - 1) / st 19 4 := Int.ediv_nonneg (by omega) (by omega)
  refine lv_aload_n hx hb dX5_lengthOf_0 rfl (lv_at hl 0 rfl) ?_
  refine z_get (C := RX5) (T := TX5) (N := 3) (ci := 4) hx hb hts iX5 hown hK hP 3 rfl rfl 0 (by decide) (hts (.fieldLink RX5 11 "ShotBoard$Script" "rows" "[LShotBoard$Board;") (by decide +kernel)) (.ref (a 13)) rfl dX5_lengthOf_1 ?_
  refine lv_iload_n hx hb dX5_lengthOf_4 rfl (lv_at hl 1 rfl) ?_
  refine z_aald hx hb hK hP (by omega) (by omega) dX5_lengthOf_5 ?_
  refine lv_astore_n (lv' := [(2, .ref (a (19 + (bb).toNat))), (0, .ref (a 3)), (1, .int (iZ (bb)))]) hx hb dX5_lengthOf_6 rfl hl (by decide) rfl (fun ls hl => ?_)
  refine lv_aload_n hx hb dX5_lengthOf_7 rfl (lv_at hl 0 rfl) ?_
  refine z_get (C := RX0) (T := TX0) (N := 8) (ci := 0) hx hb hts iX0 hown hK hP (19 + (bb).toNat) (WC_bd g a _ (by omega) (by omega)) rfl 6 (by decide) (hts (.fieldLink RX5 43 "ShotBoard$Board" "words" "I") (by decide +kernel)) (.int (iZ (st 17 (bb)))) rfl dX5_lengthOf_8 ?_
  refine lv_aload_n hx hb dX5_lengthOf_11 rfl (lv_at hl 1 rfl) ?_
  refine z_get (C := RX5) (T := TX5) (N := 3) (ci := 4) hx hb hts iX5 hown hK hP 3 rfl rfl 2 (by decide) (hts (.fieldLink RX5 17 "ShotBoard$Script" "wordsPerTick" "I") (by decide +kernel)) (.int (iZ (st 19 (4)))) rfl dX5_lengthOf_12 ?_
  refine z_iadd hx hb dX5_lengthOf_15 ?_
  refine z_iconst hx hb dX5_lengthOf_16 ?_
  refine z_isub hx hb dX5_lengthOf_17 ?_
  refine lv_aload_n hx hb dX5_lengthOf_18 rfl (lv_at hl 1 rfl) ?_
  refine z_get (C := RX5) (T := TX5) (N := 3) (ci := 4) hx hb hts iX5 hown hK hP 3 rfl rfl 2 (by decide) (hts (.fieldLink RX5 17 "ShotBoard$Script" "wordsPerTick" "I") (by decide +kernel)) (.int (iZ (st 19 (4)))) rfl dX5_lengthOf_19 ?_
  refine z_idiv hx hb (by omega) (by omega) (by omega) (by omega) dX5_lengthOf_22 ?_
  refine lv_istore_n (lv' := [(3, .int (iZ ((((st 17 (bb)) + (st 19 (4))) - (1)) / (st 19 (4))))), (2, .ref (a (19 + (bb).toNat))), (0, .ref (a 3)), (1, .int (iZ (bb)))]) hx hb dX5_lengthOf_23 rfl hl (by decide) rfl (fun ls hl => ?_)
  refine lv_aload_n hx hb dX5_lengthOf_24 rfl (lv_at hl 1 rfl) ?_
  refine z_get (C := RX0) (T := TX0) (N := 8) (ci := 0) hx hb hts iX0 hown hK hP (19 + (bb).toNat) (WC_bd g a _ (by omega) (by omega)) rfl 5 (by decide) (hts (.fieldLink RX5 40 "ShotBoard$Board" "last" "I") (by decide +kernel)) (.int (iZ (st 16 (bb)))) rfl dX5_lengthOf_25 ?_
  refine lv_aload_n hx hb dX5_lengthOf_28 rfl (lv_at hl 1 rfl) ?_
  refine z_get (C := RX0) (T := TX0) (N := 8) (ci := 0) hx hb hts iX0 hown hK hP (19 + (bb).toNat) (WC_bd g a _ (by omega) (by omega)) rfl 4 (by decide) (hts (.fieldLink RX5 37 "ShotBoard$Board" "first" "I") (by decide +kernel)) (.int (iZ (st 15 (bb)))) rfl dX5_lengthOf_29 ?_
  refine z_isub hx hb dX5_lengthOf_32 ?_
  refine z_iconst hx hb dX5_lengthOf_33 ?_
  refine z_iadd hx hb dX5_lengthOf_34 ?_
  refine lv_iload_n hx hb dX5_lengthOf_35 rfl (lv_at hl 0 rfl) ?_
  refine z_max hx hb (S.2.2.1.trans hl.1.symm) hown (hts (.methodLink RX5 57 Lib.Math.max.name) (by decide +kernel)) (hts (.static Lib.Math.max.name) (by decide +kernel)) (hts (.initialized "java/lang/Math") (by decide +kernel)) (hts (.code Lib.Math.max.name Lib.Math.max.code 2 (some .int)) (by decide +kernel)) (Nat.le_trans (by decide) hRf) (Nat.le_trans (Nat.le_of_ble_eq_true rfl) hRl) (Nat.zero_le _) (Nat.zero_le _) (by omega) (by omega) dX5_lengthOf_36 ?_
  exact K _ _ _ (rfl) dX5_lengthOf_39
abbrev rX5_speakersOfLastTwo : Room := { frames := 3, cells := 0, slots := 0, locals := 62 }
set_option maxHeartbeats 4000000 in
set_option maxRecDepth 100000 in
theorem m_X5_speakersOfLastTwo (l : Launch) (D : va_G) (g : Nat → ClassId) (a : Nat → Nat) (st : SS) (hI : IC st) : Met l yX5_speakersOfLastTwo wsX5_speakersOfLastTwo rX5_speakersOfLastTwo (PcR D g (WC g a st) [.ref (a 3)]) (QcRead (iZ (SLT st (st 19 3)))) 0 0 (fun _ => False) := by
  refine metR (cc := cX5_speakersOfLastTwo) (maxL := 2) (ret := (some .int)) (own := RX5) (by decide) rfl rfl (Nat.le_of_ble_eq_true rfl) (Or.inl rfl) ?_
  intro p e R s m args below meth c Q ls S hRf hRl hK hP hl K
  have hx := S.1
  have hb := S.2.1
  have hown := S.2.2.2.1
  have hts := S.2.2.2.2
  have hRf : 3 ≤ R.frames := hRf
  have hRl : 62 ≤ R.locals := hRl
  have hl : lv_has ls 2 [(0, .ref (a 3))] := hl
  have iX0 : ∀ w ∈ wsX00, w ∈ wsX5_speakersOfLastTwo := by decide +kernel
  have iX5 : ∀ w ∈ wsX50, w ∈ wsX5_speakersOfLastTwo := by decide +kernel
  have hB := hI.s
  refine lv_aload_n hx hb dX5_speakersOfLastTwo_0 rfl (lv_at hl 0 rfl) ?_
  refine z_get (C := RX5) (T := TX5) (N := 3) (ci := 4) hx hb hts iX5 hown hK hP 3 rfl rfl 1 (by decide) (hts (.fieldLink RX5 22 "ShotBoard$Script" "boards" "I") (by decide +kernel)) (.int (iZ (st 19 (3)))) rfl dX5_speakersOfLastTwo_1 ?_
  refine z_iconst hx hb dX5_speakersOfLastTwo_4 ?_
  refine z_isub hx hb dX5_speakersOfLastTwo_5 ?_
  refine lv_istore_n (lv' := [(1, .int (iZ ((st 19 (3)) - (1)))), (0, .ref (a 3))]) hx hb dX5_speakersOfLastTwo_6 rfl hl (by decide) rfl (fun ls hl => ?_)
  have LP7 : ∀ (n7 : Nat) (bb : Int), (bb + 1) < (n7 : Int) → (-1 ≤ bb ∧ bb < st 19 3) → (∀ j, bb < j → j < st 19 3 → ¬ st 11 j = 1) → ∀ (ls : Array Slot), lv_has ls 2 [(1, .int (iZ (bb))), (0, .ref (a 3))] → W p l e R s m args below meth c s.heap [] 0 0 Q (F0 m 7 ls []) := by
    intro n7
    induction n7 with
    | zero =>
      intro bb hm7 j1 j2  ls hl
      exact absurd hm7 (by omega)
    | succ n7 ih7 =>
      intro bb hm7 j1 j2  ls hl
      refine lv_iload_n hx hb dX5_speakersOfLastTwo_7 rfl (lv_at hl 0 rfl) ?_
      refine z_if_lt (tgt := 40) hx hb (by omega) dX5_speakersOfLastTwo_8 (by decide) (fun c1 => ?_) (fun c1 => ?_)
      · skip
        refine z_iconst hx hb dX5_speakersOfLastTwo_40 ?_
        exact K _ _ _ (by unfold SLT; rw [lT_no (fun j a b => j2 j (by omega) (by omega)), if_pos rfl]) dX5_speakersOfLastTwo_41
      · skip
        refine lv_aload_n hx hb dX5_speakersOfLastTwo_11 rfl (lv_at hl 1 rfl) ?_
        refine z_get (C := RX5) (T := TX5) (N := 3) (ci := 4) hx hb hts iX5 hown hK hP 3 rfl rfl 0 (by decide) (hts (.fieldLink RX5 11 "ShotBoard$Script" "rows" "[LShotBoard$Board;") (by decide +kernel)) (.ref (a 13)) rfl dX5_speakersOfLastTwo_12 ?_
        refine lv_iload_n hx hb dX5_speakersOfLastTwo_15 rfl (lv_at hl 0 rfl) ?_
        refine z_aald hx hb hK hP (by omega) (by omega) dX5_speakersOfLastTwo_16 ?_
        refine z_get (C := RX0) (T := TX0) (N := 8) (ci := 0) hx hb hts iX0 hown hK hP (19 + (bb).toNat) (WC_bd g a _ (by omega) (by omega)) rfl 0 (by decide) (hts (.fieldLink RX5 25 "ShotBoard$Board" "kind" "I") (by decide +kernel)) (.int (iZ (st 11 (bb)))) rfl dX5_speakersOfLastTwo_17 ?_
        have f2 := hI.bd (bb) (by omega) (by omega)
        refine z_iconst hx hb dX5_speakersOfLastTwo_20 ?_
        refine z_icmp_ne (tgt := 34) hx hb (by omega) (by decide) dX5_speakersOfLastTwo_21 (by decide) (fun c3 => ?_) (fun c3 => ?_)
        · skip
          have hk := c3
          refine z_iinc (lv' := [(1, .int (iZ ((bb) + (-1)))), (0, .ref (a 3))]) hx hb dX5_speakersOfLastTwo_34 hl (k := 0) rfl (by decide) rfl (fun ls hl => ?_)
          refine lv_goto (tgt := 7) hx hb dX5_speakersOfLastTwo_37 (by decide) ?_
          exact ih7 ((bb) + (-1)) (by omega) (by omega) (fun j a b => by
      by_cases e9 : j = bb
      · subst e9; exact hk
      · exact j2 j (by omega) b)  ls (lv_sub hl [0, 1] rfl)
        · skip
          have hk := c3
          refine lv_aload_n hx hb dX5_speakersOfLastTwo_24 rfl (lv_at hl 1 rfl) ?_
          refine z_get (C := RX5) (T := TX5) (N := 3) (ci := 4) hx hb hts iX5 hown hK hP 3 rfl rfl 0 (by decide) (hts (.fieldLink RX5 11 "ShotBoard$Script" "rows" "[LShotBoard$Board;") (by decide +kernel)) (.ref (a 13)) rfl dX5_speakersOfLastTwo_25 ?_
          refine lv_iload_n hx hb dX5_speakersOfLastTwo_28 rfl (lv_at hl 0 rfl) ?_
          refine z_aald hx hb hK hP (by omega) (by omega) dX5_speakersOfLastTwo_29 ?_
          refine z_cVR (q0 := (19 + (bb).toNat)) (ci := 0) (As := []) (rest := []) S (m_X0_speakers l D g a (st) (bb) hI (by omega)) (cwV 0 hts gX5_speakersOfLastTwo_X0_speakers rfl rfl rfl (by decide +kernel) ⟨Nat.le_trans (by decide) hRf, Nat.le_trans (by decide) hRl⟩) hK hP rfl (WC_bd g a _ (by omega) (by omega)) rfl hl.1 rfl (Nat.le_of_ble_eq_true rfl) dX5_speakersOfLastTwo_30 ⟨Nat.zero_le _, Nat.zero_le _⟩ ?_
          have f4 := zor_rg (zshl 1 (st 12 (bb))) (zshl 1 (PTN (st 12 (bb)) (st 13 (bb))))
          exact K _ _ _ (by unfold SLT; rw [lT_is (q := bb) (by omega) (by omega) hk (fun j a b => j2 j a (by omega)), if_neg (by omega)]) dX5_speakersOfLastTwo_33
  exact LP7 ((((st 19 (3)) - (1)) + 1) + 1 : Int).toNat ((st 19 (3)) - (1)) (by omega) (by omega) (fun j a b => by omega)  ls (lv_sub hl [0, 1] rfl)
