abbrev rX5_add : Room := { frames := 4, cells := 0, slots := 0, locals := 83 }
set_option maxHeartbeats 4000000 in
set_option maxRecDepth 100000 in
theorem m_X5_add (l : Launch) (D : va_G) (g : Nat → ClassId) (a : Nat → Nat) (st : SS) (ww : Int) (zz : Int) (sp : Int) (wd : Int) (hI : IC st) (h1 : st 19 3 < 8) (h2 : 0 ≤ ww ∧ ww < 3000 ∧ ww / 100 % 10 < 6) (h3 : 0 ≤ zz ∧ zz ≤ 7) (h4 : 0 ≤ sp ∧ sp / 100 < 60 ∧ sp % 100 < 60) (h5 : 0 ≤ wd ∧ wd ≤ 200) (h6 : 0 ≤ zor (ww % 100) (zshl 1 (ww / 100 % 10)) ∧ zor (ww % 100) (zshl 1 (ww / 100 % 10)) < 64) : Met l yX5_add wsX5_add rX5_add (PcM D g (AWC a) (WC g a st) [.ref (a 3), .int (iZ (ww)), .int (iZ (zz)), .int (iZ (sp)), .int (iZ (wd))]) (QcI D (WC g a) (AWC a) (fun r u => r = st 19 3 ∧ u = up (up (B7 st (st 19 3) (ww / 1000) (ww / 100 % 10) (zor (ww % 100) (zshl 1 (ww / 100 % 10))) zz (sp / 100) (sp % 100) wd) 18 (st 19 3) (b2 (ww / 1000 = 1 ∧ SLT (B7 st (st 19 3) (ww / 1000) (ww / 100 % 10) (zor (ww % 100) (zshl 1 (ww / 100 % 10))) zz (sp / 100) (sp % 100) wd) (st 19 3) = spk (ww / 100 % 10) (PTN (ww / 100 % 10) (zor (ww % 100) (zshl 1 (ww / 100 % 10))))))) 19 3 (st 19 3 + 1))) 0 0 (AWC a) := by
  refine metI (cc := cX5_add) (maxL := 6) (ret := (some .int)) (own := RX5) (by decide) rfl rfl (Nat.le_of_ble_eq_true rfl) (Or.inl rfl) ?_
  intro p e R s m args below meth c Q ls S hRf hRl hK hP hD hS hl K
  have hx := S.1
  have hb := S.2.1
  have hown := S.2.2.2.1
  have hts := S.2.2.2.2
  have hRf : 4 ≤ R.frames := hRf
  have hRl : 83 ≤ R.locals := hRl
  have hl : lv_has ls 6 [(0, .ref (a 3)), (1, .int (iZ (ww))), (2, .int (iZ (zz))), (3, .int (iZ (sp))), (4, .int (iZ (wd)))] := hl
  have iX0 : ∀ w ∈ wsX00, w ∈ wsX5_add := by decide +kernel
  have iX5 : ∀ w ∈ wsX50, w ∈ wsX5_add := by decide +kernel
  have hB := hI.s
  have hI7 : IC (B7 st (st 19 3) (ww / 1000) (ww / 100 % 10) (zor (ww % 100) (zshl 1 (ww / 100 % 10))) zz (sp / 100) (sp % 100) wd) := IC_B7 hI h1 (by omega) (by omega) h6 h3 (by omega) (by omega) h5
  refine lv_aload_n hx hb dX5_add_0 rfl (lv_at hl 0 rfl) ?_
  refine z_get (C := RX5) (T := TX5) (N := 3) (ci := 4) hx hb hts iX5 hown hK hP 3 rfl rfl 0 (by decide) (hts (.fieldLink RX5 11 "ShotBoard$Script" "rows" "[LShotBoard$Board;") (by decide +kernel)) (.ref (a 13)) rfl dX5_add_1 ?_
  refine lv_aload_n hx hb dX5_add_4 rfl (lv_at hl 0 rfl) ?_
  refine z_get (C := RX5) (T := TX5) (N := 3) (ci := 4) hx hb hts iX5 hown hK hP 3 rfl rfl 1 (by decide) (hts (.fieldLink RX5 22 "ShotBoard$Script" "boards" "I") (by decide +kernel)) (.int (iZ (st 19 (3)))) rfl dX5_add_5 ?_
  refine z_aald hx hb hK hP (by omega) (by omega) dX5_add_8 ?_
  refine lv_astore (lv' := [(5, .ref (a (19 + (st 19 (3)).toNat))), (0, .ref (a 3)), (1, .int (iZ (ww))), (2, .int (iZ (zz))), (3, .int (iZ (sp))), (4, .int (iZ (wd)))]) hx hb dX5_add_9 hl (by decide) rfl (fun ls hl => ?_)
  refine lv_aload hx hb dX5_add_11 (lv_at hl 0 rfl) ?_
  refine lv_iload_n hx hb dX5_add_13 rfl (lv_at hl 2 rfl) ?_
  refine z_sipush hx hb dX5_add_14 (by decide +kernel) ?_
  refine z_idiv hx hb (by omega) (by omega) (by decide) (by omega) dX5_add_17 ?_
  refine z_put (C := RX0) (T := TX0) (N := 8) (ci := 0) (ty := .int) hx hb hts iX0 tyX0 tyX0_ok nmX0 hown hK hP hD hS (19 + (st 19 (3)).toNat) (WC_bd g a _ (by omega) (by omega)) rfl 0 (by decide) (hts (.fieldLink RX5 25 "ShotBoard$Board" "kind" "I") (by decide +kernel)) rfl (by decide +kernel) rfl rfl (Nat.le_of_ble_eq_true rfl) (WC g a (up (st) 11 (st 19 (3)) ((ww) / (1000)))) (WC_bd0 g a _ _ (by omega) (by omega)) dX5_add_18 (fun H locs hP hD hS => ?_)
  refine lv_aload hx hb dX5_add_21 (lv_at hl 0 rfl) ?_
  refine lv_iload_n hx hb dX5_add_23 rfl (lv_at hl 2 rfl) ?_
  refine z_bipush hx hb dX5_add_24 (by decide +kernel) ?_
  refine z_idiv hx hb (by omega) (by omega) (by decide) (by omega) dX5_add_26 ?_
  refine z_bipush hx hb dX5_add_27 (by decide +kernel) ?_
  refine z_irem hx hb (by omega) (by omega) (by decide) (by omega) dX5_add_29 ?_
  refine z_put (C := RX0) (T := TX0) (N := 8) (ci := 0) (ty := .int) hx hb hts iX0 tyX0 tyX0_ok nmX0 hown hK hP hD hS (19 + (st 19 (3)).toNat) (WC_bd g a _ (by omega) (by omega)) rfl 1 (by decide) (hts (.fieldLink RX5 28 "ShotBoard$Board" "main" "I") (by decide +kernel)) rfl (by decide +kernel) rfl rfl (Nat.le_of_ble_eq_true rfl) (WC g a (up (up (st) 11 (st 19 (3)) ((ww) / (1000))) 12 (st 19 (3)) (((ww) / (100)) % (10)))) (WC_bd1 g a _ _ (by omega) (by omega)) dX5_add_30 (fun H locs hP hD hS => ?_)
  refine lv_aload hx hb dX5_add_33 (lv_at hl 0 rfl) ?_
  refine lv_iload_n hx hb dX5_add_35 rfl (lv_at hl 2 rfl) ?_
  refine z_bipush hx hb dX5_add_36 (by decide +kernel) ?_
  refine z_irem hx hb (by omega) (by omega) (by decide) (by omega) dX5_add_38 ?_
  refine z_iconst hx hb dX5_add_39 ?_
  refine lv_aload hx hb dX5_add_40 (lv_at hl 0 rfl) ?_
  refine z_get (C := RX0) (T := TX0) (N := 8) (ci := 0) hx hb hts iX0 hown hK hP (19 + (st 19 (3)).toNat) (WC_bd g a _ (by omega) (by omega)) rfl 1 (by decide) (hts (.fieldLink RX5 28 "ShotBoard$Board" "main" "I") (by decide +kernel)) (.int (iZ ((up (up (st) 11 (st 19 (3)) ((ww) / (1000))) 12 (st 19 (3)) (((ww) / (100)) % (10))) 12 (st 19 (3))))) rfl dX5_add_42 ?_
  refine z_as (y := ((ww) / (100)) % (10)) (by simp [up, uf]) ?_
  refine z_ishl hx hb dX5_add_45 ?_
  refine z_ior hx hb dX5_add_46 ?_
  refine z_put (C := RX0) (T := TX0) (N := 8) (ci := 0) (ty := .int) hx hb hts iX0 tyX0 tyX0_ok nmX0 hown hK hP hD hS (19 + (st 19 (3)).toNat) (WC_bd g a _ (by omega) (by omega)) rfl 2 (by decide) (hts (.fieldLink RX5 31 "ShotBoard$Board" "mask" "I") (by decide +kernel)) rfl (by decide +kernel) rfl rfl (Nat.le_of_ble_eq_true rfl) (WC g a (up (up (up (st) 11 (st 19 (3)) ((ww) / (1000))) 12 (st 19 (3)) (((ww) / (100)) % (10))) 13 (st 19 (3)) (zor ((ww) % (100)) (zshl (1) (((ww) / (100)) % (10)))))) (WC_bd2 g a _ _ (by omega) (by omega)) dX5_add_47 (fun H locs hP hD hS => ?_)
  refine lv_aload hx hb dX5_add_50 (lv_at hl 0 rfl) ?_
  refine lv_iload_n hx hb dX5_add_52 rfl (lv_at hl 3 rfl) ?_
  refine z_put (C := RX0) (T := TX0) (N := 8) (ci := 0) (ty := .int) hx hb hts iX0 tyX0 tyX0_ok nmX0 hown hK hP hD hS (19 + (st 19 (3)).toNat) (WC_bd g a _ (by omega) (by omega)) rfl 3 (by decide) (hts (.fieldLink RX5 34 "ShotBoard$Board" "sizes" "I") (by decide +kernel)) rfl (by decide +kernel) rfl rfl (Nat.le_of_ble_eq_true rfl) (WC g a (up (up (up (up (st) 11 (st 19 (3)) ((ww) / (1000))) 12 (st 19 (3)) (((ww) / (100)) % (10))) 13 (st 19 (3)) (zor ((ww) % (100)) (zshl (1) (((ww) / (100)) % (10))))) 14 (st 19 (3)) (zz))) (WC_bd3 g a _ _ (by omega) (by omega)) dX5_add_53 (fun H locs hP hD hS => ?_)
  refine lv_aload hx hb dX5_add_56 (lv_at hl 0 rfl) ?_
  refine lv_iload_n hx hb dX5_add_58 rfl (lv_at hl 4 rfl) ?_
  refine z_bipush hx hb dX5_add_59 (by decide +kernel) ?_
  refine z_idiv hx hb (by omega) (by omega) (by decide) (by omega) dX5_add_61 ?_
  refine z_put (C := RX0) (T := TX0) (N := 8) (ci := 0) (ty := .int) hx hb hts iX0 tyX0 tyX0_ok nmX0 hown hK hP hD hS (19 + (st 19 (3)).toNat) (WC_bd g a _ (by omega) (by omega)) rfl 4 (by decide) (hts (.fieldLink RX5 37 "ShotBoard$Board" "first" "I") (by decide +kernel)) rfl (by decide +kernel) rfl rfl (Nat.le_of_ble_eq_true rfl) (WC g a (up (up (up (up (up (st) 11 (st 19 (3)) ((ww) / (1000))) 12 (st 19 (3)) (((ww) / (100)) % (10))) 13 (st 19 (3)) (zor ((ww) % (100)) (zshl (1) (((ww) / (100)) % (10))))) 14 (st 19 (3)) (zz)) 15 (st 19 (3)) ((sp) / (100)))) (WC_bd4 g a _ _ (by omega) (by omega)) dX5_add_62 (fun H locs hP hD hS => ?_)
  refine lv_aload hx hb dX5_add_65 (lv_at hl 0 rfl) ?_
  refine lv_iload_n hx hb dX5_add_67 rfl (lv_at hl 4 rfl) ?_
  refine z_bipush hx hb dX5_add_68 (by decide +kernel) ?_
  refine z_irem hx hb (by omega) (by omega) (by decide) (by omega) dX5_add_70 ?_
  refine z_put (C := RX0) (T := TX0) (N := 8) (ci := 0) (ty := .int) hx hb hts iX0 tyX0 tyX0_ok nmX0 hown hK hP hD hS (19 + (st 19 (3)).toNat) (WC_bd g a _ (by omega) (by omega)) rfl 5 (by decide) (hts (.fieldLink RX5 40 "ShotBoard$Board" "last" "I") (by decide +kernel)) rfl (by decide +kernel) rfl rfl (Nat.le_of_ble_eq_true rfl) (WC g a (up (up (up (up (up (up (st) 11 (st 19 (3)) ((ww) / (1000))) 12 (st 19 (3)) (((ww) / (100)) % (10))) 13 (st 19 (3)) (zor ((ww) % (100)) (zshl (1) (((ww) / (100)) % (10))))) 14 (st 19 (3)) (zz)) 15 (st 19 (3)) ((sp) / (100))) 16 (st 19 (3)) ((sp) % (100)))) (WC_bd5 g a _ _ (by omega) (by omega)) dX5_add_71 (fun H locs hP hD hS => ?_)
  refine lv_aload hx hb dX5_add_74 (lv_at hl 0 rfl) ?_
  refine lv_iload hx hb dX5_add_76 (lv_at hl 5 rfl) ?_
  refine z_put (C := RX0) (T := TX0) (N := 8) (ci := 0) (ty := .int) hx hb hts iX0 tyX0 tyX0_ok nmX0 hown hK hP hD hS (19 + (st 19 (3)).toNat) (WC_bd g a _ (by omega) (by omega)) rfl 6 (by decide) (hts (.fieldLink RX5 43 "ShotBoard$Board" "words" "I") (by decide +kernel)) rfl (by decide +kernel) rfl rfl (Nat.le_of_ble_eq_true rfl) (WC g a (up (up (up (up (up (up (up (st) 11 (st 19 (3)) ((ww) / (1000))) 12 (st 19 (3)) (((ww) / (100)) % (10))) 13 (st 19 (3)) (zor ((ww) % (100)) (zshl (1) (((ww) / (100)) % (10))))) 14 (st 19 (3)) (zz)) 15 (st 19 (3)) ((sp) / (100))) 16 (st 19 (3)) ((sp) % (100))) 17 (st 19 (3)) (wd))) (WC_bd6 g a _ _ (by omega) (by omega)) dX5_add_78 (fun H locs hP hD hS => ?_)
  refine lv_aload hx hb dX5_add_81 (lv_at hl 0 rfl) ?_
  refine lv_aload hx hb dX5_add_83 (lv_at hl 0 rfl) ?_
  refine z_get (C := RX0) (T := TX0) (N := 8) (ci := 0) hx hb hts iX0 hown hK hP (19 + (st 19 (3)).toNat) (WC_bd g a _ (by omega) (by omega)) rfl 0 (by decide) (hts (.fieldLink RX5 25 "ShotBoard$Board" "kind" "I") (by decide +kernel)) (.int (iZ ((up (up (up (up (up (up (up (st) 11 (st 19 (3)) ((ww) / (1000))) 12 (st 19 (3)) (((ww) / (100)) % (10))) 13 (st 19 (3)) (zor ((ww) % (100)) (zshl (1) (((ww) / (100)) % (10))))) 14 (st 19 (3)) (zz)) 15 (st 19 (3)) ((sp) / (100))) 16 (st 19 (3)) ((sp) % (100))) 17 (st 19 (3)) (wd)) 11 (st 19 (3))))) rfl dX5_add_85 ?_
  refine z_as (y := (ww) / (1000)) (by simp [up, uf]) ?_
  refine z_iconst hx hb dX5_add_88 ?_
  refine z_icmp_ne (tgt := 108) hx hb (by omega) (by decide) dX5_add_89 (by decide) (fun c1 => ?_) (fun c1 => ?_)
  · skip
    have hct : b2 (ww / 1000 = 1 ∧ SLT (B7 st (st 19 3) (ww / 1000) (ww / 100 % 10) (zor (ww % 100) (zshl 1 (ww / 100 % 10))) zz (sp / 100) (sp % 100) wd) (st 19 3) = spk (ww / 100 % 10) (PTN (ww / 100 % 10) (zor (ww % 100) (zshl 1 (ww / 100 % 10))))) = 0 := b2_f (fun z => c1 z.1)
    refine z_iconst hx hb dX5_add_108 ?_
    refine z_put (C := RX0) (T := TX0) (N := 8) (ci := 0) (ty := .boolean) hx hb hts iX0 tyX0 tyX0_ok nmX0 hown hK hP hD hS (19 + (st 19 (3)).toNat) (WC_bd g a _ (by omega) (by omega)) rfl 7 (by decide) (hts (.fieldLink RX5 53 "ShotBoard$Board" "cutsOnPair" "Z") (by decide +kernel)) rfl (by decide +kernel) (nar_z (by omega)) (fit_z (by omega)) (Nat.le_of_ble_eq_true rfl) (WC g a (up (up (up (up (up (up (up (up (st) 11 (st 19 (3)) ((ww) / (1000))) 12 (st 19 (3)) (((ww) / (100)) % (10))) 13 (st 19 (3)) (zor ((ww) % (100)) (zshl (1) (((ww) / (100)) % (10))))) 14 (st 19 (3)) (zz)) 15 (st 19 (3)) ((sp) / (100))) 16 (st 19 (3)) ((sp) % (100))) 17 (st 19 (3)) (wd)) 18 (st 19 (3)) (0))) (WC_bd7 g a _ _ (by omega) (by omega)) dX5_add_109 (fun H locs hP hD hS => ?_)
    refine lv_aload_n hx hb dX5_add_112 rfl (lv_at hl 1 rfl) ?_
    refine lv_dup hx hb dX5_add_113 rfl ?_
    refine z_get (C := RX5) (T := TX5) (N := 3) (ci := 4) hx hb hts iX5 hown hK hP 3 rfl rfl 1 (by decide) (hts (.fieldLink RX5 22 "ShotBoard$Script" "boards" "I") (by decide +kernel)) (.int (iZ (st 19 (3)))) rfl dX5_add_114 ?_
    refine z_iconst hx hb dX5_add_117 ?_
    refine z_iadd hx hb dX5_add_118 ?_
    refine z_put (C := RX5) (T := TX5) (N := 3) (ci := 4) (ty := .int) hx hb hts iX5 tyX5 tyX5_ok nmX5 hown hK hP hD hS 3 rfl rfl 1 (by decide) (hts (.fieldLink RX5 22 "ShotBoard$Script" "boards" "I") (by decide +kernel)) rfl (by decide +kernel) rfl rfl (Nat.le_of_ble_eq_true rfl) (WC g a (up (up (up (up (up (up (up (up (up (st) 11 (st 19 (3)) ((ww) / (1000))) 12 (st 19 (3)) (((ww) / (100)) % (10))) 13 (st 19 (3)) (zor ((ww) % (100)) (zshl (1) (((ww) / (100)) % (10))))) 14 (st 19 (3)) (zz)) 15 (st 19 (3)) ((sp) / (100))) 16 (st 19 (3)) ((sp) % (100))) 17 (st 19 (3)) (wd)) 18 (st 19 (3)) (0)) 19 (3) ((st 19 (3)) + (1)))) rfl dX5_add_119 (fun H locs hP hD hS => ?_)
    refine lv_aload_n hx hb dX5_add_122 rfl (lv_at hl 1 rfl) ?_
    refine z_get (C := RX5) (T := TX5) (N := 3) (ci := 4) hx hb hts iX5 hown hK hP 3 rfl rfl 1 (by decide) (hts (.fieldLink RX5 22 "ShotBoard$Script" "boards" "I") (by decide +kernel)) (.int (iZ ((st 19 (3)) + (1)))) rfl dX5_add_123 ?_
    refine z_iconst hx hb dX5_add_126 ?_
    refine z_isub hx hb dX5_add_127 ?_
    exact K _ (up (up (up (up (up (up (up (up (up (st) 11 (st 19 (3)) ((ww) / (1000))) 12 (st 19 (3)) (((ww) / (100)) % (10))) 13 (st 19 (3)) (zor ((ww) % (100)) (zshl (1) (((ww) / (100)) % (10))))) 14 (st 19 (3)) (zz)) 15 (st 19 (3)) ((sp) / (100))) 16 (st 19 (3)) ((sp) % (100))) 17 (st 19 (3)) (wd)) 18 (st 19 (3)) (0)) 19 (3) ((st 19 (3)) + (1))) _ _ _ _ hP hS (⟨by omega, by rw [hct]; rfl⟩) dX5_add_128
  · skip
    have hk1 := c1
    refine lv_aload_n hx hb dX5_add_92 rfl (lv_at hl 1 rfl) ?_
    refine z_cVR (q0 := 3) (ci := 4) (As := []) (rest := [.ref (a (19 + (st 19 (3)).toNat))]) S (m_X5_speakersOfLastTwo l D g a (up (up (up (up (up (up (up (st) 11 (st 19 (3)) ((ww) / (1000))) 12 (st 19 (3)) (((ww) / (100)) % (10))) 13 (st 19 (3)) (zor ((ww) % (100)) (zshl (1) (((ww) / (100)) % (10))))) 14 (st 19 (3)) (zz)) 15 (st 19 (3)) ((sp) / (100))) 16 (st 19 (3)) ((sp) % (100))) 17 (st 19 (3)) (wd)) hI7) (cwV 0 hts gX5_add_X5_speakersOfLastTwo rfl rfl rfl (by decide +kernel) ⟨Nat.le_trans (by decide) hRf, Nat.le_trans (by decide) hRl⟩) hK hP rfl rfl rfl hl.1 rfl (Nat.le_of_ble_eq_true rfl) dX5_add_93 ⟨Nat.zero_le _, Nat.zero_le _⟩ ?_
    have f93 := SLT_rg (B7 st (st 19 3) (ww / 1000) (ww / 100 % 10) (zor (ww % 100) (zshl 1 (ww / 100 % 10))) zz (sp / 100) (sp % 100) wd) (st 19 3)
    refine z_as (y := SLT (B7 st (st 19 3) (ww / 1000) (ww / 100 % 10) (zor (ww % 100) (zshl 1 (ww / 100 % 10))) zz (sp / 100) (sp % 100) wd) (st 19 3)) (rfl) ?_
    refine lv_aload hx hb dX5_add_96 (lv_at hl 0 rfl) ?_
    refine z_cVR (q0 := (19 + (st 19 (3)).toNat)) (ci := 0) (As := []) (rest := [.int (iZ (SLT (B7 st (st 19 3) (ww / 1000) (ww / 100 % 10) (zor (ww % 100) (zshl 1 (ww / 100 % 10))) zz (sp / 100) (sp % 100) wd) (st 19 3))), .ref (a (19 + (st 19 (3)).toNat))]) S (m_X0_speakers l D g a (up (up (up (up (up (up (up (st) 11 (st 19 (3)) ((ww) / (1000))) 12 (st 19 (3)) (((ww) / (100)) % (10))) 13 (st 19 (3)) (zor ((ww) % (100)) (zshl (1) (((ww) / (100)) % (10))))) 14 (st 19 (3)) (zz)) 15 (st 19 (3)) ((sp) / (100))) 16 (st 19 (3)) ((sp) % (100))) 17 (st 19 (3)) (wd)) (st 19 (3)) hI7 (by omega)) (cwV 0 hts gX5_add_X0_speakers rfl rfl rfl (by decide +kernel) ⟨Nat.le_trans (by decide) hRf, Nat.le_trans (by decide) hRl⟩) hK hP rfl (WC_bd g a _ (by omega) (by omega)) rfl hl.1 rfl (Nat.le_of_ble_eq_true rfl) dX5_add_98 ⟨Nat.zero_le _, Nat.zero_le _⟩ ?_
    have f98 : rg (spk (ww / 100 % 10) (PTN (ww / 100 % 10) (zor (ww % 100) (zshl 1 (ww / 100 % 10))))) := zor_rg _ _
    refine z_as (y := spk (ww / 100 % 10) (PTN (ww / 100 % 10) (zor (ww % 100) (zshl 1 (ww / 100 % 10))))) (by show spk ((B7 st (st 19 3) (ww / 1000) (ww / 100 % 10) (zor (ww % 100) (zshl 1 (ww / 100 % 10))) zz (sp / 100) (sp % 100) wd) 12 (st 19 3)) (PTN ((B7 st (st 19 3) (ww / 1000) (ww / 100 % 10) (zor (ww % 100) (zshl 1 (ww / 100 % 10))) zz (sp / 100) (sp % 100) wd) 12 (st 19 3)) ((B7 st (st 19 3) (ww / 1000) (ww / 100 % 10) (zor (ww % 100) (zshl 1 (ww / 100 % 10))) zz (sp / 100) (sp % 100) wd) 13 (st 19 3))) = _; rw [B7_12, B7_13]) ?_
    refine z_icmp_ne (tgt := 108) hx hb (by omega) (by omega) dX5_add_101 (by decide) (fun c2 => ?_) (fun c2 => ?_)
    · skip
      have hct : b2 (ww / 1000 = 1 ∧ SLT (B7 st (st 19 3) (ww / 1000) (ww / 100 % 10) (zor (ww % 100) (zshl 1 (ww / 100 % 10))) zz (sp / 100) (sp % 100) wd) (st 19 3) = spk (ww / 100 % 10) (PTN (ww / 100 % 10) (zor (ww % 100) (zshl 1 (ww / 100 % 10))))) = 0 := b2_f (fun z => c2 z.2)
      refine z_iconst hx hb dX5_add_108 ?_
      refine z_put (C := RX0) (T := TX0) (N := 8) (ci := 0) (ty := .boolean) hx hb hts iX0 tyX0 tyX0_ok nmX0 hown hK hP hD hS (19 + (st 19 (3)).toNat) (WC_bd g a _ (by omega) (by omega)) rfl 7 (by decide) (hts (.fieldLink RX5 53 "ShotBoard$Board" "cutsOnPair" "Z") (by decide +kernel)) rfl (by decide +kernel) (nar_z (by omega)) (fit_z (by omega)) (Nat.le_of_ble_eq_true rfl) (WC g a (up (up (up (up (up (up (up (up (st) 11 (st 19 (3)) ((ww) / (1000))) 12 (st 19 (3)) (((ww) / (100)) % (10))) 13 (st 19 (3)) (zor ((ww) % (100)) (zshl (1) (((ww) / (100)) % (10))))) 14 (st 19 (3)) (zz)) 15 (st 19 (3)) ((sp) / (100))) 16 (st 19 (3)) ((sp) % (100))) 17 (st 19 (3)) (wd)) 18 (st 19 (3)) (0))) (WC_bd7 g a _ _ (by omega) (by omega)) dX5_add_109 (fun H locs hP hD hS => ?_)
      refine lv_aload_n hx hb dX5_add_112 rfl (lv_at hl 1 rfl) ?_
      refine lv_dup hx hb dX5_add_113 rfl ?_
      refine z_get (C := RX5) (T := TX5) (N := 3) (ci := 4) hx hb hts iX5 hown hK hP 3 rfl rfl 1 (by decide) (hts (.fieldLink RX5 22 "ShotBoard$Script" "boards" "I") (by decide +kernel)) (.int (iZ (st 19 (3)))) rfl dX5_add_114 ?_
      refine z_iconst hx hb dX5_add_117 ?_
      refine z_iadd hx hb dX5_add_118 ?_
      refine z_put (C := RX5) (T := TX5) (N := 3) (ci := 4) (ty := .int) hx hb hts iX5 tyX5 tyX5_ok nmX5 hown hK hP hD hS 3 rfl rfl 1 (by decide) (hts (.fieldLink RX5 22 "ShotBoard$Script" "boards" "I") (by decide +kernel)) rfl (by decide +kernel) rfl rfl (Nat.le_of_ble_eq_true rfl) (WC g a (up (up (up (up (up (up (up (up (up (st) 11 (st 19 (3)) ((ww) / (1000))) 12 (st 19 (3)) (((ww) / (100)) % (10))) 13 (st 19 (3)) (zor ((ww) % (100)) (zshl (1) (((ww) / (100)) % (10))))) 14 (st 19 (3)) (zz)) 15 (st 19 (3)) ((sp) / (100))) 16 (st 19 (3)) ((sp) % (100))) 17 (st 19 (3)) (wd)) 18 (st 19 (3)) (0)) 19 (3) ((st 19 (3)) + (1)))) rfl dX5_add_119 (fun H locs hP hD hS => ?_)
      refine lv_aload_n hx hb dX5_add_122 rfl (lv_at hl 1 rfl) ?_
      refine z_get (C := RX5) (T := TX5) (N := 3) (ci := 4) hx hb hts iX5 hown hK hP 3 rfl rfl 1 (by decide) (hts (.fieldLink RX5 22 "ShotBoard$Script" "boards" "I") (by decide +kernel)) (.int (iZ ((st 19 (3)) + (1)))) rfl dX5_add_123 ?_
      refine z_iconst hx hb dX5_add_126 ?_
      refine z_isub hx hb dX5_add_127 ?_
      exact K _ (up (up (up (up (up (up (up (up (up (st) 11 (st 19 (3)) ((ww) / (1000))) 12 (st 19 (3)) (((ww) / (100)) % (10))) 13 (st 19 (3)) (zor ((ww) % (100)) (zshl (1) (((ww) / (100)) % (10))))) 14 (st 19 (3)) (zz)) 15 (st 19 (3)) ((sp) / (100))) 16 (st 19 (3)) ((sp) % (100))) 17 (st 19 (3)) (wd)) 18 (st 19 (3)) (0)) 19 (3) ((st 19 (3)) + (1))) _ _ _ _ hP hS (⟨by omega, by rw [hct]; rfl⟩) dX5_add_128
    · skip
      have hct : b2 (ww / 1000 = 1 ∧ SLT (B7 st (st 19 3) (ww / 1000) (ww / 100 % 10) (zor (ww % 100) (zshl 1 (ww / 100 % 10))) zz (sp / 100) (sp % 100) wd) (st 19 3) = spk (ww / 100 % 10) (PTN (ww / 100 % 10) (zor (ww % 100) (zshl 1 (ww / 100 % 10))))) = 1 := b2_t ⟨hk1, c2⟩
      refine z_iconst hx hb dX5_add_104 ?_
      refine lv_goto (tgt := 109) hx hb dX5_add_105 (by decide) ?_
      refine z_put (C := RX0) (T := TX0) (N := 8) (ci := 0) (ty := .boolean) hx hb hts iX0 tyX0 tyX0_ok nmX0 hown hK hP hD hS (19 + (st 19 (3)).toNat) (WC_bd g a _ (by omega) (by omega)) rfl 7 (by decide) (hts (.fieldLink RX5 53 "ShotBoard$Board" "cutsOnPair" "Z") (by decide +kernel)) rfl (by decide +kernel) (nar_z (by omega)) (fit_z (by omega)) (Nat.le_of_ble_eq_true rfl) (WC g a (up (up (up (up (up (up (up (up (st) 11 (st 19 (3)) ((ww) / (1000))) 12 (st 19 (3)) (((ww) / (100)) % (10))) 13 (st 19 (3)) (zor ((ww) % (100)) (zshl (1) (((ww) / (100)) % (10))))) 14 (st 19 (3)) (zz)) 15 (st 19 (3)) ((sp) / (100))) 16 (st 19 (3)) ((sp) % (100))) 17 (st 19 (3)) (wd)) 18 (st 19 (3)) (1))) (WC_bd7 g a _ _ (by omega) (by omega)) dX5_add_109 (fun H locs hP hD hS => ?_)
      refine lv_aload_n hx hb dX5_add_112 rfl (lv_at hl 1 rfl) ?_
      refine lv_dup hx hb dX5_add_113 rfl ?_
      refine z_get (C := RX5) (T := TX5) (N := 3) (ci := 4) hx hb hts iX5 hown hK hP 3 rfl rfl 1 (by decide) (hts (.fieldLink RX5 22 "ShotBoard$Script" "boards" "I") (by decide +kernel)) (.int (iZ (st 19 (3)))) rfl dX5_add_114 ?_
      refine z_iconst hx hb dX5_add_117 ?_
      refine z_iadd hx hb dX5_add_118 ?_
      refine z_put (C := RX5) (T := TX5) (N := 3) (ci := 4) (ty := .int) hx hb hts iX5 tyX5 tyX5_ok nmX5 hown hK hP hD hS 3 rfl rfl 1 (by decide) (hts (.fieldLink RX5 22 "ShotBoard$Script" "boards" "I") (by decide +kernel)) rfl (by decide +kernel) rfl rfl (Nat.le_of_ble_eq_true rfl) (WC g a (up (up (up (up (up (up (up (up (up (st) 11 (st 19 (3)) ((ww) / (1000))) 12 (st 19 (3)) (((ww) / (100)) % (10))) 13 (st 19 (3)) (zor ((ww) % (100)) (zshl (1) (((ww) / (100)) % (10))))) 14 (st 19 (3)) (zz)) 15 (st 19 (3)) ((sp) / (100))) 16 (st 19 (3)) ((sp) % (100))) 17 (st 19 (3)) (wd)) 18 (st 19 (3)) (1)) 19 (3) ((st 19 (3)) + (1)))) rfl dX5_add_119 (fun H locs hP hD hS => ?_)
      refine lv_aload_n hx hb dX5_add_122 rfl (lv_at hl 1 rfl) ?_
      refine z_get (C := RX5) (T := TX5) (N := 3) (ci := 4) hx hb hts iX5 hown hK hP 3 rfl rfl 1 (by decide) (hts (.fieldLink RX5 22 "ShotBoard$Script" "boards" "I") (by decide +kernel)) (.int (iZ ((st 19 (3)) + (1)))) rfl dX5_add_123 ?_
      refine z_iconst hx hb dX5_add_126 ?_
      refine z_isub hx hb dX5_add_127 ?_
      exact K _ (up (up (up (up (up (up (up (up (up (st) 11 (st 19 (3)) ((ww) / (1000))) 12 (st 19 (3)) (((ww) / (100)) % (10))) 13 (st 19 (3)) (zor ((ww) % (100)) (zshl (1) (((ww) / (100)) % (10))))) 14 (st 19 (3)) (zz)) 15 (st 19 (3)) ((sp) / (100))) 16 (st 19 (3)) ((sp) % (100))) 17 (st 19 (3)) (wd)) 18 (st 19 (3)) (1)) 19 (3) ((st 19 (3)) + (1))) _ _ _ _ hP hS (⟨by omega, by rw [hct]; rfl⟩) dX5_add_128
abbrev rX3_canFilm : Room := { frames := 3, cells := 0, slots := 0, locals := 72 }
set_option maxHeartbeats 4000000 in
set_option maxRecDepth 100000 in
theorem m_X3_canFilm (l : Launch) (D : va_G) (g : Nat → ClassId) (a : Nat → Nat) (st : SS) (se : Int) (hI : IC st) (hQ : IP st) (h1 : 0 ≤ se ∧ se < 1024) : Met l yX3_canFilm wsX3_canFilm rX3_canFilm (PcM D g (AWC a) (WC g a st) [.ref (a 5), .int (iZ (se))]) (QcI D (WC g a) (AWC a) (fun r u => r = b2 (OKS st se) ∧ CFD st se u)) 0 0 (AWC a) := by
  refine metI (cc := cX3_canFilm) (maxL := 5) (ret := (some .boolean)) (own := RX3) (by decide) rfl rfl (Nat.le_of_ble_eq_true rfl) (Or.inr ⟨rfl, fun r u h => by rw [h.1]; exact b2_01 _⟩) ?_
  intro p e R s m args below meth c Q ls S hRf hRl hK hP hD hS hl K
  have hx := S.1
  have hb := S.2.1
  have hown := S.2.2.2.1
  have hts := S.2.2.2.2
  have hRf : 3 ≤ R.frames := hRf
  have hRl : 72 ≤ R.locals := hRl
  have hl : lv_has ls 5 [(0, .ref (a 5)), (1, .int (iZ (se)))] := hl
  have iX3 : ∀ w ∈ wsX30, w ∈ wsX3_canFilm := by decide +kernel
  have iX5 : ∀ w ∈ wsX50, w ∈ wsX3_canFilm := by decide +kernel
  have hB := hI.s
  refine lv_aload_n hx hb dX3_canFilm_0 rfl (lv_at hl 0 rfl) ?_
  refine z_get (C := RX3) (T := TX3) (N := 11) (ci := 2) hx hb hts iX3 hown hK hP 5 rfl rfl 2 (by decide) (hts (.fieldLink RX3 36 "ShotBoard$Planner" "script" "LShotBoard$Script;") (by decide +kernel)) (.ref (a 3)) rfl dX3_canFilm_1 ?_
  refine z_get (C := RX5) (T := TX5) (N := 3) (ci := 4) hx hb hts iX5 hown hK hP 3 rfl rfl 1 (by decide) (hts (.fieldLink RX3 44 "ShotBoard$Script" "boards" "I") (by decide +kernel)) (.int (iZ (st 19 (3)))) rfl dX3_canFilm_4 ?_
  refine z_iconst hx hb dX3_canFilm_7 ?_
  refine z_imul hx hb dX3_canFilm_8 ?_
  refine lv_istore_n (lv' := [(2, .int (iZ ((st 19 (3)) * (3)))), (0, .ref (a 5)), (1, .int (iZ (se)))]) hx hb dX3_canFilm_9 rfl hl (by decide) rfl (fun ls hl => ?_)
  refine lv_aload_n hx hb dX3_canFilm_10 rfl (lv_at hl 1 rfl) ?_
  refine z_get (C := RX3) (T := TX3) (N := 11) (ci := 2) hx hb hts iX3 hown hK hP 5 rfl rfl 5 (by decide) (hts (.fieldLink RX3 18 "ShotBoard$Planner" "canGoOn" "[Z") (by decide +kernel)) (.ref (a 16)) rfl dX3_canFilm_11 ?_
  refine lv_iload_n hx hb dX3_canFilm_14 rfl (lv_at hl 0 rfl) ?_
  refine z_iconst hx hb dX3_canFilm_15 ?_
  refine z_zast hx hb hK hP hD hS 16 (st 8) rfl (by omega) (by omega) (by omega) (by omega) (WC g a (up (st) 8 ((st 19 (3)) * (3)) (1))) rfl dX3_canFilm_16 (fun H locs hP hD hS => ?_)
  refine lv_aload_n hx hb dX3_canFilm_17 rfl (lv_at hl 1 rfl) ?_
  refine z_get (C := RX3) (T := TX3) (N := 11) (ci := 2) hx hb hts iX3 hown hK hP 5 rfl rfl 5 (by decide) (hts (.fieldLink RX3 18 "ShotBoard$Planner" "canGoOn" "[Z") (by decide +kernel)) (.ref (a 16)) rfl dX3_canFilm_18 ?_
  refine lv_iload_n hx hb dX3_canFilm_21 rfl (lv_at hl 0 rfl) ?_
  refine z_iconst hx hb dX3_canFilm_22 ?_
  refine z_iadd hx hb dX3_canFilm_23 ?_
  refine z_iconst hx hb dX3_canFilm_24 ?_
  refine z_zast hx hb hK hP hD hS 16 ((up (st) 8 ((st 19 (3)) * (3)) (1)) 8) rfl (by omega) (by omega) (by omega) (by omega) (WC g a (up (up (st) 8 ((st 19 (3)) * (3)) (1)) 8 (((st 19 (3)) * (3)) + (1)) (1))) rfl dX3_canFilm_25 (fun H locs hP hD hS => ?_)
  refine lv_aload_n hx hb dX3_canFilm_26 rfl (lv_at hl 1 rfl) ?_
  refine z_get (C := RX3) (T := TX3) (N := 11) (ci := 2) hx hb hts iX3 hown hK hP 5 rfl rfl 5 (by decide) (hts (.fieldLink RX3 18 "ShotBoard$Planner" "canGoOn" "[Z") (by decide +kernel)) (.ref (a 16)) rfl dX3_canFilm_27 ?_
  refine lv_iload_n hx hb dX3_canFilm_30 rfl (lv_at hl 0 rfl) ?_
  refine z_iconst hx hb dX3_canFilm_31 ?_
  refine z_iadd hx hb dX3_canFilm_32 ?_
  refine z_iconst hx hb dX3_canFilm_33 ?_
  refine z_zast hx hb hK hP hD hS 16 ((up (up (st) 8 ((st 19 (3)) * (3)) (1)) 8 (((st 19 (3)) * (3)) + (1)) (1)) 8) rfl (by omega) (by omega) (by omega) (by omega) (WC g a (up (up (up (st) 8 ((st 19 (3)) * (3)) (1)) 8 (((st 19 (3)) * (3)) + (1)) (1)) 8 (((st 19 (3)) * (3)) + (2)) (1))) rfl dX3_canFilm_34 (fun H locs hP hD hS => ?_)
  refine lv_aload_n hx hb dX3_canFilm_35 rfl (lv_at hl 1 rfl) ?_
  refine z_get (C := RX3) (T := TX3) (N := 11) (ci := 2) hx hb hts iX3 hown hK hP 5 rfl rfl 2 (by decide) (hts (.fieldLink RX3 36 "ShotBoard$Planner" "script" "LShotBoard$Script;") (by decide +kernel)) (.ref (a 3)) rfl dX3_canFilm_36 ?_
  refine z_get (C := RX5) (T := TX5) (N := 3) (ci := 4) hx hb hts iX5 hown hK hP 3 rfl rfl 1 (by decide) (hts (.fieldLink RX3 44 "ShotBoard$Script" "boards" "I") (by decide +kernel)) (.int (iZ (st 19 (3)))) rfl dX3_canFilm_39 ?_
  refine z_iconst hx hb dX3_canFilm_42 ?_
  refine z_isub hx hb dX3_canFilm_43 ?_
  refine lv_istore_n (lv' := [(3, .int (iZ ((st 19 (3)) - (1)))), (2, .int (iZ ((st 19 (3)) * (3)))), (0, .ref (a 5)), (1, .int (iZ (se)))]) hx hb dX3_canFilm_44 rfl hl (by decide) rfl (fun ls hl => ?_)
  have LP45 : ∀ (n45 : Nat) (bb : Int) (uu : SS), (bb + 1) < (n45 : Int) → (-1 ≤ bb ∧ bb < st 19 3) → (CFI st se bb (-1) uu) → ∀ (H : Heap) (locs : List Loc), va_P D vwCl (WC g a uu) H → va_D (AWC a) (WC g a uu) → va_S (AWC a) s.heap H locs → ∀ (ls : Array Slot), lv_has ls 5 [(3, .int (iZ (bb))), (2, .int (iZ ((st 19 (3)) * (3)))), (0, .ref (a 5)), (1, .int (iZ (se)))] → W p l e R s m args below meth c H locs 0 0 Q (F0 m 45 ls []) := by
    intro n45
    induction n45 with
    | zero =>
      intro bb uu hm45 j1 j2 H locs hP hD hS ls hl
      exact absurd hm45 (by omega)
    | succ n45 ih45 =>
      intro bb uu hm45 j1 j2 H locs hP hD hS ls hl
      refine lv_iload_n hx hb dX3_canFilm_45 rfl (lv_at hl 0 rfl) ?_
      refine z_if_lt (tgt := 99) hx hb (by omega) dX3_canFilm_46 (by decide) (fun c1 => ?_) (fun c1 => ?_)
      · skip
        refine lv_aload_n hx hb dX3_canFilm_99 rfl (lv_at hl 2 rfl) ?_
        refine z_get (C := RX3) (T := TX3) (N := 11) (ci := 2) hx hb hts iX3 hown hK hP 5 rfl rfl 5 (by decide) (hts (.fieldLink RX3 18 "ShotBoard$Planner" "canGoOn" "[Z") (by decide +kernel)) (.ref (a 16)) rfl dX3_canFilm_100 ?_
        refine z_iconst hx hb dX3_canFilm_103 ?_
        refine z_zald hx hb hK hP 16 (uu 8) rfl (by omega) (by omega) (by omega) dX3_canFilm_104 ?_
        exact K _ (uu) _ _ _ _ hP hS (by
      have e9 : bb = -1 := by omega
      subst e9
      have e8 := j2.2.2.1 0 0 (by omega) (by omega) (by omega) (by omega)
      exact ⟨by rw [show (0 : Int) * 3 + 0 + 1 = 1 by omega] at e8; rw [e8, show st 19 3 - 0 = st 19 3 by omega]; rfl, j2⟩) dX3_canFilm_105
      · skip
        refine z_iconst hx hb dX3_canFilm_49 ?_
        refine lv_istore (lv' := [(4, .int (iZ (-1))), (3, .int (iZ (bb))), (2, .int (iZ ((st 19 (3)) * (3)))), (0, .ref (a 5)), (1, .int (iZ (se)))]) hx hb dX3_canFilm_50 hl (by decide) rfl (fun ls hl => ?_)
        have LP52 : ∀ (n52 : Nat) (la : Int) (vv : SS), (2 - la) < (n52 : Int) → (-1 ≤ la ∧ la ≤ 2) → (CFI st se bb la vv) → ∀ (H : Heap) (locs : List Loc), va_P D vwCl (WC g a vv) H → va_D (AWC a) (WC g a vv) → va_S (AWC a) s.heap H locs → ∀ (ls : Array Slot), lv_has ls 5 [(4, .int (iZ (la))), (3, .int (iZ (bb))), (2, .int (iZ ((st 19 (3)) * (3)))), (0, .ref (a 5)), (1, .int (iZ (se)))] → W p l e R s m args below meth c H locs 0 0 Q (F0 m 52 ls []) := by
          intro n52
          induction n52 with
          | zero =>
            intro la vv hm52 k1 k2 H locs hP hD hS ls hl
            exact absurd hm52 (by omega)
          | succ n52 ih52 =>
            intro la vv hm52 k1 k2 H locs hP hD hS ls hl
            have e19 : vv 19 = st 19 := k2.1 19 (by decide)
            have e19c := congrFun e19 2
            have e19d := congrFun e19 3
            refine lv_iload hx hb dX3_canFilm_52 (lv_at hl 0 rfl) ?_
            refine z_iconst hx hb dX3_canFilm_54 ?_
            refine z_icmp_gt (tgt := 93) hx hb (by omega) (by decide) dX3_canFilm_55 (by decide) (fun c2 => ?_) (fun c2 => ?_)
            · skip
              refine z_iinc (lv' := [(3, .int (iZ ((bb) + (-1)))), (4, .int (iZ (la))), (2, .int (iZ ((st 19 (3)) * (3)))), (0, .ref (a 5)), (1, .int (iZ (se)))]) hx hb dX3_canFilm_93 hl (k := 1) rfl (by decide) rfl (fun ls hl => ?_)
              refine lv_goto (tgt := 45) hx hb dX3_canFilm_96 (by decide) ?_
              exact ih45 ((bb) + (-1)) (vv) (by omega) (by omega) (CFI_next k2 (by omega)) _ _ hP hD hS ls (lv_sub hl [0, 2, 3, 4] rfl)
            · skip
              have hr9 := fP_b (fun c => (bt se c ∧ bt (vv 6 bb) c) ∧ FIT vv bb la c) (vv 19 2).toNat 0 (by omega)
              refine lv_aload_n hx hb dX3_canFilm_58 rfl (lv_at hl 3 rfl) ?_
              refine z_get (C := RX3) (T := TX3) (N := 11) (ci := 2) hx hb hts iX3 hown hK hP 5 rfl rfl 5 (by decide) (hts (.fieldLink RX3 18 "ShotBoard$Planner" "canGoOn" "[Z") (by decide +kernel)) (.ref (a 16)) rfl dX3_canFilm_59 ?_
              refine lv_iload_n hx hb dX3_canFilm_62 rfl (lv_at hl 1 rfl) ?_
              refine z_iconst hx hb dX3_canFilm_63 ?_
              refine z_imul hx hb dX3_canFilm_64 ?_
              refine lv_iload hx hb dX3_canFilm_65 (lv_at hl 0 rfl) ?_
              refine z_iadd hx hb dX3_canFilm_67 ?_
              refine z_iconst hx hb dX3_canFilm_68 ?_
              refine z_iadd hx hb dX3_canFilm_69 ?_
              refine lv_aload_n hx hb dX3_canFilm_70 rfl (lv_at hl 3 rfl) ?_
              refine lv_iload_n hx hb dX3_canFilm_71 rfl (lv_at hl 1 rfl) ?_
              refine lv_iload hx hb dX3_canFilm_72 (lv_at hl 0 rfl) ?_
              refine lv_iload_n hx hb dX3_canFilm_74 rfl (lv_at hl 4 rfl) ?_
              refine z_cVR (q0 := 5) (ci := 2) (As := [.int (iZ (bb)), .int (iZ (la)), .int (iZ (se))]) (rest := [.int (iZ ((((bb) * (3)) + (la)) + (1))), .ref (a 16)]) S (m_X3_firstFor l D g a (vv) (bb) (la) (se) (k2.ic hI) (k2.ip hQ) (by omega) (by omega) (by omega)) (cwV 3 hts gX3_canFilm_X3_firstFor rfl rfl rfl (by decide +kernel) ⟨Nat.le_trans (by decide) hRf, Nat.le_trans (by decide) hRl⟩) hK hP rfl rfl rfl hl.1 rfl (Nat.le_of_ble_eq_true rfl) dX3_canFilm_75 ⟨Nat.zero_le _, Nat.zero_le _⟩ ?_
              refine z_if_lt (tgt := 85) hx hb (by omega) dX3_canFilm_78 (by decide) (fun c3 => ?_) (fun c3 => ?_)
              · skip
                have hst : (0 : Int) = b2 (CGO st se (st 19 3 - bb).toNat la) := (b2_f (fun z => by have := (CFI_first k2 hQ (by omega) (by omega) (by omega) (by omega) (by omega) (by omega)).mpr z; omega)).symm
                refine z_iconst hx hb dX3_canFilm_85 ?_
                refine z_zast hx hb hK hP hD hS 16 (vv 8) rfl (by omega) (by omega) (by omega) (by omega) (WC g a (up (vv) 8 ((((bb) * (3)) + (la)) + (1)) (0))) rfl dX3_canFilm_86 (fun H locs hP hD hS => ?_)
                refine z_iinc (lv' := [(4, .int (iZ ((la) + 1))), (3, .int (iZ (bb))), (2, .int (iZ ((st 19 (3)) * (3)))), (0, .ref (a 5)), (1, .int (iZ (se)))]) hx hb dX3_canFilm_87 hl (k := 0) rfl (by decide) rfl (fun ls hl => ?_)
                refine lv_goto (tgt := 52) hx hb dX3_canFilm_90 (by decide) ?_
                exact ih52 ((la) + 1) (up (vv) 8 ((((bb) * (3)) + (la)) + (1)) (0)) (by omega) (by omega) (CFI_step k2 (by omega) (by omega) (by omega) (by omega) (by omega) hst) _ _ hP hD hS ls (lv_sub hl [0, 1, 2, 3, 4] rfl)
              · skip
                have hst : (1 : Int) = b2 (CGO st se (st 19 3 - bb).toNat la) := (b2_t ((CFI_first k2 hQ (by omega) (by omega) (by omega) (by omega) (by omega) (by omega)).mp c3)).symm
                refine z_iconst hx hb dX3_canFilm_81 ?_
                refine lv_goto (tgt := 86) hx hb dX3_canFilm_82 (by decide) ?_
                refine z_zast hx hb hK hP hD hS 16 (vv 8) rfl (by omega) (by omega) (by omega) (by omega) (WC g a (up (vv) 8 ((((bb) * (3)) + (la)) + (1)) (1))) rfl dX3_canFilm_86 (fun H locs hP hD hS => ?_)
                refine z_iinc (lv' := [(4, .int (iZ ((la) + 1))), (3, .int (iZ (bb))), (2, .int (iZ ((st 19 (3)) * (3)))), (0, .ref (a 5)), (1, .int (iZ (se)))]) hx hb dX3_canFilm_87 hl (k := 0) rfl (by decide) rfl (fun ls hl => ?_)
                refine lv_goto (tgt := 52) hx hb dX3_canFilm_90 (by decide) ?_
                exact ih52 ((la) + 1) (up (vv) 8 ((((bb) * (3)) + (la)) + (1)) (1)) (by omega) (by omega) (CFI_step k2 (by omega) (by omega) (by omega) (by omega) (by omega) hst) _ _ hP hD hS ls (lv_sub hl [0, 1, 2, 3, 4] rfl)
        exact LP52 ((2 - (-1)) + 1 : Int).toNat (-1) (uu) (by omega) (by omega) (j2) _ _ hP hD hS ls (lv_sub hl [0, 1, 2, 3, 4] rfl)
  exact LP45 ((((st 19 (3)) - (1)) + 1) + 1 : Int).toNat ((st 19 (3)) - (1)) (up (up (up (st) 8 ((st 19 (3)) * (3)) (1)) 8 (((st 19 (3)) * (3)) + (1)) (1)) 8 (((st 19 (3)) * (3)) + (2)) (1)) (by omega) (by omega) (CFI_init se hQ (by omega) (by omega)) _ _ hP hD hS ls (lv_sub hl [0, 1, 2, 3] rfl)
