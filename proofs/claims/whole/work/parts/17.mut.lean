abbrev rX3_forget : Room := { frames := 0, cells := 0, slots := 0, locals := 0 }
set_option maxHeartbeats 4000000 in
set_option maxRecDepth 100000 in
theorem m_X3_forget (l : Launch) (D : va_G) (g : Nat → ClassId) (a : Nat → Nat) (st : SS) : Met l yX3_forget wsX3_forget rX3_forget (PcM D g (AWC a) (WC g a st) [.ref (a 5)]) (QcV D (WC g a) (AWC a) (fun u => u = up st 21 2 0)) 0 0 (AWC a) := by
  refine metV (cc := cX3_forget) (maxL := 1) (own := RX3) (by decide) rfl rfl (Nat.le_of_ble_eq_true rfl) ?_
  intro p e R s m args below meth c Q ls S hRf hRl hK hP hD hS hl K
  have hx := S.1
  have hb := S.2.1
  have hown := S.2.2.2.1
  have hts := S.2.2.2.2
  have hRf : 0 ≤ R.frames := hRf
  have hRl : 0 ≤ R.locals := hRl
  have hl : lv_has ls 1 [(0, .ref (a 5))] := hl
  have iX3 : ∀ w ∈ wsX30, w ∈ wsX3_forget := by decide +kernel
  refine lv_aload_n hx hb dX3_forget_0 rfl (lv_at hl 0 rfl) ?_
  refine z_iconst hx hb dX3_forget_1 ?_
  refine z_put (C := RX3) (T := TX3) (N := 11) (ci := 2) (ty := .boolean) hx hb hts iX3 tyX3 tyX3_ok nmX3 hown hK hP hD hS 5 rfl rfl 10 (by decide) (hts (.fieldLink RX3 40 "ShotBoard$Planner" "known" "Z") (by decide +kernel)) rfl (by decide +kernel) (nar_z (by omega)) (fit_z (by omega)) (Nat.le_of_ble_eq_true rfl) (WC g a (up (st) 21 (2) (0))) rfl dX3_forget_2 (fun H locs hP hD hS => ?_)
  exact K (up (st) 21 (2) (0)) _ _ _ _ hP hS (rfl) dX3_forget_5
abbrev rJ13_bitCount_95d88 : Room := { frames := 0, cells := 0, slots := 0, locals := 0 }
set_option maxHeartbeats 4000000 in
set_option maxRecDepth 100000 in
theorem m_J13_bitCount_95d88 (l : Launch) (xx : Int) : Met l yJ13_bitCount_95d88 wsJ13_bitCount_95d88 rJ13_bitCount_95d88 (PcS [.long (lZ (xx))]) (QcRead (iZ (ljbc xx))) 0 0 (fun _ => False) := by
  refine metS (cc := cJ13_bitCount_95d88) (maxL := 2) (ret := (some .int)) (own := RJ13) (by decide) rfl rfl (Nat.le_of_ble_eq_true rfl) (Or.inl rfl) ?_
  intro p e R s m args below meth c Q ls S hRf hRl hl K
  have hx := S.1
  have hb := S.2.1
  have hown := S.2.2.2.1
  have hts := S.2.2.2.2
  have hRf : 0 ≤ R.frames := hRf
  have hRl : 0 ≤ R.locals := hRl
  have hl : lv_has ls 2 [(0, .long (lZ (xx)))] := hl
  refine lv_lload_n hx hb dJ13_bitCount_95d88_0 rfl (lv_at hl 0 rfl) ?_
  refine lv_lload_n hx hb dJ13_bitCount_95d88_1 rfl (lv_at hl 0 rfl) ?_
  refine z_iconst hx hb dJ13_bitCount_95d88_2 ?_
  refine z_lushr hx hb dJ13_bitCount_95d88_3 ?_
  refine z_ldc2 hx hb (6148914691236517205) (by decide +kernel) hown (hts (.constantLong RJ13 314 (6148914691236517205)) (by decide +kernel)) dJ13_bitCount_95d88_4 ?_
  refine z_land hx hb dJ13_bitCount_95d88_7 ?_
  refine z_lsub hx hb dJ13_bitCount_95d88_8 ?_
  refine z_asL (y := lj1 (xx)) (rfl) ?_
  refine lv_lstore_n (lv' := [(0, .long (lZ (lj1 (xx))))]) hx hb dJ13_bitCount_95d88_9 rfl hl (by decide) rfl (fun ls hl => ?_)
  refine lv_lload_n hx hb dJ13_bitCount_95d88_10 rfl (lv_at hl 0 rfl) ?_
  refine z_ldc2 hx hb (3689348814741910323) (by decide +kernel) hown (hts (.constantLong RJ13 316 (3689348814741910323)) (by decide +kernel)) dJ13_bitCount_95d88_11 ?_
  refine z_land hx hb dJ13_bitCount_95d88_14 ?_
  refine lv_lload_n hx hb dJ13_bitCount_95d88_15 rfl (lv_at hl 0 rfl) ?_
  refine z_iconst hx hb dJ13_bitCount_95d88_16 ?_
  refine z_lushr hx hb dJ13_bitCount_95d88_17 ?_
  refine z_ldc2 hx hb (3689348814741910323) (by decide +kernel) hown (hts (.constantLong RJ13 316 (3689348814741910323)) (by decide +kernel)) dJ13_bitCount_95d88_18 ?_
  refine z_land hx hb dJ13_bitCount_95d88_21 ?_
  refine z_ladd hx hb dJ13_bitCount_95d88_22 ?_
  refine z_asL (y := lj2 (lj1 (xx))) (rfl) ?_
  refine lv_lstore_n (lv' := [(0, .long (lZ (lj2 (lj1 (xx)))))]) hx hb dJ13_bitCount_95d88_23 rfl hl (by decide) rfl (fun ls hl => ?_)
  refine lv_lload_n hx hb dJ13_bitCount_95d88_24 rfl (lv_at hl 0 rfl) ?_
  refine lv_lload_n hx hb dJ13_bitCount_95d88_25 rfl (lv_at hl 0 rfl) ?_
  refine z_iconst hx hb dJ13_bitCount_95d88_26 ?_
  refine z_lushr hx hb dJ13_bitCount_95d88_27 ?_
  refine z_ladd hx hb dJ13_bitCount_95d88_28 ?_
  refine z_ldc2 hx hb (1085102592571150095) (by decide +kernel) hown (hts (.constantLong RJ13 318 (1085102592571150095)) (by decide +kernel)) dJ13_bitCount_95d88_29 ?_
  refine z_land hx hb dJ13_bitCount_95d88_32 ?_
  refine z_asL (y := lj3 (lj2 (lj1 (xx)))) (rfl) ?_
  refine lv_lstore_n (lv' := [(0, .long (lZ (lj3 (lj2 (lj1 (xx))))))]) hx hb dJ13_bitCount_95d88_33 rfl hl (by decide) rfl (fun ls hl => ?_)
  refine lv_lload_n hx hb dJ13_bitCount_95d88_34 rfl (lv_at hl 0 rfl) ?_
  refine lv_lload_n hx hb dJ13_bitCount_95d88_35 rfl (lv_at hl 0 rfl) ?_
  refine z_bipush hx hb dJ13_bitCount_95d88_36 (by decide +kernel) ?_
  refine z_lushr hx hb dJ13_bitCount_95d88_38 ?_
  refine z_ladd hx hb dJ13_bitCount_95d88_39 ?_
  refine z_asL (y := lj4 (lj3 (lj2 (lj1 (xx))))) (rfl) ?_
  refine lv_lstore_n (lv' := [(0, .long (lZ (lj4 (lj3 (lj2 (lj1 (xx)))))))]) hx hb dJ13_bitCount_95d88_40 rfl hl (by decide) rfl (fun ls hl => ?_)
  refine lv_lload_n hx hb dJ13_bitCount_95d88_41 rfl (lv_at hl 0 rfl) ?_
  refine lv_lload_n hx hb dJ13_bitCount_95d88_42 rfl (lv_at hl 0 rfl) ?_
  refine z_bipush hx hb dJ13_bitCount_95d88_43 (by decide +kernel) ?_
  refine z_lushr hx hb dJ13_bitCount_95d88_45 ?_
  refine z_ladd hx hb dJ13_bitCount_95d88_46 ?_
  refine z_asL (y := lj5 (lj4 (lj3 (lj2 (lj1 (xx)))))) (rfl) ?_
  refine lv_lstore_n (lv' := [(0, .long (lZ (lj5 (lj4 (lj3 (lj2 (lj1 (xx))))))))]) hx hb dJ13_bitCount_95d88_47 rfl hl (by decide) rfl (fun ls hl => ?_)
  refine lv_lload_n hx hb dJ13_bitCount_95d88_48 rfl (lv_at hl 0 rfl) ?_
  refine lv_lload_n hx hb dJ13_bitCount_95d88_49 rfl (lv_at hl 0 rfl) ?_
  refine z_bipush hx hb dJ13_bitCount_95d88_50 (by decide +kernel) ?_
  refine z_lushr hx hb dJ13_bitCount_95d88_52 ?_
  refine z_ladd hx hb dJ13_bitCount_95d88_53 ?_
  refine z_asL (y := lj6 (lj5 (lj4 (lj3 (lj2 (lj1 (xx))))))) (rfl) ?_
  refine lv_lstore_n (lv' := [(0, .long (lZ (lj6 (lj5 (lj4 (lj3 (lj2 (lj1 (xx)))))))))]) hx hb dJ13_bitCount_95d88_54 rfl hl (by decide) rfl (fun ls hl => ?_)
  refine lv_lload_n hx hb dJ13_bitCount_95d88_55 rfl (lv_at hl 0 rfl) ?_
  refine z_l2i hx hb dJ13_bitCount_95d88_56 ?_
  refine z_bipush hx hb dJ13_bitCount_95d88_57 (by decide +kernel) ?_
  refine z_iand hx hb dJ13_bitCount_95d88_59 ?_
  exact K _ _ _ (rfl) dJ13_bitCount_95d88_60
abbrev rJ6_bitCount_0f7a4 : Room := { frames := 0, cells := 0, slots := 0, locals := 0 }
set_option maxHeartbeats 4000000 in
set_option maxRecDepth 100000 in
theorem m_J6_bitCount_0f7a4 (l : Launch) (xx : Int) (h1 : 0 ≤ xx ∧ xx < 1024) : Met l yJ6_bitCount_0f7a4 wsJ6_bitCount_0f7a4 rJ6_bitCount_0f7a4 (PcS [.int (iZ (xx))]) (QcRead (iZ (popc xx))) 0 0 (fun _ => False) := by
  refine metS (cc := cJ6_bitCount_0f7a4) (maxL := 1) (ret := (some .int)) (own := RJ6) (by decide) rfl rfl (Nat.le_of_ble_eq_true rfl) (Or.inl rfl) ?_
  intro p e R s m args below meth c Q ls S hRf hRl hl K
  have hx := S.1
  have hb := S.2.1
  have hown := S.2.2.2.1
  have hts := S.2.2.2.2
  have hRf : 0 ≤ R.frames := hRf
  have hRl : 0 ≤ R.locals := hRl
  have hl : lv_has ls 1 [(0, .int (iZ (xx)))] := hl
  refine lv_iload_n hx hb dJ6_bitCount_0f7a4_0 rfl (lv_at hl 0 rfl) ?_
  refine lv_iload_n hx hb dJ6_bitCount_0f7a4_1 rfl (lv_at hl 0 rfl) ?_
  refine z_iconst hx hb dJ6_bitCount_0f7a4_2 ?_
  refine z_iushr hx hb dJ6_bitCount_0f7a4_3 ?_
  refine z_ldcw hx hb (1431655765) (by decide +kernel) hown (hts (.constant RJ6 265 (1431655765)) (by decide +kernel)) dJ6_bitCount_0f7a4_4 ?_
  refine z_iand hx hb dJ6_bitCount_0f7a4_7 ?_
  refine z_isub hx hb dJ6_bitCount_0f7a4_8 ?_
  refine z_as (y := ij1 (xx)) (rfl) ?_
  refine lv_istore_n (lv' := [(0, .int (iZ (ij1 (xx))))]) hx hb dJ6_bitCount_0f7a4_9 rfl hl (by decide) rfl (fun ls hl => ?_)
  refine lv_iload_n hx hb dJ6_bitCount_0f7a4_10 rfl (lv_at hl 0 rfl) ?_
  refine z_ldcw hx hb (858993459) (by decide +kernel) hown (hts (.constant RJ6 266 (858993459)) (by decide +kernel)) dJ6_bitCount_0f7a4_11 ?_
  refine z_iand hx hb dJ6_bitCount_0f7a4_14 ?_
  refine lv_iload_n hx hb dJ6_bitCount_0f7a4_15 rfl (lv_at hl 0 rfl) ?_
  refine z_iconst hx hb dJ6_bitCount_0f7a4_16 ?_
  refine z_iushr hx hb dJ6_bitCount_0f7a4_17 ?_
  refine z_ldcw hx hb (858993459) (by decide +kernel) hown (hts (.constant RJ6 266 (858993459)) (by decide +kernel)) dJ6_bitCount_0f7a4_18 ?_
  refine z_iand hx hb dJ6_bitCount_0f7a4_21 ?_
  refine z_iadd hx hb dJ6_bitCount_0f7a4_22 ?_
  refine z_as (y := ij2 (ij1 (xx))) (rfl) ?_
  refine lv_istore_n (lv' := [(0, .int (iZ (ij2 (ij1 (xx)))))]) hx hb dJ6_bitCount_0f7a4_23 rfl hl (by decide) rfl (fun ls hl => ?_)
  refine lv_iload_n hx hb dJ6_bitCount_0f7a4_24 rfl (lv_at hl 0 rfl) ?_
  refine lv_iload_n hx hb dJ6_bitCount_0f7a4_25 rfl (lv_at hl 0 rfl) ?_
  refine z_iconst hx hb dJ6_bitCount_0f7a4_26 ?_
  refine z_iushr hx hb dJ6_bitCount_0f7a4_27 ?_
  refine z_iadd hx hb dJ6_bitCount_0f7a4_28 ?_
  refine z_ldcw hx hb (252645135) (by decide +kernel) hown (hts (.constant RJ6 267 (252645135)) (by decide +kernel)) dJ6_bitCount_0f7a4_29 ?_
  refine z_iand hx hb dJ6_bitCount_0f7a4_32 ?_
  refine z_as (y := ij3 (ij2 (ij1 (xx)))) (rfl) ?_
  refine lv_istore_n (lv' := [(0, .int (iZ (ij3 (ij2 (ij1 (xx))))))]) hx hb dJ6_bitCount_0f7a4_33 rfl hl (by decide) rfl (fun ls hl => ?_)
  refine lv_iload_n hx hb dJ6_bitCount_0f7a4_34 rfl (lv_at hl 0 rfl) ?_
  refine lv_iload_n hx hb dJ6_bitCount_0f7a4_35 rfl (lv_at hl 0 rfl) ?_
  refine z_bipush hx hb dJ6_bitCount_0f7a4_36 (by decide +kernel) ?_
  refine z_iushr hx hb dJ6_bitCount_0f7a4_38 ?_
  refine z_iadd hx hb dJ6_bitCount_0f7a4_39 ?_
  refine z_as (y := ij4 (ij3 (ij2 (ij1 (xx))))) (rfl) ?_
  refine lv_istore_n (lv' := [(0, .int (iZ (ij4 (ij3 (ij2 (ij1 (xx)))))))]) hx hb dJ6_bitCount_0f7a4_40 rfl hl (by decide) rfl (fun ls hl => ?_)
  refine lv_iload_n hx hb dJ6_bitCount_0f7a4_41 rfl (lv_at hl 0 rfl) ?_
  refine lv_iload_n hx hb dJ6_bitCount_0f7a4_42 rfl (lv_at hl 0 rfl) ?_
  refine z_bipush hx hb dJ6_bitCount_0f7a4_43 (by decide +kernel) ?_
  refine z_iushr hx hb dJ6_bitCount_0f7a4_45 ?_
  refine z_iadd hx hb dJ6_bitCount_0f7a4_46 ?_
  refine z_as (y := ij5 (ij4 (ij3 (ij2 (ij1 (xx)))))) (rfl) ?_
  refine lv_istore_n (lv' := [(0, .int (iZ (ij5 (ij4 (ij3 (ij2 (ij1 (xx))))))))]) hx hb dJ6_bitCount_0f7a4_47 rfl hl (by decide) rfl (fun ls hl => ?_)
  refine lv_iload_n hx hb dJ6_bitCount_0f7a4_48 rfl (lv_at hl 0 rfl) ?_
  refine z_bipush hx hb dJ6_bitCount_0f7a4_49 (by decide +kernel) ?_
  refine z_iand hx hb dJ6_bitCount_0f7a4_51 ?_
  exact K _ _ _ (ijbc_z h1.1 h1.2) dJ6_bitCount_0f7a4_52
abbrev rX6_stepsOf : Room := { frames := 1, cells := 0, slots := 0, locals := 21 }
set_option maxHeartbeats 4000000 in
set_option maxRecDepth 100000 in
theorem m_X6_stepsOf (l : Launch) (D : va_G) (g : Nat → ClassId) (a : Nat → Nat) (st : SS) (pp : Int) (h1 : 0 ≤ pp ∧ pp < 6) : Met l yX6_stepsOf wsX6_stepsOf rX6_stepsOf (PcR D g (WC g a st) [.ref (a 1), .int (iZ (pp))]) (QcRead (iZ (ljbc (st 20 pp)))) 0 0 (fun _ => False) := by
  refine metR (cc := cX6_stepsOf) (maxL := 2) (ret := (some .int)) (own := RX6) (by decide) rfl rfl (Nat.le_of_ble_eq_true rfl) (Or.inl rfl) ?_
  intro p e R s m args below meth c Q ls S hRf hRl hK hP hl K
  have hx := S.1
  have hb := S.2.1
  have hown := S.2.2.2.1
  have hts := S.2.2.2.2
  have hRf : 1 ≤ R.frames := hRf
  have hRl : 21 ≤ R.locals := hRl
  have hl : lv_has ls 2 [(0, .ref (a 1)), (1, .int (iZ (pp)))] := hl
  have iX6 : ∀ w ∈ wsX60, w ∈ wsX6_stepsOf := by decide +kernel
  refine lv_aload_n hx hb dX6_stepsOf_0 rfl (lv_at hl 0 rfl) ?_
  refine z_get (C := RX6) (T := TX6) (N := 6) (ci := 5) hx hb hts iX6 hown hK hP 1 rfl rfl 1 (by decide) (hts (.fieldLink RX6 15 "ShotBoard$Stage" "stepTicks" "[J") (by decide +kernel)) (.ref (a 8)) rfl dX6_stepsOf_1 ?_
  refine lv_iload_n hx hb dX6_stepsOf_4 rfl (lv_at hl 1 rfl) ?_
  refine z_lald hx hb hK hP 8 (st 20) rfl (by omega) (by omega) (by omega) dX6_stepsOf_5 ?_
  refine z_cSS (As := [.long (lZ (st 20 (pp)))]) (rest := []) S (m_J13_bitCount_95d88 l (st 20 (pp))) (va_cwS 1 hts gX6_stepsOf_J13_bitCount_95d88 rfl rfl rfl (by decide +kernel) ⟨Nat.le_trans (by decide) hRf, Nat.le_trans (by decide) hRl⟩) rfl hl.1 rfl (Nat.le_of_ble_eq_true rfl) dX6_stepsOf_6 ⟨Nat.zero_le _, Nat.zero_le _⟩ ?_
  have f1 := ljbc_b (st 20 (pp))
  exact K _ _ _ (rfl) dX6_stepsOf_9
abbrev rX6_addWall : Room := { frames := 0, cells := 0, slots := 0, locals := 0 }
set_option maxHeartbeats 4000000 in
set_option maxRecDepth 100000 in
theorem m_X6_addWall (l : Launch) (D : va_G) (g : Nat → ClassId) (a : Nat → Nat) (st : SS) (ff : Int) (gg : Int) (h1 : 0 ≤ st 19 1 ∧ st 19 1 < 12) : Met l yX6_addWall wsX6_addWall rX6_addWall (PcM D g (AWC a) (WC g a st) [.ref (a 1), .int (iZ (ff)), .int (iZ (gg))]) (QcI D (WC g a) (AWC a) (fun r u => r = st 19 1 ∧ u = up (up (up st 1 (st 19 1) ff) 2 (st 19 1) gg) 19 1 (st 19 1 + 1))) 0 0 (AWC a) := by
  refine metI (cc := cX6_addWall) (maxL := 3) (ret := (some .int)) (own := RX6) (by decide) rfl rfl (Nat.le_of_ble_eq_true rfl) (Or.inl rfl) ?_
  intro p e R s m args below meth c Q ls S hRf hRl hK hP hD hS hl K
  have hx := S.1
  have hb := S.2.1
  have hown := S.2.2.2.1
  have hts := S.2.2.2.2
  have hRf : 0 ≤ R.frames := hRf
  have hRl : 0 ≤ R.locals := hRl
  have hl : lv_has ls 3 [(0, .ref (a 1)), (1, .int (iZ (ff))), (2, .int (iZ (gg)))] := hl
  have iX6 : ∀ w ∈ wsX60, w ∈ wsX6_addWall := by decide +kernel
  refine lv_aload_n hx hb dX6_addWall_0 rfl (lv_at hl 0 rfl) ?_
  refine z_get (C := RX6) (T := TX6) (N := 6) (ci := 5) hx hb hts iX6 hown hK hP 1 rfl rfl 2 (by decide) (hts (.fieldLink RX6 19 "ShotBoard$Stage" "wallFrom" "[I") (by decide +kernel)) (.ref (a 9)) rfl dX6_addWall_1 ?_
  refine lv_aload_n hx hb dX6_addWall_4 rfl (lv_at hl 0 rfl) ?_
  refine z_get (C := RX6) (T := TX6) (N := 6) (ci := 5) hx hb hts iX6 hown hK hP 1 rfl rfl 5 (by decide) (hts (.fieldLink RX6 43 "ShotBoard$Stage" "walls" "I") (by decide +kernel)) (.int (iZ (st 19 (1)))) rfl dX6_addWall_5 ?_
  refine lv_iload_n hx hb dX6_addWall_8 rfl (lv_at hl 1 rfl) ?_
  refine z_iast hx hb hK hP hD hS 9 (st 1) rfl (by omega) (by omega) (by omega) (WC g a (up (st) 1 (st 19 (1)) (ff))) rfl dX6_addWall_9 (fun H locs hP hD hS => ?_)
  refine lv_aload_n hx hb dX6_addWall_10 rfl (lv_at hl 0 rfl) ?_
  refine z_get (C := RX6) (T := TX6) (N := 6) (ci := 5) hx hb hts iX6 hown hK hP 1 rfl rfl 3 (by decide) (hts (.fieldLink RX6 22 "ShotBoard$Stage" "wallTo" "[I") (by decide +kernel)) (.ref (a 10)) rfl dX6_addWall_11 ?_
  refine lv_aload_n hx hb dX6_addWall_14 rfl (lv_at hl 0 rfl) ?_
  refine z_get (C := RX6) (T := TX6) (N := 6) (ci := 5) hx hb hts iX6 hown hK hP 1 rfl rfl 5 (by decide) (hts (.fieldLink RX6 43 "ShotBoard$Stage" "walls" "I") (by decide +kernel)) (.int (iZ (st 19 (1)))) rfl dX6_addWall_15 ?_
  refine lv_iload_n hx hb dX6_addWall_18 rfl (lv_at hl 2 rfl) ?_
  refine z_iast hx hb hK hP hD hS 10 ((up (st) 1 (st 19 (1)) (ff)) 2) rfl (by omega) (by omega) (by omega) (WC g a (up (up (st) 1 (st 19 (1)) (ff)) 2 (st 19 (1)) (gg))) rfl dX6_addWall_19 (fun H locs hP hD hS => ?_)
  refine lv_aload_n hx hb dX6_addWall_20 rfl (lv_at hl 0 rfl) ?_
  refine lv_dup hx hb dX6_addWall_21 rfl ?_
  refine z_get (C := RX6) (T := TX6) (N := 6) (ci := 5) hx hb hts iX6 hown hK hP 1 rfl rfl 5 (by decide) (hts (.fieldLink RX6 43 "ShotBoard$Stage" "walls" "I") (by decide +kernel)) (.int (iZ (st 19 (1)))) rfl dX6_addWall_22 ?_
  refine z_iconst hx hb dX6_addWall_25 ?_
  refine z_iadd hx hb dX6_addWall_26 ?_
  refine z_put (C := RX6) (T := TX6) (N := 6) (ci := 5) (ty := .int) hx hb hts iX6 tyX6 tyX6_ok nmX6 hown hK hP hD hS 1 rfl rfl 5 (by decide) (hts (.fieldLink RX6 43 "ShotBoard$Stage" "walls" "I") (by decide +kernel)) rfl (by decide +kernel) rfl rfl (Nat.le_of_ble_eq_true rfl) (WC g a (up (up (up (st) 1 (st 19 (1)) (ff)) 2 (st 19 (1)) (gg)) 19 (1) ((st 19 (1)) + (1)))) rfl dX6_addWall_27 (fun H locs hP hD hS => ?_)
  refine lv_aload_n hx hb dX6_addWall_30 rfl (lv_at hl 0 rfl) ?_
  refine z_get (C := RX6) (T := TX6) (N := 6) (ci := 5) hx hb hts iX6 hown hK hP 1 rfl rfl 5 (by decide) (hts (.fieldLink RX6 43 "ShotBoard$Stage" "walls" "I") (by decide +kernel)) (.int (iZ ((st 19 (1)) + (1)))) rfl dX6_addWall_31 ?_
  refine z_iconst hx hb dX6_addWall_34 ?_
  refine z_isub hx hb dX6_addWall_35 ?_
  exact K _ (up (up (up (st) 1 (st 19 (1)) (ff)) 2 (st 19 (1)) (gg)) 19 (1) ((st 19 (1)) + (1))) _ _ _ _ hP hS (⟨by omega, rfl⟩) dX6_addWall_36
abbrev rX4_add : Room := { frames := 0, cells := 0, slots := 0, locals := 0 }
set_option maxHeartbeats 4000000 in
set_option maxRecDepth 100000 in
theorem m_X4_add (l : Launch) (D : va_G) (g : Nat → ClassId) (a : Nat → Nat) (st : SS) (ff : Int) (gg : Int) (h1 : 0 ≤ st 19 2 ∧ st 19 2 < 10) : Met l yX4_add wsX4_add rX4_add (PcM D g (AWC a) (WC g a st) [.ref (a 2), .int (iZ (ff)), .int (iZ (gg))]) (QcI D (WC g a) (AWC a) (fun r u => r = st 19 2 ∧ u = up (up (up st 3 (st 19 2) ff) 4 (st 19 2) gg) 19 2 (st 19 2 + 1))) 0 0 (AWC a) := by
  refine metI (cc := cX4_add) (maxL := 3) (ret := (some .int)) (own := RX4) (by decide) rfl rfl (Nat.le_of_ble_eq_true rfl) (Or.inl rfl) ?_
  intro p e R s m args below meth c Q ls S hRf hRl hK hP hD hS hl K
  have hx := S.1
  have hb := S.2.1
  have hown := S.2.2.2.1
  have hts := S.2.2.2.2
  have hRf : 0 ≤ R.frames := hRf
  have hRl : 0 ≤ R.locals := hRl
  have hl : lv_has ls 3 [(0, .ref (a 2)), (1, .int (iZ (ff))), (2, .int (iZ (gg)))] := hl
  have iX4 : ∀ w ∈ wsX40, w ∈ wsX4_add := by decide +kernel
  refine lv_aload_n hx hb dX4_add_0 rfl (lv_at hl 0 rfl) ?_
  refine z_get (C := RX4) (T := TX4) (N := 3) (ci := 3) hx hb hts iX4 hown hK hP 2 rfl rfl 0 (by decide) (hts (.fieldLink RX4 9 "ShotBoard$Rig" "places" "[I") (by decide +kernel)) (.ref (a 11)) rfl dX4_add_1 ?_
  refine lv_aload_n hx hb dX4_add_4 rfl (lv_at hl 0 rfl) ?_
  refine z_get (C := RX4) (T := TX4) (N := 3) (ci := 3) hx hb hts iX4 hown hK hP 2 rfl rfl 2 (by decide) (hts (.fieldLink RX4 18 "ShotBoard$Rig" "cameras" "I") (by decide +kernel)) (.int (iZ (st 19 (2)))) rfl dX4_add_5 ?_
  refine lv_iload_n hx hb dX4_add_8 rfl (lv_at hl 1 rfl) ?_
  refine z_iast hx hb hK hP hD hS 11 (st 3) rfl (by omega) (by omega) (by omega) (WC g a (up (st) 3 (st 19 (2)) (ff))) rfl dX4_add_9 (fun H locs hP hD hS => ?_)
  refine lv_aload_n hx hb dX4_add_10 rfl (lv_at hl 0 rfl) ?_
  refine z_get (C := RX4) (T := TX4) (N := 3) (ci := 3) hx hb hts iX4 hown hK hP 2 rfl rfl 1 (by decide) (hts (.fieldLink RX4 15 "ShotBoard$Rig" "lights" "[I") (by decide +kernel)) (.ref (a 12)) rfl dX4_add_11 ?_
  refine lv_aload_n hx hb dX4_add_14 rfl (lv_at hl 0 rfl) ?_
  refine z_get (C := RX4) (T := TX4) (N := 3) (ci := 3) hx hb hts iX4 hown hK hP 2 rfl rfl 2 (by decide) (hts (.fieldLink RX4 18 "ShotBoard$Rig" "cameras" "I") (by decide +kernel)) (.int (iZ (st 19 (2)))) rfl dX4_add_15 ?_
  refine lv_iload_n hx hb dX4_add_18 rfl (lv_at hl 2 rfl) ?_
  refine z_iast hx hb hK hP hD hS 12 ((up (st) 3 (st 19 (2)) (ff)) 4) rfl (by omega) (by omega) (by omega) (WC g a (up (up (st) 3 (st 19 (2)) (ff)) 4 (st 19 (2)) (gg))) rfl dX4_add_19 (fun H locs hP hD hS => ?_)
  refine lv_aload_n hx hb dX4_add_20 rfl (lv_at hl 0 rfl) ?_
  refine lv_dup hx hb dX4_add_21 rfl ?_
  refine z_get (C := RX4) (T := TX4) (N := 3) (ci := 3) hx hb hts iX4 hown hK hP 2 rfl rfl 2 (by decide) (hts (.fieldLink RX4 18 "ShotBoard$Rig" "cameras" "I") (by decide +kernel)) (.int (iZ (st 19 (2)))) rfl dX4_add_22 ?_
  refine z_iconst hx hb dX4_add_25 ?_
  refine z_iadd hx hb dX4_add_26 ?_
  refine z_put (C := RX4) (T := TX4) (N := 3) (ci := 3) (ty := .int) hx hb hts iX4 tyX4 tyX4_ok nmX4 hown hK hP hD hS 2 rfl rfl 2 (by decide) (hts (.fieldLink RX4 18 "ShotBoard$Rig" "cameras" "I") (by decide +kernel)) rfl (by decide +kernel) rfl rfl (Nat.le_of_ble_eq_true rfl) (WC g a (up (up (up (st) 3 (st 19 (2)) (ff)) 4 (st 19 (2)) (gg)) 19 (2) ((st 19 (2)) + (1)))) rfl dX4_add_27 (fun H locs hP hD hS => ?_)
  refine lv_aload_n hx hb dX4_add_30 rfl (lv_at hl 0 rfl) ?_
  refine z_get (C := RX4) (T := TX4) (N := 3) (ci := 3) hx hb hts iX4 hown hK hP 2 rfl rfl 2 (by decide) (hts (.fieldLink RX4 18 "ShotBoard$Rig" "cameras" "I") (by decide +kernel)) (.int (iZ ((st 19 (2)) + (1)))) rfl dX4_add_31 ?_
  refine z_iconst hx hb dX4_add_34 ?_
  refine z_isub hx hb dX4_add_35 ?_
  exact K _ (up (up (up (st) 3 (st 19 (2)) (ff)) 4 (st 19 (2)) (gg)) 19 (2) ((st 19 (2)) + (1))) _ _ _ _ hP hS (⟨by omega, rfl⟩) dX4_add_36
abbrev rX6_addPerson : Room := { frames := 0, cells := 0, slots := 0, locals := 0 }
set_option maxHeartbeats 4000000 in
set_option maxRecDepth 100000 in
theorem m_X6_addPerson (l : Launch) (D : va_G) (g : Nat → ClassId) (a : Nat → Nat) (st : SS) (ff : Int) (h1 : 0 ≤ st 19 0 ∧ st 19 0 < 6) : Met l yX6_addPerson wsX6_addPerson rX6_addPerson (PcM D g (AWC a) (WC g a st) [.ref (a 1), .int (iZ (ff))]) (QcI D (WC g a) (AWC a) (fun r u => r = st 19 0 ∧ u = up (sA st 0 (fil (st 0) (st 19 0 * 60) 60 ff)) 19 0 (st 19 0 + 1))) 0 0 (AWC a) := by
  refine metI (cc := cX6_addPerson) (maxL := 3) (ret := (some .int)) (own := RX6) (by decide) rfl rfl (Nat.le_of_ble_eq_true rfl) (Or.inl rfl) ?_
  intro p e R s m args below meth c Q ls S hRf hRl hK hP hD hS hl K
  have hx := S.1
  have hb := S.2.1
  have hown := S.2.2.2.1
  have hts := S.2.2.2.2
  have hRf : 0 ≤ R.frames := hRf
  have hRl : 0 ≤ R.locals := hRl
  have hl : lv_has ls 3 [(0, .ref (a 1)), (1, .int (iZ (ff)))] := hl
  have iX6 : ∀ w ∈ wsX60, w ∈ wsX6_addPerson := by decide +kernel
  refine z_iconst hx hb dX6_addPerson_0 ?_
  refine lv_istore_n (lv' := [(2, .int (iZ (0))), (0, .ref (a 1)), (1, .int (iZ (ff)))]) hx hb dX6_addPerson_1 rfl hl (by decide) rfl (fun ls hl => ?_)
  have LP2 : ∀ (n2 : Nat) (tt : Int) (uu : SS), (60 - tt) < (n2 : Int) → (0 ≤ tt ∧ tt ≤ 60) → (uu = sA st 0 (fil (st 0) (st 19 0 * 60) tt ff)) → ∀ (H : Heap) (locs : List Loc), va_P D vwCl (WC g a uu) H → va_D (AWC a) (WC g a uu) → va_S (AWC a) s.heap H locs → ∀ (ls : Array Slot), lv_has ls 3 [(2, .int (iZ (tt))), (0, .ref (a 1)), (1, .int (iZ (ff)))] → W p l e R s m args below meth c H locs 0 0 Q (F0 m 2 ls []) := by
    intro n2
    induction n2 with
    | zero =>
      intro tt uu hm2 j1 j2 H locs hP hD hS ls hl
      exact absurd hm2 (by omega)
    | succ n2 ih2 =>
      intro tt uu hm2 j1 j2 H locs hP hD hS ls hl
      have e0 : uu 19 0 = st 19 0 := by rw [j2]; rfl
      refine lv_iload_n hx hb dX6_addPerson_2 rfl (lv_at hl 0 rfl) ?_
      refine z_bipush hx hb dX6_addPerson_3 (by decide +kernel) ?_
      refine z_icmp_ge (tgt := 29) hx hb (by omega) (by decide) dX6_addPerson_5 (by decide) (fun c1 => ?_) (fun c1 => ?_)
      · skip
        refine lv_aload_n hx hb dX6_addPerson_29 rfl (lv_at hl 1 rfl) ?_
        refine lv_dup hx hb dX6_addPerson_30 rfl ?_
        refine z_get (C := RX6) (T := TX6) (N := 6) (ci := 5) hx hb hts iX6 hown hK hP 1 rfl rfl 4 (by decide) (hts (.fieldLink RX6 25 "ShotBoard$Stage" "persons" "I") (by decide +kernel)) (.int (iZ (uu 19 (0)))) rfl dX6_addPerson_31 ?_
        refine z_iconst hx hb dX6_addPerson_34 ?_
        refine z_iadd hx hb dX6_addPerson_35 ?_
        refine z_put (C := RX6) (T := TX6) (N := 6) (ci := 5) (ty := .int) hx hb hts iX6 tyX6 tyX6_ok nmX6 hown hK hP hD hS 1 rfl rfl 4 (by decide) (hts (.fieldLink RX6 25 "ShotBoard$Stage" "persons" "I") (by decide +kernel)) rfl (by decide +kernel) rfl rfl (Nat.le_of_ble_eq_true rfl) (WC g a (up (uu) 19 (0) ((uu 19 (0)) + (1)))) rfl dX6_addPerson_36 (fun H locs hP hD hS => ?_)
        refine lv_aload_n hx hb dX6_addPerson_39 rfl (lv_at hl 1 rfl) ?_
        refine z_get (C := RX6) (T := TX6) (N := 6) (ci := 5) hx hb hts iX6 hown hK hP 1 rfl rfl 4 (by decide) (hts (.fieldLink RX6 25 "ShotBoard$Stage" "persons" "I") (by decide +kernel)) (.int (iZ ((uu 19 (0)) + (1)))) rfl dX6_addPerson_40 ?_
        refine z_iconst hx hb dX6_addPerson_43 ?_
        refine z_isub hx hb dX6_addPerson_44 ?_
        exact K _ (up (uu) 19 (0) ((uu 19 (0)) + (1))) _ _ _ _ hP hS (⟨by omega, by rw [e0, j2, show tt = 60 by omega]⟩) dX6_addPerson_45
      · skip
        refine lv_aload_n hx hb dX6_addPerson_8 rfl (lv_at hl 1 rfl) ?_
        refine z_get (C := RX6) (T := TX6) (N := 6) (ci := 5) hx hb hts iX6 hown hK hP 1 rfl rfl 0 (by decide) (hts (.fieldLink RX6 9 "ShotBoard$Stage" "placeAt" "[I") (by decide +kernel)) (.ref (a 7)) rfl dX6_addPerson_9 ?_
        refine lv_aload_n hx hb dX6_addPerson_12 rfl (lv_at hl 1 rfl) ?_
        refine z_get (C := RX6) (T := TX6) (N := 6) (ci := 5) hx hb hts iX6 hown hK hP 1 rfl rfl 4 (by decide) (hts (.fieldLink RX6 25 "ShotBoard$Stage" "persons" "I") (by decide +kernel)) (.int (iZ (uu 19 (0)))) rfl dX6_addPerson_13 ?_
        refine z_bipush hx hb dX6_addPerson_16 (by decide +kernel) ?_
        refine z_imul hx hb dX6_addPerson_18 ?_
        refine lv_iload_n hx hb dX6_addPerson_19 rfl (lv_at hl 0 rfl) ?_
        refine z_iadd hx hb dX6_addPerson_20 ?_
        refine lv_iload_n hx hb dX6_addPerson_21 rfl (lv_at hl 2 rfl) ?_
        refine z_iast hx hb hK hP hD hS 7 (uu 0) rfl (by omega) (by omega) (by omega) (WC g a (up (uu) 0 (((uu 19 (0)) * (60)) + (tt)) (ff))) rfl dX6_addPerson_22 (fun H locs hP hD hS => ?_)
        refine z_iinc (lv' := [(2, .int (iZ ((tt) + 1))), (0, .ref (a 1)), (1, .int (iZ (ff)))]) hx hb dX6_addPerson_23 hl (k := 0) rfl (by decide) rfl (fun ls hl => ?_)
        refine lv_goto (tgt := 2) hx hb dX6_addPerson_26 (by decide) ?_
        exact ih2 ((tt) + 1) (up (uu) 0 (((uu 19 (0)) * (60)) + (tt)) (ff)) (by omega) (by omega) (by rw [e0, j2, up_sA, fil_s _ _ (by omega)]) _ _ hP hD hS ls (lv_sub hl [0, 1, 2] rfl)
  exact LP2 ((60 - (0)) + 1 : Int).toNat (0) (st) (by omega) (by omega) (by rw [fil_0, sA_self]) _ _ hP hD hS ls (lv_sub hl [0, 1, 2] rfl)
abbrev rX6_addStep : Room := { frames := 2, cells := 0, slots := 0, locals := 42 }
set_option maxHeartbeats 4000000 in
set_option maxRecDepth 100000 in
theorem m_X6_addStep (l : Launch) (D : va_G) (g : Nat → ClassId) (a : Nat → Nat) (st : SS) (pp : Int) (tt : Int) (ff : Int) (h0 : ∀ p, 0 ≤ p → p < 6 → 0 ≤ st 20 p ∧ st 20 p < 1152921504606846976) (h1 : 0 ≤ pp ∧ pp < 6) (h2 : 1 ≤ tt ∧ tt < 60) : Met l yX6_addStep wsX6_addStep rX6_addStep (PcM D g (AWC a) (WC g a st) [.ref (a 1), .int (iZ (pp)), .int (iZ (tt)), .int (iZ (ff))]) (QcI D (WC g a) (AWC a) (fun r u => r = ljbc (sbt (st 20 pp) tt) ∧ ∃ n, 1 ≤ n ∧ tt + n ≤ 60 ∧ (∀ j, tt < j → j < tt + n → ¬ bt (st 20 pp) j) ∧ (tt + n = 60 ∨ bt (st 20 pp) (tt + n)) ∧ u = sA (up st 20 pp (sbt (st 20 pp) tt)) 0 (fil (st 0) (pp * 60 + tt) n ff))) 0 0 (AWC a) := by
  refine metI (cc := cX6_addStep) (maxL := 5) (ret := (some .int)) (own := RX6) (by decide) rfl rfl (Nat.le_of_ble_eq_true rfl) (Or.inl rfl) ?_
  intro p e R s m args below meth c Q ls S hRf hRl hK hP hD hS hl K
  have hx := S.1
  have hb := S.2.1
  have hown := S.2.2.2.1
  have hts := S.2.2.2.2
  have hRf : 2 ≤ R.frames := hRf
  have hRl : 42 ≤ R.locals := hRl
  have hl : lv_has ls 5 [(0, .ref (a 1)), (1, .int (iZ (pp))), (2, .int (iZ (tt))), (3, .int (iZ (ff)))] := hl
  have iX6 : ∀ w ∈ wsX60, w ∈ wsX6_addStep := by decide +kernel
  have hs := h0 pp (by omega) (by omega)
  have hs2 := sbt_b (x := st 20 pp) (t := tt) (by omega) (by omega) (by omega) (by omega)
  refine lv_aload_n hx hb dX6_addStep_0 rfl (lv_at hl 0 rfl) ?_
  refine z_get (C := RX6) (T := TX6) (N := 6) (ci := 5) hx hb hts iX6 hown hK hP 1 rfl rfl 1 (by decide) (hts (.fieldLink RX6 15 "ShotBoard$Stage" "stepTicks" "[J") (by decide +kernel)) (.ref (a 8)) rfl dX6_addStep_1 ?_
  refine lv_iload_n hx hb dX6_addStep_4 rfl (lv_at hl 1 rfl) ?_
  refine lv_dup2_11 hx hb dX6_addStep_5 rfl rfl ?_
  refine z_lald hx hb hK hP 8 (st 20) rfl (by omega) (by omega) (by omega) dX6_addStep_6 ?_
  refine z_lconst hx hb 1 dX6_addStep_7 (by decide +kernel) ?_
  refine lv_iload_n hx hb dX6_addStep_8 rfl (lv_at hl 2 rfl) ?_
  refine z_lshl hx hb dX6_addStep_9 ?_
  refine z_lor hx hb dX6_addStep_10 ?_
  refine z_asL (y := sbt (st 20 (pp)) (tt)) (sbt_z (by omega) (by omega) (by omega) (by omega)) ?_
  refine z_last hx hb hK hP hD hS 8 (st 20) rfl (by omega) (by omega) (by omega) (WC g a (up (st) 20 (pp) (sbt (st 20 (pp)) (tt)))) rfl dX6_addStep_11 (fun H locs hP hD hS => ?_)
  refine lv_aload_n hx hb dX6_addStep_12 rfl (lv_at hl 0 rfl) ?_
  refine z_get (C := RX6) (T := TX6) (N := 6) (ci := 5) hx hb hts iX6 hown hK hP 1 rfl rfl 0 (by decide) (hts (.fieldLink RX6 9 "ShotBoard$Stage" "placeAt" "[I") (by decide +kernel)) (.ref (a 7)) rfl dX6_addStep_13 ?_
  refine lv_iload_n hx hb dX6_addStep_16 rfl (lv_at hl 1 rfl) ?_
  refine z_bipush hx hb dX6_addStep_17 (by decide +kernel) ?_
  refine z_imul hx hb dX6_addStep_19 ?_
  refine lv_iload_n hx hb dX6_addStep_20 rfl (lv_at hl 2 rfl) ?_
  refine z_iadd hx hb dX6_addStep_21 ?_
  refine lv_iload_n hx hb dX6_addStep_22 rfl (lv_at hl 3 rfl) ?_
  refine z_iast hx hb hK hP hD hS 7 ((up (st) 20 (pp) (sbt (st 20 (pp)) (tt))) 0) rfl (by omega) (by omega) (by omega) (WC g a (up (up (st) 20 (pp) (sbt (st 20 (pp)) (tt))) 0 (((pp) * (60)) + (tt)) (ff))) rfl dX6_addStep_23 (fun H locs hP hD hS => ?_)
  refine lv_iload_n hx hb dX6_addStep_24 rfl (lv_at hl 2 rfl) ?_
  refine z_iconst hx hb dX6_addStep_25 ?_
  refine z_iadd hx hb dX6_addStep_26 ?_
  refine lv_istore (lv' := [(4, .int (iZ ((tt) + (1)))), (0, .ref (a 1)), (1, .int (iZ (pp))), (2, .int (iZ (tt))), (3, .int (iZ (ff)))]) hx hb dX6_addStep_27 hl (by decide) rfl (fun ls hl => ?_)
  have LP29 : ∀ (n29 : Nat) (jj : Int) (uu : SS), (60 - jj) < (n29 : Int) → (tt < jj ∧ jj ≤ 60) → (uu = sA (up st 20 pp (sbt (st 20 pp) tt)) 0 (fil (st 0) (pp * 60 + tt) (jj - tt) ff)) → (∀ j, tt < j → j < jj → ¬ bt (st 20 pp) j) → ∀ (H : Heap) (locs : List Loc), va_P D vwCl (WC g a uu) H → va_D (AWC a) (WC g a uu) → va_S (AWC a) s.heap H locs → ∀ (ls : Array Slot), lv_has ls 5 [(4, .int (iZ (jj))), (0, .ref (a 1)), (1, .int (iZ (pp))), (2, .int (iZ (tt))), (3, .int (iZ (ff)))] → W p l e R s m args below meth c H locs 0 0 Q (F0 m 29 ls []) := by
    intro n29
    induction n29 with
    | zero =>
      intro jj uu hm29 j1 j2 j3 H locs hP hD hS ls hl
      exact absurd hm29 (by omega)
    | succ n29 ih29 =>
      intro jj uu hm29 j1 j2 j3 H locs hP hD hS ls hl
      have e0 : uu 20 = (up st 20 pp (sbt (st 20 pp) tt)) 20 := by rw [j2]; rfl
      refine lv_iload hx hb dX6_addStep_29 (lv_at hl 0 rfl) ?_
      refine z_bipush hx hb dX6_addStep_31 (by decide +kernel) ?_
      refine z_icmp_ge (tgt := 65) hx hb (by omega) (by decide) dX6_addStep_33 (by decide) (fun c1 => ?_) (fun c1 => ?_)
      · skip
        have hyb := c1
        refine lv_aload_n hx hb dX6_addStep_65 rfl (lv_at hl 1 rfl) ?_
        refine lv_iload_n hx hb dX6_addStep_66 rfl (lv_at hl 2 rfl) ?_
        refine z_cVR (q0 := 1) (ci := 5) (As := [.int (iZ (pp))]) (rest := []) S (m_X6_stepsOf l D g a (uu) (pp) (by omega)) (cwV 1 hts gX6_addStep_X6_stepsOf rfl rfl rfl (by decide +kernel) ⟨Nat.le_trans (by decide) hRf, Nat.le_trans (by decide) hRl⟩) hK hP rfl rfl rfl hl.1 rfl (Nat.le_of_ble_eq_true rfl) dX6_addStep_67 ⟨Nat.zero_le _, Nat.zero_le _⟩ ?_
        have f2 := ljbc_b ((uu) 20 (pp))
        exact K _ (uu) _ _ _ _ hP hS (⟨by rw [e0, up_s], jj - tt, by omega, by omega, fun j a b => j3 j a (by omega), by first | exact Or.inl (by omega) | exact Or.inr (by rw [show tt + (jj - tt) = jj by omega]; exact hyb), j2⟩) dX6_addStep_70
      · skip
        have hz0 : ∀ p, 0 ≤ p → p < 6 → 0 ≤ uu 20 p ∧ uu 20 p < 1152921504606846976 := by
          intro q a9 b9
          rw [e0]
          by_cases e8 : q = pp
          · subst e8; rw [up_s]; exact hs2
          · rw [up_i _ _ _ e8]; exact h0 q a9 b9
        refine lv_aload_n hx hb dX6_addStep_36 rfl (lv_at hl 1 rfl) ?_
        refine lv_iload_n hx hb dX6_addStep_37 rfl (lv_at hl 2 rfl) ?_
        refine lv_iload hx hb dX6_addStep_38 (lv_at hl 0 rfl) ?_
        refine z_cVR (q0 := 1) (ci := 5) (As := [.int (iZ (pp)), .int (iZ (jj))]) (rest := []) S (m_X6_hasStep l D g a (uu) (pp) (jj) hz0 (by omega) (by omega)) (cwV 2 hts gX6_addStep_X6_hasStep rfl rfl rfl (by decide +kernel) ⟨Nat.le_trans (by decide) hRf, Nat.le_trans (by decide) hRl⟩) hK hP rfl rfl rfl hl.1 rfl (Nat.le_of_ble_eq_true rfl) dX6_addStep_40 ⟨Nat.zero_le _, Nat.zero_le _⟩ ?_
        refine z_if_ne (tgt := 65) hx hb (b2_rg _) dX6_addStep_43 (by decide) (fun c3 => ?_) (fun c3 => ?_)
        · skip
          have c3 := b2_n0 c3
          have hyb : bt (st 20 pp) jj := by rw [e0, up_s] at c3; exact ((sbt_bt jj (by omega) (by omega)).mp c3).resolve_right (by omega)
          refine lv_aload_n hx hb dX6_addStep_65 rfl (lv_at hl 1 rfl) ?_
          refine lv_iload_n hx hb dX6_addStep_66 rfl (lv_at hl 2 rfl) ?_
          refine z_cVR (q0 := 1) (ci := 5) (As := [.int (iZ (pp))]) (rest := []) S (m_X6_stepsOf l D g a (uu) (pp) (by omega)) (cwV 1 hts gX6_addStep_X6_stepsOf rfl rfl rfl (by decide +kernel) ⟨Nat.le_trans (by decide) hRf, Nat.le_trans (by decide) hRl⟩) hK hP rfl rfl rfl hl.1 rfl (Nat.le_of_ble_eq_true rfl) dX6_addStep_67 ⟨Nat.zero_le _, Nat.zero_le _⟩ ?_
          have f4 := ljbc_b ((uu) 20 (pp))
          exact K _ (uu) _ _ _ _ hP hS (⟨by rw [e0, up_s], jj - tt, by omega, by omega, fun j a b => j3 j a (by omega), by first | exact Or.inl (by omega) | exact Or.inr (by rw [show tt + (jj - tt) = jj by omega]; exact hyb), j2⟩) dX6_addStep_70
        · skip
          have c3 := b2_0 c3
          have hnb : ¬ bt (st 20 pp) jj := fun z => c3 (by rw [e0, up_s]; exact (sbt_bt jj (by omega) (by omega)).mpr (Or.inl z))
          refine lv_aload_n hx hb dX6_addStep_46 rfl (lv_at hl 1 rfl) ?_
          refine z_get (C := RX6) (T := TX6) (N := 6) (ci := 5) hx hb hts iX6 hown hK hP 1 rfl rfl 0 (by decide) (hts (.fieldLink RX6 9 "ShotBoard$Stage" "placeAt" "[I") (by decide +kernel)) (.ref (a 7)) rfl dX6_addStep_47 ?_
          refine lv_iload_n hx hb dX6_addStep_50 rfl (lv_at hl 2 rfl) ?_
          refine z_bipush hx hb dX6_addStep_51 (by decide +kernel) ?_
          refine z_imul hx hb dX6_addStep_53 ?_
          refine lv_iload hx hb dX6_addStep_54 (lv_at hl 0 rfl) ?_
          refine z_iadd hx hb dX6_addStep_56 ?_
          refine lv_iload_n hx hb dX6_addStep_57 rfl (lv_at hl 4 rfl) ?_
          refine z_iast hx hb hK hP hD hS 7 (uu 0) rfl (by omega) (by omega) (by omega) (WC g a (up (uu) 0 (((pp) * (60)) + (jj)) (ff))) rfl dX6_addStep_58 (fun H locs hP hD hS => ?_)
          refine z_iinc (lv' := [(4, .int (iZ ((jj) + 1))), (0, .ref (a 1)), (1, .int (iZ (pp))), (2, .int (iZ (tt))), (3, .int (iZ (ff)))]) hx hb dX6_addStep_59 hl (k := 0) rfl (by decide) rfl (fun ls hl => ?_)
          refine lv_goto (tgt := 29) hx hb dX6_addStep_62 (by decide) ?_
          exact ih29 ((jj) + 1) (up (uu) 0 (((pp) * (60)) + (jj)) (ff)) (by omega) (by omega) (by rw [j2, up_sA, show (jj) + 1 - tt = (jj - tt) + 1 by omega, ← fil_s _ _ (by omega), show pp * 60 + tt + (jj - tt) = (pp) * (60) + (jj) by omega]) (fun j a b => by
      by_cases e9 : j = jj
      · subst e9; exact hnb
      · exact j3 j a (by omega)) _ _ hP hD hS ls (lv_sub hl [0, 1, 2, 3, 4] rfl)
  exact LP29 ((60 - ((tt) + (1))) + 1 : Int).toNat ((tt) + (1)) (up (up (st) 20 (pp) (sbt (st 20 (pp)) (tt))) 0 (((pp) * (60)) + (tt)) (ff)) (by omega) (by omega) (by rw [show (tt) + (1) - tt = 0 + 1 by omega, ← fil_s _ _ (by omega), fil_0, Int.add_zero]; exact up_eq _ _ _ _) (fun j a b => by omega) _ _ hP hD hS ls (lv_sub hl [0, 1, 2, 3, 4] rfl)
