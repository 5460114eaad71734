abbrev rX8_finds : Room := { frames := 7, cells := 0, slots := 0, locals := 166 }
set_option maxHeartbeats 4000000 in
set_option maxRecDepth 100000 in
theorem m_X8_finds (l : Launch) (D : va_G) (g : Nat → ClassId) (a : Nat → Nat) (st : SS) (hI : IM st) (hQ : IS st) : Met l yX8_finds wsX8_finds rX8_finds (PcM D g (AWM a) (WM g a st) [.ref (a 0)]) (QcI D (WM g a) (AWM a) (fun r u => FND st r u)) 0 0 (AWM a) := by
  refine metI (cc := cX8_finds) (maxL := 3) (ret := (some .int)) (own := RX8) (by decide) rfl rfl (Nat.le_of_ble_eq_true rfl) (Or.inl rfl) ?_
  intro p e R s m args below meth c Q ls S hRf hRl hK hP hD hS hl K
  have hx := S.1
  have hb := S.2.1
  have hown := S.2.2.2.1
  have hts := S.2.2.2.2
  have hRf : 7 ≤ R.frames := hRf
  have hRl : 166 ≤ R.locals := hRl
  have hl : lv_has ls 3 [(0, .ref (a 0))] := hl
  have iX8 : ∀ w ∈ wsX80, w ∈ wsX8_finds := by decide +kernel
  have hB := hI.s
  have hN : 1 ≤ NSm st ∧ NSm st ≤ 1024 := pw10 (by omega) (by omega)
  refine z_iconst hx hb dX8_finds_0 ?_
  refine lv_istore_n (lv' := [(1, .int (iZ (0))), (0, .ref (a 0))]) hx hb dX8_finds_1 rfl hl (by decide) rfl (fun ls hl => ?_)
  have LP2 : ∀ (n2 : Nat) (cm : Int) (uu : SS), (st 0 2 - cm) < (n2 : Int) → (0 ≤ cm ∧ cm ≤ st 0 2) → (GVI st cm 0 uu) → ∀ (H : Heap) (locs : List Loc), va_P D vwCl (WM g a uu) H → va_D (AWM a) (WM g a uu) → va_S (AWM a) s.heap H locs → ∀ (ls : Array Slot), lv_has ls 3 [(1, .int (iZ (cm))), (0, .ref (a 0))] → W p l e R s m args below meth c H locs 0 0 Q (F0 m 2 ls []) := by
    intro n2
    induction n2 with
    | zero =>
      intro cm uu hm2 j1 j2 H locs hP hD hS ls hl
      exact absurd hm2 (by omega)
    | succ n2 ih2 =>
      intro cm uu hm2 j1 j2 H locs hP hD hS ls hl
      have e0 : uu 0 = st 0 := j2.1 0 (by decide)
      have e02 := congrFun e0 2
      have e03 := congrFun e0 3
      refine lv_iload_n hx hb dX8_finds_2 rfl (lv_at hl 0 rfl) ?_
      refine lv_aload_n hx hb dX8_finds_3 rfl (lv_at hl 1 rfl) ?_
      refine z_get (C := RX8) (T := TX8) (N := 26) (ci := 7) hx hb hts iX8 hown hK hP 0 rfl rfl 8 (by decide) (hts (.fieldLink RX8 79 "ShotBoardModel" "cameras" "I") (by decide +kernel)) (.int (iZ (uu 0 (2)))) rfl dX8_finds_4 ?_
      refine z_icmp_ge (tgt := 57) hx hb (by omega) (by omega) dX8_finds_7 (by decide) (fun c1 => ?_) (fun c1 => ?_)
      · skip
        refine z_iconst hx hb dX8_finds_57 ?_
        refine lv_istore_n (lv' := [(1, .int (iZ (0))), (0, .ref (a 0))]) hx hb dX8_finds_58 rfl hl (by decide) rfl (fun ls hl => ?_)
        have LP59 : ∀ (n59 : Nat) (mm : Int) (yu : SS), (st 0 2 + 1 - mm) < (n59 : Int) → (0 ≤ mm ∧ mm ≤ st 0 2 + 1) → (∀ k : Nat, k ≠ 18 → k ≠ 19 → yu k = uu k) → (IS yu) → (∀ s, 0 ≤ s → s < NSm st → popc s < mm → ¬ OKM uu s) → ∀ (H : Heap) (locs : List Loc), va_P D vwCl (WM g a yu) H → va_D (AWM a) (WM g a yu) → va_S (AWM a) s.heap H locs → ∀ (ls : Array Slot), lv_has ls 3 [(1, .int (iZ (mm))), (0, .ref (a 0))] → W p l e R s m args below meth c H locs 0 0 Q (F0 m 59 ls []) := by
          intro n59
          induction n59 with
          | zero =>
            intro mm yu hm59 m1 m2 m3 m4 H locs hP hD hS ls hl
            exact absurd hm59 (by omega)
          | succ n59 ih59 =>
            intro mm yu hm59 m1 m2 m3 m4 H locs hP hD hS ls hl
            have y0 : yu 0 = st 0 := (m2 0 (by decide) (by decide)).trans e0
            have y02 := congrFun y0 2
            refine lv_iload_n hx hb dX8_finds_59 rfl (lv_at hl 0 rfl) ?_
            refine lv_aload_n hx hb dX8_finds_60 rfl (lv_at hl 1 rfl) ?_
            refine z_get (C := RX8) (T := TX8) (N := 26) (ci := 7) hx hb hts iX8 hown hK hP 0 rfl rfl 8 (by decide) (hts (.fieldLink RX8 79 "ShotBoardModel" "cameras" "I") (by decide +kernel)) (.int (iZ (yu 0 (2)))) rfl dX8_finds_61 ?_
            refine z_icmp_gt (tgt := 114) hx hb (by omega) (by omega) dX8_finds_64 (by decide) (fun c2 => ?_) (fun c2 => ?_)
            · skip
              refine z_bipush hx hb dX8_finds_114 (by decide +kernel) ?_
              exact K _ (yu) _ _ _ _ hP hS (FND_no j2 (by omega) m2 m3 (fun s a b => m4 s a b (by have := popc_nc (s := s) (n := st 0 2) a b (by omega) (by omega); omega))) dX8_finds_116
            · skip
              refine z_iconst hx hb dX8_finds_67 ?_
              refine lv_istore_n (lv' := [(2, .int (iZ (0))), (1, .int (iZ (mm))), (0, .ref (a 0))]) hx hb dX8_finds_68 rfl hl (by decide) rfl (fun ls hl => ?_)
              have LP69 : ∀ (n69 : Nat) (ss : Int) (zu : SS), (NSm st - ss) < (n69 : Int) → (0 ≤ ss ∧ ss ≤ NSm st) → (∀ k : Nat, k ≠ 18 → k ≠ 19 → zu k = uu k) → (IS zu) → (∀ s, 0 ≤ s → s < ss → popc s = mm → ¬ OKM uu s) → ∀ (H : Heap) (locs : List Loc), va_P D vwCl (WM g a zu) H → va_D (AWM a) (WM g a zu) → va_S (AWM a) s.heap H locs → ∀ (ls : Array Slot), lv_has ls 3 [(2, .int (iZ (ss))), (1, .int (iZ (mm))), (0, .ref (a 0))] → W p l e R s m args below meth c H locs 0 0 Q (F0 m 69 ls []) := by
                intro n69
                induction n69 with
                | zero =>
                  intro ss zu hm69 n1 n2 n3 n4 H locs hP hD hS ls hl
                  exact absurd hm69 (by omega)
                | succ n69 ih69 =>
                  intro ss zu hm69 n1 n2 n3 n4 H locs hP hD hS ls hl
                  have z0 : zu 0 = st 0 := (n2 0 (by decide) (by decide)).trans e0
                  have z02 := congrFun z0 2
                  have hzN : NSm zu = NSm st := by unfold NSm; rw [z0]
                  refine lv_iload_n hx hb dX8_finds_69 rfl (lv_at hl 0 rfl) ?_
                  refine z_iconst hx hb dX8_finds_70 ?_
                  refine lv_aload_n hx hb dX8_finds_71 rfl (lv_at hl 2 rfl) ?_
                  refine z_get (C := RX8) (T := TX8) (N := 26) (ci := 7) hx hb hts iX8 hown hK hP 0 rfl rfl 8 (by decide) (hts (.fieldLink RX8 79 "ShotBoardModel" "cameras" "I") (by decide +kernel)) (.int (iZ (zu 0 (2)))) rfl dX8_finds_72 ?_
                  refine z_ishl hx hb dX8_finds_75 ?_
                  refine z_as (y := NSm st) ((zshl_1 (by omega) (by omega)).trans hzN) ?_
                  refine z_icmp_ge (tgt := 108) hx hb (by omega) (by omega) dX8_finds_76 (by decide) (fun c3 => ?_) (fun c3 => ?_)
                  · skip
                    refine z_iinc (lv' := [(1, .int (iZ ((mm) + 1))), (2, .int (iZ (ss))), (0, .ref (a 0))]) hx hb dX8_finds_108 hl (k := 1) rfl (by decide) rfl (fun ls hl => ?_)
                    refine lv_goto (tgt := 59) hx hb dX8_finds_111 (by decide) ?_
                    exact ih59 ((mm) + 1) (zu) (by omega) (by omega) (n2) (n3) (fun s a b d => by
        by_cases e9 : popc s < mm
        · exact m4 s a b e9
        · exact n4 s a (by omega) (by omega)) _ _ hP hD hS ls (lv_sub hl [0, 2] rfl)
                  · skip
                    refine lv_iload_n hx hb dX8_finds_79 rfl (lv_at hl 0 rfl) ?_
                    refine z_cSS (As := [.int (iZ (ss))]) (rest := []) S (m_X8_bits l (ss) (by omega)) (va_cwS 1 hts gX8_finds_X8_bits rfl rfl rfl (by decide +kernel) ⟨Nat.le_trans (by decide) hRf, Nat.le_trans (by decide) hRl⟩) rfl hl.1 rfl (Nat.le_of_ble_eq_true rfl) dX8_finds_80 ⟨Nat.zero_le _, Nat.zero_le _⟩ ?_
                    have f4 := popc_b (x := (ss))
                    refine lv_iload_n hx hb dX8_finds_83 rfl (lv_at hl 1 rfl) ?_
                    refine z_icmp_ne (tgt := 102) hx hb (by omega) (by omega) dX8_finds_84 (by decide) (fun c5 => ?_) (fun c5 => ?_)
                    · skip
                      have hpn := c5
                      refine z_iinc (lv' := [(2, .int (iZ ((ss) + 1))), (1, .int (iZ (mm))), (0, .ref (a 0))]) hx hb dX8_finds_102 hl (k := 0) rfl (by decide) rfl (fun ls hl => ?_)
                      refine lv_goto (tgt := 69) hx hb dX8_finds_105 (by decide) ?_
                      exact ih69 ((ss) + 1) (zu) (by omega) (by omega) (by first | exact n2 | exact (fun k p q => (hpd.2.1.1 k p q).trans (n2 k p q))) (by first | exact n3 | exact hpd.2.1.is n3) (fun s a b d => by
        by_cases e9 : s = ss
        · subst e9; first | exact hno | exact absurd d hpn
        · exact n4 s a (by omega) d) _ _ hP hD hS ls (lv_sub hl [0, 1, 2] rfl)
                    · skip
                      have hpe := c5
                      refine lv_aload_n hx hb dX8_finds_87 rfl (lv_at hl 2 rfl) ?_
                      refine lv_iload_n hx hb dX8_finds_88 rfl (lv_at hl 0 rfl) ?_
                      refine z_cVI (q0 := 0) (ci := 7) (As := [.int (iZ (ss))]) (rest := []) S (m_X8_plans l D g a (zu) (ss) (IM_pl hI (fun k hk => (n2 k (by omega) (by omega)).trans (j2.1 k (by omega)))) n3 (by omega)) (cwV 1 hts gX8_finds_X8_plans rfl rfl rfl (by decide +kernel) ⟨Nat.le_trans (by decide) hRf, Nat.le_trans (by decide) hRl⟩) hK hP hD hS (fun _ h => h) rfl rfl rfl hl.1 rfl (Nat.le_of_ble_eq_true rfl) dX8_finds_89 ⟨Nat.zero_le _, Nat.zero_le _⟩ (fun r8 u6 H locs P7 hP hS _ => ?_)
                      have hD : va_D (AWM a) (WM g a u6) := DWM hD
                      have hpd0 := P7
                      have hr9 : r8 = b2 (OKM zu ss) := P7.1
                      subst hr9
                      have hpd := hpd0
                      refine z_if_eq (tgt := 102) hx hb (b2_rg _) dX8_finds_92 (by decide) (fun c9 => ?_) (fun c9 => ?_)
                      · skip
                        have c9 := b2_0 c9
                        have hno : ¬ OKM uu ss := fun z => c9 ((OKM_e (fun k hk => n2 k (by omega) (by omega)) ss).mpr z)
                        refine z_iinc (lv' := [(2, .int (iZ ((ss) + 1))), (1, .int (iZ (mm))), (0, .ref (a 0))]) hx hb dX8_finds_102 hl (k := 0) rfl (by decide) rfl (fun ls hl => ?_)
                        refine lv_goto (tgt := 69) hx hb dX8_finds_105 (by decide) ?_
                        exact ih69 ((ss) + 1) (u6) (by omega) (by omega) (by first | exact n2 | exact (fun k p q => (hpd.2.1.1 k p q).trans (n2 k p q))) (by first | exact n3 | exact hpd.2.1.is n3) (fun s a b d => by
        by_cases e9 : s = ss
        · subst e9; first | exact hno | exact absurd d hpn
        · exact n4 s a (by omega) d) _ _ hP hD hS ls (lv_sub hl [0, 1, 2] rfl)
                      · skip
                        have c9 := b2_n0 c9
                        have hokz := c9
                        refine lv_aload_n hx hb dX8_finds_95 rfl (lv_at hl 2 rfl) ?_
                        refine lv_iload_n hx hb dX8_finds_96 rfl (lv_at hl 0 rfl) ?_
                        refine z_put (C := RX8) (T := TX8) (N := 26) (ci := 7) (ty := .int) hx hb hts iX8 tyX8 tyX8_ok nmX8 hown hK hP hD hS 0 rfl rfl 25 (by decide) (hts (.fieldLink RX8 169 "ShotBoardModel" "fewestSet" "I") (by decide +kernel)) rfl (by decide +kernel) rfl rfl (Nat.le_of_ble_eq_true rfl) (WM g a (up (u6) 20 (0) (ss))) rfl dX8_finds_97 (fun H locs hP hD hS => ?_)
                        refine lv_iload_n hx hb dX8_finds_100 rfl (lv_at hl 1 rfl) ?_
                        exact K _ (up (u6) 20 (0) (ss)) _ _ _ _ hP hS (FND_yes j2 (by omega) n2 n3 (by rw [b2_t hokz] at hpd; exact hpd) (by omega) (by omega) (by omega) (by omega) (fun s a b d => m4 s a b d) (fun s a b d => n4 s a b d)) dX8_finds_101
              exact LP69 ((NSm st - (0)) + 1 : Int).toNat (0) (yu) (by omega) (by omega) (m2) (m3) (fun s a b => by omega) _ _ hP hD hS ls (lv_sub hl [0, 1, 2] rfl)
        exact LP59 ((st 0 2 + 1 - (0)) + 1 : Int).toNat (0) (uu) (by omega) (by omega) (fun k _ _ => rfl) (j2.is hQ) (fun s a b d => by have := popc_b (x := s); omega) _ _ hP hD hS ls (lv_sub hl [0, 1] rfl)
      · skip
        refine z_iconst hx hb dX8_finds_10 ?_
        refine lv_istore_n (lv' := [(2, .int (iZ (0))), (1, .int (iZ (cm))), (0, .ref (a 0))]) hx hb dX8_finds_11 rfl hl (by decide) rfl (fun ls hl => ?_)
        have LP12 : ∀ (n12 : Nat) (bb : Int) (vv : SS), (st 0 3 - bb) < (n12 : Int) → (0 ≤ bb ∧ bb ≤ st 0 3) → (GVI st cm bb vv) → ∀ (H : Heap) (locs : List Loc), va_P D vwCl (WM g a vv) H → va_D (AWM a) (WM g a vv) → va_S (AWM a) s.heap H locs → ∀ (ls : Array Slot), lv_has ls 3 [(2, .int (iZ (bb))), (1, .int (iZ (cm))), (0, .ref (a 0))] → W p l e R s m args below meth c H locs 0 0 Q (F0 m 12 ls []) := by
          intro n12
          induction n12 with
          | zero =>
            intro bb vv hm12 k1 k2 H locs hP hD hS ls hl
            exact absurd hm12 (by omega)
          | succ n12 ih12 =>
            intro bb vv hm12 k1 k2 H locs hP hD hS ls hl
            have f0 : vv 0 = st 0 := k2.1 0 (by decide)
            have f03 := congrFun f0 3
            have offv : ∀ k : Nat, k < 17 → vv k = st k := fun k hk => k2.1 k (by omega)
            refine lv_iload_n hx hb dX8_finds_12 rfl (lv_at hl 0 rfl) ?_
            refine lv_aload_n hx hb dX8_finds_13 rfl (lv_at hl 2 rfl) ?_
            refine z_get (C := RX8) (T := TX8) (N := 26) (ci := 7) hx hb hts iX8 hown hK hP 0 rfl rfl 11 (by decide) (hts (.fieldLink RX8 82 "ShotBoardModel" "boards" "I") (by decide +kernel)) (.int (iZ (vv 0 (3)))) rfl dX8_finds_14 ?_
            refine z_icmp_ge (tgt := 51) hx hb (by omega) (by omega) dX8_finds_17 (by decide) (fun c10 => ?_) (fun c10 => ?_)
            · skip
              refine z_iinc (lv' := [(1, .int (iZ ((cm) + 1))), (2, .int (iZ (bb))), (0, .ref (a 0))]) hx hb dX8_finds_51 hl (k := 1) rfl (by decide) rfl (fun ls hl => ?_)
              refine lv_goto (tgt := 2) hx hb dX8_finds_54 (by decide) ?_
              exact ih2 ((cm) + 1) (vv) (by omega) (by omega) (GVI_next k2 (by omega)) _ _ hP hD hS ls (lv_sub hl [0, 2] rfl)
            · skip
              refine lv_aload_n hx hb dX8_finds_20 rfl (lv_at hl 2 rfl) ?_
              refine z_get (C := RX8) (T := TX8) (N := 26) (ci := 7) hx hb hts iX8 hown hK hP 0 rfl rfl 22 (by decide) (hts (.fieldLink RX8 62 "ShotBoardModel" "giving" "[Z") (by decide +kernel)) (.ref (a 17)) rfl dX8_finds_21 ?_
              refine z_bipush hx hb dX8_finds_24 (by decide +kernel) ?_
              refine lv_iload_n hx hb dX8_finds_26 rfl (lv_at hl 1 rfl) ?_
              refine z_imul hx hb dX8_finds_27 ?_
              refine lv_iload_n hx hb dX8_finds_28 rfl (lv_at hl 0 rfl) ?_
              refine z_iadd hx hb dX8_finds_29 ?_
              refine lv_aload_n hx hb dX8_finds_30 rfl (lv_at hl 2 rfl) ?_
              refine lv_iload_n hx hb dX8_finds_31 rfl (lv_at hl 1 rfl) ?_
              refine lv_iload_n hx hb dX8_finds_32 rfl (lv_at hl 0 rfl) ?_
              refine z_cVR (q0 := 0) (ci := 7) (As := [.int (iZ (cm)), .int (iZ (bb))]) (rest := [.int (iZ (((8) * (cm)) + (bb))), .ref (a 17)]) S (m_X8_whyNot l D g a (vv) (cm) (bb) (k2.im hI) (by omega) (by omega)) (cwV 2 hts gX8_finds_X8_whyNot rfl rfl rfl (by decide +kernel) ⟨Nat.le_trans (by decide) hRf, Nat.le_trans (by decide) hRl⟩) hK hP rfl rfl rfl hl.1 rfl (Nat.le_of_ble_eq_true rfl) dX8_finds_33 ⟨Nat.zero_le _, Nat.zero_le _⟩ ?_
              have f33 : 0 ≤ WHYm st bb (st 7 cm) ∧ WHYm st bb (st 7 cm) < 6000 := WHY_b (F := FLm st bb (st 7 cm)) _ _ (by have h9 := hI.bd bb (by omega) (by omega); omega) (by have h9 := hI.bd bb (by omega) (by omega); have h8 := (hI.bl bb (by omega) (by omega)).2.1; omega) (fun j => FL_b _ _ _ _ _ _ _ _ _ _ _ _ (by have h9 := hI.s; omega))
              refine z_as (y := WHYm st bb (st 7 cm)) (by rw [WHYm_e offv, offv 7 (by decide)]) ?_
              refine z_if_ne (tgt := 43) hx hb (by omega) dX8_finds_36 (by decide) (fun c11 => ?_) (fun c11 => ?_)
              · skip
                have hst : (0 : Int) = GVv st cm bb := (b2_f c11).symm
                refine z_iconst hx hb dX8_finds_43 ?_
                refine z_zast hx hb hK hP hD hS 17 (vv 17) rfl (by omega) (by omega) (by omega) (by omega) (WM g a (up (vv) 17 (((8) * (cm)) + (bb)) (0))) rfl dX8_finds_44 (fun H locs hP hD hS => ?_)
                refine z_iinc (lv' := [(2, .int (iZ ((bb) + 1))), (1, .int (iZ (cm))), (0, .ref (a 0))]) hx hb dX8_finds_45 hl (k := 0) rfl (by decide) rfl (fun ls hl => ?_)
                refine lv_goto (tgt := 12) hx hb dX8_finds_48 (by decide) ?_
                exact ih12 ((bb) + 1) (up (vv) 17 (((8) * (cm)) + (bb)) (0)) (by omega) (by omega) (GVI_step k2 (by omega) (by omega) (by omega) hst) _ _ hP hD hS ls (lv_sub hl [0, 1, 2] rfl)
              · skip
                have hst : (1 : Int) = GVv st cm bb := (b2_t c11).symm
                refine z_iconst hx hb dX8_finds_39 ?_
                refine lv_goto (tgt := 44) hx hb dX8_finds_40 (by decide) ?_
                refine z_zast hx hb hK hP hD hS 17 (vv 17) rfl (by omega) (by omega) (by omega) (by omega) (WM g a (up (vv) 17 (((8) * (cm)) + (bb)) (1))) rfl dX8_finds_44 (fun H locs hP hD hS => ?_)
                refine z_iinc (lv' := [(2, .int (iZ ((bb) + 1))), (1, .int (iZ (cm))), (0, .ref (a 0))]) hx hb dX8_finds_45 hl (k := 0) rfl (by decide) rfl (fun ls hl => ?_)
                refine lv_goto (tgt := 12) hx hb dX8_finds_48 (by decide) ?_
                exact ih12 ((bb) + 1) (up (vv) 17 (((8) * (cm)) + (bb)) (1)) (by omega) (by omega) (GVI_step k2 (by omega) (by omega) (by omega) hst) _ _ hP hD hS ls (lv_sub hl [0, 1, 2] rfl)
        exact LP12 ((st 0 3 - (0)) + 1 : Int).toNat (0) (uu) (by omega) (by omega) (j2) _ _ hP hD hS ls (lv_sub hl [0, 1, 2] rfl)
  exact LP2 ((st 0 2 - (0)) + 1 : Int).toNat (0) (st) (by omega) (by omega) (GVI_init hQ) _ _ hP hD hS ls (lv_sub hl [0, 1] rfl)
