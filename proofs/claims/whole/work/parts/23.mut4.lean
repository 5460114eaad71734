abbrev rX3_refresh : Room := { frames := 5, cells := 0, slots := 0, locals := 124 }
set_option maxHeartbeats 4000000 in
set_option maxRecDepth 100000 in
theorem m_X3_refresh (l : Launch) (D : va_G) (g : Nat → ClassId) (a : Nat → Nat) (st : SS) (hI : IC st) (hQ : IP st) : Met l yX3_refresh wsX3_refresh rX3_refresh (PcM D g (AWC a) (WC g a st) [.ref (a 5)]) (QcV D (WC g a) (AWC a) (fun u => (st 21 2 = 1 ∧ u = st) ∨ (st 21 2 = 0 ∧ RFD st u))) 0 0 (AWC a) := by
  refine metV (cc := cX3_refresh) (maxL := 5) (own := RX3) (by decide) rfl rfl (Nat.le_of_ble_eq_true rfl) ?_
  intro p e R s m args below meth c Q ls S hRf hRl hK hP hD hS hl K
  have hx := S.1
  have hb := S.2.1
  have hown := S.2.2.2.1
  have hts := S.2.2.2.2
  have hRf : 5 ≤ R.frames := hRf
  have hRl : 124 ≤ R.locals := hRl
  have hl : lv_has ls 5 [(0, .ref (a 5))] := hl
  have iX0 : ∀ w ∈ wsX00, w ∈ wsX3_refresh := by decide +kernel
  have iX3 : ∀ w ∈ wsX30, w ∈ wsX3_refresh := by decide +kernel
  have iX4 : ∀ w ∈ wsX40, w ∈ wsX3_refresh := by decide +kernel
  have iX5 : ∀ w ∈ wsX50, w ∈ wsX3_refresh := by decide +kernel
  have hB := hI.s
  have hC := hQ.s
  refine lv_aload_n hx hb dX3_refresh_0 rfl (lv_at hl 0 rfl) ?_
  refine z_get (C := RX3) (T := TX3) (N := 11) (ci := 2) hx hb hts iX3 hown hK hP 5 rfl rfl 10 (by decide) (hts (.fieldLink RX3 40 "ShotBoard$Planner" "known" "Z") (by decide +kernel)) (.int (iZ (st 21 (2)))) rfl dX3_refresh_1 ?_
  refine z_if_eq (tgt := 8) hx hb (by omega) dX3_refresh_4 (by decide) (fun c1 => ?_) (fun c1 => ?_)
  · skip
    have hkn := c1
    refine lv_aload_n hx hb dX3_refresh_8 rfl (lv_at hl 0 rfl) ?_
    refine z_iconst hx hb dX3_refresh_9 ?_
    refine z_put (C := RX3) (T := TX3) (N := 11) (ci := 2) (ty := .boolean) hx hb hts iX3 tyX3 tyX3_ok nmX3 hown hK hP hD hS 5 rfl rfl 10 (by decide) (hts (.fieldLink RX3 40 "ShotBoard$Planner" "known" "Z") (by decide +kernel)) rfl (by decide +kernel) (nar_z (by omega)) (fit_z (by omega)) (Nat.le_of_ble_eq_true rfl) (WC g a (up (st) 21 (2) (1))) rfl dX3_refresh_10 (fun H locs hP hD hS => ?_)
    refine z_iconst hx hb dX3_refresh_13 ?_
    refine lv_istore_n (lv' := [(1, .int (iZ (0))), (0, .ref (a 5))]) hx hb dX3_refresh_14 rfl hl (by decide) rfl (fun ls hl => ?_)
    have LP15 : ∀ (n15 : Nat) (bb : Int) (uu : SS), (st 19 3 - bb) < (n15 : Int) → (0 ≤ bb ∧ bb ≤ st 19 3) → (TBO st bb uu) → ∀ (H : Heap) (locs : List Loc), va_P D vwCl (WC g a uu) H → va_D (AWC a) (WC g a uu) → va_S (AWC a) s.heap H locs → ∀ (ls : Array Slot), lv_has ls 5 [(1, .int (iZ (bb))), (0, .ref (a 5))] → W p l e R s m args below meth c H locs 0 0 Q (F0 m 15 ls []) := by
      intro n15
      induction n15 with
      | zero =>
        intro bb uu hm15 j1 j2 H locs hP hD hS ls hl
        exact absurd hm15 (by omega)
      | succ n15 ih15 =>
        intro bb uu hm15 j1 j2 H locs hP hD hS ls hl
        have e19 : uu 19 = st 19 := j2.1 19 (by decide) (by decide) (by decide)
        have e19b := congrFun e19 3
        have e19c := congrFun e19 2
        refine lv_iload_n hx hb dX3_refresh_15 rfl (lv_at hl 0 rfl) ?_
        refine lv_aload_n hx hb dX3_refresh_16 rfl (lv_at hl 1 rfl) ?_
        refine z_get (C := RX3) (T := TX3) (N := 11) (ci := 2) hx hb hts iX3 hown hK hP 5 rfl rfl 2 (by decide) (hts (.fieldLink RX3 36 "ShotBoard$Planner" "script" "LShotBoard$Script;") (by decide +kernel)) (.ref (a 3)) rfl dX3_refresh_17 ?_
        refine z_get (C := RX5) (T := TX5) (N := 3) (ci := 4) hx hb hts iX5 hown hK hP 3 rfl rfl 1 (by decide) (hts (.fieldLink RX3 44 "ShotBoard$Script" "boards" "I") (by decide +kernel)) (.int (iZ (uu 19 (3)))) rfl dX3_refresh_20 ?_
        refine z_icmp_ge (tgt := 141) hx hb (by omega) (by omega) dX3_refresh_23 (by decide) (fun c2 => ?_) (fun c2 => ?_)
        · skip
          refine lv_aload_n hx hb dX3_refresh_141 rfl (lv_at hl 1 rfl) ?_
          refine lv_aload_n hx hb dX3_refresh_142 rfl (lv_at hl 1 rfl) ?_
          refine z_cVI (q0 := 5) (ci := 2) (As := []) (rest := [.ref (a 5)]) S (m_X3_search l D g a (uu) (j2.ic hI) (j2.ip hQ)) (cwV 0 hts gX3_refresh_X3_search rfl rfl rfl (by decide +kernel) ⟨Nat.le_trans (by decide) hRf, Nat.le_trans (by decide) hRl⟩) hK hP hD hS (fun _ h => h) rfl rfl rfl hl.1 rfl (Nat.le_of_ble_eq_true rfl) dX3_refresh_143 ⟨Nat.zero_le _, Nat.zero_le _⟩ (fun r5 u3 H locs P4 hP hS _ => ?_)
          have hD : va_D (AWC a) (WC g a u3) := DWC hD
          have hrr : -5 ≤ r5 ∧ r5 ≤ 10 := by rcases P4.2.2.2 with z | z <;> have e9 := congrFun (j2.1 19 (by decide) (by decide) (by decide)) 2 <;> omega
          have hsr := P4
          refine z_put (C := RX3) (T := TX3) (N := 11) (ci := 2) (ty := .int) hx hb hts iX3 tyX3 tyX3_ok nmX3 hown hK hP hD hS 5 rfl rfl 8 (by decide) (hts (.fieldLink RX3 80 "ShotBoard$Planner" "used" "I") (by decide +kernel)) rfl (by decide +kernel) rfl rfl (Nat.le_of_ble_eq_true rfl) (WC g a (up (u3) 21 (0) (r5))) rfl dX3_refresh_146 (fun H locs hP hD hS => ?_)
          refine lv_aload_n hx hb dX3_refresh_149 rfl (lv_at hl 1 rfl) ?_
          refine z_get (C := RX3) (T := TX3) (N := 11) (ci := 2) hx hb hts iX3 hown hK hP 5 rfl rfl 8 (by decide) (hts (.fieldLink RX3 80 "ShotBoard$Planner" "used" "I") (by decide +kernel)) (.int (iZ (r5))) rfl dX3_refresh_150 ?_
          refine z_if_lt (tgt := 164) hx hb (by omega) dX3_refresh_153 (by decide) (fun c6 => ?_) (fun c6 => ?_)
          · skip
            have hrn := c6
            exact K (up (u3) 21 (0) (r5)) _ _ _ _ hP hS (Or.inr ⟨hkn, RFD_no j2 (by omega) (by omega) hsr hrn⟩) dX3_refresh_164
          · skip
            have hr0 := c6
            have hIu : IC (up u3 21 0 r5) := IC_21 (IC_pl hI (fun k a b => by rw [hsr.1 k (by omega) b, j2.1 k (by omega) (by omega) b]))
            have hQu : IP (up u3 21 0 r5) := IP_u0 hsr.2.2.1 hrr
            refine lv_aload_n hx hb dX3_refresh_156 rfl (lv_at hl 1 rfl) ?_
            refine z_cVV (q0 := 5) (ci := 2) (As := []) (rest := []) S (m_X3_writeRow l D g a (up (u3) 21 (0) (r5)) hIu hQu) (cwV 0 hts gX3_refresh_X3_writeRow rfl rfl rfl (by decide +kernel) ⟨Nat.le_trans (by decide) hRf, Nat.le_trans (by decide) hRl⟩) hK hP hD hS (fun _ h => h) rfl rfl rfl hl.1 rfl (Nat.le_of_ble_eq_true rfl) dX3_refresh_157 ⟨Nat.zero_le _, Nat.zero_le _⟩ (fun u7 H locs P8 hP hS _ => ?_)
            have hD : va_D (AWC a) (WC g a u7) := DWC hD
            have hv9 := P8
            have hQv : IP u7 := by rw [hv9]; exact IP_9 hQu (rwF_b hQu (by have := hIu.s; omega) _)
            have hIv : IC u7 := by rw [hv9]; exact hIu
            refine lv_aload_n hx hb dX3_refresh_160 rfl (lv_at hl 1 rfl) ?_
            refine z_cVV (q0 := 5) (ci := 2) (As := []) (rest := []) S (m_X3_writeSequence l D g a (u7) hIv hQv (by rw [hv9, sA_n _ _ (by decide), up_s]; exact hr0)) (cwV 0 hts gX3_refresh_X3_writeSequence rfl rfl rfl (by decide +kernel) ⟨Nat.le_trans (by decide) hRf, Nat.le_trans (by decide) hRl⟩) hK hP hD hS (fun _ h => h) rfl rfl rfl hl.1 rfl (Nat.le_of_ble_eq_true rfl) dX3_refresh_161 ⟨Nat.zero_le _, Nat.zero_le _⟩ (fun u9 H locs P10 hP hS _ => ?_)
            have hD : va_D (AWC a) (WC g a u9) := DWC hD
            have hz9 := P10
            exact K (u9) _ _ _ _ hP hS (Or.inr ⟨hkn, RFD_yes hI j2 (by omega) hsr hr0 hv9 hz9⟩) dX3_refresh_164
        · skip
          refine lv_aload_n hx hb dX3_refresh_26 rfl (lv_at hl 1 rfl) ?_
          refine z_get (C := RX3) (T := TX3) (N := 11) (ci := 2) hx hb hts iX3 hown hK hP 5 rfl rfl 2 (by decide) (hts (.fieldLink RX3 36 "ShotBoard$Planner" "script" "LShotBoard$Script;") (by decide +kernel)) (.ref (a 3)) rfl dX3_refresh_27 ?_
          refine z_get (C := RX5) (T := TX5) (N := 3) (ci := 4) hx hb hts iX5 hown hK hP 3 rfl rfl 0 (by decide) (hts (.fieldLink RX3 50 "ShotBoard$Script" "rows" "[LShotBoard$Board;") (by decide +kernel)) (.ref (a 13)) rfl dX3_refresh_30 ?_
          refine lv_iload_n hx hb dX3_refresh_33 rfl (lv_at hl 0 rfl) ?_
          refine z_aald hx hb hK hP (by omega) (by omega) dX3_refresh_34 ?_
          refine lv_astore_n (lv' := [(2, .ref (a (19 + (bb).toNat))), (1, .int (iZ (bb))), (0, .ref (a 5))]) hx hb dX3_refresh_35 rfl hl (by decide) rfl (fun ls hl => ?_)
          refine lv_aload_n hx hb dX3_refresh_36 rfl (lv_at hl 2 rfl) ?_
          refine z_get (C := RX3) (T := TX3) (N := 11) (ci := 2) hx hb hts iX3 hown hK hP 5 rfl rfl 3 (by decide) (hts (.fieldLink RX3 9 "ShotBoard$Planner" "givers" "[I") (by decide +kernel)) (.ref (a 14)) rfl dX3_refresh_37 ?_
          refine lv_iload_n hx hb dX3_refresh_40 rfl (lv_at hl 1 rfl) ?_
          refine z_iconst hx hb dX3_refresh_41 ?_
          refine z_iast hx hb hK hP hD hS 14 (uu 6) rfl (by omega) (by omega) (by omega) (WC g a (up (uu) 6 (bb) (0))) rfl dX3_refresh_42 (fun H locs hP hD hS => ?_)
          refine z_iconst hx hb dX3_refresh_43 ?_
          refine lv_istore_n (lv' := [(3, .int (iZ (0))), (2, .ref (a (19 + (bb).toNat))), (1, .int (iZ (bb))), (0, .ref (a 5))]) hx hb dX3_refresh_44 rfl hl (by decide) rfl (fun ls hl => ?_)
          have LP45 : ∀ (n45 : Nat) (cm : Int) (vv : SS), (st 19 2 - cm) < (n45 : Int) → (0 ≤ cm ∧ cm ≤ st 19 2) → (TBI st bb cm vv) → ∀ (H : Heap) (locs : List Loc), va_P D vwCl (WC g a vv) H → va_D (AWC a) (WC g a vv) → va_S (AWC a) s.heap H locs → ∀ (ls : Array Slot), lv_has ls 5 [(3, .int (iZ (cm))), (2, .ref (a (19 + (bb).toNat))), (1, .int (iZ (bb))), (0, .ref (a 5))] → W p l e R s m args below meth c H locs 0 0 Q (F0 m 45 ls []) := by
            intro n45
            induction n45 with
            | zero =>
              intro cm vv hm45 k1 k2 H locs hP hD hS ls hl
              exact absurd hm45 (by omega)
            | succ n45 ih45 =>
              intro cm vv hm45 k1 k2 H locs hP hD hS ls hl
              have hbR := hI.bd bb (by omega) (by omega)
              have f19 : vv 19 = st 19 := k2.1.1 19 (by decide) (by decide) (by decide)
              have f19b := congrFun f19 3
              have f19c := congrFun f19 2
              have f3 : vv 3 = st 3 := k2.1.1 3 (by decide) (by decide) (by decide)
              have f3c := congrFun f3 cm
              have f11c := congrFun (k2.1.1 11 (by decide) (by decide) (by decide)) bb
              have hv6 := k2.1.2.2.1 bb (by omega) (by omega)
              have offv : ∀ k : Nat, k < 6 ∨ 10 < k → k ≠ 21 → vv k = st k := fun k a b => k2.1.1 k (by omega) (by omega) b
              refine lv_iload_n hx hb dX3_refresh_45 rfl (lv_at hl 0 rfl) ?_
              refine lv_aload_n hx hb dX3_refresh_46 rfl (lv_at hl 3 rfl) ?_
              refine z_get (C := RX3) (T := TX3) (N := 11) (ci := 2) hx hb hts iX3 hown hK hP 5 rfl rfl 1 (by decide) (hts (.fieldLink RX3 32 "ShotBoard$Planner" "rig" "LShotBoard$Rig;") (by decide +kernel)) (.ref (a 2)) rfl dX3_refresh_47 ?_
              refine z_get (C := RX4) (T := TX4) (N := 3) (ci := 3) hx hb hts iX4 hown hK hP 2 rfl rfl 2 (by decide) (hts (.fieldLink RX3 54 "ShotBoard$Rig" "cameras" "I") (by decide +kernel)) (.int (iZ (vv 19 (2)))) rfl dX3_refresh_50 ?_
              refine z_icmp_ge (tgt := 135) hx hb (by omega) (by omega) dX3_refresh_53 (by decide) (fun c11 => ?_) (fun c11 => ?_)
              · skip
                refine z_iinc (lv' := [(1, .int (iZ ((bb) + 1))), (3, .int (iZ (cm))), (2, .ref (a (19 + (bb).toNat))), (0, .ref (a 5))]) hx hb dX3_refresh_135 hl (k := 2) rfl (by decide) rfl (fun ls hl => ?_)
                refine lv_goto (tgt := 15) hx hb dX3_refresh_138 (by decide) ?_
                exact ih15 ((bb) + 1) (vv) (by omega) (by omega) (TBO_next k2 (by omega)) _ _ hP hD hS ls (lv_sub hl [0, 3] rfl)
              · skip
                refine lv_aload_n hx hb dX3_refresh_56 rfl (lv_at hl 3 rfl) ?_
                refine z_get (C := RX3) (T := TX3) (N := 11) (ci := 2) hx hb hts iX3 hown hK hP 5 rfl rfl 1 (by decide) (hts (.fieldLink RX3 32 "ShotBoard$Planner" "rig" "LShotBoard$Rig;") (by decide +kernel)) (.ref (a 2)) rfl dX3_refresh_57 ?_
                refine z_get (C := RX4) (T := TX4) (N := 3) (ci := 3) hx hb hts iX4 hown hK hP 2 rfl rfl 0 (by decide) (hts (.fieldLink RX3 59 "ShotBoard$Rig" "places" "[I") (by decide +kernel)) (.ref (a 11)) rfl dX3_refresh_60 ?_
                refine lv_iload_n hx hb dX3_refresh_63 rfl (lv_at hl 0 rfl) ?_
                refine z_iald hx hb hK hP 11 (vv 3) rfl (by omega) (by omega) (by omega) dX3_refresh_64 ?_
                refine lv_istore (lv' := [(4, .int (iZ (vv 3 (cm)))), (3, .int (iZ (cm))), (2, .ref (a (19 + (bb).toNat))), (1, .int (iZ (bb))), (0, .ref (a 5))]) hx hb dX3_refresh_65 hl (by decide) rfl (fun ls hl => ?_)
                refine lv_aload_n hx hb dX3_refresh_67 rfl (lv_at hl 4 rfl) ?_
                refine z_get (C := RX3) (T := TX3) (N := 11) (ci := 2) hx hb hts iX3 hown hK hP 5 rfl rfl 3 (by decide) (hts (.fieldLink RX3 9 "ShotBoard$Planner" "givers" "[I") (by decide +kernel)) (.ref (a 14)) rfl dX3_refresh_68 ?_
                refine lv_iload_n hx hb dX3_refresh_71 rfl (lv_at hl 3 rfl) ?_
                refine lv_dup2_11 hx hb dX3_refresh_72 rfl rfl ?_
                refine z_iald hx hb hK hP 14 (vv 6) rfl (by omega) (by omega) (by omega) dX3_refresh_73 ?_
                refine lv_aload_n hx hb dX3_refresh_74 rfl (lv_at hl 4 rfl) ?_
                refine z_get (C := RX3) (T := TX3) (N := 11) (ci := 2) hx hb hts iX3 hown hK hP 5 rfl rfl 0 (by decide) (hts (.fieldLink RX3 28 "ShotBoard$Planner" "judge" "LShotBoard$Judge;") (by decide +kernel)) (.ref (a 4)) rfl dX3_refresh_75 ?_
                refine lv_iload hx hb dX3_refresh_78 (lv_at hl 0 rfl) ?_
                refine lv_aload_n hx hb dX3_refresh_80 rfl (lv_at hl 2 rfl) ?_
                refine z_cVR (q0 := 4) (ci := 1) (As := [.int (iZ (vv 3 (cm))), .ref (a (19 + (bb).toNat))]) (rest := [.int (iZ (vv 6 (bb))), .int (iZ (bb)), .ref (a 14)]) S (m_X1_fault l D g a (vv) (vv 3 (cm)) (bb) (k2.1.ic hI) (by omega) (by rw [f3]; exact hI.c3 cm (by omega) (by omega))) (cwV 2 hts gX3_refresh_X1_fault rfl rfl rfl (by decide +kernel) ⟨Nat.le_trans (by decide) hRf, Nat.le_trans (by decide) hRl⟩) hK hP rfl rfl rfl hl.1 rfl (Nat.le_of_ble_eq_true rfl) dX3_refresh_81 ⟨Nat.zero_le _, Nat.zero_le _⟩ ?_
                have f81 : 0 ≤ WHYc st bb (st 3 cm) ∧ WHYc st bb (st 3 cm) < 6000 := WHY_b (F := FLc st bb (st 3 cm)) (st 16 bb - st 15 bb + 1).toNat (st 15 bb) (by have h9 := hI.bd bb (by omega) (by omega); omega) (by have h9 := hI.bd bb (by omega) (by omega); have h8 := (hI.bl bb (by omega) (by omega)).2.1; omega) (fun j => FL_b _ _ _ _ _ _ _ _ _ _ _ _ (by omega))
                refine z_as (y := WHYc st bb (st 3 cm)) (by rw [← WHYc_eq offv, f3]) ?_
                refine z_if_ne (tgt := 93) hx hb (by omega) dX3_refresh_84 (by decide) (fun c12 => ?_) (fun c12 => ?_)
                · skip
                  have hX := hv6
                  have hX2 : ∀ c, 0 ≤ c → (bt (vv 6 bb) c ↔ (bt (vv 6 bb) c ∨ (c = cm ∧ WHYc st bb (st 3 cm) = 0))) := fun c _ => ⟨Or.inl, fun z => z.resolve_right (fun q => c12 q.2)⟩
                  refine z_iconst hx hb dX3_refresh_93 ?_
                  refine z_ior hx hb dX3_refresh_94 ?_
                  refine z_as (y := vv 6 (bb)) (zor_0 (by omega) (by omega)) ?_
                  refine z_iast hx hb hK hP hD hS 14 (vv 6) rfl (by omega) (by omega) (by omega) (WC g a (up (vv) 6 (bb) (vv 6 (bb)))) rfl dX3_refresh_95 (fun H locs hP hD hS => ?_)
                  refine lv_aload_n hx hb dX3_refresh_96 rfl (lv_at hl 4 rfl) ?_
                  refine z_get (C := RX3) (T := TX3) (N := 11) (ci := 2) hx hb hts iX3 hown hK hP 5 rfl rfl 4 (by decide) (hts (.fieldLink RX3 15 "ShotBoard$Planner" "sides" "[I") (by decide +kernel)) (.ref (a 15)) rfl dX3_refresh_97 ?_
                  refine lv_iload_n hx hb dX3_refresh_100 rfl (lv_at hl 3 rfl) ?_
                  refine z_bipush hx hb dX3_refresh_101 (by decide +kernel) ?_
                  refine z_imul hx hb dX3_refresh_103 ?_
                  refine lv_iload_n hx hb dX3_refresh_104 rfl (lv_at hl 1 rfl) ?_
                  refine z_iadd hx hb dX3_refresh_105 ?_
                  refine lv_aload_n hx hb dX3_refresh_106 rfl (lv_at hl 2 rfl) ?_
                  refine z_get (C := RX0) (T := TX0) (N := 8) (ci := 0) hx hb hts iX0 hown hK hP (19 + (bb).toNat) (WC_bd g a _ (by omega) (by omega)) rfl 0 (by decide) (hts (.fieldLink RX3 68 "ShotBoard$Board" "kind" "I") (by decide +kernel)) (.int (iZ ((up (vv) 6 (bb) (vv 6 (bb))) 11 (bb)))) rfl dX3_refresh_107 ?_
                  refine z_as (y := vv 11 (bb)) (by simp [up, uf]) ?_
                  refine z_iconst hx hb dX3_refresh_110 ?_
                  refine z_icmp_ne (tgt := 127) hx hb (by omega) (by decide) dX3_refresh_111 (by decide) (fun c13 => ?_) (fun c13 => ?_)
                  · skip
                    have hY : (0 : Int) = SDX st bb cm := (if_neg (by rw [← f11c]; exact c13)).symm
                    refine z_iconst hx hb dX3_refresh_127 ?_
                    refine z_iast hx hb hK hP hD hS 15 ((up (vv) 6 (bb) (vv 6 (bb))) 7) rfl (by omega) (by omega) (by omega) (WC g a (up (up (vv) 6 (bb) (vv 6 (bb))) 7 (((bb) * (10)) + (cm)) (0))) rfl dX3_refresh_128 (fun H locs hP hD hS => ?_)
                    refine z_iinc (lv' := [(3, .int (iZ ((cm) + 1))), (4, .int (iZ (vv 3 (cm)))), (2, .ref (a (19 + (bb).toNat))), (1, .int (iZ (bb))), (0, .ref (a 5))]) hx hb dX3_refresh_129 hl (k := 1) rfl (by decide) rfl (fun ls hl => ?_)
                    refine lv_goto (tgt := 45) hx hb dX3_refresh_132 (by decide) ?_
                    exact ih45 ((cm) + 1) (up (up (vv) 6 (bb) (vv 6 (bb))) 7 (((bb) * (10)) + (cm)) (0)) (by omega) (by omega) (TBI_step k2 (by omega) (by omega) (by omega) hX hX2 hY (by omega)) _ _ hP hD hS ls (lv_sub hl [0, 2, 3, 4] rfl)
                  · skip
                    have hY : SDL st bb (st 3 cm) = SDX st bb cm := (if_pos (by rw [← f11c]; exact c13)).symm
                    refine lv_aload_n hx hb dX3_refresh_114 rfl (lv_at hl 4 rfl) ?_
                    refine z_get (C := RX3) (T := TX3) (N := 11) (ci := 2) hx hb hts iX3 hown hK hP 5 rfl rfl 0 (by decide) (hts (.fieldLink RX3 28 "ShotBoard$Planner" "judge" "LShotBoard$Judge;") (by decide +kernel)) (.ref (a 4)) rfl dX3_refresh_115 ?_
                    refine lv_iload hx hb dX3_refresh_118 (lv_at hl 0 rfl) ?_
                    refine lv_aload_n hx hb dX3_refresh_120 rfl (lv_at hl 2 rfl) ?_
                    refine z_cVR (q0 := 4) (ci := 1) (As := [.int (iZ (vv 3 (cm))), .ref (a (19 + (bb).toNat))]) (rest := [.int (iZ (((bb) * (10)) + (cm))), .ref (a 15)]) S (m_X1_sideOfLesser l D g a (up (vv) 6 (bb) (vv 6 (bb))) (vv 3 (cm)) (bb) (by exact (k2.1.ic hI)) (by show 0 ≤ bb ∧ bb < vv 19 3; omega) (by rw [f3]; exact hI.c3 cm (by omega) (by omega))) (cwV 2 hts gX3_refresh_X1_sideOfLesser rfl rfl rfl (by decide +kernel) ⟨Nat.le_trans (by decide) hRf, Nat.le_trans (by decide) hRl⟩) hK hP rfl rfl rfl hl.1 rfl (Nat.le_of_ble_eq_true rfl) dX3_refresh_121 ⟨Nat.zero_le _, Nat.zero_le _⟩ ?_
                    have f121 := SDL_b st bb (st 3 cm)
                    refine z_as (y := SDL st bb (st 3 cm)) (by rw [f3]; exact SDL_eq (offv 0 (by omega) (by omega)) (offv 12 (by omega) (by omega)) (offv 13 (by omega) (by omega)) (offv 15 (by omega) (by omega)) _ _) ?_
                    refine lv_goto (tgt := 128) hx hb dX3_refresh_124 (by decide) ?_
                    refine z_iast hx hb hK hP hD hS 15 ((up (vv) 6 (bb) (vv 6 (bb))) 7) rfl (by omega) (by omega) (by omega) (WC g a (up (up (vv) 6 (bb) (vv 6 (bb))) 7 (((bb) * (10)) + (cm)) (SDL st bb (st 3 cm)))) rfl dX3_refresh_128 (fun H locs hP hD hS => ?_)
                    refine z_iinc (lv' := [(3, .int (iZ ((cm) + 1))), (4, .int (iZ (vv 3 (cm)))), (2, .ref (a (19 + (bb).toNat))), (1, .int (iZ (bb))), (0, .ref (a 5))]) hx hb dX3_refresh_129 hl (k := 1) rfl (by decide) rfl (fun ls hl => ?_)
                    refine lv_goto (tgt := 45) hx hb dX3_refresh_132 (by decide) ?_
                    exact ih45 ((cm) + 1) (up (up (vv) 6 (bb) (vv 6 (bb))) 7 (((bb) * (10)) + (cm)) (SDL st bb (st 3 cm))) (by omega) (by omega) (TBI_step k2 (by omega) (by omega) (by omega) hX hX2 hY (by omega)) _ _ hP hD hS ls (lv_sub hl [0, 2, 3, 4] rfl)
                · skip
                  have hX := sbt_1024 (x := vv 6 bb) (c := cm) (by omega) (by omega) (by omega) (by omega)
                  have hX2 : ∀ c, 0 ≤ c → (bt (sbt (vv 6 bb) cm) c ↔ (bt (vv 6 bb) c ∨ (c = cm ∧ WHYc st bb (st 3 cm) = 0))) := fun c a9 => by rw [sbt_bt c (by omega) a9]; exact or_congr Iff.rfl ⟨fun z => ⟨z, c12⟩, fun z => z.1⟩
                  refine z_iconst hx hb dX3_refresh_87 ?_
                  refine lv_iload_n hx hb dX3_refresh_88 rfl (lv_at hl 1 rfl) ?_
                  refine z_ishl hx hb dX3_refresh_89 ?_
                  refine lv_goto (tgt := 94) hx hb dX3_refresh_90 (by decide) ?_
                  refine z_ior hx hb dX3_refresh_94 ?_
                  refine z_as (y := sbt (vv 6 (bb)) (cm)) (sbt_zor (by omega) (by omega) (by omega) (by omega)) ?_
                  refine z_iast hx hb hK hP hD hS 14 (vv 6) rfl (by omega) (by omega) (by omega) (WC g a (up (vv) 6 (bb) (sbt (vv 6 (bb)) (cm)))) rfl dX3_refresh_95 (fun H locs hP hD hS => ?_)
                  refine lv_aload_n hx hb dX3_refresh_96 rfl (lv_at hl 4 rfl) ?_
                  refine z_get (C := RX3) (T := TX3) (N := 11) (ci := 2) hx hb hts iX3 hown hK hP 5 rfl rfl 4 (by decide) (hts (.fieldLink RX3 15 "ShotBoard$Planner" "sides" "[I") (by decide +kernel)) (.ref (a 15)) rfl dX3_refresh_97 ?_
                  refine lv_iload_n hx hb dX3_refresh_100 rfl (lv_at hl 3 rfl) ?_
                  refine z_bipush hx hb dX3_refresh_101 (by decide +kernel) ?_
                  refine z_imul hx hb dX3_refresh_103 ?_
                  refine lv_iload_n hx hb dX3_refresh_104 rfl (lv_at hl 1 rfl) ?_
                  refine z_iadd hx hb dX3_refresh_105 ?_
                  refine lv_aload_n hx hb dX3_refresh_106 rfl (lv_at hl 2 rfl) ?_
                  refine z_get (C := RX0) (T := TX0) (N := 8) (ci := 0) hx hb hts iX0 hown hK hP (19 + (bb).toNat) (WC_bd g a _ (by omega) (by omega)) rfl 0 (by decide) (hts (.fieldLink RX3 68 "ShotBoard$Board" "kind" "I") (by decide +kernel)) (.int (iZ ((up (vv) 6 (bb) (sbt (vv 6 (bb)) (cm))) 11 (bb)))) rfl dX3_refresh_107 ?_
                  refine z_as (y := vv 11 (bb)) (by simp [up, uf]) ?_
                  refine z_iconst hx hb dX3_refresh_110 ?_
                  refine z_icmp_ne (tgt := 127) hx hb (by omega) (by decide) dX3_refresh_111 (by decide) (fun c14 => ?_) (fun c14 => ?_)
                  · skip
                    have hY : (0 : Int) = SDX st bb cm := (if_neg (by rw [← f11c]; exact c14)).symm
                    refine z_iconst hx hb dX3_refresh_127 ?_
                    refine z_iast hx hb hK hP hD hS 15 ((up (vv) 6 (bb) (sbt (vv 6 (bb)) (cm))) 7) rfl (by omega) (by omega) (by omega) (WC g a (up (up (vv) 6 (bb) (sbt (vv 6 (bb)) (cm))) 7 (((bb) * (10)) + (cm)) (0))) rfl dX3_refresh_128 (fun H locs hP hD hS => ?_)
                    refine z_iinc (lv' := [(3, .int (iZ ((cm) + 1))), (4, .int (iZ (vv 3 (cm)))), (2, .ref (a (19 + (bb).toNat))), (1, .int (iZ (bb))), (0, .ref (a 5))]) hx hb dX3_refresh_129 hl (k := 1) rfl (by decide) rfl (fun ls hl => ?_)
                    refine lv_goto (tgt := 45) hx hb dX3_refresh_132 (by decide) ?_
                    exact ih45 ((cm) + 1) (up (up (vv) 6 (bb) (sbt (vv 6 (bb)) (cm))) 7 (((bb) * (10)) + (cm)) (0)) (by omega) (by omega) (TBI_step k2 (by omega) (by omega) (by omega) hX hX2 hY (by omega)) _ _ hP hD hS ls (lv_sub hl [0, 2, 3, 4] rfl)
                  · skip
                    have hY : SDL st bb (st 3 cm) = SDX st bb cm := (if_pos (by rw [← f11c]; exact c14)).symm
                    refine lv_aload_n hx hb dX3_refresh_114 rfl (lv_at hl 4 rfl) ?_
                    refine z_get (C := RX3) (T := TX3) (N := 11) (ci := 2) hx hb hts iX3 hown hK hP 5 rfl rfl 0 (by decide) (hts (.fieldLink RX3 28 "ShotBoard$Planner" "judge" "LShotBoard$Judge;") (by decide +kernel)) (.ref (a 4)) rfl dX3_refresh_115 ?_
                    refine lv_iload hx hb dX3_refresh_118 (lv_at hl 0 rfl) ?_
                    refine lv_aload_n hx hb dX3_refresh_120 rfl (lv_at hl 2 rfl) ?_
                    refine z_cVR (q0 := 4) (ci := 1) (As := [.int (iZ (vv 3 (cm))), .ref (a (19 + (bb).toNat))]) (rest := [.int (iZ (((bb) * (10)) + (cm))), .ref (a 15)]) S (m_X1_sideOfLesser l D g a (up (vv) 6 (bb) (sbt (vv 6 (bb)) (cm))) (vv 3 (cm)) (bb) (by exact (k2.1.ic hI)) (by show 0 ≤ bb ∧ bb < vv 19 3; omega) (by rw [f3]; exact hI.c3 cm (by omega) (by omega))) (cwV 2 hts gX3_refresh_X1_sideOfLesser rfl rfl rfl (by decide +kernel) ⟨Nat.le_trans (by decide) hRf, Nat.le_trans (by decide) hRl⟩) hK hP rfl rfl rfl hl.1 rfl (Nat.le_of_ble_eq_true rfl) dX3_refresh_121 ⟨Nat.zero_le _, Nat.zero_le _⟩ ?_
                    have f121 := SDL_b st bb (st 3 cm)
                    refine z_as (y := SDL st bb (st 3 cm)) (by rw [f3]; exact SDL_eq (offv 0 (by omega) (by omega)) (offv 12 (by omega) (by omega)) (offv 13 (by omega) (by omega)) (offv 15 (by omega) (by omega)) _ _) ?_
                    refine lv_goto (tgt := 128) hx hb dX3_refresh_124 (by decide) ?_
                    refine z_iast hx hb hK hP hD hS 15 ((up (vv) 6 (bb) (sbt (vv 6 (bb)) (cm))) 7) rfl (by omega) (by omega) (by omega) (WC g a (up (up (vv) 6 (bb) (sbt (vv 6 (bb)) (cm))) 7 (((bb) * (10)) + (cm)) (SDL st bb (st 3 cm)))) rfl dX3_refresh_128 (fun H locs hP hD hS => ?_)
                    refine z_iinc (lv' := [(3, .int (iZ ((cm) + 1))), (4, .int (iZ (vv 3 (cm)))), (2, .ref (a (19 + (bb).toNat))), (1, .int (iZ (bb))), (0, .ref (a 5))]) hx hb dX3_refresh_129 hl (k := 1) rfl (by decide) rfl (fun ls hl => ?_)
                    refine lv_goto (tgt := 45) hx hb dX3_refresh_132 (by decide) ?_
                    exact ih45 ((cm) + 1) (up (up (vv) 6 (bb) (sbt (vv 6 (bb)) (cm))) 7 (((bb) * (10)) + (cm)) (SDL st bb (st 3 cm))) (by omega) (by omega) (TBI_step k2 (by omega) (by omega) (by omega) hX hX2 hY (by omega)) _ _ hP hD hS ls (lv_sub hl [0, 2, 3, 4] rfl)
          exact LP45 ((st 19 2 - (0)) + 1 : Int).toNat (0) (up (uu) 6 (bb) (0)) (by omega) (by omega) (TBI_init j2) _ _ hP hD hS ls (lv_sub hl [0, 1, 2, 3] rfl)
    exact LP15 ((st 19 3 - (0)) + 1 : Int).toNat (0) (up (st) 21 (2) (1)) (by omega) (by omega) (TBO_init hQ) _ _ hP hD hS ls (lv_sub hl [0, 1] rfl)
  · skip
    have hkn := c1
    exact K (st) _ _ _ _ hP hS (Or.inl ⟨by omega, rfl⟩) dX3_refresh_7
