abbrev rX8_changes : Room := { frames := 0, cells := 0, slots := 0, locals := 0 }
set_option maxHeartbeats 4000000 in
set_option maxRecDepth 100000 in
theorem m_X8_changes (l : Launch) (D : va_G) (g : Nat → ClassId) (a : Nat → Nat) (st : SS) (se : Int) (la : Int) (hI : IM st) (h1 : 0 ≤ se ∧ se < 1024) (h2 : -1 ≤ la ∧ la < 4) : Met l yX8_changes wsX8_changes rX8_changes (PcR D g (WM g a st) [.ref (a 0), .int (iZ (se)), .int (iZ (la))]) (QcRead (iZ (CHS (st 8) (st 0 2) se la))) 0 0 (fun _ => False) := by
  refine metR (cc := cX8_changes) (maxL := 8) (ret := (some .int)) (own := RX8) (by decide) rfl rfl (Nat.le_of_ble_eq_true rfl) (Or.inl rfl) ?_
  intro p e R s m args below meth c Q ls S hRf hRl hK hP hl K
  have hx := S.1
  have hb := S.2.1
  have hown := S.2.2.2.1
  have hts := S.2.2.2.2
  have hRf : 0 ≤ R.frames := hRf
  have hRl : 0 ≤ R.locals := hRl
  have hl : lv_has ls 8 [(0, .ref (a 0)), (1, .int (iZ (se))), (2, .int (iZ (la)))] := hl
  have iX8 : ∀ w ∈ wsX80, w ∈ wsX8_changes := by decide +kernel
  have hB := hI.s
  refine z_iconst hx hb dX8_changes_0 ?_
  refine lv_istore_n (lv' := [(3, .int (iZ (0))), (0, .ref (a 0)), (1, .int (iZ (se))), (2, .int (iZ (la)))]) hx hb dX8_changes_1 rfl hl (by decide) rfl (fun ls hl => ?_)
  refine lv_iload_n hx hb dX8_changes_2 rfl (lv_at hl 3 rfl) ?_
  refine z_iconst hx hb dX8_changes_3 ?_
  refine z_icmp_ne (tgt := 11) hx hb (by omega) (by decide) dX8_changes_4 (by decide) (fun c1 => ?_) (fun c1 => ?_)
  · skip
    have hinit : (0 : Int) = b2 (HSL (st 8) (st 0 2) se la 0) := (b2_f (HSL_0 (by omega) c1)).symm
    refine z_iconst hx hb dX8_changes_11 ?_
    refine lv_istore (lv' := [(4, .int (iZ (0))), (3, .int (iZ (0))), (0, .ref (a 0)), (1, .int (iZ (se))), (2, .int (iZ (la)))]) hx hb dX8_changes_12 hl (by decide) rfl (fun ls hl => ?_)
    refine z_iconst hx hb dX8_changes_14 ?_
    refine lv_istore (lv' := [(5, .int (iZ (0))), (4, .int (iZ (0))), (3, .int (iZ (0))), (0, .ref (a 0)), (1, .int (iZ (se))), (2, .int (iZ (la)))]) hx hb dX8_changes_15 hl (by decide) rfl (fun ls hl => ?_)
    have LP17 : ∀ (n17 : Nat) (nn : Int) (hs : Int) (ll : Int), (4 - ll) < (n17 : Int) → (0 ≤ ll ∧ ll ≤ 4) → (0 ≤ nn ∧ nn ≤ ll) → (NLs (st 8) (st 0 2) se = nn + cP (fun l => HASL (st 8) (st 0 2) se l) (4 - ll).toNat ll) → (hs = b2 (HSL (st 8) (st 0 2) se la ll)) → ∀ (ls : Array Slot), lv_has ls 8 [(5, .int (iZ (ll))), (4, .int (iZ (hs))), (3, .int (iZ (nn))), (0, .ref (a 0)), (1, .int (iZ (se))), (2, .int (iZ (la)))] → W p l e R s m args below meth c s.heap [] 0 0 Q (F0 m 17 ls []) := by
      intro n17
      induction n17 with
      | zero =>
        intro nn hs ll hm17 j1 j0 j2 j3  ls hl
        exact absurd hm17 (by omega)
      | succ n17 ih17 =>
        intro nn hs ll hm17 j1 j0 j2 j3  ls hl
        have h3r : hs = 0 ∨ hs = 1 := by rw [j3]; exact b2_01 _
        refine lv_iload hx hb dX8_changes_17 (lv_at hl 0 rfl) ?_
        refine z_iconst hx hb dX8_changes_19 ?_
        refine z_icmp_ge (tgt := 120) hx hb (by omega) (by decide) dX8_changes_20 (by decide) (fun c2 => ?_) (fun c2 => ?_)
        · skip
          have hnn : NLs (st 8) (st 0 2) se = nn := by rw [j2, show (4 - ll).toNat = 0 by omega]; simp [cP]
          have hj3 : hs = b2 (la = -1 ∨ HASL (st 8) (st 0 2) se la) := by rw [j3]; exact b2_iff (HSL_4 (by omega))
          refine lv_iload_n hx hb dX8_changes_120 rfl (lv_at hl 2 rfl) ?_
          refine z_if_ne (tgt := 128) hx hb (by omega) dX8_changes_121 (by decide) (fun c3 => ?_) (fun c3 => ?_)
          · skip
            refine lv_iload hx hb dX8_changes_128 (lv_at hl 1 rfl) ?_
            refine z_if_eq (tgt := 139) hx hb (by omega) dX8_changes_130 (by decide) (fun c4 => ?_) (fun c4 => ?_)
            · skip
              refine lv_iload_n hx hb dX8_changes_139 rfl (lv_at hl 2 rfl) ?_
              exact K _ _ _ (by unfold CHS; rw [hnn, ← hj3]; first | rw [if_pos (by omega)] | rw [if_neg (by omega), if_pos (by omega)] | rw [if_neg (by omega), if_neg (by omega)]) dX8_changes_140
            · skip
              refine lv_iload_n hx hb dX8_changes_133 rfl (lv_at hl 2 rfl) ?_
              refine z_iconst hx hb dX8_changes_134 ?_
              refine z_isub hx hb dX8_changes_135 ?_
              refine lv_goto (tgt := 140) hx hb dX8_changes_136 (by decide) ?_
              exact K _ _ _ (by unfold CHS; rw [hnn, ← hj3]; first | rw [if_pos (by omega)] | rw [if_neg (by omega), if_pos (by omega)] | rw [if_neg (by omega), if_neg (by omega)]) dX8_changes_140
          · skip
            refine z_iconst hx hb dX8_changes_124 ?_
            refine lv_goto (tgt := 140) hx hb dX8_changes_125 (by decide) ?_
            exact K _ _ _ (by unfold CHS; rw [hnn, ← hj3]; first | rw [if_pos (by omega)] | rw [if_neg (by omega), if_pos (by omega)] | rw [if_neg (by omega), if_neg (by omega)]) dX8_changes_140
        · skip
          refine z_iconst hx hb dX8_changes_23 ?_
          refine lv_istore (lv' := [(6, .int (iZ (0))), (5, .int (iZ (ll))), (4, .int (iZ (hs))), (3, .int (iZ (nn))), (0, .ref (a 0)), (1, .int (iZ (se))), (2, .int (iZ (la)))]) hx hb dX8_changes_24 hl (by decide) rfl (fun ls hl => ?_)
          refine z_iconst hx hb dX8_changes_26 ?_
          refine lv_istore (lv' := [(7, .int (iZ (0))), (6, .int (iZ (0))), (5, .int (iZ (ll))), (4, .int (iZ (hs))), (3, .int (iZ (nn))), (0, .ref (a 0)), (1, .int (iZ (se))), (2, .int (iZ (la)))]) hx hb dX8_changes_27 hl (by decide) rfl (fun ls hl => ?_)
          have LP29 : ∀ (n29 : Nat) (is : Int) (cm : Int), (st 0 2 - cm) < (n29 : Int) → (0 ≤ cm ∧ cm ≤ st 0 2) → (is = b2 (EXL (st 8) se ll cm)) → ∀ (ls : Array Slot), lv_has ls 8 [(7, .int (iZ (cm))), (6, .int (iZ (is))), (5, .int (iZ (ll))), (4, .int (iZ (hs))), (3, .int (iZ (nn))), (0, .ref (a 0)), (1, .int (iZ (se))), (2, .int (iZ (la)))] → W p l e R s m args below meth c s.heap [] 0 0 Q (F0 m 29 ls []) := by
            intro n29
            induction n29 with
            | zero =>
              intro is cm hm29 k1 k2  ls hl
              exact absurd hm29 (by omega)
            | succ n29 ih29 =>
              intro is cm hm29 k1 k2  ls hl
              have k01 : is = 0 ∨ is = 1 := by rw [k2]; exact b2_01 _
              refine lv_iload hx hb dX8_changes_29 (lv_at hl 0 rfl) ?_
              refine lv_aload_n hx hb dX8_changes_31 rfl (lv_at hl 5 rfl) ?_
              refine z_get (C := RX8) (T := TX8) (N := 26) (ci := 7) hx hb hts iX8 hown hK hP 0 rfl rfl 8 (by decide) (hts (.fieldLink RX8 79 "ShotBoardModel" "cameras" "I") (by decide +kernel)) (.int (iZ (st 0 (2)))) rfl dX8_changes_32 ?_
              refine z_icmp_ge (tgt := 78) hx hb (by omega) (by omega) dX8_changes_35 (by decide) (fun c5 => ?_) (fun c5 => ?_)
              · skip
                have hcm9 : cm = st 0 2 := by omega
                rw [hcm9] at k2
                have k2h : is = b2 (HASL (st 8) (st 0 2) se ll) := k2
                refine lv_iload_n hx hb dX8_changes_78 rfl (lv_at hl 4 rfl) ?_
                refine lv_iload hx hb dX8_changes_79 (lv_at hl 1 rfl) ?_
                refine z_if_eq (tgt := 88) hx hb (by omega) dX8_changes_81 (by decide) (fun c6 => ?_) (fun c6 => ?_)
                · skip
                  have hisv : b2 (HASL (st 8) (st 0 2) se ll) = 0 := by rw [← k2h]; exact c6
                  refine z_iconst hx hb dX8_changes_88 ?_
                  refine z_iadd hx hb dX8_changes_89 ?_
                  refine lv_istore_n (lv' := [(3, .int (iZ ((nn) + (0)))), (7, .int (iZ (cm))), (6, .int (iZ (is))), (5, .int (iZ (ll))), (4, .int (iZ (hs))), (0, .ref (a 0)), (1, .int (iZ (se))), (2, .int (iZ (la)))]) hx hb dX8_changes_90 rfl hl (by decide) rfl (fun ls hl => ?_)
                  refine lv_iload hx hb dX8_changes_91 (lv_at hl 4 rfl) ?_
                  refine z_if_ne (tgt := 107) hx hb (by omega) dX8_changes_93 (by decide) (fun c7 => ?_) (fun c7 => ?_)
                  · skip
                    have hho : HSL (st 8) (st 0 2) se la ll := b2_1 (by omega)
                    have hhs : (1 : Int) = b2 (HSL (st 8) (st 0 2) se la (ll + 1)) := (b2_t (HSL_old hho)).symm
                    refine z_iconst hx hb dX8_changes_107 ?_
                    refine lv_goto (tgt := 112) hx hb dX8_changes_108 (by decide) ?_
                    refine lv_istore (lv' := [(4, .int (iZ (1))), (3, .int (iZ ((nn) + (0)))), (7, .int (iZ (cm))), (6, .int (iZ (is))), (5, .int (iZ (ll))), (0, .ref (a 0)), (1, .int (iZ (se))), (2, .int (iZ (la)))]) hx hb dX8_changes_112 hl (by decide) rfl (fun ls hl => ?_)
                    refine z_iinc (lv' := [(5, .int (iZ ((ll) + 1))), (4, .int (iZ (1))), (3, .int (iZ ((nn) + (0)))), (7, .int (iZ (cm))), (6, .int (iZ (is))), (0, .ref (a 0)), (1, .int (iZ (se))), (2, .int (iZ (la)))]) hx hb dX8_changes_114 hl (k := 4) rfl (by decide) rfl (fun ls hl => ?_)
                    refine lv_goto (tgt := 17) hx hb dX8_changes_117 (by decide) ?_
                    have hcs : cP (fun l => HASL (st 8) (st 0 2) se l) (4 - ll).toNat ll = b2 (HASL (st 8) (st 0 2) se ll) + cP (fun l => HASL (st 8) (st 0 2) se l) (4 - (ll + 1)).toNat (ll + 1) := by rw [show (4 - ll).toNat = (4 - (ll + 1)).toNat + 1 by omega, cP_s]
                    rw [hisv] at hcs
                    exact ih17 ((nn) + (0)) (1) ((ll) + 1) (by omega) (by omega) (by omega) (by rw [j2, hcs]; omega) (hhs)  ls (lv_sub hl [0, 1, 2, 5, 6, 7] rfl)
                  · skip
                    have hn0 : ¬ HSL (st 8) (st 0 2) se la ll := b2_0 (by omega)
                    refine lv_iload hx hb dX8_changes_96 (lv_at hl 2 rfl) ?_
                    refine z_if_eq (tgt := 111) hx hb (by omega) dX8_changes_98 (by decide) (fun c8 => ?_) (fun c8 => ?_)
                    · skip
                      have hni : ¬ HASL (st 8) (st 0 2) se ll := b2_0 (by omega)
                      have hhs : (0 : Int) = b2 (HSL (st 8) (st 0 2) se la (ll + 1)) := (b2_f (HSL_no hn0 (fun z => hni z.1))).symm
                      refine z_iconst hx hb dX8_changes_111 ?_
                      refine lv_istore (lv' := [(4, .int (iZ (0))), (3, .int (iZ ((nn) + (0)))), (7, .int (iZ (cm))), (6, .int (iZ (is))), (5, .int (iZ (ll))), (0, .ref (a 0)), (1, .int (iZ (se))), (2, .int (iZ (la)))]) hx hb dX8_changes_112 hl (by decide) rfl (fun ls hl => ?_)
                      refine z_iinc (lv' := [(5, .int (iZ ((ll) + 1))), (4, .int (iZ (0))), (3, .int (iZ ((nn) + (0)))), (7, .int (iZ (cm))), (6, .int (iZ (is))), (0, .ref (a 0)), (1, .int (iZ (se))), (2, .int (iZ (la)))]) hx hb dX8_changes_114 hl (k := 4) rfl (by decide) rfl (fun ls hl => ?_)
                      refine lv_goto (tgt := 17) hx hb dX8_changes_117 (by decide) ?_
                      have hcs : cP (fun l => HASL (st 8) (st 0 2) se l) (4 - ll).toNat ll = b2 (HASL (st 8) (st 0 2) se ll) + cP (fun l => HASL (st 8) (st 0 2) se l) (4 - (ll + 1)).toNat (ll + 1) := by rw [show (4 - ll).toNat = (4 - (ll + 1)).toNat + 1 by omega, cP_s]
                      rw [hisv] at hcs
                      exact ih17 ((nn) + (0)) (0) ((ll) + 1) (by omega) (by omega) (by omega) (by rw [j2, hcs]; omega) (hhs)  ls (lv_sub hl [0, 1, 2, 5, 6, 7] rfl)
                    · skip
                      have hyi : HASL (st 8) (st 0 2) se ll := b2_1 (by omega)
                      refine lv_iload hx hb dX8_changes_101 (lv_at hl 3 rfl) ?_
                      refine lv_iload_n hx hb dX8_changes_103 rfl (lv_at hl 7 rfl) ?_
                      refine z_icmp_ne (tgt := 111) hx hb (by omega) (by omega) dX8_changes_104 (by decide) (fun c9 => ?_) (fun c9 => ?_)
                      · skip
                        have hhs : (0 : Int) = b2 (HSL (st 8) (st 0 2) se la (ll + 1)) := (b2_f (HSL_no hn0 (fun z => c9 z.2))).symm
                        refine z_iconst hx hb dX8_changes_111 ?_
                        refine lv_istore (lv' := [(4, .int (iZ (0))), (3, .int (iZ ((nn) + (0)))), (7, .int (iZ (cm))), (6, .int (iZ (is))), (5, .int (iZ (ll))), (0, .ref (a 0)), (1, .int (iZ (se))), (2, .int (iZ (la)))]) hx hb dX8_changes_112 hl (by decide) rfl (fun ls hl => ?_)
                        refine z_iinc (lv' := [(5, .int (iZ ((ll) + 1))), (4, .int (iZ (0))), (3, .int (iZ ((nn) + (0)))), (7, .int (iZ (cm))), (6, .int (iZ (is))), (0, .ref (a 0)), (1, .int (iZ (se))), (2, .int (iZ (la)))]) hx hb dX8_changes_114 hl (k := 4) rfl (by decide) rfl (fun ls hl => ?_)
                        refine lv_goto (tgt := 17) hx hb dX8_changes_117 (by decide) ?_
                        have hcs : cP (fun l => HASL (st 8) (st 0 2) se l) (4 - ll).toNat ll = b2 (HASL (st 8) (st 0 2) se ll) + cP (fun l => HASL (st 8) (st 0 2) se l) (4 - (ll + 1)).toNat (ll + 1) := by rw [show (4 - ll).toNat = (4 - (ll + 1)).toNat + 1 by omega, cP_s]
                        rw [hisv] at hcs
                        exact ih17 ((nn) + (0)) (0) ((ll) + 1) (by omega) (by omega) (by omega) (by rw [j2, hcs]; omega) (hhs)  ls (lv_sub hl [0, 1, 2, 5, 6, 7] rfl)
                      · skip
                        have hhs : (1 : Int) = b2 (HSL (st 8) (st 0 2) se la (ll + 1)) := (b2_t (HSL_new hyi c9)).symm
                        refine z_iconst hx hb dX8_changes_107 ?_
                        refine lv_goto (tgt := 112) hx hb dX8_changes_108 (by decide) ?_
                        refine lv_istore (lv' := [(4, .int (iZ (1))), (3, .int (iZ ((nn) + (0)))), (7, .int (iZ (cm))), (6, .int (iZ (is))), (5, .int (iZ (ll))), (0, .ref (a 0)), (1, .int (iZ (se))), (2, .int (iZ (la)))]) hx hb dX8_changes_112 hl (by decide) rfl (fun ls hl => ?_)
                        refine z_iinc (lv' := [(5, .int (iZ ((ll) + 1))), (4, .int (iZ (1))), (3, .int (iZ ((nn) + (0)))), (7, .int (iZ (cm))), (6, .int (iZ (is))), (0, .ref (a 0)), (1, .int (iZ (se))), (2, .int (iZ (la)))]) hx hb dX8_changes_114 hl (k := 4) rfl (by decide) rfl (fun ls hl => ?_)
                        refine lv_goto (tgt := 17) hx hb dX8_changes_117 (by decide) ?_
                        have hcs : cP (fun l => HASL (st 8) (st 0 2) se l) (4 - ll).toNat ll = b2 (HASL (st 8) (st 0 2) se ll) + cP (fun l => HASL (st 8) (st 0 2) se l) (4 - (ll + 1)).toNat (ll + 1) := by rw [show (4 - ll).toNat = (4 - (ll + 1)).toNat + 1 by omega, cP_s]
                        rw [hisv] at hcs
                        exact ih17 ((nn) + (0)) (1) ((ll) + 1) (by omega) (by omega) (by omega) (by rw [j2, hcs]; omega) (hhs)  ls (lv_sub hl [0, 1, 2, 5, 6, 7] rfl)
                · skip
                  have hisv : b2 (HASL (st 8) (st 0 2) se ll) = 1 := by rw [← k2h]; omega
                  refine z_iconst hx hb dX8_changes_84 ?_
                  refine lv_goto (tgt := 89) hx hb dX8_changes_85 (by decide) ?_
                  refine z_iadd hx hb dX8_changes_89 ?_
                  refine lv_istore_n (lv' := [(3, .int (iZ ((nn) + (1)))), (7, .int (iZ (cm))), (6, .int (iZ (is))), (5, .int (iZ (ll))), (4, .int (iZ (hs))), (0, .ref (a 0)), (1, .int (iZ (se))), (2, .int (iZ (la)))]) hx hb dX8_changes_90 rfl hl (by decide) rfl (fun ls hl => ?_)
                  refine lv_iload hx hb dX8_changes_91 (lv_at hl 4 rfl) ?_
                  refine z_if_ne (tgt := 107) hx hb (by omega) dX8_changes_93 (by decide) (fun c10 => ?_) (fun c10 => ?_)
                  · skip
                    have hho : HSL (st 8) (st 0 2) se la ll := b2_1 (by omega)
                    have hhs : (1 : Int) = b2 (HSL (st 8) (st 0 2) se la (ll + 1)) := (b2_t (HSL_old hho)).symm
                    refine z_iconst hx hb dX8_changes_107 ?_
                    refine lv_goto (tgt := 112) hx hb dX8_changes_108 (by decide) ?_
                    refine lv_istore (lv' := [(4, .int (iZ (1))), (3, .int (iZ ((nn) + (1)))), (7, .int (iZ (cm))), (6, .int (iZ (is))), (5, .int (iZ (ll))), (0, .ref (a 0)), (1, .int (iZ (se))), (2, .int (iZ (la)))]) hx hb dX8_changes_112 hl (by decide) rfl (fun ls hl => ?_)
                    refine z_iinc (lv' := [(5, .int (iZ ((ll) + 1))), (4, .int (iZ (1))), (3, .int (iZ ((nn) + (1)))), (7, .int (iZ (cm))), (6, .int (iZ (is))), (0, .ref (a 0)), (1, .int (iZ (se))), (2, .int (iZ (la)))]) hx hb dX8_changes_114 hl (k := 4) rfl (by decide) rfl (fun ls hl => ?_)
                    refine lv_goto (tgt := 17) hx hb dX8_changes_117 (by decide) ?_
                    have hcs : cP (fun l => HASL (st 8) (st 0 2) se l) (4 - ll).toNat ll = b2 (HASL (st 8) (st 0 2) se ll) + cP (fun l => HASL (st 8) (st 0 2) se l) (4 - (ll + 1)).toNat (ll + 1) := by rw [show (4 - ll).toNat = (4 - (ll + 1)).toNat + 1 by omega, cP_s]
                    rw [hisv] at hcs
                    exact ih17 ((nn) + (1)) (1) ((ll) + 1) (by omega) (by omega) (by omega) (by rw [j2, hcs]; omega) (hhs)  ls (lv_sub hl [0, 1, 2, 5, 6, 7] rfl)
                  · skip
                    have hn0 : ¬ HSL (st 8) (st 0 2) se la ll := b2_0 (by omega)
                    refine lv_iload hx hb dX8_changes_96 (lv_at hl 2 rfl) ?_
                    refine z_if_eq (tgt := 111) hx hb (by omega) dX8_changes_98 (by decide) (fun c11 => ?_) (fun c11 => ?_)
                    · skip
                      have hni : ¬ HASL (st 8) (st 0 2) se ll := b2_0 (by omega)
                      have hhs : (0 : Int) = b2 (HSL (st 8) (st 0 2) se la (ll + 1)) := (b2_f (HSL_no hn0 (fun z => hni z.1))).symm
                      refine z_iconst hx hb dX8_changes_111 ?_
                      refine lv_istore (lv' := [(4, .int (iZ (0))), (3, .int (iZ ((nn) + (1)))), (7, .int (iZ (cm))), (6, .int (iZ (is))), (5, .int (iZ (ll))), (0, .ref (a 0)), (1, .int (iZ (se))), (2, .int (iZ (la)))]) hx hb dX8_changes_112 hl (by decide) rfl (fun ls hl => ?_)
                      refine z_iinc (lv' := [(5, .int (iZ ((ll) + 1))), (4, .int (iZ (0))), (3, .int (iZ ((nn) + (1)))), (7, .int (iZ (cm))), (6, .int (iZ (is))), (0, .ref (a 0)), (1, .int (iZ (se))), (2, .int (iZ (la)))]) hx hb dX8_changes_114 hl (k := 4) rfl (by decide) rfl (fun ls hl => ?_)
                      refine lv_goto (tgt := 17) hx hb dX8_changes_117 (by decide) ?_
                      have hcs : cP (fun l => HASL (st 8) (st 0 2) se l) (4 - ll).toNat ll = b2 (HASL (st 8) (st 0 2) se ll) + cP (fun l => HASL (st 8) (st 0 2) se l) (4 - (ll + 1)).toNat (ll + 1) := by rw [show (4 - ll).toNat = (4 - (ll + 1)).toNat + 1 by omega, cP_s]
                      rw [hisv] at hcs
                      exact ih17 ((nn) + (1)) (0) ((ll) + 1) (by omega) (by omega) (by omega) (by rw [j2, hcs]; omega) (hhs)  ls (lv_sub hl [0, 1, 2, 5, 6, 7] rfl)
                    · skip
                      have hyi : HASL (st 8) (st 0 2) se ll := b2_1 (by omega)
                      refine lv_iload hx hb dX8_changes_101 (lv_at hl 3 rfl) ?_
                      refine lv_iload_n hx hb dX8_changes_103 rfl (lv_at hl 7 rfl) ?_
                      refine z_icmp_ne (tgt := 111) hx hb (by omega) (by omega) dX8_changes_104 (by decide) (fun c12 => ?_) (fun c12 => ?_)
                      · skip
                        have hhs : (0 : Int) = b2 (HSL (st 8) (st 0 2) se la (ll + 1)) := (b2_f (HSL_no hn0 (fun z => c12 z.2))).symm
                        refine z_iconst hx hb dX8_changes_111 ?_
                        refine lv_istore (lv' := [(4, .int (iZ (0))), (3, .int (iZ ((nn) + (1)))), (7, .int (iZ (cm))), (6, .int (iZ (is))), (5, .int (iZ (ll))), (0, .ref (a 0)), (1, .int (iZ (se))), (2, .int (iZ (la)))]) hx hb dX8_changes_112 hl (by decide) rfl (fun ls hl => ?_)
                        refine z_iinc (lv' := [(5, .int (iZ ((ll) + 1))), (4, .int (iZ (0))), (3, .int (iZ ((nn) + (1)))), (7, .int (iZ (cm))), (6, .int (iZ (is))), (0, .ref (a 0)), (1, .int (iZ (se))), (2, .int (iZ (la)))]) hx hb dX8_changes_114 hl (k := 4) rfl (by decide) rfl (fun ls hl => ?_)
                        refine lv_goto (tgt := 17) hx hb dX8_changes_117 (by decide) ?_
                        have hcs : cP (fun l => HASL (st 8) (st 0 2) se l) (4 - ll).toNat ll = b2 (HASL (st 8) (st 0 2) se ll) + cP (fun l => HASL (st 8) (st 0 2) se l) (4 - (ll + 1)).toNat (ll + 1) := by rw [show (4 - ll).toNat = (4 - (ll + 1)).toNat + 1 by omega, cP_s]
                        rw [hisv] at hcs
                        exact ih17 ((nn) + (1)) (0) ((ll) + 1) (by omega) (by omega) (by omega) (by rw [j2, hcs]; omega) (hhs)  ls (lv_sub hl [0, 1, 2, 5, 6, 7] rfl)
                      · skip
                        have hhs : (1 : Int) = b2 (HSL (st 8) (st 0 2) se la (ll + 1)) := (b2_t (HSL_new hyi c12)).symm
                        refine z_iconst hx hb dX8_changes_107 ?_
                        refine lv_goto (tgt := 112) hx hb dX8_changes_108 (by decide) ?_
                        refine lv_istore (lv' := [(4, .int (iZ (1))), (3, .int (iZ ((nn) + (1)))), (7, .int (iZ (cm))), (6, .int (iZ (is))), (5, .int (iZ (ll))), (0, .ref (a 0)), (1, .int (iZ (se))), (2, .int (iZ (la)))]) hx hb dX8_changes_112 hl (by decide) rfl (fun ls hl => ?_)
                        refine z_iinc (lv' := [(5, .int (iZ ((ll) + 1))), (4, .int (iZ (1))), (3, .int (iZ ((nn) + (1)))), (7, .int (iZ (cm))), (6, .int (iZ (is))), (0, .ref (a 0)), (1, .int (iZ (se))), (2, .int (iZ (la)))]) hx hb dX8_changes_114 hl (k := 4) rfl (by decide) rfl (fun ls hl => ?_)
                        refine lv_goto (tgt := 17) hx hb dX8_changes_117 (by decide) ?_
                        have hcs : cP (fun l => HASL (st 8) (st 0 2) se l) (4 - ll).toNat ll = b2 (HASL (st 8) (st 0 2) se ll) + cP (fun l => HASL (st 8) (st 0 2) se l) (4 - (ll + 1)).toNat (ll + 1) := by rw [show (4 - ll).toNat = (4 - (ll + 1)).toNat + 1 by omega, cP_s]
                        rw [hisv] at hcs
                        exact ih17 ((nn) + (1)) (1) ((ll) + 1) (by omega) (by omega) (by omega) (by rw [j2, hcs]; omega) (hhs)  ls (lv_sub hl [0, 1, 2, 5, 6, 7] rfl)
              · skip
                refine lv_iload hx hb dX8_changes_38 (lv_at hl 1 rfl) ?_
                refine z_if_ne (tgt := 65) hx hb (by omega) dX8_changes_40 (by decide) (fun c13 => ?_) (fun c13 => ?_)
                · skip
                  have hex : EXL (st 8) se ll cm := b2_1 (by omega)
                  have hiv : (1 : Int) = b2 (EXL (st 8) se ll (cm + 1)) := (b2_t (EXL_old hex)).symm
                  refine z_iconst hx hb dX8_changes_65 ?_
                  refine lv_goto (tgt := 70) hx hb dX8_changes_66 (by decide) ?_
                  refine lv_istore (lv' := [(6, .int (iZ (1))), (7, .int (iZ (cm))), (5, .int (iZ (ll))), (4, .int (iZ (hs))), (3, .int (iZ (nn))), (0, .ref (a 0)), (1, .int (iZ (se))), (2, .int (iZ (la)))]) hx hb dX8_changes_70 hl (by decide) rfl (fun ls hl => ?_)
                  refine z_iinc (lv' := [(7, .int (iZ ((cm) + 1))), (6, .int (iZ (1))), (5, .int (iZ (ll))), (4, .int (iZ (hs))), (3, .int (iZ (nn))), (0, .ref (a 0)), (1, .int (iZ (se))), (2, .int (iZ (la)))]) hx hb dX8_changes_72 hl (k := 1) rfl (by decide) rfl (fun ls hl => ?_)
                  refine lv_goto (tgt := 29) hx hb dX8_changes_75 (by decide) ?_
                  exact ih29 (1) ((cm) + 1) (by omega) (by omega) (hiv)  ls (lv_sub hl [0, 1, 2, 3, 4, 5, 6, 7] rfl)
                · skip
                  have hnoc : ¬ EXL (st 8) se ll cm := b2_0 (by omega)
                  refine lv_iload_n hx hb dX8_changes_43 rfl (lv_at hl 6 rfl) ?_
                  refine lv_iload hx hb dX8_changes_44 (lv_at hl 0 rfl) ?_
                  refine z_ishr hx hb dX8_changes_46 ?_
                  refine z_iconst hx hb dX8_changes_47 ?_
                  refine z_iand hx hb dX8_changes_48 ?_
                  refine z_as (y := b2 (bt se cm)) (bit_z (by omega) (by omega) (by omega) (by omega)) ?_
                  refine z_iconst hx hb dX8_changes_49 ?_
                  refine z_icmp_ne (tgt := 69) hx hb (b2_rg _) (by decide) dX8_changes_50 (by decide) (fun c14 => ?_) (fun c14 => ?_)
                  · skip
                    have c14 := b2_n1 c14
                    have hiv : (0 : Int) = b2 (EXL (st 8) se ll (cm + 1)) := (b2_f (EXL_no hnoc (fun z => c14 z.1))).symm
                    refine z_iconst hx hb dX8_changes_69 ?_
                    refine lv_istore (lv' := [(6, .int (iZ (0))), (7, .int (iZ (cm))), (5, .int (iZ (ll))), (4, .int (iZ (hs))), (3, .int (iZ (nn))), (0, .ref (a 0)), (1, .int (iZ (se))), (2, .int (iZ (la)))]) hx hb dX8_changes_70 hl (by decide) rfl (fun ls hl => ?_)
                    refine z_iinc (lv' := [(7, .int (iZ ((cm) + 1))), (6, .int (iZ (0))), (5, .int (iZ (ll))), (4, .int (iZ (hs))), (3, .int (iZ (nn))), (0, .ref (a 0)), (1, .int (iZ (se))), (2, .int (iZ (la)))]) hx hb dX8_changes_72 hl (k := 1) rfl (by decide) rfl (fun ls hl => ?_)
                    refine lv_goto (tgt := 29) hx hb dX8_changes_75 (by decide) ?_
                    exact ih29 (0) ((cm) + 1) (by omega) (by omega) (hiv)  ls (lv_sub hl [0, 1, 2, 3, 4, 5, 6, 7] rfl)
                  · skip
                    have c14 := b2_1 c14
                    have hb5 := c14
                    refine lv_aload_n hx hb dX8_changes_53 rfl (lv_at hl 5 rfl) ?_
                    refine z_get (C := RX8) (T := TX8) (N := 26) (ci := 7) hx hb hts iX8 hown hK hP 0 rfl rfl 10 (by decide) (hts (.fieldLink RX8 31 "ShotBoardModel" "light" "[I") (by decide +kernel)) (.ref (a 8)) rfl dX8_changes_54 ?_
                    refine lv_iload hx hb dX8_changes_57 (lv_at hl 0 rfl) ?_
                    refine z_iald hx hb hK hP 8 (st 8) rfl (by omega) (by omega) (by omega) dX8_changes_59 ?_
                    have f15 := hI.c8 (cm) (by omega) (by omega)
                    refine lv_iload hx hb dX8_changes_60 (lv_at hl 2 rfl) ?_
                    refine z_icmp_ne (tgt := 69) hx hb (by omega) (by omega) dX8_changes_62 (by decide) (fun c16 => ?_) (fun c16 => ?_)
                    · skip
                      have hiv : (0 : Int) = b2 (EXL (st 8) se ll (cm + 1)) := (b2_f (EXL_no hnoc (fun z => c16 z.2))).symm
                      refine z_iconst hx hb dX8_changes_69 ?_
                      refine lv_istore (lv' := [(6, .int (iZ (0))), (7, .int (iZ (cm))), (5, .int (iZ (ll))), (4, .int (iZ (hs))), (3, .int (iZ (nn))), (0, .ref (a 0)), (1, .int (iZ (se))), (2, .int (iZ (la)))]) hx hb dX8_changes_70 hl (by decide) rfl (fun ls hl => ?_)
                      refine z_iinc (lv' := [(7, .int (iZ ((cm) + 1))), (6, .int (iZ (0))), (5, .int (iZ (ll))), (4, .int (iZ (hs))), (3, .int (iZ (nn))), (0, .ref (a 0)), (1, .int (iZ (se))), (2, .int (iZ (la)))]) hx hb dX8_changes_72 hl (k := 1) rfl (by decide) rfl (fun ls hl => ?_)
                      refine lv_goto (tgt := 29) hx hb dX8_changes_75 (by decide) ?_
                      exact ih29 (0) ((cm) + 1) (by omega) (by omega) (hiv)  ls (lv_sub hl [0, 1, 2, 3, 4, 5, 6, 7] rfl)
                    · skip
                      have hiv : (1 : Int) = b2 (EXL (st 8) se ll (cm + 1)) := (b2_t (EXL_new (by omega) hb5 c16)).symm
                      refine z_iconst hx hb dX8_changes_65 ?_
                      refine lv_goto (tgt := 70) hx hb dX8_changes_66 (by decide) ?_
                      refine lv_istore (lv' := [(6, .int (iZ (1))), (7, .int (iZ (cm))), (5, .int (iZ (ll))), (4, .int (iZ (hs))), (3, .int (iZ (nn))), (0, .ref (a 0)), (1, .int (iZ (se))), (2, .int (iZ (la)))]) hx hb dX8_changes_70 hl (by decide) rfl (fun ls hl => ?_)
                      refine z_iinc (lv' := [(7, .int (iZ ((cm) + 1))), (6, .int (iZ (1))), (5, .int (iZ (ll))), (4, .int (iZ (hs))), (3, .int (iZ (nn))), (0, .ref (a 0)), (1, .int (iZ (se))), (2, .int (iZ (la)))]) hx hb dX8_changes_72 hl (k := 1) rfl (by decide) rfl (fun ls hl => ?_)
                      refine lv_goto (tgt := 29) hx hb dX8_changes_75 (by decide) ?_
                      exact ih29 (1) ((cm) + 1) (by omega) (by omega) (hiv)  ls (lv_sub hl [0, 1, 2, 3, 4, 5, 6, 7] rfl)
          exact LP29 ((st 0 2 - (0)) + 1 : Int).toNat (0) (0) (by omega) (by omega) ((b2_f (EXL_0 _ _ _)).symm)  ls (lv_sub hl [0, 1, 2, 3, 4, 5, 6, 7] rfl)
    exact LP17 ((4 - (0)) + 1 : Int).toNat (0) (0) (0) (by omega) (by omega) (by omega) (by simp [NLs]) (hinit)  ls (lv_sub hl [0, 1, 2, 3, 4, 5] rfl)
  · skip
    have hinit : (1 : Int) = b2 (HSL (st 8) (st 0 2) se la 0) := (b2_t (Or.inl c1)).symm
    refine z_iconst hx hb dX8_changes_7 ?_
    refine lv_goto (tgt := 12) hx hb dX8_changes_8 (by decide) ?_
    refine lv_istore (lv' := [(4, .int (iZ (1))), (3, .int (iZ (0))), (0, .ref (a 0)), (1, .int (iZ (se))), (2, .int (iZ (la)))]) hx hb dX8_changes_12 hl (by decide) rfl (fun ls hl => ?_)
    refine z_iconst hx hb dX8_changes_14 ?_
    refine lv_istore (lv' := [(5, .int (iZ (0))), (4, .int (iZ (1))), (3, .int (iZ (0))), (0, .ref (a 0)), (1, .int (iZ (se))), (2, .int (iZ (la)))]) hx hb dX8_changes_15 hl (by decide) rfl (fun ls hl => ?_)
    have LP17 : ∀ (n17 : Nat) (nn : Int) (hs : Int) (ll : Int), (4 - ll) < (n17 : Int) → (0 ≤ ll ∧ ll ≤ 4) → (0 ≤ nn ∧ nn ≤ ll) → (NLs (st 8) (st 0 2) se = nn + cP (fun l => HASL (st 8) (st 0 2) se l) (4 - ll).toNat ll) → (hs = b2 (HSL (st 8) (st 0 2) se la ll)) → ∀ (ls : Array Slot), lv_has ls 8 [(5, .int (iZ (ll))), (4, .int (iZ (hs))), (3, .int (iZ (nn))), (0, .ref (a 0)), (1, .int (iZ (se))), (2, .int (iZ (la)))] → W p l e R s m args below meth c s.heap [] 0 0 Q (F0 m 17 ls []) := by
      intro n17
      induction n17 with
      | zero =>
        intro nn hs ll hm17 j1 j0 j2 j3  ls hl
        exact absurd hm17 (by omega)
      | succ n17 ih17 =>
        intro nn hs ll hm17 j1 j0 j2 j3  ls hl
        have h3r : hs = 0 ∨ hs = 1 := by rw [j3]; exact b2_01 _
        refine lv_iload hx hb dX8_changes_17 (lv_at hl 0 rfl) ?_
        refine z_iconst hx hb dX8_changes_19 ?_
        refine z_icmp_ge (tgt := 120) hx hb (by omega) (by decide) dX8_changes_20 (by decide) (fun c17 => ?_) (fun c17 => ?_)
        · skip
          have hnn : NLs (st 8) (st 0 2) se = nn := by rw [j2, show (4 - ll).toNat = 0 by omega]; simp [cP]
          have hj3 : hs = b2 (la = -1 ∨ HASL (st 8) (st 0 2) se la) := by rw [j3]; exact b2_iff (HSL_4 (by omega))
          refine lv_iload_n hx hb dX8_changes_120 rfl (lv_at hl 2 rfl) ?_
          refine z_if_ne (tgt := 128) hx hb (by omega) dX8_changes_121 (by decide) (fun c18 => ?_) (fun c18 => ?_)
          · skip
            refine lv_iload hx hb dX8_changes_128 (lv_at hl 1 rfl) ?_
            refine z_if_eq (tgt := 139) hx hb (by omega) dX8_changes_130 (by decide) (fun c19 => ?_) (fun c19 => ?_)
            · skip
              refine lv_iload_n hx hb dX8_changes_139 rfl (lv_at hl 2 rfl) ?_
              exact K _ _ _ (by unfold CHS; rw [hnn, ← hj3]; first | rw [if_pos (by omega)] | rw [if_neg (by omega), if_pos (by omega)] | rw [if_neg (by omega), if_neg (by omega)]) dX8_changes_140
            · skip
              refine lv_iload_n hx hb dX8_changes_133 rfl (lv_at hl 2 rfl) ?_
              refine z_iconst hx hb dX8_changes_134 ?_
              refine z_isub hx hb dX8_changes_135 ?_
              refine lv_goto (tgt := 140) hx hb dX8_changes_136 (by decide) ?_
              exact K _ _ _ (by unfold CHS; rw [hnn, ← hj3]; first | rw [if_pos (by omega)] | rw [if_neg (by omega), if_pos (by omega)] | rw [if_neg (by omega), if_neg (by omega)]) dX8_changes_140
          · skip
            refine z_iconst hx hb dX8_changes_124 ?_
            refine lv_goto (tgt := 140) hx hb dX8_changes_125 (by decide) ?_
            exact K _ _ _ (by unfold CHS; rw [hnn, ← hj3]; first | rw [if_pos (by omega)] | rw [if_neg (by omega), if_pos (by omega)] | rw [if_neg (by omega), if_neg (by omega)]) dX8_changes_140
        · skip
          refine z_iconst hx hb dX8_changes_23 ?_
          refine lv_istore (lv' := [(6, .int (iZ (0))), (5, .int (iZ (ll))), (4, .int (iZ (hs))), (3, .int (iZ (nn))), (0, .ref (a 0)), (1, .int (iZ (se))), (2, .int (iZ (la)))]) hx hb dX8_changes_24 hl (by decide) rfl (fun ls hl => ?_)
          refine z_iconst hx hb dX8_changes_26 ?_
          refine lv_istore (lv' := [(7, .int (iZ (0))), (6, .int (iZ (0))), (5, .int (iZ (ll))), (4, .int (iZ (hs))), (3, .int (iZ (nn))), (0, .ref (a 0)), (1, .int (iZ (se))), (2, .int (iZ (la)))]) hx hb dX8_changes_27 hl (by decide) rfl (fun ls hl => ?_)
          have LP29 : ∀ (n29 : Nat) (is : Int) (cm : Int), (st 0 2 - cm) < (n29 : Int) → (0 ≤ cm ∧ cm ≤ st 0 2) → (is = b2 (EXL (st 8) se ll cm)) → ∀ (ls : Array Slot), lv_has ls 8 [(7, .int (iZ (cm))), (6, .int (iZ (is))), (5, .int (iZ (ll))), (4, .int (iZ (hs))), (3, .int (iZ (nn))), (0, .ref (a 0)), (1, .int (iZ (se))), (2, .int (iZ (la)))] → W p l e R s m args below meth c s.heap [] 0 0 Q (F0 m 29 ls []) := by
            intro n29
            induction n29 with
            | zero =>
              intro is cm hm29 k1 k2  ls hl
              exact absurd hm29 (by omega)
            | succ n29 ih29 =>
              intro is cm hm29 k1 k2  ls hl
              have k01 : is = 0 ∨ is = 1 := by rw [k2]; exact b2_01 _
              refine lv_iload hx hb dX8_changes_29 (lv_at hl 0 rfl) ?_
              refine lv_aload_n hx hb dX8_changes_31 rfl (lv_at hl 5 rfl) ?_
              refine z_get (C := RX8) (T := TX8) (N := 26) (ci := 7) hx hb hts iX8 hown hK hP 0 rfl rfl 8 (by decide) (hts (.fieldLink RX8 79 "ShotBoardModel" "cameras" "I") (by decide +kernel)) (.int (iZ (st 0 (2)))) rfl dX8_changes_32 ?_
              refine z_icmp_ge (tgt := 78) hx hb (by omega) (by omega) dX8_changes_35 (by decide) (fun c20 => ?_) (fun c20 => ?_)
              · skip
                have hcm9 : cm = st 0 2 := by omega
                rw [hcm9] at k2
                have k2h : is = b2 (HASL (st 8) (st 0 2) se ll) := k2
                refine lv_iload_n hx hb dX8_changes_78 rfl (lv_at hl 4 rfl) ?_
                refine lv_iload hx hb dX8_changes_79 (lv_at hl 1 rfl) ?_
                refine z_if_eq (tgt := 88) hx hb (by omega) dX8_changes_81 (by decide) (fun c21 => ?_) (fun c21 => ?_)
                · skip
                  have hisv : b2 (HASL (st 8) (st 0 2) se ll) = 0 := by rw [← k2h]; exact c21
                  refine z_iconst hx hb dX8_changes_88 ?_
                  refine z_iadd hx hb dX8_changes_89 ?_
                  refine lv_istore_n (lv' := [(3, .int (iZ ((nn) + (0)))), (7, .int (iZ (cm))), (6, .int (iZ (is))), (5, .int (iZ (ll))), (4, .int (iZ (hs))), (0, .ref (a 0)), (1, .int (iZ (se))), (2, .int (iZ (la)))]) hx hb dX8_changes_90 rfl hl (by decide) rfl (fun ls hl => ?_)
                  refine lv_iload hx hb dX8_changes_91 (lv_at hl 4 rfl) ?_
                  refine z_if_ne (tgt := 107) hx hb (by omega) dX8_changes_93 (by decide) (fun c22 => ?_) (fun c22 => ?_)
                  · skip
                    have hho : HSL (st 8) (st 0 2) se la ll := b2_1 (by omega)
                    have hhs : (1 : Int) = b2 (HSL (st 8) (st 0 2) se la (ll + 1)) := (b2_t (HSL_old hho)).symm
                    refine z_iconst hx hb dX8_changes_107 ?_
                    refine lv_goto (tgt := 112) hx hb dX8_changes_108 (by decide) ?_
                    refine lv_istore (lv' := [(4, .int (iZ (1))), (3, .int (iZ ((nn) + (0)))), (7, .int (iZ (cm))), (6, .int (iZ (is))), (5, .int (iZ (ll))), (0, .ref (a 0)), (1, .int (iZ (se))), (2, .int (iZ (la)))]) hx hb dX8_changes_112 hl (by decide) rfl (fun ls hl => ?_)
                    refine z_iinc (lv' := [(5, .int (iZ ((ll) + 1))), (4, .int (iZ (1))), (3, .int (iZ ((nn) + (0)))), (7, .int (iZ (cm))), (6, .int (iZ (is))), (0, .ref (a 0)), (1, .int (iZ (se))), (2, .int (iZ (la)))]) hx hb dX8_changes_114 hl (k := 4) rfl (by decide) rfl (fun ls hl => ?_)
                    refine lv_goto (tgt := 17) hx hb dX8_changes_117 (by decide) ?_
                    have hcs : cP (fun l => HASL (st 8) (st 0 2) se l) (4 - ll).toNat ll = b2 (HASL (st 8) (st 0 2) se ll) + cP (fun l => HASL (st 8) (st 0 2) se l) (4 - (ll + 1)).toNat (ll + 1) := by rw [show (4 - ll).toNat = (4 - (ll + 1)).toNat + 1 by omega, cP_s]
                    rw [hisv] at hcs
                    exact ih17 ((nn) + (0)) (1) ((ll) + 1) (by omega) (by omega) (by omega) (by rw [j2, hcs]; omega) (hhs)  ls (lv_sub hl [0, 1, 2, 5, 6, 7] rfl)
                  · skip
                    have hn0 : ¬ HSL (st 8) (st 0 2) se la ll := b2_0 (by omega)
                    refine lv_iload hx hb dX8_changes_96 (lv_at hl 2 rfl) ?_
                    refine z_if_eq (tgt := 111) hx hb (by omega) dX8_changes_98 (by decide) (fun c23 => ?_) (fun c23 => ?_)
                    · skip
                      have hni : ¬ HASL (st 8) (st 0 2) se ll := b2_0 (by omega)
                      have hhs : (0 : Int) = b2 (HSL (st 8) (st 0 2) se la (ll + 1)) := (b2_f (HSL_no hn0 (fun z => hni z.1))).symm
                      refine z_iconst hx hb dX8_changes_111 ?_
                      refine lv_istore (lv' := [(4, .int (iZ (0))), (3, .int (iZ ((nn) + (0)))), (7, .int (iZ (cm))), (6, .int (iZ (is))), (5, .int (iZ (ll))), (0, .ref (a 0)), (1, .int (iZ (se))), (2, .int (iZ (la)))]) hx hb dX8_changes_112 hl (by decide) rfl (fun ls hl => ?_)
                      refine z_iinc (lv' := [(5, .int (iZ ((ll) + 1))), (4, .int (iZ (0))), (3, .int (iZ ((nn) + (0)))), (7, .int (iZ (cm))), (6, .int (iZ (is))), (0, .ref (a 0)), (1, .int (iZ (se))), (2, .int (iZ (la)))]) hx hb dX8_changes_114 hl (k := 4) rfl (by decide) rfl (fun ls hl => ?_)
                      refine lv_goto (tgt := 17) hx hb dX8_changes_117 (by decide) ?_
                      have hcs : cP (fun l => HASL (st 8) (st 0 2) se l) (4 - ll).toNat ll = b2 (HASL (st 8) (st 0 2) se ll) + cP (fun l => HASL (st 8) (st 0 2) se l) (4 - (ll + 1)).toNat (ll + 1) := by rw [show (4 - ll).toNat = (4 - (ll + 1)).toNat + 1 by omega, cP_s]
                      rw [hisv] at hcs
                      exact ih17 ((nn) + (0)) (0) ((ll) + 1) (by omega) (by omega) (by omega) (by rw [j2, hcs]; omega) (hhs)  ls (lv_sub hl [0, 1, 2, 5, 6, 7] rfl)
                    · skip
                      have hyi : HASL (st 8) (st 0 2) se ll := b2_1 (by omega)
                      refine lv_iload hx hb dX8_changes_101 (lv_at hl 3 rfl) ?_
                      refine lv_iload_n hx hb dX8_changes_103 rfl (lv_at hl 7 rfl) ?_
                      refine z_icmp_ne (tgt := 111) hx hb (by omega) (by omega) dX8_changes_104 (by decide) (fun c24 => ?_) (fun c24 => ?_)
                      · skip
                        have hhs : (0 : Int) = b2 (HSL (st 8) (st 0 2) se la (ll + 1)) := (b2_f (HSL_no hn0 (fun z => c24 z.2))).symm
                        refine z_iconst hx hb dX8_changes_111 ?_
                        refine lv_istore (lv' := [(4, .int (iZ (0))), (3, .int (iZ ((nn) + (0)))), (7, .int (iZ (cm))), (6, .int (iZ (is))), (5, .int (iZ (ll))), (0, .ref (a 0)), (1, .int (iZ (se))), (2, .int (iZ (la)))]) hx hb dX8_changes_112 hl (by decide) rfl (fun ls hl => ?_)
                        refine z_iinc (lv' := [(5, .int (iZ ((ll) + 1))), (4, .int (iZ (0))), (3, .int (iZ ((nn) + (0)))), (7, .int (iZ (cm))), (6, .int (iZ (is))), (0, .ref (a 0)), (1, .int (iZ (se))), (2, .int (iZ (la)))]) hx hb dX8_changes_114 hl (k := 4) rfl (by decide) rfl (fun ls hl => ?_)
                        refine lv_goto (tgt := 17) hx hb dX8_changes_117 (by decide) ?_
                        have hcs : cP (fun l => HASL (st 8) (st 0 2) se l) (4 - ll).toNat ll = b2 (HASL (st 8) (st 0 2) se ll) + cP (fun l => HASL (st 8) (st 0 2) se l) (4 - (ll + 1)).toNat (ll + 1) := by rw [show (4 - ll).toNat = (4 - (ll + 1)).toNat + 1 by omega, cP_s]
                        rw [hisv] at hcs
                        exact ih17 ((nn) + (0)) (0) ((ll) + 1) (by omega) (by omega) (by omega) (by rw [j2, hcs]; omega) (hhs)  ls (lv_sub hl [0, 1, 2, 5, 6, 7] rfl)
                      · skip
                        have hhs : (1 : Int) = b2 (HSL (st 8) (st 0 2) se la (ll + 1)) := (b2_t (HSL_new hyi c24)).symm
                        refine z_iconst hx hb dX8_changes_107 ?_
                        refine lv_goto (tgt := 112) hx hb dX8_changes_108 (by decide) ?_
                        refine lv_istore (lv' := [(4, .int (iZ (1))), (3, .int (iZ ((nn) + (0)))), (7, .int (iZ (cm))), (6, .int (iZ (is))), (5, .int (iZ (ll))), (0, .ref (a 0)), (1, .int (iZ (se))), (2, .int (iZ (la)))]) hx hb dX8_changes_112 hl (by decide) rfl (fun ls hl => ?_)
                        refine z_iinc (lv' := [(5, .int (iZ ((ll) + 1))), (4, .int (iZ (1))), (3, .int (iZ ((nn) + (0)))), (7, .int (iZ (cm))), (6, .int (iZ (is))), (0, .ref (a 0)), (1, .int (iZ (se))), (2, .int (iZ (la)))]) hx hb dX8_changes_114 hl (k := 4) rfl (by decide) rfl (fun ls hl => ?_)
                        refine lv_goto (tgt := 17) hx hb dX8_changes_117 (by decide) ?_
                        have hcs : cP (fun l => HASL (st 8) (st 0 2) se l) (4 - ll).toNat ll = b2 (HASL (st 8) (st 0 2) se ll) + cP (fun l => HASL (st 8) (st 0 2) se l) (4 - (ll + 1)).toNat (ll + 1) := by rw [show (4 - ll).toNat = (4 - (ll + 1)).toNat + 1 by omega, cP_s]
                        rw [hisv] at hcs
                        exact ih17 ((nn) + (0)) (1) ((ll) + 1) (by omega) (by omega) (by omega) (by rw [j2, hcs]; omega) (hhs)  ls (lv_sub hl [0, 1, 2, 5, 6, 7] rfl)
                · skip
                  have hisv : b2 (HASL (st 8) (st 0 2) se ll) = 1 := by rw [← k2h]; omega
                  refine z_iconst hx hb dX8_changes_84 ?_
                  refine lv_goto (tgt := 89) hx hb dX8_changes_85 (by decide) ?_
                  refine z_iadd hx hb dX8_changes_89 ?_
                  refine lv_istore_n (lv' := [(3, .int (iZ ((nn) + (1)))), (7, .int (iZ (cm))), (6, .int (iZ (is))), (5, .int (iZ (ll))), (4, .int (iZ (hs))), (0, .ref (a 0)), (1, .int (iZ (se))), (2, .int (iZ (la)))]) hx hb dX8_changes_90 rfl hl (by decide) rfl (fun ls hl => ?_)
                  refine lv_iload hx hb dX8_changes_91 (lv_at hl 4 rfl) ?_
                  refine z_if_ne (tgt := 107) hx hb (by omega) dX8_changes_93 (by decide) (fun c25 => ?_) (fun c25 => ?_)
                  · skip
                    have hho : HSL (st 8) (st 0 2) se la ll := b2_1 (by omega)
                    have hhs : (1 : Int) = b2 (HSL (st 8) (st 0 2) se la (ll + 1)) := (b2_t (HSL_old hho)).symm
                    refine z_iconst hx hb dX8_changes_107 ?_
                    refine lv_goto (tgt := 112) hx hb dX8_changes_108 (by decide) ?_
                    refine lv_istore (lv' := [(4, .int (iZ (1))), (3, .int (iZ ((nn) + (1)))), (7, .int (iZ (cm))), (6, .int (iZ (is))), (5, .int (iZ (ll))), (0, .ref (a 0)), (1, .int (iZ (se))), (2, .int (iZ (la)))]) hx hb dX8_changes_112 hl (by decide) rfl (fun ls hl => ?_)
                    refine z_iinc (lv' := [(5, .int (iZ ((ll) + 1))), (4, .int (iZ (1))), (3, .int (iZ ((nn) + (1)))), (7, .int (iZ (cm))), (6, .int (iZ (is))), (0, .ref (a 0)), (1, .int (iZ (se))), (2, .int (iZ (la)))]) hx hb dX8_changes_114 hl (k := 4) rfl (by decide) rfl (fun ls hl => ?_)
                    refine lv_goto (tgt := 17) hx hb dX8_changes_117 (by decide) ?_
                    have hcs : cP (fun l => HASL (st 8) (st 0 2) se l) (4 - ll).toNat ll = b2 (HASL (st 8) (st 0 2) se ll) + cP (fun l => HASL (st 8) (st 0 2) se l) (4 - (ll + 1)).toNat (ll + 1) := by rw [show (4 - ll).toNat = (4 - (ll + 1)).toNat + 1 by omega, cP_s]
                    rw [hisv] at hcs
                    exact ih17 ((nn) + (1)) (1) ((ll) + 1) (by omega) (by omega) (by omega) (by rw [j2, hcs]; omega) (hhs)  ls (lv_sub hl [0, 1, 2, 5, 6, 7] rfl)
                  · skip
                    have hn0 : ¬ HSL (st 8) (st 0 2) se la ll := b2_0 (by omega)
                    refine lv_iload hx hb dX8_changes_96 (lv_at hl 2 rfl) ?_
                    refine z_if_eq (tgt := 111) hx hb (by omega) dX8_changes_98 (by decide) (fun c26 => ?_) (fun c26 => ?_)
                    · skip
                      have hni : ¬ HASL (st 8) (st 0 2) se ll := b2_0 (by omega)
                      have hhs : (0 : Int) = b2 (HSL (st 8) (st 0 2) se la (ll + 1)) := (b2_f (HSL_no hn0 (fun z => hni z.1))).symm
                      refine z_iconst hx hb dX8_changes_111 ?_
                      refine lv_istore (lv' := [(4, .int (iZ (0))), (3, .int (iZ ((nn) + (1)))), (7, .int (iZ (cm))), (6, .int (iZ (is))), (5, .int (iZ (ll))), (0, .ref (a 0)), (1, .int (iZ (se))), (2, .int (iZ (la)))]) hx hb dX8_changes_112 hl (by decide) rfl (fun ls hl => ?_)
                      refine z_iinc (lv' := [(5, .int (iZ ((ll) + 1))), (4, .int (iZ (0))), (3, .int (iZ ((nn) + (1)))), (7, .int (iZ (cm))), (6, .int (iZ (is))), (0, .ref (a 0)), (1, .int (iZ (se))), (2, .int (iZ (la)))]) hx hb dX8_changes_114 hl (k := 4) rfl (by decide) rfl (fun ls hl => ?_)
                      refine lv_goto (tgt := 17) hx hb dX8_changes_117 (by decide) ?_
                      have hcs : cP (fun l => HASL (st 8) (st 0 2) se l) (4 - ll).toNat ll = b2 (HASL (st 8) (st 0 2) se ll) + cP (fun l => HASL (st 8) (st 0 2) se l) (4 - (ll + 1)).toNat (ll + 1) := by rw [show (4 - ll).toNat = (4 - (ll + 1)).toNat + 1 by omega, cP_s]
                      rw [hisv] at hcs
                      exact ih17 ((nn) + (1)) (0) ((ll) + 1) (by omega) (by omega) (by omega) (by rw [j2, hcs]; omega) (hhs)  ls (lv_sub hl [0, 1, 2, 5, 6, 7] rfl)
                    · skip
                      have hyi : HASL (st 8) (st 0 2) se ll := b2_1 (by omega)
                      refine lv_iload hx hb dX8_changes_101 (lv_at hl 3 rfl) ?_
                      refine lv_iload_n hx hb dX8_changes_103 rfl (lv_at hl 7 rfl) ?_
                      refine z_icmp_ne (tgt := 111) hx hb (by omega) (by omega) dX8_changes_104 (by decide) (fun c27 => ?_) (fun c27 => ?_)
                      · skip
                        have hhs : (0 : Int) = b2 (HSL (st 8) (st 0 2) se la (ll + 1)) := (b2_f (HSL_no hn0 (fun z => c27 z.2))).symm
                        refine z_iconst hx hb dX8_changes_111 ?_
                        refine lv_istore (lv' := [(4, .int (iZ (0))), (3, .int (iZ ((nn) + (1)))), (7, .int (iZ (cm))), (6, .int (iZ (is))), (5, .int (iZ (ll))), (0, .ref (a 0)), (1, .int (iZ (se))), (2, .int (iZ (la)))]) hx hb dX8_changes_112 hl (by decide) rfl (fun ls hl => ?_)
                        refine z_iinc (lv' := [(5, .int (iZ ((ll) + 1))), (4, .int (iZ (0))), (3, .int (iZ ((nn) + (1)))), (7, .int (iZ (cm))), (6, .int (iZ (is))), (0, .ref (a 0)), (1, .int (iZ (se))), (2, .int (iZ (la)))]) hx hb dX8_changes_114 hl (k := 4) rfl (by decide) rfl (fun ls hl => ?_)
                        refine lv_goto (tgt := 17) hx hb dX8_changes_117 (by decide) ?_
                        have hcs : cP (fun l => HASL (st 8) (st 0 2) se l) (4 - ll).toNat ll = b2 (HASL (st 8) (st 0 2) se ll) + cP (fun l => HASL (st 8) (st 0 2) se l) (4 - (ll + 1)).toNat (ll + 1) := by rw [show (4 - ll).toNat = (4 - (ll + 1)).toNat + 1 by omega, cP_s]
                        rw [hisv] at hcs
                        exact ih17 ((nn) + (1)) (0) ((ll) + 1) (by omega) (by omega) (by omega) (by rw [j2, hcs]; omega) (hhs)  ls (lv_sub hl [0, 1, 2, 5, 6, 7] rfl)
                      · skip
                        have hhs : (1 : Int) = b2 (HSL (st 8) (st 0 2) se la (ll + 1)) := (b2_t (HSL_new hyi c27)).symm
                        refine z_iconst hx hb dX8_changes_107 ?_
                        refine lv_goto (tgt := 112) hx hb dX8_changes_108 (by decide) ?_
                        refine lv_istore (lv' := [(4, .int (iZ (1))), (3, .int (iZ ((nn) + (1)))), (7, .int (iZ (cm))), (6, .int (iZ (is))), (5, .int (iZ (ll))), (0, .ref (a 0)), (1, .int (iZ (se))), (2, .int (iZ (la)))]) hx hb dX8_changes_112 hl (by decide) rfl (fun ls hl => ?_)
                        refine z_iinc (lv' := [(5, .int (iZ ((ll) + 1))), (4, .int (iZ (1))), (3, .int (iZ ((nn) + (1)))), (7, .int (iZ (cm))), (6, .int (iZ (is))), (0, .ref (a 0)), (1, .int (iZ (se))), (2, .int (iZ (la)))]) hx hb dX8_changes_114 hl (k := 4) rfl (by decide) rfl (fun ls hl => ?_)
                        refine lv_goto (tgt := 17) hx hb dX8_changes_117 (by decide) ?_
                        have hcs : cP (fun l => HASL (st 8) (st 0 2) se l) (4 - ll).toNat ll = b2 (HASL (st 8) (st 0 2) se ll) + cP (fun l => HASL (st 8) (st 0 2) se l) (4 - (ll + 1)).toNat (ll + 1) := by rw [show (4 - ll).toNat = (4 - (ll + 1)).toNat + 1 by omega, cP_s]
                        rw [hisv] at hcs
                        exact ih17 ((nn) + (1)) (1) ((ll) + 1) (by omega) (by omega) (by omega) (by rw [j2, hcs]; omega) (hhs)  ls (lv_sub hl [0, 1, 2, 5, 6, 7] rfl)
              · skip
                refine lv_iload hx hb dX8_changes_38 (lv_at hl 1 rfl) ?_
                refine z_if_ne (tgt := 65) hx hb (by omega) dX8_changes_40 (by decide) (fun c28 => ?_) (fun c28 => ?_)
                · skip
                  have hex : EXL (st 8) se ll cm := b2_1 (by omega)
                  have hiv : (1 : Int) = b2 (EXL (st 8) se ll (cm + 1)) := (b2_t (EXL_old hex)).symm
                  refine z_iconst hx hb dX8_changes_65 ?_
                  refine lv_goto (tgt := 70) hx hb dX8_changes_66 (by decide) ?_
                  refine lv_istore (lv' := [(6, .int (iZ (1))), (7, .int (iZ (cm))), (5, .int (iZ (ll))), (4, .int (iZ (hs))), (3, .int (iZ (nn))), (0, .ref (a 0)), (1, .int (iZ (se))), (2, .int (iZ (la)))]) hx hb dX8_changes_70 hl (by decide) rfl (fun ls hl => ?_)
                  refine z_iinc (lv' := [(7, .int (iZ ((cm) + 1))), (6, .int (iZ (1))), (5, .int (iZ (ll))), (4, .int (iZ (hs))), (3, .int (iZ (nn))), (0, .ref (a 0)), (1, .int (iZ (se))), (2, .int (iZ (la)))]) hx hb dX8_changes_72 hl (k := 1) rfl (by decide) rfl (fun ls hl => ?_)
                  refine lv_goto (tgt := 29) hx hb dX8_changes_75 (by decide) ?_
                  exact ih29 (1) ((cm) + 1) (by omega) (by omega) (hiv)  ls (lv_sub hl [0, 1, 2, 3, 4, 5, 6, 7] rfl)
                · skip
                  have hnoc : ¬ EXL (st 8) se ll cm := b2_0 (by omega)
                  refine lv_iload_n hx hb dX8_changes_43 rfl (lv_at hl 6 rfl) ?_
                  refine lv_iload hx hb dX8_changes_44 (lv_at hl 0 rfl) ?_
                  refine z_ishr hx hb dX8_changes_46 ?_
                  refine z_iconst hx hb dX8_changes_47 ?_
                  refine z_iand hx hb dX8_changes_48 ?_
                  refine z_as (y := b2 (bt se cm)) (bit_z (by omega) (by omega) (by omega) (by omega)) ?_
                  refine z_iconst hx hb dX8_changes_49 ?_
                  refine z_icmp_ne (tgt := 69) hx hb (b2_rg _) (by decide) dX8_changes_50 (by decide) (fun c29 => ?_) (fun c29 => ?_)
                  · skip
                    have c29 := b2_n1 c29
                    have hiv : (0 : Int) = b2 (EXL (st 8) se ll (cm + 1)) := (b2_f (EXL_no hnoc (fun z => c29 z.1))).symm
                    refine z_iconst hx hb dX8_changes_69 ?_
                    refine lv_istore (lv' := [(6, .int (iZ (0))), (7, .int (iZ (cm))), (5, .int (iZ (ll))), (4, .int (iZ (hs))), (3, .int (iZ (nn))), (0, .ref (a 0)), (1, .int (iZ (se))), (2, .int (iZ (la)))]) hx hb dX8_changes_70 hl (by decide) rfl (fun ls hl => ?_)
                    refine z_iinc (lv' := [(7, .int (iZ ((cm) + 1))), (6, .int (iZ (0))), (5, .int (iZ (ll))), (4, .int (iZ (hs))), (3, .int (iZ (nn))), (0, .ref (a 0)), (1, .int (iZ (se))), (2, .int (iZ (la)))]) hx hb dX8_changes_72 hl (k := 1) rfl (by decide) rfl (fun ls hl => ?_)
                    refine lv_goto (tgt := 29) hx hb dX8_changes_75 (by decide) ?_
                    exact ih29 (0) ((cm) + 1) (by omega) (by omega) (hiv)  ls (lv_sub hl [0, 1, 2, 3, 4, 5, 6, 7] rfl)
                  · skip
                    have c29 := b2_1 c29
                    have hb5 := c29
                    refine lv_aload_n hx hb dX8_changes_53 rfl (lv_at hl 5 rfl) ?_
                    refine z_get (C := RX8) (T := TX8) (N := 26) (ci := 7) hx hb hts iX8 hown hK hP 0 rfl rfl 10 (by decide) (hts (.fieldLink RX8 31 "ShotBoardModel" "light" "[I") (by decide +kernel)) (.ref (a 8)) rfl dX8_changes_54 ?_
                    refine lv_iload hx hb dX8_changes_57 (lv_at hl 0 rfl) ?_
                    refine z_iald hx hb hK hP 8 (st 8) rfl (by omega) (by omega) (by omega) dX8_changes_59 ?_
                    have f30 := hI.c8 (cm) (by omega) (by omega)
                    refine lv_iload hx hb dX8_changes_60 (lv_at hl 2 rfl) ?_
                    refine z_icmp_ne (tgt := 69) hx hb (by omega) (by omega) dX8_changes_62 (by decide) (fun c31 => ?_) (fun c31 => ?_)
                    · skip
                      have hiv : (0 : Int) = b2 (EXL (st 8) se ll (cm + 1)) := (b2_f (EXL_no hnoc (fun z => c31 z.2))).symm
                      refine z_iconst hx hb dX8_changes_69 ?_
                      refine lv_istore (lv' := [(6, .int (iZ (0))), (7, .int (iZ (cm))), (5, .int (iZ (ll))), (4, .int (iZ (hs))), (3, .int (iZ (nn))), (0, .ref (a 0)), (1, .int (iZ (se))), (2, .int (iZ (la)))]) hx hb dX8_changes_70 hl (by decide) rfl (fun ls hl => ?_)
                      refine z_iinc (lv' := [(7, .int (iZ ((cm) + 1))), (6, .int (iZ (0))), (5, .int (iZ (ll))), (4, .int (iZ (hs))), (3, .int (iZ (nn))), (0, .ref (a 0)), (1, .int (iZ (se))), (2, .int (iZ (la)))]) hx hb dX8_changes_72 hl (k := 1) rfl (by decide) rfl (fun ls hl => ?_)
                      refine lv_goto (tgt := 29) hx hb dX8_changes_75 (by decide) ?_
                      exact ih29 (0) ((cm) + 1) (by omega) (by omega) (hiv)  ls (lv_sub hl [0, 1, 2, 3, 4, 5, 6, 7] rfl)
                    · skip
                      have hiv : (1 : Int) = b2 (EXL (st 8) se ll (cm + 1)) := (b2_t (EXL_new (by omega) hb5 c31)).symm
                      refine z_iconst hx hb dX8_changes_65 ?_
                      refine lv_goto (tgt := 70) hx hb dX8_changes_66 (by decide) ?_
                      refine lv_istore (lv' := [(6, .int (iZ (1))), (7, .int (iZ (cm))), (5, .int (iZ (ll))), (4, .int (iZ (hs))), (3, .int (iZ (nn))), (0, .ref (a 0)), (1, .int (iZ (se))), (2, .int (iZ (la)))]) hx hb dX8_changes_70 hl (by decide) rfl (fun ls hl => ?_)
                      refine z_iinc (lv' := [(7, .int (iZ ((cm) + 1))), (6, .int (iZ (1))), (5, .int (iZ (ll))), (4, .int (iZ (hs))), (3, .int (iZ (nn))), (0, .ref (a 0)), (1, .int (iZ (se))), (2, .int (iZ (la)))]) hx hb dX8_changes_72 hl (k := 1) rfl (by decide) rfl (fun ls hl => ?_)
                      refine lv_goto (tgt := 29) hx hb dX8_changes_75 (by decide) ?_
                      exact ih29 (1) ((cm) + 1) (by omega) (by omega) (hiv)  ls (lv_sub hl [0, 1, 2, 3, 4, 5, 6, 7] rfl)
          exact LP29 ((st 0 2 - (0)) + 1 : Int).toNat (0) (0) (by omega) (by omega) ((b2_f (EXL_0 _ _ _)).symm)  ls (lv_sub hl [0, 1, 2, 3, 4, 5, 6, 7] rfl)
    exact LP17 ((4 - (0)) + 1 : Int).toNat (0) (1) (0) (by omega) (by omega) (by omega) (by simp [NLs]) (hinit)  ls (lv_sub hl [0, 1, 2, 3, 4, 5] rfl)
