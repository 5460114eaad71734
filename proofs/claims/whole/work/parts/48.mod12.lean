abbrev rX8_order : Room := { frames := 8, cells := 0, slots := 0, locals := 188 }
set_option maxHeartbeats 4000000 in
set_option maxRecDepth 100000 in
theorem m_X8_order (l : Launch) (D : va_G) (g : Nat → ClassId) (a : Nat → Nat) (st : SS) (xx : Int) (hI : IM st) (hQ : IS st) (hx0 : rg xx) : Met l yX8_order wsX8_order rX8_order (PcM D g (AWM a) (WM g a st) [.ref (a 0), .int (iZ (xx))]) (QcI D (WM g a) (AWM a) (fun r u => ∃ n, FND st n u ∧ ((¬ inP n xx ∧ r = -1) ∨ (inP n xx ∧ r = nxg (u 8) (u 0 2) (SQg (u 8) (u 0 2) (u 20 0) xx.toNat).1 (SQg (u 8) (u 0 2) (u 20 0) xx.toNat).2)))) 0 0 (AWM a) := by
  refine metI (cc := cX8_order) (maxL := 8) (ret := (some .int)) (own := RX8) (by decide) rfl rfl (Nat.le_of_ble_eq_true rfl) (Or.inl rfl) ?_
  intro p e R s m args below meth c Q ls S hRf hRl hK hP hD hS hl K
  have hx := S.1
  have hb := S.2.1
  have hown := S.2.2.2.1
  have hts := S.2.2.2.2
  have hRf : 8 ≤ R.frames := hRf
  have hRl : 188 ≤ R.locals := hRl
  have hl : lv_has ls 8 [(0, .ref (a 0)), (1, .int (iZ (xx)))] := hl
  have iX8 : ∀ w ∈ wsX80, w ∈ wsX8_order := by decide +kernel
  have hB := hI.s
  refine lv_aload_n hx hb dX8_order_0 rfl (lv_at hl 0 rfl) ?_
  refine z_cVI (q0 := 0) (ci := 7) (As := []) (rest := []) S (m_X8_finds l D g a (st) hI hQ) (cwV 0 hts gX8_order_X8_finds rfl rfl rfl (by decide +kernel) ⟨Nat.le_trans (by decide) hRf, Nat.le_trans (by decide) hRl⟩) hK hP hD hS (fun _ h => h) rfl rfl rfl hl.1 rfl (Nat.le_of_ble_eq_true rfl) dX8_order_1 ⟨Nat.zero_le _, Nat.zero_le _⟩ (fun r3 u1 H locs P2 hP hS _ => ?_)
  have hD : va_D (AWM a) (WM g a u1) := DWM hD
  have hf := P2
  have hfr : -5 ≤ r3 ∧ r3 ≤ 10 := by rcases hf.2.2.2 with z | z <;> have h9 := hI.s <;> omega
  have hQ2 := hf.2.1
  have hI2 : IM u1 := IM_pl hI hf.1
  have hu0 : u1 0 = st 0 := hf.1 0 (by decide)
  have hu02 := congrFun hu0 2
  have hB2 := hI2.s
  refine lv_istore_n (lv' := [(2, .int (iZ (r3))), (0, .ref (a 0)), (1, .int (iZ (xx)))]) hx hb dX8_order_4 rfl hl (by decide) rfl (fun ls hl => ?_)
  refine lv_iload_n hx hb dX8_order_5 rfl (lv_at hl 2 rfl) ?_
  refine z_iconst hx hb dX8_order_6 ?_
  refine lv_iload_n hx hb dX8_order_7 rfl (lv_at hl 0 rfl) ?_
  refine z_iconst hx hb dX8_order_8 ?_
  refine z_isub hx hb dX8_order_9 ?_
  refine z_cSS (As := [.int (iZ (xx)), .int (iZ (0)), .int (iZ ((r3) - (1)))]) (rest := []) S (m_X8_in l (xx) (0) ((r3) - (1)) (by omega) (by omega) (by omega)) (va_cwS 3 hts gX8_order_X8_in rfl rfl rfl (by decide +kernel) ⟨Nat.le_trans (by decide) hRf, Nat.le_trans (by decide) hRl⟩) rfl hl.1 rfl (Nat.le_of_ble_eq_true rfl) dX8_order_10 ⟨Nat.zero_le _, Nat.zero_le _⟩ ?_
  refine z_if_ne (tgt := 18) hx hb (b2_rg _) dX8_order_13 (by decide) (fun c4 => ?_) (fun c4 => ?_)
  · skip
    have c4 := b2_n0 c4
    have hin := c4
    have hfd : FOUNDm u1 r3 (u1 20 0) := by rcases hf.2.2.2 with z | z; exact absurd z.1 (by omega); exact z.2.1
    refine lv_aload_n hx hb dX8_order_18 rfl (lv_at hl 1 rfl) ?_
    refine z_get (C := RX8) (T := TX8) (N := 26) (ci := 7) hx hb hts iX8 hown hK hP 0 rfl rfl 25 (by decide) (hts (.fieldLink RX8 169 "ShotBoardModel" "fewestSet" "I") (by decide +kernel)) (.int (iZ (u1 20 (0)))) rfl dX8_order_19 ?_
    refine lv_istore_n (lv' := [(3, .int (iZ (u1 20 (0)))), (2, .int (iZ (r3))), (0, .ref (a 0)), (1, .int (iZ (xx)))]) hx hb dX8_order_22 rfl hl (by decide) rfl (fun ls hl => ?_)
    refine z_iconst hx hb dX8_order_23 ?_
    refine lv_istore (lv' := [(4, .int (iZ (-1))), (3, .int (iZ (u1 20 (0)))), (2, .int (iZ (r3))), (0, .ref (a 0)), (1, .int (iZ (xx)))]) hx hb dX8_order_24 hl (by decide) rfl (fun ls hl => ?_)
    refine z_iconst hx hb dX8_order_26 ?_
    refine lv_istore (lv' := [(5, .int (iZ (-1))), (4, .int (iZ (-1))), (3, .int (iZ (u1 20 (0)))), (2, .int (iZ (r3))), (0, .ref (a 0)), (1, .int (iZ (xx)))]) hx hb dX8_order_27 hl (by decide) rfl (fun ls hl => ?_)
    refine z_iconst hx hb dX8_order_29 ?_
    refine lv_istore (lv' := [(6, .int (iZ (0))), (5, .int (iZ (-1))), (4, .int (iZ (-1))), (3, .int (iZ (u1 20 (0)))), (2, .int (iZ (r3))), (0, .ref (a 0)), (1, .int (iZ (xx)))]) hx hb dX8_order_30 hl (by decide) rfl (fun ls hl => ?_)
    have LP32 : ∀ (n32 : Nat) (le : Int) (la : Int) (cc : Int) (kk : Int), (xx + 1 - kk) < (n32 : Int) → (0 ≤ kk ∧ kk ≤ xx + 1) → (le = (SQg (u1 8) (u1 0 2) (u1 20 0) kk.toNat).1 ∧ la = (SQg (u1 8) (u1 0 2) (u1 20 0) kk.toNat).2) → (0 ≤ le ∧ le < 1024) → (-1 ≤ la ∧ la < 4) → (popc le = r3 - kk) → (∀ c, 0 ≤ c → bt le c → c < u1 0 2) → (-1 ≤ cc ∧ cc < 10) → (0 < kk → cc = nxg (u1 8) (u1 0 2) (SQg (u1 8) (u1 0 2) (u1 20 0) (kk - 1).toNat).1 (SQg (u1 8) (u1 0 2) (u1 20 0) (kk - 1).toNat).2) → ∀ (ls : Array Slot), lv_has ls 8 [(6, .int (iZ (kk))), (5, .int (iZ (cc))), (4, .int (iZ (la))), (3, .int (iZ (le))), (2, .int (iZ (r3))), (0, .ref (a 0)), (1, .int (iZ (xx)))] → W p l e R s m args below meth c H locs 0 0 Q (F0 m 32 ls []) := by
      intro n32
      induction n32 with
      | zero =>
        intro le la cc kk hm32 j1 j2 j3 j4 j5 j6 j7 j8  ls hl
        exact absurd hm32 (by omega)
      | succ n32 ih32 =>
        intro le la cc kk hm32 j1 j2 j3 j4 j5 j6 j7 j8  ls hl
        refine lv_iload hx hb dX8_order_32 (lv_at hl 0 rfl) ?_
        refine lv_iload_n hx hb dX8_order_34 rfl (lv_at hl 6 rfl) ?_
        refine z_icmp_gt (tgt := 137) hx hb (by omega) (by omega) dX8_order_35 (by decide) (fun c5 => ?_) (fun c5 => ?_)
        · skip
          refine lv_iload hx hb dX8_order_137 (lv_at hl 1 rfl) ?_
          exact K _ (u1) _ _ _ _ hP hS (⟨_, hf, Or.inr ⟨by omega, by rw [j8 (by omega), show kk - 1 = xx by omega]⟩⟩) dX8_order_139
        · skip
          have hex : ∃ c, 0 ≤ c ∧ c < u1 0 2 ∧ bt le c := by
            obtain ⟨c, a9, b9, d9⟩ := popc_pos j3.1 (by omega)
            exact ⟨c, a9, j6 c a9 d9, d9⟩
          have hnx := NXG (lg := u1 8) (nc := u1 0 2) (le := le) (la := la) (by omega) hex
          refine lv_aload_n hx hb dX8_order_38 rfl (lv_at hl 5 rfl) ?_
          refine lv_iload_n hx hb dX8_order_39 rfl (lv_at hl 3 rfl) ?_
          refine lv_iload hx hb dX8_order_40 (lv_at hl 2 rfl) ?_
          refine z_cVR (q0 := 0) (ci := 7) (As := [.int (iZ (le)), .int (iZ (la))]) (rest := []) S (m_X8_changes l D g a (u1) (le) (la) hI2 (by omega) (by omega)) (cwV 2 hts gX8_order_X8_changes rfl rfl rfl (by decide +kernel) ⟨Nat.le_trans (by decide) hRf, Nat.le_trans (by decide) hRl⟩) hK hP rfl rfl rfl hl.1 rfl (Nat.le_of_ble_eq_true rfl) dX8_order_42 ⟨Nat.zero_le _, Nat.zero_le _⟩ ?_
          have f6 := CHS_b (u1 8) (u1 0 2) (le) (la)
          refine lv_istore (lv' := [(7, .int (iZ (CHS ((u1) 8) ((u1) 0 2) (le) (la)))), (6, .int (iZ (kk))), (5, .int (iZ (cc))), (4, .int (iZ (la))), (3, .int (iZ (le))), (2, .int (iZ (r3))), (0, .ref (a 0)), (1, .int (iZ (xx)))]) hx hb dX8_order_45 hl (by decide) rfl (fun ls hl => ?_)
          refine z_iconst hx hb dX8_order_47 ?_
          refine lv_istore (lv' := [(5, .int (iZ (0))), (7, .int (iZ (CHS ((u1) 8) ((u1) 0 2) (le) (la)))), (6, .int (iZ (kk))), (4, .int (iZ (la))), (3, .int (iZ (le))), (2, .int (iZ (r3))), (0, .ref (a 0)), (1, .int (iZ (xx)))]) hx hb dX8_order_48 hl (by decide) rfl (fun ls hl => ?_)
          have LP50 : ∀ (n50 : Nat) (cq : Int), (10 - cq) < (n50 : Int) → (0 ≤ cq ∧ cq ≤ nxg (u1 8) (u1 0 2) le la) → ∀ (ls : Array Slot), lv_has ls 8 [(5, .int (iZ (cq))), (7, .int (iZ (CHS ((u1) 8) ((u1) 0 2) (le) (la)))), (6, .int (iZ (kk))), (4, .int (iZ (la))), (3, .int (iZ (le))), (2, .int (iZ (r3))), (0, .ref (a 0)), (1, .int (iZ (xx)))] → W p l e R s m args below meth c H locs 0 0 Q (F0 m 50 ls []) := by
            intro n50
            induction n50 with
            | zero =>
              intro cq hm50 k1  ls hl
              exact absurd hm50 (by omega)
            | succ n50 ih50 =>
              intro cq hm50 k1  ls hl
              refine lv_iload_n hx hb dX8_order_50 rfl (lv_at hl 4 rfl) ?_
              refine lv_iload hx hb dX8_order_51 (lv_at hl 0 rfl) ?_
              refine z_ishr hx hb dX8_order_53 ?_
              refine z_iconst hx hb dX8_order_54 ?_
              refine z_iand hx hb dX8_order_55 ?_
              refine z_as (y := b2 (bt le cq)) (bit_z (by omega) (by omega) (by omega) (by omega)) ?_
              refine z_if_eq (tgt := 107) hx hb (b2_rg _) dX8_order_56 (by decide) (fun c7 => ?_) (fun c7 => ?_)
              · skip
                have c7 := b2_0 c7
                have hnac : ¬ ACC (u1 8) (u1 0 2) le la cq := fun z => c7 z.1
                refine z_iinc (lv' := [(5, .int (iZ ((cq) + 1))), (7, .int (iZ (CHS ((u1) 8) ((u1) 0 2) (le) (la)))), (6, .int (iZ (kk))), (4, .int (iZ (la))), (3, .int (iZ (le))), (2, .int (iZ (r3))), (0, .ref (a 0)), (1, .int (iZ (xx)))]) hx hb dX8_order_107 hl (k := 0) rfl (by decide) rfl (fun ls hl => ?_)
                refine lv_goto (tgt := 50) hx hb dX8_order_110 (by decide) ?_
                have hne9 : cq ≠ nxg (u1 8) (u1 0 2) le la := fun e9 => hnac (by rw [e9]; exact hnx.2.1)
                exact ih50 ((cq) + 1) (by omega) (by omega)  ls (lv_sub hl [0, 1, 2, 3, 4, 5, 6, 7] rfl)
              · skip
                have c7 := b2_n0 c7
                have hbq := c7
                have hl8 := hI2.c8 cq (by omega) (by omega)
                refine lv_aload_n hx hb dX8_order_59 rfl (lv_at hl 6 rfl) ?_
                refine lv_iload_n hx hb dX8_order_60 rfl (lv_at hl 4 rfl) ?_
                refine z_iconst hx hb dX8_order_61 ?_
                refine lv_iload hx hb dX8_order_62 (lv_at hl 0 rfl) ?_
                refine z_ishl hx hb dX8_order_64 ?_
                refine z_iconst hx hb dX8_order_65 ?_
                refine z_ixor hx hb dX8_order_66 ?_
                have hcb := clr_b (x := le) (c := cq) (by omega) (by omega)
                refine z_iand hx hb dX8_order_67 ?_
                refine z_as (y := clr le cq) (clr_z (by omega) (by omega) (by omega) (by omega)) ?_
                refine lv_aload_n hx hb dX8_order_68 rfl (lv_at hl 6 rfl) ?_
                refine z_get (C := RX8) (T := TX8) (N := 26) (ci := 7) hx hb hts iX8 hown hK hP 0 rfl rfl 10 (by decide) (hts (.fieldLink RX8 31 "ShotBoardModel" "light" "[I") (by decide +kernel)) (.ref (a 8)) rfl dX8_order_69 ?_
                refine lv_iload hx hb dX8_order_72 (lv_at hl 0 rfl) ?_
                refine z_iald hx hb hK hP 8 (u1 8) rfl (by omega) (by omega) (by omega) dX8_order_74 ?_
                have hl8 := hI2.c8 cq (by omega) (by omega)
                refine z_cVR (q0 := 0) (ci := 7) (As := [.int (iZ (clr le cq)), .int (iZ (u1 8 (cq)))]) (rest := []) S (m_X8_changes l D g a (u1) (clr le cq) (u1 8 (cq)) hI2 (by omega) (by omega)) (cwV 2 hts gX8_order_X8_changes rfl rfl rfl (by decide +kernel) ⟨Nat.le_trans (by decide) hRf, Nat.le_trans (by decide) hRl⟩) hK hP rfl rfl rfl hl.1 rfl (Nat.le_of_ble_eq_true rfl) dX8_order_75 ⟨Nat.zero_le _, Nat.zero_le _⟩ ?_
                have f8 := CHS_b (u1 8) (u1 0 2) (clr le cq) (u1 8 (cq))
                refine lv_iload hx hb dX8_order_78 (lv_at hl 3 rfl) ?_
                refine z_iconst hx hb dX8_order_80 ?_
                refine z_icmp_eq (tgt := 100) hx hb (by omega) (by decide) dX8_order_81 (by decide) (fun c9 => ?_) (fun c9 => ?_)
                · skip
                  have hdl : (0 : Int) = dlt la (u1 8 cq) := (if_neg (fun z => z.1 c9)).symm
                  refine z_iconst hx hb dX8_order_100 ?_
                  refine z_iadd hx hb dX8_order_101 ?_
                  refine lv_iload hx hb dX8_order_102 (lv_at hl 1 rfl) ?_
                  refine z_icmp_eq (tgt := 113) hx hb (by omega) (by omega) dX8_order_104 (by decide) (fun c10 => ?_) (fun c10 => ?_)
                  · skip
                    have hacc : ACC (u1 8) (u1 0 2) le la cq := ⟨hbq, (CHS_acc (by omega) (by omega) hbq hl8 (by omega)).mp (by rw [← hdl]; exact c10)⟩
                    have hcq : cq = nxg (u1 8) (u1 0 2) le la := by rcases Int.lt_or_le cq (nxg (u1 8) (u1 0 2) le la) with q9 | q9 <;> first | exact absurd hacc (hnx.2.2 cq (by omega) q9) | omega
                    refine lv_iload_n hx hb dX8_order_113 rfl (lv_at hl 4 rfl) ?_
                    refine z_iconst hx hb dX8_order_114 ?_
                    refine lv_iload hx hb dX8_order_115 (lv_at hl 0 rfl) ?_
                    refine z_ishl hx hb dX8_order_117 ?_
                    refine z_iconst hx hb dX8_order_118 ?_
                    refine z_ixor hx hb dX8_order_119 ?_
                    refine z_iand hx hb dX8_order_120 ?_
                    refine z_as (y := clr le cq) (clr_z (by omega) (by omega) (by omega) (by omega)) ?_
                    refine lv_istore_n (lv' := [(3, .int (iZ (clr le cq))), (5, .int (iZ (cq))), (7, .int (iZ (CHS ((u1) 8) ((u1) 0 2) (le) (la)))), (6, .int (iZ (kk))), (4, .int (iZ (la))), (2, .int (iZ (r3))), (0, .ref (a 0)), (1, .int (iZ (xx)))]) hx hb dX8_order_121 rfl hl (by decide) rfl (fun ls hl => ?_)
                    refine lv_aload_n hx hb dX8_order_122 rfl (lv_at hl 6 rfl) ?_
                    refine z_get (C := RX8) (T := TX8) (N := 26) (ci := 7) hx hb hts iX8 hown hK hP 0 rfl rfl 10 (by decide) (hts (.fieldLink RX8 31 "ShotBoardModel" "light" "[I") (by decide +kernel)) (.ref (a 8)) rfl dX8_order_123 ?_
                    refine lv_iload hx hb dX8_order_126 (lv_at hl 1 rfl) ?_
                    refine z_iald hx hb hK hP 8 (u1 8) rfl (by omega) (by omega) (by omega) dX8_order_128 ?_
                    refine lv_istore (lv' := [(4, .int (iZ (u1 8 (cq)))), (3, .int (iZ (clr le cq))), (5, .int (iZ (cq))), (7, .int (iZ (CHS ((u1) 8) ((u1) 0 2) (le) (la)))), (6, .int (iZ (kk))), (2, .int (iZ (r3))), (0, .ref (a 0)), (1, .int (iZ (xx)))]) hx hb dX8_order_129 hl (by decide) rfl (fun ls hl => ?_)
                    refine z_iinc (lv' := [(6, .int (iZ ((kk) + 1))), (4, .int (iZ (u1 8 (cq)))), (3, .int (iZ (clr le cq))), (5, .int (iZ (cq))), (7, .int (iZ (CHS ((u1) 8) ((u1) 0 2) (le) (la)))), (2, .int (iZ (r3))), (0, .ref (a 0)), (1, .int (iZ (xx)))]) hx hb dX8_order_131 hl (k := 4) rfl (by decide) rfl (fun ls hl => ?_)
                    refine lv_goto (tgt := 32) hx hb dX8_order_134 (by decide) ?_
                    exact ih32 (clr le cq) (u1 8 (cq)) (cq) ((kk) + 1) (by omega) (by omega) (by rw [show ((kk) + 1).toNat = kk.toNat + 1 by omega, SQg, ← j2.1, ← j2.2, ← hcq]; exact ⟨rfl, rfl⟩) (clr_b (by omega) (by omega)) (by omega) (by rw [popc_clr (by omega) (by omega) (by omega) hacc.1]; omega) (fun c a b => j6 c a ((clr_bt c (by omega) a).mp b).1) (by omega) (fun _ => by rw [show (kk) + 1 - 1 = kk by omega, ← j2.1, ← j2.2]; exact hcq)  ls (lv_sub hl [0, 3, 1, 2, 5, 6, 7] rfl)
                  · skip
                    have hnac : ¬ ACC (u1 8) (u1 0 2) le la cq := fun z => c10 (by rw [hdl]; exact (CHS_acc (by omega) (by omega) hbq hl8 (by omega)).mpr z.2)
                    refine z_iinc (lv' := [(5, .int (iZ ((cq) + 1))), (7, .int (iZ (CHS ((u1) 8) ((u1) 0 2) (le) (la)))), (6, .int (iZ (kk))), (4, .int (iZ (la))), (3, .int (iZ (le))), (2, .int (iZ (r3))), (0, .ref (a 0)), (1, .int (iZ (xx)))]) hx hb dX8_order_107 hl (k := 0) rfl (by decide) rfl (fun ls hl => ?_)
                    refine lv_goto (tgt := 50) hx hb dX8_order_110 (by decide) ?_
                    have hne9 : cq ≠ nxg (u1 8) (u1 0 2) le la := fun e9 => hnac (by rw [e9]; exact hnx.2.1)
                    exact ih50 ((cq) + 1) (by omega) (by omega)  ls (lv_sub hl [0, 1, 2, 3, 4, 5, 6, 7] rfl)
                · skip
                  have hl1 := c9
                  refine lv_aload_n hx hb dX8_order_84 rfl (lv_at hl 6 rfl) ?_
                  refine z_get (C := RX8) (T := TX8) (N := 26) (ci := 7) hx hb hts iX8 hown hK hP 0 rfl rfl 10 (by decide) (hts (.fieldLink RX8 31 "ShotBoardModel" "light" "[I") (by decide +kernel)) (.ref (a 8)) rfl dX8_order_85 ?_
                  refine lv_iload hx hb dX8_order_88 (lv_at hl 0 rfl) ?_
                  refine z_iald hx hb hK hP 8 (u1 8) rfl (by omega) (by omega) (by omega) dX8_order_90 ?_
                  refine lv_iload hx hb dX8_order_91 (lv_at hl 3 rfl) ?_
                  refine z_icmp_eq (tgt := 100) hx hb (by omega) (by omega) dX8_order_93 (by decide) (fun c11 => ?_) (fun c11 => ?_)
                  · skip
                    have hdl : (0 : Int) = dlt la (u1 8 cq) := (if_neg (fun z => z.2 c11)).symm
                    refine z_iconst hx hb dX8_order_100 ?_
                    refine z_iadd hx hb dX8_order_101 ?_
                    refine lv_iload hx hb dX8_order_102 (lv_at hl 1 rfl) ?_
                    refine z_icmp_eq (tgt := 113) hx hb (by omega) (by omega) dX8_order_104 (by decide) (fun c12 => ?_) (fun c12 => ?_)
                    · skip
                      have hacc : ACC (u1 8) (u1 0 2) le la cq := ⟨hbq, (CHS_acc (by omega) (by omega) hbq hl8 (by omega)).mp (by rw [← hdl]; exact c12)⟩
                      have hcq : cq = nxg (u1 8) (u1 0 2) le la := by rcases Int.lt_or_le cq (nxg (u1 8) (u1 0 2) le la) with q9 | q9 <;> first | exact absurd hacc (hnx.2.2 cq (by omega) q9) | omega
                      refine lv_iload_n hx hb dX8_order_113 rfl (lv_at hl 4 rfl) ?_
                      refine z_iconst hx hb dX8_order_114 ?_
                      refine lv_iload hx hb dX8_order_115 (lv_at hl 0 rfl) ?_
                      refine z_ishl hx hb dX8_order_117 ?_
                      refine z_iconst hx hb dX8_order_118 ?_
                      refine z_ixor hx hb dX8_order_119 ?_
                      refine z_iand hx hb dX8_order_120 ?_
                      refine z_as (y := clr le cq) (clr_z (by omega) (by omega) (by omega) (by omega)) ?_
                      refine lv_istore_n (lv' := [(3, .int (iZ (clr le cq))), (5, .int (iZ (cq))), (7, .int (iZ (CHS ((u1) 8) ((u1) 0 2) (le) (la)))), (6, .int (iZ (kk))), (4, .int (iZ (la))), (2, .int (iZ (r3))), (0, .ref (a 0)), (1, .int (iZ (xx)))]) hx hb dX8_order_121 rfl hl (by decide) rfl (fun ls hl => ?_)
                      refine lv_aload_n hx hb dX8_order_122 rfl (lv_at hl 6 rfl) ?_
                      refine z_get (C := RX8) (T := TX8) (N := 26) (ci := 7) hx hb hts iX8 hown hK hP 0 rfl rfl 10 (by decide) (hts (.fieldLink RX8 31 "ShotBoardModel" "light" "[I") (by decide +kernel)) (.ref (a 8)) rfl dX8_order_123 ?_
                      refine lv_iload hx hb dX8_order_126 (lv_at hl 1 rfl) ?_
                      refine z_iald hx hb hK hP 8 (u1 8) rfl (by omega) (by omega) (by omega) dX8_order_128 ?_
                      refine lv_istore (lv' := [(4, .int (iZ (u1 8 (cq)))), (3, .int (iZ (clr le cq))), (5, .int (iZ (cq))), (7, .int (iZ (CHS ((u1) 8) ((u1) 0 2) (le) (la)))), (6, .int (iZ (kk))), (2, .int (iZ (r3))), (0, .ref (a 0)), (1, .int (iZ (xx)))]) hx hb dX8_order_129 hl (by decide) rfl (fun ls hl => ?_)
                      refine z_iinc (lv' := [(6, .int (iZ ((kk) + 1))), (4, .int (iZ (u1 8 (cq)))), (3, .int (iZ (clr le cq))), (5, .int (iZ (cq))), (7, .int (iZ (CHS ((u1) 8) ((u1) 0 2) (le) (la)))), (2, .int (iZ (r3))), (0, .ref (a 0)), (1, .int (iZ (xx)))]) hx hb dX8_order_131 hl (k := 4) rfl (by decide) rfl (fun ls hl => ?_)
                      refine lv_goto (tgt := 32) hx hb dX8_order_134 (by decide) ?_
                      exact ih32 (clr le cq) (u1 8 (cq)) (cq) ((kk) + 1) (by omega) (by omega) (by rw [show ((kk) + 1).toNat = kk.toNat + 1 by omega, SQg, ← j2.1, ← j2.2, ← hcq]; exact ⟨rfl, rfl⟩) (clr_b (by omega) (by omega)) (by omega) (by rw [popc_clr (by omega) (by omega) (by omega) hacc.1]; omega) (fun c a b => j6 c a ((clr_bt c (by omega) a).mp b).1) (by omega) (fun _ => by rw [show (kk) + 1 - 1 = kk by omega, ← j2.1, ← j2.2]; exact hcq)  ls (lv_sub hl [0, 3, 1, 2, 5, 6, 7] rfl)
                    · skip
                      have hnac : ¬ ACC (u1 8) (u1 0 2) le la cq := fun z => c12 (by rw [hdl]; exact (CHS_acc (by omega) (by omega) hbq hl8 (by omega)).mpr z.2)
                      refine z_iinc (lv' := [(5, .int (iZ ((cq) + 1))), (7, .int (iZ (CHS ((u1) 8) ((u1) 0 2) (le) (la)))), (6, .int (iZ (kk))), (4, .int (iZ (la))), (3, .int (iZ (le))), (2, .int (iZ (r3))), (0, .ref (a 0)), (1, .int (iZ (xx)))]) hx hb dX8_order_107 hl (k := 0) rfl (by decide) rfl (fun ls hl => ?_)
                      refine lv_goto (tgt := 50) hx hb dX8_order_110 (by decide) ?_
                      have hne9 : cq ≠ nxg (u1 8) (u1 0 2) le la := fun e9 => hnac (by rw [e9]; exact hnx.2.1)
                      exact ih50 ((cq) + 1) (by omega) (by omega)  ls (lv_sub hl [0, 1, 2, 3, 4, 5, 6, 7] rfl)
                  · skip
                    have hdl : (1 : Int) = dlt la (u1 8 cq) := (if_pos ⟨hl1, c11⟩).symm
                    refine z_iconst hx hb dX8_order_96 ?_
                    refine lv_goto (tgt := 101) hx hb dX8_order_97 (by decide) ?_
                    refine z_iadd hx hb dX8_order_101 ?_
                    refine lv_iload hx hb dX8_order_102 (lv_at hl 1 rfl) ?_
                    refine z_icmp_eq (tgt := 113) hx hb (by omega) (by omega) dX8_order_104 (by decide) (fun c13 => ?_) (fun c13 => ?_)
                    · skip
                      have hacc : ACC (u1 8) (u1 0 2) le la cq := ⟨hbq, (CHS_acc (by omega) (by omega) hbq hl8 (by omega)).mp (by rw [← hdl]; exact c13)⟩
                      have hcq : cq = nxg (u1 8) (u1 0 2) le la := by rcases Int.lt_or_le cq (nxg (u1 8) (u1 0 2) le la) with q9 | q9 <;> first | exact absurd hacc (hnx.2.2 cq (by omega) q9) | omega
                      refine lv_iload_n hx hb dX8_order_113 rfl (lv_at hl 4 rfl) ?_
                      refine z_iconst hx hb dX8_order_114 ?_
                      refine lv_iload hx hb dX8_order_115 (lv_at hl 0 rfl) ?_
                      refine z_ishl hx hb dX8_order_117 ?_
                      refine z_iconst hx hb dX8_order_118 ?_
                      refine z_ixor hx hb dX8_order_119 ?_
                      refine z_iand hx hb dX8_order_120 ?_
                      refine z_as (y := clr le cq) (clr_z (by omega) (by omega) (by omega) (by omega)) ?_
                      refine lv_istore_n (lv' := [(3, .int (iZ (clr le cq))), (5, .int (iZ (cq))), (7, .int (iZ (CHS ((u1) 8) ((u1) 0 2) (le) (la)))), (6, .int (iZ (kk))), (4, .int (iZ (la))), (2, .int (iZ (r3))), (0, .ref (a 0)), (1, .int (iZ (xx)))]) hx hb dX8_order_121 rfl hl (by decide) rfl (fun ls hl => ?_)
                      refine lv_aload_n hx hb dX8_order_122 rfl (lv_at hl 6 rfl) ?_
                      refine z_get (C := RX8) (T := TX8) (N := 26) (ci := 7) hx hb hts iX8 hown hK hP 0 rfl rfl 10 (by decide) (hts (.fieldLink RX8 31 "ShotBoardModel" "light" "[I") (by decide +kernel)) (.ref (a 8)) rfl dX8_order_123 ?_
                      refine lv_iload hx hb dX8_order_126 (lv_at hl 1 rfl) ?_
                      refine z_iald hx hb hK hP 8 (u1 8) rfl (by omega) (by omega) (by omega) dX8_order_128 ?_
                      refine lv_istore (lv' := [(4, .int (iZ (u1 8 (cq)))), (3, .int (iZ (clr le cq))), (5, .int (iZ (cq))), (7, .int (iZ (CHS ((u1) 8) ((u1) 0 2) (le) (la)))), (6, .int (iZ (kk))), (2, .int (iZ (r3))), (0, .ref (a 0)), (1, .int (iZ (xx)))]) hx hb dX8_order_129 hl (by decide) rfl (fun ls hl => ?_)
                      refine z_iinc (lv' := [(6, .int (iZ ((kk) + 1))), (4, .int (iZ (u1 8 (cq)))), (3, .int (iZ (clr le cq))), (5, .int (iZ (cq))), (7, .int (iZ (CHS ((u1) 8) ((u1) 0 2) (le) (la)))), (2, .int (iZ (r3))), (0, .ref (a 0)), (1, .int (iZ (xx)))]) hx hb dX8_order_131 hl (k := 4) rfl (by decide) rfl (fun ls hl => ?_)
                      refine lv_goto (tgt := 32) hx hb dX8_order_134 (by decide) ?_
                      exact ih32 (clr le cq) (u1 8 (cq)) (cq) ((kk) + 1) (by omega) (by omega) (by rw [show ((kk) + 1).toNat = kk.toNat + 1 by omega, SQg, ← j2.1, ← j2.2, ← hcq]; exact ⟨rfl, rfl⟩) (clr_b (by omega) (by omega)) (by omega) (by rw [popc_clr (by omega) (by omega) (by omega) hacc.1]; omega) (fun c a b => j6 c a ((clr_bt c (by omega) a).mp b).1) (by omega) (fun _ => by rw [show (kk) + 1 - 1 = kk by omega, ← j2.1, ← j2.2]; exact hcq)  ls (lv_sub hl [0, 3, 1, 2, 5, 6, 7] rfl)
                    · skip
                      have hnac : ¬ ACC (u1 8) (u1 0 2) le la cq := fun z => c13 (by rw [hdl]; exact (CHS_acc (by omega) (by omega) hbq hl8 (by omega)).mpr z.2)
                      refine z_iinc (lv' := [(5, .int (iZ ((cq) + 1))), (7, .int (iZ (CHS ((u1) 8) ((u1) 0 2) (le) (la)))), (6, .int (iZ (kk))), (4, .int (iZ (la))), (3, .int (iZ (le))), (2, .int (iZ (r3))), (0, .ref (a 0)), (1, .int (iZ (xx)))]) hx hb dX8_order_107 hl (k := 0) rfl (by decide) rfl (fun ls hl => ?_)
                      refine lv_goto (tgt := 50) hx hb dX8_order_110 (by decide) ?_
                      have hne9 : cq ≠ nxg (u1 8) (u1 0 2) le la := fun e9 => hnac (by rw [e9]; exact hnx.2.1)
                      exact ih50 ((cq) + 1) (by omega) (by omega)  ls (lv_sub hl [0, 1, 2, 3, 4, 5, 6, 7] rfl)
          exact LP50 ((10 - (0)) + 1 : Int).toNat (0) (by omega) (by omega)  ls (lv_sub hl [0, 1, 2, 3, 4, 5, 6, 7] rfl)
    exact LP32 ((xx + 1 - (0)) + 1 : Int).toNat (u1 20 (0)) (-1) (-1) (0) (by omega) (by omega) (⟨rfl, rfl⟩) (hQ2.s) (by omega) (by rw [hfd.2.1]; omega) (fun c a b => bt_lt hfd.1.1 hfd.1.2 a b) (by omega) (fun z => by omega)  ls (lv_sub hl [0, 1, 2, 3, 4, 5, 6] rfl)
  · skip
    have c4 := b2_0 c4
    have hin := c4
    refine z_iconst hx hb dX8_order_16 ?_
    exact K _ (u1) _ _ _ _ hP hS (⟨_, hf, Or.inl ⟨fun z => by omega, rfl⟩⟩) dX8_order_17
