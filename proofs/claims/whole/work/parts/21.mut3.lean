abbrev rX3_search : Room := { frames := 4, cells := 0, slots := 0, locals := 96 }
set_option maxHeartbeats 4000000 in
set_option maxRecDepth 100000 in
theorem m_X3_search (l : Launch) (D : va_G) (g : Nat → ClassId) (a : Nat → Nat) (st : SS) (hI : IC st) (hQ : IP st) : Met l yX3_search wsX3_search rX3_search (PcM D g (AWC a) (WC g a st) [.ref (a 5)]) (QcI D (WC g a) (AWC a) (fun r u => SRD st r u)) 0 0 (AWC a) := by
  refine metI (cc := cX3_search) (maxL := 4) (ret := (some .int)) (own := RX3) (by decide) rfl rfl (Nat.le_of_ble_eq_true rfl) (Or.inl rfl) ?_
  intro p e R s m args below meth c Q ls S hRf hRl hK hP hD hS hl K
  have hx := S.1
  have hb := S.2.1
  have hown := S.2.2.2.1
  have hts := S.2.2.2.2
  have hRf : 4 ≤ R.frames := hRf
  have hRl : 96 ≤ R.locals := hRl
  have hl : lv_has ls 4 [(0, .ref (a 5))] := hl
  have iX3 : ∀ w ∈ wsX30, w ∈ wsX3_search := by decide +kernel
  have iX4 : ∀ w ∈ wsX40, w ∈ wsX3_search := by decide +kernel
  have hB := hI.s
  have hN : 1 ≤ NS st ∧ NS st ≤ 1024 := pw10 (by omega) (by omega)
  refine z_iconst hx hb dX3_search_0 ?_
  refine lv_aload_n hx hb dX3_search_1 rfl (lv_at hl 0 rfl) ?_
  refine z_get (C := RX3) (T := TX3) (N := 11) (ci := 2) hx hb hts iX3 hown hK hP 5 rfl rfl 1 (by decide) (hts (.fieldLink RX3 32 "ShotBoard$Planner" "rig" "LShotBoard$Rig;") (by decide +kernel)) (.ref (a 2)) rfl dX3_search_2 ?_
  refine z_get (C := RX4) (T := TX4) (N := 3) (ci := 3) hx hb hts iX4 hown hK hP 2 rfl rfl 2 (by decide) (hts (.fieldLink RX3 54 "ShotBoard$Rig" "cameras" "I") (by decide +kernel)) (.int (iZ (st 19 (2)))) rfl dX3_search_5 ?_
  refine z_ishl hx hb dX3_search_8 ?_
  refine z_as (y := NS st) (zshl_1 (by omega) (by omega)) ?_
  refine z_iconst hx hb dX3_search_9 ?_
  refine z_isub hx hb dX3_search_10 ?_
  refine lv_istore_n (lv' := [(1, .int (iZ ((NS st) - (1)))), (0, .ref (a 5))]) hx hb dX3_search_11 rfl hl (by decide) rfl (fun ls hl => ?_)
  refine lv_aload_n hx hb dX3_search_12 rfl (lv_at hl 1 rfl) ?_
  refine lv_iload_n hx hb dX3_search_13 rfl (lv_at hl 0 rfl) ?_
  refine z_cVI (q0 := 5) (ci := 2) (As := [.int (iZ ((NS st) - (1)))]) (rest := []) S (m_X3_canFilm l D g a (st) ((NS st) - (1)) hI hQ (by omega)) (cwV 1 hts gX3_search_X3_canFilm rfl rfl rfl (by decide +kernel) ⟨Nat.le_trans (by decide) hRf, Nat.le_trans (by decide) hRl⟩) hK hP hD hS (fun _ h => h) rfl rfl rfl hl.1 rfl (Nat.le_of_ble_eq_true rfl) dX3_search_14 ⟨Nat.zero_le _, Nat.zero_le _⟩ (fun r3 u1 H locs P2 hP hS _ => ?_)
  have hD : va_D (AWC a) (WC g a u1) := DWC hD
  obtain ⟨rfl, hcf⟩ := P2
  refine z_if_ne (tgt := 23) hx hb (b2_rg _) dX3_search_17 (by decide) (fun c4 => ?_) (fun c4 => ?_)
  · skip
    have c4 := b2_n0 c4
    have hall := c4
    refine z_iconst hx hb dX3_search_23 ?_
    refine lv_istore_n (lv' := [(2, .int (iZ (0))), (1, .int (iZ ((NS st) - (1)))), (0, .ref (a 5))]) hx hb dX3_search_24 rfl hl (by decide) rfl (fun ls hl => ?_)
    have LP25 : ∀ (n25 : Nat) (mm : Int) (uu : SS), (st 19 2 + 1 - mm) < (n25 : Int) → (0 ≤ mm ∧ mm ≤ st 19 2 + 1) → (∀ k : Nat, k ≠ 8 → uu k = st k) → (IP uu) → (∀ s, 0 ≤ s → s < NS st → popc s < mm → ¬ OKS st s) → ∀ (H : Heap) (locs : List Loc), va_P D vwCl (WC g a uu) H → va_D (AWC a) (WC g a uu) → va_S (AWC a) s.heap H locs → ∀ (ls : Array Slot), lv_has ls 4 [(2, .int (iZ (mm))), (1, .int (iZ ((NS st) - (1)))), (0, .ref (a 5))] → W p l e R s m args below meth c H locs 0 0 Q (F0 m 25 ls []) := by
      intro n25
      induction n25 with
      | zero =>
        intro mm uu hm25 j1 j2 j3 j4 H locs hP hD hS ls hl
        exact absurd hm25 (by omega)
      | succ n25 ih25 =>
        intro mm uu hm25 j1 j2 j3 j4 H locs hP hD hS ls hl
        have e19c : uu 19 2 = st 19 2 := congrFun (j2 19 (by decide)) 2
        refine lv_iload_n hx hb dX3_search_25 rfl (lv_at hl 0 rfl) ?_
        refine lv_aload_n hx hb dX3_search_26 rfl (lv_at hl 2 rfl) ?_
        refine z_get (C := RX3) (T := TX3) (N := 11) (ci := 2) hx hb hts iX3 hown hK hP 5 rfl rfl 1 (by decide) (hts (.fieldLink RX3 32 "ShotBoard$Planner" "rig" "LShotBoard$Rig;") (by decide +kernel)) (.ref (a 2)) rfl dX3_search_27 ?_
        refine z_get (C := RX4) (T := TX4) (N := 3) (ci := 3) hx hb hts iX4 hown hK hP 2 rfl rfl 2 (by decide) (hts (.fieldLink RX3 54 "ShotBoard$Rig" "cameras" "I") (by decide +kernel)) (.int (iZ (uu 19 (2)))) rfl dX3_search_30 ?_
        refine z_icmp_gt (tgt := 78) hx hb (by omega) (by omega) dX3_search_33 (by decide) (fun c5 => ?_) (fun c5 => ?_)
        · skip
          refine z_bipush hx hb dX3_search_78 (by decide +kernel) ?_
          exact K _ (uu) _ _ _ _ hP hS (SRD_no j2 j3 (fun s a b => j4 s a b (by have := popc_b (x := s); have := popc_nc (s := s) (n := st 19 2) a b (by omega) (by omega); omega))) dX3_search_80
        · skip
          refine z_iconst hx hb dX3_search_36 ?_
          refine lv_istore_n (lv' := [(3, .int (iZ (0))), (2, .int (iZ (mm))), (1, .int (iZ ((NS st) - (1)))), (0, .ref (a 5))]) hx hb dX3_search_37 rfl hl (by decide) rfl (fun ls hl => ?_)
          have LP38 : ∀ (n38 : Nat) (ss : Int) (vv : SS), (NS st - ss) < (n38 : Int) → (0 ≤ ss ∧ ss ≤ NS st) → (∀ k : Nat, k ≠ 8 → vv k = st k) → (IP vv) → (∀ s, 0 ≤ s → s < ss → popc s = mm → ¬ OKS st s) → ∀ (H : Heap) (locs : List Loc), va_P D vwCl (WC g a vv) H → va_D (AWC a) (WC g a vv) → va_S (AWC a) s.heap H locs → ∀ (ls : Array Slot), lv_has ls 4 [(3, .int (iZ (ss))), (2, .int (iZ (mm))), (1, .int (iZ ((NS st) - (1)))), (0, .ref (a 5))] → W p l e R s m args below meth c H locs 0 0 Q (F0 m 38 ls []) := by
            intro n38
            induction n38 with
            | zero =>
              intro ss vv hm38 k1 k2 k3 k4 H locs hP hD hS ls hl
              exact absurd hm38 (by omega)
            | succ n38 ih38 =>
              intro ss vv hm38 k1 k2 k3 k4 H locs hP hD hS ls hl
              refine lv_iload_n hx hb dX3_search_38 rfl (lv_at hl 0 rfl) ?_
              refine lv_iload_n hx hb dX3_search_39 rfl (lv_at hl 2 rfl) ?_
              refine z_icmp_gt (tgt := 72) hx hb (by omega) (by omega) dX3_search_40 (by decide) (fun c6 => ?_) (fun c6 => ?_)
              · skip
                refine z_iinc (lv' := [(2, .int (iZ ((mm) + 1))), (3, .int (iZ (ss))), (1, .int (iZ ((NS st) - (1)))), (0, .ref (a 5))]) hx hb dX3_search_72 hl (k := 1) rfl (by decide) rfl (fun ls hl => ?_)
                refine lv_goto (tgt := 25) hx hb dX3_search_75 (by decide) ?_
                exact ih25 ((mm) + 1) (vv) (by omega) (by omega) (k2) (k3) (fun s a b d => by
        by_cases e9 : popc s < mm
        · exact j4 s a b e9
        · exact k4 s a (by omega) (by omega)) _ _ hP hD hS ls (lv_sub hl [0, 2, 3] rfl)
              · skip
                refine lv_iload_n hx hb dX3_search_43 rfl (lv_at hl 0 rfl) ?_
                refine z_cSS (As := [.int (iZ (ss))]) (rest := []) S (m_J6_bitCount_0f7a4 l (ss) (by omega)) (va_cwS 1 hts gX3_search_J6_bitCount_0f7a4 rfl rfl rfl (by decide +kernel) ⟨Nat.le_trans (by decide) hRf, Nat.le_trans (by decide) hRl⟩) rfl hl.1 rfl (Nat.le_of_ble_eq_true rfl) dX3_search_44 ⟨Nat.zero_le _, Nat.zero_le _⟩ ?_
                have f7 := popc_b (x := (ss))
                refine lv_iload_n hx hb dX3_search_47 rfl (lv_at hl 1 rfl) ?_
                refine z_icmp_ne (tgt := 66) hx hb (by omega) (by omega) dX3_search_48 (by decide) (fun c8 => ?_) (fun c8 => ?_)
                · skip
                  have hpn := c8
                  refine z_iinc (lv' := [(3, .int (iZ ((ss) + 1))), (2, .int (iZ (mm))), (1, .int (iZ ((NS st) - (1)))), (0, .ref (a 5))]) hx hb dX3_search_66 hl (k := 0) rfl (by decide) rfl (fun ls hl => ?_)
                  refine lv_goto (tgt := 38) hx hb dX3_search_69 (by decide) ?_
                  exact ih38 ((ss) + 1) (vv) (by omega) (by omega) (by first | exact k2 | exact (fun k hk => (hcf.1 k hk).trans (k2 k hk))) (by first | exact k3 | exact hcf.ip k3) (fun s a b d => by
        by_cases e9 : s = ss
        · subst e9; first | exact hno | exact absurd d hpn
        · exact k4 s a (by omega) d) _ _ hP hD hS ls (lv_sub hl [0, 1, 2, 3] rfl)
                · skip
                  have hpe := c8
                  refine lv_aload_n hx hb dX3_search_51 rfl (lv_at hl 3 rfl) ?_
                  refine lv_iload_n hx hb dX3_search_52 rfl (lv_at hl 0 rfl) ?_
                  refine z_cVI (q0 := 5) (ci := 2) (As := [.int (iZ (ss))]) (rest := []) S (m_X3_canFilm l D g a (vv) (ss) (IC_pl hI (fun k _ _ => k2 k (by omega))) k3 (by omega)) (cwV 1 hts gX3_search_X3_canFilm rfl rfl rfl (by decide +kernel) ⟨Nat.le_trans (by decide) hRf, Nat.le_trans (by decide) hRl⟩) hK hP hD hS (fun _ h => h) rfl rfl rfl hl.1 rfl (Nat.le_of_ble_eq_true rfl) dX3_search_53 ⟨Nat.zero_le _, Nat.zero_le _⟩ (fun r11 u9 H locs P10 hP hS _ => ?_)
                  have hD : va_D (AWC a) (WC g a u9) := DWC hD
                  obtain ⟨rfl, hcf⟩ := P10
                  refine z_if_eq (tgt := 66) hx hb (b2_rg _) dX3_search_56 (by decide) (fun c12 => ?_) (fun c12 => ?_)
                  · skip
                    have c12 := b2_0 c12
                    have hno : ¬ OKS st ss := fun z => c12 ((OKS_eq (fun k a _ => k2 k a) ss).mpr z)
                    refine z_iinc (lv' := [(3, .int (iZ ((ss) + 1))), (2, .int (iZ (mm))), (1, .int (iZ ((NS st) - (1)))), (0, .ref (a 5))]) hx hb dX3_search_66 hl (k := 0) rfl (by decide) rfl (fun ls hl => ?_)
                    refine lv_goto (tgt := 38) hx hb dX3_search_69 (by decide) ?_
                    exact ih38 ((ss) + 1) (u9) (by omega) (by omega) (by first | exact k2 | exact (fun k hk => (hcf.1 k hk).trans (k2 k hk))) (by first | exact k3 | exact hcf.ip k3) (fun s a b d => by
        by_cases e9 : s = ss
        · subst e9; first | exact hno | exact absurd d hpn
        · exact k4 s a (by omega) d) _ _ hP hD hS ls (lv_sub hl [0, 1, 2, 3] rfl)
                  · skip
                    have c12 := b2_n0 c12
                    have hyes : OKS st ss := (OKS_eq (fun k a _ => k2 k a) ss).mp c12
                    refine lv_aload_n hx hb dX3_search_59 rfl (lv_at hl 3 rfl) ?_
                    refine lv_iload_n hx hb dX3_search_60 rfl (lv_at hl 0 rfl) ?_
                    refine z_put (C := RX3) (T := TX3) (N := 11) (ci := 2) (ty := .int) hx hb hts iX3 tyX3 tyX3_ok nmX3 hown hK hP hD hS 5 rfl rfl 9 (by decide) (hts (.fieldLink RX3 99 "ShotBoard$Planner" "chosen" "I") (by decide +kernel)) rfl (by decide +kernel) rfl rfl (Nat.le_of_ble_eq_true rfl) (WC g a (up (u9) 21 (1) (ss))) rfl dX3_search_61 (fun H locs hP hD hS => ?_)
                    refine lv_iload_n hx hb dX3_search_64 rfl (lv_at hl 1 rfl) ?_
                    exact K _ (up (u9) 21 (1) (ss)) _ _ _ _ hP hS (SRD_yes k2 k3 hcf (by omega) (by omega) ⟨by omega, by omega, hyes, fun s a b d => j4 s a b d, fun s a b d => k4 s a b d⟩) dX3_search_65
          exact LP38 ((NS st - (0)) + 1 : Int).toNat (0) (uu) (by omega) (by omega) (j2) (j3) (fun s a b => by omega) _ _ hP hD hS ls (lv_sub hl [0, 1, 2, 3] rfl)
    exact LP25 ((st 19 2 + 1 - (0)) + 1 : Int).toNat (0) (u1) (by omega) (by omega) (hcf.1) (hcf.ip hQ) (fun s a b d => by have := popc_b (x := s); omega) _ _ hP hD hS ls (lv_sub hl [0, 1, 2] rfl)
  · skip
    have c4 := b2_0 c4
    have hall := c4
    refine z_bipush hx hb dX3_search_20 (by decide +kernel) ?_
    exact K _ (u1) _ _ _ _ hP hS (SRD_no hcf.1 (hcf.ip hQ) (fun s a b z => hall (OKS_all z))) dX3_search_22
abbrev rX3_writeRow : Room := { frames := 3, cells := 0, slots := 0, locals := 72 }
set_option maxHeartbeats 4000000 in
set_option maxRecDepth 100000 in
theorem m_X3_writeRow (l : Launch) (D : va_G) (g : Nat → ClassId) (a : Nat → Nat) (st : SS) (hI : IC st) (hQ : IP st) : Met l yX3_writeRow wsX3_writeRow rX3_writeRow (PcM D g (AWC a) (WC g a st) [.ref (a 5)]) (QcV D (WC g a) (AWC a) (fun u => u = sA st 9 (rwF st (st 19 3)))) 0 0 (AWC a) := by
  refine metV (cc := cX3_writeRow) (maxL := 4) (own := RX3) (by decide) rfl rfl (Nat.le_of_ble_eq_true rfl) ?_
  intro p e R s m args below meth c Q ls S hRf hRl hK hP hD hS hl K
  have hx := S.1
  have hb := S.2.1
  have hown := S.2.2.2.1
  have hts := S.2.2.2.2
  have hRf : 3 ≤ R.frames := hRf
  have hRl : 72 ≤ R.locals := hRl
  have hl : lv_has ls 4 [(0, .ref (a 5))] := hl
  have iX3 : ∀ w ∈ wsX30, w ∈ wsX3_writeRow := by decide +kernel
  have iX5 : ∀ w ∈ wsX50, w ∈ wsX3_writeRow := by decide +kernel
  have hB := hI.s
  have hC := hQ.s
  refine z_iconst hx hb dX3_writeRow_0 ?_
  refine lv_istore_n (lv' := [(1, .int (iZ (0))), (0, .ref (a 5))]) hx hb dX3_writeRow_1 rfl hl (by decide) rfl (fun ls hl => ?_)
  refine z_iconst hx hb dX3_writeRow_2 ?_
  refine lv_istore_n (lv' := [(2, .int (iZ (0))), (1, .int (iZ (0))), (0, .ref (a 5))]) hx hb dX3_writeRow_3 rfl hl (by decide) rfl (fun ls hl => ?_)
  have LP4 : ∀ (n4 : Nat) (la : Int) (bb : Int) (uu : SS), (st 19 3 - bb) < (n4 : Int) → (0 ≤ bb ∧ bb ≤ st 19 3) → (la = LSv st bb.toNat) → (uu = sA st 9 (rwF st bb)) → ∀ (H : Heap) (locs : List Loc), va_P D vwCl (WC g a uu) H → va_D (AWC a) (WC g a uu) → va_S (AWC a) s.heap H locs → ∀ (ls : Array Slot), lv_has ls 4 [(2, .int (iZ (bb))), (1, .int (iZ (la))), (0, .ref (a 5))] → W p l e R s m args below meth c H locs 0 0 Q (F0 m 4 ls []) := by
    intro n4
    induction n4 with
    | zero =>
      intro la bb uu hm4 j1 j2 j3 H locs hP hD hS ls hl
      exact absurd hm4 (by omega)
    | succ n4 ih4 =>
      intro la bb uu hm4 j1 j2 j3 H locs hP hD hS ls hl
      have hla := LSv_b hQ (by omega) bb.toNat (by omega)
      rw [← j2] at hla
      have hrw := RW_b (st := st) (by omega) bb la
      have e19 : uu 19 3 = st 19 3 := by rw [j3]; rfl
      have e21 : uu 21 1 = st 21 1 := by rw [j3]; rfl
      refine lv_iload_n hx hb dX3_writeRow_4 rfl (lv_at hl 0 rfl) ?_
      refine lv_aload_n hx hb dX3_writeRow_5 rfl (lv_at hl 2 rfl) ?_
      refine z_get (C := RX3) (T := TX3) (N := 11) (ci := 2) hx hb hts iX3 hown hK hP 5 rfl rfl 2 (by decide) (hts (.fieldLink RX3 36 "ShotBoard$Planner" "script" "LShotBoard$Script;") (by decide +kernel)) (.ref (a 3)) rfl dX3_writeRow_6 ?_
      refine z_get (C := RX5) (T := TX5) (N := 3) (ci := 4) hx hb hts iX5 hown hK hP 3 rfl rfl 1 (by decide) (hts (.fieldLink RX3 44 "ShotBoard$Script" "boards" "I") (by decide +kernel)) (.int (iZ (uu 19 (3)))) rfl dX3_writeRow_9 ?_
      refine z_icmp_ge (tgt := 51) hx hb (by omega) (by omega) dX3_writeRow_12 (by decide) (fun c1 => ?_) (fun c1 => ?_)
      · skip
        exact K (uu) _ _ _ _ hP hS (by rw [j3, show bb = st 19 3 by omega]) dX3_writeRow_51
      · skip
        refine z_iconst hx hb dX3_writeRow_15 ?_
        refine lv_aload_n hx hb dX3_writeRow_16 rfl (lv_at hl 2 rfl) ?_
        refine lv_iload_n hx hb dX3_writeRow_17 rfl (lv_at hl 0 rfl) ?_
        refine lv_iload_n hx hb dX3_writeRow_18 rfl (lv_at hl 1 rfl) ?_
        refine lv_aload_n hx hb dX3_writeRow_19 rfl (lv_at hl 2 rfl) ?_
        refine z_get (C := RX3) (T := TX3) (N := 11) (ci := 2) hx hb hts iX3 hown hK hP 5 rfl rfl 9 (by decide) (hts (.fieldLink RX3 99 "ShotBoard$Planner" "chosen" "I") (by decide +kernel)) (.int (iZ (uu 21 (1)))) rfl dX3_writeRow_20 ?_
        refine z_cVR (q0 := 5) (ci := 2) (As := [.int (iZ (bb)), .int (iZ (la)), .int (iZ (uu 21 (1)))]) (rest := [.int (iZ (0))]) S (m_X3_firstFor l D g a (uu) (bb) (la) (uu 21 (1)) (by rw [j3]; exact hI) (by rw [j3]; exact IP_9 hQ (rwF_b hQ (by omega) bb)) (by omega) (by omega) (by omega)) (cwV 3 hts gX3_writeRow_X3_firstFor rfl rfl rfl (by decide +kernel) ⟨Nat.le_trans (by decide) hRf, Nat.le_trans (by decide) hRl⟩) hK hP rfl rfl rfl hl.1 rfl (Nat.le_of_ble_eq_true rfl) dX3_writeRow_23 ⟨Nat.zero_le _, Nat.zero_le _⟩ ?_
        have f23 := fP_b (fun c => (bt (st 21 1) c ∧ bt (st 6 bb) c) ∧ FIT st bb la c) (st 19 2).toNat 0 (by omega)
        refine z_as (y := fP (fun c => (bt (st 21 1) c ∧ bt (st 6 bb) c) ∧ FIT st bb la c) (st 19 2).toNat 0) (by rw [j3]; rfl) ?_
        refine z_max hx hb (S.2.2.1.trans hl.1.symm) hown (hts (.methodLink RX3 116 Lib.Math.max.name) (by decide +kernel)) (hts (.static Lib.Math.max.name) (by decide +kernel)) (hts (.initialized "java/lang/Math") (by decide +kernel)) (hts (.code Lib.Math.max.name Lib.Math.max.code 2 (some .int)) (by decide +kernel)) (Nat.le_trans (by decide) hRf) (Nat.le_trans (Nat.le_of_ble_eq_true rfl) hRl) (Nat.zero_le _) (Nat.zero_le _) (by decide) (by omega) dX3_writeRow_26 ?_
        refine z_as (y := RW st bb la) (rfl) ?_
        refine lv_istore_n (lv' := [(3, .int (iZ (RW st bb la))), (2, .int (iZ (bb))), (1, .int (iZ (la))), (0, .ref (a 5))]) hx hb dX3_writeRow_29 rfl hl (by decide) rfl (fun ls hl => ?_)
        refine lv_aload_n hx hb dX3_writeRow_30 rfl (lv_at hl 3 rfl) ?_
        refine z_get (C := RX3) (T := TX3) (N := 11) (ci := 2) hx hb hts iX3 hown hK hP 5 rfl rfl 6 (by decide) (hts (.fieldLink RX3 22 "ShotBoard$Planner" "row" "[I") (by decide +kernel)) (.ref (a 17)) rfl dX3_writeRow_31 ?_
        refine lv_iload_n hx hb dX3_writeRow_34 rfl (lv_at hl 1 rfl) ?_
        refine lv_iload_n hx hb dX3_writeRow_35 rfl (lv_at hl 0 rfl) ?_
        refine z_iast hx hb hK hP hD hS 17 (uu 9) rfl (by omega) (by omega) (by omega) (WC g a (up (uu) 9 (bb) (RW st bb la))) rfl dX3_writeRow_36 (fun H locs hP hD hS => ?_)
        refine lv_aload_n hx hb dX3_writeRow_37 rfl (lv_at hl 3 rfl) ?_
        refine lv_iload_n hx hb dX3_writeRow_38 rfl (lv_at hl 1 rfl) ?_
        refine lv_iload_n hx hb dX3_writeRow_39 rfl (lv_at hl 2 rfl) ?_
        refine lv_iload_n hx hb dX3_writeRow_40 rfl (lv_at hl 0 rfl) ?_
        refine z_cVR (q0 := 5) (ci := 2) (As := [.int (iZ (bb)), .int (iZ (la)), .int (iZ (RW st bb la))]) (rest := []) S (m_X3_sideAfter l D g a (up (uu) 9 (bb) (RW st bb la)) (bb) (la) (RW st bb la) (by rw [j3]; exact hI) (by rw [j3, up_sA, j2, rwF_s _ (by omega)]; exact IP_9 hQ (rwF_b hQ (by omega) _)) (by rw [j3]; exact (by omega : 0 ≤ bb ∧ bb < st 19 3)) (by omega) (by omega)) (cwV 3 hts gX3_writeRow_X3_sideAfter rfl rfl rfl (by decide +kernel) ⟨Nat.le_trans (by decide) hRf, Nat.le_trans (by decide) hRl⟩) hK hP rfl rfl rfl hl.1 rfl (Nat.le_of_ble_eq_true rfl) dX3_writeRow_41 ⟨Nat.zero_le _, Nat.zero_le _⟩ ?_
        have f41 := sAf_b hQ (b := bb) (la := la) (c := RW st bb la) (by omega) (by omega) (by omega)
        refine z_as (y := sAf st bb la (RW st bb la)) (by rw [j3]; rfl) ?_
        refine lv_istore_n (lv' := [(1, .int (iZ (sAf st bb la (RW st bb la)))), (3, .int (iZ (RW st bb la))), (2, .int (iZ (bb))), (0, .ref (a 5))]) hx hb dX3_writeRow_44 rfl hl (by decide) rfl (fun ls hl => ?_)
        refine z_iinc (lv' := [(2, .int (iZ ((bb) + 1))), (1, .int (iZ (sAf st bb la (RW st bb la)))), (3, .int (iZ (RW st bb la))), (0, .ref (a 5))]) hx hb dX3_writeRow_45 hl (k := 2) rfl (by decide) rfl (fun ls hl => ?_)
        refine lv_goto (tgt := 4) hx hb dX3_writeRow_48 (by decide) ?_
        exact ih4 (sAf st bb la (RW st bb la)) ((bb) + 1) (up (uu) 9 (bb) (RW st bb la)) (by omega) (by omega) (by rw [show ((bb) + 1).toNat = bb.toNat + 1 by omega, LSv, ← j2, Int.toNat_of_nonneg (by omega)]) (by rw [j3, up_sA, ← rwF_s _ (by omega), ← j2]) _ _ hP hD hS ls (lv_sub hl [0, 1, 3] rfl)
  exact LP4 ((st 19 3 - (0)) + 1 : Int).toNat (0) (0) (st) (by omega) (by omega) (rfl) (by rw [rwF_0, sA_self]) _ _ hP hD hS ls (lv_sub hl [0, 1, 2] rfl)
abbrev rX3_writeSequence : Room := { frames := 1, cells := 0, slots := 0, locals := 25 }
set_option maxHeartbeats 4000000 in
set_option maxRecDepth 100000 in
theorem m_X3_writeSequence (l : Launch) (D : va_G) (g : Nat → ClassId) (a : Nat → Nat) (st : SS) (hI : IC st) (hQ : IP st) (h1 : 0 ≤ st 21 0) : Met l yX3_writeSequence wsX3_writeSequence rX3_writeSequence (PcM D g (AWC a) (WC g a st) [.ref (a 5)]) (QcV D (WC g a) (AWC a) (fun u => u = sA st 10 (sqF st (st 21 0)))) 0 0 (AWC a) := by
  refine metV (cc := cX3_writeSequence) (maxL := 5) (own := RX3) (by decide) rfl rfl (Nat.le_of_ble_eq_true rfl) ?_
  intro p e R s m args below meth c Q ls S hRf hRl hK hP hD hS hl K
  have hx := S.1
  have hb := S.2.1
  have hown := S.2.2.2.1
  have hts := S.2.2.2.2
  have hRf : 1 ≤ R.frames := hRf
  have hRl : 25 ≤ R.locals := hRl
  have hl : lv_has ls 5 [(0, .ref (a 5))] := hl
  have iX3 : ∀ w ∈ wsX30, w ∈ wsX3_writeSequence := by decide +kernel
  have iX4 : ∀ w ∈ wsX40, w ∈ wsX3_writeSequence := by decide +kernel
  have hB := hI.s
  have hC := hQ.s
  refine lv_aload_n hx hb dX3_writeSequence_0 rfl (lv_at hl 0 rfl) ?_
  refine z_get (C := RX3) (T := TX3) (N := 11) (ci := 2) hx hb hts iX3 hown hK hP 5 rfl rfl 9 (by decide) (hts (.fieldLink RX3 99 "ShotBoard$Planner" "chosen" "I") (by decide +kernel)) (.int (iZ (st 21 (1)))) rfl dX3_writeSequence_1 ?_
  refine lv_istore_n (lv' := [(1, .int (iZ (st 21 (1)))), (0, .ref (a 5))]) hx hb dX3_writeSequence_4 rfl hl (by decide) rfl (fun ls hl => ?_)
  refine z_iconst hx hb dX3_writeSequence_5 ?_
  refine lv_istore_n (lv' := [(2, .int (iZ (-1))), (1, .int (iZ (st 21 (1)))), (0, .ref (a 5))]) hx hb dX3_writeSequence_6 rfl hl (by decide) rfl (fun ls hl => ?_)
  refine z_iconst hx hb dX3_writeSequence_7 ?_
  refine lv_istore_n (lv' := [(3, .int (iZ (0))), (2, .int (iZ (-1))), (1, .int (iZ (st 21 (1)))), (0, .ref (a 5))]) hx hb dX3_writeSequence_8 rfl hl (by decide) rfl (fun ls hl => ?_)
  have LP9 : ∀ (n9 : Nat) (le : Int) (li : Int) (ii : Int) (uu : SS), (st 21 0 - ii) < (n9 : Int) → (0 ≤ ii ∧ ii ≤ st 21 0) → (le = (SQ st ii.toNat).1 ∧ li = (SQ st ii.toNat).2) → (uu = sA st 10 (sqF st ii)) → ∀ (H : Heap) (locs : List Loc), va_P D vwCl (WC g a uu) H → va_D (AWC a) (WC g a uu) → va_S (AWC a) s.heap H locs → ∀ (ls : Array Slot), lv_has ls 5 [(3, .int (iZ (ii))), (2, .int (iZ (li))), (1, .int (iZ (le))), (0, .ref (a 5))] → W p l e R s m args below meth c H locs 0 0 Q (F0 m 9 ls []) := by
    intro n9
    induction n9 with
    | zero =>
      intro le li ii uu hm9 j1 j2 j3 H locs hP hD hS ls hl
      exact absurd hm9 (by omega)
    | succ n9 ih9 =>
      intro le li ii uu hm9 j1 j2 j3 H locs hP hD hS ls hl
      have hsq := SQ_b hI hQ ii.toNat
      rw [← j2.1, ← j2.2] at hsq
      have hn1 := nxA_b st le li (by omega)
      have hn2 := nxA_b st le (-1) (by omega)
      have hnx := nx_b st le li (by omega)
      have hl4 := hI.c4 (nx st le li) (by omega) (by omega)
      have e21 : uu 21 0 = st 21 0 := by rw [j3]; rfl
      refine lv_iload_n hx hb dX3_writeSequence_9 rfl (lv_at hl 0 rfl) ?_
      refine lv_aload_n hx hb dX3_writeSequence_10 rfl (lv_at hl 3 rfl) ?_
      refine z_get (C := RX3) (T := TX3) (N := 11) (ci := 2) hx hb hts iX3 hown hK hP 5 rfl rfl 8 (by decide) (hts (.fieldLink RX3 80 "ShotBoard$Planner" "used" "I") (by decide +kernel)) (.int (iZ (uu 21 (0)))) rfl dX3_writeSequence_11 ?_
      refine z_icmp_ge (tgt := 76) hx hb (by omega) (by omega) dX3_writeSequence_14 (by decide) (fun c1 => ?_) (fun c1 => ?_)
      · skip
        exact K (uu) _ _ _ _ hP hS (by rw [j3, show ii = st 21 0 by omega]) dX3_writeSequence_76
      · skip
        refine lv_aload_n hx hb dX3_writeSequence_17 rfl (lv_at hl 3 rfl) ?_
        refine lv_iload_n hx hb dX3_writeSequence_18 rfl (lv_at hl 2 rfl) ?_
        refine lv_iload_n hx hb dX3_writeSequence_19 rfl (lv_at hl 1 rfl) ?_
        refine z_cVR (q0 := 5) (ci := 2) (As := [.int (iZ (le)), .int (iZ (li))]) (rest := []) S (m_X3_leastOf l D g a (uu) (le) (li) (by rw [j3]; exact hI) (by omega) (by omega)) (cwV 2 hts gX3_writeSequence_X3_leastOf rfl rfl rfl (by decide +kernel) ⟨Nat.le_trans (by decide) hRf, Nat.le_trans (by decide) hRl⟩) hK hP rfl rfl rfl hl.1 rfl (Nat.le_of_ble_eq_true rfl) dX3_writeSequence_20 ⟨Nat.zero_le _, Nat.zero_le _⟩ ?_
        refine z_as (y := nxA st le li) (by rw [j3]; rfl) ?_
        refine lv_istore (lv' := [(4, .int (iZ (nxA st le li))), (3, .int (iZ (ii))), (2, .int (iZ (li))), (1, .int (iZ (le))), (0, .ref (a 5))]) hx hb dX3_writeSequence_23 hl (by decide) rfl (fun ls hl => ?_)
        refine lv_iload hx hb dX3_writeSequence_25 (lv_at hl 0 rfl) ?_
        refine z_if_ge (tgt := 42) hx hb (by omega) dX3_writeSequence_27 (by decide) (fun c2 => ?_) (fun c2 => ?_)
        · skip
          have hif : nxA st le li = nx st le li := (if_neg (by omega)).symm
          rw [hif] at hl
          refine lv_aload_n hx hb dX3_writeSequence_42 rfl (lv_at hl 4 rfl) ?_
          refine z_get (C := RX3) (T := TX3) (N := 11) (ci := 2) hx hb hts iX3 hown hK hP 5 rfl rfl 7 (by decide) (hts (.fieldLink RX3 25 "ShotBoard$Planner" "sequence" "[I") (by decide +kernel)) (.ref (a 18)) rfl dX3_writeSequence_43 ?_
          refine lv_iload_n hx hb dX3_writeSequence_46 rfl (lv_at hl 1 rfl) ?_
          refine lv_iload hx hb dX3_writeSequence_47 (lv_at hl 0 rfl) ?_
          refine z_iast hx hb hK hP hD hS 18 (uu 10) rfl (by omega) (by omega) (by omega) (WC g a (up (uu) 10 (ii) (nx st le li))) rfl dX3_writeSequence_49 (fun H locs hP hD hS => ?_)
          refine lv_aload_n hx hb dX3_writeSequence_50 rfl (lv_at hl 4 rfl) ?_
          refine z_get (C := RX3) (T := TX3) (N := 11) (ci := 2) hx hb hts iX3 hown hK hP 5 rfl rfl 1 (by decide) (hts (.fieldLink RX3 32 "ShotBoard$Planner" "rig" "LShotBoard$Rig;") (by decide +kernel)) (.ref (a 2)) rfl dX3_writeSequence_51 ?_
          refine z_get (C := RX4) (T := TX4) (N := 3) (ci := 3) hx hb hts iX4 hown hK hP 2 rfl rfl 1 (by decide) (hts (.fieldLink RX3 125 "ShotBoard$Rig" "lights" "[I") (by decide +kernel)) (.ref (a 12)) rfl dX3_writeSequence_54 ?_
          refine lv_iload hx hb dX3_writeSequence_57 (lv_at hl 0 rfl) ?_
          refine z_iald hx hb hK hP 12 ((up (uu) 10 (ii) (nx st le li)) 4) rfl (by omega) (by omega) (by omega) dX3_writeSequence_59 ?_
          refine z_as (y := uu 4 (nx st le li)) (by rw [j3]; rfl) ?_
          refine lv_istore_n (lv' := [(2, .int (iZ (uu 4 (nx st le li)))), (4, .int (iZ (nx st le li))), (3, .int (iZ (ii))), (1, .int (iZ (le))), (0, .ref (a 5))]) hx hb dX3_writeSequence_60 rfl hl (by decide) rfl (fun ls hl => ?_)
          refine lv_iload_n hx hb dX3_writeSequence_61 rfl (lv_at hl 3 rfl) ?_
          refine z_iconst hx hb dX3_writeSequence_62 ?_
          refine lv_iload hx hb dX3_writeSequence_63 (lv_at hl 1 rfl) ?_
          refine z_ishl hx hb dX3_writeSequence_65 ?_
          refine z_iconst hx hb dX3_writeSequence_66 ?_
          refine z_ixor hx hb dX3_writeSequence_67 ?_
          refine z_iand hx hb dX3_writeSequence_68 ?_
          refine z_as (y := clr le (nx st le li)) (clr_z (by omega) (by omega) (by omega) (by omega)) ?_
          refine lv_istore_n (lv' := [(1, .int (iZ (clr le (nx st le li)))), (2, .int (iZ (uu 4 (nx st le li)))), (4, .int (iZ (nx st le li))), (3, .int (iZ (ii))), (0, .ref (a 5))]) hx hb dX3_writeSequence_69 rfl hl (by decide) rfl (fun ls hl => ?_)
          refine z_iinc (lv' := [(3, .int (iZ ((ii) + 1))), (1, .int (iZ (clr le (nx st le li)))), (2, .int (iZ (uu 4 (nx st le li)))), (4, .int (iZ (nx st le li))), (0, .ref (a 5))]) hx hb dX3_writeSequence_70 hl (k := 3) rfl (by decide) rfl (fun ls hl => ?_)
          refine lv_goto (tgt := 9) hx hb dX3_writeSequence_73 (by decide) ?_
          exact ih9 (clr le (nx st le li)) (uu 4 (nx st le li)) ((ii) + 1) (up (uu) 10 (ii) (nx st le li)) (by omega) (by omega) (by rw [show ((ii) + 1).toNat = ii.toNat + 1 by omega, SQ, ← j2.1, ← j2.2]; exact ⟨rfl, by rw [j3]; rfl⟩) (by rw [j3, up_sA, ← sqF_s _ (by omega), ← j2.1, ← j2.2]) _ _ hP hD hS ls (lv_sub hl [0, 2, 1, 4] rfl)
        · skip
          have hif : (if 0 < nxA st le (-1) then nxA st le (-1) else 0) = nx st le li := (if_pos c2).symm
          refine z_iconst hx hb dX3_writeSequence_30 ?_
          refine lv_aload_n hx hb dX3_writeSequence_31 rfl (lv_at hl 4 rfl) ?_
          refine lv_iload_n hx hb dX3_writeSequence_32 rfl (lv_at hl 3 rfl) ?_
          refine z_iconst hx hb dX3_writeSequence_33 ?_
          refine z_cVR (q0 := 5) (ci := 2) (As := [.int (iZ (le)), .int (iZ (-1))]) (rest := [.int (iZ (0))]) S (m_X3_leastOf l D g a (uu) (le) (-1) (by rw [j3]; exact hI) (by omega) (by omega)) (cwV 2 hts gX3_writeSequence_X3_leastOf rfl rfl rfl (by decide +kernel) ⟨Nat.le_trans (by decide) hRf, Nat.le_trans (by decide) hRl⟩) hK hP rfl rfl rfl hl.1 rfl (Nat.le_of_ble_eq_true rfl) dX3_writeSequence_34 ⟨Nat.zero_le _, Nat.zero_le _⟩ ?_
          refine z_as (y := nxA st le (-1)) (by rw [j3]; rfl) ?_
          refine z_max hx hb (S.2.2.1.trans hl.1.symm) hown (hts (.methodLink RX3 116 Lib.Math.max.name) (by decide +kernel)) (hts (.static Lib.Math.max.name) (by decide +kernel)) (hts (.initialized "java/lang/Math") (by decide +kernel)) (hts (.code Lib.Math.max.name Lib.Math.max.code 2 (some .int)) (by decide +kernel)) (Nat.le_trans (by decide) hRf) (Nat.le_trans (Nat.le_of_ble_eq_true rfl) hRl) (Nat.zero_le _) (Nat.zero_le _) (by decide) (by omega) dX3_writeSequence_37 ?_
          refine z_as (y := nx st le li) (hif) ?_
          refine lv_istore (lv' := [(4, .int (iZ (nx st le li))), (3, .int (iZ (ii))), (2, .int (iZ (li))), (1, .int (iZ (le))), (0, .ref (a 5))]) hx hb dX3_writeSequence_40 hl (by decide) rfl (fun ls hl => ?_)
          refine lv_aload_n hx hb dX3_writeSequence_42 rfl (lv_at hl 4 rfl) ?_
          refine z_get (C := RX3) (T := TX3) (N := 11) (ci := 2) hx hb hts iX3 hown hK hP 5 rfl rfl 7 (by decide) (hts (.fieldLink RX3 25 "ShotBoard$Planner" "sequence" "[I") (by decide +kernel)) (.ref (a 18)) rfl dX3_writeSequence_43 ?_
          refine lv_iload_n hx hb dX3_writeSequence_46 rfl (lv_at hl 1 rfl) ?_
          refine lv_iload hx hb dX3_writeSequence_47 (lv_at hl 0 rfl) ?_
          refine z_iast hx hb hK hP hD hS 18 (uu 10) rfl (by omega) (by omega) (by omega) (WC g a (up (uu) 10 (ii) (nx st le li))) rfl dX3_writeSequence_49 (fun H locs hP hD hS => ?_)
          refine lv_aload_n hx hb dX3_writeSequence_50 rfl (lv_at hl 4 rfl) ?_
          refine z_get (C := RX3) (T := TX3) (N := 11) (ci := 2) hx hb hts iX3 hown hK hP 5 rfl rfl 1 (by decide) (hts (.fieldLink RX3 32 "ShotBoard$Planner" "rig" "LShotBoard$Rig;") (by decide +kernel)) (.ref (a 2)) rfl dX3_writeSequence_51 ?_
          refine z_get (C := RX4) (T := TX4) (N := 3) (ci := 3) hx hb hts iX4 hown hK hP 2 rfl rfl 1 (by decide) (hts (.fieldLink RX3 125 "ShotBoard$Rig" "lights" "[I") (by decide +kernel)) (.ref (a 12)) rfl dX3_writeSequence_54 ?_
          refine lv_iload hx hb dX3_writeSequence_57 (lv_at hl 0 rfl) ?_
          refine z_iald hx hb hK hP 12 ((up (uu) 10 (ii) (nx st le li)) 4) rfl (by omega) (by omega) (by omega) dX3_writeSequence_59 ?_
          refine z_as (y := uu 4 (nx st le li)) (by rw [j3]; rfl) ?_
          refine lv_istore_n (lv' := [(2, .int (iZ (uu 4 (nx st le li)))), (4, .int (iZ (nx st le li))), (3, .int (iZ (ii))), (1, .int (iZ (le))), (0, .ref (a 5))]) hx hb dX3_writeSequence_60 rfl hl (by decide) rfl (fun ls hl => ?_)
          refine lv_iload_n hx hb dX3_writeSequence_61 rfl (lv_at hl 3 rfl) ?_
          refine z_iconst hx hb dX3_writeSequence_62 ?_
          refine lv_iload hx hb dX3_writeSequence_63 (lv_at hl 1 rfl) ?_
          refine z_ishl hx hb dX3_writeSequence_65 ?_
          refine z_iconst hx hb dX3_writeSequence_66 ?_
          refine z_ixor hx hb dX3_writeSequence_67 ?_
          refine z_iand hx hb dX3_writeSequence_68 ?_
          refine z_as (y := clr le (nx st le li)) (clr_z (by omega) (by omega) (by omega) (by omega)) ?_
          refine lv_istore_n (lv' := [(1, .int (iZ (clr le (nx st le li)))), (2, .int (iZ (uu 4 (nx st le li)))), (4, .int (iZ (nx st le li))), (3, .int (iZ (ii))), (0, .ref (a 5))]) hx hb dX3_writeSequence_69 rfl hl (by decide) rfl (fun ls hl => ?_)
          refine z_iinc (lv' := [(3, .int (iZ ((ii) + 1))), (1, .int (iZ (clr le (nx st le li)))), (2, .int (iZ (uu 4 (nx st le li)))), (4, .int (iZ (nx st le li))), (0, .ref (a 5))]) hx hb dX3_writeSequence_70 hl (k := 3) rfl (by decide) rfl (fun ls hl => ?_)
          refine lv_goto (tgt := 9) hx hb dX3_writeSequence_73 (by decide) ?_
          exact ih9 (clr le (nx st le li)) (uu 4 (nx st le li)) ((ii) + 1) (up (uu) 10 (ii) (nx st le li)) (by omega) (by omega) (by rw [show ((ii) + 1).toNat = ii.toNat + 1 by omega, SQ, ← j2.1, ← j2.2]; exact ⟨rfl, by rw [j3]; rfl⟩) (by rw [j3, up_sA, ← sqF_s _ (by omega), ← j2.1, ← j2.2]) _ _ hP hD hS ls (lv_sub hl [0, 2, 1, 4] rfl)
  exact LP9 ((st 21 0 - (0)) + 1 : Int).toNat (st 21 (1)) (-1) (0) (st) (by omega) (by omega) (⟨rfl, rfl⟩) (by rw [sqF_0, sA_self]) _ _ hP hD hS ls (lv_sub hl [0, 1, 2, 3] rfl)
