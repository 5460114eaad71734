theorem zand31 (x : Int) : 0 ≤ zand x 31 ∧ zand x 31 < 32 := by
  unfold zand
  have e : iZ 31 = (31 : Int32) := by decide +kernel
  rw [e, pk_and _ (m := 31) 5 (by decide +kernel), nI_toInt (by omega)]
  omega
set_option maxHeartbeats 4000000 in
set_option maxRecDepth 100000 in
/-- one turn of the law's loop -/
theorem law_turn {p : Program} {l : Launch} {e : Env} {s : State} {m : MethodId} {below : List Frame} {meth : Method} {c : Code} {H : Heap} {locs : List Loc} {Q : State → Prop} {D : va_G} {g : Nat → ClassId} {a b : Nat → Nat} {bb L : Nat} {xs : Nat → Int32} {ls : Array Slot} {st mt : SS} {i : Int} (X : LC p s m meth c D g a b bb L xs) (hi : 0 ≤ i ∧ i + 5 ≤ L) (hR : REL st mt) (hP : va_P D vwCl (WC g a st) H) (hQ : va_P D vwCl (WM g b mt) H) (hS : va_S (A0 s) s.heap H locs) (hl : lv_has ls 4 [(0, .ref bb), (1, .ref (a 0)), (2, .ref (b 0)), (3, .int (iZ i))]) (kend : ∀ (u v : SS) (H1 : Heap) (locs1 : List Loc), REL u v → va_P D vwCl (WC g a u) H1 → va_P D vwCl (WM g b v) H1 → va_S (A0 s) s.heap H1 locs1 → W p l e room_1 s m #[Value.ref bb] below meth c H1 locs1 47 1131 Q (F0 m 880 ls [])) : W p l e room_1 s m #[Value.ref bb] below meth c H locs 47 1131 Q (F0 m 26 ls []) := by
  have hx := X.1.1
  have hb : c.code = cL_law := X.1.2.1
  refine lv_aload_n hx hb dL_law_26 rfl (lv_at hl 0 rfl) ?_
  refine lv_iload_n hx hb dL_law_27 rfl (lv_at hl 3 rfl) ?_
  refine z_sld X hb hS (by omega) (by omega) dL_law_28 ?_
  refine z_bipush hx hb dL_law_29 (by decide +kernel) ?_
  refine z_iand hx hb dL_law_31 ?_
  have hz := zand31 (XS xs i)
  generalize zand (XS xs i) 31 = z at hz ⊢
  rcases (show z = 0 ∨ z = 1 ∨ z = 2 ∨ z = 3 ∨ z = 4 ∨ z = 5 ∨ z = 6 ∨ z = 7 ∨ z = 8 ∨ z = 9 ∨ z = 10 ∨ z = 11 ∨ z = 12 ∨ z = 13 ∨ z = 14 ∨ z = 15 ∨ z = 16 ∨ z = 17 ∨ z = 18 ∨ z = 19 ∨ z = 20 ∨ z = 21 ∨ z = 22 ∨ z = 23 ∨ z = 24 ∨ z = 25 ∨ 26 ≤ z by omega) with h9 | h9 | h9 | h9 | h9 | h9 | h9 | h9 | h9 | h9 | h9 | h9 | h9 | h9 | h9 | h9 | h9 | h9 | h9 | h9 | h9 | h9 | h9 | h9 | h9 | h9 | h9
  · refine z_as h9 ?_
    refine lv_tableIn (off := 120) (tgt := 152) hx hb dL_law_32 (by decide +kernel) (by decide +kernel) (by decide +kernel) (by decide) ?_
    exact lc_person X hi hR hP hQ hS hl kend
  · refine z_as h9 ?_
    refine lv_tableIn (off := 143) (tgt := 175) hx hb dL_law_32 (by decide +kernel) (by decide +kernel) (by decide +kernel) (by decide) ?_
    exact lc_step X hi hR hP hQ hS hl kend
  · refine z_as h9 ?_
    refine lv_tableIn (off := 186) (tgt := 218) hx hb dL_law_32 (by decide +kernel) (by decide +kernel) (by decide +kernel) (by decide) ?_
    exact lc_wall X hi hR hP hQ hS hl kend
  · refine z_as h9 ?_
    refine lv_tableIn (off := 219) (tgt := 251) hx hb dL_law_32 (by decide +kernel) (by decide +kernel) (by decide +kernel) (by decide) ?_
    exact lc_open X hi hR hP hQ hS hl kend
  · refine z_as h9 ?_
    refine lv_tableIn (off := 232) (tgt := 264) hx hb dL_law_32 (by decide +kernel) (by decide +kernel) (by decide +kernel) (by decide) ?_
    exact lc_camera X hi hR hP hQ hS hl kend
  · refine z_as h9 ?_
    refine lv_tableIn (off := 265) (tgt := 297) hx hb dL_law_32 (by decide +kernel) (by decide +kernel) (by decide +kernel) (by decide) ?_
    exact lc_board X hi hR hP hQ hS hl kend
  · refine z_as h9 ?_
    refine lv_tableIn (off := 318) (tgt := 350) hx hb dL_law_32 (by decide +kernel) (by decide +kernel) (by decide +kernel) (by decide) ?_
    exact lc_drop X hi hR hP hQ hS hl kend
  · refine z_as h9 ?_
    refine lv_tableIn (off := 331) (tgt := 363) hx hb dL_law_32 (by decide +kernel) (by decide +kernel) (by decide +kernel) (by decide) ?_
    exact lc_rate X hi hR hP hQ hS hl kend
  · refine z_as h9 ?_
    refine lv_tableIn (off := 354) (tgt := 386) hx hb dL_law_32 (by decide +kernel) (by decide +kernel) (by decide +kernel) (by decide) ?_
    exact lc_where X hi hR hP hQ hS hl kend
  · refine z_as h9 ?_
    refine lv_tableIn (off := 387) (tgt := 419) hx hb dL_law_32 (by decide +kernel) (by decide +kernel) (by decide +kernel) (by decide) ?_
    exact lc_hidden X hi hR hP hQ hS hl kend
  · refine z_as h9 ?_
    refine lv_tableIn (off := 430) (tgt := 462) hx hb dL_law_32 (by decide +kernel) (by decide +kernel) (by decide +kernel) (by decide) ?_
    exact lc_sees X hi hR hP hQ hS hl kend
  · refine z_as h9 ?_
    refine lv_tableIn (off := 483) (tgt := 515) hx hb dL_law_32 (by decide +kernel) (by decide +kernel) (by decide +kernel) (by decide) ?_
    exact lc_size X hi hR hP hQ hS hl kend
  · refine z_as h9 ?_
    refine lv_tableIn (off := 526) (tgt := 558) hx hb dL_law_32 (by decide +kernel) (by decide +kernel) (by decide +kernel) (by decide) ?_
    exact lc_views X hi hR hP hQ hS hl kend
  · refine z_as h9 ?_
    refine lv_tableIn (off := 559) (tgt := 591) hx hb dL_law_32 (by decide +kernel) (by decide +kernel) (by decide +kernel) (by decide) ?_
    exact lc_gives X hi hR hP hQ hS hl kend
  · refine z_as h9 ?_
    refine lv_tableIn (off := 592) (tgt := 624) hx hb dL_law_32 (by decide +kernel) (by decide +kernel) (by decide +kernel) (by decide) ?_
    exact lc_why X hi hR hP hQ hS hl kend
  · refine z_as h9 ?_
    refine lv_tableIn (off := 625) (tgt := 657) hx hb dL_law_32 (by decide +kernel) (by decide +kernel) (by decide +kernel) (by decide) ?_
    exact lc_side X hi hR hP hQ hS hl kend
  · refine z_as h9 ?_
    refine lv_tableIn (off := 658) (tgt := 690) hx hb dL_law_32 (by decide +kernel) (by decide +kernel) (by decide +kernel) (by decide) ?_
    exact lc_length X hi hR hP hQ hS hl kend
  · refine z_as h9 ?_
    refine lv_tableIn (off := 681) (tgt := 713) hx hb dL_law_32 (by decide +kernel) (by decide +kernel) (by decide +kernel) (by decide) ?_
    exact lc_fewest X hi hR hP hQ hS hl kend
  · refine z_as h9 ?_
    refine lv_tableIn (off := 694) (tgt := 726) hx hb dL_law_32 (by decide +kernel) (by decide +kernel) (by decide +kernel) (by decide) ?_
    exact lc_plan X hi hR hP hQ hS hl kend
  · refine z_as h9 ?_
    refine lv_tableIn (off := 717) (tgt := 749) hx hb dL_law_32 (by decide +kernel) (by decide +kernel) (by decide +kernel) (by decide) ?_
    exact lc_swings X hi hR hP hQ hS hl kend
  · refine z_as h9 ?_
    refine lv_tableIn (off := 730) (tgt := 762) hx hb dL_law_32 (by decide +kernel) (by decide +kernel) (by decide +kernel) (by decide) ?_
    exact lc_order X hi hR hP hQ hS hl kend
  · refine z_as h9 ?_
    refine lv_tableIn (off := 753) (tgt := 785) hx hb dL_law_32 (by decide +kernel) (by decide +kernel) (by decide +kernel) (by decide) ?_
    exact lc_crossings X hi hR hP hQ hS hl kend
  · refine z_as h9 ?_
    refine lv_tableIn (off := 766) (tgt := 798) hx hb dL_law_32 (by decide +kernel) (by decide +kernel) (by decide +kernel) (by decide) ?_
    exact lc_list X hi hR hP hQ hS hl kend
  · refine z_as h9 ?_
    refine lv_tableIn (off := 789) (tgt := 821) hx hb dL_law_32 (by decide +kernel) (by decide +kernel) (by decide +kernel) (by decide) ?_
    exact lc_run X hi hR hP hQ hS hl kend
  · refine z_as h9 ?_
    refine lv_tableIn (off := 802) (tgt := 834) hx hb dL_law_32 (by decide +kernel) (by decide +kernel) (by decide +kernel) (by decide) ?_
    exact lc_frame X hi hR hP hQ hS hl kend
  · refine z_as h9 ?_
    refine lv_tableIn (off := 825) (tgt := 857) hx hb dL_law_32 (by decide +kernel) (by decide +kernel) (by decide +kernel) (by decide) ?_
    exact lc_count X hi hR hP hQ hS hl kend
  · refine lv_tableOut (tgt := 880) hx hb dL_law_32 (Or.inr (by rw [iZ_t (by omega)]; omega)) (by decide) ?_
    exact kend st mt H locs hR hP hQ hS
set_option maxHeartbeats 4000000 in
set_option maxRecDepth 100000 in
/-- THE LAW'S LOOP -/
theorem law_loop {p : Program} {l : Launch} {e : Env} {s : State} {m : MethodId} {below : List Frame} {meth : Method} {c : Code} {D : va_G} {g : Nat → ClassId} {a b : Nat → Nat} {bb L : Nat} {xs : Nat → Int32} (X : LC p s m meth c D g a b bb L xs) : ∀ (n : Nat) (i : Int) (st mt : SS) (H : Heap) (locs : List Loc) (ls : Array Slot), 0 ≤ i → i ≤ L → (L : Int) + 1 ≤ i + n → REL st mt → va_P D vwCl (WC g a st) H → va_P D vwCl (WM g b mt) H → va_S (A0 s) s.heap H locs → lv_has ls 4 [(0, .ref bb), (1, .ref (a 0)), (2, .ref (b 0)), (3, .int (iZ i))] → W p l e room_1 s m #[Value.ref bb] below meth c H locs 47 1131 (lw_Z below #[Value.ref bb] s) (F0 m 18 ls []) := by
  have hL := X.2.1
  have hx := X.1.1
  have hb : c.code = cL_law := X.1.2.1
  have hr := X.1.2.2.1
  have hlocks := X.1.2.2.2.2.2.2.2.2.1
  intro n
  induction n with
  | zero =>
    intro i st mt H locs ls h0 h1 h2
    omega
  | succ n ih =>
    intro i st mt H locs ls h0 h1 h2 hR hP hQ hS hl
    refine lv_iload_n hx hb dL_law_18 rfl (lv_at hl 3 rfl) ?_
    refine lv_aload_n hx hb dL_law_19 rfl (lv_at hl 0 rfl) ?_
    refine z_slen X hb hS dL_law_20 ?_
    refine z_iconst hx hb dL_law_21 ?_
    refine z_isub hx hb dL_law_22 ?_
    refine z_icmp_gt (tgt := 886) hx hb (by omega) (by omega) dL_law_23 (by decide) (fun _ => ?_) (fun h3 => ?_)
    · refine lv_iconst (v := 1) hx hb dL_law_886 (by decide) ?_
      refine va_forget (fun q hq => hS.2.2 q hq) ?_
      refine W.widen (k := 600000) (n := 7302250) (Nat.le_of_ble_eq_true rfl) (Nat.le_of_ble_eq_true rfl) ?_
      exact lw_ret hx hb hr hlocks dL_law_887
    · refine law_turn X ⟨h0, by omega⟩ hR hP hQ hS hl (fun u v H1 locs1 hR hP hQ hS => ?_)
      refine z_iinc (x := i) (lv' := [(3, .int (iZ (i + 5))), (0, .ref bb), (1, .ref (a 0)), (2, .ref (b 0))]) hx hb dL_law_880 hl (k := 3) rfl (by decide) rfl (fun ls hl => ?_)
      refine lv_goto (tgt := 18) hx hb dL_law_883 (by decide) ?_
      exact ih (i + 5) u v H1 locs1 ls (by omega) (by omega) (by omega) hR hP hQ hS (lv_sub hl [1, 2, 3, 0] rfl)
theorem inL {w : Cond} {k : Nat} (h : lw_tbl[k]? = some w) : w ∈ lw_tbl := List.mem_of_getElem? h
set_option maxHeartbeats 4000000 in
set_option maxRecDepth 100000 in
/-- THE LAW, from its entry -/
theorem whole_start {p : Program} {e : Env} {s : State} {m : MethodId} {below : List Frame} {meth : Method} {c : Code} (l : Launch) {b L : Nat} {xs : Nat → Int32} (hL : L ≤ 2560) (C0 : lw_At p s m meth c b L xs) : W p l e room_1 s m #[Value.ref b] below meth c s.heap [] 0 0 (lw_Z below #[Value.ref b] s) (entryFrame m ([Value.ref b] : List Value).toArray 4) := by
  obtain ⟨hx, hb, hr, hml, hown, hts0, hX, hbl, hlocks, hgv⟩ := id C0
  have hb : c.code = cL_law := hb
  have hts : ∀ w ∈ wsL_law, w.before #[Value.ref b] s = true := fun w h => hts0 w (wsL_law_in w h)
  have S : CallFix p m c cL_law 4 s #[Value.ref b] wsL_law RL := ⟨hx, hb, hml, hown, hts⟩
  have hA : ∀ q : Nat, s.heap.size ≤ q → A0 s q := fun _ h => h
  have hN : NX s := ⟨va_Nw.of rfl (hts0 (.methodLinkNest RX7 9 yX6_init "ShotBoard") (inL (k := 58) (by decide +kernel))), va_Nw.of rfl (hts0 (.methodLinkNest RX7 18 yX4_init "ShotBoard") (inL (k := 88) (by decide +kernel))), va_Nw.of rfl (hts0 (.methodLinkNest RX5 21 yX0_init "ShotBoard") (inL (k := 116) (by decide +kernel))), va_AO.of (hts0 (.arrayOver (.object RX0)) (inL (k := 114) (by decide +kernel)))⟩
  obtain ⟨c0, iS0, hKn0⟩ := u_known (C := RX0) (T := TX0) (N := 8) (n := 8) hts0 inX0 (hts (.instantiable RX0 8) (by decide +kernel))
  obtain ⟨c1, iS1, hKn1⟩ := u_known (C := RX1) (T := TX1) (N := 1) (n := 1) hts0 inX1 (hts (.instantiable RX1 1) (by decide +kernel))
  obtain ⟨c2, iS2, hKn2⟩ := u_known (C := RX3) (T := TX3) (N := 11) (n := 11) hts0 inX3 (hts (.instantiable RX3 11) (by decide +kernel))
  obtain ⟨c3, iS3, hKn3⟩ := u_known (C := RX4) (T := TX4) (N := 3) (n := 3) hts0 inX4 (hts (.instantiable RX4 3) (by decide +kernel))
  obtain ⟨c4, iS4, hKn4⟩ := u_known (C := RX5) (T := TX5) (N := 3) (n := 3) hts0 inX5 (hts (.instantiable RX5 3) (by decide +kernel))
  obtain ⟨c5, iS5, hKn5⟩ := u_known (C := RX6) (T := TX6) (N := 6) (n := 6) hts0 inX6 (hts (.instantiable RX6 6) (by decide +kernel))
  obtain ⟨c6, iS6, hKn6⟩ := u_known (C := RX7) (T := TX7) (N := 7) (n := 7) hts0 inX7 (hts (.instantiable RX7 7) (by decide +kernel))
  obtain ⟨c7, iS7, hKn7⟩ := u_known (C := RX8) (T := TX8) (N := 26) (n := 26) hts0 inX8 (hts (.instantiable RX8 26) (by decide +kernel))
  obtain ⟨D, hKc⟩ : ∃ D : va_G, ∀ (k : Nat) (q : vw_C), vwCl[k]? = some q → u_Kn s q.1 q.2.1 q.2.2 (D.1 k) (D.2 k) := by
    refine ⟨(fun k => [c0, c1, c2, c3, c4, c5, c6, c7].getD k c0, fun k => [iS0, iS1, iS2, iS3, iS4, iS5, iS6, iS7].getD k iS0), ?_⟩
    intro k q hq
    match k, hq with
    | 0, hq => cases hq; exact hKn0
    | 1, hq => cases hq; exact hKn1
    | 2, hq => cases hq; exact hKn2
    | 3, hq => cases hq; exact hKn3
    | 4, hq => cases hq; exact hKn4
    | 5, hq => cases hq; exact hKn5
    | 6, hq => cases hq; exact hKn6
    | 7, hq => cases hq; exact hKn7
    | k + 8, hq => simp [vwCl] at hq
  obtain ⟨g0, k0, p0, f1, f2, f3⟩ := Cond.arrayClass_spec (hts0 (.arrayClass .int) (inL (k := 84) (by decide +kernel)))
  obtain ⟨g1, k1, p1, f4, f5, f6⟩ := Cond.arrayClass_spec (hts0 (.arrayClass .long) (inL (k := 85) (by decide +kernel)))
  obtain ⟨g2, k2, p2, f7, f8, f9⟩ := Cond.arrayClass_spec (hts0 (.arrayClass .boolean) (inL (k := 224) (by decide +kernel)))
  obtain ⟨p3, g3, k3, e1, e2, e3, e4, e5⟩ := Cond.arrayOver_spec (hts0 (.arrayOver (.object RX0)) (inL (k := 114) (by decide +kernel)))
  obtain ⟨g, hK⟩ : ∃ g : Nat → ClassId, va_K D vwCl (TY g) s := by
    refine ⟨fun k => [g0, g1, g2, g3].getD k g0, hKc, ?_⟩
    intro k q hq
    match k, hq with
    | 0, hq => cases hq; exact ⟨fun n z => ⟨fun k h => (by cases h), k0, f2, p0, f3⟩, f1⟩
    | 1, hq => cases hq; exact ⟨fun n z => ⟨fun k h => (by cases h), k1, f5, p1, f6⟩, f4⟩
    | 2, hq => cases hq; exact ⟨fun n z => ⟨fun k h => (by cases h), k2, f8, p2, f9⟩, f7⟩
    | 3, hq => cases hq; exact ⟨fun n z => ⟨fun k h => (by cases h), k3, e3, p3, e4⟩, k3, p3, e3, e4, e1, e5⟩
    | k + 4, hq => simp at hq
  have hS : va_S (A0 s) s.heap s.heap [] := va_S.rf
  have hP : va_P D vwCl [] s.heap := fun k q h => by simp at h
  have hD : va_D (A0 s) [] := ⟨fun i j p q h => by simp at h, fun k q h => by simp at h⟩
  have hl := lv_entry ([.ref b]) (n := 4) (Nat.le_of_ble_eq_true rfl)
  rw [lg_entry_eq]
  generalize (lg_sl ([.ref b]) ++ List.replicate (4 - (lg_sl ([.ref b])).length) Slot.unset).toArray = ls at hl ⊢
  have hl : lv_has ls 4 [(0, .ref b)] := hl
  refine va_new (ci := 6) (fs := [.null, .null, .null, .null, .null, .null, .int (iZ 0)]) (C := RX7) (T := TX7) (N := 7) hx hb hts0 inX7 tyX7 tyX7_ok hown (hts (.classLink RL 7 RX7) (by decide +kernel)) (hts (.instantiable RX7 7) (by decide +kernel)) (hts (.initialized RX7) (by decide +kernel)) hK hP hD hS hA rfl (fun j hj => by rcases (show j = 0 ∨ j = 1 ∨ j = 2 ∨ j = 3 ∨ j = 4 ∨ j = 5 ∨ j = 6 by omega) with rfl | rfl | rfl | rfl | rfl | rfl | rfl <;> first | rfl | exact congrArg Value.int iZ_0.symm) (Nat.le_of_ble_eq_true rfl) (Nat.le_of_ble_eq_true rfl) dL_law_0 (fun q7 H hP hD hS => ?_)
  have hP : va_P D vwCl (w7 q7) H := hP
  have hD : va_D (A0 s) (w7 q7) := hD
  refine lv_dup hx hb dL_law_3 rfl ?_
  have hPc := hP.sub (ws' := w7 q7) [0] rfl
  have hDc := hD.sub (ws' := w7 q7) [0] (by decide) rfl
  have hFc := va_free (wc := w7 q7) hD hS hA [0] rfl
  refine va_callv (va_runI (As := []) (rest := [.ref q7]) S (m_X7_init l D g q7 H.size) (cwI 0 hts gL_law_X7_init rfl rfl rfl (hts (.initialized RX7) (by decide +kernel)) (hts (.methodLink RL 9 yX7_init) (by decide +kernel)) (hts (.instanceMethod yX7_init) (by decide +kernel)) rfl (by decide +kernel) ⟨Nat.le_of_ble_eq_true rfl, Nat.le_of_ble_eq_true rfl⟩) ⟨blN, fun U hU hW => ⟨rfl, by rw [hU], by rw [hU]; exact hPc, va_K.moved hW.alike hK, hDc.weaken (fun _ _ _ _ => trivial), NX.warm hW hN⟩⟩ rfl rfl hl.1 rfl (lv_room (Nat.le_of_ble_eq_true rfl)) dL_law_4 ⟨Nat.le_of_ble_eq_true rfl, Nat.le_of_ble_eq_true rfl⟩) hS (fun q _ h => hFc q h) hFc (fun a t H1 locs ht hvm hpa hB hz1 hk1 hS => ?_)
  obtain ⟨hP1, hD1⟩ := hB
  rw [ht] at hP1
  obtain ⟨hP, hD⟩ := va_join (wr := []) (w1 := WC g a st0) hP hD [0] [] rfl rfl (by decide) (by decide) hk1 hFc hP1 hD1
  generalize H1 = H at hP hS ⊢
  have hP : va_P D vwCl (WC g a st0) H := hP
  have hD : va_D (A0 s) (WC g a st0) := hD
  have hpa : a 0 = q7 := hpa
  rw [← hpa]
  refine lv_astore_n (lv' := [(1, .ref (a 0)), (0, .ref b)]) hx hb dL_law_7 rfl hl (by decide) rfl (fun ls hl => ?_)
  refine va_new (ci := 7) (fs := [nI0, .null, .null, .null, .null, nI0, .null, .null, nI0, .null, .null, nI0, .null, .null, .null, .null, .null, .null, .null, nI0, nI0, .null, .null, .null, .null, nI0]) (C := RX8) (T := TX8) (N := 26) hx hb hts0 inX8 tyX8 tyX8_ok hown (hts (.classLink RL 10 RX8) (by decide +kernel)) (hts (.instantiable RX8 26) (by decide +kernel)) (hts (.initialized RX8) (by decide +kernel)) hK hP hD hS hA rfl (fun j hj => by rcases (show j = 0 ∨ j = 1 ∨ j = 2 ∨ j = 3 ∨ j = 4 ∨ j = 5 ∨ j = 6 ∨ j = 7 ∨ j = 8 ∨ j = 9 ∨ j = 10 ∨ j = 11 ∨ j = 12 ∨ j = 13 ∨ j = 14 ∨ j = 15 ∨ j = 16 ∨ j = 17 ∨ j = 18 ∨ j = 19 ∨ j = 20 ∨ j = 21 ∨ j = 22 ∨ j = 23 ∨ j = 24 ∨ j = 25 by omega) with rfl | rfl | rfl | rfl | rfl | rfl | rfl | rfl | rfl | rfl | rfl | rfl | rfl | rfl | rfl | rfl | rfl | rfl | rfl | rfl | rfl | rfl | rfl | rfl | rfl | rfl <;> first | rfl | exact congrArg Value.int iZ_0.symm) (Nat.le_of_ble_eq_true rfl) (Nat.le_of_ble_eq_true rfl) dL_law_8 (fun q8 H hP hD hS => ?_)
  have hP : va_P D vwCl (WC g a st0 ++ w8 q8) H := hP
  have hD : va_D (A0 s) (WC g a st0 ++ w8 q8) := hD
  refine lv_dup hx hb dL_law_11 rfl ?_
  have hPc := hP.sub (ws' := w8 q8) [27] rfl
  have hDc := hD.sub (ws' := w8 q8) [27] (by decide) rfl
  have hFc := va_free (wc := w8 q8) hD hS hA [27] rfl
  refine va_callv (va_runI (As := []) (rest := [.ref q8]) S (m_X8_init l D g q8 H.size) (cwI 0 hts gL_law_X8_init rfl rfl rfl (hts (.initialized RX8) (by decide +kernel)) (hts (.methodLink RL 12 yX8_init) (by decide +kernel)) (hts (.instanceMethod yX8_init) (by decide +kernel)) rfl (by decide +kernel) ⟨Nat.le_of_ble_eq_true rfl, Nat.le_of_ble_eq_true rfl⟩) ⟨blN, fun U hU hW => ⟨rfl, by rw [hU], by rw [hU]; exact hPc, va_K.moved hW.alike hK, hDc.weaken (fun _ _ _ _ => trivial), NX.warm hW hN⟩⟩ rfl rfl hl.1 rfl (lv_room (Nat.le_of_ble_eq_true rfl)) dL_law_12 ⟨Nat.le_of_ble_eq_true rfl, Nat.le_of_ble_eq_true rfl⟩) hS (fun q _ h => hFc q h) hFc (fun b2 t H1 locs ht hvm hpa hB hz1 hk1 hS => ?_)
  obtain ⟨hP1, hD1⟩ := hB
  rw [ht] at hP1
  obtain ⟨hP, hD⟩ := va_join (wr := WC g a st0) (w1 := WM g b2 mt0) hP hD [27] [0, 1, 2, 3, 4, 5, 6, 7, 8, 9, 10, 11, 12, 13, 14, 15, 16, 17, 18, 19, 20, 21, 22, 23, 24, 25, 26] rfl rfl (by decide) (by decide) hk1 hFc hP1 hD1
  generalize H1 = H at hP hS ⊢
  have hpa : b2 0 = q8 := hpa
  rw [← hpa]
  refine lv_astore_n (lv' := [(2, .ref (b2 0)), (1, .ref (a 0)), (0, .ref b)]) hx hb dL_law_15 rfl hl (by decide) rfl (fun ls hl => ?_)
  refine z_iconst hx hb dL_law_16 ?_
  refine lv_istore_n (lv' := [(3, .int (iZ 0)), (2, .ref (b2 0)), (1, .ref (a 0)), (0, .ref b)]) hx hb dL_law_17 rfl hl (by decide) rfl (fun ls hl => ?_)
  have hF := D_fst hD (L := (List.range 27).map a ++ (List.range 20).map b2) rfl
  have l1 : ∀ i, i < 27 → ((List.range 27).map a ++ (List.range 20).map b2)[i]? = some (a i) := fun i hi => by
    rw [List.getElem?_append_left (by simp; omega), List.getElem?_map, List.getElem?_range hi]; rfl
  have l2 : ∀ j, j < 20 → ((List.range 27).map a ++ (List.range 20).map b2)[27 + j]? = some (b2 j) := fun j hj => by
    rw [List.getElem?_append_right (by simp), List.getElem?_map]
    simp [hj]
  have Xc : LC p s m meth c D g a b2 b L xs := ⟨C0, hL, hK, fun i j hi hj he => hF.1 i j (a i) (l1 i hi) (by rw [he]; exact l1 j hj), fun i j hi hj he => by have := hF.1 (27 + i) (27 + j) (b2 i) (l2 i hi) (by rw [he]; exact l2 j hj); omega, fun i j hi hj he => by have := hF.1 i (27 + j) (a i) (l1 i hi) (by rw [he]; exact l2 j hj); omega, fun i hi => hF.2 i _ (l1 i hi), fun j hj => hF.2 _ _ (l2 j hj)⟩
  have hPc : va_P D vwCl (WC g a st0) H := fun k q h => hP k q (by rw [List.getElem?_append_left (List.getElem?_eq_some_iff.mp h).1]; exact h)
  have hPm : va_P D vwCl (WM g b2 mt0) H := fun k q h => hP (27 + k) q (by rw [List.getElem?_append_right (by show 27 ≤ 27 + k; omega)]; rw [show 27 + k - (WC g a st0).length = k by show 27 + k - 27 = k; omega]; exact h)
  refine W.widen (k := 47) (n := 1131) (Nat.le_of_ble_eq_true rfl) (Nat.le_of_ble_eq_true rfl) ?_
  exact law_loop Xc (L + 1) 0 st0 mt0 H _ ls (by omega) (by omega) (by omega) REL_0 hPc hPm hS (lv_sub hl [3, 2, 1, 0] rfl)

