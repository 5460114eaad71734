set_option maxHeartbeats 4000000 in
set_option maxRecDepth 100000 in
theorem lc_person {p : Program} {l : Launch} {e : Env} {s : State} {m : MethodId} {below : List Frame} {meth : Method} {c : Code} {H : Heap} {locs : List Loc} {Q : State → Prop} {D : va_G} {g : Nat → ClassId} {a b : Nat → Nat} {bb L : Nat} {xs : Nat → Int32} {ls : Array Slot} {st mt : SS} {i : Int} (X : LC p s m meth c D g a b bb L xs) (hi : 0 ≤ i ∧ i + 5 ≤ L) (hR : REL st mt) (hP : va_P D vwCl (WC g a st) H) (hQ : va_P D vwCl (WM g b mt) H) (hS : va_S (A0 s) s.heap H locs) (hl : lv_has ls 4 [(0, .ref bb), (1, .ref (a 0)), (2, .ref (b 0)), (3, .int (iZ i))]) (kend : ∀ (u v : SS) (H1 : Heap) (locs1 : List Loc), REL u v → va_P D vwCl (WC g a u) H1 → va_P D vwCl (WM g b v) H1 → va_S (A0 s) s.heap H1 locs1 → W p l e room_1 s m #[Value.ref bb] below meth c H1 locs1 47 1131 Q (F0 m 880 ls [])) : W p l e room_1 s m #[Value.ref bb] below meth c H locs 47 1131 Q (F0 m 152 ls []) := by
  have S := X.call
  have hx := X.1.1
  have hb : c.code = cL_law := X.1.2.1
  have hts := S.2.2.2.2
  have hK := X.2.2.1
  have hA1 : ∀ q, AWC a q → A0 s q := fun q ⟨k, k1, k2⟩ => by rw [k2]; exact X.2.2.2.2.2.2.1 k k1
  have hA2 : ∀ q, AWM b q → A0 s q := fun q ⟨k, k1, k2⟩ => by rw [k2]; exact X.2.2.2.2.2.2.2 k k1
  refine lv_aload_n hx hb dL_law_152 rfl (lv_at hl 1 rfl) ?_
  refine lv_aload_n hx hb dL_law_153 rfl (lv_at hl 0 rfl) ?_
  refine lv_iload_n hx hb dL_law_154 rfl (lv_at hl 3 rfl) ?_
  refine z_iconst hx hb dL_law_155 ?_
  refine z_iadd hx hb dL_law_156 ?_
  refine z_sld X hb hS (i := i + 1) (by omega) (by omega) dL_law_157 ?_
  refine z_cVI (A0 := A0 s) (q0 := 0) (ci := 6) (As := [.int (iZ (XS xs (i + 1)))]) (rest := []) S (m_X7_person l D g a st (XS xs (i + 1)) hR.ic (rg_of _)) (cwV 1 hts gL_law_X7_person rfl rfl rfl (by decide +kernel) ⟨Nat.le_of_ble_eq_true rfl, Nat.le_of_ble_eq_true rfl⟩) hK hP (WC_D X.2.2.2.1) hS hA1 rfl rfl rfl hl.1 rfl (Nat.le_of_ble_eq_true rfl) dL_law_158 ⟨Nat.le_of_ble_eq_true rfl, Nat.le_of_ble_eq_true rfl⟩ (fun r1 u H1 locs1 hu hP hS hk => ?_)
  have hQ := keepM X.2.2.2.2.2.1 hQ hk
  refine lv_aload_n hx hb dL_law_161 rfl (lv_at hl 2 rfl) ?_
  refine lv_aload_n hx hb dL_law_162 rfl (lv_at hl 0 rfl) ?_
  refine lv_iload_n hx hb dL_law_163 rfl (lv_at hl 3 rfl) ?_
  refine z_iconst hx hb dL_law_164 ?_
  refine z_iadd hx hb dL_law_165 ?_
  refine z_sld X hb hS (i := i + 1) (by omega) (by omega) dL_law_166 ?_
  refine z_cVI (A0 := A0 s) (q0 := 0) (ci := 7) (As := [.int (iZ (XS xs (i + 1)))]) (rest := [.int (iZ r1)]) S (m_X8_person l D g b mt (XS xs (i + 1)) hR.im (rg_of _)) (cwV 1 hts gL_law_X8_person rfl rfl rfl (by decide +kernel) ⟨Nat.le_of_ble_eq_true rfl, Nat.le_of_ble_eq_true rfl⟩) hK hQ (WM_D X.2.2.2.2.1) hS hA2 rfl rfl rfl hl.1 rfl (Nat.le_of_ble_eq_true rfl) dL_law_167 ⟨Nat.le_of_ble_eq_true rfl, Nat.le_of_ble_eq_true rfl⟩ (fun r2 v H2 locs2 hv hQ hS hk => ?_)
  have hP := keepC X.2.2.2.2.2.1 hP hk
  have hkp := kp_person hR hu hv
  refine lv_icmp_eq (tgt := 880) hx hb dL_law_170 (by decide) (fun _ => ?_) (fun z9 => absurd (congrArg iZ hkp.1) z9)
  exact kend u v H2 locs2 hkp.2 hP hQ hS
set_option maxHeartbeats 4000000 in
set_option maxRecDepth 100000 in
theorem lc_step {p : Program} {l : Launch} {e : Env} {s : State} {m : MethodId} {below : List Frame} {meth : Method} {c : Code} {H : Heap} {locs : List Loc} {Q : State → Prop} {D : va_G} {g : Nat → ClassId} {a b : Nat → Nat} {bb L : Nat} {xs : Nat → Int32} {ls : Array Slot} {st mt : SS} {i : Int} (X : LC p s m meth c D g a b bb L xs) (hi : 0 ≤ i ∧ i + 5 ≤ L) (hR : REL st mt) (hP : va_P D vwCl (WC g a st) H) (hQ : va_P D vwCl (WM g b mt) H) (hS : va_S (A0 s) s.heap H locs) (hl : lv_has ls 4 [(0, .ref bb), (1, .ref (a 0)), (2, .ref (b 0)), (3, .int (iZ i))]) (kend : ∀ (u v : SS) (H1 : Heap) (locs1 : List Loc), REL u v → va_P D vwCl (WC g a u) H1 → va_P D vwCl (WM g b v) H1 → va_S (A0 s) s.heap H1 locs1 → W p l e room_1 s m #[Value.ref bb] below meth c H1 locs1 47 1131 Q (F0 m 880 ls [])) : W p l e room_1 s m #[Value.ref bb] below meth c H locs 47 1131 Q (F0 m 175 ls []) := by
  have S := X.call
  have hx := X.1.1
  have hb : c.code = cL_law := X.1.2.1
  have hts := S.2.2.2.2
  have hK := X.2.2.1
  have hA1 : ∀ q, AWC a q → A0 s q := fun q ⟨k, k1, k2⟩ => by rw [k2]; exact X.2.2.2.2.2.2.1 k k1
  have hA2 : ∀ q, AWM b q → A0 s q := fun q ⟨k, k1, k2⟩ => by rw [k2]; exact X.2.2.2.2.2.2.2 k k1
  refine lv_aload_n hx hb dL_law_175 rfl (lv_at hl 1 rfl) ?_
  refine lv_aload_n hx hb dL_law_176 rfl (lv_at hl 0 rfl) ?_
  refine lv_iload_n hx hb dL_law_177 rfl (lv_at hl 3 rfl) ?_
  refine z_iconst hx hb dL_law_178 ?_
  refine z_iadd hx hb dL_law_179 ?_
  refine z_sld X hb hS (i := i + 1) (by omega) (by omega) dL_law_180 ?_
  refine lv_aload_n hx hb dL_law_181 rfl (lv_at hl 0 rfl) ?_
  refine lv_iload_n hx hb dL_law_182 rfl (lv_at hl 3 rfl) ?_
  refine z_iconst hx hb dL_law_183 ?_
  refine z_iadd hx hb dL_law_184 ?_
  refine z_sld X hb hS (i := i + 2) (by omega) (by omega) dL_law_185 ?_
  refine lv_aload_n hx hb dL_law_186 rfl (lv_at hl 0 rfl) ?_
  refine lv_iload_n hx hb dL_law_187 rfl (lv_at hl 3 rfl) ?_
  refine z_iconst hx hb dL_law_188 ?_
  refine z_iadd hx hb dL_law_189 ?_
  refine z_sld X hb hS (i := i + 3) (by omega) (by omega) dL_law_190 ?_
  refine z_cVI (A0 := A0 s) (q0 := 0) (ci := 6) (As := [.int (iZ (XS xs (i + 1))), .int (iZ (XS xs (i + 2))), .int (iZ (XS xs (i + 3)))]) (rest := []) S (m_X7_step l D g a st (XS xs (i + 1)) (XS xs (i + 2)) (XS xs (i + 3)) hR.ic (rg_of _) (rg_of _) (rg_of _)) (cwV 3 hts gL_law_X7_step rfl rfl rfl (by decide +kernel) ⟨Nat.le_of_ble_eq_true rfl, Nat.le_of_ble_eq_true rfl⟩) hK hP (WC_D X.2.2.2.1) hS hA1 rfl rfl rfl hl.1 rfl (Nat.le_of_ble_eq_true rfl) dL_law_191 ⟨Nat.le_of_ble_eq_true rfl, Nat.le_of_ble_eq_true rfl⟩ (fun r1 u H1 locs1 hu hP hS hk => ?_)
  have hQ := keepM X.2.2.2.2.2.1 hQ hk
  refine lv_aload_n hx hb dL_law_194 rfl (lv_at hl 2 rfl) ?_
  refine lv_aload_n hx hb dL_law_195 rfl (lv_at hl 0 rfl) ?_
  refine lv_iload_n hx hb dL_law_196 rfl (lv_at hl 3 rfl) ?_
  refine z_iconst hx hb dL_law_197 ?_
  refine z_iadd hx hb dL_law_198 ?_
  refine z_sld X hb hS (i := i + 1) (by omega) (by omega) dL_law_199 ?_
  refine lv_aload_n hx hb dL_law_200 rfl (lv_at hl 0 rfl) ?_
  refine lv_iload_n hx hb dL_law_201 rfl (lv_at hl 3 rfl) ?_
  refine z_iconst hx hb dL_law_202 ?_
  refine z_iadd hx hb dL_law_203 ?_
  refine z_sld X hb hS (i := i + 2) (by omega) (by omega) dL_law_204 ?_
  refine lv_aload_n hx hb dL_law_205 rfl (lv_at hl 0 rfl) ?_
  refine lv_iload_n hx hb dL_law_206 rfl (lv_at hl 3 rfl) ?_
  refine z_iconst hx hb dL_law_207 ?_
  refine z_iadd hx hb dL_law_208 ?_
  refine z_sld X hb hS (i := i + 3) (by omega) (by omega) dL_law_209 ?_
  refine z_cVI (A0 := A0 s) (q0 := 0) (ci := 7) (As := [.int (iZ (XS xs (i + 1))), .int (iZ (XS xs (i + 2))), .int (iZ (XS xs (i + 3)))]) (rest := [.int (iZ r1)]) S (m_X8_step l D g b mt (XS xs (i + 1)) (XS xs (i + 2)) (XS xs (i + 3)) hR.im (rg_of _) (rg_of _) (rg_of _)) (cwV 3 hts gL_law_X8_step rfl rfl rfl (by decide +kernel) ⟨Nat.le_of_ble_eq_true rfl, Nat.le_of_ble_eq_true rfl⟩) hK hQ (WM_D X.2.2.2.2.1) hS hA2 rfl rfl rfl hl.1 rfl (Nat.le_of_ble_eq_true rfl) dL_law_210 ⟨Nat.le_of_ble_eq_true rfl, Nat.le_of_ble_eq_true rfl⟩ (fun r2 v H2 locs2 hv hQ hS hk => ?_)
  have hP := keepC X.2.2.2.2.2.1 hP hk
  have hkp := kp_step hR hu hv
  refine lv_icmp_eq (tgt := 880) hx hb dL_law_213 (by decide) (fun _ => ?_) (fun z9 => absurd (congrArg iZ hkp.1) z9)
  exact kend u v H2 locs2 hkp.2 hP hQ hS
set_option maxHeartbeats 4000000 in
set_option maxRecDepth 100000 in
theorem lc_wall {p : Program} {l : Launch} {e : Env} {s : State} {m : MethodId} {below : List Frame} {meth : Method} {c : Code} {H : Heap} {locs : List Loc} {Q : State → Prop} {D : va_G} {g : Nat → ClassId} {a b : Nat → Nat} {bb L : Nat} {xs : Nat → Int32} {ls : Array Slot} {st mt : SS} {i : Int} (X : LC p s m meth c D g a b bb L xs) (hi : 0 ≤ i ∧ i + 5 ≤ L) (hR : REL st mt) (hP : va_P D vwCl (WC g a st) H) (hQ : va_P D vwCl (WM g b mt) H) (hS : va_S (A0 s) s.heap H locs) (hl : lv_has ls 4 [(0, .ref bb), (1, .ref (a 0)), (2, .ref (b 0)), (3, .int (iZ i))]) (kend : ∀ (u v : SS) (H1 : Heap) (locs1 : List Loc), REL u v → va_P D vwCl (WC g a u) H1 → va_P D vwCl (WM g b v) H1 → va_S (A0 s) s.heap H1 locs1 → W p l e room_1 s m #[Value.ref bb] below meth c H1 locs1 47 1131 Q (F0 m 880 ls [])) : W p l e room_1 s m #[Value.ref bb] below meth c H locs 47 1131 Q (F0 m 218 ls []) := by
  have S := X.call
  have hx := X.1.1
  have hb : c.code = cL_law := X.1.2.1
  have hts := S.2.2.2.2
  have hK := X.2.2.1
  have hA1 : ∀ q, AWC a q → A0 s q := fun q ⟨k, k1, k2⟩ => by rw [k2]; exact X.2.2.2.2.2.2.1 k k1
  have hA2 : ∀ q, AWM b q → A0 s q := fun q ⟨k, k1, k2⟩ => by rw [k2]; exact X.2.2.2.2.2.2.2 k k1
  refine lv_aload_n hx hb dL_law_218 rfl (lv_at hl 1 rfl) ?_
  refine lv_aload_n hx hb dL_law_219 rfl (lv_at hl 0 rfl) ?_
  refine lv_iload_n hx hb dL_law_220 rfl (lv_at hl 3 rfl) ?_
  refine z_iconst hx hb dL_law_221 ?_
  refine z_iadd hx hb dL_law_222 ?_
  refine z_sld X hb hS (i := i + 1) (by omega) (by omega) dL_law_223 ?_
  refine lv_aload_n hx hb dL_law_224 rfl (lv_at hl 0 rfl) ?_
  refine lv_iload_n hx hb dL_law_225 rfl (lv_at hl 3 rfl) ?_
  refine z_iconst hx hb dL_law_226 ?_
  refine z_iadd hx hb dL_law_227 ?_
  refine z_sld X hb hS (i := i + 2) (by omega) (by omega) dL_law_228 ?_
  refine z_cVI (A0 := A0 s) (q0 := 0) (ci := 6) (As := [.int (iZ (XS xs (i + 1))), .int (iZ (XS xs (i + 2)))]) (rest := []) S (m_X7_wall l D g a st (XS xs (i + 1)) (XS xs (i + 2)) hR.ic (rg_of _) (rg_of _)) (cwV 2 hts gL_law_X7_wall rfl rfl rfl (by decide +kernel) ⟨Nat.le_of_ble_eq_true rfl, Nat.le_of_ble_eq_true rfl⟩) hK hP (WC_D X.2.2.2.1) hS hA1 rfl rfl rfl hl.1 rfl (Nat.le_of_ble_eq_true rfl) dL_law_229 ⟨Nat.le_of_ble_eq_true rfl, Nat.le_of_ble_eq_true rfl⟩ (fun r1 u H1 locs1 hu hP hS hk => ?_)
  have hQ := keepM X.2.2.2.2.2.1 hQ hk
  refine lv_aload_n hx hb dL_law_232 rfl (lv_at hl 2 rfl) ?_
  refine lv_aload_n hx hb dL_law_233 rfl (lv_at hl 0 rfl) ?_
  refine lv_iload_n hx hb dL_law_234 rfl (lv_at hl 3 rfl) ?_
  refine z_iconst hx hb dL_law_235 ?_
  refine z_iadd hx hb dL_law_236 ?_
  refine z_sld X hb hS (i := i + 1) (by omega) (by omega) dL_law_237 ?_
  refine lv_aload_n hx hb dL_law_238 rfl (lv_at hl 0 rfl) ?_
  refine lv_iload_n hx hb dL_law_239 rfl (lv_at hl 3 rfl) ?_
  refine z_iconst hx hb dL_law_240 ?_
  refine z_iadd hx hb dL_law_241 ?_
  refine z_sld X hb hS (i := i + 2) (by omega) (by omega) dL_law_242 ?_
  refine z_cVI (A0 := A0 s) (q0 := 0) (ci := 7) (As := [.int (iZ (XS xs (i + 1))), .int (iZ (XS xs (i + 2)))]) (rest := [.int (iZ r1)]) S (m_X8_wall l D g b mt (XS xs (i + 1)) (XS xs (i + 2)) hR.im (rg_of _) (rg_of _)) (cwV 2 hts gL_law_X8_wall rfl rfl rfl (by decide +kernel) ⟨Nat.le_of_ble_eq_true rfl, Nat.le_of_ble_eq_true rfl⟩) hK hQ (WM_D X.2.2.2.2.1) hS hA2 rfl rfl rfl hl.1 rfl (Nat.le_of_ble_eq_true rfl) dL_law_243 ⟨Nat.le_of_ble_eq_true rfl, Nat.le_of_ble_eq_true rfl⟩ (fun r2 v H2 locs2 hv hQ hS hk => ?_)
  have hP := keepC X.2.2.2.2.2.1 hP hk
  have hkp := kp_wall hR hu hv
  refine lv_icmp_eq (tgt := 880) hx hb dL_law_246 (by decide) (fun _ => ?_) (fun z9 => absurd (congrArg iZ hkp.1) z9)
  exact kend u v H2 locs2 hkp.2 hP hQ hS
set_option maxHeartbeats 4000000 in
set_option maxRecDepth 100000 in
theorem lc_open {p : Program} {l : Launch} {e : Env} {s : State} {m : MethodId} {below : List Frame} {meth : Method} {c : Code} {H : Heap} {locs : List Loc} {Q : State → Prop} {D : va_G} {g : Nat → ClassId} {a b : Nat → Nat} {bb L : Nat} {xs : Nat → Int32} {ls : Array Slot} {st mt : SS} {i : Int} (X : LC p s m meth c D g a b bb L xs) (hi : 0 ≤ i ∧ i + 5 ≤ L) (hR : REL st mt) (hP : va_P D vwCl (WC g a st) H) (hQ : va_P D vwCl (WM g b mt) H) (hS : va_S (A0 s) s.heap H locs) (hl : lv_has ls 4 [(0, .ref bb), (1, .ref (a 0)), (2, .ref (b 0)), (3, .int (iZ i))]) (kend : ∀ (u v : SS) (H1 : Heap) (locs1 : List Loc), REL u v → va_P D vwCl (WC g a u) H1 → va_P D vwCl (WM g b v) H1 → va_S (A0 s) s.heap H1 locs1 → W p l e room_1 s m #[Value.ref bb] below meth c H1 locs1 47 1131 Q (F0 m 880 ls [])) : W p l e room_1 s m #[Value.ref bb] below meth c H locs 47 1131 Q (F0 m 251 ls []) := by
  have S := X.call
  have hx := X.1.1
  have hb : c.code = cL_law := X.1.2.1
  have hts := S.2.2.2.2
  have hK := X.2.2.1
  have hA1 : ∀ q, AWC a q → A0 s q := fun q ⟨k, k1, k2⟩ => by rw [k2]; exact X.2.2.2.2.2.2.1 k k1
  have hA2 : ∀ q, AWM b q → A0 s q := fun q ⟨k, k1, k2⟩ => by rw [k2]; exact X.2.2.2.2.2.2.2 k k1
  refine lv_aload_n hx hb dL_law_251 rfl (lv_at hl 1 rfl) ?_
  refine z_cVI (A0 := A0 s) (q0 := 0) (ci := 6) (As := []) (rest := []) S (m_X7_open l D g a st hR.ic) (cwV 0 hts gL_law_X7_open rfl rfl rfl (by decide +kernel) ⟨Nat.le_of_ble_eq_true rfl, Nat.le_of_ble_eq_true rfl⟩) hK hP (WC_D X.2.2.2.1) hS hA1 rfl rfl rfl hl.1 rfl (Nat.le_of_ble_eq_true rfl) dL_law_252 ⟨Nat.le_of_ble_eq_true rfl, Nat.le_of_ble_eq_true rfl⟩ (fun r1 u H1 locs1 hu hP hS hk => ?_)
  have hQ := keepM X.2.2.2.2.2.1 hQ hk
  refine lv_aload_n hx hb dL_law_255 rfl (lv_at hl 2 rfl) ?_
  refine z_cVI (A0 := A0 s) (q0 := 0) (ci := 7) (As := []) (rest := [.int (iZ r1)]) S (m_X8_open l D g b mt hR.im) (cwV 0 hts gL_law_X8_open rfl rfl rfl (by decide +kernel) ⟨Nat.le_of_ble_eq_true rfl, Nat.le_of_ble_eq_true rfl⟩) hK hQ (WM_D X.2.2.2.2.1) hS hA2 rfl rfl rfl hl.1 rfl (Nat.le_of_ble_eq_true rfl) dL_law_256 ⟨Nat.le_of_ble_eq_true rfl, Nat.le_of_ble_eq_true rfl⟩ (fun r2 v H2 locs2 hv hQ hS hk => ?_)
  have hP := keepC X.2.2.2.2.2.1 hP hk
  have hkp := kp_open hR hu hv
  refine lv_icmp_eq (tgt := 880) hx hb dL_law_259 (by decide) (fun _ => ?_) (fun z9 => absurd (congrArg iZ hkp.1) z9)
  exact kend u v H2 locs2 hkp.2 hP hQ hS
set_option maxHeartbeats 4000000 in
set_option maxRecDepth 100000 in
theorem lc_camera {p : Program} {l : Launch} {e : Env} {s : State} {m : MethodId} {below : List Frame} {meth : Method} {c : Code} {H : Heap} {locs : List Loc} {Q : State → Prop} {D : va_G} {g : Nat → ClassId} {a b : Nat → Nat} {bb L : Nat} {xs : Nat → Int32} {ls : Array Slot} {st mt : SS} {i : Int} (X : LC p s m meth c D g a b bb L xs) (hi : 0 ≤ i ∧ i + 5 ≤ L) (hR : REL st mt) (hP : va_P D vwCl (WC g a st) H) (hQ : va_P D vwCl (WM g b mt) H) (hS : va_S (A0 s) s.heap H locs) (hl : lv_has ls 4 [(0, .ref bb), (1, .ref (a 0)), (2, .ref (b 0)), (3, .int (iZ i))]) (kend : ∀ (u v : SS) (H1 : Heap) (locs1 : List Loc), REL u v → va_P D vwCl (WC g a u) H1 → va_P D vwCl (WM g b v) H1 → va_S (A0 s) s.heap H1 locs1 → W p l e room_1 s m #[Value.ref bb] below meth c H1 locs1 47 1131 Q (F0 m 880 ls [])) : W p l e room_1 s m #[Value.ref bb] below meth c H locs 47 1131 Q (F0 m 264 ls []) := by
  have S := X.call
  have hx := X.1.1
  have hb : c.code = cL_law := X.1.2.1
  have hts := S.2.2.2.2
  have hK := X.2.2.1
  have hA1 : ∀ q, AWC a q → A0 s q := fun q ⟨k, k1, k2⟩ => by rw [k2]; exact X.2.2.2.2.2.2.1 k k1
  have hA2 : ∀ q, AWM b q → A0 s q := fun q ⟨k, k1, k2⟩ => by rw [k2]; exact X.2.2.2.2.2.2.2 k k1
  refine lv_aload_n hx hb dL_law_264 rfl (lv_at hl 1 rfl) ?_
  refine lv_aload_n hx hb dL_law_265 rfl (lv_at hl 0 rfl) ?_
  refine lv_iload_n hx hb dL_law_266 rfl (lv_at hl 3 rfl) ?_
  refine z_iconst hx hb dL_law_267 ?_
  refine z_iadd hx hb dL_law_268 ?_
  refine z_sld X hb hS (i := i + 1) (by omega) (by omega) dL_law_269 ?_
  refine lv_aload_n hx hb dL_law_270 rfl (lv_at hl 0 rfl) ?_
  refine lv_iload_n hx hb dL_law_271 rfl (lv_at hl 3 rfl) ?_
  refine z_iconst hx hb dL_law_272 ?_
  refine z_iadd hx hb dL_law_273 ?_
  refine z_sld X hb hS (i := i + 2) (by omega) (by omega) dL_law_274 ?_
  refine z_cVI (A0 := A0 s) (q0 := 0) (ci := 6) (As := [.int (iZ (XS xs (i + 1))), .int (iZ (XS xs (i + 2)))]) (rest := []) S (m_X7_camera l D g a st (XS xs (i + 1)) (XS xs (i + 2)) hR.ic (rg_of _) (rg_of _)) (cwV 2 hts gL_law_X7_camera rfl rfl rfl (by decide +kernel) ⟨Nat.le_of_ble_eq_true rfl, Nat.le_of_ble_eq_true rfl⟩) hK hP (WC_D X.2.2.2.1) hS hA1 rfl rfl rfl hl.1 rfl (Nat.le_of_ble_eq_true rfl) dL_law_275 ⟨Nat.le_of_ble_eq_true rfl, Nat.le_of_ble_eq_true rfl⟩ (fun r1 u H1 locs1 hu hP hS hk => ?_)
  have hQ := keepM X.2.2.2.2.2.1 hQ hk
  refine lv_aload_n hx hb dL_law_278 rfl (lv_at hl 2 rfl) ?_
  refine lv_aload_n hx hb dL_law_279 rfl (lv_at hl 0 rfl) ?_
  refine lv_iload_n hx hb dL_law_280 rfl (lv_at hl 3 rfl) ?_
  refine z_iconst hx hb dL_law_281 ?_
  refine z_iadd hx hb dL_law_282 ?_
  refine z_sld X hb hS (i := i + 1) (by omega) (by omega) dL_law_283 ?_
  refine lv_aload_n hx hb dL_law_284 rfl (lv_at hl 0 rfl) ?_
  refine lv_iload_n hx hb dL_law_285 rfl (lv_at hl 3 rfl) ?_
  refine z_iconst hx hb dL_law_286 ?_
  refine z_iadd hx hb dL_law_287 ?_
  refine z_sld X hb hS (i := i + 2) (by omega) (by omega) dL_law_288 ?_
  refine z_cVI (A0 := A0 s) (q0 := 0) (ci := 7) (As := [.int (iZ (XS xs (i + 1))), .int (iZ (XS xs (i + 2)))]) (rest := [.int (iZ r1)]) S (m_X8_camera l D g b mt (XS xs (i + 1)) (XS xs (i + 2)) hR.im (rg_of _) (rg_of _)) (cwV 2 hts gL_law_X8_camera rfl rfl rfl (by decide +kernel) ⟨Nat.le_of_ble_eq_true rfl, Nat.le_of_ble_eq_true rfl⟩) hK hQ (WM_D X.2.2.2.2.1) hS hA2 rfl rfl rfl hl.1 rfl (Nat.le_of_ble_eq_true rfl) dL_law_289 ⟨Nat.le_of_ble_eq_true rfl, Nat.le_of_ble_eq_true rfl⟩ (fun r2 v H2 locs2 hv hQ hS hk => ?_)
  have hP := keepC X.2.2.2.2.2.1 hP hk
  have hkp := kp_camera hR hu hv
  refine lv_icmp_eq (tgt := 880) hx hb dL_law_292 (by decide) (fun _ => ?_) (fun z9 => absurd (congrArg iZ hkp.1) z9)
  exact kend u v H2 locs2 hkp.2 hP hQ hS
set_option maxHeartbeats 4000000 in
set_option maxRecDepth 100000 in
theorem lc_board {p : Program} {l : Launch} {e : Env} {s : State} {m : MethodId} {below : List Frame} {meth : Method} {c : Code} {H : Heap} {locs : List Loc} {Q : State → Prop} {D : va_G} {g : Nat → ClassId} {a b : Nat → Nat} {bb L : Nat} {xs : Nat → Int32} {ls : Array Slot} {st mt : SS} {i : Int} (X : LC p s m meth c D g a b bb L xs) (hi : 0 ≤ i ∧ i + 5 ≤ L) (hR : REL st mt) (hP : va_P D vwCl (WC g a st) H) (hQ : va_P D vwCl (WM g b mt) H) (hS : va_S (A0 s) s.heap H locs) (hl : lv_has ls 4 [(0, .ref bb), (1, .ref (a 0)), (2, .ref (b 0)), (3, .int (iZ i))]) (kend : ∀ (u v : SS) (H1 : Heap) (locs1 : List Loc), REL u v → va_P D vwCl (WC g a u) H1 → va_P D vwCl (WM g b v) H1 → va_S (A0 s) s.heap H1 locs1 → W p l e room_1 s m #[Value.ref bb] below meth c H1 locs1 47 1131 Q (F0 m 880 ls [])) : W p l e room_1 s m #[Value.ref bb] below meth c H locs 47 1131 Q (F0 m 297 ls []) := by
  have S := X.call
  have hx := X.1.1
  have hb : c.code = cL_law := X.1.2.1
  have hts := S.2.2.2.2
  have hK := X.2.2.1
  have hA1 : ∀ q, AWC a q → A0 s q := fun q ⟨k, k1, k2⟩ => by rw [k2]; exact X.2.2.2.2.2.2.1 k k1
  have hA2 : ∀ q, AWM b q → A0 s q := fun q ⟨k, k1, k2⟩ => by rw [k2]; exact X.2.2.2.2.2.2.2 k k1
  refine lv_aload_n hx hb dL_law_297 rfl (lv_at hl 1 rfl) ?_
  refine lv_aload_n hx hb dL_law_298 rfl (lv_at hl 0 rfl) ?_
  refine lv_iload_n hx hb dL_law_299 rfl (lv_at hl 3 rfl) ?_
  refine z_iconst hx hb dL_law_300 ?_
  refine z_iadd hx hb dL_law_301 ?_
  refine z_sld X hb hS (i := i + 1) (by omega) (by omega) dL_law_302 ?_
  refine lv_aload_n hx hb dL_law_303 rfl (lv_at hl 0 rfl) ?_
  refine lv_iload_n hx hb dL_law_304 rfl (lv_at hl 3 rfl) ?_
  refine z_iconst hx hb dL_law_305 ?_
  refine z_iadd hx hb dL_law_306 ?_
  refine z_sld X hb hS (i := i + 2) (by omega) (by omega) dL_law_307 ?_
  refine lv_aload_n hx hb dL_law_308 rfl (lv_at hl 0 rfl) ?_
  refine lv_iload_n hx hb dL_law_309 rfl (lv_at hl 3 rfl) ?_
  refine z_iconst hx hb dL_law_310 ?_
  refine z_iadd hx hb dL_law_311 ?_
  refine z_sld X hb hS (i := i + 3) (by omega) (by omega) dL_law_312 ?_
  refine lv_aload_n hx hb dL_law_313 rfl (lv_at hl 0 rfl) ?_
  refine lv_iload_n hx hb dL_law_314 rfl (lv_at hl 3 rfl) ?_
  refine z_iconst hx hb dL_law_315 ?_
  refine z_iadd hx hb dL_law_316 ?_
  refine z_sld X hb hS (i := i + 4) (by omega) (by omega) dL_law_317 ?_
  refine z_cVI (A0 := A0 s) (q0 := 0) (ci := 6) (As := [.int (iZ (XS xs (i + 1))), .int (iZ (XS xs (i + 2))), .int (iZ (XS xs (i + 3))), .int (iZ (XS xs (i + 4)))]) (rest := []) S (m_X7_board l D g a st (XS xs (i + 1)) (XS xs (i + 2)) (XS xs (i + 3)) (XS xs (i + 4)) hR.ic (rg_of _) (rg_of _) (rg_of _) (rg_of _)) (cwV 4 hts gL_law_X7_board rfl rfl rfl (by decide +kernel) ⟨Nat.le_of_ble_eq_true rfl, Nat.le_of_ble_eq_true rfl⟩) hK hP (WC_D X.2.2.2.1) hS hA1 rfl rfl rfl hl.1 rfl (Nat.le_of_ble_eq_true rfl) dL_law_318 ⟨Nat.le_of_ble_eq_true rfl, Nat.le_of_ble_eq_true rfl⟩ (fun r1 u H1 locs1 hu hP hS hk => ?_)
  have hQ := keepM X.2.2.2.2.2.1 hQ hk
  refine lv_aload_n hx hb dL_law_321 rfl (lv_at hl 2 rfl) ?_
  refine lv_aload_n hx hb dL_law_322 rfl (lv_at hl 0 rfl) ?_
  refine lv_iload_n hx hb dL_law_323 rfl (lv_at hl 3 rfl) ?_
  refine z_iconst hx hb dL_law_324 ?_
  refine z_iadd hx hb dL_law_325 ?_
  refine z_sld X hb hS (i := i + 1) (by omega) (by omega) dL_law_326 ?_
  refine lv_aload_n hx hb dL_law_327 rfl (lv_at hl 0 rfl) ?_
  refine lv_iload_n hx hb dL_law_328 rfl (lv_at hl 3 rfl) ?_
  refine z_iconst hx hb dL_law_329 ?_
  refine z_iadd hx hb dL_law_330 ?_
  refine z_sld X hb hS (i := i + 2) (by omega) (by omega) dL_law_331 ?_
  refine lv_aload_n hx hb dL_law_332 rfl (lv_at hl 0 rfl) ?_
  refine lv_iload_n hx hb dL_law_333 rfl (lv_at hl 3 rfl) ?_
  refine z_iconst hx hb dL_law_334 ?_
  refine z_iadd hx hb dL_law_335 ?_
  refine z_sld X hb hS (i := i + 3) (by omega) (by omega) dL_law_336 ?_
  refine lv_aload_n hx hb dL_law_337 rfl (lv_at hl 0 rfl) ?_
  refine lv_iload_n hx hb dL_law_338 rfl (lv_at hl 3 rfl) ?_
  refine z_iconst hx hb dL_law_339 ?_
  refine z_iadd hx hb dL_law_340 ?_
  refine z_sld X hb hS (i := i + 4) (by omega) (by omega) dL_law_341 ?_
  refine z_cVI (A0 := A0 s) (q0 := 0) (ci := 7) (As := [.int (iZ (XS xs (i + 1))), .int (iZ (XS xs (i + 2))), .int (iZ (XS xs (i + 3))), .int (iZ (XS xs (i + 4)))]) (rest := [.int (iZ r1)]) S (m_X8_board l D g b mt (XS xs (i + 1)) (XS xs (i + 2)) (XS xs (i + 3)) (XS xs (i + 4)) hR.im (rg_of _) (rg_of _) (rg_of _) (rg_of _)) (cwV 4 hts gL_law_X8_board rfl rfl rfl (by decide +kernel) ⟨Nat.le_of_ble_eq_true rfl, Nat.le_of_ble_eq_true rfl⟩) hK hQ (WM_D X.2.2.2.2.1) hS hA2 rfl rfl rfl hl.1 rfl (Nat.le_of_ble_eq_true rfl) dL_law_342 ⟨Nat.le_of_ble_eq_true rfl, Nat.le_of_ble_eq_true rfl⟩ (fun r2 v H2 locs2 hv hQ hS hk => ?_)
  have hP := keepC X.2.2.2.2.2.1 hP hk
  have hkp := kp_board hR hu hv
  refine lv_icmp_eq (tgt := 880) hx hb dL_law_345 (by decide) (fun _ => ?_) (fun z9 => absurd (congrArg iZ hkp.1) z9)
  exact kend u v H2 locs2 hkp.2 hP hQ hS
set_option maxHeartbeats 4000000 in
set_option maxRecDepth 100000 in
theorem lc_drop {p : Program} {l : Launch} {e : Env} {s : State} {m : MethodId} {below : List Frame} {meth : Method} {c : Code} {H : Heap} {locs : List Loc} {Q : State → Prop} {D : va_G} {g : Nat → ClassId} {a b : Nat → Nat} {bb L : Nat} {xs : Nat → Int32} {ls : Array Slot} {st mt : SS} {i : Int} (X : LC p s m meth c D g a b bb L xs) (hi : 0 ≤ i ∧ i + 5 ≤ L) (hR : REL st mt) (hP : va_P D vwCl (WC g a st) H) (hQ : va_P D vwCl (WM g b mt) H) (hS : va_S (A0 s) s.heap H locs) (hl : lv_has ls 4 [(0, .ref bb), (1, .ref (a 0)), (2, .ref (b 0)), (3, .int (iZ i))]) (kend : ∀ (u v : SS) (H1 : Heap) (locs1 : List Loc), REL u v → va_P D vwCl (WC g a u) H1 → va_P D vwCl (WM g b v) H1 → va_S (A0 s) s.heap H1 locs1 → W p l e room_1 s m #[Value.ref bb] below meth c H1 locs1 47 1131 Q (F0 m 880 ls [])) : W p l e room_1 s m #[Value.ref bb] below meth c H locs 47 1131 Q (F0 m 350 ls []) := by
  have S := X.call
  have hx := X.1.1
  have hb : c.code = cL_law := X.1.2.1
  have hts := S.2.2.2.2
  have hK := X.2.2.1
  have hA1 : ∀ q, AWC a q → A0 s q := fun q ⟨k, k1, k2⟩ => by rw [k2]; exact X.2.2.2.2.2.2.1 k k1
  have hA2 : ∀ q, AWM b q → A0 s q := fun q ⟨k, k1, k2⟩ => by rw [k2]; exact X.2.2.2.2.2.2.2 k k1
  refine lv_aload_n hx hb dL_law_350 rfl (lv_at hl 1 rfl) ?_
  refine z_cVI (A0 := A0 s) (q0 := 0) (ci := 6) (As := []) (rest := []) S (m_X7_drop l D g a st hR.ic) (cwV 0 hts gL_law_X7_drop rfl rfl rfl (by decide +kernel) ⟨Nat.le_of_ble_eq_true rfl, Nat.le_of_ble_eq_true rfl⟩) hK hP (WC_D X.2.2.2.1) hS hA1 rfl rfl rfl hl.1 rfl (Nat.le_of_ble_eq_true rfl) dL_law_351 ⟨Nat.le_of_ble_eq_true rfl, Nat.le_of_ble_eq_true rfl⟩ (fun r1 u H1 locs1 hu hP hS hk => ?_)
  have hQ := keepM X.2.2.2.2.2.1 hQ hk
  refine lv_aload_n hx hb dL_law_354 rfl (lv_at hl 2 rfl) ?_
  refine z_cVI (A0 := A0 s) (q0 := 0) (ci := 7) (As := []) (rest := [.int (iZ r1)]) S (m_X8_drop l D g b mt hR.im) (cwV 0 hts gL_law_X8_drop rfl rfl rfl (by decide +kernel) ⟨Nat.le_of_ble_eq_true rfl, Nat.le_of_ble_eq_true rfl⟩) hK hQ (WM_D X.2.2.2.2.1) hS hA2 rfl rfl rfl hl.1 rfl (Nat.le_of_ble_eq_true rfl) dL_law_355 ⟨Nat.le_of_ble_eq_true rfl, Nat.le_of_ble_eq_true rfl⟩ (fun r2 v H2 locs2 hv hQ hS hk => ?_)
  have hP := keepC X.2.2.2.2.2.1 hP hk
  have hkp := kp_drop hR hu hv
  refine lv_icmp_eq (tgt := 880) hx hb dL_law_358 (by decide) (fun _ => ?_) (fun z9 => absurd (congrArg iZ hkp.1) z9)
  exact kend u v H2 locs2 hkp.2 hP hQ hS
set_option maxHeartbeats 4000000 in
set_option maxRecDepth 100000 in
theorem lc_rate {p : Program} {l : Launch} {e : Env} {s : State} {m : MethodId} {below : List Frame} {meth : Method} {c : Code} {H : Heap} {locs : List Loc} {Q : State → Prop} {D : va_G} {g : Nat → ClassId} {a b : Nat → Nat} {bb L : Nat} {xs : Nat → Int32} {ls : Array Slot} {st mt : SS} {i : Int} (X : LC p s m meth c D g a b bb L xs) (hi : 0 ≤ i ∧ i + 5 ≤ L) (hR : REL st mt) (hP : va_P D vwCl (WC g a st) H) (hQ : va_P D vwCl (WM g b mt) H) (hS : va_S (A0 s) s.heap H locs) (hl : lv_has ls 4 [(0, .ref bb), (1, .ref (a 0)), (2, .ref (b 0)), (3, .int (iZ i))]) (kend : ∀ (u v : SS) (H1 : Heap) (locs1 : List Loc), REL u v → va_P D vwCl (WC g a u) H1 → va_P D vwCl (WM g b v) H1 → va_S (A0 s) s.heap H1 locs1 → W p l e room_1 s m #[Value.ref bb] below meth c H1 locs1 47 1131 Q (F0 m 880 ls [])) : W p l e room_1 s m #[Value.ref bb] below meth c H locs 47 1131 Q (F0 m 363 ls []) := by
  have S := X.call
  have hx := X.1.1
  have hb : c.code = cL_law := X.1.2.1
  have hts := S.2.2.2.2
  have hK := X.2.2.1
  have hA1 : ∀ q, AWC a q → A0 s q := fun q ⟨k, k1, k2⟩ => by rw [k2]; exact X.2.2.2.2.2.2.1 k k1
  have hA2 : ∀ q, AWM b q → A0 s q := fun q ⟨k, k1, k2⟩ => by rw [k2]; exact X.2.2.2.2.2.2.2 k k1
  refine lv_aload_n hx hb dL_law_363 rfl (lv_at hl 1 rfl) ?_
  refine lv_aload_n hx hb dL_law_364 rfl (lv_at hl 0 rfl) ?_
  refine lv_iload_n hx hb dL_law_365 rfl (lv_at hl 3 rfl) ?_
  refine z_iconst hx hb dL_law_366 ?_
  refine z_iadd hx hb dL_law_367 ?_
  refine z_sld X hb hS (i := i + 1) (by omega) (by omega) dL_law_368 ?_
  refine z_cVI (A0 := A0 s) (q0 := 0) (ci := 6) (As := [.int (iZ (XS xs (i + 1)))]) (rest := []) S (m_X7_rate l D g a st (XS xs (i + 1)) hR.ic (rg_of _)) (cwV 1 hts gL_law_X7_rate rfl rfl rfl (by decide +kernel) ⟨Nat.le_of_ble_eq_true rfl, Nat.le_of_ble_eq_true rfl⟩) hK hP (WC_D X.2.2.2.1) hS hA1 rfl rfl rfl hl.1 rfl (Nat.le_of_ble_eq_true rfl) dL_law_369 ⟨Nat.le_of_ble_eq_true rfl, Nat.le_of_ble_eq_true rfl⟩ (fun r1 u H1 locs1 hu hP hS hk => ?_)
  have hQ := keepM X.2.2.2.2.2.1 hQ hk
  refine lv_aload_n hx hb dL_law_372 rfl (lv_at hl 2 rfl) ?_
  refine lv_aload_n hx hb dL_law_373 rfl (lv_at hl 0 rfl) ?_
  refine lv_iload_n hx hb dL_law_374 rfl (lv_at hl 3 rfl) ?_
  refine z_iconst hx hb dL_law_375 ?_
  refine z_iadd hx hb dL_law_376 ?_
  refine z_sld X hb hS (i := i + 1) (by omega) (by omega) dL_law_377 ?_
  refine z_cVI (A0 := A0 s) (q0 := 0) (ci := 7) (As := [.int (iZ (XS xs (i + 1)))]) (rest := [.int (iZ r1)]) S (m_X8_rate l D g b mt (XS xs (i + 1)) hR.im (rg_of _)) (cwV 1 hts gL_law_X8_rate rfl rfl rfl (by decide +kernel) ⟨Nat.le_of_ble_eq_true rfl, Nat.le_of_ble_eq_true rfl⟩) hK hQ (WM_D X.2.2.2.2.1) hS hA2 rfl rfl rfl hl.1 rfl (Nat.le_of_ble_eq_true rfl) dL_law_378 ⟨Nat.le_of_ble_eq_true rfl, Nat.le_of_ble_eq_true rfl⟩ (fun r2 v H2 locs2 hv hQ hS hk => ?_)
  have hP := keepC X.2.2.2.2.2.1 hP hk
  have hkp := kp_rate hR hu hv
  refine lv_icmp_eq (tgt := 880) hx hb dL_law_381 (by decide) (fun _ => ?_) (fun z9 => absurd (congrArg iZ hkp.1) z9)
  exact kend u v H2 locs2 hkp.2 hP hQ hS
set_option maxHeartbeats 4000000 in
set_option maxRecDepth 100000 in
theorem lc_where {p : Program} {l : Launch} {e : Env} {s : State} {m : MethodId} {below : List Frame} {meth : Method} {c : Code} {H : Heap} {locs : List Loc} {Q : State → Prop} {D : va_G} {g : Nat → ClassId} {a b : Nat → Nat} {bb L : Nat} {xs : Nat → Int32} {ls : Array Slot} {st mt : SS} {i : Int} (X : LC p s m meth c D g a b bb L xs) (hi : 0 ≤ i ∧ i + 5 ≤ L) (hR : REL st mt) (hP : va_P D vwCl (WC g a st) H) (hQ : va_P D vwCl (WM g b mt) H) (hS : va_S (A0 s) s.heap H locs) (hl : lv_has ls 4 [(0, .ref bb), (1, .ref (a 0)), (2, .ref (b 0)), (3, .int (iZ i))]) (kend : ∀ (u v : SS) (H1 : Heap) (locs1 : List Loc), REL u v → va_P D vwCl (WC g a u) H1 → va_P D vwCl (WM g b v) H1 → va_S (A0 s) s.heap H1 locs1 → W p l e room_1 s m #[Value.ref bb] below meth c H1 locs1 47 1131 Q (F0 m 880 ls [])) : W p l e room_1 s m #[Value.ref bb] below meth c H locs 47 1131 Q (F0 m 386 ls []) := by
  have S := X.call
  have hx := X.1.1
  have hb : c.code = cL_law := X.1.2.1
  have hts := S.2.2.2.2
  have hK := X.2.2.1
  have hA1 : ∀ q, AWC a q → A0 s q := fun q ⟨k, k1, k2⟩ => by rw [k2]; exact X.2.2.2.2.2.2.1 k k1
  have hA2 : ∀ q, AWM b q → A0 s q := fun q ⟨k, k1, k2⟩ => by rw [k2]; exact X.2.2.2.2.2.2.2 k k1
  refine lv_aload_n hx hb dL_law_386 rfl (lv_at hl 1 rfl) ?_
  refine lv_aload_n hx hb dL_law_387 rfl (lv_at hl 0 rfl) ?_
  refine lv_iload_n hx hb dL_law_388 rfl (lv_at hl 3 rfl) ?_
  refine z_iconst hx hb dL_law_389 ?_
  refine z_iadd hx hb dL_law_390 ?_
  refine z_sld X hb hS (i := i + 1) (by omega) (by omega) dL_law_391 ?_
  refine lv_aload_n hx hb dL_law_392 rfl (lv_at hl 0 rfl) ?_
  refine lv_iload_n hx hb dL_law_393 rfl (lv_at hl 3 rfl) ?_
  refine z_iconst hx hb dL_law_394 ?_
  refine z_iadd hx hb dL_law_395 ?_
  refine z_sld X hb hS (i := i + 2) (by omega) (by omega) dL_law_396 ?_
  refine z_cVR (q0 := 0) (ci := 6) (As := [.int (iZ (XS xs (i + 1))), .int (iZ (XS xs (i + 2)))]) (rest := []) S (m_X7_where l D g a st (XS xs (i + 1)) (XS xs (i + 2)) hR.ic (rg_of _) (rg_of _)) (cwV 2 hts gL_law_X7_where rfl rfl rfl (by decide +kernel) ⟨Nat.le_of_ble_eq_true rfl, Nat.le_of_ble_eq_true rfl⟩) hK hP rfl rfl rfl hl.1 rfl (Nat.le_of_ble_eq_true rfl) dL_law_397 ⟨Nat.le_of_ble_eq_true rfl, Nat.le_of_ble_eq_true rfl⟩ ?_
  refine lv_aload_n hx hb dL_law_400 rfl (lv_at hl 2 rfl) ?_
  refine lv_aload_n hx hb dL_law_401 rfl (lv_at hl 0 rfl) ?_
  refine lv_iload_n hx hb dL_law_402 rfl (lv_at hl 3 rfl) ?_
  refine z_iconst hx hb dL_law_403 ?_
  refine z_iadd hx hb dL_law_404 ?_
  refine z_sld X hb hS (i := i + 1) (by omega) (by omega) dL_law_405 ?_
  refine lv_aload_n hx hb dL_law_406 rfl (lv_at hl 0 rfl) ?_
  refine lv_iload_n hx hb dL_law_407 rfl (lv_at hl 3 rfl) ?_
  refine z_iconst hx hb dL_law_408 ?_
  refine z_iadd hx hb dL_law_409 ?_
  refine z_sld X hb hS (i := i + 2) (by omega) (by omega) dL_law_410 ?_
  refine z_cVR (q0 := 0) (ci := 7) (As := [.int (iZ (XS xs (i + 1))), .int (iZ (XS xs (i + 2)))]) (rest := [.int _]) S (m_X8_where l D g b mt (XS xs (i + 1)) (XS xs (i + 2)) hR.im (rg_of _) (rg_of _)) (cwV 2 hts gL_law_X8_where rfl rfl rfl (by decide +kernel) ⟨Nat.le_of_ble_eq_true rfl, Nat.le_of_ble_eq_true rfl⟩) hK hQ rfl rfl rfl hl.1 rfl (Nat.le_of_ble_eq_true rfl) dL_law_411 ⟨Nat.le_of_ble_eq_true rfl, Nat.le_of_ble_eq_true rfl⟩ ?_
  refine lv_icmp_eq (tgt := 880) hx hb dL_law_414 (by decide) (fun _ => ?_) (fun z9 => absurd (congrArg iZ (rl_where hR _ _)) z9)
  exact kend st mt H locs hR hP hQ hS
set_option maxHeartbeats 4000000 in
set_option maxRecDepth 100000 in
theorem lc_hidden {p : Program} {l : Launch} {e : Env} {s : State} {m : MethodId} {below : List Frame} {meth : Method} {c : Code} {H : Heap} {locs : List Loc} {Q : State → Prop} {D : va_G} {g : Nat → ClassId} {a b : Nat → Nat} {bb L : Nat} {xs : Nat → Int32} {ls : Array Slot} {st mt : SS} {i : Int} (X : LC p s m meth c D g a b bb L xs) (hi : 0 ≤ i ∧ i + 5 ≤ L) (hR : REL st mt) (hP : va_P D vwCl (WC g a st) H) (hQ : va_P D vwCl (WM g b mt) H) (hS : va_S (A0 s) s.heap H locs) (hl : lv_has ls 4 [(0, .ref bb), (1, .ref (a 0)), (2, .ref (b 0)), (3, .int (iZ i))]) (kend : ∀ (u v : SS) (H1 : Heap) (locs1 : List Loc), REL u v → va_P D vwCl (WC g a u) H1 → va_P D vwCl (WM g b v) H1 → va_S (A0 s) s.heap H1 locs1 → W p l e room_1 s m #[Value.ref bb] below meth c H1 locs1 47 1131 Q (F0 m 880 ls [])) : W p l e room_1 s m #[Value.ref bb] below meth c H locs 47 1131 Q (F0 m 419 ls []) := by
  have S := X.call
  have hx := X.1.1
  have hb : c.code = cL_law := X.1.2.1
  have hts := S.2.2.2.2
  have hK := X.2.2.1
  have hA1 : ∀ q, AWC a q → A0 s q := fun q ⟨k, k1, k2⟩ => by rw [k2]; exact X.2.2.2.2.2.2.1 k k1
  have hA2 : ∀ q, AWM b q → A0 s q := fun q ⟨k, k1, k2⟩ => by rw [k2]; exact X.2.2.2.2.2.2.2 k k1
  refine lv_aload_n hx hb dL_law_419 rfl (lv_at hl 1 rfl) ?_
  refine lv_aload_n hx hb dL_law_420 rfl (lv_at hl 0 rfl) ?_
  refine lv_iload_n hx hb dL_law_421 rfl (lv_at hl 3 rfl) ?_
  refine z_iconst hx hb dL_law_422 ?_
  refine z_iadd hx hb dL_law_423 ?_
  refine z_sld X hb hS (i := i + 1) (by omega) (by omega) dL_law_424 ?_
  refine lv_aload_n hx hb dL_law_425 rfl (lv_at hl 0 rfl) ?_
  refine lv_iload_n hx hb dL_law_426 rfl (lv_at hl 3 rfl) ?_
  refine z_iconst hx hb dL_law_427 ?_
  refine z_iadd hx hb dL_law_428 ?_
  refine z_sld X hb hS (i := i + 2) (by omega) (by omega) dL_law_429 ?_
  refine lv_aload_n hx hb dL_law_430 rfl (lv_at hl 0 rfl) ?_
  refine lv_iload_n hx hb dL_law_431 rfl (lv_at hl 3 rfl) ?_
  refine z_iconst hx hb dL_law_432 ?_
  refine z_iadd hx hb dL_law_433 ?_
  refine z_sld X hb hS (i := i + 3) (by omega) (by omega) dL_law_434 ?_
  refine z_cVR (q0 := 0) (ci := 6) (As := [.int (iZ (XS xs (i + 1))), .int (iZ (XS xs (i + 2))), .int (iZ (XS xs (i + 3)))]) (rest := []) S (m_X7_hidden l D g a st (XS xs (i + 1)) (XS xs (i + 2)) (XS xs (i + 3)) hR.ic (rg_of _) (rg_of _) (rg_of _)) (cwV 3 hts gL_law_X7_hidden rfl rfl rfl (by decide +kernel) ⟨Nat.le_of_ble_eq_true rfl, Nat.le_of_ble_eq_true rfl⟩) hK hP rfl rfl rfl hl.1 rfl (Nat.le_of_ble_eq_true rfl) dL_law_435 ⟨Nat.le_of_ble_eq_true rfl, Nat.le_of_ble_eq_true rfl⟩ ?_
  refine lv_aload_n hx hb dL_law_438 rfl (lv_at hl 2 rfl) ?_
  refine lv_aload_n hx hb dL_law_439 rfl (lv_at hl 0 rfl) ?_
  refine lv_iload_n hx hb dL_law_440 rfl (lv_at hl 3 rfl) ?_
  refine z_iconst hx hb dL_law_441 ?_
  refine z_iadd hx hb dL_law_442 ?_
  refine z_sld X hb hS (i := i + 1) (by omega) (by omega) dL_law_443 ?_
  refine lv_aload_n hx hb dL_law_444 rfl (lv_at hl 0 rfl) ?_
  refine lv_iload_n hx hb dL_law_445 rfl (lv_at hl 3 rfl) ?_
  refine z_iconst hx hb dL_law_446 ?_
  refine z_iadd hx hb dL_law_447 ?_
  refine z_sld X hb hS (i := i + 2) (by omega) (by omega) dL_law_448 ?_
  refine lv_aload_n hx hb dL_law_449 rfl (lv_at hl 0 rfl) ?_
  refine lv_iload_n hx hb dL_law_450 rfl (lv_at hl 3 rfl) ?_
  refine z_iconst hx hb dL_law_451 ?_
  refine z_iadd hx hb dL_law_452 ?_
  refine z_sld X hb hS (i := i + 3) (by omega) (by omega) dL_law_453 ?_
  refine z_cVR (q0 := 0) (ci := 7) (As := [.int (iZ (XS xs (i + 1))), .int (iZ (XS xs (i + 2))), .int (iZ (XS xs (i + 3)))]) (rest := [.int _]) S (m_X8_hidden l D g b mt (XS xs (i + 1)) (XS xs (i + 2)) (XS xs (i + 3)) hR.im (rg_of _) (rg_of _) (rg_of _)) (cwV 3 hts gL_law_X8_hidden rfl rfl rfl (by decide +kernel) ⟨Nat.le_of_ble_eq_true rfl, Nat.le_of_ble_eq_true rfl⟩) hK hQ rfl rfl rfl hl.1 rfl (Nat.le_of_ble_eq_true rfl) dL_law_454 ⟨Nat.le_of_ble_eq_true rfl, Nat.le_of_ble_eq_true rfl⟩ ?_
  refine lv_icmp_eq (tgt := 880) hx hb dL_law_457 (by decide) (fun _ => ?_) (fun z9 => absurd (congrArg iZ (rl_hidden hR _ _ _)) z9)
  exact kend st mt H locs hR hP hQ hS
set_option maxHeartbeats 4000000 in
set_option maxRecDepth 100000 in
theorem lc_sees {p : Program} {l : Launch} {e : Env} {s : State} {m : MethodId} {below : List Frame} {meth : Method} {c : Code} {H : Heap} {locs : List Loc} {Q : State → Prop} {D : va_G} {g : Nat → ClassId} {a b : Nat → Nat} {bb L : Nat} {xs : Nat → Int32} {ls : Array Slot} {st mt : SS} {i : Int} (X : LC p s m meth c D g a b bb L xs) (hi : 0 ≤ i ∧ i + 5 ≤ L) (hR : REL st mt) (hP : va_P D vwCl (WC g a st) H) (hQ : va_P D vwCl (WM g b mt) H) (hS : va_S (A0 s) s.heap H locs) (hl : lv_has ls 4 [(0, .ref bb), (1, .ref (a 0)), (2, .ref (b 0)), (3, .int (iZ i))]) (kend : ∀ (u v : SS) (H1 : Heap) (locs1 : List Loc), REL u v → va_P D vwCl (WC g a u) H1 → va_P D vwCl (WM g b v) H1 → va_S (A0 s) s.heap H1 locs1 → W p l e room_1 s m #[Value.ref bb] below meth c H1 locs1 47 1131 Q (F0 m 880 ls [])) : W p l e room_1 s m #[Value.ref bb] below meth c H locs 47 1131 Q (F0 m 462 ls []) := by
  have S := X.call
  have hx := X.1.1
  have hb : c.code = cL_law := X.1.2.1
  have hts := S.2.2.2.2
  have hK := X.2.2.1
  have hA1 : ∀ q, AWC a q → A0 s q := fun q ⟨k, k1, k2⟩ => by rw [k2]; exact X.2.2.2.2.2.2.1 k k1
  have hA2 : ∀ q, AWM b q → A0 s q := fun q ⟨k, k1, k2⟩ => by rw [k2]; exact X.2.2.2.2.2.2.2 k k1
  refine lv_aload_n hx hb dL_law_462 rfl (lv_at hl 1 rfl) ?_
  refine lv_aload_n hx hb dL_law_463 rfl (lv_at hl 0 rfl) ?_
  refine lv_iload_n hx hb dL_law_464 rfl (lv_at hl 3 rfl) ?_
  refine z_iconst hx hb dL_law_465 ?_
  refine z_iadd hx hb dL_law_466 ?_
  refine z_sld X hb hS (i := i + 1) (by omega) (by omega) dL_law_467 ?_
  refine lv_aload_n hx hb dL_law_468 rfl (lv_at hl 0 rfl) ?_
  refine lv_iload_n hx hb dL_law_469 rfl (lv_at hl 3 rfl) ?_
  refine z_iconst hx hb dL_law_470 ?_
  refine z_iadd hx hb dL_law_471 ?_
  refine z_sld X hb hS (i := i + 2) (by omega) (by omega) dL_law_472 ?_
  refine lv_aload_n hx hb dL_law_473 rfl (lv_at hl 0 rfl) ?_
  refine lv_iload_n hx hb dL_law_474 rfl (lv_at hl 3 rfl) ?_
  refine z_iconst hx hb dL_law_475 ?_
  refine z_iadd hx hb dL_law_476 ?_
  refine z_sld X hb hS (i := i + 3) (by omega) (by omega) dL_law_477 ?_
  refine lv_aload_n hx hb dL_law_478 rfl (lv_at hl 0 rfl) ?_
  refine lv_iload_n hx hb dL_law_479 rfl (lv_at hl 3 rfl) ?_
  refine z_iconst hx hb dL_law_480 ?_
  refine z_iadd hx hb dL_law_481 ?_
  refine z_sld X hb hS (i := i + 4) (by omega) (by omega) dL_law_482 ?_
  refine z_cVR (q0 := 0) (ci := 6) (As := [.int (iZ (XS xs (i + 1))), .int (iZ (XS xs (i + 2))), .int (iZ (XS xs (i + 3))), .int (iZ (XS xs (i + 4)))]) (rest := []) S (m_X7_sees l D g a st (XS xs (i + 1)) (XS xs (i + 2)) (XS xs (i + 3)) (XS xs (i + 4)) hR.ic (rg_of _) (rg_of _) (rg_of _) (rg_of _)) (cwV 4 hts gL_law_X7_sees rfl rfl rfl (by decide +kernel) ⟨Nat.le_of_ble_eq_true rfl, Nat.le_of_ble_eq_true rfl⟩) hK hP rfl rfl rfl hl.1 rfl (Nat.le_of_ble_eq_true rfl) dL_law_483 ⟨Nat.le_of_ble_eq_true rfl, Nat.le_of_ble_eq_true rfl⟩ ?_
  refine lv_aload_n hx hb dL_law_486 rfl (lv_at hl 2 rfl) ?_
  refine lv_aload_n hx hb dL_law_487 rfl (lv_at hl 0 rfl) ?_
  refine lv_iload_n hx hb dL_law_488 rfl (lv_at hl 3 rfl) ?_
  refine z_iconst hx hb dL_law_489 ?_
  refine z_iadd hx hb dL_law_490 ?_
  refine z_sld X hb hS (i := i + 1) (by omega) (by omega) dL_law_491 ?_
  refine lv_aload_n hx hb dL_law_492 rfl (lv_at hl 0 rfl) ?_
  refine lv_iload_n hx hb dL_law_493 rfl (lv_at hl 3 rfl) ?_
  refine z_iconst hx hb dL_law_494 ?_
  refine z_iadd hx hb dL_law_495 ?_
  refine z_sld X hb hS (i := i + 2) (by omega) (by omega) dL_law_496 ?_
  refine lv_aload_n hx hb dL_law_497 rfl (lv_at hl 0 rfl) ?_
  refine lv_iload_n hx hb dL_law_498 rfl (lv_at hl 3 rfl) ?_
  refine z_iconst hx hb dL_law_499 ?_
  refine z_iadd hx hb dL_law_500 ?_
  refine z_sld X hb hS (i := i + 3) (by omega) (by omega) dL_law_501 ?_
  refine lv_aload_n hx hb dL_law_502 rfl (lv_at hl 0 rfl) ?_
  refine lv_iload_n hx hb dL_law_503 rfl (lv_at hl 3 rfl) ?_
  refine z_iconst hx hb dL_law_504 ?_
  refine z_iadd hx hb dL_law_505 ?_
  refine z_sld X hb hS (i := i + 4) (by omega) (by omega) dL_law_506 ?_
  refine z_cVR (q0 := 0) (ci := 7) (As := [.int (iZ (XS xs (i + 1))), .int (iZ (XS xs (i + 2))), .int (iZ (XS xs (i + 3))), .int (iZ (XS xs (i + 4)))]) (rest := [.int _]) S (m_X8_sees l D g b mt (XS xs (i + 1)) (XS xs (i + 2)) (XS xs (i + 3)) (XS xs (i + 4)) hR.im (rg_of _) (rg_of _) (rg_of _) (rg_of _)) (cwV 4 hts gL_law_X8_sees rfl rfl rfl (by decide +kernel) ⟨Nat.le_of_ble_eq_true rfl, Nat.le_of_ble_eq_true rfl⟩) hK hQ rfl rfl rfl hl.1 rfl (Nat.le_of_ble_eq_true rfl) dL_law_507 ⟨Nat.le_of_ble_eq_true rfl, Nat.le_of_ble_eq_true rfl⟩ ?_
  refine lv_icmp_eq (tgt := 880) hx hb dL_law_510 (by decide) (fun _ => ?_) (fun z9 => absurd (congrArg iZ (rl_sees hR _ _ _ _)) z9)
  exact kend st mt H locs hR hP hQ hS
set_option maxHeartbeats 4000000 in
set_option maxRecDepth 100000 in
theorem lc_size {p : Program} {l : Launch} {e : Env} {s : State} {m : MethodId} {below : List Frame} {meth : Method} {c : Code} {H : Heap} {locs : List Loc} {Q : State → Prop} {D : va_G} {g : Nat → ClassId} {a b : Nat → Nat} {bb L : Nat} {xs : Nat → Int32} {ls : Array Slot} {st mt : SS} {i : Int} (X : LC p s m meth c D g a b bb L xs) (hi : 0 ≤ i ∧ i + 5 ≤ L) (hR : REL st mt) (hP : va_P D vwCl (WC g a st) H) (hQ : va_P D vwCl (WM g b mt) H) (hS : va_S (A0 s) s.heap H locs) (hl : lv_has ls 4 [(0, .ref bb), (1, .ref (a 0)), (2, .ref (b 0)), (3, .int (iZ i))]) (kend : ∀ (u v : SS) (H1 : Heap) (locs1 : List Loc), REL u v → va_P D vwCl (WC g a u) H1 → va_P D vwCl (WM g b v) H1 → va_S (A0 s) s.heap H1 locs1 → W p l e room_1 s m #[Value.ref bb] below meth c H1 locs1 47 1131 Q (F0 m 880 ls [])) : W p l e room_1 s m #[Value.ref bb] below meth c H locs 47 1131 Q (F0 m 515 ls []) := by
  have S := X.call
  have hx := X.1.1
  have hb : c.code = cL_law := X.1.2.1
  have hts := S.2.2.2.2
  have hK := X.2.2.1
  have hA1 : ∀ q, AWC a q → A0 s q := fun q ⟨k, k1, k2⟩ => by rw [k2]; exact X.2.2.2.2.2.2.1 k k1
  have hA2 : ∀ q, AWM b q → A0 s q := fun q ⟨k, k1, k2⟩ => by rw [k2]; exact X.2.2.2.2.2.2.2 k k1
  refine lv_aload_n hx hb dL_law_515 rfl (lv_at hl 1 rfl) ?_
  refine lv_aload_n hx hb dL_law_516 rfl (lv_at hl 0 rfl) ?_
  refine lv_iload_n hx hb dL_law_517 rfl (lv_at hl 3 rfl) ?_
  refine z_iconst hx hb dL_law_518 ?_
  refine z_iadd hx hb dL_law_519 ?_
  refine z_sld X hb hS (i := i + 1) (by omega) (by omega) dL_law_520 ?_
  refine lv_aload_n hx hb dL_law_521 rfl (lv_at hl 0 rfl) ?_
  refine lv_iload_n hx hb dL_law_522 rfl (lv_at hl 3 rfl) ?_
  refine z_iconst hx hb dL_law_523 ?_
  refine z_iadd hx hb dL_law_524 ?_
  refine z_sld X hb hS (i := i + 2) (by omega) (by omega) dL_law_525 ?_
  refine lv_aload_n hx hb dL_law_526 rfl (lv_at hl 0 rfl) ?_
  refine lv_iload_n hx hb dL_law_527 rfl (lv_at hl 3 rfl) ?_
  refine z_iconst hx hb dL_law_528 ?_
  refine z_iadd hx hb dL_law_529 ?_
  refine z_sld X hb hS (i := i + 3) (by omega) (by omega) dL_law_530 ?_
  refine z_cVR (q0 := 0) (ci := 6) (As := [.int (iZ (XS xs (i + 1))), .int (iZ (XS xs (i + 2))), .int (iZ (XS xs (i + 3)))]) (rest := []) S (m_X7_size l D g a st (XS xs (i + 1)) (XS xs (i + 2)) (XS xs (i + 3)) hR.ic (rg_of _) (rg_of _) (rg_of _)) (cwV 3 hts gL_law_X7_size rfl rfl rfl (by decide +kernel) ⟨Nat.le_of_ble_eq_true rfl, Nat.le_of_ble_eq_true rfl⟩) hK hP rfl rfl rfl hl.1 rfl (Nat.le_of_ble_eq_true rfl) dL_law_531 ⟨Nat.le_of_ble_eq_true rfl, Nat.le_of_ble_eq_true rfl⟩ ?_
  refine lv_aload_n hx hb dL_law_534 rfl (lv_at hl 2 rfl) ?_
  refine lv_aload_n hx hb dL_law_535 rfl (lv_at hl 0 rfl) ?_
  refine lv_iload_n hx hb dL_law_536 rfl (lv_at hl 3 rfl) ?_
  refine z_iconst hx hb dL_law_537 ?_
  refine z_iadd hx hb dL_law_538 ?_
  refine z_sld X hb hS (i := i + 1) (by omega) (by omega) dL_law_539 ?_
  refine lv_aload_n hx hb dL_law_540 rfl (lv_at hl 0 rfl) ?_
  refine lv_iload_n hx hb dL_law_541 rfl (lv_at hl 3 rfl) ?_
  refine z_iconst hx hb dL_law_542 ?_
  refine z_iadd hx hb dL_law_543 ?_
  refine z_sld X hb hS (i := i + 2) (by omega) (by omega) dL_law_544 ?_
  refine lv_aload_n hx hb dL_law_545 rfl (lv_at hl 0 rfl) ?_
  refine lv_iload_n hx hb dL_law_546 rfl (lv_at hl 3 rfl) ?_
  refine z_iconst hx hb dL_law_547 ?_
  refine z_iadd hx hb dL_law_548 ?_
  refine z_sld X hb hS (i := i + 3) (by omega) (by omega) dL_law_549 ?_
  refine z_cVR (q0 := 0) (ci := 7) (As := [.int (iZ (XS xs (i + 1))), .int (iZ (XS xs (i + 2))), .int (iZ (XS xs (i + 3)))]) (rest := [.int _]) S (m_X8_size l D g b mt (XS xs (i + 1)) (XS xs (i + 2)) (XS xs (i + 3)) hR.im (rg_of _) (rg_of _) (rg_of _)) (cwV 3 hts gL_law_X8_size rfl rfl rfl (by decide +kernel) ⟨Nat.le_of_ble_eq_true rfl, Nat.le_of_ble_eq_true rfl⟩) hK hQ rfl rfl rfl hl.1 rfl (Nat.le_of_ble_eq_true rfl) dL_law_550 ⟨Nat.le_of_ble_eq_true rfl, Nat.le_of_ble_eq_true rfl⟩ ?_
  refine lv_icmp_eq (tgt := 880) hx hb dL_law_553 (by decide) (fun _ => ?_) (fun z9 => absurd (congrArg iZ (rl_size hR _ _ _)) z9)
  exact kend st mt H locs hR hP hQ hS
set_option maxHeartbeats 4000000 in
set_option maxRecDepth 100000 in
theorem lc_views {p : Program} {l : Launch} {e : Env} {s : State} {m : MethodId} {below : List Frame} {meth : Method} {c : Code} {H : Heap} {locs : List Loc} {Q : State → Prop} {D : va_G} {g : Nat → ClassId} {a b : Nat → Nat} {bb L : Nat} {xs : Nat → Int32} {ls : Array Slot} {st mt : SS} {i : Int} (X : LC p s m meth c D g a b bb L xs) (hi : 0 ≤ i ∧ i + 5 ≤ L) (hR : REL st mt) (hP : va_P D vwCl (WC g a st) H) (hQ : va_P D vwCl (WM g b mt) H) (hS : va_S (A0 s) s.heap H locs) (hl : lv_has ls 4 [(0, .ref bb), (1, .ref (a 0)), (2, .ref (b 0)), (3, .int (iZ i))]) (kend : ∀ (u v : SS) (H1 : Heap) (locs1 : List Loc), REL u v → va_P D vwCl (WC g a u) H1 → va_P D vwCl (WM g b v) H1 → va_S (A0 s) s.heap H1 locs1 → W p l e room_1 s m #[Value.ref bb] below meth c H1 locs1 47 1131 Q (F0 m 880 ls [])) : W p l e room_1 s m #[Value.ref bb] below meth c H locs 47 1131 Q (F0 m 558 ls []) := by
  have S := X.call
  have hx := X.1.1
  have hb : c.code = cL_law := X.1.2.1
  have hts := S.2.2.2.2
  have hK := X.2.2.1
  have hA1 : ∀ q, AWC a q → A0 s q := fun q ⟨k, k1, k2⟩ => by rw [k2]; exact X.2.2.2.2.2.2.1 k k1
  have hA2 : ∀ q, AWM b q → A0 s q := fun q ⟨k, k1, k2⟩ => by rw [k2]; exact X.2.2.2.2.2.2.2 k k1
  refine lv_aload_n hx hb dL_law_558 rfl (lv_at hl 1 rfl) ?_
  refine lv_aload_n hx hb dL_law_559 rfl (lv_at hl 0 rfl) ?_
  refine lv_iload_n hx hb dL_law_560 rfl (lv_at hl 3 rfl) ?_
  refine z_iconst hx hb dL_law_561 ?_
  refine z_iadd hx hb dL_law_562 ?_
  refine z_sld X hb hS (i := i + 1) (by omega) (by omega) dL_law_563 ?_
  refine lv_aload_n hx hb dL_law_564 rfl (lv_at hl 0 rfl) ?_
  refine lv_iload_n hx hb dL_law_565 rfl (lv_at hl 3 rfl) ?_
  refine z_iconst hx hb dL_law_566 ?_
  refine z_iadd hx hb dL_law_567 ?_
  refine z_sld X hb hS (i := i + 2) (by omega) (by omega) dL_law_568 ?_
  refine z_cVR (q0 := 0) (ci := 6) (As := [.int (iZ (XS xs (i + 1))), .int (iZ (XS xs (i + 2)))]) (rest := []) S (m_X7_views l D g a st (XS xs (i + 1)) (XS xs (i + 2)) hR.ic (rg_of _) (rg_of _)) (cwV 2 hts gL_law_X7_views rfl rfl rfl (by decide +kernel) ⟨Nat.le_of_ble_eq_true rfl, Nat.le_of_ble_eq_true rfl⟩) hK hP rfl rfl rfl hl.1 rfl (Nat.le_of_ble_eq_true rfl) dL_law_569 ⟨Nat.le_of_ble_eq_true rfl, Nat.le_of_ble_eq_true rfl⟩ ?_
  refine lv_aload_n hx hb dL_law_572 rfl (lv_at hl 2 rfl) ?_
  refine lv_aload_n hx hb dL_law_573 rfl (lv_at hl 0 rfl) ?_
  refine lv_iload_n hx hb dL_law_574 rfl (lv_at hl 3 rfl) ?_
  refine z_iconst hx hb dL_law_575 ?_
  refine z_iadd hx hb dL_law_576 ?_
  refine z_sld X hb hS (i := i + 1) (by omega) (by omega) dL_law_577 ?_
  refine lv_aload_n hx hb dL_law_578 rfl (lv_at hl 0 rfl) ?_
  refine lv_iload_n hx hb dL_law_579 rfl (lv_at hl 3 rfl) ?_
  refine z_iconst hx hb dL_law_580 ?_
  refine z_iadd hx hb dL_law_581 ?_
  refine z_sld X hb hS (i := i + 2) (by omega) (by omega) dL_law_582 ?_
  refine z_cVR (q0 := 0) (ci := 7) (As := [.int (iZ (XS xs (i + 1))), .int (iZ (XS xs (i + 2)))]) (rest := [.int _]) S (m_X8_views l D g b mt (XS xs (i + 1)) (XS xs (i + 2)) hR.im (rg_of _) (rg_of _)) (cwV 2 hts gL_law_X8_views rfl rfl rfl (by decide +kernel) ⟨Nat.le_of_ble_eq_true rfl, Nat.le_of_ble_eq_true rfl⟩) hK hQ rfl rfl rfl hl.1 rfl (Nat.le_of_ble_eq_true rfl) dL_law_583 ⟨Nat.le_of_ble_eq_true rfl, Nat.le_of_ble_eq_true rfl⟩ ?_
  refine lv_icmp_eq (tgt := 880) hx hb dL_law_586 (by decide) (fun _ => ?_) (fun z9 => absurd (congrArg iZ (rl_views hR _ _)) z9)
  exact kend st mt H locs hR hP hQ hS
set_option maxHeartbeats 4000000 in
set_option maxRecDepth 100000 in
theorem lc_gives {p : Program} {l : Launch} {e : Env} {s : State} {m : MethodId} {below : List Frame} {meth : Method} {c : Code} {H : Heap} {locs : List Loc} {Q : State → Prop} {D : va_G} {g : Nat → ClassId} {a b : Nat → Nat} {bb L : Nat} {xs : Nat → Int32} {ls : Array Slot} {st mt : SS} {i : Int} (X : LC p s m meth c D g a b bb L xs) (hi : 0 ≤ i ∧ i + 5 ≤ L) (hR : REL st mt) (hP : va_P D vwCl (WC g a st) H) (hQ : va_P D vwCl (WM g b mt) H) (hS : va_S (A0 s) s.heap H locs) (hl : lv_has ls 4 [(0, .ref bb), (1, .ref (a 0)), (2, .ref (b 0)), (3, .int (iZ i))]) (kend : ∀ (u v : SS) (H1 : Heap) (locs1 : List Loc), REL u v → va_P D vwCl (WC g a u) H1 → va_P D vwCl (WM g b v) H1 → va_S (A0 s) s.heap H1 locs1 → W p l e room_1 s m #[Value.ref bb] below meth c H1 locs1 47 1131 Q (F0 m 880 ls [])) : W p l e room_1 s m #[Value.ref bb] below meth c H locs 47 1131 Q (F0 m 591 ls []) := by
  have S := X.call
  have hx := X.1.1
  have hb : c.code = cL_law := X.1.2.1
  have hts := S.2.2.2.2
  have hK := X.2.2.1
  have hA1 : ∀ q, AWC a q → A0 s q := fun q ⟨k, k1, k2⟩ => by rw [k2]; exact X.2.2.2.2.2.2.1 k k1
  have hA2 : ∀ q, AWM b q → A0 s q := fun q ⟨k, k1, k2⟩ => by rw [k2]; exact X.2.2.2.2.2.2.2 k k1
  refine lv_aload_n hx hb dL_law_591 rfl (lv_at hl 1 rfl) ?_
  refine lv_aload_n hx hb dL_law_592 rfl (lv_at hl 0 rfl) ?_
  refine lv_iload_n hx hb dL_law_593 rfl (lv_at hl 3 rfl) ?_
  refine z_iconst hx hb dL_law_594 ?_
  refine z_iadd hx hb dL_law_595 ?_
  refine z_sld X hb hS (i := i + 1) (by omega) (by omega) dL_law_596 ?_
  refine lv_aload_n hx hb dL_law_597 rfl (lv_at hl 0 rfl) ?_
  refine lv_iload_n hx hb dL_law_598 rfl (lv_at hl 3 rfl) ?_
  refine z_iconst hx hb dL_law_599 ?_
  refine z_iadd hx hb dL_law_600 ?_
  refine z_sld X hb hS (i := i + 2) (by omega) (by omega) dL_law_601 ?_
  refine z_cVR (q0 := 0) (ci := 6) (As := [.int (iZ (XS xs (i + 1))), .int (iZ (XS xs (i + 2)))]) (rest := []) S (m_X7_gives l D g a st (XS xs (i + 1)) (XS xs (i + 2)) hR.ic (rg_of _) (rg_of _)) (cwV 2 hts gL_law_X7_gives rfl rfl rfl (by decide +kernel) ⟨Nat.le_of_ble_eq_true rfl, Nat.le_of_ble_eq_true rfl⟩) hK hP rfl rfl rfl hl.1 rfl (Nat.le_of_ble_eq_true rfl) dL_law_602 ⟨Nat.le_of_ble_eq_true rfl, Nat.le_of_ble_eq_true rfl⟩ ?_
  refine lv_aload_n hx hb dL_law_605 rfl (lv_at hl 2 rfl) ?_
  refine lv_aload_n hx hb dL_law_606 rfl (lv_at hl 0 rfl) ?_
  refine lv_iload_n hx hb dL_law_607 rfl (lv_at hl 3 rfl) ?_
  refine z_iconst hx hb dL_law_608 ?_
  refine z_iadd hx hb dL_law_609 ?_
  refine z_sld X hb hS (i := i + 1) (by omega) (by omega) dL_law_610 ?_
  refine lv_aload_n hx hb dL_law_611 rfl (lv_at hl 0 rfl) ?_
  refine lv_iload_n hx hb dL_law_612 rfl (lv_at hl 3 rfl) ?_
  refine z_iconst hx hb dL_law_613 ?_
  refine z_iadd hx hb dL_law_614 ?_
  refine z_sld X hb hS (i := i + 2) (by omega) (by omega) dL_law_615 ?_
  refine z_cVR (q0 := 0) (ci := 7) (As := [.int (iZ (XS xs (i + 1))), .int (iZ (XS xs (i + 2)))]) (rest := [.int _]) S (m_X8_gives l D g b mt (XS xs (i + 1)) (XS xs (i + 2)) hR.im (rg_of _) (rg_of _)) (cwV 2 hts gL_law_X8_gives rfl rfl rfl (by decide +kernel) ⟨Nat.le_of_ble_eq_true rfl, Nat.le_of_ble_eq_true rfl⟩) hK hQ rfl rfl rfl hl.1 rfl (Nat.le_of_ble_eq_true rfl) dL_law_616 ⟨Nat.le_of_ble_eq_true rfl, Nat.le_of_ble_eq_true rfl⟩ ?_
  refine lv_icmp_eq (tgt := 880) hx hb dL_law_619 (by decide) (fun _ => ?_) (fun z9 => absurd (congrArg iZ (rl_gives hR _ _)) z9)
  exact kend st mt H locs hR hP hQ hS
set_option maxHeartbeats 4000000 in
set_option maxRecDepth 100000 in
theorem lc_why {p : Program} {l : Launch} {e : Env} {s : State} {m : MethodId} {below : List Frame} {meth : Method} {c : Code} {H : Heap} {locs : List Loc} {Q : State → Prop} {D : va_G} {g : Nat → ClassId} {a b : Nat → Nat} {bb L : Nat} {xs : Nat → Int32} {ls : Array Slot} {st mt : SS} {i : Int} (X : LC p s m meth c D g a b bb L xs) (hi : 0 ≤ i ∧ i + 5 ≤ L) (hR : REL st mt) (hP : va_P D vwCl (WC g a st) H) (hQ : va_P D vwCl (WM g b mt) H) (hS : va_S (A0 s) s.heap H locs) (hl : lv_has ls 4 [(0, .ref bb), (1, .ref (a 0)), (2, .ref (b 0)), (3, .int (iZ i))]) (kend : ∀ (u v : SS) (H1 : Heap) (locs1 : List Loc), REL u v → va_P D vwCl (WC g a u) H1 → va_P D vwCl (WM g b v) H1 → va_S (A0 s) s.heap H1 locs1 → W p l e room_1 s m #[Value.ref bb] below meth c H1 locs1 47 1131 Q (F0 m 880 ls [])) : W p l e room_1 s m #[Value.ref bb] below meth c H locs 47 1131 Q (F0 m 624 ls []) := by
  have S := X.call
  have hx := X.1.1
  have hb : c.code = cL_law := X.1.2.1
  have hts := S.2.2.2.2
  have hK := X.2.2.1
  have hA1 : ∀ q, AWC a q → A0 s q := fun q ⟨k, k1, k2⟩ => by rw [k2]; exact X.2.2.2.2.2.2.1 k k1
  have hA2 : ∀ q, AWM b q → A0 s q := fun q ⟨k, k1, k2⟩ => by rw [k2]; exact X.2.2.2.2.2.2.2 k k1
  refine lv_aload_n hx hb dL_law_624 rfl (lv_at hl 1 rfl) ?_
  refine lv_aload_n hx hb dL_law_625 rfl (lv_at hl 0 rfl) ?_
  refine lv_iload_n hx hb dL_law_626 rfl (lv_at hl 3 rfl) ?_
  refine z_iconst hx hb dL_law_627 ?_
  refine z_iadd hx hb dL_law_628 ?_
  refine z_sld X hb hS (i := i + 1) (by omega) (by omega) dL_law_629 ?_
  refine lv_aload_n hx hb dL_law_630 rfl (lv_at hl 0 rfl) ?_
  refine lv_iload_n hx hb dL_law_631 rfl (lv_at hl 3 rfl) ?_
  refine z_iconst hx hb dL_law_632 ?_
  refine z_iadd hx hb dL_law_633 ?_
  refine z_sld X hb hS (i := i + 2) (by omega) (by omega) dL_law_634 ?_
  refine z_cVR (q0 := 0) (ci := 6) (As := [.int (iZ (XS xs (i + 1))), .int (iZ (XS xs (i + 2)))]) (rest := []) S (m_X7_why l D g a st (XS xs (i + 1)) (XS xs (i + 2)) hR.ic (rg_of _) (rg_of _)) (cwV 2 hts gL_law_X7_why rfl rfl rfl (by decide +kernel) ⟨Nat.le_of_ble_eq_true rfl, Nat.le_of_ble_eq_true rfl⟩) hK hP rfl rfl rfl hl.1 rfl (Nat.le_of_ble_eq_true rfl) dL_law_635 ⟨Nat.le_of_ble_eq_true rfl, Nat.le_of_ble_eq_true rfl⟩ ?_
  refine lv_aload_n hx hb dL_law_638 rfl (lv_at hl 2 rfl) ?_
  refine lv_aload_n hx hb dL_law_639 rfl (lv_at hl 0 rfl) ?_
  refine lv_iload_n hx hb dL_law_640 rfl (lv_at hl 3 rfl) ?_
  refine z_iconst hx hb dL_law_641 ?_
  refine z_iadd hx hb dL_law_642 ?_
  refine z_sld X hb hS (i := i + 1) (by omega) (by omega) dL_law_643 ?_
  refine lv_aload_n hx hb dL_law_644 rfl (lv_at hl 0 rfl) ?_
  refine lv_iload_n hx hb dL_law_645 rfl (lv_at hl 3 rfl) ?_
  refine z_iconst hx hb dL_law_646 ?_
  refine z_iadd hx hb dL_law_647 ?_
  refine z_sld X hb hS (i := i + 2) (by omega) (by omega) dL_law_648 ?_
  refine z_cVR (q0 := 0) (ci := 7) (As := [.int (iZ (XS xs (i + 1))), .int (iZ (XS xs (i + 2)))]) (rest := [.int _]) S (m_X8_why l D g b mt (XS xs (i + 1)) (XS xs (i + 2)) hR.im (rg_of _) (rg_of _)) (cwV 2 hts gL_law_X8_why rfl rfl rfl (by decide +kernel) ⟨Nat.le_of_ble_eq_true rfl, Nat.le_of_ble_eq_true rfl⟩) hK hQ rfl rfl rfl hl.1 rfl (Nat.le_of_ble_eq_true rfl) dL_law_649 ⟨Nat.le_of_ble_eq_true rfl, Nat.le_of_ble_eq_true rfl⟩ ?_
  refine lv_icmp_eq (tgt := 880) hx hb dL_law_652 (by decide) (fun _ => ?_) (fun z9 => absurd (congrArg iZ (rl_whya hR _ _)) z9)
  exact kend st mt H locs hR hP hQ hS
set_option maxHeartbeats 4000000 in
set_option maxRecDepth 100000 in
theorem lc_side {p : Program} {l : Launch} {e : Env} {s : State} {m : MethodId} {below : List Frame} {meth : Method} {c : Code} {H : Heap} {locs : List Loc} {Q : State → Prop} {D : va_G} {g : Nat → ClassId} {a b : Nat → Nat} {bb L : Nat} {xs : Nat → Int32} {ls : Array Slot} {st mt : SS} {i : Int} (X : LC p s m meth c D g a b bb L xs) (hi : 0 ≤ i ∧ i + 5 ≤ L) (hR : REL st mt) (hP : va_P D vwCl (WC g a st) H) (hQ : va_P D vwCl (WM g b mt) H) (hS : va_S (A0 s) s.heap H locs) (hl : lv_has ls 4 [(0, .ref bb), (1, .ref (a 0)), (2, .ref (b 0)), (3, .int (iZ i))]) (kend : ∀ (u v : SS) (H1 : Heap) (locs1 : List Loc), REL u v → va_P D vwCl (WC g a u) H1 → va_P D vwCl (WM g b v) H1 → va_S (A0 s) s.heap H1 locs1 → W p l e room_1 s m #[Value.ref bb] below meth c H1 locs1 47 1131 Q (F0 m 880 ls [])) : W p l e room_1 s m #[Value.ref bb] below meth c H locs 47 1131 Q (F0 m 657 ls []) := by
  have S := X.call
  have hx := X.1.1
  have hb : c.code = cL_law := X.1.2.1
  have hts := S.2.2.2.2
  have hK := X.2.2.1
  have hA1 : ∀ q, AWC a q → A0 s q := fun q ⟨k, k1, k2⟩ => by rw [k2]; exact X.2.2.2.2.2.2.1 k k1
  have hA2 : ∀ q, AWM b q → A0 s q := fun q ⟨k, k1, k2⟩ => by rw [k2]; exact X.2.2.2.2.2.2.2 k k1
  refine lv_aload_n hx hb dL_law_657 rfl (lv_at hl 1 rfl) ?_
  refine lv_aload_n hx hb dL_law_658 rfl (lv_at hl 0 rfl) ?_
  refine lv_iload_n hx hb dL_law_659 rfl (lv_at hl 3 rfl) ?_
  refine z_iconst hx hb dL_law_660 ?_
  refine z_iadd hx hb dL_law_661 ?_
  refine z_sld X hb hS (i := i + 1) (by omega) (by omega) dL_law_662 ?_
  refine lv_aload_n hx hb dL_law_663 rfl (lv_at hl 0 rfl) ?_
  refine lv_iload_n hx hb dL_law_664 rfl (lv_at hl 3 rfl) ?_
  refine z_iconst hx hb dL_law_665 ?_
  refine z_iadd hx hb dL_law_666 ?_
  refine z_sld X hb hS (i := i + 2) (by omega) (by omega) dL_law_667 ?_
  refine z_cVR (q0 := 0) (ci := 6) (As := [.int (iZ (XS xs (i + 1))), .int (iZ (XS xs (i + 2)))]) (rest := []) S (m_X7_side l D g a st (XS xs (i + 1)) (XS xs (i + 2)) hR.ic (rg_of _) (rg_of _)) (cwV 2 hts gL_law_X7_side rfl rfl rfl (by decide +kernel) ⟨Nat.le_of_ble_eq_true rfl, Nat.le_of_ble_eq_true rfl⟩) hK hP rfl rfl rfl hl.1 rfl (Nat.le_of_ble_eq_true rfl) dL_law_668 ⟨Nat.le_of_ble_eq_true rfl, Nat.le_of_ble_eq_true rfl⟩ ?_
  refine lv_aload_n hx hb dL_law_671 rfl (lv_at hl 2 rfl) ?_
  refine lv_aload_n hx hb dL_law_672 rfl (lv_at hl 0 rfl) ?_
  refine lv_iload_n hx hb dL_law_673 rfl (lv_at hl 3 rfl) ?_
  refine z_iconst hx hb dL_law_674 ?_
  refine z_iadd hx hb dL_law_675 ?_
  refine z_sld X hb hS (i := i + 1) (by omega) (by omega) dL_law_676 ?_
  refine lv_aload_n hx hb dL_law_677 rfl (lv_at hl 0 rfl) ?_
  refine lv_iload_n hx hb dL_law_678 rfl (lv_at hl 3 rfl) ?_
  refine z_iconst hx hb dL_law_679 ?_
  refine z_iadd hx hb dL_law_680 ?_
  refine z_sld X hb hS (i := i + 2) (by omega) (by omega) dL_law_681 ?_
  refine z_cVR (q0 := 0) (ci := 7) (As := [.int (iZ (XS xs (i + 1))), .int (iZ (XS xs (i + 2)))]) (rest := [.int _]) S (m_X8_side l D g b mt (XS xs (i + 1)) (XS xs (i + 2)) hR.im (rg_of _) (rg_of _)) (cwV 2 hts gL_law_X8_side rfl rfl rfl (by decide +kernel) ⟨Nat.le_of_ble_eq_true rfl, Nat.le_of_ble_eq_true rfl⟩) hK hQ rfl rfl rfl hl.1 rfl (Nat.le_of_ble_eq_true rfl) dL_law_682 ⟨Nat.le_of_ble_eq_true rfl, Nat.le_of_ble_eq_true rfl⟩ ?_
  refine lv_icmp_eq (tgt := 880) hx hb dL_law_685 (by decide) (fun _ => ?_) (fun z9 => absurd (congrArg iZ (rl_side hR _ _)) z9)
  exact kend st mt H locs hR hP hQ hS
set_option maxHeartbeats 4000000 in
set_option maxRecDepth 100000 in
theorem lc_length {p : Program} {l : Launch} {e : Env} {s : State} {m : MethodId} {below : List Frame} {meth : Method} {c : Code} {H : Heap} {locs : List Loc} {Q : State → Prop} {D : va_G} {g : Nat → ClassId} {a b : Nat → Nat} {bb L : Nat} {xs : Nat → Int32} {ls : Array Slot} {st mt : SS} {i : Int} (X : LC p s m meth c D g a b bb L xs) (hi : 0 ≤ i ∧ i + 5 ≤ L) (hR : REL st mt) (hP : va_P D vwCl (WC g a st) H) (hQ : va_P D vwCl (WM g b mt) H) (hS : va_S (A0 s) s.heap H locs) (hl : lv_has ls 4 [(0, .ref bb), (1, .ref (a 0)), (2, .ref (b 0)), (3, .int (iZ i))]) (kend : ∀ (u v : SS) (H1 : Heap) (locs1 : List Loc), REL u v → va_P D vwCl (WC g a u) H1 → va_P D vwCl (WM g b v) H1 → va_S (A0 s) s.heap H1 locs1 → W p l e room_1 s m #[Value.ref bb] below meth c H1 locs1 47 1131 Q (F0 m 880 ls [])) : W p l e room_1 s m #[Value.ref bb] below meth c H locs 47 1131 Q (F0 m 690 ls []) := by
  have S := X.call
  have hx := X.1.1
  have hb : c.code = cL_law := X.1.2.1
  have hts := S.2.2.2.2
  have hK := X.2.2.1
  have hA1 : ∀ q, AWC a q → A0 s q := fun q ⟨k, k1, k2⟩ => by rw [k2]; exact X.2.2.2.2.2.2.1 k k1
  have hA2 : ∀ q, AWM b q → A0 s q := fun q ⟨k, k1, k2⟩ => by rw [k2]; exact X.2.2.2.2.2.2.2 k k1
  refine lv_aload_n hx hb dL_law_690 rfl (lv_at hl 1 rfl) ?_
  refine lv_aload_n hx hb dL_law_691 rfl (lv_at hl 0 rfl) ?_
  refine lv_iload_n hx hb dL_law_692 rfl (lv_at hl 3 rfl) ?_
  refine z_iconst hx hb dL_law_693 ?_
  refine z_iadd hx hb dL_law_694 ?_
  refine z_sld X hb hS (i := i + 1) (by omega) (by omega) dL_law_695 ?_
  refine z_cVR (q0 := 0) (ci := 6) (As := [.int (iZ (XS xs (i + 1)))]) (rest := []) S (m_X7_length l D g a st (XS xs (i + 1)) hR.ic (rg_of _)) (cwV 1 hts gL_law_X7_length rfl rfl rfl (by decide +kernel) ⟨Nat.le_of_ble_eq_true rfl, Nat.le_of_ble_eq_true rfl⟩) hK hP rfl rfl rfl hl.1 rfl (Nat.le_of_ble_eq_true rfl) dL_law_696 ⟨Nat.le_of_ble_eq_true rfl, Nat.le_of_ble_eq_true rfl⟩ ?_
  refine lv_aload_n hx hb dL_law_699 rfl (lv_at hl 2 rfl) ?_
  refine lv_aload_n hx hb dL_law_700 rfl (lv_at hl 0 rfl) ?_
  refine lv_iload_n hx hb dL_law_701 rfl (lv_at hl 3 rfl) ?_
  refine z_iconst hx hb dL_law_702 ?_
  refine z_iadd hx hb dL_law_703 ?_
  refine z_sld X hb hS (i := i + 1) (by omega) (by omega) dL_law_704 ?_
  refine z_cVR (q0 := 0) (ci := 7) (As := [.int (iZ (XS xs (i + 1)))]) (rest := [.int _]) S (m_X8_length l D g b mt (XS xs (i + 1)) hR.im (rg_of _)) (cwV 1 hts gL_law_X8_length rfl rfl rfl (by decide +kernel) ⟨Nat.le_of_ble_eq_true rfl, Nat.le_of_ble_eq_true rfl⟩) hK hQ rfl rfl rfl hl.1 rfl (Nat.le_of_ble_eq_true rfl) dL_law_705 ⟨Nat.le_of_ble_eq_true rfl, Nat.le_of_ble_eq_true rfl⟩ ?_
  refine lv_icmp_eq (tgt := 880) hx hb dL_law_708 (by decide) (fun _ => ?_) (fun z9 => absurd (congrArg iZ (rl_length hR _)) z9)
  exact kend st mt H locs hR hP hQ hS
set_option maxHeartbeats 4000000 in
set_option maxRecDepth 100000 in
theorem lc_fewest {p : Program} {l : Launch} {e : Env} {s : State} {m : MethodId} {below : List Frame} {meth : Method} {c : Code} {H : Heap} {locs : List Loc} {Q : State → Prop} {D : va_G} {g : Nat → ClassId} {a b : Nat → Nat} {bb L : Nat} {xs : Nat → Int32} {ls : Array Slot} {st mt : SS} {i : Int} (X : LC p s m meth c D g a b bb L xs) (hi : 0 ≤ i ∧ i + 5 ≤ L) (hR : REL st mt) (hP : va_P D vwCl (WC g a st) H) (hQ : va_P D vwCl (WM g b mt) H) (hS : va_S (A0 s) s.heap H locs) (hl : lv_has ls 4 [(0, .ref bb), (1, .ref (a 0)), (2, .ref (b 0)), (3, .int (iZ i))]) (kend : ∀ (u v : SS) (H1 : Heap) (locs1 : List Loc), REL u v → va_P D vwCl (WC g a u) H1 → va_P D vwCl (WM g b v) H1 → va_S (A0 s) s.heap H1 locs1 → W p l e room_1 s m #[Value.ref bb] below meth c H1 locs1 47 1131 Q (F0 m 880 ls [])) : W p l e room_1 s m #[Value.ref bb] below meth c H locs 47 1131 Q (F0 m 713 ls []) := by
  have S := X.call
  have hx := X.1.1
  have hb : c.code = cL_law := X.1.2.1
  have hts := S.2.2.2.2
  have hK := X.2.2.1
  have hA1 : ∀ q, AWC a q → A0 s q := fun q ⟨k, k1, k2⟩ => by rw [k2]; exact X.2.2.2.2.2.2.1 k k1
  have hA2 : ∀ q, AWM b q → A0 s q := fun q ⟨k, k1, k2⟩ => by rw [k2]; exact X.2.2.2.2.2.2.2 k k1
  refine lv_aload_n hx hb dL_law_713 rfl (lv_at hl 1 rfl) ?_
  refine z_cVI (A0 := A0 s) (q0 := 0) (ci := 6) (As := []) (rest := []) S (m_X7_fewest l D g a st hR.ic hR.ip) (cwV 0 hts gL_law_X7_fewest rfl rfl rfl (by decide +kernel) ⟨Nat.le_of_ble_eq_true rfl, Nat.le_of_ble_eq_true rfl⟩) hK hP (WC_D X.2.2.2.1) hS hA1 rfl rfl rfl hl.1 rfl (Nat.le_of_ble_eq_true rfl) dL_law_714 ⟨Nat.le_of_ble_eq_true rfl, Nat.le_of_ble_eq_true rfl⟩ (fun r1 u H1 locs1 hu hP hS hk => ?_)
  have hQ := keepM X.2.2.2.2.2.1 hQ hk
  refine lv_aload_n hx hb dL_law_717 rfl (lv_at hl 2 rfl) ?_
  refine z_cVI (A0 := A0 s) (q0 := 0) (ci := 7) (As := []) (rest := [.int (iZ r1)]) S (m_X8_fewest l D g b mt hR.im hR.is) (cwV 0 hts gL_law_X8_fewest rfl rfl rfl (by decide +kernel) ⟨Nat.le_of_ble_eq_true rfl, Nat.le_of_ble_eq_true rfl⟩) hK hQ (WM_D X.2.2.2.2.1) hS hA2 rfl rfl rfl hl.1 rfl (Nat.le_of_ble_eq_true rfl) dL_law_718 ⟨Nat.le_of_ble_eq_true rfl, Nat.le_of_ble_eq_true rfl⟩ (fun r2 v H2 locs2 hv hQ hS hk => ?_)
  have hP := keepC X.2.2.2.2.2.1 hP hk
  have hkp := kp_fewest hR hu hv
  refine lv_icmp_eq (tgt := 880) hx hb dL_law_721 (by decide) (fun _ => ?_) (fun z9 => absurd (congrArg iZ hkp.1) z9)
  exact kend u v H2 locs2 hkp.2 hP hQ hS
set_option maxHeartbeats 4000000 in
set_option maxRecDepth 100000 in
theorem lc_plan {p : Program} {l : Launch} {e : Env} {s : State} {m : MethodId} {below : List Frame} {meth : Method} {c : Code} {H : Heap} {locs : List Loc} {Q : State → Prop} {D : va_G} {g : Nat → ClassId} {a b : Nat → Nat} {bb L : Nat} {xs : Nat → Int32} {ls : Array Slot} {st mt : SS} {i : Int} (X : LC p s m meth c D g a b bb L xs) (hi : 0 ≤ i ∧ i + 5 ≤ L) (hR : REL st mt) (hP : va_P D vwCl (WC g a st) H) (hQ : va_P D vwCl (WM g b mt) H) (hS : va_S (A0 s) s.heap H locs) (hl : lv_has ls 4 [(0, .ref bb), (1, .ref (a 0)), (2, .ref (b 0)), (3, .int (iZ i))]) (kend : ∀ (u v : SS) (H1 : Heap) (locs1 : List Loc), REL u v → va_P D vwCl (WC g a u) H1 → va_P D vwCl (WM g b v) H1 → va_S (A0 s) s.heap H1 locs1 → W p l e room_1 s m #[Value.ref bb] below meth c H1 locs1 47 1131 Q (F0 m 880 ls [])) : W p l e room_1 s m #[Value.ref bb] below meth c H locs 47 1131 Q (F0 m 726 ls []) := by
  have S := X.call
  have hx := X.1.1
  have hb : c.code = cL_law := X.1.2.1
  have hts := S.2.2.2.2
  have hK := X.2.2.1
  have hA1 : ∀ q, AWC a q → A0 s q := fun q ⟨k, k1, k2⟩ => by rw [k2]; exact X.2.2.2.2.2.2.1 k k1
  have hA2 : ∀ q, AWM b q → A0 s q := fun q ⟨k, k1, k2⟩ => by rw [k2]; exact X.2.2.2.2.2.2.2 k k1
  refine lv_aload_n hx hb dL_law_726 rfl (lv_at hl 1 rfl) ?_
  refine lv_aload_n hx hb dL_law_727 rfl (lv_at hl 0 rfl) ?_
  refine lv_iload_n hx hb dL_law_728 rfl (lv_at hl 3 rfl) ?_
  refine z_iconst hx hb dL_law_729 ?_
  refine z_iadd hx hb dL_law_730 ?_
  refine z_sld X hb hS (i := i + 1) (by omega) (by omega) dL_law_731 ?_
  refine z_cVI (A0 := A0 s) (q0 := 0) (ci := 6) (As := [.int (iZ (XS xs (i + 1)))]) (rest := []) S (m_X7_plan l D g a st (XS xs (i + 1)) hR.ic hR.ip (rg_of _)) (cwV 1 hts gL_law_X7_plan rfl rfl rfl (by decide +kernel) ⟨Nat.le_of_ble_eq_true rfl, Nat.le_of_ble_eq_true rfl⟩) hK hP (WC_D X.2.2.2.1) hS hA1 rfl rfl rfl hl.1 rfl (Nat.le_of_ble_eq_true rfl) dL_law_732 ⟨Nat.le_of_ble_eq_true rfl, Nat.le_of_ble_eq_true rfl⟩ (fun r1 u H1 locs1 hu hP hS hk => ?_)
  have hQ := keepM X.2.2.2.2.2.1 hQ hk
  refine lv_aload_n hx hb dL_law_735 rfl (lv_at hl 2 rfl) ?_
  refine lv_aload_n hx hb dL_law_736 rfl (lv_at hl 0 rfl) ?_
  refine lv_iload_n hx hb dL_law_737 rfl (lv_at hl 3 rfl) ?_
  refine z_iconst hx hb dL_law_738 ?_
  refine z_iadd hx hb dL_law_739 ?_
  refine z_sld X hb hS (i := i + 1) (by omega) (by omega) dL_law_740 ?_
  refine z_cVI (A0 := A0 s) (q0 := 0) (ci := 7) (As := [.int (iZ (XS xs (i + 1)))]) (rest := [.int (iZ r1)]) S (m_X8_plan l D g b mt (XS xs (i + 1)) hR.im hR.is (rg_of _)) (cwV 1 hts gL_law_X8_plan rfl rfl rfl (by decide +kernel) ⟨Nat.le_of_ble_eq_true rfl, Nat.le_of_ble_eq_true rfl⟩) hK hQ (WM_D X.2.2.2.2.1) hS hA2 rfl rfl rfl hl.1 rfl (Nat.le_of_ble_eq_true rfl) dL_law_741 ⟨Nat.le_of_ble_eq_true rfl, Nat.le_of_ble_eq_true rfl⟩ (fun r2 v H2 locs2 hv hQ hS hk => ?_)
  have hP := keepC X.2.2.2.2.2.1 hP hk
  have hkp := kp_plan hR hu hv
  refine lv_icmp_eq (tgt := 880) hx hb dL_law_744 (by decide) (fun _ => ?_) (fun z9 => absurd (congrArg iZ hkp.1) z9)
  exact kend u v H2 locs2 hkp.2 hP hQ hS
set_option maxHeartbeats 4000000 in
set_option maxRecDepth 100000 in
theorem lc_swings {p : Program} {l : Launch} {e : Env} {s : State} {m : MethodId} {below : List Frame} {meth : Method} {c : Code} {H : Heap} {locs : List Loc} {Q : State → Prop} {D : va_G} {g : Nat → ClassId} {a b : Nat → Nat} {bb L : Nat} {xs : Nat → Int32} {ls : Array Slot} {st mt : SS} {i : Int} (X : LC p s m meth c D g a b bb L xs) (hi : 0 ≤ i ∧ i + 5 ≤ L) (hR : REL st mt) (hP : va_P D vwCl (WC g a st) H) (hQ : va_P D vwCl (WM g b mt) H) (hS : va_S (A0 s) s.heap H locs) (hl : lv_has ls 4 [(0, .ref bb), (1, .ref (a 0)), (2, .ref (b 0)), (3, .int (iZ i))]) (kend : ∀ (u v : SS) (H1 : Heap) (locs1 : List Loc), REL u v → va_P D vwCl (WC g a u) H1 → va_P D vwCl (WM g b v) H1 → va_S (A0 s) s.heap H1 locs1 → W p l e room_1 s m #[Value.ref bb] below meth c H1 locs1 47 1131 Q (F0 m 880 ls [])) : W p l e room_1 s m #[Value.ref bb] below meth c H locs 47 1131 Q (F0 m 749 ls []) := by
  have S := X.call
  have hx := X.1.1
  have hb : c.code = cL_law := X.1.2.1
  have hts := S.2.2.2.2
  have hK := X.2.2.1
  have hA1 : ∀ q, AWC a q → A0 s q := fun q ⟨k, k1, k2⟩ => by rw [k2]; exact X.2.2.2.2.2.2.1 k k1
  have hA2 : ∀ q, AWM b q → A0 s q := fun q ⟨k, k1, k2⟩ => by rw [k2]; exact X.2.2.2.2.2.2.2 k k1
  refine lv_aload_n hx hb dL_law_749 rfl (lv_at hl 1 rfl) ?_
  refine z_cVI (A0 := A0 s) (q0 := 0) (ci := 6) (As := []) (rest := []) S (m_X7_swings l D g a st hR.ic hR.ip) (cwV 0 hts gL_law_X7_swings rfl rfl rfl (by decide +kernel) ⟨Nat.le_of_ble_eq_true rfl, Nat.le_of_ble_eq_true rfl⟩) hK hP (WC_D X.2.2.2.1) hS hA1 rfl rfl rfl hl.1 rfl (Nat.le_of_ble_eq_true rfl) dL_law_750 ⟨Nat.le_of_ble_eq_true rfl, Nat.le_of_ble_eq_true rfl⟩ (fun r1 u H1 locs1 hu hP hS hk => ?_)
  have hQ := keepM X.2.2.2.2.2.1 hQ hk
  refine lv_aload_n hx hb dL_law_753 rfl (lv_at hl 2 rfl) ?_
  refine z_cVI (A0 := A0 s) (q0 := 0) (ci := 7) (As := []) (rest := [.int (iZ r1)]) S (m_X8_swings l D g b mt hR.im hR.is) (cwV 0 hts gL_law_X8_swings rfl rfl rfl (by decide +kernel) ⟨Nat.le_of_ble_eq_true rfl, Nat.le_of_ble_eq_true rfl⟩) hK hQ (WM_D X.2.2.2.2.1) hS hA2 rfl rfl rfl hl.1 rfl (Nat.le_of_ble_eq_true rfl) dL_law_754 ⟨Nat.le_of_ble_eq_true rfl, Nat.le_of_ble_eq_true rfl⟩ (fun r2 v H2 locs2 hv hQ hS hk => ?_)
  have hP := keepC X.2.2.2.2.2.1 hP hk
  have hkp := kp_swings hR hu hv
  refine lv_icmp_eq (tgt := 880) hx hb dL_law_757 (by decide) (fun _ => ?_) (fun z9 => absurd (congrArg iZ hkp.1) z9)
  exact kend u v H2 locs2 hkp.2 hP hQ hS
set_option maxHeartbeats 4000000 in
set_option maxRecDepth 100000 in
theorem lc_order {p : Program} {l : Launch} {e : Env} {s : State} {m : MethodId} {below : List Frame} {meth : Method} {c : Code} {H : Heap} {locs : List Loc} {Q : State → Prop} {D : va_G} {g : Nat → ClassId} {a b : Nat → Nat} {bb L : Nat} {xs : Nat → Int32} {ls : Array Slot} {st mt : SS} {i : Int} (X : LC p s m meth c D g a b bb L xs) (hi : 0 ≤ i ∧ i + 5 ≤ L) (hR : REL st mt) (hP : va_P D vwCl (WC g a st) H) (hQ : va_P D vwCl (WM g b mt) H) (hS : va_S (A0 s) s.heap H locs) (hl : lv_has ls 4 [(0, .ref bb), (1, .ref (a 0)), (2, .ref (b 0)), (3, .int (iZ i))]) (kend : ∀ (u v : SS) (H1 : Heap) (locs1 : List Loc), REL u v → va_P D vwCl (WC g a u) H1 → va_P D vwCl (WM g b v) H1 → va_S (A0 s) s.heap H1 locs1 → W p l e room_1 s m #[Value.ref bb] below meth c H1 locs1 47 1131 Q (F0 m 880 ls [])) : W p l e room_1 s m #[Value.ref bb] below meth c H locs 47 1131 Q (F0 m 762 ls []) := by
  have S := X.call
  have hx := X.1.1
  have hb : c.code = cL_law := X.1.2.1
  have hts := S.2.2.2.2
  have hK := X.2.2.1
  have hA1 : ∀ q, AWC a q → A0 s q := fun q ⟨k, k1, k2⟩ => by rw [k2]; exact X.2.2.2.2.2.2.1 k k1
  have hA2 : ∀ q, AWM b q → A0 s q := fun q ⟨k, k1, k2⟩ => by rw [k2]; exact X.2.2.2.2.2.2.2 k k1
  refine lv_aload_n hx hb dL_law_762 rfl (lv_at hl 1 rfl) ?_
  refine lv_aload_n hx hb dL_law_763 rfl (lv_at hl 0 rfl) ?_
  refine lv_iload_n hx hb dL_law_764 rfl (lv_at hl 3 rfl) ?_
  refine z_iconst hx hb dL_law_765 ?_
  refine z_iadd hx hb dL_law_766 ?_
  refine z_sld X hb hS (i := i + 1) (by omega) (by omega) dL_law_767 ?_
  refine z_cVI (A0 := A0 s) (q0 := 0) (ci := 6) (As := [.int (iZ (XS xs (i + 1)))]) (rest := []) S (m_X7_order l D g a st (XS xs (i + 1)) hR.ic hR.ip (rg_of _)) (cwV 1 hts gL_law_X7_order rfl rfl rfl (by decide +kernel) ⟨Nat.le_of_ble_eq_true rfl, Nat.le_of_ble_eq_true rfl⟩) hK hP (WC_D X.2.2.2.1) hS hA1 rfl rfl rfl hl.1 rfl (Nat.le_of_ble_eq_true rfl) dL_law_768 ⟨Nat.le_of_ble_eq_true rfl, Nat.le_of_ble_eq_true rfl⟩ (fun r1 u H1 locs1 hu hP hS hk => ?_)
  have hQ := keepM X.2.2.2.2.2.1 hQ hk
  refine lv_aload_n hx hb dL_law_771 rfl (lv_at hl 2 rfl) ?_
  refine lv_aload_n hx hb dL_law_772 rfl (lv_at hl 0 rfl) ?_
  refine lv_iload_n hx hb dL_law_773 rfl (lv_at hl 3 rfl) ?_
  refine z_iconst hx hb dL_law_774 ?_
  refine z_iadd hx hb dL_law_775 ?_
  refine z_sld X hb hS (i := i + 1) (by omega) (by omega) dL_law_776 ?_
  refine z_cVI (A0 := A0 s) (q0 := 0) (ci := 7) (As := [.int (iZ (XS xs (i + 1)))]) (rest := [.int (iZ r1)]) S (m_X8_order l D g b mt (XS xs (i + 1)) hR.im hR.is (rg_of _)) (cwV 1 hts gL_law_X8_order rfl rfl rfl (by decide +kernel) ⟨Nat.le_of_ble_eq_true rfl, Nat.le_of_ble_eq_true rfl⟩) hK hQ (WM_D X.2.2.2.2.1) hS hA2 rfl rfl rfl hl.1 rfl (Nat.le_of_ble_eq_true rfl) dL_law_777 ⟨Nat.le_of_ble_eq_true rfl, Nat.le_of_ble_eq_true rfl⟩ (fun r2 v H2 locs2 hv hQ hS hk => ?_)
  have hP := keepC X.2.2.2.2.2.1 hP hk
  have hkp := kp_order hR hu hv
  refine lv_icmp_eq (tgt := 880) hx hb dL_law_780 (by decide) (fun _ => ?_) (fun z9 => absurd (congrArg iZ hkp.1) z9)
  exact kend u v H2 locs2 hkp.2 hP hQ hS
set_option maxHeartbeats 4000000 in
set_option maxRecDepth 100000 in
theorem lc_crossings {p : Program} {l : Launch} {e : Env} {s : State} {m : MethodId} {below : List Frame} {meth : Method} {c : Code} {H : Heap} {locs : List Loc} {Q : State → Prop} {D : va_G} {g : Nat → ClassId} {a b : Nat → Nat} {bb L : Nat} {xs : Nat → Int32} {ls : Array Slot} {st mt : SS} {i : Int} (X : LC p s m meth c D g a b bb L xs) (hi : 0 ≤ i ∧ i + 5 ≤ L) (hR : REL st mt) (hP : va_P D vwCl (WC g a st) H) (hQ : va_P D vwCl (WM g b mt) H) (hS : va_S (A0 s) s.heap H locs) (hl : lv_has ls 4 [(0, .ref bb), (1, .ref (a 0)), (2, .ref (b 0)), (3, .int (iZ i))]) (kend : ∀ (u v : SS) (H1 : Heap) (locs1 : List Loc), REL u v → va_P D vwCl (WC g a u) H1 → va_P D vwCl (WM g b v) H1 → va_S (A0 s) s.heap H1 locs1 → W p l e room_1 s m #[Value.ref bb] below meth c H1 locs1 47 1131 Q (F0 m 880 ls [])) : W p l e room_1 s m #[Value.ref bb] below meth c H locs 47 1131 Q (F0 m 785 ls []) := by
  have S := X.call
  have hx := X.1.1
  have hb : c.code = cL_law := X.1.2.1
  have hts := S.2.2.2.2
  have hK := X.2.2.1
  have hA1 : ∀ q, AWC a q → A0 s q := fun q ⟨k, k1, k2⟩ => by rw [k2]; exact X.2.2.2.2.2.2.1 k k1
  have hA2 : ∀ q, AWM b q → A0 s q := fun q ⟨k, k1, k2⟩ => by rw [k2]; exact X.2.2.2.2.2.2.2 k k1
  have htd : ∀ i, 0 ≤ i → i < mt 0 5 → mt 16 i < mt 0 2 := fun i x y => by have d := hR.b.2.2; have d5 := hR.b.1.2.2.2.2; rw [← d, ← d5]; exact hR.ic.td i x (by rw [d]; exact y)
  refine lv_aload_n hx hb dL_law_785 rfl (lv_at hl 1 rfl) ?_
  refine z_cVI (A0 := A0 s) (q0 := 0) (ci := 6) (As := []) (rest := []) S (m_X7_crossings l D g a st hR.ic) (cwV 0 hts gL_law_X7_crossings rfl rfl rfl (by decide +kernel) ⟨Nat.le_of_ble_eq_true rfl, Nat.le_of_ble_eq_true rfl⟩) hK hP (WC_D X.2.2.2.1) hS hA1 rfl rfl rfl hl.1 rfl (Nat.le_of_ble_eq_true rfl) dL_law_786 ⟨Nat.le_of_ble_eq_true rfl, Nat.le_of_ble_eq_true rfl⟩ (fun r1 u H1 locs1 hu hP hS hk => ?_)
  have hQ := keepM X.2.2.2.2.2.1 hQ hk
  refine lv_aload_n hx hb dL_law_789 rfl (lv_at hl 2 rfl) ?_
  refine z_cVI (A0 := A0 s) (q0 := 0) (ci := 7) (As := []) (rest := [.int (iZ r1)]) S (m_X8_crossings l D g b mt hR.im htd) (cwV 0 hts gL_law_X8_crossings rfl rfl rfl (by decide +kernel) ⟨Nat.le_of_ble_eq_true rfl, Nat.le_of_ble_eq_true rfl⟩) hK hQ (WM_D X.2.2.2.2.1) hS hA2 rfl rfl rfl hl.1 rfl (Nat.le_of_ble_eq_true rfl) dL_law_790 ⟨Nat.le_of_ble_eq_true rfl, Nat.le_of_ble_eq_true rfl⟩ (fun r2 v H2 locs2 hv hQ hS hk => ?_)
  have hP := keepC X.2.2.2.2.2.1 hP hk
  have hkp := kp_crossings hR hu hv
  refine lv_icmp_eq (tgt := 880) hx hb dL_law_793 (by decide) (fun _ => ?_) (fun z9 => absurd (congrArg iZ hkp.1) z9)
  exact kend u v H2 locs2 hkp.2 hP hQ hS
set_option maxHeartbeats 4000000 in
set_option maxRecDepth 100000 in
theorem lc_list {p : Program} {l : Launch} {e : Env} {s : State} {m : MethodId} {below : List Frame} {meth : Method} {c : Code} {H : Heap} {locs : List Loc} {Q : State → Prop} {D : va_G} {g : Nat → ClassId} {a b : Nat → Nat} {bb L : Nat} {xs : Nat → Int32} {ls : Array Slot} {st mt : SS} {i : Int} (X : LC p s m meth c D g a b bb L xs) (hi : 0 ≤ i ∧ i + 5 ≤ L) (hR : REL st mt) (hP : va_P D vwCl (WC g a st) H) (hQ : va_P D vwCl (WM g b mt) H) (hS : va_S (A0 s) s.heap H locs) (hl : lv_has ls 4 [(0, .ref bb), (1, .ref (a 0)), (2, .ref (b 0)), (3, .int (iZ i))]) (kend : ∀ (u v : SS) (H1 : Heap) (locs1 : List Loc), REL u v → va_P D vwCl (WC g a u) H1 → va_P D vwCl (WM g b v) H1 → va_S (A0 s) s.heap H1 locs1 → W p l e room_1 s m #[Value.ref bb] below meth c H1 locs1 47 1131 Q (F0 m 880 ls [])) : W p l e room_1 s m #[Value.ref bb] below meth c H locs 47 1131 Q (F0 m 798 ls []) := by
  have S := X.call
  have hx := X.1.1
  have hb : c.code = cL_law := X.1.2.1
  have hts := S.2.2.2.2
  have hK := X.2.2.1
  have hA1 : ∀ q, AWC a q → A0 s q := fun q ⟨k, k1, k2⟩ => by rw [k2]; exact X.2.2.2.2.2.2.1 k k1
  have hA2 : ∀ q, AWM b q → A0 s q := fun q ⟨k, k1, k2⟩ => by rw [k2]; exact X.2.2.2.2.2.2.2 k k1
  refine lv_aload_n hx hb dL_law_798 rfl (lv_at hl 1 rfl) ?_
  refine lv_aload_n hx hb dL_law_799 rfl (lv_at hl 0 rfl) ?_
  refine lv_iload_n hx hb dL_law_800 rfl (lv_at hl 3 rfl) ?_
  refine z_iconst hx hb dL_law_801 ?_
  refine z_iadd hx hb dL_law_802 ?_
  refine z_sld X hb hS (i := i + 1) (by omega) (by omega) dL_law_803 ?_
  refine z_cVI (A0 := A0 s) (q0 := 0) (ci := 6) (As := [.int (iZ (XS xs (i + 1)))]) (rest := []) S (m_X7_list l D g a st (XS xs (i + 1)) hR.ic (rg_of _)) (cwV 1 hts gL_law_X7_list rfl rfl rfl (by decide +kernel) ⟨Nat.le_of_ble_eq_true rfl, Nat.le_of_ble_eq_true rfl⟩) hK hP (WC_D X.2.2.2.1) hS hA1 rfl rfl rfl hl.1 rfl (Nat.le_of_ble_eq_true rfl) dL_law_804 ⟨Nat.le_of_ble_eq_true rfl, Nat.le_of_ble_eq_true rfl⟩ (fun r1 u H1 locs1 hu hP hS hk => ?_)
  have hQ := keepM X.2.2.2.2.2.1 hQ hk
  refine lv_aload_n hx hb dL_law_807 rfl (lv_at hl 2 rfl) ?_
  refine lv_aload_n hx hb dL_law_808 rfl (lv_at hl 0 rfl) ?_
  refine lv_iload_n hx hb dL_law_809 rfl (lv_at hl 3 rfl) ?_
  refine z_iconst hx hb dL_law_810 ?_
  refine z_iadd hx hb dL_law_811 ?_
  refine z_sld X hb hS (i := i + 1) (by omega) (by omega) dL_law_812 ?_
  refine z_cVI (A0 := A0 s) (q0 := 0) (ci := 7) (As := [.int (iZ (XS xs (i + 1)))]) (rest := [.int (iZ r1)]) S (m_X8_list l D g b mt (XS xs (i + 1)) hR.im (rg_of _)) (cwV 1 hts gL_law_X8_list rfl rfl rfl (by decide +kernel) ⟨Nat.le_of_ble_eq_true rfl, Nat.le_of_ble_eq_true rfl⟩) hK hQ (WM_D X.2.2.2.2.1) hS hA2 rfl rfl rfl hl.1 rfl (Nat.le_of_ble_eq_true rfl) dL_law_813 ⟨Nat.le_of_ble_eq_true rfl, Nat.le_of_ble_eq_true rfl⟩ (fun r2 v H2 locs2 hv hQ hS hk => ?_)
  have hP := keepC X.2.2.2.2.2.1 hP hk
  have hkp := kp_list hR hu hv
  refine lv_icmp_eq (tgt := 880) hx hb dL_law_816 (by decide) (fun _ => ?_) (fun z9 => absurd (congrArg iZ hkp.1) z9)
  exact kend u v H2 locs2 hkp.2 hP hQ hS
set_option maxHeartbeats 4000000 in
set_option maxRecDepth 100000 in
theorem lc_run {p : Program} {l : Launch} {e : Env} {s : State} {m : MethodId} {below : List Frame} {meth : Method} {c : Code} {H : Heap} {locs : List Loc} {Q : State → Prop} {D : va_G} {g : Nat → ClassId} {a b : Nat → Nat} {bb L : Nat} {xs : Nat → Int32} {ls : Array Slot} {st mt : SS} {i : Int} (X : LC p s m meth c D g a b bb L xs) (hi : 0 ≤ i ∧ i + 5 ≤ L) (hR : REL st mt) (hP : va_P D vwCl (WC g a st) H) (hQ : va_P D vwCl (WM g b mt) H) (hS : va_S (A0 s) s.heap H locs) (hl : lv_has ls 4 [(0, .ref bb), (1, .ref (a 0)), (2, .ref (b 0)), (3, .int (iZ i))]) (kend : ∀ (u v : SS) (H1 : Heap) (locs1 : List Loc), REL u v → va_P D vwCl (WC g a u) H1 → va_P D vwCl (WM g b v) H1 → va_S (A0 s) s.heap H1 locs1 → W p l e room_1 s m #[Value.ref bb] below meth c H1 locs1 47 1131 Q (F0 m 880 ls [])) : W p l e room_1 s m #[Value.ref bb] below meth c H locs 47 1131 Q (F0 m 821 ls []) := by
  have S := X.call
  have hx := X.1.1
  have hb : c.code = cL_law := X.1.2.1
  have hts := S.2.2.2.2
  have hK := X.2.2.1
  have hA1 : ∀ q, AWC a q → A0 s q := fun q ⟨k, k1, k2⟩ => by rw [k2]; exact X.2.2.2.2.2.2.1 k k1
  have hA2 : ∀ q, AWM b q → A0 s q := fun q ⟨k, k1, k2⟩ => by rw [k2]; exact X.2.2.2.2.2.2.2 k k1
  refine lv_aload_n hx hb dL_law_821 rfl (lv_at hl 1 rfl) ?_
  refine z_cVR (q0 := 0) (ci := 6) (As := []) (rest := []) S (m_X7_run l D g a st hR.ic) (cwV 0 hts gL_law_X7_run rfl rfl rfl (by decide +kernel) ⟨Nat.le_of_ble_eq_true rfl, Nat.le_of_ble_eq_true rfl⟩) hK hP rfl rfl rfl hl.1 rfl (Nat.le_of_ble_eq_true rfl) dL_law_822 ⟨Nat.le_of_ble_eq_true rfl, Nat.le_of_ble_eq_true rfl⟩ ?_
  refine lv_aload_n hx hb dL_law_825 rfl (lv_at hl 2 rfl) ?_
  refine z_cVR (q0 := 0) (ci := 7) (As := []) (rest := [.int _]) S (m_X8_run l D g b mt hR.im) (cwV 0 hts gL_law_X8_run rfl rfl rfl (by decide +kernel) ⟨Nat.le_of_ble_eq_true rfl, Nat.le_of_ble_eq_true rfl⟩) hK hQ rfl rfl rfl hl.1 rfl (Nat.le_of_ble_eq_true rfl) dL_law_826 ⟨Nat.le_of_ble_eq_true rfl, Nat.le_of_ble_eq_true rfl⟩ ?_
  refine lv_icmp_eq (tgt := 880) hx hb dL_law_829 (by decide) (fun _ => ?_) (fun z9 => absurd (congrArg iZ (rl_run hR)) z9)
  exact kend st mt H locs hR hP hQ hS
set_option maxHeartbeats 4000000 in
set_option maxRecDepth 100000 in
theorem lc_frame {p : Program} {l : Launch} {e : Env} {s : State} {m : MethodId} {below : List Frame} {meth : Method} {c : Code} {H : Heap} {locs : List Loc} {Q : State → Prop} {D : va_G} {g : Nat → ClassId} {a b : Nat → Nat} {bb L : Nat} {xs : Nat → Int32} {ls : Array Slot} {st mt : SS} {i : Int} (X : LC p s m meth c D g a b bb L xs) (hi : 0 ≤ i ∧ i + 5 ≤ L) (hR : REL st mt) (hP : va_P D vwCl (WC g a st) H) (hQ : va_P D vwCl (WM g b mt) H) (hS : va_S (A0 s) s.heap H locs) (hl : lv_has ls 4 [(0, .ref bb), (1, .ref (a 0)), (2, .ref (b 0)), (3, .int (iZ i))]) (kend : ∀ (u v : SS) (H1 : Heap) (locs1 : List Loc), REL u v → va_P D vwCl (WC g a u) H1 → va_P D vwCl (WM g b v) H1 → va_S (A0 s) s.heap H1 locs1 → W p l e room_1 s m #[Value.ref bb] below meth c H1 locs1 47 1131 Q (F0 m 880 ls [])) : W p l e room_1 s m #[Value.ref bb] below meth c H locs 47 1131 Q (F0 m 834 ls []) := by
  have S := X.call
  have hx := X.1.1
  have hb : c.code = cL_law := X.1.2.1
  have hts := S.2.2.2.2
  have hK := X.2.2.1
  have hA1 : ∀ q, AWC a q → A0 s q := fun q ⟨k, k1, k2⟩ => by rw [k2]; exact X.2.2.2.2.2.2.1 k k1
  have hA2 : ∀ q, AWM b q → A0 s q := fun q ⟨k, k1, k2⟩ => by rw [k2]; exact X.2.2.2.2.2.2.2 k k1
  refine lv_aload_n hx hb dL_law_834 rfl (lv_at hl 1 rfl) ?_
  refine lv_aload_n hx hb dL_law_835 rfl (lv_at hl 0 rfl) ?_
  refine lv_iload_n hx hb dL_law_836 rfl (lv_at hl 3 rfl) ?_
  refine z_iconst hx hb dL_law_837 ?_
  refine z_iadd hx hb dL_law_838 ?_
  refine z_sld X hb hS (i := i + 1) (by omega) (by omega) dL_law_839 ?_
  refine z_cVR (q0 := 0) (ci := 6) (As := [.int (iZ (XS xs (i + 1)))]) (rest := []) S (m_X7_frame l D g a st (XS xs (i + 1)) hR.ic (rg_of _)) (cwV 1 hts gL_law_X7_frame rfl rfl rfl (by decide +kernel) ⟨Nat.le_of_ble_eq_true rfl, Nat.le_of_ble_eq_true rfl⟩) hK hP rfl rfl rfl hl.1 rfl (Nat.le_of_ble_eq_true rfl) dL_law_840 ⟨Nat.le_of_ble_eq_true rfl, Nat.le_of_ble_eq_true rfl⟩ ?_
  refine lv_aload_n hx hb dL_law_843 rfl (lv_at hl 2 rfl) ?_
  refine lv_aload_n hx hb dL_law_844 rfl (lv_at hl 0 rfl) ?_
  refine lv_iload_n hx hb dL_law_845 rfl (lv_at hl 3 rfl) ?_
  refine z_iconst hx hb dL_law_846 ?_
  refine z_iadd hx hb dL_law_847 ?_
  refine z_sld X hb hS (i := i + 1) (by omega) (by omega) dL_law_848 ?_
  refine z_cVR (q0 := 0) (ci := 7) (As := [.int (iZ (XS xs (i + 1)))]) (rest := [.int _]) S (m_X8_frame l D g b mt (XS xs (i + 1)) hR.im (rg_of _)) (cwV 1 hts gL_law_X8_frame rfl rfl rfl (by decide +kernel) ⟨Nat.le_of_ble_eq_true rfl, Nat.le_of_ble_eq_true rfl⟩) hK hQ rfl rfl rfl hl.1 rfl (Nat.le_of_ble_eq_true rfl) dL_law_849 ⟨Nat.le_of_ble_eq_true rfl, Nat.le_of_ble_eq_true rfl⟩ ?_
  refine lv_icmp_eq (tgt := 880) hx hb dL_law_852 (by decide) (fun _ => ?_) (fun z9 => absurd (congrArg iZ (rl_frame hR _)) z9)
  exact kend st mt H locs hR hP hQ hS
set_option maxHeartbeats 4000000 in
set_option maxRecDepth 100000 in
theorem lc_count {p : Program} {l : Launch} {e : Env} {s : State} {m : MethodId} {below : List Frame} {meth : Method} {c : Code} {H : Heap} {locs : List Loc} {Q : State → Prop} {D : va_G} {g : Nat → ClassId} {a b : Nat → Nat} {bb L : Nat} {xs : Nat → Int32} {ls : Array Slot} {st mt : SS} {i : Int} (X : LC p s m meth c D g a b bb L xs) (hi : 0 ≤ i ∧ i + 5 ≤ L) (hR : REL st mt) (hP : va_P D vwCl (WC g a st) H) (hQ : va_P D vwCl (WM g b mt) H) (hS : va_S (A0 s) s.heap H locs) (hl : lv_has ls 4 [(0, .ref bb), (1, .ref (a 0)), (2, .ref (b 0)), (3, .int (iZ i))]) (kend : ∀ (u v : SS) (H1 : Heap) (locs1 : List Loc), REL u v → va_P D vwCl (WC g a u) H1 → va_P D vwCl (WM g b v) H1 → va_S (A0 s) s.heap H1 locs1 → W p l e room_1 s m #[Value.ref bb] below meth c H1 locs1 47 1131 Q (F0 m 880 ls [])) : W p l e room_1 s m #[Value.ref bb] below meth c H locs 47 1131 Q (F0 m 857 ls []) := by
  have S := X.call
  have hx := X.1.1
  have hb : c.code = cL_law := X.1.2.1
  have hts := S.2.2.2.2
  have hK := X.2.2.1
  have hA1 : ∀ q, AWC a q → A0 s q := fun q ⟨k, k1, k2⟩ => by rw [k2]; exact X.2.2.2.2.2.2.1 k k1
  have hA2 : ∀ q, AWM b q → A0 s q := fun q ⟨k, k1, k2⟩ => by rw [k2]; exact X.2.2.2.2.2.2.2 k k1
  refine lv_aload_n hx hb dL_law_857 rfl (lv_at hl 1 rfl) ?_
  refine lv_aload_n hx hb dL_law_858 rfl (lv_at hl 0 rfl) ?_
  refine lv_iload_n hx hb dL_law_859 rfl (lv_at hl 3 rfl) ?_
  refine z_iconst hx hb dL_law_860 ?_
  refine z_iadd hx hb dL_law_861 ?_
  refine z_sld X hb hS (i := i + 1) (by omega) (by omega) dL_law_862 ?_
  refine z_cVR (q0 := 0) (ci := 6) (As := [.int (iZ (XS xs (i + 1)))]) (rest := []) S (m_X7_count l D g a st (XS xs (i + 1)) (rg_of _)) (cwV 1 hts gL_law_X7_count rfl rfl rfl (by decide +kernel) ⟨Nat.le_of_ble_eq_true rfl, Nat.le_of_ble_eq_true rfl⟩) hK hP rfl rfl rfl hl.1 rfl (Nat.le_of_ble_eq_true rfl) dL_law_863 ⟨Nat.le_of_ble_eq_true rfl, Nat.le_of_ble_eq_true rfl⟩ ?_
  refine lv_aload_n hx hb dL_law_866 rfl (lv_at hl 2 rfl) ?_
  refine lv_aload_n hx hb dL_law_867 rfl (lv_at hl 0 rfl) ?_
  refine lv_iload_n hx hb dL_law_868 rfl (lv_at hl 3 rfl) ?_
  refine z_iconst hx hb dL_law_869 ?_
  refine z_iadd hx hb dL_law_870 ?_
  refine z_sld X hb hS (i := i + 1) (by omega) (by omega) dL_law_871 ?_
  refine z_cVR (q0 := 0) (ci := 7) (As := [.int (iZ (XS xs (i + 1)))]) (rest := [.int _]) S (m_X8_count l D g b mt (XS xs (i + 1)) (rg_of _)) (cwV 1 hts gL_law_X8_count rfl rfl rfl (by decide +kernel) ⟨Nat.le_of_ble_eq_true rfl, Nat.le_of_ble_eq_true rfl⟩) hK hQ rfl rfl rfl hl.1 rfl (Nat.le_of_ble_eq_true rfl) dL_law_872 ⟨Nat.le_of_ble_eq_true rfl, Nat.le_of_ble_eq_true rfl⟩ ?_
  refine lv_icmp_eq (tgt := 880) hx hb dL_law_875 (by decide) (fun _ => ?_) (fun z9 => absurd (congrArg iZ (rl_count hR _)) z9)
  exact kend st mt H locs hR hP hQ hS

